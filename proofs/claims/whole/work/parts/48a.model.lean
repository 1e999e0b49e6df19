/-! the reference: a node's name; once -/
def mnd2 (o f : Int) (c : gC) : gC := mfi (decide (f = o)) c 3
def mnd1 (b : Nat) (o f : Int) (c : gC) : Int × gC := (f, mon (mnd2 o f (mfi (decide (f = -1)) c 4)))
def mnd (b : Nat) (o : Int) (c : gC) : Int × gC := mnd1 b o (mfn (mnh c).2 b (mnh c).1) (mnh c).2
def mnc3 (k : Int) (c : gC) : gC := mon (gu c 500001 23 (zor (c 500001 23) (zshl 1 k)))
def mnc2 (k : Int) (c : gC) : gC := mnc3 k (if tb (c 500001 23) k = true then mfl c 3 else c)
theorem MX_nd1 {b : Nat} {c m : gC} {o f : Int} (hb : b < 200002) (h : MX b c m) : MX b c (mnd1 b o f m).2 := MX_mon hb (MX_fi hb (MX_fi hb h (by decide)) (by decide))
theorem MX_nde {b : Nat} {c m : gC} {o : Int} (hb : b < 200002) (h : MX b c m) : MX b c (mnd b o m).2 := MX_nd1 hb (MX_nh hb h)
theorem MX_p {b : Nat} {c m : gC} {j z : Int} (hb : b < 200002) (h : MX b c m) (hj : 20 ≤ j ∧ j ≤ 23) (hz : -2147483648 ≤ z ∧ z < 2147483648) : MX b c (gu m 500001 j z) := by
  have e : gu m 500001 j z b = m b := funext fun i => gu_k (by omega)
  exact ⟨⟨(MS_p (by omega) (MS_rf h.1.1) hj hz).1, MFr_tr h.1.2 (MFr_p MFr_rf (by omega))⟩, fun i x => by rw [e]; exact h.2.1 i x, fun x => by rw [e]; exact h.2.2 x⟩
theorem MX_fl {b : Nat} {c m : gC} {z : Int} (hb : b < 200002) (h : MX b c m) (hz : 1 ≤ z ∧ z < 100) : MX b c (mfl m z) := MX_tr h (MX_of (MS_fl (by omega) (MS_rf h.1.1) (by omega)) ⟨fun k e => mfl_k e, fun e => by rw [mfl_g (by omega)] at e; cases e⟩ hb)
theorem MX_nc3 {b : Nat} {c m : gC} {k : Int} (hb : b < 200002) (h : MX b c m) : MX b c (mnc3 k m) := MX_mon hb (MX_p hb h (by decide) (zrg _))
theorem MX_nc2 {b : Nat} {c m : gC} {k : Int} (hb : b < 200002) (h : MX b c m) : MX b c (mnc2 k m) := by
  unfold mnc2
  split
  · exact MX_nc3 hb (MX_fl hb h (by decide))
  · exact MX_nc3 hb h
theorem MG_nd {b : Nat} {o : Int} {c : gC} (hb : b < 200002) (h : MP b c) : MG c (mnd b o c).2 := MG_tr MG_nh (MG_tr (MG_fi (by decide)) (MG_tr (MG_fi (by decide)) (MG_mon (MS_fi (p := decide (mfn (mnh c).2 b (mnh c).1 = o)) (z := 3) (b := b) (by omega) (MS_fi (p := decide (mfn (mnh c).2 b (mnh c).1 = -1)) (z := 4) (b := b) (by omega) (MS_nh (by omega) (MS_rf h)) (by decide)) (by decide)).1.1.1)))
theorem mgd_mon {c : gC} (h : mgd (mon c) = true) : mgd c = true := by
  revert h
  unfold mon
  split
  · intro _; assumption
  · exact id
theorem mnd_g {b : Nat} {o : Int} {c : gC} (h : mgd (mnd b o c).2 = true) : ¬ (mnd b o c).1 = -1 ∧ ¬ (mnd b o c).1 = o := by
  have h1 := mgd_mon h
  have h2 := mfi_g (by decide) h1
  have h3 := mfi_g (by decide) h2.1
  exact ⟨of_decide_eq_false h3.2.1, of_decide_eq_false h2.2.1⟩
theorem mnd_rg {b : Nat} {o : Int} {c : gC} (hb : b < 200002) (h : MP b c) : -1 ≤ (mnd b o c).1 ∧ (mnd b o c).1 < 10 := mfn_rg (MS_nh (b := b) (by omega) (MS_rf h)).1.2
set_option maxHeartbeats 1000000 in
theorem m_nd26 {d g : Nat} {T : gT} {c J : gC} (hd : 5 ≤ d) {b : Nat} (hM : MT T b) (hb : b < 200002) (h : MK b T c) {p f : Int} (ho : -2147483648 ≤ p ∧ p < 2147483648) (hf : -1 ≤ f ∧ f < 10) : gw d g 307 26 [.ref 500001, gi p, gi f] [] (gm T c J) (fun o M1 => o = .inl (some (gi ((f, mon (mnd2 p f c))).1)) ∧ M1 = gm T ((f, mon (mnd2 p f c))).2 J) := by
  have h8 := MK_s hb h (MX_fi (p := decide (f = p)) (z := 3) hb (MX_rf h.1) (by decide)).1
  refine gw_al0 at307_26 (gw_callP1 at307_27 (m_good hM h.1.1.1.1) (by omega) (Nat.le_of_ble_eq_true rfl) ?_)
  refine gw_beq at307_30 (fun q30 => ?_) (fun q30 => ?_)
  · first
    | (rw [show mnd2 p f c = c from mfi_0 q30]
       refine gw_al0 at307_43 (gw_call1 at307_44 (m_goOn hM h.1.1.1) (by omega) (Nat.le_of_ble_eq_true rfl) (fun oo M1 q44 => ?_))
       obtain ⟨rfl, rfl⟩ := q44
       show gw _ _ _ _ _ [] _ _
       exact gw_il2 at307_47 (gw_ri at307_48 am_r307.2.1 ⟨rfl, rfl⟩))
    | (rw [show mnd2 p f c = c from mfi_1 (decide_eq_false (by omega))]
       refine gw_al0 at307_43 (gw_call1 at307_44 (m_goOn hM h.1.1.1) (by omega) (Nat.le_of_ble_eq_true rfl) (fun oo M1 q44 => ?_))
       obtain ⟨rfl, rfl⟩ := q44
       show gw _ _ _ _ _ [] _ _
       exact gw_il2 at307_47 (gw_ri at307_48 am_r307.2.1 ⟨rfl, rfl⟩))
    | (have e9 : mfi (decide (f = p)) c 3 = mfl c 3 := mfi_2 q30 (decide_eq_true (by omega))
       rw [e9] at h8
       rw [show mnd2 p f c = mfl c 3 from e9]
       refine gw_al0 at307_43 (gw_call1 at307_44 (m_goOn hM h8.1.1.1) (by omega) (Nat.le_of_ble_eq_true rfl) (fun oo M1 q44 => ?_))
       obtain ⟨rfl, rfl⟩ := q44
       show gw _ _ _ _ _ [] _ _
       exact gw_il2 at307_47 (gw_ri at307_48 am_r307.2.1 ⟨rfl, rfl⟩))
  · refine gw_il2 at307_33 (gw_il1 at307_34 ?_)
    refine gw_cne at307_35 (by first | omega | exact h.1.1.1.1 _ _ | exact bi_rg _) (by first | omega | exact h.1.1.1.1 _ _ | exact bi_rg _) (fun q35 => ?_) (fun q35 => ?_)
    · first
      | (rw [show mnd2 p f c = c from mfi_0 q30]
         refine gw_al0 at307_43 (gw_call1 at307_44 (m_goOn hM h.1.1.1) (by omega) (Nat.le_of_ble_eq_true rfl) (fun oo M1 q44 => ?_))
         obtain ⟨rfl, rfl⟩ := q44
         show gw _ _ _ _ _ [] _ _
         exact gw_il2 at307_47 (gw_ri at307_48 am_r307.2.1 ⟨rfl, rfl⟩))
      | (rw [show mnd2 p f c = c from mfi_1 (decide_eq_false (by omega))]
         refine gw_al0 at307_43 (gw_call1 at307_44 (m_goOn hM h.1.1.1) (by omega) (Nat.le_of_ble_eq_true rfl) (fun oo M1 q44 => ?_))
         obtain ⟨rfl, rfl⟩ := q44
         show gw _ _ _ _ _ [] _ _
         exact gw_il2 at307_47 (gw_ri at307_48 am_r307.2.1 ⟨rfl, rfl⟩))
      | (have e9 : mfi (decide (f = p)) c 3 = mfl c 3 := mfi_2 q30 (decide_eq_true (by omega))
         rw [e9] at h8
         rw [show mnd2 p f c = mfl c 3 from e9]
         refine gw_al0 at307_43 (gw_call1 at307_44 (m_goOn hM h8.1.1.1) (by omega) (Nat.le_of_ble_eq_true rfl) (fun oo M1 q44 => ?_))
         obtain ⟨rfl, rfl⟩ := q44
         show gw _ _ _ _ _ [] _ _
         exact gw_il2 at307_47 (gw_ri at307_48 am_r307.2.1 ⟨rfl, rfl⟩))
    · refine gw_al0 at307_38 (gw_const at307_39 ?_)
      refine gw_call2 at307_40 (m_fail hM h.1.1.1.1) (by omega) (Nat.le_of_ble_eq_true rfl) (fun o M1 q40 => ?_)
      obtain ⟨rfl, rfl⟩ := q40
      show gw _ _ _ _ _ [] _ _
      first
      | (rw [show mnd2 p f c = c from mfi_0 q30]
         refine gw_al0 at307_43 (gw_call1 at307_44 (m_goOn hM h.1.1.1) (by omega) (Nat.le_of_ble_eq_true rfl) (fun oo M1 q44 => ?_))
         obtain ⟨rfl, rfl⟩ := q44
         show gw _ _ _ _ _ [] _ _
         exact gw_il2 at307_47 (gw_ri at307_48 am_r307.2.1 ⟨rfl, rfl⟩))
      | (rw [show mnd2 p f c = c from mfi_1 (decide_eq_false (by omega))]
         refine gw_al0 at307_43 (gw_call1 at307_44 (m_goOn hM h.1.1.1) (by omega) (Nat.le_of_ble_eq_true rfl) (fun oo M1 q44 => ?_))
         obtain ⟨rfl, rfl⟩ := q44
         show gw _ _ _ _ _ [] _ _
         exact gw_il2 at307_47 (gw_ri at307_48 am_r307.2.1 ⟨rfl, rfl⟩))
      | (have e9 : mfi (decide (f = p)) c 3 = mfl c 3 := mfi_2 q30 (decide_eq_true (by omega))
         rw [e9] at h8
         rw [show mnd2 p f c = mfl c 3 from e9]
         refine gw_al0 at307_43 (gw_call1 at307_44 (m_goOn hM h8.1.1.1) (by omega) (Nat.le_of_ble_eq_true rfl) (fun oo M1 q44 => ?_))
         obtain ⟨rfl, rfl⟩ := q44
         show gw _ _ _ _ _ [] _ _
         exact gw_il2 at307_47 (gw_ri at307_48 am_r307.2.1 ⟨rfl, rfl⟩))
set_option maxHeartbeats 1000000 in
theorem m_nd8 {d g : Nat} {T : gT} {c J : gC} (hd : 6 ≤ d) {b : Nat} (hM : MT T b) (hb : b < 200002) (h : MK b T c) {p f : Int} (ho : -2147483648 ≤ p ∧ p < 2147483648) (hf : -1 ≤ f ∧ f < 10) {w : Value} (hw : am_nl w = true) : gw d g 307 9 [.ref 500001, gi p, gi f] [] (gm T c J) (fun o M1 => o = .inl (some (gi (mnd1 b p f c).1)) ∧ M1 = gm T (mnd1 b p f c).2 J) := by
  have h8 := MK_s hb h (MX_fi (p := decide (f = -1)) (z := 4) hb (MX_rf h.1) (by decide)).1
  refine gw_al0 at307_9 (gw_callP1 at307_10 (m_good hM h.1.1.1.1) (by omega) (Nat.le_of_ble_eq_true rfl) ?_)
  refine gw_beq at307_13 (fun q13 => ?_) (fun q13 => ?_)
  · unfold mnd1
    first
    | (have e9 : mfi (decide (f = -1)) c 4 = c := mfi_0 q13
       rw [e9]; rw [e9] at h8; exact m_nd26 (by omega) hM hb h8 ho hf)
    | (have e9 : mfi (decide (f = -1)) c 4 = c := mfi_1 (decide_eq_false (by omega))
       rw [e9]; rw [e9] at h8; exact m_nd26 (by omega) hM hb h8 ho hf)
    | (have e9 : mfi (decide (f = -1)) c 4 = mfl c 4 := mfi_2 q13 (decide_eq_true (by omega))
       rw [e9]; rw [e9] at h8; exact m_nd26 (by omega) hM hb h8 ho hf)
  · refine gw_il2 at307_16 (gw_const at307_17 ?_)
    refine gw_cne at307_18 (by first | omega | exact h.1.1.1.1 _ _ | exact bi_rg _) (by first | omega | exact h.1.1.1.1 _ _ | exact bi_rg _) (fun q18 => ?_) (fun q18 => ?_)
    · unfold mnd1
      first
      | (have e9 : mfi (decide (f = -1)) c 4 = c := mfi_0 q13
         rw [e9]; rw [e9] at h8; exact m_nd26 (by omega) hM hb h8 ho hf)
      | (have e9 : mfi (decide (f = -1)) c 4 = c := mfi_1 (decide_eq_false (by omega))
         rw [e9]; rw [e9] at h8; exact m_nd26 (by omega) hM hb h8 ho hf)
      | (have e9 : mfi (decide (f = -1)) c 4 = mfl c 4 := mfi_2 q13 (decide_eq_true (by omega))
         rw [e9]; rw [e9] at h8; exact m_nd26 (by omega) hM hb h8 ho hf)
    · refine gw_al0 at307_21 (gw_const at307_22 ?_)
      refine gw_call2 at307_23 (m_fail hM h.1.1.1.1) (by omega) (Nat.le_of_ble_eq_true rfl) (fun o M1 q23 => ?_)
      obtain ⟨rfl, rfl⟩ := q23
      show gw _ _ _ _ _ [] _ _
      unfold mnd1
      first
      | (have e9 : mfi (decide (f = -1)) c 4 = c := mfi_0 q13
         rw [e9]; rw [e9] at h8; exact m_nd26 (by omega) hM hb h8 ho hf)
      | (have e9 : mfi (decide (f = -1)) c 4 = c := mfi_1 (decide_eq_false (by omega))
         rw [e9]; rw [e9] at h8; exact m_nd26 (by omega) hM hb h8 ho hf)
      | (have e9 : mfi (decide (f = -1)) c 4 = mfl c 4 := mfi_2 q13 (decide_eq_true (by omega))
         rw [e9]; rw [e9] at h8; exact m_nd26 (by omega) hM hb h8 ho hf)
set_option maxHeartbeats 1000000 in
theorem m_node {g : Nat} {T : gT} {c J : gC} {b : Nat} (hM : MT T b) (hb : b < 200002) (h : MK b T c) {p : Int} (ho : -2147483648 ≤ p ∧ p < 2147483648) : gE g 307 7 [.ref 500001, gi p] (gm T c J) (fun o M1 => o = .inl (some (gi (mnd b p c).1)) ∧ M1 = gm T (mnd b p c).2 J) := by
  have h8 := MK_s hb h (MX_nh hb (MX_rf h.1)).1
  have hv := mnh_rg h.1.1
  refine gE_mk am_r307 rfl (Or.inr ⟨_, rfl, (by first | exact MT_0 hM | exact MT_now hM | exact MT_bt hM | exact MT_bl hM | exact MT_r0 hM | exact MT_t0 hM | exact MT_l0 hM | exact MT_r1 hM | exact MT_t1 hM | exact MT_l1 hM | exact MT_r2 hM | exact MT_t2 hM | exact MT_l2 hM | exact MT_r3 hM | exact MT_t3 hM | exact MT_l3 hM | exact MT_r4 hM | exact MT_t4 hM | exact MT_l4 hM | exact MT_r5 hM | exact MT_t5 hM | exact MT_l5 hM | exact MT_r6 hM | exact MT_t6 hM | exact MT_l6 hM | exact MT_r7 hM | exact MT_t7 hM | exact MT_l7 hM | exact MT_r8 hM | exact MT_t8 hM | exact MT_l8 hM | exact MT_r9 hM | exact MT_t9 hM | exact MT_l9 hM | exact MT_r10 hM | exact MT_t10 hM | exact MT_l10 hM)⟩) (fun d hd => ?_)
  show gw d g 307 0 [.ref 500001, gi p, am_U] [] _ _
  refine gw_al0 at307_0 (gw_al0 at307_1 ?_)
  refine gw_call1 at307_2 (m_nameHere hM h.1 (by omega) h.2) (by omega) (Nat.le_of_ble_eq_true rfl) (fun o M1 q2 => ?_)
  obtain ⟨rfl, rfl⟩ := q2
  show gw _ _ _ _ _ (gi _ :: .ref 500001 :: []) _ _
  refine gw_callP2 at307_5 (m_findNode hM h8.1 (by omega)) (by omega) (Nat.le_of_ble_eq_true rfl) (gw_is2 at307_8 (h := ?_))
  exact m_nd8 (by omega) hM hb h8 ho (mfn_rg h8.1.2) (w := gi 0) rfl
set_option maxHeartbeats 1000000 in
theorem m_on16 {d g : Nat} {T : gT} {c J : gC} (hd : 3 ≤ d) {b : Nat} (hM : MT T b) (hb : b < 200002) (h : MK b T c) {k : Int} : gw d g 308 16 [.ref 500001, gi k] [] (gm T c J) (fun o M1 => o = .inl none ∧ M1 = gm T (mnc3 k c) J) := by
  have h8 := MX_p (j := 23) (z := zor (c 500001 23) (zshl 1 k)) hb (MX_rf h.1) (by decide) (zrg _)
  refine gw_al0 at308_16 (gw_dupr at308_17 (gw_gf (j := 23) at308_18 (by first | exact MT_0 hM | exact MT_now hM | exact MT_bt hM | exact MT_bl hM | exact MT_r0 hM | exact MT_t0 hM | exact MT_l0 hM | exact MT_r1 hM | exact MT_t1 hM | exact MT_l1 hM | exact MT_r2 hM | exact MT_t2 hM | exact MT_l2 hM | exact MT_r3 hM | exact MT_t3 hM | exact MT_l3 hM | exact MT_r4 hM | exact MT_t4 hM | exact MT_l4 hM | exact MT_r5 hM | exact MT_t5 hM | exact MT_l5 hM | exact MT_r6 hM | exact MT_t6 hM | exact MT_l6 hM | exact MT_r7 hM | exact MT_t7 hM | exact MT_l7 hM | exact MT_r8 hM | exact MT_t8 hM | exact MT_l8 hM | exact MT_r9 hM | exact MT_t9 hM | exact MT_l9 hM | exact MT_r10 hM | exact MT_t10 hM | exact MT_l10 hM) rfl (gw_const at308_21 (gw_il1 at308_22 (gw_ishl at308_23 (gw_ior at308_24 (gw_pf (j := 23) at308_25 (by first | exact MT_0 hM | exact MT_now hM | exact MT_bt hM | exact MT_bl hM | exact MT_r0 hM | exact MT_t0 hM | exact MT_l0 hM | exact MT_r1 hM | exact MT_t1 hM | exact MT_l1 hM | exact MT_r2 hM | exact MT_t2 hM | exact MT_l2 hM | exact MT_r3 hM | exact MT_t3 hM | exact MT_l3 hM | exact MT_r4 hM | exact MT_t4 hM | exact MT_l4 hM | exact MT_r5 hM | exact MT_t5 hM | exact MT_l5 hM | exact MT_r6 hM | exact MT_t6 hM | exact MT_l6 hM | exact MT_r7 hM | exact MT_t7 hM | exact MT_l7 hM | exact MT_r8 hM | exact MT_t8 hM | exact MT_l8 hM | exact MT_r9 hM | exact MT_t9 hM | exact MT_l9 hM | exact MT_r10 hM | exact MT_t10 hM | exact MT_l10 hM) rfl (gw_al0 at308_28 ?_))))))))
  refine gw_call1 at308_29 (m_goOn hM h8.1.1.1.1) (by omega) (Nat.le_of_ble_eq_true rfl) (fun o M1 q29 => ?_)
  obtain ⟨rfl, rfl⟩ := q29
  show gw _ _ _ _ _ [] _ _
  refine gw_rv at308_32 am_r308.2.1 ?_
  exact ⟨rfl, rfl⟩
set_option maxHeartbeats 1000000 in
theorem m_once {g : Nat} {T : gT} {c J : gC} {b : Nat} (hM : MT T b) (hb : b < 200002) (h : MK b T c) {k : Int} : gE g 308 3 [.ref 500001, gi k] (gm T c J) (fun o M1 => o = .inl none ∧ M1 = gm T (mnc2 k c) J) := by
  have h8 := MK_s hb h (MX_fl (z := 3) hb (MX_rf h.1) (by decide)).1
  refine gE_mk am_r308 rfl (Or.inr ⟨_, rfl, (by first | exact MT_0 hM | exact MT_now hM | exact MT_bt hM | exact MT_bl hM | exact MT_r0 hM | exact MT_t0 hM | exact MT_l0 hM | exact MT_r1 hM | exact MT_t1 hM | exact MT_l1 hM | exact MT_r2 hM | exact MT_t2 hM | exact MT_l2 hM | exact MT_r3 hM | exact MT_t3 hM | exact MT_l3 hM | exact MT_r4 hM | exact MT_t4 hM | exact MT_l4 hM | exact MT_r5 hM | exact MT_t5 hM | exact MT_l5 hM | exact MT_r6 hM | exact MT_t6 hM | exact MT_l6 hM | exact MT_r7 hM | exact MT_t7 hM | exact MT_l7 hM | exact MT_r8 hM | exact MT_t8 hM | exact MT_l8 hM | exact MT_r9 hM | exact MT_t9 hM | exact MT_l9 hM | exact MT_r10 hM | exact MT_t10 hM | exact MT_l10 hM)⟩) (fun d hd => ?_)
  show gw d g 308 0 [.ref 500001, gi k] [] _ _
  refine gw_al0 at308_0 (gw_gf (j := 23) at308_1 (by first | exact MT_0 hM | exact MT_now hM | exact MT_bt hM | exact MT_bl hM | exact MT_r0 hM | exact MT_t0 hM | exact MT_l0 hM | exact MT_r1 hM | exact MT_t1 hM | exact MT_l1 hM | exact MT_r2 hM | exact MT_t2 hM | exact MT_l2 hM | exact MT_r3 hM | exact MT_t3 hM | exact MT_l3 hM | exact MT_r4 hM | exact MT_t4 hM | exact MT_l4 hM | exact MT_r5 hM | exact MT_t5 hM | exact MT_l5 hM | exact MT_r6 hM | exact MT_t6 hM | exact MT_l6 hM | exact MT_r7 hM | exact MT_t7 hM | exact MT_l7 hM | exact MT_r8 hM | exact MT_t8 hM | exact MT_l8 hM | exact MT_r9 hM | exact MT_t9 hM | exact MT_l9 hM | exact MT_r10 hM | exact MT_t10 hM | exact MT_l10 hM) rfl (gw_il1 at308_4 (gw_callP2 at308_5 (m_hasBit) (by omega) (Nat.le_of_ble_eq_true rfl) ?_)))
  refine gw_beq at308_8 (fun q8 => ?_) (fun q8 => ?_)
  · unfold mnc2
    first
    | (rw [if_pos q8]; exact m_on16 (by omega) hM hb h8)
    | (rw [if_neg (by rw [q8]; decide)]; exact m_on16 (by omega) hM hb h)
  · refine gw_al0 at308_11 (gw_const at308_12 ?_)
    refine gw_call2 at308_13 (m_fail hM h.1.1.1.1) (by omega) (Nat.le_of_ble_eq_true rfl) (fun o M1 q13 => ?_)
    obtain ⟨rfl, rfl⟩ := q13
    show gw _ _ _ _ _ [] _ _
    unfold mnc2
    first
    | (rw [if_pos q8]; exact m_on16 (by omega) hM hb h8)
    | (rw [if_neg (by rw [q8]; decide)]; exact m_on16 (by omega) hM hb h)
