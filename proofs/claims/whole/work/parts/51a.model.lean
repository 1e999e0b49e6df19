/-! the reference: snow, numbers, a statement -/
def mps3 (b : Nat) (r : Int) (c : gC) : gC := if mgd (mnu 0 999 c).2 = true then gu (mnu 0 999 c).2 b (52 + 7 * r + 6) (mnu 0 999 c).1 else (mnu 0 999 c).2
def mps2 (b : Nat) (r : Int) (c : gC) : gC := mps3 b r (mon c)
def mps1 (b : Nat) (r : Int) (c : gC) : gC := mps2 b r (mfi (decide (r = -1)) c 4)
def mps0 (b : Nat) (c : gC) : gC := mps1 b (mfr (mnh c).2 b (mnh c).1) (mnh c).2
def mps (b : Nat) (c : gC) : gC := mps0 b (mad c)
theorem mps3_t {b : Nat} {r : Int} {c : gC} (h : mgd (mnu 0 999 c).2 = true) : mps3 b r c = gu (mnu 0 999 c).2 b (52 + 7 * r + 6) (mnu 0 999 c).1 := if_pos h
theorem mps3_f {b : Nat} {r : Int} {c : gC} (h : mgd (mnu 0 999 c).2 = false) : mps3 b r c = (mnu 0 999 c).2 := if_neg (by rw [h]; decide)
theorem MX_mad {b : Nat} {c m : gC} (hb : b < 200002) (h : MX b c m) : MX b c (mad m) := by
  have e : mad m b = m b := (mad_ok (b := b) h.1.1.1.1).2.2 b (by omega)
  exact ⟨MS_mad (by omega) h.1, fun i x => by rw [e]; exact h.2.1 i x, fun x => by rw [e]; exact h.2.2 x⟩
theorem MX_s2 {b : Nat} {c m : gC} {r : Int} (hb : b < 200002) (h : MX b c m) (hr : -1 ≤ r ∧ r < 12) (hg : mgd m = true → ¬ r = -1) : MX b c (mps2 b r m) := by
  have g1 := MX_mon hb h
  have g2 := MX_nu (l := 0) (u := 999) hb g1
  have r2 := mnu_rg (b := b) (l := 0) (u := 999) (c := mon m) (by decide)
  unfold mps2 mps3
  split
  · rename_i e
    have e2 := hg (mgd_mon ((MG_nu (by omega) g1.1.1).2 e))
    exact MX_b hb g2 (by omega) (NW_gu g2.1.1.2 (by omega) (by omega) (by omega) (by omega) (by omega) (fun i _ _ e => by omega) (fun i _ _ => by omega)) (by omega) (by omega)
  · exact g2
theorem MX_s1 {b : Nat} {c m : gC} {r : Int} (hb : b < 200002) (h : MX b c m) (hr : -1 ≤ r ∧ r < 12) : MX b c (mps1 b r m) := MX_s2 hb (MX_fi hb h (by decide)) hr fun e => of_decide_eq_false (mfi_g (by decide) e).2.1
theorem MX_s0 {b : Nat} {c m : gC} (hb : b < 200002) (h : MX b c m) : MX b c (mps0 b m) := by
  have g1 := MX_nh hb h
  exact MX_s1 hb g1 (mfr_rg g1.1.1.2)
theorem MX_s {b : Nat} {c m : gC} (hb : b < 200002) (h : MX b c m) : MX b c (mps b m) := MX_s0 hb (MX_mad hb h)
def mpmf (b : Nat) (a i : Int) (m : gC) : gC := gu (mnu 0 99 m).2 b (a + i) (mnu 0 99 m).1
def mpms (b : Nat) (a n : Int) (c : gC) : gC := itI (mpmf b a) c n
def AN (a n : Int) : Prop := (a = 11 ∧ n = 4) ∨ (a = 15 ∧ n = 3) ∨ (a = 4 ∧ n = 1)
theorem MX_ms {b : Nat} {c m : gC} {a n i : Int} (hb : b < 200002) (h : MX b c m) (hn : AN a n) (hi : i ≤ n) : MX b c (mpms b a i m) := by
  refine itI_inv2 (MX b c) h (fun j s h0 h1 hs => ?_) hi
  have g2 := MX_nu (l := 0) (u := 99) hb hs
  have r2 := mnu_rg (b := b) (l := 0) (u := 99) (c := s) (by decide)
  unfold AN at hn
  exact MX_b hb g2 (by omega) (NW_gu g2.1.1.2 (by omega) (by omega) (by omega) (by omega) (by omega) (fun i _ _ e => by omega) (fun i _ _ => by omega)) (by omega) (by omega)
def mdpp (b : Nat) (c : gC) : gC := gu (mnd b (-1) c).2 b 2 (mnd b (-1) c).1
def msl (b : Nat) (c : gC) : gC := gu (mnu 0 9999 c).2 b 3 (mnu 0 9999 c).1
theorem MX_dp {b : Nat} {c m : gC} (hb : b < 200002) (h : MX b c m) : MX b c (mdpp b m) := by
  have g2 := MX_nde (o := -1) hb h
  have r2 := mnd_rg (o := -1) hb h.1.1
  exact MX_b hb g2 (by omega) (NW_gu g2.1.1.2 (by omega) (by omega) (by omega) (by omega) (by omega) (fun i _ _ e => by omega) (fun i _ _ => by omega)) (by omega) (by omega)
theorem MX_sl {b : Nat} {c m : gC} (hb : b < 200002) (h : MX b c m) : MX b c (msl b m) := by
  have g2 := MX_nu (l := 0) (u := 9999) hb h
  have r2 := mnu_rg (b := b) (l := 0) (u := 9999) (c := m) (by decide)
  exact MX_b hb g2 (by omega) (NW_gu g2.1.1.2 (by omega) (by omega) (by omega) (by omega) (by omega) (fun i _ _ e => by omega) (fun i _ _ => by omega)) (by omega) (by omega)
set_option maxHeartbeats 1000000 in
theorem m_ps30 {d g : Nat} {T : gT} {c J : gC} (hd : 7 ≤ d) {b : Nat} (hM : MT T b) (hb : b < 200002) (h : MK b T c) {r : Int} (hr : -1 ≤ r ∧ r < 12) {u2 : Value} (hu2 : am_nl u2 = true) (hg : mgd c = true → ¬ r = -1) : gw d g 312 30 [.ref 500001, gi r, u2] [] (gm T c J) (fun o M1 => o = .inl none ∧ M1 = gm T (mps2 b r c) J) := by
  have h6 := MX_mon hb (MX_rf h.1)
  have h7 := MK_s hb h h6.1
  have h8 := MK_s hb h (MX_nu (l := 0) (u := 999) hb h6).1
  have r1 := mnu_rg (b := b) (l := 0) (u := 999) (c := mon c) (by decide)
  refine gw_al0 at312_30 ?_
  refine gw_call1 at312_31 (m_goOn hM h.1.1.1) (by omega) (Nat.le_of_ble_eq_true rfl) (fun o M1 q31 => ?_)
  obtain ⟨rfl, rfl⟩ := q31
  show gw _ _ _ _ _ [] _ _
  refine gw_al0 at312_34 (gw_const at312_35 (gw_sip at312_36 (by decide) ?_))
  refine gw_call3 at312_39 (m_number hM h7.1 (by omega) (by decide) (by decide)) (by omega) (Nat.le_of_ble_eq_true rfl) (fun o M1 q39 => ?_)
  obtain ⟨rfl, rfl⟩ := q39
  show gw _ _ _ _ _ (gi _ :: []) _ _
  refine gw_is2 at312_42 (h := (gw_al0 at312_43 (gw_callP1 at312_44 (m_good hM h8.1.1.1.1) (by omega) (Nat.le_of_ble_eq_true rfl) ?_)))
  refine gw_beq at312_47 (fun q47 => ?_) (fun q47 => ?_)
  · refine gw_rv at312_66 am_r312.2.1 ?_
    unfold mps2
    first
    | (rw [mps3_f q47]; exact ⟨rfl, rfl⟩)
    | (rw [mps3_t q47]; exact ⟨rfl, rfl⟩)
  · have e2 := hg (mgd_mon ((MG_nu (by omega) h7.1).2 q47))
    refine gw_al0 at312_50 (gw_gr at312_51 (by first | exact MT_0 hM | exact MT_now hM | exact MT_bt hM | exact MT_bl hM | exact MT_r0 hM | exact MT_t0 hM | exact MT_l0 hM | exact MT_r1 hM | exact MT_t1 hM | exact MT_l1 hM | exact MT_r2 hM | exact MT_t2 hM | exact MT_l2 hM | exact MT_r3 hM | exact MT_t3 hM | exact MT_l3 hM | exact MT_r4 hM | exact MT_t4 hM | exact MT_l4 hM | exact MT_r5 hM | exact MT_t5 hM | exact MT_l5 hM | exact MT_r6 hM | exact MT_t6 hM | exact MT_l6 hM | exact MT_r7 hM | exact MT_t7 hM | exact MT_l7 hM | exact MT_r8 hM | exact MT_t8 hM | exact MT_l8 hM | exact MT_r9 hM | exact MT_t9 hM | exact MT_l9 hM | exact MT_r10 hM | exact MT_t10 hM | exact MT_l10 hM) (by first | exact MT_0 hM | exact MT_now hM | exact MT_bt hM | exact MT_bl hM | exact MT_r0 hM | exact MT_t0 hM | exact MT_l0 hM | exact MT_r1 hM | exact MT_t1 hM | exact MT_l1 hM | exact MT_r2 hM | exact MT_t2 hM | exact MT_l2 hM | exact MT_r3 hM | exact MT_t3 hM | exact MT_l3 hM | exact MT_r4 hM | exact MT_t4 hM | exact MT_l4 hM | exact MT_r5 hM | exact MT_t5 hM | exact MT_l5 hM | exact MT_r6 hM | exact MT_t6 hM | exact MT_l6 hM | exact MT_r7 hM | exact MT_t7 hM | exact MT_l7 hM | exact MT_r8 hM | exact MT_t8 hM | exact MT_l8 hM | exact MT_r9 hM | exact MT_t9 hM | exact MT_l9 hM | exact MT_r10 hM | exact MT_t10 hM | exact MT_l10 hM) (gw_bip at312_54 (by decide) (gw_bip at312_56 (by decide) (gw_il1 at312_58 (gw_imul at312_59 (gw_iadd at312_60 (gw_bip at312_61 (by decide) (gw_iadd at312_63 (gw_il2 at312_64 (gw_iw at312_65 (by first | exact MT_0 hM | exact MT_now hM | exact MT_bt hM | exact MT_bl hM | exact MT_r0 hM | exact MT_t0 hM | exact MT_l0 hM | exact MT_r1 hM | exact MT_t1 hM | exact MT_l1 hM | exact MT_r2 hM | exact MT_t2 hM | exact MT_l2 hM | exact MT_r3 hM | exact MT_t3 hM | exact MT_l3 hM | exact MT_r4 hM | exact MT_t4 hM | exact MT_l4 hM | exact MT_r5 hM | exact MT_t5 hM | exact MT_l5 hM | exact MT_r6 hM | exact MT_t6 hM | exact MT_l6 hM | exact MT_r7 hM | exact MT_t7 hM | exact MT_l7 hM | exact MT_r8 hM | exact MT_t8 hM | exact MT_l8 hM | exact MT_r9 hM | exact MT_t9 hM | exact MT_l9 hM | exact MT_r10 hM | exact MT_t10 hM | exact MT_l10 hM) (by first | exact MT_0 hM | exact MT_now hM | exact MT_bt hM | exact MT_bl hM | exact MT_r0 hM | exact MT_t0 hM | exact MT_l0 hM | exact MT_r1 hM | exact MT_t1 hM | exact MT_l1 hM | exact MT_r2 hM | exact MT_t2 hM | exact MT_l2 hM | exact MT_r3 hM | exact MT_t3 hM | exact MT_l3 hM | exact MT_r4 hM | exact MT_t4 hM | exact MT_l4 hM | exact MT_r5 hM | exact MT_t5 hM | exact MT_l5 hM | exact MT_r6 hM | exact MT_t6 hM | exact MT_l6 hM | exact MT_r7 hM | exact MT_t7 hM | exact MT_l7 hM | exact MT_r8 hM | exact MT_t8 hM | exact MT_l8 hM | exact MT_r9 hM | exact MT_t9 hM | exact MT_l9 hM | exact MT_r10 hM | exact MT_t10 hM | exact MT_l10 hM) (by first | omega | exact h.1.1.1.1 _ _ | exact bi_rg _) (by first | omega | exact h.1.1.1.1 _ _ | exact bi_rg _) (by omega) (gw_rv at312_66 am_r312.2.1 ?_)))))))))))
    unfold mps2
    first
    | (rw [mps3_f q47]; exact ⟨rfl, rfl⟩)
    | (rw [mps3_t q47]; exact ⟨rfl, rfl⟩)
set_option maxHeartbeats 1000000 in
theorem m_ps13 {d g : Nat} {T : gT} {c J : gC} (hd : 7 ≤ d) {b : Nat} (hM : MT T b) (hb : b < 200002) (h : MK b T c) {r : Int} (hr : -1 ≤ r ∧ r < 12) {u2 : Value} (hu2 : am_nl u2 = true) : gw d g 312 13 [.ref 500001, gi r, u2] [] (gm T c J) (fun o M1 => o = .inl none ∧ M1 = gm T (mps1 b r c) J) := by
  have h8 := MK_s hb h (MX_fi (p := decide (r = -1)) (z := 4) hb (MX_rf h.1) (by decide)).1
  have hg8 : mgd (mfi (decide (r = -1)) c 4) = true → ¬ r = -1 := fun e => of_decide_eq_false (mfi_g (by decide) e).2.1
  refine gw_al0 at312_13 (gw_callP1 at312_14 (m_good hM h.1.1.1.1) (by omega) (Nat.le_of_ble_eq_true rfl) ?_)
  refine gw_beq at312_17 (fun q17 => ?_) (fun q17 => ?_)
  · unfold mps1
    first
    | (have e9 : mfi (decide (r = -1)) c 4 = c := mfi_0 q17
       rw [e9]; rw [e9] at h8; rw [e9] at hg8; exact m_ps30 (by omega) hM hb h8 hr hu2 hg8)
    | (have e9 : mfi (decide (r = -1)) c 4 = c := mfi_1 (decide_eq_false (by omega))
       rw [e9]; rw [e9] at h8; rw [e9] at hg8; exact m_ps30 (by omega) hM hb h8 hr hu2 hg8)
    | (have e9 : mfi (decide (r = -1)) c 4 = mfl c 4 := mfi_2 q17 (decide_eq_true (by omega))
       rw [e9]; rw [e9] at h8; rw [e9] at hg8; exact m_ps30 (by omega) hM hb h8 hr hu2 hg8)
  · refine gw_il1 at312_20 (gw_const at312_21 ?_)
    refine gw_cne at312_22 (by first | omega | exact h.1.1.1.1 _ _ | exact bi_rg _) (by first | omega | exact h.1.1.1.1 _ _ | exact bi_rg _) (fun q22 => ?_) (fun q22 => ?_)
    · unfold mps1
      first
      | (have e9 : mfi (decide (r = -1)) c 4 = c := mfi_0 q17
         rw [e9]; rw [e9] at h8; rw [e9] at hg8; exact m_ps30 (by omega) hM hb h8 hr hu2 hg8)
      | (have e9 : mfi (decide (r = -1)) c 4 = c := mfi_1 (decide_eq_false (by omega))
         rw [e9]; rw [e9] at h8; rw [e9] at hg8; exact m_ps30 (by omega) hM hb h8 hr hu2 hg8)
      | (have e9 : mfi (decide (r = -1)) c 4 = mfl c 4 := mfi_2 q17 (decide_eq_true (by omega))
         rw [e9]; rw [e9] at h8; rw [e9] at hg8; exact m_ps30 (by omega) hM hb h8 hr hu2 hg8)
    · refine gw_al0 at312_25 (gw_const at312_26 ?_)
      refine gw_call2 at312_27 (m_fail hM h.1.1.1.1) (by omega) (Nat.le_of_ble_eq_true rfl) (fun o M1 q27 => ?_)
      obtain ⟨rfl, rfl⟩ := q27
      show gw _ _ _ _ _ [] _ _
      unfold mps1
      first
      | (have e9 : mfi (decide (r = -1)) c 4 = c := mfi_0 q17
         rw [e9]; rw [e9] at h8; rw [e9] at hg8; exact m_ps30 (by omega) hM hb h8 hr hu2 hg8)
      | (have e9 : mfi (decide (r = -1)) c 4 = c := mfi_1 (decide_eq_false (by omega))
         rw [e9]; rw [e9] at h8; rw [e9] at hg8; exact m_ps30 (by omega) hM hb h8 hr hu2 hg8)
      | (have e9 : mfi (decide (r = -1)) c 4 = mfl c 4 := mfi_2 q17 (decide_eq_true (by omega))
         rw [e9]; rw [e9] at h8; rw [e9] at hg8; exact m_ps30 (by omega) hM hb h8 hr hu2 hg8)
set_option maxHeartbeats 1000000 in
theorem m_parseSnow {g : Nat} {T : gT} {c J : gC} {b : Nat} (hM : MT T b) (hb : b < 200002) (h : MK b T c) : gE g 312 7 [.ref 500001] (gm T c J) (fun o M1 => o = .inl none ∧ M1 = gm T (mps b c) J) := by
  have h6 := MX_mad hb (MX_rf h.1)
  have h7 := MK_s hb h h6.1
  have h8 := MK_s hb h (MX_nh hb h6).1
  have hv := mnh_rg h7.1.1
  refine gE_mk am_r312 rfl (Or.inr ⟨_, rfl, (by first | exact MT_0 hM | exact MT_now hM | exact MT_bt hM | exact MT_bl hM | exact MT_r0 hM | exact MT_t0 hM | exact MT_l0 hM | exact MT_r1 hM | exact MT_t1 hM | exact MT_l1 hM | exact MT_r2 hM | exact MT_t2 hM | exact MT_l2 hM | exact MT_r3 hM | exact MT_t3 hM | exact MT_l3 hM | exact MT_r4 hM | exact MT_t4 hM | exact MT_l4 hM | exact MT_r5 hM | exact MT_t5 hM | exact MT_l5 hM | exact MT_r6 hM | exact MT_t6 hM | exact MT_l6 hM | exact MT_r7 hM | exact MT_t7 hM | exact MT_l7 hM | exact MT_r8 hM | exact MT_t8 hM | exact MT_l8 hM | exact MT_r9 hM | exact MT_t9 hM | exact MT_l9 hM | exact MT_r10 hM | exact MT_t10 hM | exact MT_l10 hM)⟩) (fun d hd => ?_)
  show gw d g 312 0 [.ref 500001, am_U, am_U] [] _ _
  refine gw_al0 at312_0 ?_
  refine gw_call1 at312_1 (m_advance hM h.1.1.1) (by omega) (Nat.le_of_ble_eq_true rfl) (fun o M1 q1 => ?_)
  obtain ⟨rfl, rfl⟩ := q1
  show gw _ _ _ _ _ [] _ _
  refine gw_al0 at312_4 (gw_al0 at312_5 ?_)
  refine gw_call1 at312_6 (m_nameHere hM h7.1 (by omega) h7.2) (by omega) (Nat.le_of_ble_eq_true rfl) (fun o M1 q6 => ?_)
  obtain ⟨rfl, rfl⟩ := q6
  show gw _ _ _ _ _ (gi _ :: .ref 500001 :: []) _ _
  refine gw_callP2 at312_9 (m_findRoad hM h8.1 (by omega)) (by omega) (Nat.le_of_ble_eq_true rfl) (gw_is1 at312_12 (h := ?_))
  exact m_ps13 (by omega) hM hb h8 (mfr_rg h8.1.2) rfl
