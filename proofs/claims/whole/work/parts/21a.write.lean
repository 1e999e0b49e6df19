/-! network: writers (the network lies at k, the buffer at b) -/
def LT (T : gT) (c : gC) : Prop := ∀ n : Nat, n < 20 → ST T c (900000 + n) (910000 + n) (am_tlen.getD n 0)
def txt (b n : Nat) (m : gC) : gC := ptx m b (910000 + n) ((am_tlen.getD n 0 : Nat) : Int)
def WOK (c : gC) (b : Nat) (m : gC) : Prop := RG m ∧ BR m b ∧ ∀ x, ¬ x = b → ¬ x = b + 1 → ∀ j, m x j = c x j
theorem WOK_0 {c : gC} {b : Nat} (hc : RG c) (hB : BR c b) : WOK c b c := ⟨hc, hB, fun _ _ _ _ => rfl⟩
theorem WOK_tr {c m m' : gC} {b : Nat} (h : WOK c b m) (h' : RG m' ∧ BR m' b ∧ ∀ x, ¬ x = b → ¬ x = b + 1 → ∀ j, m' x j = m x j) : WOK c b m' := ⟨h'.1, h'.2.1, fun x h1 h2 j => (h'.2.2 x h1 h2 j).trans (h.2.2 x h1 h2 j)⟩
theorem wt {c m : gC} {b : Nat} (n : Nat) (h : WOK c b m) : WOK c b (txt b n m) := WOK_tr h (ptx_ok h.1 h.2.1)
theorem wp {c m : gC} {b : Nat} {v : Int} (h : WOK c b m) : WOK c b (pnu m b v) := WOK_tr h (pnu_ok h.1 h.2.1)
theorem wa {c m : gC} {b : Nat} {v : Int} (h : WOK c b m) : WOK c b (pna m b v) := WOK_tr h (pna_ok h.1 h.2.1)
theorem wi {c m : gC} {b : Nat} (f : Int → gC → gC) (h : WOK c b m) (hf : ∀ i m, WOK c b m → WOK c b (f i m)) (i : Int) : WOK c b (itI f m i) := itI_inv (WOK c b) h hf i
theorem LT_W {T : gT} {c m : gC} {b : Nat} (hb : b + 2 ≤ 900000) (hL : LT T c) (h : WOK c b m) : LT T m := fun n hn => by
  obtain ⟨h1, h2, h3, h4, h5, h6, h7⟩ := hL n hn
  refine ⟨h1, h2, ?_, h4, h5, h6, fun j a e => ?_⟩
  · rw [h.2.2 _ (by omega) (by omega)]; exact h3
  · rw [h.2.2 _ (by omega) (by omega)]; exact h7 j a e
theorem c_txt {g : Nat} {T : gT} {c J m : gC} {b : Nat} (n : Nat) (hn : n < 20) (hT : BT T b) (hb : b + 2 ≤ 900000) (hL : LT T c) (h : WOK c b m) : gE g 3 4 [.ref b, .ref (900000 + n)] (gm T m J) (fun o M1 => o = .inl none ∧ M1 = gm T (txt b n m) J) := c_putText hT h.1 h.2.1 (LT_W hb hL h n hn) ⟨by omega, by omega⟩ ⟨by omega, by omega⟩
/-- names are no numbers below 0 -/
def NM (c : gC) (k : Nat) : Prop := (∀ i : Int, 0 ≤ i → i < 10 → 0 ≤ c (k + 1) i) ∧ ∀ i : Int, 0 ≤ i → i < 12 → 0 ≤ c (k + 4) i
def wnn (k b : Nat) (z : Int) (m : gC) : gC := if 0 ≤ z ∧ z < m k 1 then pna m b (m (k + 1) z) else m
theorem wnn_ok {c m : gC} {k b : Nat} {z : Int} (h : WOK c b m) : WOK c b (wnn k b z m) := by
  unfold wnn
  split
  · exact wa h
  · exact h
def wrf (b q : Nat) (i : Int) (m : gC) : gC := pnu (txt b 10 m) b (txt b 10 m q i)
def wrw (b q : Nat) (n : Int) (m : gC) : gC := txt b 11 (itI (wrf b q) m n)
theorem wrf_ok {c m : gC} {b q : Nat} {i : Int} (h : WOK c b m) : WOK c b (wrf b q i m) := wp (wt 10 h)
theorem wrw_ok {c m : gC} {b q : Nat} {n : Int} (h : WOK c b m) : WOK c b (wrw b q n m) := wt 11 (wi _ h (fun _ _ h => wrf_ok h) n)
def A1 (k b : Nat) (i : Int) (m : gC) : gC := pna m b (m k i)
def P1 (k b : Nat) (i : Int) (m : gC) : gC := pnu m b (m k i)
def wnf (k b : Nat) (i : Int) (m : gC) : gC := txt b 11 (P1 (k + 3) b i (txt b 10 (P1 (k + 2) b i (txt b 10 (A1 (k + 1) b i (txt b 9 m))))))
theorem wnf_ok {c m : gC} {k b : Nat} {i : Int} (h : WOK c b m) : WOK c b (wnf k b i m) := wt 11 (wp (wt 10 (wp (wt 10 (wa (wt 9 h))))))
def wno (k b : Nat) (m : gC) : gC := itI (wnf k b) m (m k 1)
def wsf (k b : Nat) (i : Int) (m : gC) : gC := if m (k + 9) i = 0 then m else txt b 11 (P1 (k + 9) b i (txt b 10 (A1 (k + 4) b i (txt b 17 m))))
theorem wsf_ok {c m : gC} {k b : Nat} {i : Int} (h : WOK c b m) : WOK c b (wsf k b i m) := by
  unfold wsf
  split
  · exact h
  · exact wt 11 (wp (wt 10 (wa (wt 17 h))))
def wsn (k b : Nat) (m : gC) : gC := itI (wsf k b) m (m k 2)
set_option maxHeartbeats 1000000 in
theorem c_wnn {g : Nat} {T : gT} {c J : gC} {k b : Nat} (hT : NT T k) (hb1 : b + 2 ≤ 900000) (hb2 : b + 2 ≤ k ∨ k + 12 ≤ b) (hB : BT T b) (hL : LT T c) (hc : RG c) (hR : BR c b) (hN : NR c k) (hM : NM c k) {z : Int} (hz : -2147483648 ≤ z ∧ z < 2147483648) : gE g 34 2 [.ref k, .ref b, gi z] (gm T c J) (fun o M1 => o = .inl none ∧ M1 = gm T (wnn k b z c) J) := by
  have h1 := hN.1
  refine gE_mk am_r34 rfl (Or.inr ⟨_, rfl, (by first | exact NT_0 hT | exact NT_r7 hT | exact NT_t7 hT | exact NT_l7 hT)⟩) (fun d hd => ?_)
  show gw d g 34 0 [.ref k, .ref b, gi z] [] _ _
  refine gw_il2 at34_0 ?_
  refine gw_zlt at34_1 (by first | omega | exact hc _ _) (fun q1 => ?_) (fun q1 => ?_)
  · refine gw_rv at34_22 am_r34.2.1 ?_
    refine ⟨rfl, ?_⟩
    unfold wnn
    first | (rw [if_pos (by omega)]; done) | (rw [if_neg (by omega)]; done)
  · refine gw_il2 at34_4 (gw_al0 at34_5 (gw_gf (j := 1) at34_6 (by first | exact NT_0 hT | exact NT_r7 hT | exact NT_t7 hT | exact NT_l7 hT) rfl ?_))
    refine gw_cge at34_9 (by first | omega | exact hc _ _) (by first | omega | exact hc _ _) (fun q9 => ?_) (fun q9 => ?_)
    · refine gw_rv at34_22 am_r34.2.1 ?_
      refine ⟨rfl, ?_⟩
      unfold wnn
      first | (rw [if_pos (by omega)]; done) | (rw [if_neg (by omega)]; done)
    · refine gw_al1 at34_12 (gw_al0 at34_13 (gw_gr at34_14 (by first | exact NT_0 hT | exact NT_r7 hT | exact NT_t7 hT | exact NT_l7 hT) (by first | exact NT_0 hT | exact NT_r7 hT | exact NT_t7 hT | exact NT_l7 hT) (gw_il2 at34_17 ?_)))
      have h2 := hM.1 z (by omega) (by omega)
      refine gw_ia at34_18 (by first | exact Or.inl (by first | exact NT_0 hT | exact NT_r7 hT | exact NT_t7 hT | exact NT_l7 hT) | exact Or.inr (by first | exact NT_0 hT | exact NT_r7 hT | exact NT_t7 hT | exact NT_l7 hT)) (by first | exact NT_0 hT | exact NT_r7 hT | exact NT_t7 hT | exact NT_l7 hT) (by first | omega | exact hc _ _) (by first | omega | exact hc _ _) (by omega) ?_
      refine gw_call2 at34_19 (c_putName hB hc hR ⟨hM.1 z (by omega) (by omega), (hc _ _).2⟩) (by omega) (Nat.le_of_ble_eq_true rfl) (fun o M1 q19 => ?_)
      obtain ⟨rfl, rfl⟩ := q19
      show gw _ _ _ _ _ [] (gm T (pna c b (c (k + 1) z)) J) _
      refine gw_rv at34_22 am_r34.2.1 ?_
      refine ⟨rfl, ?_⟩
      unfold wnn
      first | (rw [if_pos (by omega)]; done) | (rw [if_neg (by omega)]; done)
set_option maxHeartbeats 1000000 in
theorem c_wrw {g : Nat} {T : gT} {c J : gC} {b q n : Nat} (hb1 : b + 2 ≤ 900000) (hB : BT T b) (hL : LT T c) (hc : RG c) (hR : BR c b) (hq : (T.1 q).1 = 1) (hq2 : (T.1 q).2.1 = n) (hn : n < 100) (hqb : ¬ q = b ∧ ¬ q = b + 1) (hv : ∀ i : Int, 0 ≤ i → i < (n : Int) → 0 ≤ c q i) : gE g 35 5 [.ref b, .ref q] (gm T c J) (fun o M1 => o = .inl none ∧ M1 = gm T (wrw b q (n : Int) c) J) := by
  refine gE_mk am_r35 rfl (Or.inl rfl) (fun d hd => ?_)
  show gw d g 35 0 [.ref b, .ref q, am_U] [] _ _
  refine gw_const at35_0 (gw_is2 at35_1 (h := ?_))
  have lp2 : ∀ i : Int, 0 ≤ i → i ≤ 100 → i ≤ (n : Int) → gw d g 35 2 [.ref b, .ref q, gi i] [] (gm T (itI (wrf b q) c i) J) (fun o M1 => o = .inl none ∧ M1 = gm T (wrw b q (n : Int) c) J) := by
    refine ind_up 100 ?_
    intro i hi0 hi1 ih hi2
    have o1 : WOK c b (itI (wrf b q) c i) := wi _ (WOK_0 hc hR) (fun _ _ h => wrf_ok h) i
    refine gw_il2 at35_2 ?_
    refine gw_al1 at35_3 (gw_len at35_4 (by first | exact Or.inl (by assumption) | exact Or.inr (Or.inl (by assumption)) | exact Or.inr (Or.inr (Or.inr (Or.inr (Or.inl (by assumption))))) | exact Or.inr (Or.inr (Or.inr (Or.inr (Or.inr (by assumption)))))) (by assumption) rfl ?_)
    refine gw_cge at35_5 (by first | omega | exact o2.1 _ _) (by first | omega | exact o2.1 _ _) (fun q5 => ?_) (fun q5 => ?_)
    · refine gw_al0 at35_27 (gw_ldcs (q := 900011) at35_28 rfl ?_)
      refine gw_call2 at35_30 (c_txt 11 (by omega) hB hb1 hL o1) (by omega) (Nat.le_of_ble_eq_true rfl) (fun o M1 q30 => ?_)
      obtain ⟨rfl, rfl⟩ := q30
      show gw _ _ _ _ _ [] (gm T (txt b 11 (itI (wrf b q) c i)) J) _
      refine gw_rv at35_33 am_r35.2.1 ?_
      refine ⟨rfl, ?_⟩
      unfold wrw
      rw [show (n : Int) = i by omega]
    · refine gw_al0 at35_8 (gw_ldcs (q := 900010) at35_9 rfl ?_)
      refine gw_call2 at35_11 (c_txt 10 (by omega) hB hb1 hL o1) (by omega) (Nat.le_of_ble_eq_true rfl) (fun o M1 q11 => ?_)
      obtain ⟨rfl, rfl⟩ := q11
      show gw _ _ _ _ _ [] (gm T (txt b 10 (itI (wrf b q) c i)) J) _
      have o2 := wt 10 o1
      refine gw_al0 at35_14 (gw_al1 at35_15 (gw_il2 at35_16 (gw_ia at35_17 (by first | exact Or.inl (by assumption) | exact Or.inr (by assumption)) (by assumption) (by first | omega | exact o2.1 _ _) (by first | omega | exact o2.1 _ _) (by omega) ?_)))
      refine gw_call2 at35_18 (c_putNumber hB o2.1 o2.2.1 ⟨by rw [o2.2.2 q hqb.1 hqb.2]; exact hv i (by omega) (by omega), (o2.1 _ _).2⟩) (by omega) (Nat.le_of_ble_eq_true rfl) (fun o M1 q18 => ?_)
      obtain ⟨rfl, rfl⟩ := q18
      show gw _ _ _ _ _ [] (gm T (wrf b q i (itI (wrf b q) c i)) J) _
      refine gw_inc2 at35_21 (h := (gw_goto at35_24 ?_))
      have e := ih (i + 1) (by omega) (by omega) (by omega)
      rw [itI_s _ _ hi0] at e
      exact e
  exact lp2 0 (by omega) (by omega) (by omega)
set_option maxHeartbeats 1000000 in
theorem c_wno {g : Nat} {T : gT} {c J : gC} {k b : Nat} (hT : NT T k) (hb1 : b + 2 ≤ 900000) (hb2 : b + 2 ≤ k ∨ k + 12 ≤ b) (hB : BT T b) (hL : LT T c) (hc : RG c) (hR : BR c b) (hN : NR c k) (hM : NM c k) : gE g 30 5 [.ref k, .ref b] (gm T c J) (fun o M1 => o = .inl none ∧ M1 = gm T (wno k b c) J) := by
  have h1 := hN.1
  refine gE_mk am_r30 rfl (Or.inr ⟨_, rfl, (by first | exact NT_0 hT | exact NT_r7 hT | exact NT_t7 hT | exact NT_l7 hT | exact NT_r8 hT | exact NT_t8 hT | exact NT_l8 hT | exact NT_r9 hT | exact NT_t9 hT | exact NT_l9 hT)⟩) (fun d hd => ?_)
  show gw d g 30 0 [.ref k, .ref b, am_U] [] _ _
  refine gw_const at30_0 (gw_is2 at30_1 (h := ?_))
  have lp2 : ∀ i : Int, 0 ≤ i → i ≤ 10 → i ≤ c k 1 → gw d g 30 2 [.ref k, .ref b, gi i] [] (gm T (itI (wnf k b) c i) J) (fun o M1 => o = .inl none ∧ M1 = gm T (wno k b c) J) := by
    refine ind_up 10 ?_
    intro i hi0 hi1 ih hi2
    have o1 : WOK c b (itI (wnf k b) c i) := wi _ (WOK_0 hc hR) (fun _ _ h => wnf_ok h) i
    refine gw_il2 at30_2 ?_
    refine gw_al0 at30_3 (gw_gf (j := 1) at30_4 (by first | exact NT_0 hT | exact NT_r7 hT | exact NT_t7 hT | exact NT_l7 hT | exact NT_r8 hT | exact NT_t8 hT | exact NT_l8 hT | exact NT_r9 hT | exact NT_t9 hT | exact NT_l9 hT) rfl ?_)
    rw [o1.2.2 k (by omega) (by omega)]
    refine gw_cge at30_7 (by first | omega | exact o2.1 _ _ | exact o4.1 _ _ | exact o6.1 _ _) (by first | omega | exact o2.1 _ _ | exact o4.1 _ _ | exact o6.1 _ _) (fun q7 => ?_) (fun q7 => ?_)
    · refine gw_rv at30_70 am_r30.2.1 ?_
      refine ⟨rfl, ?_⟩
      unfold wno
      rw [show c k 1 = i by omega]
    · refine gw_al1 at30_10 (gw_ldcs (q := 900009) at30_11 rfl ?_)
      refine gw_call2 at30_13 (c_txt 9 (by omega) hB hb1 hL o1) (by omega) (Nat.le_of_ble_eq_true rfl) (fun o M1 q13 => ?_)
      obtain ⟨rfl, rfl⟩ := q13
      show gw _ _ _ _ _ [] (gm T (txt b 9 (itI (wnf k b) c i)) J) _
      have o2 := wt 9 o1
      refine gw_al1 at30_16 (gw_al0 at30_17 (gw_gr at30_18 (by first | exact NT_0 hT | exact NT_r7 hT | exact NT_t7 hT | exact NT_l7 hT | exact NT_r8 hT | exact NT_t8 hT | exact NT_l8 hT | exact NT_r9 hT | exact NT_t9 hT | exact NT_l9 hT) (by first | exact NT_0 hT | exact NT_r7 hT | exact NT_t7 hT | exact NT_l7 hT | exact NT_r8 hT | exact NT_t8 hT | exact NT_l8 hT | exact NT_r9 hT | exact NT_t9 hT | exact NT_l9 hT) (gw_il2 at30_21 (gw_ia at30_22 (by first | exact Or.inl (by first | exact NT_0 hT | exact NT_r7 hT | exact NT_t7 hT | exact NT_l7 hT | exact NT_r8 hT | exact NT_t8 hT | exact NT_l8 hT | exact NT_r9 hT | exact NT_t9 hT | exact NT_l9 hT) | exact Or.inr (by first | exact NT_0 hT | exact NT_r7 hT | exact NT_t7 hT | exact NT_l7 hT | exact NT_r8 hT | exact NT_t8 hT | exact NT_l8 hT | exact NT_r9 hT | exact NT_t9 hT | exact NT_l9 hT)) (by first | exact NT_0 hT | exact NT_r7 hT | exact NT_t7 hT | exact NT_l7 hT | exact NT_r8 hT | exact NT_t8 hT | exact NT_l8 hT | exact NT_r9 hT | exact NT_t9 hT | exact NT_l9 hT) (by first | omega | exact o2.1 _ _ | exact o4.1 _ _ | exact o6.1 _ _) (by first | omega | exact o2.1 _ _ | exact o4.1 _ _ | exact o6.1 _ _) (by omega) ?_))))
      refine gw_call2 at30_23 (c_putName hB o2.1 o2.2.1 ⟨by rw [o2.2.2 (k + 1) (by omega) (by omega)]; have := hM.1 i hi0 (by omega); omega, (o2.1 _ _).2⟩) (by omega) (Nat.le_of_ble_eq_true rfl) (fun o M1 q23 => ?_)
      obtain ⟨rfl, rfl⟩ := q23
      show gw _ _ _ _ _ [] (gm T (A1 (k + 1) b i (txt b 9 (itI (wnf k b) c i))) J) _
      have o3 : WOK c b (A1 (k + 1) b i (txt b 9 (itI (wnf k b) c i))) := wa o2
      refine gw_al1 at30_26 (gw_ldcs (q := 900010) at30_27 rfl ?_)
      refine gw_call2 at30_29 (c_txt 10 (by omega) hB hb1 hL o3) (by omega) (Nat.le_of_ble_eq_true rfl) (fun o M1 q29 => ?_)
      obtain ⟨rfl, rfl⟩ := q29
      show gw _ _ _ _ _ [] (gm T (txt b 10 (A1 (k + 1) b i (txt b 9 (itI (wnf k b) c i)))) J) _
      have o4 := wt 10 o3
      refine gw_al1 at30_32 (gw_al0 at30_33 (gw_gr at30_34 (by first | exact NT_0 hT | exact NT_r7 hT | exact NT_t7 hT | exact NT_l7 hT | exact NT_r8 hT | exact NT_t8 hT | exact NT_l8 hT | exact NT_r9 hT | exact NT_t9 hT | exact NT_l9 hT) (by first | exact NT_0 hT | exact NT_r7 hT | exact NT_t7 hT | exact NT_l7 hT | exact NT_r8 hT | exact NT_t8 hT | exact NT_l8 hT | exact NT_r9 hT | exact NT_t9 hT | exact NT_l9 hT) (gw_il2 at30_37 (gw_ia at30_38 (by first | exact Or.inl (by first | exact NT_0 hT | exact NT_r7 hT | exact NT_t7 hT | exact NT_l7 hT | exact NT_r8 hT | exact NT_t8 hT | exact NT_l8 hT | exact NT_r9 hT | exact NT_t9 hT | exact NT_l9 hT) | exact Or.inr (by first | exact NT_0 hT | exact NT_r7 hT | exact NT_t7 hT | exact NT_l7 hT | exact NT_r8 hT | exact NT_t8 hT | exact NT_l8 hT | exact NT_r9 hT | exact NT_t9 hT | exact NT_l9 hT)) (by first | exact NT_0 hT | exact NT_r7 hT | exact NT_t7 hT | exact NT_l7 hT | exact NT_r8 hT | exact NT_t8 hT | exact NT_l8 hT | exact NT_r9 hT | exact NT_t9 hT | exact NT_l9 hT) (by first | omega | exact o2.1 _ _ | exact o4.1 _ _ | exact o6.1 _ _) (by first | omega | exact o2.1 _ _ | exact o4.1 _ _ | exact o6.1 _ _) (by omega) ?_))))
      refine gw_call2 at30_39 (c_putNumber hB o4.1 o4.2.1 ⟨by rw [o4.2.2 (k + 2) (by omega) (by omega)]; have := hN.2.2.1 i hi0 (by omega); omega, (o4.1 _ _).2⟩) (by omega) (Nat.le_of_ble_eq_true rfl) (fun o M1 q39 => ?_)
      obtain ⟨rfl, rfl⟩ := q39
      show gw _ _ _ _ _ [] (gm T (P1 (k + 2) b i (txt b 10 (A1 (k + 1) b i (txt b 9 (itI (wnf k b) c i))))) J) _
      have o5 : WOK c b (P1 (k + 2) b i (txt b 10 (A1 (k + 1) b i (txt b 9 (itI (wnf k b) c i))))) := wp o4
      refine gw_al1 at30_42 (gw_ldcs (q := 900010) at30_43 rfl ?_)
      refine gw_call2 at30_45 (c_txt 10 (by omega) hB hb1 hL o5) (by omega) (Nat.le_of_ble_eq_true rfl) (fun o M1 q45 => ?_)
      obtain ⟨rfl, rfl⟩ := q45
      show gw _ _ _ _ _ [] (gm T (txt b 10 (P1 (k + 2) b i (txt b 10 (A1 (k + 1) b i (txt b 9 (itI (wnf k b) c i)))))) J) _
      have o6 := wt 10 o5
      refine gw_al1 at30_48 (gw_al0 at30_49 (gw_gr at30_50 (by first | exact NT_0 hT | exact NT_r7 hT | exact NT_t7 hT | exact NT_l7 hT | exact NT_r8 hT | exact NT_t8 hT | exact NT_l8 hT | exact NT_r9 hT | exact NT_t9 hT | exact NT_l9 hT) (by first | exact NT_0 hT | exact NT_r7 hT | exact NT_t7 hT | exact NT_l7 hT | exact NT_r8 hT | exact NT_t8 hT | exact NT_l8 hT | exact NT_r9 hT | exact NT_t9 hT | exact NT_l9 hT) (gw_il2 at30_53 (gw_ia at30_54 (by first | exact Or.inl (by first | exact NT_0 hT | exact NT_r7 hT | exact NT_t7 hT | exact NT_l7 hT | exact NT_r8 hT | exact NT_t8 hT | exact NT_l8 hT | exact NT_r9 hT | exact NT_t9 hT | exact NT_l9 hT) | exact Or.inr (by first | exact NT_0 hT | exact NT_r7 hT | exact NT_t7 hT | exact NT_l7 hT | exact NT_r8 hT | exact NT_t8 hT | exact NT_l8 hT | exact NT_r9 hT | exact NT_t9 hT | exact NT_l9 hT)) (by first | exact NT_0 hT | exact NT_r7 hT | exact NT_t7 hT | exact NT_l7 hT | exact NT_r8 hT | exact NT_t8 hT | exact NT_l8 hT | exact NT_r9 hT | exact NT_t9 hT | exact NT_l9 hT) (by first | omega | exact o2.1 _ _ | exact o4.1 _ _ | exact o6.1 _ _) (by first | omega | exact o2.1 _ _ | exact o4.1 _ _ | exact o6.1 _ _) (by omega) ?_))))
      refine gw_call2 at30_55 (c_putNumber hB o6.1 o6.2.1 ⟨by rw [o6.2.2 (k + 3) (by omega) (by omega)]; have := hN.2.2.1 i hi0 (by omega); omega, (o6.1 _ _).2⟩) (by omega) (Nat.le_of_ble_eq_true rfl) (fun o M1 q55 => ?_)
      obtain ⟨rfl, rfl⟩ := q55
      show gw _ _ _ _ _ [] (gm T (P1 (k + 3) b i (txt b 10 (P1 (k + 2) b i (txt b 10 (A1 (k + 1) b i (txt b 9 (itI (wnf k b) c i))))))) J) _
      have o7 : WOK c b (P1 (k + 3) b i (txt b 10 (P1 (k + 2) b i (txt b 10 (A1 (k + 1) b i (txt b 9 (itI (wnf k b) c i))))))) := wp o6
      refine gw_al1 at30_58 (gw_ldcs (q := 900011) at30_59 rfl ?_)
      refine gw_call2 at30_61 (c_txt 11 (by omega) hB hb1 hL o7) (by omega) (Nat.le_of_ble_eq_true rfl) (fun o M1 q61 => ?_)
      obtain ⟨rfl, rfl⟩ := q61
      show gw _ _ _ _ _ [] (gm T (wnf k b i (itI (wnf k b) c i)) J) _
      refine gw_inc2 at30_64 (h := (gw_goto at30_67 ?_))
      have e := ih (i + 1) (by omega) (by omega) (by omega)
      rw [itI_s _ _ hi0] at e
      exact e
  exact lp2 0 (by omega) (by omega) (by omega)
set_option maxHeartbeats 1000000 in
theorem c_wsn {g : Nat} {T : gT} {c J : gC} {k b : Nat} (hT : NT T k) (hb1 : b + 2 ≤ 900000) (hb2 : b + 2 ≤ k ∨ k + 12 ≤ b) (hB : BT T b) (hL : LT T c) (hc : RG c) (hR : BR c b) (hN : NR c k) (hM : NM c k) (hsn : ∀ i : Int, 0 ≤ i → i < 12 → 0 ≤ c (k + 9) i) : gE g 33 5 [.ref k, .ref b] (gm T c J) (fun o M1 => o = .inl none ∧ M1 = gm T (wsn k b c) J) := by
  have h1 := hN.2.1
  refine gE_mk am_r33 rfl (Or.inr ⟨_, rfl, (by first | exact NT_0 hT | exact NT_r10 hT | exact NT_t10 hT | exact NT_l10 hT | exact NT_r15 hT | exact NT_t15 hT | exact NT_l15 hT)⟩) (fun d hd => ?_)
  show gw d g 33 0 [.ref k, .ref b, am_U] [] _ _
  refine gw_const at33_0 (gw_is2 at33_1 (h := ?_))
  have lp2 : ∀ i : Int, 0 ≤ i → i ≤ 12 → i ≤ c k 2 → gw d g 33 2 [.ref k, .ref b, gi i] [] (gm T (itI (wsf k b) c i) J) (fun o M1 => o = .inl none ∧ M1 = gm T (wsn k b c) J) := by
    refine ind_up 12 ?_
    intro i hi0 hi1 ih hi2
    have o1 : WOK c b (itI (wsf k b) c i) := wi _ (WOK_0 hc hR) (fun _ _ h => wsf_ok h) i
    refine gw_il2 at33_2 ?_
    refine gw_al0 at33_3 (gw_gf (j := 2) at33_4 (by first | exact NT_0 hT | exact NT_r10 hT | exact NT_t10 hT | exact NT_l10 hT | exact NT_r15 hT | exact NT_t15 hT | exact NT_l15 hT) rfl ?_)
    rw [o1.2.2 k (by omega) (by omega)]
    refine gw_cge at33_7 (by first | omega | exact o1.1 _ _ | exact o2.1 _ _ | exact o4.1 _ _) (by first | omega | exact o1.1 _ _ | exact o2.1 _ _ | exact o4.1 _ _) (fun q7 => ?_) (fun q7 => ?_)
    · refine gw_rv at33_63 am_r33.2.1 ?_
      refine ⟨rfl, ?_⟩
      unfold wsn
      rw [show c k 2 = i by omega]
    · refine gw_al0 at33_10 (gw_gr at33_11 (by first | exact NT_0 hT | exact NT_r10 hT | exact NT_t10 hT | exact NT_l10 hT | exact NT_r15 hT | exact NT_t15 hT | exact NT_l15 hT) (by first | exact NT_0 hT | exact NT_r10 hT | exact NT_t10 hT | exact NT_l10 hT | exact NT_r15 hT | exact NT_t15 hT | exact NT_l15 hT) (gw_il2 at33_14 (gw_ia at33_15 (by first | exact Or.inl (by first | exact NT_0 hT | exact NT_r10 hT | exact NT_t10 hT | exact NT_l10 hT | exact NT_r15 hT | exact NT_t15 hT | exact NT_l15 hT) | exact Or.inr (by first | exact NT_0 hT | exact NT_r10 hT | exact NT_t10 hT | exact NT_l10 hT | exact NT_r15 hT | exact NT_t15 hT | exact NT_l15 hT)) (by first | exact NT_0 hT | exact NT_r10 hT | exact NT_t10 hT | exact NT_l10 hT | exact NT_r15 hT | exact NT_t15 hT | exact NT_l15 hT) (by first | omega | exact o1.1 _ _ | exact o2.1 _ _ | exact o4.1 _ _) (by first | omega | exact o1.1 _ _ | exact o2.1 _ _ | exact o4.1 _ _) (by omega) ?_)))
      refine gw_zeq at33_16 (by first | omega | exact o1.1 _ _ | exact o2.1 _ _ | exact o4.1 _ _) (fun q16 => ?_) (fun q16 => ?_)
      · refine gw_inc2 at33_57 (h := (gw_goto at33_60 ?_))
        have e := ih (i + 1) (by omega) (by omega) (by omega)
        rw [itI_s _ _ hi0] at e
        first | (rw [show wsf k b i (itI (wsf k b) c i) = (itI (wsf k b) c i) from if_pos (by assumption)] at e; exact e) | (rw [show wsf k b i (itI (wsf k b) c i) = txt b 11 (P1 (k + 9) b i (txt b 10 (A1 (k + 4) b i (txt b 17 (itI (wsf k b) c i))))) from if_neg (by assumption)] at e; exact e)
      · refine gw_al1 at33_19 (gw_ldcs (q := 900017) at33_20 rfl ?_)
        refine gw_call2 at33_22 (c_txt 17 (by omega) hB hb1 hL o1) (by omega) (Nat.le_of_ble_eq_true rfl) (fun o M1 q22 => ?_)
        obtain ⟨rfl, rfl⟩ := q22
        show gw _ _ _ _ _ [] (gm T (txt b 17 (itI (wsf k b) c i)) J) _
        have o2 := wt 17 o1
        refine gw_al1 at33_25 (gw_al0 at33_26 (gw_gr at33_27 (by first | exact NT_0 hT | exact NT_r10 hT | exact NT_t10 hT | exact NT_l10 hT | exact NT_r15 hT | exact NT_t15 hT | exact NT_l15 hT) (by first | exact NT_0 hT | exact NT_r10 hT | exact NT_t10 hT | exact NT_l10 hT | exact NT_r15 hT | exact NT_t15 hT | exact NT_l15 hT) (gw_il2 at33_30 (gw_ia at33_31 (by first | exact Or.inl (by first | exact NT_0 hT | exact NT_r10 hT | exact NT_t10 hT | exact NT_l10 hT | exact NT_r15 hT | exact NT_t15 hT | exact NT_l15 hT) | exact Or.inr (by first | exact NT_0 hT | exact NT_r10 hT | exact NT_t10 hT | exact NT_l10 hT | exact NT_r15 hT | exact NT_t15 hT | exact NT_l15 hT)) (by first | exact NT_0 hT | exact NT_r10 hT | exact NT_t10 hT | exact NT_l10 hT | exact NT_r15 hT | exact NT_t15 hT | exact NT_l15 hT) (by first | omega | exact o1.1 _ _ | exact o2.1 _ _ | exact o4.1 _ _) (by first | omega | exact o1.1 _ _ | exact o2.1 _ _ | exact o4.1 _ _) (by omega) ?_))))
        refine gw_call2 at33_32 (c_putName hB o2.1 o2.2.1 ⟨by rw [o2.2.2 (k + 4) (by omega) (by omega)]; have := hM.2 i hi0 (by omega); omega, (o2.1 _ _).2⟩) (by omega) (Nat.le_of_ble_eq_true rfl) (fun o M1 q32 => ?_)
        obtain ⟨rfl, rfl⟩ := q32
        show gw _ _ _ _ _ [] (gm T (A1 (k + 4) b i (txt b 17 (itI (wsf k b) c i))) J) _
        have o3 : WOK c b (A1 (k + 4) b i (txt b 17 (itI (wsf k b) c i))) := wa o2
        refine gw_al1 at33_35 (gw_ldcs (q := 900010) at33_36 rfl ?_)
        refine gw_call2 at33_38 (c_txt 10 (by omega) hB hb1 hL o3) (by omega) (Nat.le_of_ble_eq_true rfl) (fun o M1 q38 => ?_)
        obtain ⟨rfl, rfl⟩ := q38
        show gw _ _ _ _ _ [] (gm T (txt b 10 (A1 (k + 4) b i (txt b 17 (itI (wsf k b) c i)))) J) _
        have o4 := wt 10 o3
        refine gw_al1 at33_41 (gw_al0 at33_42 (gw_gr at33_43 (by first | exact NT_0 hT | exact NT_r10 hT | exact NT_t10 hT | exact NT_l10 hT | exact NT_r15 hT | exact NT_t15 hT | exact NT_l15 hT) (by first | exact NT_0 hT | exact NT_r10 hT | exact NT_t10 hT | exact NT_l10 hT | exact NT_r15 hT | exact NT_t15 hT | exact NT_l15 hT) (gw_il2 at33_46 (gw_ia at33_47 (by first | exact Or.inl (by first | exact NT_0 hT | exact NT_r10 hT | exact NT_t10 hT | exact NT_l10 hT | exact NT_r15 hT | exact NT_t15 hT | exact NT_l15 hT) | exact Or.inr (by first | exact NT_0 hT | exact NT_r10 hT | exact NT_t10 hT | exact NT_l10 hT | exact NT_r15 hT | exact NT_t15 hT | exact NT_l15 hT)) (by first | exact NT_0 hT | exact NT_r10 hT | exact NT_t10 hT | exact NT_l10 hT | exact NT_r15 hT | exact NT_t15 hT | exact NT_l15 hT) (by first | omega | exact o1.1 _ _ | exact o2.1 _ _ | exact o4.1 _ _) (by first | omega | exact o1.1 _ _ | exact o2.1 _ _ | exact o4.1 _ _) (by omega) ?_))))
        refine gw_call2 at33_48 (c_putNumber hB o4.1 o4.2.1 ⟨by rw [o4.2.2 (k + 9) (by omega) (by omega)]; have := hsn i hi0 (by omega); omega, (o4.1 _ _).2⟩) (by omega) (Nat.le_of_ble_eq_true rfl) (fun o M1 q48 => ?_)
        obtain ⟨rfl, rfl⟩ := q48
        show gw _ _ _ _ _ [] (gm T (P1 (k + 9) b i (txt b 10 (A1 (k + 4) b i (txt b 17 (itI (wsf k b) c i))))) J) _
        have o5 : WOK c b (P1 (k + 9) b i (txt b 10 (A1 (k + 4) b i (txt b 17 (itI (wsf k b) c i))))) := wp o4
        refine gw_al1 at33_51 (gw_ldcs (q := 900011) at33_52 rfl ?_)
        refine gw_call2 at33_54 (c_txt 11 (by omega) hB hb1 hL o5) (by omega) (Nat.le_of_ble_eq_true rfl) (fun o M1 q54 => ?_)
        obtain ⟨rfl, rfl⟩ := q54
        show gw _ _ _ _ _ [] (gm T (txt b 11 (P1 (k + 9) b i (txt b 10 (A1 (k + 4) b i (txt b 17 (itI (wsf k b) c i)))))) J) _
        refine gw_inc2 at33_57 (h := (gw_goto at33_60 ?_))
        have e := ih (i + 1) (by omega) (by omega) (by omega)
        rw [itI_s _ _ hi0] at e
        first | (rw [show wsf k b i (itI (wsf k b) c i) = (itI (wsf k b) c i) from if_pos (by assumption)] at e; exact e) | (rw [show wsf k b i (itI (wsf k b) c i) = txt b 11 (P1 (k + 9) b i (txt b 10 (A1 (k + 4) b i (txt b 17 (itI (wsf k b) c i))))) from if_neg (by assumption)] at e; exact e)
  exact lp2 0 (by omega) (by omega) (by omega)
