/-! the reference: statements written -/
theorem wits_ok {f : Int → gC → gC} {c : gC} {N s : Int} (hf : ∀ i m, 0 ≤ i → i < N → RG m → (∀ x : Nat, ¬ x = 500001 → ¬ x = 200010 → m x = c x) → 0 ≤ m 500001 25 ∧ m 500001 25 + s ≤ 1500 → WK m (f i m) s) (hc : RG c) (hs : 0 ≤ s) (h : 0 ≤ c 500001 25 ∧ c 500001 25 + s * N ≤ 1500) {i : Int} (h0 : 0 ≤ i) (h1 : i ≤ N) : WK c (itI f c i) (s * i) := by
  refine itI_inv3 (fun k m => WK c m (s * k)) (N := N) (by rw [Int.mul_zero]; exact WK_rf hc) (fun j m j0 j1 hm => ?_) h0 h1
  have h5 := hm.2.1
  have h6 := Int.mul_le_mul_of_nonneg_left (show j + 1 ≤ N by omega) hs

  rw [Int.mul_add, Int.mul_one] at h6 ⊢
  exact WK_tr hm (hf j m j0 j1 hm.1 hm.2.2.1 (by omega))
/-- names and depths that a text holds -/
def ND (c : gC) : Prop := (∀ n : Int, 0 ≤ n → n < 10 → 0 ≤ c 200000 (22 + 3 * n) ∧ c 200000 (22 + 3 * n) < 387420489) ∧ ∀ r : Int, 0 ≤ r → r < 12 → (0 ≤ c 200000 (52 + 7 * r + 0) ∧ c 200000 (52 + 7 * r + 0) < 387420489) ∧ (0 ≤ c 200000 (52 + 7 * r + 6) ∧ c 200000 (52 + 7 * r + 6) ≤ 999)
theorem ND_of {c m : gC} (h : ND c) (e : m 200000 = c 200000) : ND m := by
  unfold ND at h ⊢
  rw [e]
  exact h
def mwnf (c : gC) (a i : Int) (m : gC) : gC := mwn (c 200000 (a + i)) m
def mwns (n l : Nat) (a k : Int) (c : gC) : gC := mput (itI (mwnf c a) (mwt c n l) k) 59
def mwnn (n : Int) (c : gC) : gC := mwm (c 200000 (22 + 3 * n)) c
def mwno (n : Int) (c : gC) : gC := mput (mwn (myo c 200000 n) (mwn (mxo c 200000 n) (mwnn n (mwt c 0 4)))) 59
def mwr2 (b : Bool) (m : gC) : gC := if b = true then mwt m 19 7 else m
def mwr1 (r : Int) (c : gC) : gC := mwn (c 200000 (52 + 7 * r + 4)) (mwn (c 200000 (52 + 7 * r + 3)) (mwnn (c 200000 (52 + 7 * r + 2)) (mwnn (c 200000 (52 + 7 * r + 1)) (mwm (c 200000 (52 + 7 * r + 0)) (mwt c 1 4)))))
def mwro (r : Int) (c : gC) : gC := mput (mwr2 (decide (c 200000 (52 + 7 * r + 5) = 1)) (mwr1 r c)) 59
def mwso (r : Int) (c : gC) : gC := if c 200000 (52 + 7 * r + 6) = 0 then c else mput (mwn (c 200000 (52 + 7 * r + 6)) (mwm (c 200000 (52 + 7 * r + 0)) (mwt c 7 4))) 59
theorem WK_n {c m : gC} {L : Int} (h : WK c m L) : m 200000 = c 200000 := h.2.2.1 200000 (by decide) (by decide)
theorem WK_25 {c m : gC} {L : Int} (h : WK c m L) : c 500001 25 ≤ m 500001 25 ∧ m 500001 25 ≤ c 500001 25 + L := h.2.1
theorem mwnf_ok {c : gC} {a : Int} {x : gC} (i : Int) (m : gC) (h : RG m) (h2 : 0 ≤ m 500001 25 ∧ m 500001 25 + 5 ≤ 1500) : WK m (mwnf c a i m) 5 := mwn_ok h h2
theorem mwno_ok {n : Int} {c : gC} (hc : RG c) (h : 0 ≤ c 500001 25 ∧ c 500001 25 + 22 ≤ 1500) : WK c (mwno n c) 22 := by
  have w1 := mwt_ok (n := 0) (l := 4) (by decide) hc (by omega)
  have := WK_25 w1
  have w2 := WK_tr w1 (mwm_ok (v := mwt c 0 4 200000 (22 + 3 * n)) w1.1 (by omega))
  have := WK_25 w2
  have w3 := WK_tr w2 (mwn_ok (v := mxo c 200000 n) w2.1 (by omega))
  have := WK_25 w3
  have w4 := WK_tr w3 (mwn_ok (v := myo c 200000 n) w3.1 (by omega))
  have := WK_25 w4
  exact WK_le (WK_tr w4 (mput_ok (v := 59) w4.1 (by omega))) (by decide)
theorem mwr1_ok {r : Int} {c : gC} (hc : RG c) (h : 0 ≤ c 500001 25 ∧ c 500001 25 + 35 ≤ 1500) : WK c (mwr1 r c) 35 := by
  have w1 := mwt_ok (n := 1) (l := 4) (by decide) hc (by omega)
  have := WK_25 w1
  have w2 := WK_tr w1 (mwm_ok (v := c 200000 (52 + 7 * r + 0)) w1.1 (by omega))
  have := WK_25 w2
  have w3 := WK_tr w2 (mwm_ok (v := mwm (c 200000 (52 + 7 * r + 0)) (mwt c 1 4) 200000 (22 + 3 * c 200000 (52 + 7 * r + 1))) w2.1 (by omega))
  have := WK_25 w3
  have w4 := WK_tr w3 (mwm_ok (v := mwnn (c 200000 (52 + 7 * r + 1)) (mwm (c 200000 (52 + 7 * r + 0)) (mwt c 1 4)) 200000 (22 + 3 * c 200000 (52 + 7 * r + 2))) w3.1 (by omega))
  have := WK_25 w4
  have w5 := WK_tr w4 (mwn_ok (v := c 200000 (52 + 7 * r + 3)) w4.1 (by omega))
  have := WK_25 w5
  exact WK_le (WK_tr w5 (mwn_ok (v := c 200000 (52 + 7 * r + 4)) w5.1 (by omega))) (by decide)
theorem mwr2_ok {b : Bool} {c : gC} (hc : RG c) (h : 0 ≤ c 500001 25 ∧ c 500001 25 + 7 ≤ 1500) : WK c (mwr2 b c) 7 := by
  unfold mwr2
  split
  · exact mwt_ok (by decide) hc h
  · exact WK_le (WK_rf hc) (by decide)
theorem mwro_ok {r : Int} {c : gC} (hc : RG c) (h : 0 ≤ c 500001 25 ∧ c 500001 25 + 43 ≤ 1500) : WK c (mwro r c) 43 := by
  have w1 := mwr1_ok (r := r) hc (by omega)
  have := WK_25 w1
  have w2 := WK_tr w1 (mwr2_ok (b := decide (c 200000 (52 + 7 * r + 5) = 1)) w1.1 (by omega))
  have := WK_25 w2
  exact WK_le (WK_tr w2 (mput_ok (v := 59) w2.1 (by omega))) (by decide)
theorem mwso_ok {r : Int} {c : gC} (hc : RG c) (h : 0 ≤ c 500001 25 ∧ c 500001 25 + 17 ≤ 1500) : WK c (mwso r c) 17 := by
  unfold mwso
  split
  · exact WK_le (WK_rf hc) (by decide)
  · have w1 := mwt_ok (n := 7) (l := 4) (by decide) hc (by omega)
    have := WK_25 w1
    have w2 := WK_tr w1 (mwm_ok (v := c 200000 (52 + 7 * r + 0)) w1.1 (by omega))
    have := WK_25 w2
    have w3 := WK_tr w2 (mwn_ok (v := c 200000 (52 + 7 * r + 6)) w2.1 (by omega))
    have := WK_25 w3
    exact WK_le (WK_tr w3 (mput_ok (v := 59) w3.1 (by omega))) (by decide)
theorem mwns1_ok {n l : Nat} {a k : Int} {c : gC} (hk : 0 ≤ k) (hc : RG c) (h : 0 ≤ c 500001 25 ∧ c 500001 25 + ((l : Int) + 5 * k) ≤ 1500) {i : Int} (h0 : 0 ≤ i) (h1 : i ≤ k) : WK c (itI (mwnf c a) (mwt c n l) i) ((l : Int) + 5 * i) := by
  have w1 := mwt_ok (n := n) (l := (l : Int)) (by omega) hc (by omega)
  have := WK_25 w1
  exact WK_tr w1 (wits_ok (N := k) (fun i m _ _ h2 _ h3 => mwn_ok h2 h3) w1.1 (by decide) (by omega) h0 h1)
theorem mwns_ok {n l : Nat} {a k : Int} {c : gC} (hk : 0 ≤ k) (hc : RG c) (h : 0 ≤ c 500001 25 ∧ c 500001 25 + ((l : Int) + 5 * k + 1) ≤ 1500) : WK c (mwns n l a k c) ((l : Int) + 5 * k + 1) := by
  have w1 := mwns1_ok (n := n) (l := l) (a := a) hk hc (by omega) hk (Int.le_refl _)
  have := WK_25 w1
  exact WK_tr w1 (mput_ok (v := 59) w1.1 (by omega))
set_option maxHeartbeats 1000000 in
theorem m_writeNumbers {g : Nat} {T : gT} {c J : gC} (hM : MT T 200000) (hc : RG c) {n l : Nat} {a k : Int} (hA : 0 ≤ c 500001 25 ∧ c 500001 25 + ((l : Int) + 5 * k + 1) ≤ 1500) (hL : LT T c) (hn : n < 20) (hl : am_tlen.getD n 0 = l) (ha : 0 ≤ a ∧ a + k ≤ 208) (hk : 0 ≤ k ∧ k ≤ 4) (hv : ∀ i, 0 ≤ i → i < k → 0 ≤ c 200000 (a + i) ∧ c 200000 (a + i) ≤ 9999) : gE g 325 5 [.ref 500001, .ref (900000 + n), gi a, gi k] (gm T c J) (fun o M1 => o = .inl none ∧ M1 = gm T (mwns n l a k c) J) := by
  refine gE_mk am_r325 rfl (Or.inr ⟨_, rfl, (by first | exact MT_0 hM | exact MT_now hM | exact MT_bt hM | exact MT_bl hM | exact MT_r0 hM | exact MT_t0 hM | exact MT_l0 hM | exact MT_r1 hM | exact MT_t1 hM | exact MT_l1 hM | exact MT_r2 hM | exact MT_t2 hM | exact MT_l2 hM | exact MT_r3 hM | exact MT_t3 hM | exact MT_l3 hM | exact MT_r4 hM | exact MT_t4 hM | exact MT_l4 hM | exact MT_r5 hM | exact MT_t5 hM | exact MT_l5 hM | exact MT_r6 hM | exact MT_t6 hM | exact MT_l6 hM | exact MT_r7 hM | exact MT_t7 hM | exact MT_l7 hM | exact MT_r8 hM | exact MT_t8 hM | exact MT_l8 hM | exact MT_r9 hM | exact MT_t9 hM | exact MT_l9 hM | exact MT_r10 hM | exact MT_t10 hM | exact MT_l10 hM)⟩) (fun d hd => ?_)
  show gw d g 325 0 [.ref 500001, .ref (900000 + n), gi a, gi k, am_U] [] _ _
  refine gw_al0 at325_0 (gw_al1 at325_1 ?_)
  refine gw_call2 at325_2 (m_writeText hM hc (by omega) hL hn hl) (by omega) (Nat.le_of_ble_eq_true rfl) (fun o M1 q2 => ?_)
  obtain ⟨rfl, rfl⟩ := q2
  show gw _ _ _ _ _ [] _ _
  refine gw_const at325_5 (gw_is4 at325_6 (h := ?_))
  have lp8 : ∀ i : Int, 0 ≤ i → i ≤ 4 → i ≤ k → gw d g 325 8 [.ref 500001, .ref (900000 + n), gi a, gi k, gi i] [] (gm T (itI (mwnf c a) (mwt c n l) i) J) (fun o M1 => o = .inl none ∧ M1 = gm T (mwns n l a k c) J) := by
    refine ind_up 4 ?_
    intro i hi0 hi1 ih hi2
    have wk := mwns1_ok (n := n) (l := l) (a := a) hk.1 hc (by omega) hi0 hi2
    have w2 := WK_25 wk
    have w3 := WK_n wk
    refine gw_il4 at325_8 ?_
    refine gw_il3 at325_10 ?_
    refine gw_cge at325_11 (by first | omega | exact hc _ _ | exact wk.1 _ _) (by first | omega | exact hc _ _ | exact wk.1 _ _) (fun q11 => ?_) (fun q11 => ?_)
    · have e : i = k := by omega
      subst e
      refine gw_al0 at325_33 (gw_bip at325_34 (by decide) ?_)
      refine gw_call2 at325_36 (m_write hM wk.1 (by omega)) (by omega) (Nat.le_of_ble_eq_true rfl) (fun o M1 q36 => ?_)
      obtain ⟨rfl, rfl⟩ := q36
      show gw _ _ _ _ _ [] _ _
      refine gw_rv at325_39 am_r325.2.1 ⟨rfl, rfl⟩
      skip
    · refine gw_al0 at325_14 (gw_al0 at325_15 (gw_gr at325_16 (by first | exact MT_0 hM | exact MT_now hM | exact MT_bt hM | exact MT_bl hM | exact MT_r0 hM | exact MT_t0 hM | exact MT_l0 hM | exact MT_r1 hM | exact MT_t1 hM | exact MT_l1 hM | exact MT_r2 hM | exact MT_t2 hM | exact MT_l2 hM | exact MT_r3 hM | exact MT_t3 hM | exact MT_l3 hM | exact MT_r4 hM | exact MT_t4 hM | exact MT_l4 hM | exact MT_r5 hM | exact MT_t5 hM | exact MT_l5 hM | exact MT_r6 hM | exact MT_t6 hM | exact MT_l6 hM | exact MT_r7 hM | exact MT_t7 hM | exact MT_l7 hM | exact MT_r8 hM | exact MT_t8 hM | exact MT_l8 hM | exact MT_r9 hM | exact MT_t9 hM | exact MT_l9 hM | exact MT_r10 hM | exact MT_t10 hM | exact MT_l10 hM) (by first | exact MT_0 hM | exact MT_now hM | exact MT_bt hM | exact MT_bl hM | exact MT_r0 hM | exact MT_t0 hM | exact MT_l0 hM | exact MT_r1 hM | exact MT_t1 hM | exact MT_l1 hM | exact MT_r2 hM | exact MT_t2 hM | exact MT_l2 hM | exact MT_r3 hM | exact MT_t3 hM | exact MT_l3 hM | exact MT_r4 hM | exact MT_t4 hM | exact MT_l4 hM | exact MT_r5 hM | exact MT_t5 hM | exact MT_l5 hM | exact MT_r6 hM | exact MT_t6 hM | exact MT_l6 hM | exact MT_r7 hM | exact MT_t7 hM | exact MT_l7 hM | exact MT_r8 hM | exact MT_t8 hM | exact MT_l8 hM | exact MT_r9 hM | exact MT_t9 hM | exact MT_l9 hM | exact MT_r10 hM | exact MT_t10 hM | exact MT_l10 hM) (gw_il2 at325_19 (gw_il4 at325_20 (gw_iadd at325_22 (gw_ia at325_23 (by first | exact Or.inl (by first | exact MT_0 hM | exact MT_now hM | exact MT_bt hM | exact MT_bl hM | exact MT_r0 hM | exact MT_t0 hM | exact MT_l0 hM | exact MT_r1 hM | exact MT_t1 hM | exact MT_l1 hM | exact MT_r2 hM | exact MT_t2 hM | exact MT_l2 hM | exact MT_r3 hM | exact MT_t3 hM | exact MT_l3 hM | exact MT_r4 hM | exact MT_t4 hM | exact MT_l4 hM | exact MT_r5 hM | exact MT_t5 hM | exact MT_l5 hM | exact MT_r6 hM | exact MT_t6 hM | exact MT_l6 hM | exact MT_r7 hM | exact MT_t7 hM | exact MT_l7 hM | exact MT_r8 hM | exact MT_t8 hM | exact MT_l8 hM | exact MT_r9 hM | exact MT_t9 hM | exact MT_l9 hM | exact MT_r10 hM | exact MT_t10 hM | exact MT_l10 hM) | exact Or.inr (by first | exact MT_0 hM | exact MT_now hM | exact MT_bt hM | exact MT_bl hM | exact MT_r0 hM | exact MT_t0 hM | exact MT_l0 hM | exact MT_r1 hM | exact MT_t1 hM | exact MT_l1 hM | exact MT_r2 hM | exact MT_t2 hM | exact MT_l2 hM | exact MT_r3 hM | exact MT_t3 hM | exact MT_l3 hM | exact MT_r4 hM | exact MT_t4 hM | exact MT_l4 hM | exact MT_r5 hM | exact MT_t5 hM | exact MT_l5 hM | exact MT_r6 hM | exact MT_t6 hM | exact MT_l6 hM | exact MT_r7 hM | exact MT_t7 hM | exact MT_l7 hM | exact MT_r8 hM | exact MT_t8 hM | exact MT_l8 hM | exact MT_r9 hM | exact MT_t9 hM | exact MT_l9 hM | exact MT_r10 hM | exact MT_t10 hM | exact MT_l10 hM)) (by first | exact MT_0 hM | exact MT_now hM | exact MT_bt hM | exact MT_bl hM | exact MT_r0 hM | exact MT_t0 hM | exact MT_l0 hM | exact MT_r1 hM | exact MT_t1 hM | exact MT_l1 hM | exact MT_r2 hM | exact MT_t2 hM | exact MT_l2 hM | exact MT_r3 hM | exact MT_t3 hM | exact MT_l3 hM | exact MT_r4 hM | exact MT_t4 hM | exact MT_l4 hM | exact MT_r5 hM | exact MT_t5 hM | exact MT_l5 hM | exact MT_r6 hM | exact MT_t6 hM | exact MT_l6 hM | exact MT_r7 hM | exact MT_t7 hM | exact MT_l7 hM | exact MT_r8 hM | exact MT_t8 hM | exact MT_l8 hM | exact MT_r9 hM | exact MT_t9 hM | exact MT_l9 hM | exact MT_r10 hM | exact MT_t10 hM | exact MT_l10 hM) (by first | omega | exact hc _ _ | exact wk.1 _ _) (by first | omega | exact hc _ _ | exact wk.1 _ _) (by omega) ?_))))))
      rw [w3]
      refine gw_call2 at325_24 (m_writeNumber hM wk.1 (by omega) (hv i hi0 (by omega))) (by omega) (Nat.le_of_ble_eq_true rfl) (fun o M1 q24 => ?_)
      obtain ⟨rfl, rfl⟩ := q24
      show gw _ _ _ _ _ [] _ _
      refine gw_inc4 at325_27 (h := (gw_goto at325_30 ?_))
      have h9 := ih (i + 1) (by omega) (by omega) (by omega)
      rw [itI_s _ _ hi0] at h9
      exact h9
  exact lp8 0 (by decide) (by decide) hk.1
set_option maxHeartbeats 1000000 in
theorem m_writeNodeName {g : Nat} {T : gT} {c J : gC} (hM : MT T 200000) (hc : RG c) (hA : 0 ≤ c 500001 25 ∧ c 500001 25 + 7 ≤ 1500) (hN : ND c) {n : Int} (hn : 0 ≤ n ∧ n < 10) : gE g 326 2 [.ref 500001, gi n] (gm T c J) (fun o M1 => o = .inl none ∧ M1 = gm T (mwnn n c) J) := by
  refine gE_mk am_r326 rfl (Or.inr ⟨_, rfl, (by first | exact MT_0 hM | exact MT_now hM | exact MT_bt hM | exact MT_bl hM | exact MT_r0 hM | exact MT_t0 hM | exact MT_l0 hM | exact MT_r1 hM | exact MT_t1 hM | exact MT_l1 hM | exact MT_r2 hM | exact MT_t2 hM | exact MT_l2 hM | exact MT_r3 hM | exact MT_t3 hM | exact MT_l3 hM | exact MT_r4 hM | exact MT_t4 hM | exact MT_l4 hM | exact MT_r5 hM | exact MT_t5 hM | exact MT_l5 hM | exact MT_r6 hM | exact MT_t6 hM | exact MT_l6 hM | exact MT_r7 hM | exact MT_t7 hM | exact MT_l7 hM | exact MT_r8 hM | exact MT_t8 hM | exact MT_l8 hM | exact MT_r9 hM | exact MT_t9 hM | exact MT_l9 hM | exact MT_r10 hM | exact MT_t10 hM | exact MT_l10 hM)⟩) (fun d hd => ?_)
  show gw d g 326 0 [.ref 500001, gi n] [] _ _
  refine gw_al0 at326_0 (gw_al0 at326_1 (gw_gr at326_2 (by first | exact MT_0 hM | exact MT_now hM | exact MT_bt hM | exact MT_bl hM | exact MT_r0 hM | exact MT_t0 hM | exact MT_l0 hM | exact MT_r1 hM | exact MT_t1 hM | exact MT_l1 hM | exact MT_r2 hM | exact MT_t2 hM | exact MT_l2 hM | exact MT_r3 hM | exact MT_t3 hM | exact MT_l3 hM | exact MT_r4 hM | exact MT_t4 hM | exact MT_l4 hM | exact MT_r5 hM | exact MT_t5 hM | exact MT_l5 hM | exact MT_r6 hM | exact MT_t6 hM | exact MT_l6 hM | exact MT_r7 hM | exact MT_t7 hM | exact MT_l7 hM | exact MT_r8 hM | exact MT_t8 hM | exact MT_l8 hM | exact MT_r9 hM | exact MT_t9 hM | exact MT_l9 hM | exact MT_r10 hM | exact MT_t10 hM | exact MT_l10 hM) (by first | exact MT_0 hM | exact MT_now hM | exact MT_bt hM | exact MT_bl hM | exact MT_r0 hM | exact MT_t0 hM | exact MT_l0 hM | exact MT_r1 hM | exact MT_t1 hM | exact MT_l1 hM | exact MT_r2 hM | exact MT_t2 hM | exact MT_l2 hM | exact MT_r3 hM | exact MT_t3 hM | exact MT_l3 hM | exact MT_r4 hM | exact MT_t4 hM | exact MT_l4 hM | exact MT_r5 hM | exact MT_t5 hM | exact MT_l5 hM | exact MT_r6 hM | exact MT_t6 hM | exact MT_l6 hM | exact MT_r7 hM | exact MT_t7 hM | exact MT_l7 hM | exact MT_r8 hM | exact MT_t8 hM | exact MT_l8 hM | exact MT_r9 hM | exact MT_t9 hM | exact MT_l9 hM | exact MT_r10 hM | exact MT_t10 hM | exact MT_l10 hM) (gw_bip at326_5 (by decide) (gw_const at326_7 (gw_il1 at326_8 (gw_imul at326_9 (gw_iadd at326_10 (gw_ia at326_11 (by first | exact Or.inl (by first | exact MT_0 hM | exact MT_now hM | exact MT_bt hM | exact MT_bl hM | exact MT_r0 hM | exact MT_t0 hM | exact MT_l0 hM | exact MT_r1 hM | exact MT_t1 hM | exact MT_l1 hM | exact MT_r2 hM | exact MT_t2 hM | exact MT_l2 hM | exact MT_r3 hM | exact MT_t3 hM | exact MT_l3 hM | exact MT_r4 hM | exact MT_t4 hM | exact MT_l4 hM | exact MT_r5 hM | exact MT_t5 hM | exact MT_l5 hM | exact MT_r6 hM | exact MT_t6 hM | exact MT_l6 hM | exact MT_r7 hM | exact MT_t7 hM | exact MT_l7 hM | exact MT_r8 hM | exact MT_t8 hM | exact MT_l8 hM | exact MT_r9 hM | exact MT_t9 hM | exact MT_l9 hM | exact MT_r10 hM | exact MT_t10 hM | exact MT_l10 hM) | exact Or.inr (by first | exact MT_0 hM | exact MT_now hM | exact MT_bt hM | exact MT_bl hM | exact MT_r0 hM | exact MT_t0 hM | exact MT_l0 hM | exact MT_r1 hM | exact MT_t1 hM | exact MT_l1 hM | exact MT_r2 hM | exact MT_t2 hM | exact MT_l2 hM | exact MT_r3 hM | exact MT_t3 hM | exact MT_l3 hM | exact MT_r4 hM | exact MT_t4 hM | exact MT_l4 hM | exact MT_r5 hM | exact MT_t5 hM | exact MT_l5 hM | exact MT_r6 hM | exact MT_t6 hM | exact MT_l6 hM | exact MT_r7 hM | exact MT_t7 hM | exact MT_l7 hM | exact MT_r8 hM | exact MT_t8 hM | exact MT_l8 hM | exact MT_r9 hM | exact MT_t9 hM | exact MT_l9 hM | exact MT_r10 hM | exact MT_t10 hM | exact MT_l10 hM)) (by first | exact MT_0 hM | exact MT_now hM | exact MT_bt hM | exact MT_bl hM | exact MT_r0 hM | exact MT_t0 hM | exact MT_l0 hM | exact MT_r1 hM | exact MT_t1 hM | exact MT_l1 hM | exact MT_r2 hM | exact MT_t2 hM | exact MT_l2 hM | exact MT_r3 hM | exact MT_t3 hM | exact MT_l3 hM | exact MT_r4 hM | exact MT_t4 hM | exact MT_l4 hM | exact MT_r5 hM | exact MT_t5 hM | exact MT_l5 hM | exact MT_r6 hM | exact MT_t6 hM | exact MT_l6 hM | exact MT_r7 hM | exact MT_t7 hM | exact MT_l7 hM | exact MT_r8 hM | exact MT_t8 hM | exact MT_l8 hM | exact MT_r9 hM | exact MT_t9 hM | exact MT_l9 hM | exact MT_r10 hM | exact MT_t10 hM | exact MT_l10 hM) (by first | omega | exact hc _ _ | exact wk.1 _ _) (by first | omega | exact hc _ _ | exact wk.1 _ _) (by omega) ?_))))))))
  refine gw_call2 at326_12 (m_writeName hM hc (by omega) (hN.1 n hn.1 hn.2)) (by omega) (Nat.le_of_ble_eq_true rfl) (fun o M1 q12 => ?_)
  obtain ⟨rfl, rfl⟩ := q12
  show gw _ _ _ _ _ [] _ _
  refine gw_rv at326_15 am_r326.2.1 ⟨rfl, rfl⟩
  skip
