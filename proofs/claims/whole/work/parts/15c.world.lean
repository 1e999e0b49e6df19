/-! the world: along a path, the rate, what stays -/
theorem WR_k {c : gC} {w k : Nat} {B j z : Int} (h : WR c w B) (hk : k < w ∨ w + 5 ≤ k) : WR (gu c k j z) w B := by
  unfold WR at h ⊢
  simp (disch := omega) only [gu_k]
  exact h
theorem WR_mono {c : gC} {w : Nat} {B B' : Int} (h : WR c w B) (h1 : B ≤ B') (h2 : B' ≤ 1500000000) : WR c w B' := by
  obtain ⟨a0, a1, a2, a3, a4, a5, a6, a7, a8, a9⟩ := h
  exact ⟨by omega, by omega, a2, a3, a4, by omega, by omega, a7, fun i i0 i1 => by have := a8 i i0 i1; omega, fun i i0 i1 => by have := a9 i i0 i1; omega⟩
theorem WR_arg {c c' : gC} {w : Nat} {B : Int} (h : WR c w B) (e : ∀ k, w ≤ k → k < w + 5 → ∀ j, c' k j = c k j) : WR c' w B := by
  unfold WR at h ⊢
  simp only [e w (by omega) (by omega), e (w + 1) (by omega) (by omega), e (w + 2) (by omega) (by omega), e (w + 3) (by omega) (by omega), e (w + 4) (by omega) (by omega)]
  exact h
theorem drv_k {c : gC} {n w k : Nat} {a j : Int} {s : Bool} (h : k < w ∨ w + 5 ≤ k) : drv c n w a s k j = c k j := by
  unfold drv drv1
  split <;> simp (disch := omega) only [gu_k, drv0_k]
theorem NF_drv {c : gC} {n w : Nat} {a : Int} {s : Bool} (hd : n + 12 ≤ w ∨ w + 5 ≤ n) : NF c (drv c n w a s) n := fun i h1 h2 j => drv_k (by omega)
theorem drv_w {c : gC} {n w : Nat} {a : Int} {s : Bool} : drv c n w a s w 1 = c w 1 + scn c n w a ∧ drv c n w a s w 2 = en c n a ∧ drv c n w a s w 3 = a ∧ drv c n w a s w 4 = (if (s && decide (sf c n a ≤ c w 4)) = true then c w 4 - sf c n a else c w 4) ∧ drv c n w a s w 5 = (if (s && decide (sf c n a ≤ c w 4)) = true then c w 5 + sf c n a else c w 5) ∧ drv c n w a s w 6 = c w 6 + ln c n a ∧ drv c n w a s w 7 = c w 7 := by
  unfold drv drv1
  refine ⟨?_, ?_, ?_, ?_, ?_, ?_, ?_⟩ <;> split <;> simp (disch := omega) only [gu_k, gu_j, gu_s, drv0_k]
theorem drv_1 {c : gC} {n w : Nat} {a j : Int} {s : Bool} : drv c n w a s (w + 1) j = if ¬ c w 3 = -1 ∧ j = tkd c n (c w 3) a then c (w + 1) j + 1 else c (w + 1) j := by
  have e : drv c n w a s (w + 1) j = drv0 c n w a (w + 1) j := by
    unfold drv drv1
    split <;> simp (disch := omega) only [gu_k]
  rw [e]
  unfold drv0
  by_cases h : c w 3 = -1
  · simp [h]
  · by_cases h2 : j = tkd c n (c w 3) a
    · subst h2; simp [h, gu]
    · simp [h, h2, gu]
theorem drv_2 {c : gC} {n w : Nat} {a j : Int} {s : Bool} : drv c n w a s (w + 2) j = if j = a then c (w + 2) j + 1 else c (w + 2) j := by
  unfold drv drv1
  by_cases h : j = a
  · subst h; split <;> simp (disch := omega) only [gu_k, gu_s, if_true]
  · split <;> simp (disch := omega) only [gu_k, gu_j, drv0_k, h, if_neg, not_false_eq_true, if_false]
theorem drv_3 {c : gC} {n w : Nat} {a j : Int} {s : Bool} : drv c n w a s (w + 3) j = if j = a then 0 else c (w + 3) j := by
  unfold drv drv1
  by_cases h : j = a
  · subst h; split <;> simp (disch := omega) only [gu_k, gu_s, if_true]
  · split <;> simp (disch := omega) only [gu_k, gu_j, drv0_k, h, if_neg, not_false_eq_true, if_false]
theorem drv_4 {c : gC} {n w : Nat} {a j : Int} {s : Bool} : drv c n w a s (w + 4) j = if j = a then (if (s && decide (sf c n a ≤ c w 4)) = true then c w 1 + scn c n w a + 1800 else c w 1 + scn c n w a) else c (w + 4) j := by
  unfold drv drv1
  by_cases h : j = a
  · subst h; split <;> simp (disch := omega) only [gu_k, gu_s, if_true]
  · split <;> simp (disch := omega) only [gu_k, gu_j, drv0_k, h, if_neg, not_false_eq_true, if_false]
theorem drv_WR {c : gC} {n w : Nat} {B a : Int} {s : Bool} (hN : NR c n) (hR : WR c w B) (hB : B ≤ 1400000000) (ha : 0 ≤ a ∧ a < 24) : WR (drv c n w a s) w (B + 25000) := by
  obtain ⟨a0, a1, a2, a3, a4, a5, a6, a7, a8, a9⟩ := id hR
  obtain ⟨d1, d2, d3, d4, d5, d6, d7⟩ := drv_w (c := c) (n := n) (w := w) (a := a) (s := s)
  have e1 := scn_rg hN hR a
  have e2 := sf_rg hN a
  have e3 := en_rg hN a
  have e4 := ln_rg hN a
  refine ⟨by omega, by rw [d1]; omega, by rw [d2]; omega, by rw [d3]; omega, ?_, ?_, by rw [d6]; omega, by rw [d7]; exact a7, fun i i0 i1 => ?_, fun i i0 i1 => ⟨?_, ?_, ?_⟩⟩
  · rw [d4]
    split
    · rename_i h
      simp only [Bool.and_eq_true, decide_eq_true_eq] at h
      omega
    · exact a4
  · rw [d5]; split <;> omega
  · have := a8 i i0 i1
    rw [drv_1]; split <;> omega
  · have := (a9 i i0 i1).1
    rw [drv_2]; split <;> omega
  · have := (a9 i i0 i1).2.1
    rw [drv_3]; split <;> omega
  · have := (a9 i i0 i1).2.2
    rw [drv_4]
    split
    · split <;> omega
    · omega
theorem drv_RG {c : gC} {n w : Nat} {B a : Int} {s : Bool} (hc : RG c) (hN : NR c n) (hR : WR c w B) (hB : B ≤ 1400000000) (ha : 0 ≤ a ∧ a < 24) : RG (drv c n w a s) := by
  obtain ⟨a0, a1, a2, a3, a4, a5, a6, a7, a8, a9⟩ := id hR
  have e1 := scn_rg hN hR a
  have e2 := sf_rg hN a
  have e3 := en_rg hN a
  have e4 := ln_rg hN a
  have e5 := tkd_rg c n (c w 3) a
  have e6 := a8 (tkd c n (c w 3) a) (by omega) (by omega)
  have e7 := a9 a ha.1 ha.2
  have g0 : RG (drv0 c n w a) := by
    unfold drv0
    split
    · exact hc
    · exact RG_gu hc (by omega)
  have g1 : RG (drv1 c n w a) := RG_gu (RG_gu (RG_gu (RG_gu (RG_gu (RG_gu (RG_gu g0 (by omega)) (by omega)) (by omega)) (by omega)) (by omega)) (by omega)) (by omega)
  unfold drv
  split
  · exact RG_gu (RG_gu (RG_gu g1 (by omega)) (by omega)) (by omega)
  · exact g1
/-- along the first i arcs of a path at key q -/
def drl (c : gC) (n w q : Nat) (s : Bool) (i : Int) : Int × gC := itI (fun j x => (x.1 + scn x.2 n w (c q j), drv x.2 n w (c q j) s)) (0, c) i
theorem drl_s {c : gC} {n w q : Nat} {s : Bool} {i : Int} (hi : 0 ≤ i) : drl c n w q s (i + 1) = ((drl c n w q s i).1 + scn (drl c n w q s i).2 n w (c q i), drv (drl c n w q s i).2 n w (c q i) s) := by
  unfold drl
  rw [itI_s _ _ hi]
theorem drl_ok {c : gC} {n w q : Nat} {s : Bool} {B : Int} (hc : RG c) (hN : NR c n) (hR : WR c w B) (hB : B ≤ 1300000000) (hd : n + 12 ≤ w ∨ w + 5 ≤ n) : ∀ i : Int, 0 ≤ i → i ≤ 1000 → (∀ j : Int, 0 ≤ j → j < i → 0 ≤ c q j ∧ c q j < 24) →
    RG (drl c n w q s i).2 ∧ WR (drl c n w q s i).2 w (B + 25000 * i) ∧ (∀ k, k < w ∨ w + 5 ≤ k → ∀ j, (drl c n w q s i).2 k j = c k j) ∧ 0 ≤ (drl c n w q s i).1 ∧ (drl c n w q s i).1 ≤ 21100 * i := by
  have key : ∀ m : Nat, m ≤ 1000 → (∀ j : Int, 0 ≤ j → j < (m : Int) → 0 ≤ c q j ∧ c q j < 24) →
    RG (drl c n w q s (m : Int)).2 ∧ WR (drl c n w q s (m : Int)).2 w (B + 25000 * (m : Int)) ∧ (∀ k, k < w ∨ w + 5 ≤ k → ∀ j, (drl c n w q s (m : Int)).2 k j = c k j) ∧ 0 ≤ (drl c n w q s (m : Int)).1 ∧ (drl c n w q s (m : Int)).1 ≤ 21100 * (m : Int) := by
    intro m
    induction m with
    | zero => intro _ _; exact ⟨hc, by rw [show B + 25000 * ((0 : Nat) : Int) = B by omega]; exact hR, fun _ _ _ => rfl, Int.le_refl _, Int.le_refl _⟩
    | succ m ih =>
      intro hm hp
      obtain ⟨i1, i2, i3, i4, i5⟩ := ih (by omega) (fun j h1 h2 => hp j h1 (by omega))
      have hn : NF c (drl c n w q s (m : Int)).2 n := fun i h1 h2 j => i3 i (by omega) j
      have hN2 := NF_NR hn hN
      have hq := hp (m : Int) (by omega) (by omega)
      rw [show ((m + 1 : Nat) : Int) = (m : Int) + 1 by omega, drl_s (by omega)]
      have hs := scn_rg hN2 i2 (c q (m : Int))
      refine ⟨drv_RG i1 hN2 i2 (by omega) hq, ?_, fun k hk j => ?_, by dsimp only; omega, by dsimp only; omega⟩
      · have := drv_WR (s := s) hN2 i2 (by omega) hq
        rw [show B + 25000 * ((m : Int) + 1) = B + 25000 * (m : Int) + 25000 by omega]
        exact this
      · show drv _ _ _ _ _ k j = _
        rw [drv_k hk]
        exact i3 k hk j
  intro i h0 h1 hp
  have := key i.toNat (by omega) (by rw [show ((i.toNat : Nat) : Int) = i by omega]; exact hp)
  rwa [show ((i.toNat : Nat) : Int) = i by omega] at this
set_option maxHeartbeats 1000000 in
theorem c_driveAlong {g : Nat} {T : gT} {c J : gC} {n w q : Nat} {B : Int} (hT : NT T n) (hN : NR c n) (hW : WT T w) (hwn : (T.1 w).2.2 0 = n + 1) (hc : RG c) (hR : WR c w B) (hd0 : n + 12 ≤ w ∨ w + 5 ≤ n) (hq1 : (T.1 q).1 = 1) (hq2 : (T.1 q).2.1 = 24) (hqw : q < w ∨ w + 5 ≤ q) (hB : B ≤ 1300000000) {z : Int} {s : Bool} (hz : 0 ≤ z ∧ z ≤ 24) (hp : ∀ j : Int, 0 ≤ j → j < z → 0 ≤ c q j ∧ c q j < 24) : gE g 95 4 [.ref w, .ref q, gi z, gi (bi s)] (gm T c J) (fun o M1 => o = .inl (some (gi (drl c n w q s z).1)) ∧ M1 = gm T (drl c n w q s z).2 J) := by
  refine gE_mk am_r95 rfl (Or.inr ⟨_, rfl, WT_0 hW⟩) (fun d hd => ?_)
  show gw d g 95 0 [.ref w, .ref q, gi z, gi (bi s), am_U, am_U] [] _ _
  refine gw_const at95_0 (gw_is4 at95_1 (h := (gw_const at95_3 (gw_is5 at95_4 (h := ?_)))))
  have lp6 : ∀ i : Int, 0 ≤ i → i ≤ 24 → i ≤ z → gw d g 95 6 [.ref w, .ref q, gi z, gi (bi s), gi (drl c n w q s i).1, gi i] [] (gm T (drl c n w q s i).2 J) (fun o M1 => o = .inl (some (gi (drl c n w q s z).1)) ∧ M1 = gm T (drl c n w q s z).2 J) := by
    refine ind_up 24 ?_
    intro i hi0 hi1 ih hi2
    obtain ⟨o1, o2, o3, o4, o5⟩ := drl_ok (s := s) hc hN hR hB hd0 i hi0 (by omega) (fun j h1 h2 => hp j h1 (by omega))
    refine gw_il5 at95_6 ?_
    refine gw_il2 at95_8 ?_
    refine gw_cge at95_9 (by first | omega | exact hc _ _ | exact bi_rg _ | exact zrg _) (by first | omega | exact hc _ _ | exact bi_rg _ | exact zrg _) (fun q9 => ?_) (fun q9 => ?_)
    · refine gw_il4 at95_39 (gw_ri at95_41 am_r95.2.1 ?_)
      rw [show z = i by omega]
      exact ⟨rfl, rfl⟩
    · refine gw_il5 at95_12 (gw_al1 at95_14 (gw_len at95_15 (by first | exact Or.inl (by first | exact WT_0 hW | assumption) | exact Or.inr (Or.inl (by first | exact WT_0 hW | assumption)) | exact Or.inr (Or.inr (Or.inr (Or.inr (Or.inl (by first | exact WT_0 hW | assumption))))) | exact Or.inr (Or.inr (Or.inr (Or.inr (Or.inr (by first | exact WT_0 hW | assumption)))))) (by first | exact WT_0 hW | assumption) rfl ?_))
      refine gw_cge at95_16 (by first | omega | exact hc _ _ | exact bi_rg _ | exact zrg _) (by first | omega | exact hc _ _ | exact bi_rg _ | exact zrg _) (fun q16 => ?_) (fun q16 => ?_)
      · refine gw_il4 at95_39 (gw_ri at95_41 am_r95.2.1 ?_)
        rw [show z = i by omega]
        exact ⟨rfl, rfl⟩
      · refine gw_il4 at95_19 (gw_al0 at95_21 (gw_al1 at95_22 (gw_il5 at95_23 (gw_ia at95_25 (by first | exact Or.inl (by first | exact WT_0 hW | assumption) | exact Or.inr (by first | exact WT_0 hW | assumption)) (by first | exact WT_0 hW | assumption) (by first | omega | exact hc _ _ | exact bi_rg _ | exact zrg _) (by first | omega | exact hc _ _ | exact bi_rg _ | exact zrg _) (by omega) (gw_il3 at95_26 ?_)))))
        refine gw_call3 at95_27 (c_driveArc hT (NF_NR (fun i h1 h2 j => o3 i (by omega) j) hN) hW hwn o1 o2 hd0 (by omega) (by rw [o3 q hqw]; exact hp i hi0 (by omega))) (by omega) (Nat.le_of_ble_eq_true rfl) (fun o M1 q27 => ?_)
        obtain ⟨rfl, rfl⟩ := q27
        show gw _ _ _ _ _ (gi _ :: _) _ _
        rw [o3 q hqw]
        refine gw_iadd at95_30 (gw_is4 at95_31 (h := (gw_inc5 at95_33 (h := (gw_goto at95_36 ?_)))))
        have e := ih (i + 1) (by omega) (by omega) (by omega)
        rw [drl_s hi0] at e
        exact e
  exact lp6 0 (by omega) (by omega) (by omega)
set_option maxHeartbeats 1000000 in
theorem c_deeperThan {g : Nat} {T : gT} {c J : gC} {n w : Nat} {B : Int} (hT : NT T n) (hN : NR c n) (hW : WT T w) (hwn : (T.1 w).2.2 0 = n + 1) (hc : RG c) (hR : WR c w B) {p : Int} (hp : -2147483648 ≤ p ∧ p < 2147483648) : gE g 90 2 [.ref w, gi p] (gm T c J) (gR (gi (mskI (fun a => hA c n a && decide (p < sn c w a 0)) 24)) (gm T c J)) := by
  refine gE_mk am_r90 rfl (Or.inr ⟨_, rfl, WT_0 hW⟩) (fun d hd => ?_)
  show gw d g 90 0 [.ref w, gi p, am_U, am_U] [] _ _
  refine gw_const at90_0 (gw_is2 at90_1 (h := (gw_const at90_2 (gw_is3 at90_3 (h := ?_)))))
  have lp4 : ∀ k : Int, 0 ≤ k → k ≤ 24 → ∀ s : Int, s = mskI (fun a => hA c n a && decide (p < sn c w a 0)) k → gw d g 90 4 [.ref w, gi p, gi s, gi k] [] (gm T c J) (gR (gi (mskI (fun a => hA c n a && decide (p < sn c w a 0)) 24)) (gm T c J)) := by
    refine ind_up 24 ?_
    intro k hk0 hk1 ih s hs
    refine gw_il3 at90_4 ?_
    refine gw_bip at90_5 (by decide) ?_
    refine gw_cge at90_7 (by first | omega | (have := sn_rg hR k 0; omega)) (by first | omega | (have := sn_rg hR k 0; omega)) (fun q7 => ?_) (fun q7 => ?_)
    · refine gw_il2 at90_43 (gw_ri at90_44 am_r90.2.1 (gR_i ?_))
      rw [hs, show k = 24 by omega]
    · refine gw_al0 at90_10 (gw_gr at90_11 (by first | exact WT_0 hW | exact hwn) (by first | exact WT_0 hW | exact hwn) (gw_il3 at90_14 (gw_callP2 at90_15 (c_hasArc hT hc hN (by omega)) (by omega) (Nat.le_of_ble_eq_true rfl) ?_)))
      refine gw_beq at90_18 (fun q18 => ?_) (fun q18 => ?_)
      · refine gw_inc3 at90_37 (h := (gw_goto at90_40 ?_))
        refine ih (k + 1) (by omega) (by omega) _ ?_
        rw [mskI_s _ hk0, ← hs]
        clear hs ih
        simp [*] <;> (intros; omega)
      · refine gw_al0 at90_21 (gw_il3 at90_22 (gw_const at90_23 (gw_callP3 at90_24 (c_snowAfter hW hc hR (by omega) (by omega)) (by omega) (Nat.le_of_ble_eq_true rfl) (gw_il1 at90_27 ?_))))
        refine gw_cle at90_28 (by first | omega | (have := sn_rg hR k 0; omega)) (by first | omega | (have := sn_rg hR k 0; omega)) (fun q28 => ?_) (fun q28 => ?_)
        · refine gw_inc3 at90_37 (h := (gw_goto at90_40 ?_))
          refine ih (k + 1) (by omega) (by omega) _ ?_
          rw [mskI_s _ hk0, ← hs]
          clear hs ih
          simp [*] <;> (intros; omega)
        · refine gw_il2 at90_31 (gw_const at90_32 (gw_il3 at90_33 (gw_ishl at90_34 (gw_ior at90_35 (gw_is2 at90_36 (h := (gw_inc3 at90_37 (h := (gw_goto at90_40 ?_)))))))))
          refine ih (k + 1) (by omega) (by omega) _ ?_
          rw [mskI_s _ hk0, ← hs]
          clear hs ih
          simp [*] <;> (intros; omega)
  exact lp4 0 (by omega) (by omega) 0 (mskI_0 _).symm
/-- one arc's snow laid anew -/
def chf (w : Nat) (a : Int) (m : gC) : gC := gu (gu m (w + 3) a (sn m w a 0)) (w + 4) a (max (m (w + 4) a) (m w 1))
def chr (c : gC) (w : Nat) (r : Int) : gC := gu (itI (chf w) c 24) w 7 r
theorem chf_ok {c : gC} {w : Nat} {B : Int} (hc : RG c) (hR : WR c w B) {a : Int} (ha : 0 ≤ a ∧ a < 24) : RG (chf w a c) ∧ WR (chf w a c) w B := by
  have h1 := sn_rg hR a 0
  obtain ⟨a0, a1, a2, a3, a4, a5, a6, a7, a8, a9⟩ := id hR
  have h2 := a9 a ha.1 ha.2
  refine ⟨RG_gu (RG_gu hc (by omega)) (by omega), ?_⟩
  unfold chf
  refine ⟨a0, ?_, ?_, ?_, ?_, ?_, ?_, ?_, fun i i0 i1 => ?_, fun i i0 i1 => ⟨?_, ?_, ?_⟩⟩
  · simp (disch := omega) only [gu_k]; exact a1
  · simp (disch := omega) only [gu_k]; exact a2
  · simp (disch := omega) only [gu_k]; exact a3
  · simp (disch := omega) only [gu_k]; exact a4
  · simp (disch := omega) only [gu_k]; exact a5
  · simp (disch := omega) only [gu_k]; exact a6
  · simp (disch := omega) only [gu_k]; exact a7
  · simp (disch := omega) only [gu_k]; exact a8 i i0 i1
  · simp (disch := omega) only [gu_k]; exact (a9 i i0 i1).1
  · by_cases e : i = a
    · subst e; simp (disch := omega) only [gu_k, gu_s]; exact h1
    · simp (disch := omega) only [gu_k, gu_j]; exact (a9 i i0 i1).2.1
  · by_cases e : i = a
    · subst e; simp (disch := omega) only [gu_k, gu_s]; omega
    · simp (disch := omega) only [gu_k, gu_j]; exact (a9 i i0 i1).2.2
theorem chi_ok {c : gC} {w : Nat} {B : Int} (hc : RG c) (hR : WR c w B) : ∀ i : Int, 0 ≤ i → i ≤ 24 → RG (itI (chf w) c i) ∧ WR (itI (chf w) c i) w B := by
  have key : ∀ m : Nat, m ≤ 24 → RG (itI (chf w) c (m : Int)) ∧ WR (itI (chf w) c (m : Int)) w B := by
    intro m
    induction m with
    | zero => exact fun _ => ⟨hc, hR⟩
    | succ m ih =>
      intro hm
      rw [show ((m + 1 : Nat) : Int) = (m : Int) + 1 by omega, itI_s _ _ (by omega)]
      exact chf_ok (ih (by omega)).1 (ih (by omega)).2 (by omega)
  intro i h0 h1
  have := key i.toNat (by omega)
  rwa [show ((i.toNat : Nat) : Int) = i by omega] at this
set_option maxHeartbeats 1000000 in
theorem c_changeRate {g : Nat} {T : gT} {c J : gC} {w : Nat} {B : Int} (hW : WT T w) (hc : RG c) (hR : WR c w B) {p : Int} (hp : -2147483648 ≤ p ∧ p < 2147483648) : gE g 92 1 [.ref w, gi p] (gm T c J) (fun o M1 => o = .inl none ∧ M1 = gm T (chr c w p) J) := by
  refine gE_mk am_r92 rfl (Or.inr ⟨_, rfl, WT_0 hW⟩) (fun d hd => ?_)
  show gw d g 92 0 [.ref w, gi p, am_U] [] _ _
  refine gw_const at92_0 (gw_is2 at92_1 (h := ?_))
  have lp2 : ∀ i : Int, 0 ≤ i → i ≤ 24 → gw d g 92 2 [.ref w, gi p, gi i] [] (gm T (itI (chf w) c i) J) (fun o M1 => o = .inl none ∧ M1 = gm T (chr c w p) J) := by
    refine ind_up 24 ?_
    intro i hi0 hi1 ih
    obtain ⟨o1, o2⟩ := chi_ok hc hR i hi0 hi1
    refine gw_il2 at92_2 ?_
    refine gw_bip at92_3 (by decide) ?_
    refine gw_cge at92_5 (by first | omega | exact o1 _ _) (by first | omega | exact o1 _ _) (fun q5 => ?_) (fun q5 => ?_)
    · refine gw_al0 at92_45 (gw_il1 at92_46 (gw_pf (j := 7) at92_47 (by first | exact WT_0 hW | exact WT_r10 hW | exact WT_t10 hW | exact WT_l10 hW | exact WT_r11 hW | exact WT_t11 hW | exact WT_l11 hW) rfl (gw_rv at92_50 am_r92.2.1 ?_)))
      rw [show i = 24 by omega]
      exact ⟨rfl, rfl⟩
    · refine gw_al0 at92_8 (gw_gr at92_9 (by first | exact WT_0 hW | exact WT_r10 hW | exact WT_t10 hW | exact WT_l10 hW | exact WT_r11 hW | exact WT_t11 hW | exact WT_l11 hW) (by first | exact WT_0 hW | exact WT_r10 hW | exact WT_t10 hW | exact WT_l10 hW | exact WT_r11 hW | exact WT_t11 hW | exact WT_l11 hW) (gw_il2 at92_12 (gw_al0 at92_13 (gw_il2 at92_14 (gw_const at92_15 (gw_callP3 at92_16 (c_snowAfter hW o1 o2 (by omega) (by omega)) (by omega) (Nat.le_of_ble_eq_true rfl) (gw_iw at92_19 (by first | exact WT_0 hW | exact WT_r10 hW | exact WT_t10 hW | exact WT_l10 hW | exact WT_r11 hW | exact WT_t11 hW | exact WT_l11 hW) (by first | exact WT_0 hW | exact WT_r10 hW | exact WT_t10 hW | exact WT_l10 hW | exact WT_r11 hW | exact WT_t11 hW | exact WT_l11 hW) (by first | omega | exact o1 _ _) (by first | omega | exact o1 _ _) (by omega) (gw_al0 at92_20 (gw_gr at92_21 (by first | exact WT_0 hW | exact WT_r10 hW | exact WT_t10 hW | exact WT_l10 hW | exact WT_r11 hW | exact WT_t11 hW | exact WT_l11 hW) (by first | exact WT_0 hW | exact WT_r10 hW | exact WT_t10 hW | exact WT_l10 hW | exact WT_r11 hW | exact WT_t11 hW | exact WT_l11 hW) (gw_il2 at92_24 (gw_al0 at92_25 (gw_gr at92_26 (by first | exact WT_0 hW | exact WT_r10 hW | exact WT_t10 hW | exact WT_l10 hW | exact WT_r11 hW | exact WT_t11 hW | exact WT_l11 hW) (by first | exact WT_0 hW | exact WT_r10 hW | exact WT_t10 hW | exact WT_l10 hW | exact WT_r11 hW | exact WT_t11 hW | exact WT_l11 hW) (gw_il2 at92_29 (gw_ia at92_30 (by first | exact Or.inl (by first | exact WT_0 hW | exact WT_r10 hW | exact WT_t10 hW | exact WT_l10 hW | exact WT_r11 hW | exact WT_t11 hW | exact WT_l11 hW) | exact Or.inr (by first | exact WT_0 hW | exact WT_r10 hW | exact WT_t10 hW | exact WT_l10 hW | exact WT_r11 hW | exact WT_t11 hW | exact WT_l11 hW)) (by first | exact WT_0 hW | exact WT_r10 hW | exact WT_t10 hW | exact WT_l10 hW | exact WT_r11 hW | exact WT_t11 hW | exact WT_l11 hW) (by first | omega | exact o1 _ _) (by first | omega | exact o1 _ _) (by omega) (gw_al0 at92_31 (gw_gf (j := 1) at92_32 (by first | exact WT_0 hW | exact WT_r10 hW | exact WT_t10 hW | exact WT_l10 hW | exact WT_r11 hW | exact WT_t11 hW | exact WT_l11 hW) rfl ?_))))))))))))))))
      simp (disch := omega) only [gu_k]
      refine gw_max at92_35 (by first | omega | exact o1 _ _) (by first | omega | exact o1 _ _) (Nat.le_of_ble_eq_true rfl) (gw_iw at92_38 (by first | exact WT_0 hW | exact WT_r10 hW | exact WT_t10 hW | exact WT_l10 hW | exact WT_r11 hW | exact WT_t11 hW | exact WT_l11 hW) (by first | exact WT_0 hW | exact WT_r10 hW | exact WT_t10 hW | exact WT_l10 hW | exact WT_r11 hW | exact WT_t11 hW | exact WT_l11 hW) (by first | omega | exact o1 _ _) (by first | omega | exact o1 _ _) (by omega) (gw_inc2 at92_39 (h := (gw_goto at92_42 ?_))))
      have e := ih (i + 1) (by omega) (by omega)
      rw [itI_s _ _ hi0] at e
      exact e
  exact lp2 0 (by omega) (by omega)
