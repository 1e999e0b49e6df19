/-! the road network: names, connection -/
theorem itI_inv {α : Type} {f : Int → α → α} {x : α} (P : α → Prop) (h0 : P x) (hs : ∀ j s, P s → P (f j s)) (k : Int) : P (itI f x k) := by
  unfold itI
  generalize k.toNat = n
  induction n with
  | zero => exact h0
  | succ n ih => exact hs _ _ ih
theorem rch_rg (c : gC) (k : Nat) (n w : Int) : -2147483648 ≤ rch c k n w ∧ rch c k n w < 2147483648 := by
  unfold rch
  refine itI_inv (fun s => -2147483648 ≤ s ∧ s < 2147483648) (zrg _) (fun j s hs => ?_) _
  refine itI_inv (fun s => -2147483648 ≤ s ∧ s < 2147483648) hs (fun a s hs => ?_) _
  unfold rst
  split
  · exact zrg _
  · exact hs
theorem zshl_rg (a b : Int) : -2147483648 ≤ zshl a b ∧ zshl a b < 2147483648 := zrg _
theorem zshl_pow : ∀ n : Nat, n < 31 → zshl 1 (n : Int) = 2 ^ n := by
  have h : ∀ n : Nat, n < 31 → zshl 1 (n : Int) = 2 ^ n := by decide +kernel
  exact h
/-- whether every node reaches all, a road aside -/
def con (c : gC) (k : Nat) (w : Int) : Bool := decide (ff (fun n => !decide (rch c k n w = zshl 1 (c k 1) - 1)) (c k 1) 0 = -1)
set_option maxHeartbeats 1000000 in
theorem c_nodeNamed {g : Nat} {T : gT} {c J : gC} {k : Nat} (hT : NT T k) (hc : RG c) (hN : NR c k) {w : Int} (hw : -2147483648 ≤ w ∧ w < 2147483648) : gE g 15 0 [.ref k, gi w] (gm T c J) (gR (gi (ff (fun i => decide (c (k + 1) i = w)) (c k 1) 0)) (gm T c J)) := by
  have hR := hN.1
  have hR2 := hN.2.1
  refine gE_mk am_r15 rfl (Or.inr ⟨_, rfl, (by first | exact NT_0 hT | exact NT_r7 hT | exact NT_t7 hT | exact NT_l7 hT)⟩) (fun d hd => ?_)
  show gw d g 15 0 [.ref k, gi w, am_U] [] _ _
  refine gw_const at15_0 (gw_is2 at15_1 (h := ?_))
  have lp2 : ∀ i : Int, 0 ≤ i → i ≤ 20 → i ≤ c k 1 → ff (fun i => decide (c (k + 1) i = w)) (c k 1) 0 = ff (fun i => decide (c (k + 1) i = w)) (c k 1) i → gw d g 15 2 [.ref k, gi w, gi i] [] (gm T c J) (gR (gi (ff (fun i => decide (c (k + 1) i = w)) (c k 1) 0)) (gm T c J)) := by
    refine ind_up 20 ?_
    intro i hi0 hi1 ih hi2 hf
    refine gw_il2 at15_2 ?_
    refine gw_al0 at15_3 (gw_gf (j := 1) at15_4 (by first | exact NT_0 hT | exact NT_r7 hT | exact NT_t7 hT | exact NT_l7 hT) rfl ?_)
    refine gw_cge at15_7 (by first | omega | exact hc _ _ | exact bi_rg _ | exact zrg _) (by first | omega | exact hc _ _ | exact bi_rg _ | exact zrg _) (fun q7 => ?_) (fun q7 => ?_)
    · refine gw_const at15_28 (gw_ri at15_29 am_r15.2.1 (gR_i ?_))
      rw [hf]; first | rw [ff_end (by omega)] | (rw [ff_yes (by omega) (by simp [*])])
    · refine gw_al0 at15_10 (gw_gr at15_11 (by first | exact NT_0 hT | exact NT_r7 hT | exact NT_t7 hT | exact NT_l7 hT) (by first | exact NT_0 hT | exact NT_r7 hT | exact NT_t7 hT | exact NT_l7 hT) (gw_il2 at15_14 (gw_ia at15_15 (by first | exact Or.inl (by first | exact NT_0 hT | exact NT_r7 hT | exact NT_t7 hT | exact NT_l7 hT) | exact Or.inr (by first | exact NT_0 hT | exact NT_r7 hT | exact NT_t7 hT | exact NT_l7 hT)) (by first | exact NT_0 hT | exact NT_r7 hT | exact NT_t7 hT | exact NT_l7 hT) (by first | omega | exact hc _ _ | exact bi_rg _ | exact zrg _) (by first | omega | exact hc _ _ | exact bi_rg _ | exact zrg _) (by omega) (gw_il1 at15_16 ?_))))
      refine gw_cne at15_17 (by first | omega | exact hc _ _ | exact bi_rg _ | exact zrg _) (by first | omega | exact hc _ _ | exact bi_rg _ | exact zrg _) (fun q17 => ?_) (fun q17 => ?_)
      · refine gw_inc2 at15_22 (h := (gw_goto at15_25 ?_))
        refine ih (i + 1) (by omega) (by omega) (by omega) ?_
        rw [hf, ff_no (by omega) (by simp [*])]
      · refine gw_il2 at15_20 (gw_ri at15_21 am_r15.2.1 (gR_i ?_))
        rw [hf]; first | rw [ff_end (by omega)] | (rw [ff_yes (by omega) (by simp [*])])
  exact lp2 0 (by omega) (by omega) (by omega) rfl
set_option maxHeartbeats 1000000 in
theorem c_roadNamed {g : Nat} {T : gT} {c J : gC} {k : Nat} (hT : NT T k) (hc : RG c) (hN : NR c k) {w : Int} (hw : -2147483648 ≤ w ∧ w < 2147483648) : gE g 17 0 [.ref k, gi w] (gm T c J) (gR (gi (ff (fun i => decide (c (k + 4) i = w)) (c k 2) 0)) (gm T c J)) := by
  have hR := hN.1
  have hR2 := hN.2.1
  refine gE_mk am_r17 rfl (Or.inr ⟨_, rfl, (by first | exact NT_0 hT | exact NT_r10 hT | exact NT_t10 hT | exact NT_l10 hT)⟩) (fun d hd => ?_)
  show gw d g 17 0 [.ref k, gi w, am_U] [] _ _
  refine gw_const at17_0 (gw_is2 at17_1 (h := ?_))
  have lp2 : ∀ i : Int, 0 ≤ i → i ≤ 20 → i ≤ c k 2 → ff (fun i => decide (c (k + 4) i = w)) (c k 2) 0 = ff (fun i => decide (c (k + 4) i = w)) (c k 2) i → gw d g 17 2 [.ref k, gi w, gi i] [] (gm T c J) (gR (gi (ff (fun i => decide (c (k + 4) i = w)) (c k 2) 0)) (gm T c J)) := by
    refine ind_up 20 ?_
    intro i hi0 hi1 ih hi2 hf
    refine gw_il2 at17_2 ?_
    refine gw_al0 at17_3 (gw_gf (j := 2) at17_4 (by first | exact NT_0 hT | exact NT_r10 hT | exact NT_t10 hT | exact NT_l10 hT) rfl ?_)
    refine gw_cge at17_7 (by first | omega | exact hc _ _ | exact bi_rg _ | exact zrg _) (by first | omega | exact hc _ _ | exact bi_rg _ | exact zrg _) (fun q7 => ?_) (fun q7 => ?_)
    · refine gw_const at17_28 (gw_ri at17_29 am_r17.2.1 (gR_i ?_))
      rw [hf]; first | rw [ff_end (by omega)] | (rw [ff_yes (by omega) (by simp [*])])
    · refine gw_al0 at17_10 (gw_gr at17_11 (by first | exact NT_0 hT | exact NT_r10 hT | exact NT_t10 hT | exact NT_l10 hT) (by first | exact NT_0 hT | exact NT_r10 hT | exact NT_t10 hT | exact NT_l10 hT) (gw_il2 at17_14 (gw_ia at17_15 (by first | exact Or.inl (by first | exact NT_0 hT | exact NT_r10 hT | exact NT_t10 hT | exact NT_l10 hT) | exact Or.inr (by first | exact NT_0 hT | exact NT_r10 hT | exact NT_t10 hT | exact NT_l10 hT)) (by first | exact NT_0 hT | exact NT_r10 hT | exact NT_t10 hT | exact NT_l10 hT) (by first | omega | exact hc _ _ | exact bi_rg _ | exact zrg _) (by first | omega | exact hc _ _ | exact bi_rg _ | exact zrg _) (by omega) (gw_il1 at17_16 ?_))))
      refine gw_cne at17_17 (by first | omega | exact hc _ _ | exact bi_rg _ | exact zrg _) (by first | omega | exact hc _ _ | exact bi_rg _ | exact zrg _) (fun q17 => ?_) (fun q17 => ?_)
      · refine gw_inc2 at17_22 (h := (gw_goto at17_25 ?_))
        refine ih (i + 1) (by omega) (by omega) (by omega) ?_
        rw [hf, ff_no (by omega) (by simp [*])]
      · refine gw_il2 at17_20 (gw_ri at17_21 am_r17.2.1 (gR_i ?_))
        rw [hf]; first | rw [ff_end (by omega)] | (rw [ff_yes (by omega) (by simp [*])])
  exact lp2 0 (by omega) (by omega) (by omega) rfl
set_option maxHeartbeats 1000000 in
theorem c_nodeAt {g : Nat} {T : gT} {c J : gC} {k : Nat} (hT : NT T k) (hc : RG c) (hN : NR c k) {x z : Int} (hx : -2147483648 ≤ x ∧ x < 2147483648) (hz : -2147483648 ≤ z ∧ z < 2147483648) : gE g 16 0 [.ref k, gi x, gi z] (gm T c J) (gR (gi (ff (fun i => decide (c (k + 2) i = x) && decide (c (k + 3) i = z)) (c k 1) 0)) (gm T c J)) := by
  have hR := hN.1
  refine gE_mk am_r16 rfl (Or.inr ⟨_, rfl, (by first | exact NT_0 hT | exact NT_r8 hT | exact NT_t8 hT | exact NT_l8 hT | exact NT_r9 hT | exact NT_t9 hT | exact NT_l9 hT)⟩) (fun d hd => ?_)
  show gw d g 16 0 [.ref k, gi x, gi z, am_U] [] _ _
  refine gw_const at16_0 (gw_is3 at16_1 (h := ?_))
  have lp2 : ∀ i : Int, 0 ≤ i → i ≤ 20 → i ≤ c k 1 → ff (fun i => decide (c (k + 2) i = x) && decide (c (k + 3) i = z)) (c k 1) 0 = ff (fun i => decide (c (k + 2) i = x) && decide (c (k + 3) i = z)) (c k 1) i → gw d g 16 2 [.ref k, gi x, gi z, gi i] [] (gm T c J) (gR (gi (ff (fun i => decide (c (k + 2) i = x) && decide (c (k + 3) i = z)) (c k 1) 0)) (gm T c J)) := by
    refine ind_up 20 ?_
    intro i hi0 hi1 ih hi2 hf
    refine gw_il3 at16_2 ?_
    refine gw_al0 at16_3 (gw_gf (j := 1) at16_4 (by first | exact NT_0 hT | exact NT_r8 hT | exact NT_t8 hT | exact NT_l8 hT | exact NT_r9 hT | exact NT_t9 hT | exact NT_l9 hT) rfl ?_)
    refine gw_cge at16_7 (by first | omega | exact hc _ _ | exact bi_rg _ | exact zrg _) (by first | omega | exact hc _ _ | exact bi_rg _ | exact zrg _) (fun q7 => ?_) (fun q7 => ?_)
    · refine gw_const at16_38 (gw_ri at16_39 am_r16.2.1 (gR_i ?_))
      rw [hf]; first | rw [ff_end (by omega)] | (rw [ff_yes (by omega) (by simp [*])])
    · refine gw_al0 at16_10 (gw_gr at16_11 (by first | exact NT_0 hT | exact NT_r8 hT | exact NT_t8 hT | exact NT_l8 hT | exact NT_r9 hT | exact NT_t9 hT | exact NT_l9 hT) (by first | exact NT_0 hT | exact NT_r8 hT | exact NT_t8 hT | exact NT_l8 hT | exact NT_r9 hT | exact NT_t9 hT | exact NT_l9 hT) (gw_il3 at16_14 (gw_ia at16_15 (by first | exact Or.inl (by first | exact NT_0 hT | exact NT_r8 hT | exact NT_t8 hT | exact NT_l8 hT | exact NT_r9 hT | exact NT_t9 hT | exact NT_l9 hT) | exact Or.inr (by first | exact NT_0 hT | exact NT_r8 hT | exact NT_t8 hT | exact NT_l8 hT | exact NT_r9 hT | exact NT_t9 hT | exact NT_l9 hT)) (by first | exact NT_0 hT | exact NT_r8 hT | exact NT_t8 hT | exact NT_l8 hT | exact NT_r9 hT | exact NT_t9 hT | exact NT_l9 hT) (by first | omega | exact hc _ _ | exact bi_rg _ | exact zrg _) (by first | omega | exact hc _ _ | exact bi_rg _ | exact zrg _) (by omega) (gw_il1 at16_16 ?_))))
      refine gw_cne at16_17 (by first | omega | exact hc _ _ | exact bi_rg _ | exact zrg _) (by first | omega | exact hc _ _ | exact bi_rg _ | exact zrg _) (fun q17 => ?_) (fun q17 => ?_)
      · refine gw_inc3 at16_32 (h := (gw_goto at16_35 ?_))
        refine ih (i + 1) (by omega) (by omega) (by omega) ?_
        rw [hf, ff_no (by omega) (by simp [*])]
      · refine gw_al0 at16_20 (gw_gr at16_21 (by first | exact NT_0 hT | exact NT_r8 hT | exact NT_t8 hT | exact NT_l8 hT | exact NT_r9 hT | exact NT_t9 hT | exact NT_l9 hT) (by first | exact NT_0 hT | exact NT_r8 hT | exact NT_t8 hT | exact NT_l8 hT | exact NT_r9 hT | exact NT_t9 hT | exact NT_l9 hT) (gw_il3 at16_24 (gw_ia at16_25 (by first | exact Or.inl (by first | exact NT_0 hT | exact NT_r8 hT | exact NT_t8 hT | exact NT_l8 hT | exact NT_r9 hT | exact NT_t9 hT | exact NT_l9 hT) | exact Or.inr (by first | exact NT_0 hT | exact NT_r8 hT | exact NT_t8 hT | exact NT_l8 hT | exact NT_r9 hT | exact NT_t9 hT | exact NT_l9 hT)) (by first | exact NT_0 hT | exact NT_r8 hT | exact NT_t8 hT | exact NT_l8 hT | exact NT_r9 hT | exact NT_t9 hT | exact NT_l9 hT) (by first | omega | exact hc _ _ | exact bi_rg _ | exact zrg _) (by first | omega | exact hc _ _ | exact bi_rg _ | exact zrg _) (by omega) (gw_il2 at16_26 ?_))))
        refine gw_cne at16_27 (by first | omega | exact hc _ _ | exact bi_rg _ | exact zrg _) (by first | omega | exact hc _ _ | exact bi_rg _ | exact zrg _) (fun q27 => ?_) (fun q27 => ?_)
        · refine gw_inc3 at16_32 (h := (gw_goto at16_35 ?_))
          refine ih (i + 1) (by omega) (by omega) (by omega) ?_
          rw [hf, ff_no (by omega) (by simp [*])]
        · refine gw_il3 at16_30 (gw_ri at16_31 am_r16.2.1 (gR_i ?_))
          rw [hf]; first | rw [ff_end (by omega)] | (rw [ff_yes (by omega) (by simp [*])])
  exact lp2 0 (by omega) (by omega) (by omega) rfl
set_option maxHeartbeats 1000000 in
theorem c_isConnected {g : Nat} {T : gT} {c J : gC} {k : Nat} (hT : NT T k) (hc : RG c) (hN : NR c k) {w : Int} (hw : -2147483648 ≤ w ∧ w < 2147483648) : gE g 29 3 [.ref k, gi w] (gm T c J) (gR (gi (bi (con c k w))) (gm T c J)) := by
  have hR := hN.1
  have hz : 0 ≤ zshl 1 (c k 1) ∧ zshl 1 (c k 1) < 2147483648 := by
    have h1 := zshl_pow (c k 1).toNat (by omega)
    rw [show (((c k 1).toNat : Nat) : Int) = c k 1 by omega] at h1
    exact ⟨by rw [h1]; exact Int.le_of_lt (Int.pow_pos (by decide)), (zshl_rg _ _).2⟩
  refine gE_mk am_r29 rfl (Or.inr ⟨_, rfl, (by exact NT_0 hT)⟩) (fun d hd => ?_)
  show gw d g 29 0 [.ref k, gi w, am_U] [] _ _
  refine gw_const at29_0 (gw_is2 at29_1 (h := ?_))
  have lp2 : ∀ i : Int, 0 ≤ i → i ≤ 20 → i ≤ c k 1 → ff (fun i => !decide (rch c k i w = zshl 1 (c k 1) - 1)) (c k 1) 0 = ff (fun i => !decide (rch c k i w = zshl 1 (c k 1) - 1)) (c k 1) i → gw d g 29 2 [.ref k, gi w, gi i] [] (gm T c J) (gR (gi (bi (con c k w))) (gm T c J)) := by
    refine ind_up 20 ?_
    intro i hi0 hi1 ih hi2 hf
    refine gw_il2 at29_2 ?_
    refine gw_al0 at29_3 (gw_gf (j := 1) at29_4 (by exact NT_0 hT) rfl ?_)
    refine gw_cge at29_7 (by first | omega | exact rch_rg _ _ _ _ | exact hc _ _) (by first | omega | exact rch_rg _ _ _ _ | exact hc _ _) (fun q7 => ?_) (fun q7 => ?_)
    · refine gw_const at29_35 (gw_r1 at29_36 am_r29.2.1 (gR_b ?_))
      unfold con; rw [hf]; first | (rw [ff_end (by omega)]; rfl) | (rw [ff_yes (by omega) (by simp [*])]; exact (decide_eq_false (by omega)).symm)
    · refine gw_al0 at29_10 (gw_il2 at29_11 (gw_il1 at29_12 (gw_callP3 at29_13 (c_reachableFrom hT hc hN (by omega) (by omega)) (by omega) (Nat.le_of_ble_eq_true rfl) (gw_const at29_16 (gw_al0 at29_17 (gw_gf (j := 1) at29_18 (by exact NT_0 hT) rfl (gw_ishl at29_21 (gw_const at29_22 (gw_isub at29_23 ?_)))))))))
      refine gw_ceq at29_24 (by first | omega | exact rch_rg _ _ _ _ | exact hc _ _) (by first | omega | exact rch_rg _ _ _ _ | exact hc _ _) (fun q24 => ?_) (fun q24 => ?_)
      · refine gw_inc2 at29_29 (h := (gw_goto at29_32 ?_))
        refine ih (i + 1) (by omega) (by omega) (by omega) ?_
        rw [hf, ff_no (by omega) (by simp [*])]
      · refine gw_const at29_27 (gw_r0 at29_28 am_r29.2.1 (gR_b ?_))
        unfold con; rw [hf]; first | (rw [ff_end (by omega)]; rfl) | (rw [ff_yes (by omega) (by simp [*])]; exact (decide_eq_false (by omega)).symm)
  exact lp2 0 (by omega) (by omega) (by omega) rfl
