/-! parser: numbers and words -/
theorem gu_st {c : gC} {k : Nat} {a b x y x' y' : Int} (h : ¬ b = a) : gu (gu (gu (gu c k a x) k b y) k a x') k b y' = gu (gu c k a x') k b y' := by
  rw [gu_cm (c := gu c k a x) (by omega), gu_gu, gu_gu]
def nmv (c : gC) (e j : Int) : Int := itI (fun i v => min 100000 (v * 10 + c 100001 (e + i) - 48)) 0 (j - e)
def wmv (c : gC) (e j : Int) : Int := itI (fun i v => if i < 6 then v * 27 + c 100001 (e + i) - 97 + 1 else -1) 0 (j - e)
def kwd (c : gC) (v : Int) : Int := itI (fun i k => if c 100033 i = v then i else k) (-1) 9
/-- a token's end when it begins at e -/
def nen (c : gC) (e : Int) : Int := rn (ibt c 48 57) e
def wen (c : gC) (e : Int) : Int := rn (ibt c 97 122) e
theorem ibt_o {c m : gC} {l h i : Int} (h0 : m 100000 = c 100000) (h1 : m 100001 = c 100001) : ibt m l h i = ibt c l h i := by unfold ibt; rw [h0, h1]
theorem ibt_b {c : gC} {l h i : Int} (e : ibt c l h i = true) : i < c 100000 1 ∧ l ≤ c 100001 i ∧ c 100001 i ≤ h := by
  unfold ibt at e
  simp only [Bool.and_eq_true, decide_eq_true_eq] at e
  exact e
theorem nmv_s {c : gC} {e i : Int} (h : e ≤ i) : nmv c e (i + 1) = min 100000 (nmv c e i * 10 + c 100001 i - 48) := by
  unfold nmv
  rw [show i + 1 - e = (i - e) + 1 by omega, itI_s _ _ (by omega), show e + (i - e) = i by omega]
theorem nmv_rg {c : gC} {e i : Int} (h : e ≤ i) (hd : ∀ j, e ≤ j → j < i → 48 ≤ c 100001 j) : 0 ≤ nmv c e i ∧ nmv c e i ≤ 100000 := by
  unfold nmv
  refine itI_inv3 (fun _ v => 0 ≤ v ∧ v ≤ 100000) (N := i - e) (by omega) (fun j v h0 h1 hv => ?_) (by omega) (by omega)
  have := hd (e + j) (by omega) (by omega)
  try dsimp only at hv ⊢
  omega
def bw (k : Int) : Int := if k ≤ 0 then 1 else if k = 1 then 27 else if k = 2 then 729 else if k = 3 then 19683 else if k = 4 then 531441 else if k = 5 then 14348907 else 387420489
theorem bw_s {j : Int} (h0 : 0 ≤ j) (h1 : j < 6) : bw (j + 1) = bw j * 27 := by
  rcases (show j = 0 ∨ j = 1 ∨ j = 2 ∨ j = 3 ∨ j = 4 ∨ j = 5 by omega) with e | e | e | e | e | e <;> subst e <;> decide
theorem wmv_s {c : gC} {e i : Int} (h : e ≤ i) : wmv c e (i + 1) = if i - e < 6 then wmv c e i * 27 + c 100001 i - 97 + 1 else -1 := by
  unfold wmv
  rw [show i + 1 - e = (i - e) + 1 by omega, itI_s _ _ (by omega), show e + (i - e) = i by omega]
theorem wmv_rg {c : gC} {e i : Int} (h : e ≤ i) (hd : ∀ j, e ≤ j → j < i → 97 ≤ c 100001 j ∧ c 100001 j ≤ 122) : (0 ≤ wmv c e i ∧ wmv c e i < bw (i - e) ∧ i - e ≤ 6) ∨ (6 < i - e ∧ wmv c e i = -1) := by
  unfold wmv
  refine itI_inv3 (fun k v => (0 ≤ v ∧ v < bw k ∧ k ≤ 6) ∨ (6 < k ∧ v = -1)) (N := i - e) (by decide) (fun j v h0 h1 hv => ?_) (by omega) (by omega)
  have := hd (e + j) (by omega) (by omega)
  by_cases a : j < 6
  · rw [if_pos a]
    rcases hv with hv | hv
    · refine Or.inl ⟨by omega, ?_, by omega⟩
      have hb := bw_s h0 a
      omega
    · omega
  · rw [if_neg a]
    exact Or.inr ⟨by omega, rfl⟩
theorem bw_le (k : Int) : 1 ≤ bw k ∧ bw k ≤ 387420489 := by
  unfold bw
  repeat (first | omega | split)
theorem kwd_rg {c : gC} {v i : Int} : -1 ≤ itI (fun i k => if c 100033 i = v then i else k) (-1) i ∧ itI (fun i k => if c 100033 i = v then i else k) (-1) i ≤ max (-1) (i - 1) := by
  by_cases h : i ≤ 0
  · rw [itI_neg _ _ h]; omega
  · have := itI_inv3 (f := fun i k => if c 100033 i = v then i else k) (x := -1) (fun k x => -1 ≤ x ∧ x ≤ k - 1) (N := i) (by decide) (fun j x h0 h1 hv => by (try dsimp only at hv ⊢); split <;> omega) (k := i) (by omega) (Int.le_refl _)
    try dsimp only at this
    omega
def tkn (c : gC) : gC := gu (gu (gu c 100032 5 2) 100032 8 (nmv c (c 100032 7) (nen c (c 100032 7)))) 100032 7 (nen c (c 100032 7))
def tkw (c : gC) : gC := gu (gu (gu (gu c 100032 5 1) 100032 8 (wmv c (c 100032 7) (wen c (c 100032 7)))) 100032 7 (wen c (c 100032 7))) 100032 9 (kwd c (wmv c (c 100032 7) (wen c (c 100032 7))))
set_option maxHeartbeats 1000000 in
theorem c_takeNumber {g : Nat} {T : gT} {c J : gC} (hA : AT T) (hc : RG c) (hB : BR c 100000) (he : 0 ≤ c 100032 7 ∧ c 100032 7 ≤ c 100000 1) : gE g 53 1 [.ref 100032] (gm T c J) (fun o M1 => o = .inl none ∧ M1 = gm T (tkn c) J) := by
  obtain ⟨r1, r2, r3, r4⟩ := rn_ok (p := ibt c 48 57) ibt_lt he.1 he.2 hB.2
  have hb := hB.2
  refine gE_mk am_r53 rfl (Or.inr ⟨_, rfl, (by first | exact AT_0 hA | exact AT_r0 hA | exact AT_r1 hA | exact AT_r2 hA | exact AT_t hA | exact AT_l hA | exact AT_b0 hA | exact AT_b1 hA | exact AT_b2 hA | exact AT_b3 hA)⟩) (fun d hd => ?_)
  show gw d g 53 0 [.ref 100032] [] _ _
  refine gw_al0 at53_0 (gw_const at53_1 (gw_pf (j := 5) at53_2 (by first | exact AT_0 hA | exact AT_r0 hA | exact AT_r1 hA | exact AT_r2 hA | exact AT_t hA | exact AT_l hA | exact AT_b0 hA | exact AT_b1 hA | exact AT_b2 hA | exact AT_b3 hA) rfl (gw_al0 at53_5 (gw_const at53_6 (gw_pf (j := 8) at53_7 (by first | exact AT_0 hA | exact AT_r0 hA | exact AT_r1 hA | exact AT_r2 hA | exact AT_t hA | exact AT_l hA | exact AT_b0 hA | exact AT_b1 hA | exact AT_b2 hA | exact AT_b3 hA) rfl ?_)))))
  have lp10 : ∀ i : Int, 0 ≤ i → i ≤ 1200 → c 100032 7 ≤ i → i ≤ nen c (c 100032 7) → gw d g 53 10 [.ref 100032] [] (gm T (gu (gu (gu c 100032 5 2) 100032 8 (nmv c (c 100032 7) i)) 100032 7 (i)) J) (fun o M1 => o = .inl none ∧ M1 = gm T (tkn c) J) := by
    refine ind_up 1200 ?_
    intro i hi0 hi1 ih hi2 hi3
    have r5 := nmv_rg (c := c) hi2 (fun j a b => (ibt_b (r4 j a (by unfold nen at hi3; omega))).2.1)
    have hM0 : (gu (gu (gu c 100032 5 2) 100032 8 (nmv c (c 100032 7) i)) 100032 7 (i)) 100000 = c 100000 := by funext j; simp (disch := omega) only [gu_k]
    have hM1 : (gu (gu (gu c 100032 5 2) 100032 8 (nmv c (c 100032 7) i)) 100032 7 (i)) 100001 = c 100001 := by funext j; simp (disch := omega) only [gu_k]
    
    refine gw_al0 at53_10 ?_
    refine gw_gf (j := 7) at53_11 (by first | exact AT_0 hA | exact AT_r0 hA | exact AT_r1 hA | exact AT_r2 hA | exact AT_t hA | exact AT_l hA | exact AT_b0 hA | exact AT_b1 hA | exact AT_b2 hA | exact AT_b3 hA) rfl (gw_al0 at53_14 (gw_gr at53_15 (by first | exact AT_0 hA | exact AT_r0 hA | exact AT_r1 hA | exact AT_r2 hA | exact AT_t hA | exact AT_l hA | exact AT_b0 hA | exact AT_b1 hA | exact AT_b2 hA | exact AT_b3 hA) (by first | exact AT_0 hA | exact AT_r0 hA | exact AT_r1 hA | exact AT_r2 hA | exact AT_t hA | exact AT_l hA | exact AT_b0 hA | exact AT_b1 hA | exact AT_b2 hA | exact AT_b3 hA) (gw_gf (j := 1) at53_18 (by first | exact AT_0 hA | exact AT_r0 hA | exact AT_r1 hA | exact AT_r2 hA | exact AT_t hA | exact AT_l hA | exact AT_b0 hA | exact AT_b1 hA | exact AT_b2 hA | exact AT_b3 hA) rfl ?_)))
    simp (disch := omega) only [gu_k, gu_j, gu_s]
    refine gw_cge at53_21 (by first | omega | exact hc _ _) (by first | omega | exact hc _ _) (fun q21 => ?_) (fun q21 => ?_)
    · refine gw_rv at53_87 am_r53.2.1 ⟨rfl, ?_⟩
      have e0 : ibt c 48 57 i = false := by first | exact q39 | exact ibt_out (by omega)
      have e : i = nen c (c 100032 7) := by
        by_cases a : i < nen c (c 100032 7)
        · have := r4 i hi2 a
          rw [this] at e0
          cases e0
        · omega
      rw [e]
      rfl
    · refine gw_al0 at53_24 (gw_gr at53_25 (by first | exact AT_0 hA | exact AT_r0 hA | exact AT_r1 hA | exact AT_r2 hA | exact AT_t hA | exact AT_l hA | exact AT_b0 hA | exact AT_b1 hA | exact AT_b2 hA | exact AT_b3 hA) (by first | exact AT_0 hA | exact AT_r0 hA | exact AT_r1 hA | exact AT_r2 hA | exact AT_t hA | exact AT_l hA | exact AT_b0 hA | exact AT_b1 hA | exact AT_b2 hA | exact AT_b3 hA) (gw_gr at53_28 (by first | exact AT_0 hA | exact AT_r0 hA | exact AT_r1 hA | exact AT_r2 hA | exact AT_t hA | exact AT_l hA | exact AT_b0 hA | exact AT_b1 hA | exact AT_b2 hA | exact AT_b3 hA) (by first | exact AT_0 hA | exact AT_r0 hA | exact AT_r1 hA | exact AT_r2 hA | exact AT_t hA | exact AT_l hA | exact AT_b0 hA | exact AT_b1 hA | exact AT_b2 hA | exact AT_b3 hA) (gw_al0 at53_31 (gw_gf (j := 7) at53_32 (by first | exact AT_0 hA | exact AT_r0 hA | exact AT_r1 hA | exact AT_r2 hA | exact AT_t hA | exact AT_l hA | exact AT_b0 hA | exact AT_b1 hA | exact AT_b2 hA | exact AT_b3 hA) rfl ?_))))
      simp (disch := omega) only [gu_k, gu_j, gu_s]
      refine gw_ba at53_35 (by first | exact Or.inl (by first | exact AT_0 hA | exact AT_r0 hA | exact AT_r1 hA | exact AT_r2 hA | exact AT_t hA | exact AT_l hA | exact AT_b0 hA | exact AT_b1 hA | exact AT_b2 hA | exact AT_b3 hA) | exact Or.inr (by first | exact AT_0 hA | exact AT_r0 hA | exact AT_r1 hA | exact AT_r2 hA | exact AT_t hA | exact AT_l hA | exact AT_b0 hA | exact AT_b1 hA | exact AT_b2 hA | exact AT_b3 hA)) (by first | exact AT_0 hA | exact AT_r0 hA | exact AT_r1 hA | exact AT_r2 hA | exact AT_t hA | exact AT_l hA | exact AT_b0 hA | exact AT_b1 hA | exact AT_b2 hA | exact AT_b3 hA) (by first | omega | exact hc _ _) (by first | omega | exact hc _ _) (by omega) ?_
      simp (disch := omega) only [gu_k, gu_j, gu_s]
      refine gw_callP1 at53_36 (c_isDigit (hc _ _)) (by omega) (Nat.le_of_ble_eq_true rfl) ?_
      rw [← ibt_in (c := c) (l := 48) (h := 57) (i := i) (by omega)]
      refine gw_beq at53_39 (fun q39 => ?_) (fun q39 => ?_)
      · refine gw_rv at53_87 am_r53.2.1 ⟨rfl, ?_⟩
        have e0 : ibt c 48 57 i = false := by first | exact q39 | exact ibt_out (by omega)
        have e : i = nen c (c 100032 7) := by
          by_cases a : i < nen c (c 100032 7)
          · have := r4 i hi2 a
            rw [this] at e0
            cases e0
          · omega
        rw [e]
        rfl
      · have q19 := ibt_b q39
        have q20 : ¬ i = nen c (c 100032 7) := fun e => by rw [e] at q39; unfold nen at q39; rw [q39] at r3; cases r3
        refine gw_al0 at53_42 (gw_ldc (z := 100000) at53_43 (by decide) (gw_al0 at53_45 (gw_gf (j := 8) at53_46 (by first | exact AT_0 hA | exact AT_r0 hA | exact AT_r1 hA | exact AT_r2 hA | exact AT_t hA | exact AT_l hA | exact AT_b0 hA | exact AT_b1 hA | exact AT_b2 hA | exact AT_b3 hA) rfl ?_)))
        simp (disch := omega) only [gu_k, gu_j, gu_s]
        refine gw_bip at53_49 (by decide) (gw_imul at53_51 (gw_al0 at53_52 (gw_gr at53_53 (by first | exact AT_0 hA | exact AT_r0 hA | exact AT_r1 hA | exact AT_r2 hA | exact AT_t hA | exact AT_l hA | exact AT_b0 hA | exact AT_b1 hA | exact AT_b2 hA | exact AT_b3 hA) (by first | exact AT_0 hA | exact AT_r0 hA | exact AT_r1 hA | exact AT_r2 hA | exact AT_t hA | exact AT_l hA | exact AT_b0 hA | exact AT_b1 hA | exact AT_b2 hA | exact AT_b3 hA) (gw_gr at53_56 (by first | exact AT_0 hA | exact AT_r0 hA | exact AT_r1 hA | exact AT_r2 hA | exact AT_t hA | exact AT_l hA | exact AT_b0 hA | exact AT_b1 hA | exact AT_b2 hA | exact AT_b3 hA) (by first | exact AT_0 hA | exact AT_r0 hA | exact AT_r1 hA | exact AT_r2 hA | exact AT_t hA | exact AT_l hA | exact AT_b0 hA | exact AT_b1 hA | exact AT_b2 hA | exact AT_b3 hA) (gw_al0 at53_59 (gw_gf (j := 7) at53_60 (by first | exact AT_0 hA | exact AT_r0 hA | exact AT_r1 hA | exact AT_r2 hA | exact AT_t hA | exact AT_l hA | exact AT_b0 hA | exact AT_b1 hA | exact AT_b2 hA | exact AT_b3 hA) rfl ?_))))))
        simp (disch := omega) only [gu_k, gu_j, gu_s]
        refine gw_ba at53_63 (by first | exact Or.inl (by first | exact AT_0 hA | exact AT_r0 hA | exact AT_r1 hA | exact AT_r2 hA | exact AT_t hA | exact AT_l hA | exact AT_b0 hA | exact AT_b1 hA | exact AT_b2 hA | exact AT_b3 hA) | exact Or.inr (by first | exact AT_0 hA | exact AT_r0 hA | exact AT_r1 hA | exact AT_r2 hA | exact AT_t hA | exact AT_l hA | exact AT_b0 hA | exact AT_b1 hA | exact AT_b2 hA | exact AT_b3 hA)) (by first | exact AT_0 hA | exact AT_r0 hA | exact AT_r1 hA | exact AT_r2 hA | exact AT_t hA | exact AT_l hA | exact AT_b0 hA | exact AT_b1 hA | exact AT_b2 hA | exact AT_b3 hA) (by first | omega | exact hc _ _) (by first | omega | exact hc _ _) (by omega) ?_
        simp (disch := omega) only [gu_k, gu_j, gu_s]
        refine gw_iadd at53_64 (gw_bip at53_65 (by decide) (gw_isub at53_67 (gw_min at53_68 (by first | omega | exact hc _ _) (by first | omega | exact hc _ _) (Nat.le_of_ble_eq_true rfl) (gw_pf (j := 8) at53_71 (by first | exact AT_0 hA | exact AT_r0 hA | exact AT_r1 hA | exact AT_r2 hA | exact AT_t hA | exact AT_l hA | exact AT_b0 hA | exact AT_b1 hA | exact AT_b2 hA | exact AT_b3 hA) rfl (gw_al0 at53_74 (gw_dupr at53_75 (gw_gf (j := 7) at53_76 (by first | exact AT_0 hA | exact AT_r0 hA | exact AT_r1 hA | exact AT_r2 hA | exact AT_t hA | exact AT_l hA | exact AT_b0 hA | exact AT_b1 hA | exact AT_b2 hA | exact AT_b3 hA) rfl ?_)))))))
        simp (disch := omega) only [gu_k, gu_j, gu_s]
        refine gw_const at53_79 (gw_iadd at53_80 (gw_pf (j := 7) at53_81 (by first | exact AT_0 hA | exact AT_r0 hA | exact AT_r1 hA | exact AT_r2 hA | exact AT_t hA | exact AT_l hA | exact AT_b0 hA | exact AT_b1 hA | exact AT_b2 hA | exact AT_b3 hA) rfl (gw_goto at53_84 ?_)))
        rw [gu_st (by decide), ← nmv_s hi2]
        exact ih (i + 1) (by omega) (by omega) (by omega) (by omega)
  have h9 := lp10 (c 100032 7) he.1 (by omega) (Int.le_refl _) r1
  rw [show nmv c (c 100032 7) (c 100032 7) = 0 by unfold nmv; rw [Int.sub_self]; rfl, show gu (gu (gu c 100032 5 2) 100032 8 0) 100032 7 (c 100032 7) = gu (gu c 100032 5 2) 100032 8 0 from by have := gu_id (c := gu (gu c 100032 5 2) 100032 8 0) (k := 100032) (j := 7); rwa [gu_j (by decide), gu_j (by decide)] at this] at h9
  exact h9
