/-! the reference: a name is looked up -/
set_option maxHeartbeats 1000000 in
theorem m_findN {g : Nat} {T : gT} {c J : gC} {b : Nat} (hM : MT T b) (hc : RG c) (hV : NW c b) {v : Int} (hv : -2147483648 ≤ v ∧ v < 2147483648) : gE g 305 0 [.ref 500001, gi v] (gm T c J) (gR (gi (mfn c b v)) (gm T c J)) := by
  have hn := hV.1
  refine gE_mk am_r305 rfl (Or.inr ⟨_, rfl, (by first | exact MT_0 hM | exact MT_now hM | exact MT_bt hM | exact MT_bl hM | exact MT_r0 hM | exact MT_t0 hM | exact MT_l0 hM | exact MT_r1 hM | exact MT_t1 hM | exact MT_l1 hM | exact MT_r2 hM | exact MT_t2 hM | exact MT_l2 hM | exact MT_r3 hM | exact MT_t3 hM | exact MT_l3 hM | exact MT_r4 hM | exact MT_t4 hM | exact MT_l4 hM | exact MT_r5 hM | exact MT_t5 hM | exact MT_l5 hM | exact MT_r6 hM | exact MT_t6 hM | exact MT_l6 hM | exact MT_r7 hM | exact MT_t7 hM | exact MT_l7 hM | exact MT_r8 hM | exact MT_t8 hM | exact MT_l8 hM | exact MT_r9 hM | exact MT_t9 hM | exact MT_l9 hM | exact MT_r10 hM | exact MT_t10 hM | exact MT_l10 hM)⟩) (fun d hd => ?_)
  show gw d g 305 0 [.ref 500001, gi v, am_U] [] _ _
  refine gw_const at305_0 (gw_is2 at305_1 (h := ?_))
  have lp2 : ∀ i : Int, 0 ≤ i → i ≤ 10 → i ≤ c b 0 → ff (fun n => decide (c b (22 + 3 * n) = v)) (c b 0) 0 = ff (fun n => decide (c b (22 + 3 * n) = v)) (c b 0) i → gw d g 305 2 [.ref 500001, gi v, gi i] [] (gm T c J) (gR (gi (mfn c b v)) (gm T c J)) := by
    refine ind_up 10 ?_
    intro i hi0 hi1 ih hi2 hf
    refine gw_il2 at305_2 ?_
    refine gw_al0 at305_3 (gw_gr at305_4 (by first | exact MT_0 hM | exact MT_now hM | exact MT_bt hM | exact MT_bl hM | exact MT_r0 hM | exact MT_t0 hM | exact MT_l0 hM | exact MT_r1 hM | exact MT_t1 hM | exact MT_l1 hM | exact MT_r2 hM | exact MT_t2 hM | exact MT_l2 hM | exact MT_r3 hM | exact MT_t3 hM | exact MT_l3 hM | exact MT_r4 hM | exact MT_t4 hM | exact MT_l4 hM | exact MT_r5 hM | exact MT_t5 hM | exact MT_l5 hM | exact MT_r6 hM | exact MT_t6 hM | exact MT_l6 hM | exact MT_r7 hM | exact MT_t7 hM | exact MT_l7 hM | exact MT_r8 hM | exact MT_t8 hM | exact MT_l8 hM | exact MT_r9 hM | exact MT_t9 hM | exact MT_l9 hM | exact MT_r10 hM | exact MT_t10 hM | exact MT_l10 hM) (by first | exact MT_0 hM | exact MT_now hM | exact MT_bt hM | exact MT_bl hM | exact MT_r0 hM | exact MT_t0 hM | exact MT_l0 hM | exact MT_r1 hM | exact MT_t1 hM | exact MT_l1 hM | exact MT_r2 hM | exact MT_t2 hM | exact MT_l2 hM | exact MT_r3 hM | exact MT_t3 hM | exact MT_l3 hM | exact MT_r4 hM | exact MT_t4 hM | exact MT_l4 hM | exact MT_r5 hM | exact MT_t5 hM | exact MT_l5 hM | exact MT_r6 hM | exact MT_t6 hM | exact MT_l6 hM | exact MT_r7 hM | exact MT_t7 hM | exact MT_l7 hM | exact MT_r8 hM | exact MT_t8 hM | exact MT_l8 hM | exact MT_r9 hM | exact MT_t9 hM | exact MT_l9 hM | exact MT_r10 hM | exact MT_t10 hM | exact MT_l10 hM) (gw_const at305_7 (gw_ia at305_8 (by first | exact Or.inl (by first | exact MT_0 hM | exact MT_now hM | exact MT_bt hM | exact MT_bl hM | exact MT_r0 hM | exact MT_t0 hM | exact MT_l0 hM | exact MT_r1 hM | exact MT_t1 hM | exact MT_l1 hM | exact MT_r2 hM | exact MT_t2 hM | exact MT_l2 hM | exact MT_r3 hM | exact MT_t3 hM | exact MT_l3 hM | exact MT_r4 hM | exact MT_t4 hM | exact MT_l4 hM | exact MT_r5 hM | exact MT_t5 hM | exact MT_l5 hM | exact MT_r6 hM | exact MT_t6 hM | exact MT_l6 hM | exact MT_r7 hM | exact MT_t7 hM | exact MT_l7 hM | exact MT_r8 hM | exact MT_t8 hM | exact MT_l8 hM | exact MT_r9 hM | exact MT_t9 hM | exact MT_l9 hM | exact MT_r10 hM | exact MT_t10 hM | exact MT_l10 hM) | exact Or.inr (by first | exact MT_0 hM | exact MT_now hM | exact MT_bt hM | exact MT_bl hM | exact MT_r0 hM | exact MT_t0 hM | exact MT_l0 hM | exact MT_r1 hM | exact MT_t1 hM | exact MT_l1 hM | exact MT_r2 hM | exact MT_t2 hM | exact MT_l2 hM | exact MT_r3 hM | exact MT_t3 hM | exact MT_l3 hM | exact MT_r4 hM | exact MT_t4 hM | exact MT_l4 hM | exact MT_r5 hM | exact MT_t5 hM | exact MT_l5 hM | exact MT_r6 hM | exact MT_t6 hM | exact MT_l6 hM | exact MT_r7 hM | exact MT_t7 hM | exact MT_l7 hM | exact MT_r8 hM | exact MT_t8 hM | exact MT_l8 hM | exact MT_r9 hM | exact MT_t9 hM | exact MT_l9 hM | exact MT_r10 hM | exact MT_t10 hM | exact MT_l10 hM)) (by first | exact MT_0 hM | exact MT_now hM | exact MT_bt hM | exact MT_bl hM | exact MT_r0 hM | exact MT_t0 hM | exact MT_l0 hM | exact MT_r1 hM | exact MT_t1 hM | exact MT_l1 hM | exact MT_r2 hM | exact MT_t2 hM | exact MT_l2 hM | exact MT_r3 hM | exact MT_t3 hM | exact MT_l3 hM | exact MT_r4 hM | exact MT_t4 hM | exact MT_l4 hM | exact MT_r5 hM | exact MT_t5 hM | exact MT_l5 hM | exact MT_r6 hM | exact MT_t6 hM | exact MT_l6 hM | exact MT_r7 hM | exact MT_t7 hM | exact MT_l7 hM | exact MT_r8 hM | exact MT_t8 hM | exact MT_l8 hM | exact MT_r9 hM | exact MT_t9 hM | exact MT_l9 hM | exact MT_r10 hM | exact MT_t10 hM | exact MT_l10 hM) (by first | omega | exact hc _ _) (by first | omega | exact hc _ _) (by omega) ?_)))
    refine gw_cge at305_9 (by first | omega | exact hc _ _) (by first | omega | exact hc _ _) (fun q9 => ?_) (fun q9 => ?_)
    · refine gw_const at305_35 (gw_ri at305_36 am_r305.2.1 (gR_i ?_))
      unfold mfn
      rw [hf, ff_end (by omega)]
    · refine gw_al0 at305_12 (gw_gr at305_13 (by first | exact MT_0 hM | exact MT_now hM | exact MT_bt hM | exact MT_bl hM | exact MT_r0 hM | exact MT_t0 hM | exact MT_l0 hM | exact MT_r1 hM | exact MT_t1 hM | exact MT_l1 hM | exact MT_r2 hM | exact MT_t2 hM | exact MT_l2 hM | exact MT_r3 hM | exact MT_t3 hM | exact MT_l3 hM | exact MT_r4 hM | exact MT_t4 hM | exact MT_l4 hM | exact MT_r5 hM | exact MT_t5 hM | exact MT_l5 hM | exact MT_r6 hM | exact MT_t6 hM | exact MT_l6 hM | exact MT_r7 hM | exact MT_t7 hM | exact MT_l7 hM | exact MT_r8 hM | exact MT_t8 hM | exact MT_l8 hM | exact MT_r9 hM | exact MT_t9 hM | exact MT_l9 hM | exact MT_r10 hM | exact MT_t10 hM | exact MT_l10 hM) (by first | exact MT_0 hM | exact MT_now hM | exact MT_bt hM | exact MT_bl hM | exact MT_r0 hM | exact MT_t0 hM | exact MT_l0 hM | exact MT_r1 hM | exact MT_t1 hM | exact MT_l1 hM | exact MT_r2 hM | exact MT_t2 hM | exact MT_l2 hM | exact MT_r3 hM | exact MT_t3 hM | exact MT_l3 hM | exact MT_r4 hM | exact MT_t4 hM | exact MT_l4 hM | exact MT_r5 hM | exact MT_t5 hM | exact MT_l5 hM | exact MT_r6 hM | exact MT_t6 hM | exact MT_l6 hM | exact MT_r7 hM | exact MT_t7 hM | exact MT_l7 hM | exact MT_r8 hM | exact MT_t8 hM | exact MT_l8 hM | exact MT_r9 hM | exact MT_t9 hM | exact MT_l9 hM | exact MT_r10 hM | exact MT_t10 hM | exact MT_l10 hM) (gw_bip at305_16 (by decide) (gw_const at305_18 (gw_il2 at305_19 (gw_imul at305_20 (gw_iadd at305_21 (gw_ia at305_22 (by first | exact Or.inl (by first | exact MT_0 hM | exact MT_now hM | exact MT_bt hM | exact MT_bl hM | exact MT_r0 hM | exact MT_t0 hM | exact MT_l0 hM | exact MT_r1 hM | exact MT_t1 hM | exact MT_l1 hM | exact MT_r2 hM | exact MT_t2 hM | exact MT_l2 hM | exact MT_r3 hM | exact MT_t3 hM | exact MT_l3 hM | exact MT_r4 hM | exact MT_t4 hM | exact MT_l4 hM | exact MT_r5 hM | exact MT_t5 hM | exact MT_l5 hM | exact MT_r6 hM | exact MT_t6 hM | exact MT_l6 hM | exact MT_r7 hM | exact MT_t7 hM | exact MT_l7 hM | exact MT_r8 hM | exact MT_t8 hM | exact MT_l8 hM | exact MT_r9 hM | exact MT_t9 hM | exact MT_l9 hM | exact MT_r10 hM | exact MT_t10 hM | exact MT_l10 hM) | exact Or.inr (by first | exact MT_0 hM | exact MT_now hM | exact MT_bt hM | exact MT_bl hM | exact MT_r0 hM | exact MT_t0 hM | exact MT_l0 hM | exact MT_r1 hM | exact MT_t1 hM | exact MT_l1 hM | exact MT_r2 hM | exact MT_t2 hM | exact MT_l2 hM | exact MT_r3 hM | exact MT_t3 hM | exact MT_l3 hM | exact MT_r4 hM | exact MT_t4 hM | exact MT_l4 hM | exact MT_r5 hM | exact MT_t5 hM | exact MT_l5 hM | exact MT_r6 hM | exact MT_t6 hM | exact MT_l6 hM | exact MT_r7 hM | exact MT_t7 hM | exact MT_l7 hM | exact MT_r8 hM | exact MT_t8 hM | exact MT_l8 hM | exact MT_r9 hM | exact MT_t9 hM | exact MT_l9 hM | exact MT_r10 hM | exact MT_t10 hM | exact MT_l10 hM)) (by first | exact MT_0 hM | exact MT_now hM | exact MT_bt hM | exact MT_bl hM | exact MT_r0 hM | exact MT_t0 hM | exact MT_l0 hM | exact MT_r1 hM | exact MT_t1 hM | exact MT_l1 hM | exact MT_r2 hM | exact MT_t2 hM | exact MT_l2 hM | exact MT_r3 hM | exact MT_t3 hM | exact MT_l3 hM | exact MT_r4 hM | exact MT_t4 hM | exact MT_l4 hM | exact MT_r5 hM | exact MT_t5 hM | exact MT_l5 hM | exact MT_r6 hM | exact MT_t6 hM | exact MT_l6 hM | exact MT_r7 hM | exact MT_t7 hM | exact MT_l7 hM | exact MT_r8 hM | exact MT_t8 hM | exact MT_l8 hM | exact MT_r9 hM | exact MT_t9 hM | exact MT_l9 hM | exact MT_r10 hM | exact MT_t10 hM | exact MT_l10 hM) (by first | omega | exact hc _ _) (by first | omega | exact hc _ _) (by omega) (gw_il1 at305_23 ?_))))))))
      refine gw_cne at305_24 (by first | omega | exact hc _ _) (by first | omega | exact hc _ _) (fun q24 => ?_) (fun q24 => ?_)
      · refine gw_inc2 at305_29 (h := (gw_goto at305_32 ?_))
        refine ih (i + 1) (by omega) (by omega) (by omega) ?_
        rw [hf]
        exact ff_no (by omega) (decide_eq_false (by omega))
      · refine gw_il2 at305_27 (gw_ri at305_28 am_r305.2.1 (gR_i ?_))
        unfold mfn
        rw [hf, ff_yes (by omega) (decide_eq_true (by omega))]
  exact lp2 0 (by omega) (by omega) (by omega) rfl
set_option maxHeartbeats 1000000 in
theorem m_findR {g : Nat} {T : gT} {c J : gC} {b : Nat} (hM : MT T b) (hc : RG c) (hV : NW c b) {v : Int} (hv : -2147483648 ≤ v ∧ v < 2147483648) : gE g 306 1 [.ref 500001, gi v] (gm T c J) (gR (gi (mfr c b v)) (gm T c J)) := by
  have hn := hV.1
  refine gE_mk am_r306 rfl (Or.inr ⟨_, rfl, (by first | exact MT_0 hM | exact MT_now hM | exact MT_bt hM | exact MT_bl hM | exact MT_r0 hM | exact MT_t0 hM | exact MT_l0 hM | exact MT_r1 hM | exact MT_t1 hM | exact MT_l1 hM | exact MT_r2 hM | exact MT_t2 hM | exact MT_l2 hM | exact MT_r3 hM | exact MT_t3 hM | exact MT_l3 hM | exact MT_r4 hM | exact MT_t4 hM | exact MT_l4 hM | exact MT_r5 hM | exact MT_t5 hM | exact MT_l5 hM | exact MT_r6 hM | exact MT_t6 hM | exact MT_l6 hM | exact MT_r7 hM | exact MT_t7 hM | exact MT_l7 hM | exact MT_r8 hM | exact MT_t8 hM | exact MT_l8 hM | exact MT_r9 hM | exact MT_t9 hM | exact MT_l9 hM | exact MT_r10 hM | exact MT_t10 hM | exact MT_l10 hM)⟩) (fun d hd => ?_)
  show gw d g 306 0 [.ref 500001, gi v, am_U] [] _ _
  refine gw_const at306_0 (gw_is2 at306_1 (h := ?_))
  have lp2 : ∀ i : Int, 0 ≤ i → i ≤ 12 → i ≤ c b 1 → ff (fun r => decide (c b (52 + 7 * r + 0) = v)) (c b 1) 0 = ff (fun r => decide (c b (52 + 7 * r + 0) = v)) (c b 1) i → gw d g 306 2 [.ref 500001, gi v, gi i] [] (gm T c J) (gR (gi (mfr c b v)) (gm T c J)) := by
    refine ind_up 12 ?_
    intro i hi0 hi1 ih hi2 hf
    refine gw_il2 at306_2 ?_
    refine gw_al0 at306_3 (gw_gr at306_4 (by first | exact MT_0 hM | exact MT_now hM | exact MT_bt hM | exact MT_bl hM | exact MT_r0 hM | exact MT_t0 hM | exact MT_l0 hM | exact MT_r1 hM | exact MT_t1 hM | exact MT_l1 hM | exact MT_r2 hM | exact MT_t2 hM | exact MT_l2 hM | exact MT_r3 hM | exact MT_t3 hM | exact MT_l3 hM | exact MT_r4 hM | exact MT_t4 hM | exact MT_l4 hM | exact MT_r5 hM | exact MT_t5 hM | exact MT_l5 hM | exact MT_r6 hM | exact MT_t6 hM | exact MT_l6 hM | exact MT_r7 hM | exact MT_t7 hM | exact MT_l7 hM | exact MT_r8 hM | exact MT_t8 hM | exact MT_l8 hM | exact MT_r9 hM | exact MT_t9 hM | exact MT_l9 hM | exact MT_r10 hM | exact MT_t10 hM | exact MT_l10 hM) (by first | exact MT_0 hM | exact MT_now hM | exact MT_bt hM | exact MT_bl hM | exact MT_r0 hM | exact MT_t0 hM | exact MT_l0 hM | exact MT_r1 hM | exact MT_t1 hM | exact MT_l1 hM | exact MT_r2 hM | exact MT_t2 hM | exact MT_l2 hM | exact MT_r3 hM | exact MT_t3 hM | exact MT_l3 hM | exact MT_r4 hM | exact MT_t4 hM | exact MT_l4 hM | exact MT_r5 hM | exact MT_t5 hM | exact MT_l5 hM | exact MT_r6 hM | exact MT_t6 hM | exact MT_l6 hM | exact MT_r7 hM | exact MT_t7 hM | exact MT_l7 hM | exact MT_r8 hM | exact MT_t8 hM | exact MT_l8 hM | exact MT_r9 hM | exact MT_t9 hM | exact MT_l9 hM | exact MT_r10 hM | exact MT_t10 hM | exact MT_l10 hM) (gw_const at306_7 (gw_ia at306_8 (by first | exact Or.inl (by first | exact MT_0 hM | exact MT_now hM | exact MT_bt hM | exact MT_bl hM | exact MT_r0 hM | exact MT_t0 hM | exact MT_l0 hM | exact MT_r1 hM | exact MT_t1 hM | exact MT_l1 hM | exact MT_r2 hM | exact MT_t2 hM | exact MT_l2 hM | exact MT_r3 hM | exact MT_t3 hM | exact MT_l3 hM | exact MT_r4 hM | exact MT_t4 hM | exact MT_l4 hM | exact MT_r5 hM | exact MT_t5 hM | exact MT_l5 hM | exact MT_r6 hM | exact MT_t6 hM | exact MT_l6 hM | exact MT_r7 hM | exact MT_t7 hM | exact MT_l7 hM | exact MT_r8 hM | exact MT_t8 hM | exact MT_l8 hM | exact MT_r9 hM | exact MT_t9 hM | exact MT_l9 hM | exact MT_r10 hM | exact MT_t10 hM | exact MT_l10 hM) | exact Or.inr (by first | exact MT_0 hM | exact MT_now hM | exact MT_bt hM | exact MT_bl hM | exact MT_r0 hM | exact MT_t0 hM | exact MT_l0 hM | exact MT_r1 hM | exact MT_t1 hM | exact MT_l1 hM | exact MT_r2 hM | exact MT_t2 hM | exact MT_l2 hM | exact MT_r3 hM | exact MT_t3 hM | exact MT_l3 hM | exact MT_r4 hM | exact MT_t4 hM | exact MT_l4 hM | exact MT_r5 hM | exact MT_t5 hM | exact MT_l5 hM | exact MT_r6 hM | exact MT_t6 hM | exact MT_l6 hM | exact MT_r7 hM | exact MT_t7 hM | exact MT_l7 hM | exact MT_r8 hM | exact MT_t8 hM | exact MT_l8 hM | exact MT_r9 hM | exact MT_t9 hM | exact MT_l9 hM | exact MT_r10 hM | exact MT_t10 hM | exact MT_l10 hM)) (by first | exact MT_0 hM | exact MT_now hM | exact MT_bt hM | exact MT_bl hM | exact MT_r0 hM | exact MT_t0 hM | exact MT_l0 hM | exact MT_r1 hM | exact MT_t1 hM | exact MT_l1 hM | exact MT_r2 hM | exact MT_t2 hM | exact MT_l2 hM | exact MT_r3 hM | exact MT_t3 hM | exact MT_l3 hM | exact MT_r4 hM | exact MT_t4 hM | exact MT_l4 hM | exact MT_r5 hM | exact MT_t5 hM | exact MT_l5 hM | exact MT_r6 hM | exact MT_t6 hM | exact MT_l6 hM | exact MT_r7 hM | exact MT_t7 hM | exact MT_l7 hM | exact MT_r8 hM | exact MT_t8 hM | exact MT_l8 hM | exact MT_r9 hM | exact MT_t9 hM | exact MT_l9 hM | exact MT_r10 hM | exact MT_t10 hM | exact MT_l10 hM) (by first | omega | exact hc _ _) (by first | omega | exact hc _ _) (by omega) ?_)))
    refine gw_cge at306_9 (by first | omega | exact hc _ _) (by first | omega | exact hc _ _) (fun q9 => ?_) (fun q9 => ?_)
    · refine gw_const at306_30 (gw_ri at306_31 am_r306.2.1 (gR_i ?_))
      unfold mfr
      rw [hf, ff_end (by omega)]
    · refine gw_al0 at306_12 (gw_il2 at306_13 (gw_const at306_14 (gw_callP3 at306_15 (m_rof hM hc (by omega) (by decide)) (by omega) (Nat.le_of_ble_eq_true rfl) (gw_il1 at306_18 ?_))))
      refine gw_cne at306_19 (by first | omega | exact hc _ _) (by first | omega | exact hc _ _) (fun q19 => ?_) (fun q19 => ?_)
      · refine gw_inc2 at306_24 (h := (gw_goto at306_27 ?_))
        refine ih (i + 1) (by omega) (by omega) (by omega) ?_
        rw [hf]
        exact ff_no (by omega) (decide_eq_false (by omega))
      · refine gw_il2 at306_22 (gw_ri at306_23 am_r306.2.1 (gR_i ?_))
        unfold mfr
        rw [hf, ff_yes (by omega) (decide_eq_true (by omega))]
  exact lp2 0 (by omega) (by omega) (by omega) rfl
def fpk (c : gC) (s k v : Int) : Int := 27 * v + (if k < s then c 200009 k - 97 + 1 else 0)
def fin (c : gC) (s : Int) : Int := itI (fpk c s) 0 6
theorem fpk_rg {c : gC} {s i : Int} (h : ∀ k, 0 ≤ k → k < s → 97 ≤ c 200009 k ∧ c 200009 k ≤ 122) (h0 : 0 ≤ i) (h1 : i ≤ 6) : 0 ≤ itI (fpk c s) 0 i ∧ itI (fpk c s) 0 i < bw i := by
  refine itI_inv3 (fun k (v : Int) => 0 ≤ v ∧ v < bw k) (N := i) (by decide) (fun j s2 j0 j1 hv => ?_) h0 (Int.le_refl _)
  have hb := bw_s j0 (by omega)
  unfold fpk
  (try dsimp only at hv ⊢)
  split
  · rename_i e
    have := h j j0 e
    omega
  · omega
theorem fpk_t {c : gC} {s k v : Int} (h : k < s) : fpk c s k v = 27 * v + (c 200009 k - 97 + 1) := by unfold fpk; rw [if_pos h]
theorem fpk_f {c : gC} {s k v : Int} (h : ¬ k < s) : fpk c s k v = 27 * v + 0 := by unfold fpk; rw [if_neg h]
def fbd (c : gC) (k : Int) : Bool := !inr (c 200009 k) 97 122
def fok (c : gC) (s : Int) : Bool := inr s 1 6 && decide (ff (fbd c) s 0 = -1)
theorem fok_l {c : gC} {s : Int} (h : fok c s = true) : (1 ≤ s ∧ s ≤ 6) ∧ ∀ k, 0 ≤ k → k < s → 97 ≤ c 200009 k ∧ c 200009 k ≤ 122 := by
  unfold fok at h
  simp only [Bool.and_eq_true, decide_eq_true_eq] at h
  refine ⟨inr_t.mp h.1, fun k h0 h1 => ?_⟩
  rcases ff_spec (p := fbd c) (N := s) (i := 0) (by decide) with ⟨-, h3⟩ | ⟨h3, -, -, -⟩
  · have := h3 k h0 h1
    unfold fbd at this
    simp only [Bool.not_eq_false'] at this
    exact inr_t.mp this
  · omega
set_option maxHeartbeats 1000000 in
theorem m_fi60 {d g : Nat} {T : gT} {c J : gC} (hd : 2 ≤ d) (hM : MT T 200000) (hc : RG c) (hV : NW c 200000) {z w : Bool} {s : Int} (hs : 0 ≤ s ∧ s ≤ 1200) (hw : w = true → ∀ k, 0 ≤ k → k < s → 97 ≤ c 200009 k ∧ c 200009 k ≤ 122) {u : Value} (hu : am_nl u = true) : gw d g 319 60 [.ref 500001, gi (bi z), gi s, gi (bi w), gi 0, u] [] (gm T c J) (fun o M1 => (w = true ∧ o = .inl (some (gi (if z = true then mfr (tw c 0) 200000 (fin c s) else mfn (tw c 0) 200000 (fin c s)))) ∧ M1 = gm T (tw c 0) J) ∨ (w = false ∧ o = .inl (some (gi 0)) ∧ M1 = gm T (tw c 1) J)) := by
  have t0 : tw c 0 200000 = c 200000 := tw_k (by decide)
  have t1 : RG (tw c 0) := tw_RG hc (by decide)
  have t2 : NW (tw c 0) 200000 := NW_of hV t0
  have hv9 : w = true → 0 ≤ fin c s ∧ fin c s < 387420489 := fun e => by
    have := fpk_rg (hw e) (i := 6) (by decide) (by decide)
    have hb6 : bw 6 = 387420489 := by decide
    rw [hb6] at this
    exact this
  refine gw_const at319_60 (gw_is5 at319_61 (h := ?_))
  have lp63 : ∀ i : Int, 0 ≤ i → i ≤ 6 → gw d g 319 63 [.ref 500001, gi (bi z), gi s, gi (bi w), gi (itI (fpk c s) 0 i), gi i] [] (gm T c J) (fun o M1 => (w = true ∧ o = .inl (some (gi (if z = true then mfr (tw c 0) 200000 (fin c s) else mfn (tw c 0) 200000 (fin c s)))) ∧ M1 = gm T (tw c 0) J) ∨ (w = false ∧ o = .inl (some (gi 0)) ∧ M1 = gm T (tw c 1) J)) := by
    refine ind_up 6 ?_
    intro i hi0 hi1 ih
    have hx : w = false ∨ i = 6 → w = true → itI (fpk c s) 0 i = fin c s := fun e e2 => by
      rcases e with e | e
      · rw [e] at e2; cases e2
      · rw [e]; rfl
    refine gw_il5 at319_63 ?_
    refine gw_bip at319_65 (by decide) ?_
    refine gw_cge at319_67 (by first | omega | exact hc _ _ | exact bi_rg _) (by first | omega | exact hc _ _ | exact bi_rg _) (fun q67 => ?_) (fun q67 => ?_)
    · refine gw_al0 at319_110 (gw_il3 at319_111 ?_)
      refine gw_call2 at319_112 (m_pas1 hM hc (p := w)) (by omega) (Nat.le_of_ble_eq_true rfl) (fun o M1 q112 => ?_)
      rcases q112 with ⟨hw9, rfl, rfl⟩ | ⟨hw9, rfl, rfl⟩
      · show gw _ _ _ _ _ (gi (bi true) :: []) _ _
        have h8 := hv9 hw9
        have e9 := hx (by first | exact Or.inl (by assumption) | exact Or.inr (by omega)) hw9
        rw [e9]
        refine gw_zne at319_115 (by first | omega | exact hc _ _ | exact bi_rg _) (fun q115 => ?_) (fun q115 => absurd q115 (by decide))
        refine gw_il1 at319_120 ?_
        refine gw_beq at319_121 (fun q121 => ?_) (fun q121 => ?_)
        · refine gw_al0 at319_133 (gw_il4 at319_134 (gw_callP2 at319_136 (m_findN hM t1 t2 (by omega)) (by omega) (Nat.le_of_ble_eq_true rfl) (gw_ri at319_139 am_r319.2.1 ?_)))
          refine Or.inl ⟨hw9, ?_, rfl⟩
          first
          | (rw [if_pos q121])
          | (rw [if_neg (by rw [q121]; decide)])
        · refine gw_al0 at319_124 (gw_il4 at319_125 (gw_callP2 at319_127 (m_findR hM t1 t2 (by omega)) (by omega) (Nat.le_of_ble_eq_true rfl) (gw_goto at319_130 (gw_ri at319_139 am_r319.2.1 ?_))))
          refine Or.inl ⟨hw9, ?_, rfl⟩
          first
          | (rw [if_pos q121])
          | (rw [if_neg (by rw [q121]; decide)])
      · show gw _ _ _ _ _ (gi (bi false) :: []) _ _
        refine gw_zne at319_115 (by first | omega | exact hc _ _ | exact bi_rg _) (fun q115 => absurd q115 (by decide)) (fun q115 => ?_)
        refine gw_const at319_118 (gw_ri at319_119 am_r319.2.1 ?_)
        exact Or.inr ⟨hw9, rfl, rfl⟩
    · refine gw_il3 at319_70 ?_
      refine gw_beq at319_71 (fun q71 => ?_) (fun q71 => ?_)
      · refine gw_al0 at319_110 (gw_il3 at319_111 ?_)
        refine gw_call2 at319_112 (m_pas1 hM hc (p := w)) (by omega) (Nat.le_of_ble_eq_true rfl) (fun o M1 q112 => ?_)
        rcases q112 with ⟨hw9, rfl, rfl⟩ | ⟨hw9, rfl, rfl⟩
        · show gw _ _ _ _ _ (gi (bi true) :: []) _ _
          have h8 := hv9 hw9
          have e9 := hx (by first | exact Or.inl (by assumption) | exact Or.inr (by omega)) hw9
          rw [e9]
          refine gw_zne at319_115 (by first | omega | exact hc _ _ | exact bi_rg _) (fun q115 => ?_) (fun q115 => absurd q115 (by decide))
          refine gw_il1 at319_120 ?_
          refine gw_beq at319_121 (fun q121 => ?_) (fun q121 => ?_)
          · refine gw_al0 at319_133 (gw_il4 at319_134 (gw_callP2 at319_136 (m_findN hM t1 t2 (by omega)) (by omega) (Nat.le_of_ble_eq_true rfl) (gw_ri at319_139 am_r319.2.1 ?_)))
            refine Or.inl ⟨hw9, ?_, rfl⟩
            first
            | (rw [if_pos q121])
            | (rw [if_neg (by rw [q121]; decide)])
          · refine gw_al0 at319_124 (gw_il4 at319_125 (gw_callP2 at319_127 (m_findR hM t1 t2 (by omega)) (by omega) (Nat.le_of_ble_eq_true rfl) (gw_goto at319_130 (gw_ri at319_139 am_r319.2.1 ?_))))
            refine Or.inl ⟨hw9, ?_, rfl⟩
            first
            | (rw [if_pos q121])
            | (rw [if_neg (by rw [q121]; decide)])
        · show gw _ _ _ _ _ (gi (bi false) :: []) _ _
          refine gw_zne at319_115 (by first | omega | exact hc _ _ | exact bi_rg _) (fun q115 => absurd q115 (by decide)) (fun q115 => ?_)
          refine gw_const at319_118 (gw_ri at319_119 am_r319.2.1 ?_)
          exact Or.inr ⟨hw9, rfl, rfl⟩
      · refine gw_bip at319_74 (by decide) (gw_il4 at319_76 (gw_imul at319_78 (gw_il5 at319_79 (gw_il2 at319_81 ?_))))
        refine gw_cge at319_82 (by first | omega | exact hc _ _ | exact bi_rg _) (by first | omega | exact hc _ _ | exact bi_rg _) (fun q82 => ?_) (fun q82 => ?_)
        · refine gw_const at319_100 (gw_iadd at319_101 (gw_is4 at319_102 (h := (gw_inc5 at319_104 (h := (gw_goto at319_107 ?_))))))
          have h9 := ih (i + 1) (by omega) (by omega)
          rw [itI_s _ _ hi0] at h9
          first
          | (rw [fpk_t (by omega)] at h9; exact h9)
          | (rw [fpk_f (by omega)] at h9; exact h9)
        · refine gw_al0 at319_85 (gw_gr at319_86 (by first | exact MT_0 hM | exact MT_now hM | exact MT_bt hM | exact MT_bl hM | exact MT_r0 hM | exact MT_t0 hM | exact MT_l0 hM | exact MT_r1 hM | exact MT_t1 hM | exact MT_l1 hM | exact MT_r2 hM | exact MT_t2 hM | exact MT_l2 hM | exact MT_r3 hM | exact MT_t3 hM | exact MT_l3 hM | exact MT_r4 hM | exact MT_t4 hM | exact MT_l4 hM | exact MT_r5 hM | exact MT_t5 hM | exact MT_l5 hM | exact MT_r6 hM | exact MT_t6 hM | exact MT_l6 hM | exact MT_r7 hM | exact MT_t7 hM | exact MT_l7 hM | exact MT_r8 hM | exact MT_t8 hM | exact MT_l8 hM | exact MT_r9 hM | exact MT_t9 hM | exact MT_l9 hM | exact MT_r10 hM | exact MT_t10 hM | exact MT_l10 hM) (by first | exact MT_0 hM | exact MT_now hM | exact MT_bt hM | exact MT_bl hM | exact MT_r0 hM | exact MT_t0 hM | exact MT_l0 hM | exact MT_r1 hM | exact MT_t1 hM | exact MT_l1 hM | exact MT_r2 hM | exact MT_t2 hM | exact MT_l2 hM | exact MT_r3 hM | exact MT_t3 hM | exact MT_l3 hM | exact MT_r4 hM | exact MT_t4 hM | exact MT_l4 hM | exact MT_r5 hM | exact MT_t5 hM | exact MT_l5 hM | exact MT_r6 hM | exact MT_t6 hM | exact MT_l6 hM | exact MT_r7 hM | exact MT_t7 hM | exact MT_l7 hM | exact MT_r8 hM | exact MT_t8 hM | exact MT_l8 hM | exact MT_r9 hM | exact MT_t9 hM | exact MT_l9 hM | exact MT_r10 hM | exact MT_t10 hM | exact MT_l10 hM) (gw_il5 at319_89 (gw_ba at319_91 (by first | exact Or.inl (by first | exact MT_0 hM | exact MT_now hM | exact MT_bt hM | exact MT_bl hM | exact MT_r0 hM | exact MT_t0 hM | exact MT_l0 hM | exact MT_r1 hM | exact MT_t1 hM | exact MT_l1 hM | exact MT_r2 hM | exact MT_t2 hM | exact MT_l2 hM | exact MT_r3 hM | exact MT_t3 hM | exact MT_l3 hM | exact MT_r4 hM | exact MT_t4 hM | exact MT_l4 hM | exact MT_r5 hM | exact MT_t5 hM | exact MT_l5 hM | exact MT_r6 hM | exact MT_t6 hM | exact MT_l6 hM | exact MT_r7 hM | exact MT_t7 hM | exact MT_l7 hM | exact MT_r8 hM | exact MT_t8 hM | exact MT_l8 hM | exact MT_r9 hM | exact MT_t9 hM | exact MT_l9 hM | exact MT_r10 hM | exact MT_t10 hM | exact MT_l10 hM) | exact Or.inr (by first | exact MT_0 hM | exact MT_now hM | exact MT_bt hM | exact MT_bl hM | exact MT_r0 hM | exact MT_t0 hM | exact MT_l0 hM | exact MT_r1 hM | exact MT_t1 hM | exact MT_l1 hM | exact MT_r2 hM | exact MT_t2 hM | exact MT_l2 hM | exact MT_r3 hM | exact MT_t3 hM | exact MT_l3 hM | exact MT_r4 hM | exact MT_t4 hM | exact MT_l4 hM | exact MT_r5 hM | exact MT_t5 hM | exact MT_l5 hM | exact MT_r6 hM | exact MT_t6 hM | exact MT_l6 hM | exact MT_r7 hM | exact MT_t7 hM | exact MT_l7 hM | exact MT_r8 hM | exact MT_t8 hM | exact MT_l8 hM | exact MT_r9 hM | exact MT_t9 hM | exact MT_l9 hM | exact MT_r10 hM | exact MT_t10 hM | exact MT_l10 hM)) (by first | exact MT_0 hM | exact MT_now hM | exact MT_bt hM | exact MT_bl hM | exact MT_r0 hM | exact MT_t0 hM | exact MT_l0 hM | exact MT_r1 hM | exact MT_t1 hM | exact MT_l1 hM | exact MT_r2 hM | exact MT_t2 hM | exact MT_l2 hM | exact MT_r3 hM | exact MT_t3 hM | exact MT_l3 hM | exact MT_r4 hM | exact MT_t4 hM | exact MT_l4 hM | exact MT_r5 hM | exact MT_t5 hM | exact MT_l5 hM | exact MT_r6 hM | exact MT_t6 hM | exact MT_l6 hM | exact MT_r7 hM | exact MT_t7 hM | exact MT_l7 hM | exact MT_r8 hM | exact MT_t8 hM | exact MT_l8 hM | exact MT_r9 hM | exact MT_t9 hM | exact MT_l9 hM | exact MT_r10 hM | exact MT_t10 hM | exact MT_l10 hM) (by first | omega | exact hc _ _ | exact bi_rg _) (by first | omega | exact hc _ _ | exact bi_rg _) (by omega) (gw_bip at319_92 (by decide) (gw_isub at319_94 (gw_const at319_95 (gw_iadd at319_96 (gw_goto at319_97 (gw_iadd at319_101 (gw_is4 at319_102 (h := (gw_inc5 at319_104 (h := (gw_goto at319_107 ?_))))))))))))))
          have h9 := ih (i + 1) (by omega) (by omega)
          rw [itI_s _ _ hi0] at h9
          first
          | (rw [fpk_t (by omega)] at h9; exact h9)
          | (rw [fpk_f (by omega)] at h9; exact h9)
  exact lp63 0 (by omega) (by omega)
set_option maxHeartbeats 1000000 in
theorem m_x_find {g : Nat} {T : gT} {c J : gC} (hM : MT T 200000) (hc : RG c) (hV : NW c 200000) {z : Bool} (hs : 0 ≤ c 500001 15 ∧ c 500001 15 ≤ 1200) : gE g 319 2 [.ref 500001, gi (bi z)] (gm T c J) (fun o M1 => (fok c (c 500001 15) = true ∧ o = .inl (some (gi (if z = true then mfr (tw (gu c 500001 15 0) 0) 200000 (fin (gu c 500001 15 0) (c 500001 15)) else mfn (tw (gu c 500001 15 0) 0) 200000 (fin (gu c 500001 15 0) (c 500001 15))))) ∧ M1 = gm T (tw (gu c 500001 15 0) 0) J) ∨ (fok c (c 500001 15) = false ∧ o = .inl (some (gi 0)) ∧ M1 = gm T (tw (gu c 500001 15 0) 1) J)) := by
  have g1 : RG (gu c 500001 15 0) := RG_gu hc (by decide)
  have g2 : NW (gu c 500001 15 0) 200000 := NW_of hV (funext fun j => gu_k (by decide))
  have g3 : ∀ k, (gu c 500001 15 0) 200009 k = c 200009 k := fun k => gu_k (by decide)
  have r9 := hc 500001 15
  refine gE_mk am_r319 rfl (Or.inr ⟨_, rfl, (by first | exact MT_0 hM | exact MT_now hM | exact MT_bt hM | exact MT_bl hM | exact MT_r0 hM | exact MT_t0 hM | exact MT_l0 hM | exact MT_r1 hM | exact MT_t1 hM | exact MT_l1 hM | exact MT_r2 hM | exact MT_t2 hM | exact MT_l2 hM | exact MT_r3 hM | exact MT_t3 hM | exact MT_l3 hM | exact MT_r4 hM | exact MT_t4 hM | exact MT_l4 hM | exact MT_r5 hM | exact MT_t5 hM | exact MT_l5 hM | exact MT_r6 hM | exact MT_t6 hM | exact MT_l6 hM | exact MT_r7 hM | exact MT_t7 hM | exact MT_l7 hM | exact MT_r8 hM | exact MT_t8 hM | exact MT_l8 hM | exact MT_r9 hM | exact MT_t9 hM | exact MT_l9 hM | exact MT_r10 hM | exact MT_t10 hM | exact MT_l10 hM)⟩) (fun d hd => ?_)
  show gw d g 319 0 [.ref 500001, gi (bi z), am_U, am_U, am_U, am_U] [] _ _
  refine gw_al0 at319_0 (gw_gf (j := 15) at319_1 (by first | exact MT_0 hM | exact MT_now hM | exact MT_bt hM | exact MT_bl hM | exact MT_r0 hM | exact MT_t0 hM | exact MT_l0 hM | exact MT_r1 hM | exact MT_t1 hM | exact MT_l1 hM | exact MT_r2 hM | exact MT_t2 hM | exact MT_l2 hM | exact MT_r3 hM | exact MT_t3 hM | exact MT_l3 hM | exact MT_r4 hM | exact MT_t4 hM | exact MT_l4 hM | exact MT_r5 hM | exact MT_t5 hM | exact MT_l5 hM | exact MT_r6 hM | exact MT_t6 hM | exact MT_l6 hM | exact MT_r7 hM | exact MT_t7 hM | exact MT_l7 hM | exact MT_r8 hM | exact MT_t8 hM | exact MT_l8 hM | exact MT_r9 hM | exact MT_t9 hM | exact MT_l9 hM | exact MT_r10 hM | exact MT_t10 hM | exact MT_l10 hM) rfl (gw_is2 at319_4 (h := (gw_al0 at319_5 (gw_const at319_6 (gw_pf (j := 15) at319_7 (by first | exact MT_0 hM | exact MT_now hM | exact MT_bt hM | exact MT_bl hM | exact MT_r0 hM | exact MT_t0 hM | exact MT_l0 hM | exact MT_r1 hM | exact MT_t1 hM | exact MT_l1 hM | exact MT_r2 hM | exact MT_t2 hM | exact MT_l2 hM | exact MT_r3 hM | exact MT_t3 hM | exact MT_l3 hM | exact MT_r4 hM | exact MT_t4 hM | exact MT_l4 hM | exact MT_r5 hM | exact MT_t5 hM | exact MT_l5 hM | exact MT_r6 hM | exact MT_t6 hM | exact MT_l6 hM | exact MT_r7 hM | exact MT_t7 hM | exact MT_l7 hM | exact MT_r8 hM | exact MT_t8 hM | exact MT_l8 hM | exact MT_r9 hM | exact MT_t9 hM | exact MT_l9 hM | exact MT_r10 hM | exact MT_t10 hM | exact MT_l10 hM) rfl (gw_il2 at319_10 (gw_i2l at319_11 (by first | omega | exact hc _ _ | exact g1 _ _ | exact bi_rg _) (gw_lconst (z := 1) at319_12 rfl (gw_ldc2 (z := 6) at319_13 (by decide) (gw_callP3 at319_16 (m_in (by omega) (by decide) (by decide)) (by omega) (Nat.le_of_ble_eq_true rfl) (gw_is3 at319_19 (h := (gw_const at319_20 (gw_is4 at319_21 (h := (gw_const at319_23 (gw_is5 at319_24 (h := ?_)))))))))))))))))))
  have lp26 : ∀ i : Int, 0 ≤ i → i ≤ 6 → ∀ w : Bool, (w && decide (ff (fbd c) (c 500001 15) i = -1)) = fok c (c 500001 15) → (w = true → (1 ≤ (c 500001 15) ∧ (c 500001 15) ≤ 6) ∧ i ≤ (c 500001 15)) → gw d g 319 26 [.ref 500001, gi (bi z), gi (c 500001 15), gi (bi w), gi 0, gi i] [] (gm T (gu c 500001 15 0) J) (fun o M1 => (fok c (c 500001 15) = true ∧ o = .inl (some (gi (if z = true then mfr (tw (gu c 500001 15 0) 0) 200000 (fin (gu c 500001 15 0) (c 500001 15)) else mfn (tw (gu c 500001 15 0) 0) 200000 (fin (gu c 500001 15 0) (c 500001 15))))) ∧ M1 = gm T (tw (gu c 500001 15 0) 0) J) ∨ (fok c (c 500001 15) = false ∧ o = .inl (some (gi 0)) ∧ M1 = gm T (tw (gu c 500001 15 0) 1) J)) := by
    refine ind_up 6 ?_
    intro i hi0 hi1 ih w hv hw
    refine gw_il5 at319_26 ?_
    refine gw_il2 at319_28 ?_
    refine gw_cge at319_29 (by first | omega | exact hc _ _ | exact g1 _ _ | exact bi_rg _) (by first | omega | exact hc _ _ | exact g1 _ _ | exact bi_rg _) (fun q29 => ?_) (fun q29 => ?_)
    · have e8 : fok c (c 500001 15) = w := by
        rw [← hv]
        first
        | (rw [q33]; rfl)
        | (cases w with
           | false => rfl
           | true => rw [ff_end (by omega)]; rfl)
      rw [e8]
      exact m_fi60 (by omega) hM g1 g2 hs (fun e => by simp only [g3]; exact (fok_l (e8.trans e)).2) rfl
    · refine gw_il3 at319_32 ?_
      refine gw_beq at319_33 (fun q33 => ?_) (fun q33 => ?_)
      · have e8 : fok c (c 500001 15) = w := by
          rw [← hv]
          first
          | (rw [q33]; rfl)
          | (cases w with
             | false => rfl
             | true => rw [ff_end (by omega)]; rfl)
        rw [e8]
        exact m_fi60 (by omega) hM g1 g2 hs (fun e => by simp only [g3]; exact (fok_l (e8.trans e)).2) rfl
      · refine gw_al0 at319_36 (gw_gr at319_37 (by first | exact MT_0 hM | exact MT_now hM | exact MT_bt hM | exact MT_bl hM | exact MT_r0 hM | exact MT_t0 hM | exact MT_l0 hM | exact MT_r1 hM | exact MT_t1 hM | exact MT_l1 hM | exact MT_r2 hM | exact MT_t2 hM | exact MT_l2 hM | exact MT_r3 hM | exact MT_t3 hM | exact MT_l3 hM | exact MT_r4 hM | exact MT_t4 hM | exact MT_l4 hM | exact MT_r5 hM | exact MT_t5 hM | exact MT_l5 hM | exact MT_r6 hM | exact MT_t6 hM | exact MT_l6 hM | exact MT_r7 hM | exact MT_t7 hM | exact MT_l7 hM | exact MT_r8 hM | exact MT_t8 hM | exact MT_l8 hM | exact MT_r9 hM | exact MT_t9 hM | exact MT_l9 hM | exact MT_r10 hM | exact MT_t10 hM | exact MT_l10 hM) (by first | exact MT_0 hM | exact MT_now hM | exact MT_bt hM | exact MT_bl hM | exact MT_r0 hM | exact MT_t0 hM | exact MT_l0 hM | exact MT_r1 hM | exact MT_t1 hM | exact MT_l1 hM | exact MT_r2 hM | exact MT_t2 hM | exact MT_l2 hM | exact MT_r3 hM | exact MT_t3 hM | exact MT_l3 hM | exact MT_r4 hM | exact MT_t4 hM | exact MT_l4 hM | exact MT_r5 hM | exact MT_t5 hM | exact MT_l5 hM | exact MT_r6 hM | exact MT_t6 hM | exact MT_l6 hM | exact MT_r7 hM | exact MT_t7 hM | exact MT_l7 hM | exact MT_r8 hM | exact MT_t8 hM | exact MT_l8 hM | exact MT_r9 hM | exact MT_t9 hM | exact MT_l9 hM | exact MT_r10 hM | exact MT_t10 hM | exact MT_l10 hM) (gw_il5 at319_40 (gw_ba at319_42 (by first | exact Or.inl (by first | exact MT_0 hM | exact MT_now hM | exact MT_bt hM | exact MT_bl hM | exact MT_r0 hM | exact MT_t0 hM | exact MT_l0 hM | exact MT_r1 hM | exact MT_t1 hM | exact MT_l1 hM | exact MT_r2 hM | exact MT_t2 hM | exact MT_l2 hM | exact MT_r3 hM | exact MT_t3 hM | exact MT_l3 hM | exact MT_r4 hM | exact MT_t4 hM | exact MT_l4 hM | exact MT_r5 hM | exact MT_t5 hM | exact MT_l5 hM | exact MT_r6 hM | exact MT_t6 hM | exact MT_l6 hM | exact MT_r7 hM | exact MT_t7 hM | exact MT_l7 hM | exact MT_r8 hM | exact MT_t8 hM | exact MT_l8 hM | exact MT_r9 hM | exact MT_t9 hM | exact MT_l9 hM | exact MT_r10 hM | exact MT_t10 hM | exact MT_l10 hM) | exact Or.inr (by first | exact MT_0 hM | exact MT_now hM | exact MT_bt hM | exact MT_bl hM | exact MT_r0 hM | exact MT_t0 hM | exact MT_l0 hM | exact MT_r1 hM | exact MT_t1 hM | exact MT_l1 hM | exact MT_r2 hM | exact MT_t2 hM | exact MT_l2 hM | exact MT_r3 hM | exact MT_t3 hM | exact MT_l3 hM | exact MT_r4 hM | exact MT_t4 hM | exact MT_l4 hM | exact MT_r5 hM | exact MT_t5 hM | exact MT_l5 hM | exact MT_r6 hM | exact MT_t6 hM | exact MT_l6 hM | exact MT_r7 hM | exact MT_t7 hM | exact MT_l7 hM | exact MT_r8 hM | exact MT_t8 hM | exact MT_l8 hM | exact MT_r9 hM | exact MT_t9 hM | exact MT_l9 hM | exact MT_r10 hM | exact MT_t10 hM | exact MT_l10 hM)) (by first | exact MT_0 hM | exact MT_now hM | exact MT_bt hM | exact MT_bl hM | exact MT_r0 hM | exact MT_t0 hM | exact MT_l0 hM | exact MT_r1 hM | exact MT_t1 hM | exact MT_l1 hM | exact MT_r2 hM | exact MT_t2 hM | exact MT_l2 hM | exact MT_r3 hM | exact MT_t3 hM | exact MT_l3 hM | exact MT_r4 hM | exact MT_t4 hM | exact MT_l4 hM | exact MT_r5 hM | exact MT_t5 hM | exact MT_l5 hM | exact MT_r6 hM | exact MT_t6 hM | exact MT_l6 hM | exact MT_r7 hM | exact MT_t7 hM | exact MT_l7 hM | exact MT_r8 hM | exact MT_t8 hM | exact MT_l8 hM | exact MT_r9 hM | exact MT_t9 hM | exact MT_l9 hM | exact MT_r10 hM | exact MT_t10 hM | exact MT_l10 hM) (by first | omega | exact hc _ _ | exact g1 _ _ | exact bi_rg _) (by first | omega | exact hc _ _ | exact g1 _ _ | exact bi_rg _) (by omega) (gw_i2l at319_43 (by first | omega | exact hc _ _ | exact g1 _ _ | exact bi_rg _) (gw_ldc2 (z := 97) at319_44 (by decide) (gw_ldc2 (z := 122) at319_47 (by decide) (gw_callP3 at319_50 (m_in (by have := g1 200009 i; omega) (by decide) (by decide)) (by omega) (Nat.le_of_ble_eq_true rfl) (gw_is3 at319_53 (h := (gw_inc5 at319_54 (h := (gw_goto at319_57 ?_))))))))))))
        have h7 := hw q33
        have h6 : inr ((gu c 500001 15 0) 200009 i) 97 122 = !fbd c i := by rw [g3]; unfold fbd; simp
        rw [h6]
        refine ih (i + 1) (by omega) (by omega) (!fbd c i) ?_ (fun _ => ⟨h7.1, by omega⟩)
        rw [← hv, q33]
        cases e9 : fbd c i with
        | true => rw [ff_yes (i := i) (by omega) e9, decide_eq_false (show ¬ i = -1 by omega)]; rfl
        | false => rw [ff_no (i := i) (by omega) e9]; rfl
  exact lp26 0 (by omega) (by omega) (inr (c 500001 15) 1 6) rfl (fun e => ⟨inr_t.mp e, by have := inr_t.mp e; omega⟩)
