/-! the reference: plans, in public -/
theorem lpl_ok {c : gC} {b : Nat} {z : Int} (hc : RG c) (hV : NW c b) (hQ : LQ c) (hb : (¬ b = 200003 ∧ ¬ b = 200005 ∧ ¬ b = 500001) ∧ ¬ b = 200006 ∧ ¬ b = 200007) (h12 : mcb (mrq c b z) ≤ 12) (hRO : 0 < mcb (mrq c b z) → RO (lpt c b z) (mcb (mrq c b z))) : PS (lpl c b z).2 b (mcb (mrq c b z)) ∧ (0 ≤ (lpl c b z).1 ∧ (lpl c b z).1 ≤ 1000000000) ∧ (∀ k : Nat, ¬ k = 200003 → ¬ k = 200005 → ¬ k = 200006 → ¬ k = 200007 → ¬ k = 500001 → (lpl c b z).2 k = c k) ∧ (∀ j, ¬ j = 9 → (lpl c b z).2 500001 j = c 500001 j) ∧ ((lpl c b z).1 < 1000000000 → ∀ j, 0 ≤ j → j < mcb (mrq c b z) → ∃ y, (0 ≤ y ∧ y < mcb (mrq c b z)) ∧ (lpl c b z).2 200007 j = (lpl c b z).2 200005 y) ∧ (∀ j, 0 ≤ j → j < mcb (mrq c b z) → tb (mrq c b z) ((lpl c b z).2 200005 j) = true) ∧ (lpl c b z).2 200003 = (mll c b) 200003 := by
  obtain ⟨p1, p2, p3, p4⟩ := lpm_ok (z := z) hc hV hQ hb.1 h12
  have p5 : lpm c b z 200003 = mll c b 200003 := by
    obtain ⟨⟨g1, g2⟩, g3⟩ := mll_ok hc hV
    obtain ⟨n1, n2, n3, n4, n5⟩ := lnd_i (q := mrq (mll c b) b z) g1 (i := 24) (by decide) (by decide)
    exact n4 200003 (by decide) (by decide)
  have hn := p1.1
  by_cases e : mcb (mrq c b z) = 0
  · rw [lpl_0 e]
    dsimp only
    exact ⟨p1, ⟨Int.le_refl 0, by decide⟩, fun k a1 a2 a3 a4 a5 => p2 k a1 a2 a5, p3, fun _ j a b => by omega, p4, p5⟩
  · have hsh := shl_rg hn
    obtain ⟨t1, t2⟩ := lq3_ok (all := zshl 1 (mcb (mrq c b z)) - 1) (i := zshl 1 (mcb (mrq c b z)) - 1) hb.2.1 p1 (by omega) (Int.le_refl _)
    change PS (lpt c b z) b (mcb (mrq c b z)) at t1
    change PQ2 (lpm c b z) (lpt c b z) at t2
    have tr := lpc_rg t1 (Int.le_refl (mcb (mrq c b z)))
    by_cases e2 : lpc (lpt c b z) b (mcb (mrq c b z)) < 1000000000
    · rw [lpl_1 e e2]
      have hx := lor_ok (i := mcb (mrq c b z) - 1) t1 (hRO (by omega)) e2 (lpc_att hn.1 e2) (fun a p q => (mcf_rg t1.2.2.2.2.2.1 t1.2.2.2.1 p).1) (by omega) (by omega)
      obtain ⟨⟨x1, x2⟩, x3, x4, x4b, x5, x7, x8⟩ := hx
      dsimp only
      refine ⟨⟨hn, by rw [x7 500001 (by decide)]; exact t1.2.1, fun j p q => by rw [x7 200005 (by decide)]; exact t1.2.2.1 j p q, fun j p q => by rw [x7 200003 (by decide)]; exact t1.2.2.2.1 j p q, fun j p q => by rw [x7 200006 (by decide)]; exact t1.2.2.2.2.1 j p q, NW_of t1.2.2.2.2.2.1 (x7 b hb.2.2), x5⟩, tr, fun k a1 a2 a3 a4 a5 => by rw [x7 k a4, t2 k a3, p2 k a1 a2 a5], fun j a => by rw [x7 500001 (by decide), t2 500001 (by decide), p3 j a], fun _ j p q => ?_, fun j p q => by rw [x7 200005 (by decide), t2 200005 (by decide)]; exact p4 j p q, by rw [x7 200003 (by decide), t2 200003 (by decide)]; exact p5⟩
      obtain ⟨y, y1, y2⟩ := x8 j p (by omega)
      exact ⟨y, y1, by rw [x7 200005 (by decide)]; exact y2⟩
    · rw [lpl_2 e e2]
      dsimp only
      exact ⟨t1, tr, fun k a1 a2 a3 a4 a5 => by rw [t2 k a3, p2 k a1 a2 a5], fun j a => by rw [t2 500001 (by decide), p3 j a], fun h => absurd h e2, fun j p q => by rw [t2 200005 (by decide)]; exact p4 j p q, by rw [t2 200003 (by decide)]; exact p5⟩
theorem mcp_12 {c : gC} {b : Nat} {z : Int} (h : mcp c b z = true) : inr z 1 3 = true ∧ mcb (mrq c b z) ≤ 12 := by
  unfold mcp at h
  simp only [Bool.and_eq_true, decide_eq_true_eq] at h
  exact h
set_option maxHeartbeats 1000000 in
theorem m_x_planCost {g : Nat} {T : gT} {c J : gC} (hM : MT T 200000) (hc : RG c) (hV : NW c 200000) (hQ : LQ c) {z : Int} (hz : -2147483648 ≤ z ∧ z < 2147483648) (hRO : mcp c 200000 z = true → 0 < mcb (mrq c 200000 z) → RO (lpt (tw c 0) 200000 z) (mcb (mrq c 200000 z))) : gE g 243 9 [.ref 500001, gi z] (gm T c J) (fun o M1 => (inr z 1 3 = true ∧ mcp c 200000 z = true ∧ o = .inl (some (gi (mtl (lpl (tw c 0) 200000 z).1))) ∧ M1 = gm T (lpl (tw c 0) 200000 z).2 J) ∨ (inr z 1 3 = true ∧ mcp c 200000 z = false ∧ o = .inl (some (gi 0)) ∧ M1 = gm T (tw c 2) J) ∨ (inr z 1 3 = false ∧ o = .inl (some (gi 0)) ∧ M1 = gm T (tw c 1) J)) := by
  have t1 : RG (tw c 0) := tw_RG hc (by decide)
  have t0 : tw c 0 200000 = c 200000 := tw_k (by decide)
  have t2 : NW (tw c 0) 200000 := NW_of hV t0
  have v0 := hV.1.1
  have v1 := hV.1.2
  have tQ : LQ (tw c 0) := fun i a b => by rw [tw_k (by decide)]; exact hQ i a b
  have tq : mrq (tw c 0) 200000 z = mrq c 200000 z := mrq_o t0 z
  have hLP : mcp c 200000 z = true → PS (lpl (tw c 0) 200000 z).2 200000 (mcb (mrq c 200000 z)) ∧ (0 ≤ (lpl (tw c 0) 200000 z).1 ∧ (lpl (tw c 0) 200000 z).1 ≤ 1000000000) ∧ ((lpl (tw c 0) 200000 z).1 < 1000000000 → ∀ j, 0 ≤ j → j < mcb (mrq c 200000 z) → 0 ≤ (lpl (tw c 0) 200000 z).2 200007 j ∧ (lpl (tw c 0) 200000 z).2 200007 j < 24) ∧ (lpl (tw c 0) 200000 z).2 200000 = c 200000 := fun h => by
    have h12 := (mcp_12 h).2
    rw [← tq] at h12
    obtain ⟨a1, a2, a3, a4, a5, a6, a7⟩ := lpl_ok (z := z) t1 t2 tQ ⟨⟨by decide, by decide, by decide⟩, by decide, by decide⟩ h12 (by rw [tq]; exact hRO h)
    rw [tq] at a1 a5
    refine ⟨a1, a2, fun hk j p q => ?_, by rw [a3 200000 (by decide) (by decide) (by decide) (by decide) (by decide), t0]⟩
    obtain ⟨y, y1, y2⟩ := a5 hk j p q
    rw [y2]
    exact a1.2.2.1 y y1.1 y1.2
  refine gE_mk am_r243 rfl (Or.inr ⟨_, rfl, (by first | exact MT_0 hM | exact MT_now hM | exact MT_bt hM | exact MT_bl hM | exact MT_r0 hM | exact MT_t0 hM | exact MT_l0 hM | exact MT_r1 hM | exact MT_t1 hM | exact MT_l1 hM | exact MT_r2 hM | exact MT_t2 hM | exact MT_l2 hM | exact MT_r3 hM | exact MT_t3 hM | exact MT_l3 hM | exact MT_r4 hM | exact MT_t4 hM | exact MT_l4 hM | exact MT_r5 hM | exact MT_t5 hM | exact MT_l5 hM | exact MT_r6 hM | exact MT_t6 hM | exact MT_l6 hM | exact MT_r7 hM | exact MT_t7 hM | exact MT_l7 hM | exact MT_r8 hM | exact MT_t8 hM | exact MT_l8 hM | exact MT_r9 hM | exact MT_t9 hM | exact MT_l9 hM | exact MT_r10 hM | exact MT_t10 hM | exact MT_l10 hM)⟩) (fun d hd => ?_)
  show gw d g 243 0 [.ref 500001, gi z] [] _ _
  refine gw_al0 at243_0 (gw_il1 at243_1 ?_)
  refine gw_call2 at243_2 (m_asksPlan hM hc hV hz) (by omega) (Nat.le_of_ble_eq_true rfl) (fun o M1 q2 => ?_)
  rcases q2 with ⟨hp, hq, rfl, rfl⟩ | ⟨hp, hq, rfl, rfl⟩ | ⟨hp, rfl, rfl⟩
  · obtain ⟨l1, l2, l3, l4⟩ := hLP hq
    have ln := l1.1
    have l5 := l1.2.2.2.2.2.2
    show gw _ _ _ _ _ (gi _ :: _) _ _
    refine gw_zeq at243_5 (by first | omega | exact bi_rg _ | exact hc _ _ | exact l5 _ _) (fun q5 => absurd q5 (by decide)) (fun q5 => ?_)
    refine gw_al0 at243_8 (gw_il1 at243_9 ?_)
    refine gw_call2 at243_10 (m_layPlan hM t1 t2 hz tQ (by rw [tq]; exact (mcp_12 hq).2) (by rw [tq]; exact hRO hq)) (by omega) (Nat.le_of_ble_eq_true rfl) (fun o M1 q10 => ?_)
    obtain ⟨rfl, rfl⟩ := q10
    show gw _ _ _ _ _ (gi _ :: _) _ _
    refine gw_callP1 at243_13 (m_told (by omega)) (by omega) (Nat.le_of_ble_eq_true rfl) (gw_goto at243_16 (gw_ri at243_20 am_r243.2.1 ?_))
    first | exact Or.inr (Or.inr ⟨hp, rfl, rfl⟩) | exact Or.inr (Or.inl ⟨hp, hq, rfl, rfl⟩) | exact Or.inl ⟨hp, hq, rfl, rfl⟩
  · show gw _ _ _ _ _ (gi _ :: _) _ _
    refine gw_zeq at243_5 (by first | omega | exact bi_rg _ | exact hc _ _ | exact l5 _ _) (fun q5 => ?_) (fun q5 => absurd q5 (by decide))
    refine gw_const at243_19 (gw_ri at243_20 am_r243.2.1 ?_)
    first | exact Or.inr (Or.inr ⟨hp, rfl, rfl⟩) | exact Or.inr (Or.inl ⟨hp, hq, rfl, rfl⟩) | exact Or.inl ⟨hp, hq, rfl, rfl⟩
  · show gw _ _ _ _ _ (gi _ :: _) _ _
    refine gw_zeq at243_5 (by first | omega | exact bi_rg _ | exact hc _ _ | exact l5 _ _) (fun q5 => ?_) (fun q5 => absurd q5 (by decide))
    refine gw_const at243_19 (gw_ri at243_20 am_r243.2.1 ?_)
    first | exact Or.inr (Or.inr ⟨hp, rfl, rfl⟩) | exact Or.inr (Or.inl ⟨hp, hq, rfl, rfl⟩) | exact Or.inl ⟨hp, hq, rfl, rfl⟩
set_option maxHeartbeats 1000000 in
theorem m_x_planArc {g : Nat} {T : gT} {c J : gC} (hM : MT T 200000) (hc : RG c) (hV : NW c 200000) (hQ : LQ c) {z : Int} (hz : -2147483648 ≤ z ∧ z < 2147483648) (hRO : mcp c 200000 z = true → 0 < mcb (mrq c 200000 z) → RO (lpt (tw c 0) 200000 z) (mcb (mrq c 200000 z))) {i : Int} (hi : -2147483648 ≤ i ∧ i < 2147483648) : gE g 244 9 [.ref 500001, gi z, gi i] (gm T c J) (fun o M1 => (inr z 1 3 = true ∧ mcp c 200000 z = true ∧ (((decide ((lpl (tw c 0) 200000 z).1 < 1000000000) && inr i 0 ((mcb (mrq c 200000 z)) - 1)) = true ∧ o = .inl (some (gi ((lpl (tw c 0) 200000 z).2 200007 i))) ∧ M1 = gm T (tw (lpl (tw c 0) 200000 z).2 0) J) ∨ ((decide ((lpl (tw c 0) 200000 z).1 < 1000000000) && inr i 0 ((mcb (mrq c 200000 z)) - 1)) = false ∧ o = .inl (some (gi 0)) ∧ M1 = gm T (tw (lpl (tw c 0) 200000 z).2 3) J))) ∨ (inr z 1 3 = true ∧ mcp c 200000 z = false ∧ o = .inl (some (gi 0)) ∧ M1 = gm T (tw c 2) J) ∨ (inr z 1 3 = false ∧ o = .inl (some (gi 0)) ∧ M1 = gm T (tw c 1) J)) := by
  have t1 : RG (tw c 0) := tw_RG hc (by decide)
  have t0 : tw c 0 200000 = c 200000 := tw_k (by decide)
  have t2 : NW (tw c 0) 200000 := NW_of hV t0
  have v0 := hV.1.1
  have v1 := hV.1.2
  have tQ : LQ (tw c 0) := fun i a b => by rw [tw_k (by decide)]; exact hQ i a b
  have tq : mrq (tw c 0) 200000 z = mrq c 200000 z := mrq_o t0 z
  have hLP : mcp c 200000 z = true → PS (lpl (tw c 0) 200000 z).2 200000 (mcb (mrq c 200000 z)) ∧ (0 ≤ (lpl (tw c 0) 200000 z).1 ∧ (lpl (tw c 0) 200000 z).1 ≤ 1000000000) ∧ ((lpl (tw c 0) 200000 z).1 < 1000000000 → ∀ j, 0 ≤ j → j < mcb (mrq c 200000 z) → 0 ≤ (lpl (tw c 0) 200000 z).2 200007 j ∧ (lpl (tw c 0) 200000 z).2 200007 j < 24) ∧ (lpl (tw c 0) 200000 z).2 200000 = c 200000 := fun h => by
    have h12 := (mcp_12 h).2
    rw [← tq] at h12
    obtain ⟨a1, a2, a3, a4, a5, a6, a7⟩ := lpl_ok (z := z) t1 t2 tQ ⟨⟨by decide, by decide, by decide⟩, by decide, by decide⟩ h12 (by rw [tq]; exact hRO h)
    rw [tq] at a1 a5
    refine ⟨a1, a2, fun hk j p q => ?_, by rw [a3 200000 (by decide) (by decide) (by decide) (by decide) (by decide), t0]⟩
    obtain ⟨y, y1, y2⟩ := a5 hk j p q
    rw [y2]
    exact a1.2.2.1 y y1.1 y1.2
  refine gE_mk am_r244 rfl (Or.inr ⟨_, rfl, (by first | exact MT_0 hM | exact MT_now hM | exact MT_bt hM | exact MT_bl hM | exact MT_r0 hM | exact MT_t0 hM | exact MT_l0 hM | exact MT_r1 hM | exact MT_t1 hM | exact MT_l1 hM | exact MT_r2 hM | exact MT_t2 hM | exact MT_l2 hM | exact MT_r3 hM | exact MT_t3 hM | exact MT_l3 hM | exact MT_r4 hM | exact MT_t4 hM | exact MT_l4 hM | exact MT_r5 hM | exact MT_t5 hM | exact MT_l5 hM | exact MT_r6 hM | exact MT_t6 hM | exact MT_l6 hM | exact MT_r7 hM | exact MT_t7 hM | exact MT_l7 hM | exact MT_r8 hM | exact MT_t8 hM | exact MT_l8 hM | exact MT_r9 hM | exact MT_t9 hM | exact MT_l9 hM | exact MT_r10 hM | exact MT_t10 hM | exact MT_l10 hM)⟩) (fun d hd => ?_)
  show gw d g 244 0 [.ref 500001, gi z, gi i, am_U] [] _ _
  refine gw_al0 at244_0 (gw_il1 at244_1 ?_)
  refine gw_call2 at244_2 (m_asksPlan hM hc hV hz) (by omega) (Nat.le_of_ble_eq_true rfl) (fun o M1 q2 => ?_)
  rcases q2 with ⟨hp, hq, rfl, rfl⟩ | ⟨hp, hq, rfl, rfl⟩ | ⟨hp, rfl, rfl⟩
  · obtain ⟨l1, l2, l3, l4⟩ := hLP hq
    have ln := l1.1
    have l5 := l1.2.2.2.2.2.2
    show gw _ _ _ _ _ (gi _ :: _) _ _
    refine gw_zne at244_5 (by first | omega | exact bi_rg _ | decide | exact hc _ _ | exact l5 _ _) (fun q5 => ?_) (fun q5 => absurd q5 (by decide))
    refine gw_al0 at244_10 (gw_il1 at244_11 ?_)
    refine gw_call2 at244_12 (m_layPlan hM t1 t2 hz tQ (by rw [tq]; exact (mcp_12 hq).2) (by rw [tq]; exact hRO hq)) (by omega) (Nat.le_of_ble_eq_true rfl) (fun o M1 q12 => ?_)
    obtain ⟨rfl, rfl⟩ := q12
    show gw _ _ _ _ _ (gi _ :: _) _ _
    refine gw_ldc (z := 1000000000) at244_15 (by decide) ?_
    refine gw_cge at244_17 (by first | omega | exact bi_rg _ | decide | exact hc _ _ | exact l5 _ _) (by first | omega | exact bi_rg _ | decide | exact hc _ _ | exact l5 _ _) (fun q17 => ?_) (fun q17 => ?_)
    · refine gw_const at244_40 (gw_is3 at244_41 (h := (gw_al0 at244_42 (gw_const at244_43 (gw_const at244_44 (gw_il3 at244_45 ?_))))))
      refine gw_call4 at244_46 (m_pas3 hM l5 (p := true) (q := true) (r := false)) (by omega) (Nat.le_of_ble_eq_true rfl) (fun o M1 q46 => ?_)
      obtain ⟨rfl, rfl⟩ := q46
      · show gw _ _ _ _ _ (gi (bi false) :: _) (gm T (tw (lpl (tw c 0) 200000 z).2 3) J) _
        refine gw_zeq at244_49 (by first | omega | exact bi_rg _ | decide | exact hc _ _ | exact l5 _ _) (fun q49 => ?_) (fun q49 => absurd q49 (by decide))
        refine gw_const at244_61 (gw_ri at244_62 am_r244.2.1 ?_)
        first | exact Or.inl ⟨hp, hq, Or.inl ⟨by rw [decide_eq_true (by omega), q33]; rfl, rfl, rfl⟩⟩ | exact Or.inl ⟨hp, hq, Or.inr ⟨by rw [decide_eq_true (by omega), q33]; rfl, rfl, rfl⟩⟩ | exact Or.inl ⟨hp, hq, Or.inr ⟨by rw [decide_eq_false (by omega)]; rfl, rfl, rfl⟩⟩
    · refine gw_il2 at244_20 (gw_i2l at244_21 (by first | omega | exact bi_rg _ | decide | exact hc _ _ | exact l5 _ _) (gw_lconst (z := 0) at244_22 rfl (gw_al0 at244_23 (gw_gf (j := 9) at244_24 (by first | exact MT_0 hM | exact MT_now hM | exact MT_bt hM | exact MT_bl hM | exact MT_r0 hM | exact MT_t0 hM | exact MT_l0 hM | exact MT_r1 hM | exact MT_t1 hM | exact MT_l1 hM | exact MT_r2 hM | exact MT_t2 hM | exact MT_l2 hM | exact MT_r3 hM | exact MT_t3 hM | exact MT_l3 hM | exact MT_r4 hM | exact MT_t4 hM | exact MT_l4 hM | exact MT_r5 hM | exact MT_t5 hM | exact MT_l5 hM | exact MT_r6 hM | exact MT_t6 hM | exact MT_l6 hM | exact MT_r7 hM | exact MT_t7 hM | exact MT_l7 hM | exact MT_r8 hM | exact MT_t8 hM | exact MT_l8 hM | exact MT_r9 hM | exact MT_t9 hM | exact MT_l9 hM | exact MT_r10 hM | exact MT_t10 hM | exact MT_l10 hM) rfl ?_))))
      rw [l1.2.1]
      refine gw_const at244_27 (gw_isub at244_28 (gw_i2l at244_29 (by first | omega | exact bi_rg _ | decide | exact hc _ _ | exact l5 _ _) (gw_callP3 at244_30 (m_in (by omega) (by omega) (by omega)) (by omega) (Nat.le_of_ble_eq_true rfl) ?_)))
      refine gw_beq at244_33 (fun q33 => ?_) (fun q33 => ?_)
      · refine gw_const at244_40 (gw_is3 at244_41 (h := (gw_al0 at244_42 (gw_const at244_43 (gw_const at244_44 (gw_il3 at244_45 ?_))))))
        refine gw_call4 at244_46 (m_pas3 hM l5 (p := true) (q := true) (r := false)) (by omega) (Nat.le_of_ble_eq_true rfl) (fun o M1 q46 => ?_)
        obtain ⟨rfl, rfl⟩ := q46
        · show gw _ _ _ _ _ (gi (bi false) :: _) (gm T (tw (lpl (tw c 0) 200000 z).2 3) J) _
          refine gw_zeq at244_49 (by first | omega | exact bi_rg _ | decide | exact hc _ _ | exact l5 _ _) (fun q49 => ?_) (fun q49 => absurd q49 (by decide))
          refine gw_const at244_61 (gw_ri at244_62 am_r244.2.1 ?_)
          first | exact Or.inl ⟨hp, hq, Or.inl ⟨by rw [decide_eq_true (by omega), q33]; rfl, rfl, rfl⟩⟩ | exact Or.inl ⟨hp, hq, Or.inr ⟨by rw [decide_eq_true (by omega), q33]; rfl, rfl, rfl⟩⟩ | exact Or.inl ⟨hp, hq, Or.inr ⟨by rw [decide_eq_false (by omega)]; rfl, rfl, rfl⟩⟩
      · 
        refine gw_const at244_36 (gw_goto at244_37 (gw_is3 at244_41 (h := (gw_al0 at244_42 (gw_const at244_43 (gw_const at244_44 (gw_il3 at244_45 ?_)))))))
        refine gw_call4 at244_46 (m_pas3 hM l5 (p := true) (q := true) (r := true)) (by omega) (Nat.le_of_ble_eq_true rfl) (fun o M1 q46 => ?_)
        obtain ⟨rfl, rfl⟩ := q46
        · show gw _ _ _ _ _ (gi (bi true) :: _) (gm T (tw (lpl (tw c 0) 200000 z).2 0) J) _
          refine gw_zeq at244_49 (by first | omega | exact bi_rg _ | decide | exact hc _ _ | exact l5 _ _) (fun q49 => absurd q49 (by decide)) (fun q49 => ?_)
          have hi9 := inr_t.mp q33
          refine gw_al0 at244_52 (gw_gr at244_53 (by first | exact MT_0 hM | exact MT_now hM | exact MT_bt hM | exact MT_bl hM | exact MT_r0 hM | exact MT_t0 hM | exact MT_l0 hM | exact MT_r1 hM | exact MT_t1 hM | exact MT_l1 hM | exact MT_r2 hM | exact MT_t2 hM | exact MT_l2 hM | exact MT_r3 hM | exact MT_t3 hM | exact MT_l3 hM | exact MT_r4 hM | exact MT_t4 hM | exact MT_l4 hM | exact MT_r5 hM | exact MT_t5 hM | exact MT_l5 hM | exact MT_r6 hM | exact MT_t6 hM | exact MT_l6 hM | exact MT_r7 hM | exact MT_t7 hM | exact MT_l7 hM | exact MT_r8 hM | exact MT_t8 hM | exact MT_l8 hM | exact MT_r9 hM | exact MT_t9 hM | exact MT_l9 hM | exact MT_r10 hM | exact MT_t10 hM | exact MT_l10 hM) (by first | exact MT_0 hM | exact MT_now hM | exact MT_bt hM | exact MT_bl hM | exact MT_r0 hM | exact MT_t0 hM | exact MT_l0 hM | exact MT_r1 hM | exact MT_t1 hM | exact MT_l1 hM | exact MT_r2 hM | exact MT_t2 hM | exact MT_l2 hM | exact MT_r3 hM | exact MT_t3 hM | exact MT_l3 hM | exact MT_r4 hM | exact MT_t4 hM | exact MT_l4 hM | exact MT_r5 hM | exact MT_t5 hM | exact MT_l5 hM | exact MT_r6 hM | exact MT_t6 hM | exact MT_l6 hM | exact MT_r7 hM | exact MT_t7 hM | exact MT_l7 hM | exact MT_r8 hM | exact MT_t8 hM | exact MT_l8 hM | exact MT_r9 hM | exact MT_t9 hM | exact MT_l9 hM | exact MT_r10 hM | exact MT_t10 hM | exact MT_l10 hM) (gw_il2 at244_56 (gw_ia at244_57 (by first | exact Or.inl (by first | exact MT_0 hM | exact MT_now hM | exact MT_bt hM | exact MT_bl hM | exact MT_r0 hM | exact MT_t0 hM | exact MT_l0 hM | exact MT_r1 hM | exact MT_t1 hM | exact MT_l1 hM | exact MT_r2 hM | exact MT_t2 hM | exact MT_l2 hM | exact MT_r3 hM | exact MT_t3 hM | exact MT_l3 hM | exact MT_r4 hM | exact MT_t4 hM | exact MT_l4 hM | exact MT_r5 hM | exact MT_t5 hM | exact MT_l5 hM | exact MT_r6 hM | exact MT_t6 hM | exact MT_l6 hM | exact MT_r7 hM | exact MT_t7 hM | exact MT_l7 hM | exact MT_r8 hM | exact MT_t8 hM | exact MT_l8 hM | exact MT_r9 hM | exact MT_t9 hM | exact MT_l9 hM | exact MT_r10 hM | exact MT_t10 hM | exact MT_l10 hM) | exact Or.inr (by first | exact MT_0 hM | exact MT_now hM | exact MT_bt hM | exact MT_bl hM | exact MT_r0 hM | exact MT_t0 hM | exact MT_l0 hM | exact MT_r1 hM | exact MT_t1 hM | exact MT_l1 hM | exact MT_r2 hM | exact MT_t2 hM | exact MT_l2 hM | exact MT_r3 hM | exact MT_t3 hM | exact MT_l3 hM | exact MT_r4 hM | exact MT_t4 hM | exact MT_l4 hM | exact MT_r5 hM | exact MT_t5 hM | exact MT_l5 hM | exact MT_r6 hM | exact MT_t6 hM | exact MT_l6 hM | exact MT_r7 hM | exact MT_t7 hM | exact MT_l7 hM | exact MT_r8 hM | exact MT_t8 hM | exact MT_l8 hM | exact MT_r9 hM | exact MT_t9 hM | exact MT_l9 hM | exact MT_r10 hM | exact MT_t10 hM | exact MT_l10 hM)) (by first | exact MT_0 hM | exact MT_now hM | exact MT_bt hM | exact MT_bl hM | exact MT_r0 hM | exact MT_t0 hM | exact MT_l0 hM | exact MT_r1 hM | exact MT_t1 hM | exact MT_l1 hM | exact MT_r2 hM | exact MT_t2 hM | exact MT_l2 hM | exact MT_r3 hM | exact MT_t3 hM | exact MT_l3 hM | exact MT_r4 hM | exact MT_t4 hM | exact MT_l4 hM | exact MT_r5 hM | exact MT_t5 hM | exact MT_l5 hM | exact MT_r6 hM | exact MT_t6 hM | exact MT_l6 hM | exact MT_r7 hM | exact MT_t7 hM | exact MT_l7 hM | exact MT_r8 hM | exact MT_t8 hM | exact MT_l8 hM | exact MT_r9 hM | exact MT_t9 hM | exact MT_l9 hM | exact MT_r10 hM | exact MT_t10 hM | exact MT_l10 hM) (by first | omega | exact bi_rg _ | decide | exact hc _ _ | exact l5 _ _) (by first | omega | exact bi_rg _ | decide | exact hc _ _ | exact l5 _ _) (by omega) ?_)))
          rw [show tw (lpl (tw c 0) 200000 z).2 0 200007 i = (lpl (tw c 0) 200000 z).2 200007 i from gu_k (by decide)]
          refine gw_goto at244_58 (gw_ri at244_62 am_r244.2.1 ?_)
          first | exact Or.inl ⟨hp, hq, Or.inl ⟨by rw [decide_eq_true (by omega), q33]; rfl, rfl, rfl⟩⟩ | exact Or.inl ⟨hp, hq, Or.inr ⟨by rw [decide_eq_true (by omega), q33]; rfl, rfl, rfl⟩⟩ | exact Or.inl ⟨hp, hq, Or.inr ⟨by rw [decide_eq_false (by omega)]; rfl, rfl, rfl⟩⟩
  · show gw _ _ _ _ _ (gi _ :: _) _ _
    refine gw_zne at244_5 (by first | omega | exact bi_rg _ | decide | exact hc _ _ | exact l5 _ _) (fun q5 => absurd q5 (by decide)) (fun q5 => ?_)
    refine gw_const at244_8 (gw_ri at244_9 am_r244.2.1 ?_)
    first | exact Or.inr (Or.inr ⟨hp, rfl, rfl⟩) | exact Or.inr (Or.inl ⟨hp, hq, rfl, rfl⟩)
  · show gw _ _ _ _ _ (gi _ :: _) _ _
    refine gw_zne at244_5 (by first | omega | exact bi_rg _ | decide | exact hc _ _ | exact l5 _ _) (fun q5 => absurd q5 (by decide)) (fun q5 => ?_)
    refine gw_const at244_8 (gw_ri at244_9 am_r244.2.1 ?_)
    first | exact Or.inr (Or.inr ⟨hp, rfl, rfl⟩) | exact Or.inr (Or.inl ⟨hp, hq, rfl, rfl⟩)
set_option maxHeartbeats 1000000 in
theorem m_x_planOverhead {g : Nat} {T : gT} {c J : gC} (hM : MT T 200000) (hc : RG c) (hV : NW c 200000) (hQ : LQ c) {z : Int} (hz : -2147483648 ≤ z ∧ z < 2147483648) (hRO : mcp c 200000 z = true → 0 < mcb (mrq c 200000 z) → RO (lpt (tw c 0) 200000 z) (mcb (mrq c 200000 z))) : gE g 245 9 [.ref 500001, gi z] (gm T c J) (fun o M1 => (inr z 1 3 = true ∧ mcp c 200000 z = true ∧ o = .inl (some (gi (mtl (itI (fun j k => if k < 1000000000 then k - mln (lpl (tw c 0) 200000 z).2 200000 ((lpl (tw c 0) 200000 z).2 200005 j) else k) (lpl (tw c 0) 200000 z).1 (mcb (mrq c 200000 z)))))) ∧ M1 = gm T (lpl (tw c 0) 200000 z).2 J) ∨ (inr z 1 3 = true ∧ mcp c 200000 z = false ∧ o = .inl (some (gi 0)) ∧ M1 = gm T (tw c 2) J) ∨ (inr z 1 3 = false ∧ o = .inl (some (gi 0)) ∧ M1 = gm T (tw c 1) J)) := by
  have t1 : RG (tw c 0) := tw_RG hc (by decide)
  have t0 : tw c 0 200000 = c 200000 := tw_k (by decide)
  have t2 : NW (tw c 0) 200000 := NW_of hV t0
  have v0 := hV.1.1
  have v1 := hV.1.2
  have tQ : LQ (tw c 0) := fun i a b => by rw [tw_k (by decide)]; exact hQ i a b
  have tq : mrq (tw c 0) 200000 z = mrq c 200000 z := mrq_o t0 z
  have hLP : mcp c 200000 z = true → PS (lpl (tw c 0) 200000 z).2 200000 (mcb (mrq c 200000 z)) ∧ (0 ≤ (lpl (tw c 0) 200000 z).1 ∧ (lpl (tw c 0) 200000 z).1 ≤ 1000000000) ∧ ((lpl (tw c 0) 200000 z).1 < 1000000000 → ∀ j, 0 ≤ j → j < mcb (mrq c 200000 z) → 0 ≤ (lpl (tw c 0) 200000 z).2 200007 j ∧ (lpl (tw c 0) 200000 z).2 200007 j < 24) ∧ (lpl (tw c 0) 200000 z).2 200000 = c 200000 := fun h => by
    have h12 := (mcp_12 h).2
    rw [← tq] at h12
    obtain ⟨a1, a2, a3, a4, a5, a6, a7⟩ := lpl_ok (z := z) t1 t2 tQ ⟨⟨by decide, by decide, by decide⟩, by decide, by decide⟩ h12 (by rw [tq]; exact hRO h)
    rw [tq] at a1 a5
    refine ⟨a1, a2, fun hk j p q => ?_, by rw [a3 200000 (by decide) (by decide) (by decide) (by decide) (by decide), t0]⟩
    obtain ⟨y, y1, y2⟩ := a5 hk j p q
    rw [y2]
    exact a1.2.2.1 y y1.1 y1.2
  refine gE_mk am_r245 rfl (Or.inr ⟨_, rfl, (by first | exact MT_0 hM | exact MT_now hM | exact MT_bt hM | exact MT_bl hM | exact MT_r0 hM | exact MT_t0 hM | exact MT_l0 hM | exact MT_r1 hM | exact MT_t1 hM | exact MT_l1 hM | exact MT_r2 hM | exact MT_t2 hM | exact MT_l2 hM | exact MT_r3 hM | exact MT_t3 hM | exact MT_l3 hM | exact MT_r4 hM | exact MT_t4 hM | exact MT_l4 hM | exact MT_r5 hM | exact MT_t5 hM | exact MT_l5 hM | exact MT_r6 hM | exact MT_t6 hM | exact MT_l6 hM | exact MT_r7 hM | exact MT_t7 hM | exact MT_l7 hM | exact MT_r8 hM | exact MT_t8 hM | exact MT_l8 hM | exact MT_r9 hM | exact MT_t9 hM | exact MT_l9 hM | exact MT_r10 hM | exact MT_t10 hM | exact MT_l10 hM)⟩) (fun d hd => ?_)
  show gw d g 245 0 [.ref 500001, gi z, am_U, am_U] [] _ _
  refine gw_al0 at245_0 (gw_il1 at245_1 ?_)
  refine gw_call2 at245_2 (m_asksPlan hM hc hV hz) (by omega) (Nat.le_of_ble_eq_true rfl) (fun o M1 q2 => ?_)
  rcases q2 with ⟨hp, hq, rfl, rfl⟩ | ⟨hp, hq, rfl, rfl⟩ | ⟨hp, rfl, rfl⟩
  · obtain ⟨l1, l2, l3, l4⟩ := hLP hq
    have ln := l1.1
    have l5 := l1.2.2.2.2.2.2
    show gw _ _ _ _ _ (gi _ :: _) _ _
    refine gw_zne at245_5 (by first | omega | exact bi_rg _ | decide | exact hc _ _ | exact l5 _ _) (fun q5 => ?_) (fun q5 => absurd q5 (by decide))
    refine gw_al0 at245_10 (gw_il1 at245_11 ?_)
    refine gw_call2 at245_12 (m_layPlan hM t1 t2 hz tQ (by rw [tq]; exact (mcp_12 hq).2) (by rw [tq]; exact hRO hq)) (by omega) (Nat.le_of_ble_eq_true rfl) (fun o M1 q12 => ?_)
    obtain ⟨rfl, rfl⟩ := q12
    show gw _ _ _ _ _ (gi _ :: _) _ _
    refine gw_is2 at245_15 (h := (gw_const at245_16 (gw_is3 at245_17 (h := ?_))))
    have lp18 : ∀ i : Int, 0 ≤ i → i ≤ 12 → i ≤ (mcb (mrq c 200000 z)) → gw d g 245 18 [.ref 500001, gi z, gi (itI (fun j k => if k < 1000000000 then k - mln (lpl (tw c 0) 200000 z).2 200000 ((lpl (tw c 0) 200000 z).2 200005 j) else k) (lpl (tw c 0) 200000 z).1 i), gi i] [] (gm T (lpl (tw c 0) 200000 z).2 J) (fun o M1 => (inr z 1 3 = true ∧ mcp c 200000 z = true ∧ o = .inl (some (gi (mtl (itI (fun j k => if k < 1000000000 then k - mln (lpl (tw c 0) 200000 z).2 200000 ((lpl (tw c 0) 200000 z).2 200005 j) else k) (lpl (tw c 0) 200000 z).1 (mcb (mrq c 200000 z)))))) ∧ M1 = gm T (lpl (tw c 0) 200000 z).2 J) ∨ (inr z 1 3 = true ∧ mcp c 200000 z = false ∧ o = .inl (some (gi 0)) ∧ M1 = gm T (tw c 2) J) ∨ (inr z 1 3 = false ∧ o = .inl (some (gi 0)) ∧ M1 = gm T (tw c 1) J)) := by
      refine ind_up 12 ?_
      intro i hi0 hi1 ih hi2
      have hk : -1000 * i ≤ itI (fun j k => if k < 1000000000 then k - mln (lpl (tw c 0) 200000 z).2 200000 ((lpl (tw c 0) 200000 z).2 200005 j) else k) (lpl (tw c 0) 200000 z).1 i ∧ itI (fun j k => if k < 1000000000 then k - mln (lpl (tw c 0) 200000 z).2 200000 ((lpl (tw c 0) 200000 z).2 200005 j) else k) (lpl (tw c 0) 200000 z).1 i ≤ 1000000000 := by
        refine itI_inv3 (fun j (k : Int) => -1000 * j ≤ k ∧ k ≤ 1000000000) (N := i) (by omega) (fun j k j0 j1 hk => ?_) hi0 (Int.le_refl _)
        have := mln_rg l1.2.2.2.2.2.1 (l1.2.2.1 j j0 (by omega))
        (try dsimp only at hk ⊢)
        split <;> omega
      refine gw_il3 at245_18 ?_
      refine gw_al0 at245_19 (gw_gf (j := 9) at245_20 (by first | exact MT_0 hM | exact MT_now hM | exact MT_bt hM | exact MT_bl hM | exact MT_r0 hM | exact MT_t0 hM | exact MT_l0 hM | exact MT_r1 hM | exact MT_t1 hM | exact MT_l1 hM | exact MT_r2 hM | exact MT_t2 hM | exact MT_l2 hM | exact MT_r3 hM | exact MT_t3 hM | exact MT_l3 hM | exact MT_r4 hM | exact MT_t4 hM | exact MT_l4 hM | exact MT_r5 hM | exact MT_t5 hM | exact MT_l5 hM | exact MT_r6 hM | exact MT_t6 hM | exact MT_l6 hM | exact MT_r7 hM | exact MT_t7 hM | exact MT_l7 hM | exact MT_r8 hM | exact MT_t8 hM | exact MT_l8 hM | exact MT_r9 hM | exact MT_t9 hM | exact MT_l9 hM | exact MT_r10 hM | exact MT_t10 hM | exact MT_l10 hM) rfl ?_)
      rw [l1.2.1]
      refine gw_cge at245_23 (by first | omega | exact bi_rg _ | decide | exact hc _ _ | exact l5 _ _) (by first | omega | exact bi_rg _ | decide | exact hc _ _ | exact l5 _ _) (fun q23 => ?_) (fun q23 => ?_)
      · refine gw_il2 at245_51 (gw_callP1 at245_52 (m_told (by omega)) (by omega) (Nat.le_of_ble_eq_true rfl) (gw_ri at245_55 am_r245.2.1 ?_))
        refine Or.inl ⟨hp, hq, ?_, rfl⟩
        by_cases e : i = (mcb (mrq c 200000 z))
        · rw [e]
        · have e2 : itI (fun j k => if k < 1000000000 then k - mln (lpl (tw c 0) 200000 z).2 200000 ((lpl (tw c 0) 200000 z).2 200005 j) else k) (lpl (tw c 0) 200000 z).1 (mcb (mrq c 200000 z)) = itI (fun j k => if k < 1000000000 then k - mln (lpl (tw c 0) 200000 z).2 200000 ((lpl (tw c 0) 200000 z).2 200005 j) else k) (lpl (tw c 0) 200000 z).1 i := itI_fx (f := (fun j k => if k < 1000000000 then k - mln (lpl (tw c 0) 200000 z).2 200000 ((lpl (tw c 0) 200000 z).2 200005 j) else k)) (x := (lpl (tw c 0) 200000 z).1) hi0 (fun j hj => if_neg (by omega)) _ hi2
          rw [e2]
      · refine gw_il2 at245_26 (gw_ldc (z := 1000000000) at245_27 (by decide) ?_)
        refine gw_cge at245_29 (by first | omega | exact bi_rg _ | decide | exact hc _ _ | exact l5 _ _) (by first | omega | exact bi_rg _ | decide | exact hc _ _ | exact l5 _ _) (fun q29 => ?_) (fun q29 => ?_)
        · refine gw_il2 at245_51 (gw_callP1 at245_52 (m_told (by omega)) (by omega) (Nat.le_of_ble_eq_true rfl) (gw_ri at245_55 am_r245.2.1 ?_))
          refine Or.inl ⟨hp, hq, ?_, rfl⟩
          by_cases e : i = (mcb (mrq c 200000 z))
          · rw [e]
          · have e2 : itI (fun j k => if k < 1000000000 then k - mln (lpl (tw c 0) 200000 z).2 200000 ((lpl (tw c 0) 200000 z).2 200005 j) else k) (lpl (tw c 0) 200000 z).1 (mcb (mrq c 200000 z)) = itI (fun j k => if k < 1000000000 then k - mln (lpl (tw c 0) 200000 z).2 200000 ((lpl (tw c 0) 200000 z).2 200005 j) else k) (lpl (tw c 0) 200000 z).1 i := itI_fx (f := (fun j k => if k < 1000000000 then k - mln (lpl (tw c 0) 200000 z).2 200000 ((lpl (tw c 0) 200000 z).2 200005 j) else k)) (x := (lpl (tw c 0) 200000 z).1) hi0 (fun j hj => if_neg (by omega)) _ hi2
            rw [e2]
        · refine gw_il2 at245_32 (gw_al0 at245_33 (gw_al0 at245_34 (gw_gr at245_35 (by first | exact MT_0 hM | exact MT_now hM | exact MT_bt hM | exact MT_bl hM | exact MT_r0 hM | exact MT_t0 hM | exact MT_l0 hM | exact MT_r1 hM | exact MT_t1 hM | exact MT_l1 hM | exact MT_r2 hM | exact MT_t2 hM | exact MT_l2 hM | exact MT_r3 hM | exact MT_t3 hM | exact MT_l3 hM | exact MT_r4 hM | exact MT_t4 hM | exact MT_l4 hM | exact MT_r5 hM | exact MT_t5 hM | exact MT_l5 hM | exact MT_r6 hM | exact MT_t6 hM | exact MT_l6 hM | exact MT_r7 hM | exact MT_t7 hM | exact MT_l7 hM | exact MT_r8 hM | exact MT_t8 hM | exact MT_l8 hM | exact MT_r9 hM | exact MT_t9 hM | exact MT_l9 hM | exact MT_r10 hM | exact MT_t10 hM | exact MT_l10 hM) (by first | exact MT_0 hM | exact MT_now hM | exact MT_bt hM | exact MT_bl hM | exact MT_r0 hM | exact MT_t0 hM | exact MT_l0 hM | exact MT_r1 hM | exact MT_t1 hM | exact MT_l1 hM | exact MT_r2 hM | exact MT_t2 hM | exact MT_l2 hM | exact MT_r3 hM | exact MT_t3 hM | exact MT_l3 hM | exact MT_r4 hM | exact MT_t4 hM | exact MT_l4 hM | exact MT_r5 hM | exact MT_t5 hM | exact MT_l5 hM | exact MT_r6 hM | exact MT_t6 hM | exact MT_l6 hM | exact MT_r7 hM | exact MT_t7 hM | exact MT_l7 hM | exact MT_r8 hM | exact MT_t8 hM | exact MT_l8 hM | exact MT_r9 hM | exact MT_t9 hM | exact MT_l9 hM | exact MT_r10 hM | exact MT_t10 hM | exact MT_l10 hM) (gw_il3 at245_38 (gw_ia at245_39 (by first | exact Or.inl (by first | exact MT_0 hM | exact MT_now hM | exact MT_bt hM | exact MT_bl hM | exact MT_r0 hM | exact MT_t0 hM | exact MT_l0 hM | exact MT_r1 hM | exact MT_t1 hM | exact MT_l1 hM | exact MT_r2 hM | exact MT_t2 hM | exact MT_l2 hM | exact MT_r3 hM | exact MT_t3 hM | exact MT_l3 hM | exact MT_r4 hM | exact MT_t4 hM | exact MT_l4 hM | exact MT_r5 hM | exact MT_t5 hM | exact MT_l5 hM | exact MT_r6 hM | exact MT_t6 hM | exact MT_l6 hM | exact MT_r7 hM | exact MT_t7 hM | exact MT_l7 hM | exact MT_r8 hM | exact MT_t8 hM | exact MT_l8 hM | exact MT_r9 hM | exact MT_t9 hM | exact MT_l9 hM | exact MT_r10 hM | exact MT_t10 hM | exact MT_l10 hM) | exact Or.inr (by first | exact MT_0 hM | exact MT_now hM | exact MT_bt hM | exact MT_bl hM | exact MT_r0 hM | exact MT_t0 hM | exact MT_l0 hM | exact MT_r1 hM | exact MT_t1 hM | exact MT_l1 hM | exact MT_r2 hM | exact MT_t2 hM | exact MT_l2 hM | exact MT_r3 hM | exact MT_t3 hM | exact MT_l3 hM | exact MT_r4 hM | exact MT_t4 hM | exact MT_l4 hM | exact MT_r5 hM | exact MT_t5 hM | exact MT_l5 hM | exact MT_r6 hM | exact MT_t6 hM | exact MT_l6 hM | exact MT_r7 hM | exact MT_t7 hM | exact MT_l7 hM | exact MT_r8 hM | exact MT_t8 hM | exact MT_l8 hM | exact MT_r9 hM | exact MT_t9 hM | exact MT_l9 hM | exact MT_r10 hM | exact MT_t10 hM | exact MT_l10 hM)) (by first | exact MT_0 hM | exact MT_now hM | exact MT_bt hM | exact MT_bl hM | exact MT_r0 hM | exact MT_t0 hM | exact MT_l0 hM | exact MT_r1 hM | exact MT_t1 hM | exact MT_l1 hM | exact MT_r2 hM | exact MT_t2 hM | exact MT_l2 hM | exact MT_r3 hM | exact MT_t3 hM | exact MT_l3 hM | exact MT_r4 hM | exact MT_t4 hM | exact MT_l4 hM | exact MT_r5 hM | exact MT_t5 hM | exact MT_l5 hM | exact MT_r6 hM | exact MT_t6 hM | exact MT_l6 hM | exact MT_r7 hM | exact MT_t7 hM | exact MT_l7 hM | exact MT_r8 hM | exact MT_t8 hM | exact MT_l8 hM | exact MT_r9 hM | exact MT_t9 hM | exact MT_l9 hM | exact MT_r10 hM | exact MT_t10 hM | exact MT_l10 hM) (by first | omega | exact bi_rg _ | decide | exact hc _ _ | exact l5 _ _) (by first | omega | exact bi_rg _ | decide | exact hc _ _ | exact l5 _ _) (by omega) (gw_callP2 at245_40 (m_lengthOf hM l5 l1.2.2.2.2.2.1 (l1.2.2.1 i hi0 (by omega))) (by omega) (Nat.le_of_ble_eq_true rfl) (gw_isub at245_43 (gw_is2 at245_44 (h := (gw_inc3 at245_45 (h := (gw_goto at245_48 ?_))))))))))))
          have hl9 := mln_rg l1.2.2.2.2.2.1 (l1.2.2.1 i hi0 (by omega))
          have h8 := ih (i + 1) (by omega) (by omega) (by omega)
          rw [itI_s _ _ hi0, if_pos (by omega)] at h8
          exact h8
    exact lp18 0 (by decide) (by decide) (by omega)
  · show gw _ _ _ _ _ (gi _ :: _) _ _
    refine gw_zne at245_5 (by first | omega | exact bi_rg _ | decide | exact hc _ _ | exact l5 _ _) (fun q5 => absurd q5 (by decide)) (fun q5 => ?_)
    refine gw_const at245_8 (gw_ri at245_9 am_r245.2.1 ?_)
    first | exact Or.inr (Or.inr ⟨hp, rfl, rfl⟩) | exact Or.inr (Or.inl ⟨hp, hq, rfl, rfl⟩)
  · show gw _ _ _ _ _ (gi _ :: _) _ _
    refine gw_zne at245_5 (by first | omega | exact bi_rg _ | decide | exact hc _ _ | exact l5 _ _) (fun q5 => absurd q5 (by decide)) (fun q5 => ?_)
    refine gw_const at245_8 (gw_ri at245_9 am_r245.2.1 ?_)
    first | exact Or.inr (Or.inr ⟨hp, rfl, rfl⟩) | exact Or.inr (Or.inl ⟨hp, hq, rfl, rfl⟩)
