/-! the reference: snow, in public -/
theorem m_rqF {g : Nat} {T : gT} {c J : gC} {b : Nat} (hM : MT T b) (hc : RG c) (hV : NW c b) {z : Int} (hz : -2147483648 ≤ z ∧ z < 2147483648) : gE g 232 2 [.ref 500001, gi z] (gm T c J) (gR (gi (mrq c b z)) (gm T c J)) := m_requiredFor hM hc hV hz
set_option maxHeartbeats 1000000 in
theorem m_x_depth {g : Nat} {T : gT} {c J : gC} (hM : MT T 200000) (hc : RG c) (hV : NW c 200000) {a : Int} (ha : -2147483648 ≤ a ∧ a < 2147483648) {B : Int} (hW : WW c 200000 B) (hB : B ≤ 900000000) : gE g 256 3 [.ref 500001, gi a] (gm T c J) (fun o M1 => (mhA c 200000 a = true ∧ o = .inl (some (gi (msn (tw c 0) 200000 a ((tw c 0) 200000 5)))) ∧ M1 = gm T (tw c 0) J) ∨ (mhA c 200000 a = false ∧ o = .inl (some (gi 0)) ∧ M1 = gm T (tw c 1) J)) := by
  have t1 : RG (tw c 0) := tw_RG hc (by decide)
  have t0 : tw c 0 200000 = c 200000 := tw_k (by decide)
  have t2 : NW (tw c 0) 200000 := NW_of hV t0
  have v0 := hV.1.1
  have v1 := hV.1.2
  have tW : WW (tw c 0) 200000 B := WW_of hW t0
  have w1 := hW.1
  have w2 := hW.2.1
  have w3 := hW.2.2.1
  have t5 : tw c 0 200000 5 = c 200000 5 := by rw [t0]
  refine gE_mk am_r256 rfl (Or.inr ⟨_, rfl, (by first | exact MT_0 hM | exact MT_now hM | exact MT_bt hM | exact MT_bl hM | exact MT_r0 hM | exact MT_t0 hM | exact MT_l0 hM | exact MT_r1 hM | exact MT_t1 hM | exact MT_l1 hM | exact MT_r2 hM | exact MT_t2 hM | exact MT_l2 hM | exact MT_r3 hM | exact MT_t3 hM | exact MT_l3 hM | exact MT_r4 hM | exact MT_t4 hM | exact MT_l4 hM | exact MT_r5 hM | exact MT_t5 hM | exact MT_l5 hM | exact MT_r6 hM | exact MT_t6 hM | exact MT_l6 hM | exact MT_r7 hM | exact MT_t7 hM | exact MT_l7 hM | exact MT_r8 hM | exact MT_t8 hM | exact MT_l8 hM | exact MT_r9 hM | exact MT_t9 hM | exact MT_l9 hM | exact MT_r10 hM | exact MT_t10 hM | exact MT_l10 hM)⟩) (fun d hd => ?_)
  show gw d g 256 0 [.ref 500001, gi a] [] _ _
  refine gw_al0 at256_0 (gw_al0 at256_1 (gw_il1 at256_2 (gw_callP2 at256_3 (m_isArc hM hc hV (by omega)) (by omega) (Nat.le_of_ble_eq_true rfl) ?_)))
  refine gw_call2 at256_6 (m_pas1 hM hc (p := mhA c 200000 a)) (by omega) (Nat.le_of_ble_eq_true rfl) (fun o M1 q6 => ?_)
  rcases q6 with ⟨hp6, rfl, rfl⟩ | ⟨hp6, rfl, rfl⟩
  · show gw _ _ _ _ _ (gi _ :: _) _ _
    refine gw_zeq at256_9 (by first | omega | exact hc _ _ | exact t1 _ _ | exact bi_rg _ | exact zrg _) (fun q9 => absurd q9 (by decide)) (fun q9 => ?_)
    refine gw_al0 at256_12 (gw_il1 at256_13 (gw_callP2 at256_14 (m_depthNow hM t1 t2 tW (mhA_rg hV hp6)) (by omega) (Nat.le_of_ble_eq_true rfl) (gw_goto at256_17 (gw_ri at256_21 am_r256.2.1 ?_))))
    first
    | (have hh : mhA c 200000 a = true := by first | assumption | (simp [*]; done)
       exact Or.inl ⟨hh, by first | rfl | simp only [mhA_o t0, mbg_o t0, men_o t0, mln_o t0, mcl_o t0, mkd_o t0, mct_o t0, mrc_o t0, mcn_o t0, mrq_o t0, mno_o t0, mro_o t0, mfo_o t0], rfl⟩)
    | exact Or.inr ⟨by first | assumption | (simp [*]; done), rfl, rfl⟩
  · show gw _ _ _ _ _ (gi _ :: _) _ _
    refine gw_zeq at256_9 (by first | omega | exact hc _ _ | exact t1 _ _ | exact bi_rg _ | exact zrg _) (fun q9 => ?_) (fun q9 => absurd q9 (by decide))
    refine gw_const at256_20 (gw_ri at256_21 am_r256.2.1 ?_)
    first
    | (have hh : mhA c 200000 a = true := by first | assumption | (simp [*]; done)
       exact Or.inl ⟨hh, by first | rfl | simp only [mhA_o t0, mbg_o t0, men_o t0, mln_o t0, mcl_o t0, mkd_o t0, mct_o t0, mrc_o t0, mcn_o t0, mrq_o t0, mno_o t0, mro_o t0, mfo_o t0], rfl⟩)
    | exact Or.inr ⟨by first | assumption | (simp [*]; done), rfl, rfl⟩
set_option maxHeartbeats 1000000 in
theorem m_x_deepArcs {g : Nat} {T : gT} {c J : gC} (hM : MT T 200000) (hc : RG c) (hV : NW c 200000) {z : Int} (hz : -2147483648 ≤ z ∧ z < 2147483648) {B : Int} (hW : WW c 200000 B) (hB : B ≤ 900000000) : gE g 260 4 [.ref 500001, gi z] (gm T c J) (fun o M1 => (inr z 0 2000 = true ∧ o = .inl (some (gi (mdq (tw c 0) 200000 z))) ∧ M1 = gm T (tw c 0) J) ∨ (inr z 0 2000 = false ∧ o = .inl (some (gi 0)) ∧ M1 = gm T (tw c 1) J)) := by
  have t1 : RG (tw c 0) := tw_RG hc (by decide)
  have t0 : tw c 0 200000 = c 200000 := tw_k (by decide)
  have t2 : NW (tw c 0) 200000 := NW_of hV t0
  have v0 := hV.1.1
  have v1 := hV.1.2
  have tW : WW (tw c 0) 200000 B := WW_of hW t0
  have w1 := hW.1
  have w2 := hW.2.1
  have w3 := hW.2.2.1
  have t5 : tw c 0 200000 5 = c 200000 5 := by rw [t0]
  refine gE_mk am_r260 rfl (Or.inr ⟨_, rfl, (by first | exact MT_0 hM | exact MT_now hM | exact MT_bt hM | exact MT_bl hM | exact MT_r0 hM | exact MT_t0 hM | exact MT_l0 hM | exact MT_r1 hM | exact MT_t1 hM | exact MT_l1 hM | exact MT_r2 hM | exact MT_t2 hM | exact MT_l2 hM | exact MT_r3 hM | exact MT_t3 hM | exact MT_l3 hM | exact MT_r4 hM | exact MT_t4 hM | exact MT_l4 hM | exact MT_r5 hM | exact MT_t5 hM | exact MT_l5 hM | exact MT_r6 hM | exact MT_t6 hM | exact MT_l6 hM | exact MT_r7 hM | exact MT_t7 hM | exact MT_l7 hM | exact MT_r8 hM | exact MT_t8 hM | exact MT_l8 hM | exact MT_r9 hM | exact MT_t9 hM | exact MT_l9 hM | exact MT_r10 hM | exact MT_t10 hM | exact MT_l10 hM)⟩) (fun d hd => ?_)
  show gw d g 260 0 [.ref 500001, gi z] [] _ _
  refine gw_al0 at260_0 (gw_il1 at260_1 (gw_callP1 at260_2 (m_isDepth (by omega)) (by omega) (Nat.le_of_ble_eq_true rfl) ?_))
  refine gw_call2 at260_5 (m_pas1 hM hc (p := inr z 0 2000)) (by omega) (Nat.le_of_ble_eq_true rfl) (fun o M1 q5 => ?_)
  rcases q5 with ⟨hp5, rfl, rfl⟩ | ⟨hp5, rfl, rfl⟩
  · show gw _ _ _ _ _ (gi _ :: _) _ _
    refine gw_zeq at260_8 (by first | omega | exact hc _ _ | exact t1 _ _ | exact bi_rg _ | exact zrg _) (fun q8 => absurd q8 (by decide)) (fun q8 => ?_)
    refine gw_al0 at260_11 (gw_il1 at260_12 (gw_callP2 at260_13 (m_deeperThan hM t1 t2 tW hz) (by omega) (Nat.le_of_ble_eq_true rfl) (gw_goto at260_16 (gw_ri at260_20 am_r260.2.1 ?_))))
    first
    | (have hh : inr z 0 2000 = true := by first | assumption | (simp [*]; done)
       exact Or.inl ⟨hh, by first | rfl | simp only [mhA_o t0, mbg_o t0, men_o t0, mln_o t0, mcl_o t0, mkd_o t0, mct_o t0, mrc_o t0, mcn_o t0, mrq_o t0, mno_o t0, mro_o t0, mfo_o t0], rfl⟩)
    | exact Or.inr ⟨by first | assumption | (simp [*]; done), rfl, rfl⟩
  · show gw _ _ _ _ _ (gi _ :: _) _ _
    refine gw_zeq at260_8 (by first | omega | exact hc _ _ | exact t1 _ _ | exact bi_rg _ | exact zrg _) (fun q8 => ?_) (fun q8 => absurd q8 (by decide))
    refine gw_const at260_19 (gw_ri at260_20 am_r260.2.1 ?_)
    first
    | (have hh : inr z 0 2000 = true := by first | assumption | (simp [*]; done)
       exact Or.inl ⟨hh, by first | rfl | simp only [mhA_o t0, mbg_o t0, men_o t0, mln_o t0, mcl_o t0, mkd_o t0, mct_o t0, mrc_o t0, mcn_o t0, mrq_o t0, mno_o t0, mro_o t0, mfo_o t0], rfl⟩)
    | exact Or.inr ⟨by first | assumption | (simp [*]; done), rfl, rfl⟩
set_option maxHeartbeats 1000000 in
theorem m_x_turnsMade {g : Nat} {T : gT} {c J : gC} (hM : MT T 200000) (hc : RG c) (hV : NW c 200000) {z : Int} (hz : -2147483648 ≤ z ∧ z < 2147483648) : gE g 281 2 [.ref 500001, gi z] (gm T c J) (fun o M1 => (inr z 0 3 = true ∧ o = .inl (some (gi (c 200000 (18 + z)))) ∧ M1 = gm T (tw c 0) J) ∨ (inr z 0 3 = false ∧ o = .inl (some (gi 0)) ∧ M1 = gm T (tw c 1) J)) := by
  have t1 : RG (tw c 0) := tw_RG hc (by decide)
  have t0 : tw c 0 200000 = c 200000 := tw_k (by decide)
  have t2 : NW (tw c 0) 200000 := NW_of hV t0
  have v0 := hV.1.1
  have v1 := hV.1.2
  refine gE_mk am_r281 rfl (Or.inr ⟨_, rfl, (by first | exact MT_0 hM | exact MT_now hM | exact MT_bt hM | exact MT_bl hM | exact MT_r0 hM | exact MT_t0 hM | exact MT_l0 hM | exact MT_r1 hM | exact MT_t1 hM | exact MT_l1 hM | exact MT_r2 hM | exact MT_t2 hM | exact MT_l2 hM | exact MT_r3 hM | exact MT_t3 hM | exact MT_l3 hM | exact MT_r4 hM | exact MT_t4 hM | exact MT_l4 hM | exact MT_r5 hM | exact MT_t5 hM | exact MT_l5 hM | exact MT_r6 hM | exact MT_t6 hM | exact MT_l6 hM | exact MT_r7 hM | exact MT_t7 hM | exact MT_l7 hM | exact MT_r8 hM | exact MT_t8 hM | exact MT_l8 hM | exact MT_r9 hM | exact MT_t9 hM | exact MT_l9 hM | exact MT_r10 hM | exact MT_t10 hM | exact MT_l10 hM)⟩) (fun d hd => ?_)
  show gw d g 281 0 [.ref 500001, gi z] [] _ _
  refine gw_al0 at281_0 (gw_il1 at281_1 (gw_callP1 at281_2 (m_isKind (by omega)) (by omega) (Nat.le_of_ble_eq_true rfl) ?_))
  refine gw_call2 at281_5 (m_pas1 hM hc (p := inr z 0 3)) (by omega) (Nat.le_of_ble_eq_true rfl) (fun o M1 q5 => ?_)
  rcases q5 with ⟨hp5, rfl, rfl⟩ | ⟨hp5, rfl, rfl⟩
  · show gw _ _ _ _ _ (gi _ :: _) _ _
    refine gw_zeq at281_8 (by first | omega | exact hc _ _ | exact t1 _ _ | exact bi_rg _ | exact zrg _) (fun q8 => absurd q8 (by decide)) (fun q8 => ?_)
    have hz9 := inr_t.mp hp5
    refine gw_al0 at281_11 (gw_gr at281_12 (by first | exact MT_0 hM | exact MT_now hM | exact MT_bt hM | exact MT_bl hM | exact MT_r0 hM | exact MT_t0 hM | exact MT_l0 hM | exact MT_r1 hM | exact MT_t1 hM | exact MT_l1 hM | exact MT_r2 hM | exact MT_t2 hM | exact MT_l2 hM | exact MT_r3 hM | exact MT_t3 hM | exact MT_l3 hM | exact MT_r4 hM | exact MT_t4 hM | exact MT_l4 hM | exact MT_r5 hM | exact MT_t5 hM | exact MT_l5 hM | exact MT_r6 hM | exact MT_t6 hM | exact MT_l6 hM | exact MT_r7 hM | exact MT_t7 hM | exact MT_l7 hM | exact MT_r8 hM | exact MT_t8 hM | exact MT_l8 hM | exact MT_r9 hM | exact MT_t9 hM | exact MT_l9 hM | exact MT_r10 hM | exact MT_t10 hM | exact MT_l10 hM) (by first | exact MT_0 hM | exact MT_now hM | exact MT_bt hM | exact MT_bl hM | exact MT_r0 hM | exact MT_t0 hM | exact MT_l0 hM | exact MT_r1 hM | exact MT_t1 hM | exact MT_l1 hM | exact MT_r2 hM | exact MT_t2 hM | exact MT_l2 hM | exact MT_r3 hM | exact MT_t3 hM | exact MT_l3 hM | exact MT_r4 hM | exact MT_t4 hM | exact MT_l4 hM | exact MT_r5 hM | exact MT_t5 hM | exact MT_l5 hM | exact MT_r6 hM | exact MT_t6 hM | exact MT_l6 hM | exact MT_r7 hM | exact MT_t7 hM | exact MT_l7 hM | exact MT_r8 hM | exact MT_t8 hM | exact MT_l8 hM | exact MT_r9 hM | exact MT_t9 hM | exact MT_l9 hM | exact MT_r10 hM | exact MT_t10 hM | exact MT_l10 hM) (gw_bip at281_15 (by decide) (gw_il1 at281_17 (gw_iadd at281_18 (gw_ia at281_19 (by first | exact Or.inl (by first | exact MT_0 hM | exact MT_now hM | exact MT_bt hM | exact MT_bl hM | exact MT_r0 hM | exact MT_t0 hM | exact MT_l0 hM | exact MT_r1 hM | exact MT_t1 hM | exact MT_l1 hM | exact MT_r2 hM | exact MT_t2 hM | exact MT_l2 hM | exact MT_r3 hM | exact MT_t3 hM | exact MT_l3 hM | exact MT_r4 hM | exact MT_t4 hM | exact MT_l4 hM | exact MT_r5 hM | exact MT_t5 hM | exact MT_l5 hM | exact MT_r6 hM | exact MT_t6 hM | exact MT_l6 hM | exact MT_r7 hM | exact MT_t7 hM | exact MT_l7 hM | exact MT_r8 hM | exact MT_t8 hM | exact MT_l8 hM | exact MT_r9 hM | exact MT_t9 hM | exact MT_l9 hM | exact MT_r10 hM | exact MT_t10 hM | exact MT_l10 hM) | exact Or.inr (by first | exact MT_0 hM | exact MT_now hM | exact MT_bt hM | exact MT_bl hM | exact MT_r0 hM | exact MT_t0 hM | exact MT_l0 hM | exact MT_r1 hM | exact MT_t1 hM | exact MT_l1 hM | exact MT_r2 hM | exact MT_t2 hM | exact MT_l2 hM | exact MT_r3 hM | exact MT_t3 hM | exact MT_l3 hM | exact MT_r4 hM | exact MT_t4 hM | exact MT_l4 hM | exact MT_r5 hM | exact MT_t5 hM | exact MT_l5 hM | exact MT_r6 hM | exact MT_t6 hM | exact MT_l6 hM | exact MT_r7 hM | exact MT_t7 hM | exact MT_l7 hM | exact MT_r8 hM | exact MT_t8 hM | exact MT_l8 hM | exact MT_r9 hM | exact MT_t9 hM | exact MT_l9 hM | exact MT_r10 hM | exact MT_t10 hM | exact MT_l10 hM)) (by first | exact MT_0 hM | exact MT_now hM | exact MT_bt hM | exact MT_bl hM | exact MT_r0 hM | exact MT_t0 hM | exact MT_l0 hM | exact MT_r1 hM | exact MT_t1 hM | exact MT_l1 hM | exact MT_r2 hM | exact MT_t2 hM | exact MT_l2 hM | exact MT_r3 hM | exact MT_t3 hM | exact MT_l3 hM | exact MT_r4 hM | exact MT_t4 hM | exact MT_l4 hM | exact MT_r5 hM | exact MT_t5 hM | exact MT_l5 hM | exact MT_r6 hM | exact MT_t6 hM | exact MT_l6 hM | exact MT_r7 hM | exact MT_t7 hM | exact MT_l7 hM | exact MT_r8 hM | exact MT_t8 hM | exact MT_l8 hM | exact MT_r9 hM | exact MT_t9 hM | exact MT_l9 hM | exact MT_r10 hM | exact MT_t10 hM | exact MT_l10 hM) (by first | omega | exact hc _ _ | exact t1 _ _ | exact bi_rg _ | exact zrg _) (by first | omega | exact hc _ _ | exact t1 _ _ | exact bi_rg _ | exact zrg _) (by omega) ?_)))))
    rw [t0]
    refine gw_goto at281_20 (gw_ri at281_24 am_r281.2.1 ?_)
    first
    | (have hh : inr z 0 3 = true := by first | assumption | (simp [*]; done)
       exact Or.inl ⟨hh, by first | rfl | simp only [mhA_o t0, mbg_o t0, men_o t0, mln_o t0, mcl_o t0, mkd_o t0, mct_o t0, mrc_o t0, mcn_o t0, mrq_o t0, mno_o t0, mro_o t0, mfo_o t0], rfl⟩)
    | exact Or.inr ⟨by first | assumption | (simp [*]; done), rfl, rfl⟩
  · show gw _ _ _ _ _ (gi _ :: _) _ _
    refine gw_zeq at281_8 (by first | omega | exact hc _ _ | exact t1 _ _ | exact bi_rg _ | exact zrg _) (fun q8 => ?_) (fun q8 => absurd q8 (by decide))
    refine gw_const at281_23 (gw_ri at281_24 am_r281.2.1 ?_)
    first
    | (have hh : inr z 0 3 = true := by first | assumption | (simp [*]; done)
       exact Or.inl ⟨hh, by first | rfl | simp only [mhA_o t0, mbg_o t0, men_o t0, mln_o t0, mcl_o t0, mkd_o t0, mct_o t0, mrc_o t0, mcn_o t0, mrq_o t0, mno_o t0, mro_o t0, mfo_o t0], rfl⟩)
    | exact Or.inr ⟨by first | assumption | (simp [*]; done), rfl, rfl⟩
set_option maxHeartbeats 1000000 in
theorem m_x_passes {g : Nat} {T : gT} {c J : gC} (hM : MT T 200000) (hc : RG c) (hV : NW c 200000) {a : Int} (ha : -2147483648 ≤ a ∧ a < 2147483648) : gE g 282 2 [.ref 500001, gi a] (gm T c J) (fun o M1 => (mhA c 200000 a = true ∧ o = .inl (some (gi (c 200000 (136 + 3 * a + 2)))) ∧ M1 = gm T (tw c 0) J) ∨ (mhA c 200000 a = false ∧ o = .inl (some (gi 0)) ∧ M1 = gm T (tw c 1) J)) := by
  have t1 : RG (tw c 0) := tw_RG hc (by decide)
  have t0 : tw c 0 200000 = c 200000 := tw_k (by decide)
  have t2 : NW (tw c 0) 200000 := NW_of hV t0
  have v0 := hV.1.1
  have v1 := hV.1.2
  refine gE_mk am_r282 rfl (Or.inr ⟨_, rfl, (by first | exact MT_0 hM | exact MT_now hM | exact MT_bt hM | exact MT_bl hM | exact MT_r0 hM | exact MT_t0 hM | exact MT_l0 hM | exact MT_r1 hM | exact MT_t1 hM | exact MT_l1 hM | exact MT_r2 hM | exact MT_t2 hM | exact MT_l2 hM | exact MT_r3 hM | exact MT_t3 hM | exact MT_l3 hM | exact MT_r4 hM | exact MT_t4 hM | exact MT_l4 hM | exact MT_r5 hM | exact MT_t5 hM | exact MT_l5 hM | exact MT_r6 hM | exact MT_t6 hM | exact MT_l6 hM | exact MT_r7 hM | exact MT_t7 hM | exact MT_l7 hM | exact MT_r8 hM | exact MT_t8 hM | exact MT_l8 hM | exact MT_r9 hM | exact MT_t9 hM | exact MT_l9 hM | exact MT_r10 hM | exact MT_t10 hM | exact MT_l10 hM)⟩) (fun d hd => ?_)
  show gw d g 282 0 [.ref 500001, gi a] [] _ _
  refine gw_al0 at282_0 (gw_al0 at282_1 (gw_il1 at282_2 (gw_callP2 at282_3 (m_isArc hM hc hV (by omega)) (by omega) (Nat.le_of_ble_eq_true rfl) ?_)))
  refine gw_call2 at282_6 (m_pas1 hM hc (p := mhA c 200000 a)) (by omega) (Nat.le_of_ble_eq_true rfl) (fun o M1 q6 => ?_)
  rcases q6 with ⟨hp6, rfl, rfl⟩ | ⟨hp6, rfl, rfl⟩
  · show gw _ _ _ _ _ (gi _ :: _) _ _
    refine gw_zeq at282_9 (by first | omega | exact hc _ _ | exact t1 _ _ | exact bi_rg _ | exact zrg _) (fun q9 => absurd q9 (by decide)) (fun q9 => ?_)
    refine gw_al0 at282_12 (gw_il1 at282_13 (gw_const at282_14 (gw_callP3 at282_15 (m_arf hM t1 (mhA_rg hV hp6) (by decide)) (by omega) (Nat.le_of_ble_eq_true rfl) ?_)))
    rw [t0]
    refine gw_goto at282_18 (gw_ri at282_22 am_r282.2.1 ?_)
    first
    | (have hh : mhA c 200000 a = true := by first | assumption | (simp [*]; done)
       exact Or.inl ⟨hh, by first | rfl | simp only [mhA_o t0, mbg_o t0, men_o t0, mln_o t0, mcl_o t0, mkd_o t0, mct_o t0, mrc_o t0, mcn_o t0, mrq_o t0, mno_o t0, mro_o t0, mfo_o t0], rfl⟩)
    | exact Or.inr ⟨by first | assumption | (simp [*]; done), rfl, rfl⟩
  · show gw _ _ _ _ _ (gi _ :: _) _ _
    refine gw_zeq at282_9 (by first | omega | exact hc _ _ | exact t1 _ _ | exact bi_rg _ | exact zrg _) (fun q9 => ?_) (fun q9 => absurd q9 (by decide))
    refine gw_const at282_21 (gw_ri at282_22 am_r282.2.1 ?_)
    first
    | (have hh : mhA c 200000 a = true := by first | assumption | (simp [*]; done)
       exact Or.inl ⟨hh, by first | rfl | simp only [mhA_o t0, mbg_o t0, men_o t0, mln_o t0, mcl_o t0, mkd_o t0, mct_o t0, mrc_o t0, mcn_o t0, mrq_o t0, mno_o t0, mro_o t0, mfo_o t0], rfl⟩)
    | exact Or.inr ⟨by first | assumption | (simp [*]; done), rfl, rfl⟩
set_option maxHeartbeats 1000000 in
theorem m_x_depthAfter {g : Nat} {T : gT} {c J : gC} (hM : MT T 200000) (hc : RG c) (hV : NW c 200000) {a : Int} (ha : -2147483648 ≤ a ∧ a < 2147483648) {s : Int} (hs : -2147483648 ≤ s ∧ s < 2147483648) {B : Int} (hW : WW c 200000 B) (hB : B ≤ 900000000) : gE g 265 2 [.ref 500001, gi a, gi s] (gm T c J) (fun o M1 => (mhA c 200000 a = true ∧ inr s 0 1000000 = true ∧ o = .inl (some (gi (msn (tw c 0) 200000 a ((tw c 0) 200000 5 + s)))) ∧ M1 = gm T (tw c 0) J) ∨ (mhA c 200000 a = true ∧ inr s 0 1000000 = false ∧ o = .inl (some (gi 0)) ∧ M1 = gm T (tw c 2) J) ∨ (mhA c 200000 a = false ∧ o = .inl (some (gi 0)) ∧ M1 = gm T (tw c 1) J)) := by
  have t1 : RG (tw c 0) := tw_RG hc (by decide)
  have t0 : tw c 0 200000 = c 200000 := tw_k (by decide)
  have t2 : NW (tw c 0) 200000 := NW_of hV t0
  have v0 := hV.1.1
  have v1 := hV.1.2
  have tW : WW (tw c 0) 200000 B := WW_of hW t0
  have w1 := hW.1
  have w2 := hW.2.1
  have w3 := hW.2.2.1
  have t5 : tw c 0 200000 5 = c 200000 5 := by rw [t0]
  refine gE_mk am_r265 rfl (Or.inr ⟨_, rfl, (by first | exact MT_0 hM | exact MT_now hM | exact MT_bt hM | exact MT_bl hM | exact MT_r0 hM | exact MT_t0 hM | exact MT_l0 hM | exact MT_r1 hM | exact MT_t1 hM | exact MT_l1 hM | exact MT_r2 hM | exact MT_t2 hM | exact MT_l2 hM | exact MT_r3 hM | exact MT_t3 hM | exact MT_l3 hM | exact MT_r4 hM | exact MT_t4 hM | exact MT_l4 hM | exact MT_r5 hM | exact MT_t5 hM | exact MT_l5 hM | exact MT_r6 hM | exact MT_t6 hM | exact MT_l6 hM | exact MT_r7 hM | exact MT_t7 hM | exact MT_l7 hM | exact MT_r8 hM | exact MT_t8 hM | exact MT_l8 hM | exact MT_r9 hM | exact MT_t9 hM | exact MT_l9 hM | exact MT_r10 hM | exact MT_t10 hM | exact MT_l10 hM)⟩) (fun d hd => ?_)
  show gw d g 265 0 [.ref 500001, gi a, gi s] [] _ _
  refine gw_al0 at265_0 (gw_al0 at265_1 (gw_il1 at265_2 (gw_callP2 at265_3 (m_isArc hM hc hV (by omega)) (by omega) (Nat.le_of_ble_eq_true rfl) (gw_il2 at265_6 (gw_i2l at265_7 (by first | omega | exact hc _ _ | exact t1 _ _ | exact bi_rg _ | exact zrg _) (gw_lconst (z := 0) at265_8 rfl (gw_ldc2 (z := 1000000) at265_9 (by decide) (gw_callP3 at265_12 (m_in (by omega) (by omega) (by omega)) (by omega) (Nat.le_of_ble_eq_true rfl) ?_))))))))
  refine gw_call3 at265_15 (m_pas2 hM hc (p := mhA c 200000 a) (q := inr s 0 1000000)) (by omega) (Nat.le_of_ble_eq_true rfl) (fun o M1 q15 => ?_)
  rcases q15 with ⟨hp15, hq15, rfl, rfl⟩ | ⟨hp15, hq15, rfl, rfl⟩ | ⟨hp15, rfl, rfl⟩
  · show gw _ _ _ _ _ (gi _ :: _) _ _
    refine gw_zeq at265_18 (by first | omega | exact hc _ _ | exact t1 _ _ | exact bi_rg _ | exact zrg _) (fun q18 => absurd q18 (by decide)) (fun q18 => ?_)
    have hs9 := inr_t.mp hq15
    refine gw_al0 at265_21 (gw_il1 at265_22 (gw_al0 at265_23 (gw_gr at265_24 (by first | exact MT_0 hM | exact MT_now hM | exact MT_bt hM | exact MT_bl hM | exact MT_r0 hM | exact MT_t0 hM | exact MT_l0 hM | exact MT_r1 hM | exact MT_t1 hM | exact MT_l1 hM | exact MT_r2 hM | exact MT_t2 hM | exact MT_l2 hM | exact MT_r3 hM | exact MT_t3 hM | exact MT_l3 hM | exact MT_r4 hM | exact MT_t4 hM | exact MT_l4 hM | exact MT_r5 hM | exact MT_t5 hM | exact MT_l5 hM | exact MT_r6 hM | exact MT_t6 hM | exact MT_l6 hM | exact MT_r7 hM | exact MT_t7 hM | exact MT_l7 hM | exact MT_r8 hM | exact MT_t8 hM | exact MT_l8 hM | exact MT_r9 hM | exact MT_t9 hM | exact MT_l9 hM | exact MT_r10 hM | exact MT_t10 hM | exact MT_l10 hM) (by first | exact MT_0 hM | exact MT_now hM | exact MT_bt hM | exact MT_bl hM | exact MT_r0 hM | exact MT_t0 hM | exact MT_l0 hM | exact MT_r1 hM | exact MT_t1 hM | exact MT_l1 hM | exact MT_r2 hM | exact MT_t2 hM | exact MT_l2 hM | exact MT_r3 hM | exact MT_t3 hM | exact MT_l3 hM | exact MT_r4 hM | exact MT_t4 hM | exact MT_l4 hM | exact MT_r5 hM | exact MT_t5 hM | exact MT_l5 hM | exact MT_r6 hM | exact MT_t6 hM | exact MT_l6 hM | exact MT_r7 hM | exact MT_t7 hM | exact MT_l7 hM | exact MT_r8 hM | exact MT_t8 hM | exact MT_l8 hM | exact MT_r9 hM | exact MT_t9 hM | exact MT_l9 hM | exact MT_r10 hM | exact MT_t10 hM | exact MT_l10 hM) (gw_const at265_27 (gw_ia at265_28 (by first | exact Or.inl (by first | exact MT_0 hM | exact MT_now hM | exact MT_bt hM | exact MT_bl hM | exact MT_r0 hM | exact MT_t0 hM | exact MT_l0 hM | exact MT_r1 hM | exact MT_t1 hM | exact MT_l1 hM | exact MT_r2 hM | exact MT_t2 hM | exact MT_l2 hM | exact MT_r3 hM | exact MT_t3 hM | exact MT_l3 hM | exact MT_r4 hM | exact MT_t4 hM | exact MT_l4 hM | exact MT_r5 hM | exact MT_t5 hM | exact MT_l5 hM | exact MT_r6 hM | exact MT_t6 hM | exact MT_l6 hM | exact MT_r7 hM | exact MT_t7 hM | exact MT_l7 hM | exact MT_r8 hM | exact MT_t8 hM | exact MT_l8 hM | exact MT_r9 hM | exact MT_t9 hM | exact MT_l9 hM | exact MT_r10 hM | exact MT_t10 hM | exact MT_l10 hM) | exact Or.inr (by first | exact MT_0 hM | exact MT_now hM | exact MT_bt hM | exact MT_bl hM | exact MT_r0 hM | exact MT_t0 hM | exact MT_l0 hM | exact MT_r1 hM | exact MT_t1 hM | exact MT_l1 hM | exact MT_r2 hM | exact MT_t2 hM | exact MT_l2 hM | exact MT_r3 hM | exact MT_t3 hM | exact MT_l3 hM | exact MT_r4 hM | exact MT_t4 hM | exact MT_l4 hM | exact MT_r5 hM | exact MT_t5 hM | exact MT_l5 hM | exact MT_r6 hM | exact MT_t6 hM | exact MT_l6 hM | exact MT_r7 hM | exact MT_t7 hM | exact MT_l7 hM | exact MT_r8 hM | exact MT_t8 hM | exact MT_l8 hM | exact MT_r9 hM | exact MT_t9 hM | exact MT_l9 hM | exact MT_r10 hM | exact MT_t10 hM | exact MT_l10 hM)) (by first | exact MT_0 hM | exact MT_now hM | exact MT_bt hM | exact MT_bl hM | exact MT_r0 hM | exact MT_t0 hM | exact MT_l0 hM | exact MT_r1 hM | exact MT_t1 hM | exact MT_l1 hM | exact MT_r2 hM | exact MT_t2 hM | exact MT_l2 hM | exact MT_r3 hM | exact MT_t3 hM | exact MT_l3 hM | exact MT_r4 hM | exact MT_t4 hM | exact MT_l4 hM | exact MT_r5 hM | exact MT_t5 hM | exact MT_l5 hM | exact MT_r6 hM | exact MT_t6 hM | exact MT_l6 hM | exact MT_r7 hM | exact MT_t7 hM | exact MT_l7 hM | exact MT_r8 hM | exact MT_t8 hM | exact MT_l8 hM | exact MT_r9 hM | exact MT_t9 hM | exact MT_l9 hM | exact MT_r10 hM | exact MT_t10 hM | exact MT_l10 hM) (by first | omega | exact hc _ _ | exact t1 _ _ | exact bi_rg _ | exact zrg _) (by first | omega | exact hc _ _ | exact t1 _ _ | exact bi_rg _ | exact zrg _) (by omega) (gw_il2 at265_29 (gw_iadd at265_30 (gw_callP3 at265_31 (m_depthAt hM t1 t2 tW (mhA_rg hV hp15) (by omega)) (by omega) (Nat.le_of_ble_eq_true rfl) (gw_goto at265_34 (gw_ri at265_38 am_r265.2.1 ?_))))))))))
    first
    | (have hh : mhA c 200000 a = true := by first | assumption | (simp [*]; done)
       have hh2 : inr s 0 1000000 = true := by first | assumption | (simp [*]; done)
       exact Or.inl ⟨hh, hh2, by first | rfl | simp only [mhA_o t0, mbg_o t0, men_o t0, mln_o t0, mcl_o t0, mkd_o t0, mct_o t0, mrc_o t0, mcn_o t0, mrq_o t0, mno_o t0, mro_o t0, mfo_o t0], rfl⟩)
    | (have hh : mhA c 200000 a = true := by first | assumption | (simp [*]; done)
       exact Or.inr (Or.inl ⟨hh, by first | assumption | (simp [*]; done), rfl, rfl⟩))
    | exact Or.inr (Or.inr ⟨by first | assumption | (simp [*]; done), rfl, rfl⟩)
  · show gw _ _ _ _ _ (gi _ :: _) _ _
    refine gw_zeq at265_18 (by first | omega | exact hc _ _ | exact t1 _ _ | exact bi_rg _ | exact zrg _) (fun q18 => ?_) (fun q18 => absurd q18 (by decide))
    refine gw_const at265_37 (gw_ri at265_38 am_r265.2.1 ?_)
    first
    | (have hh : mhA c 200000 a = true := by first | assumption | (simp [*]; done)
       have hh2 : inr s 0 1000000 = true := by first | assumption | (simp [*]; done)
       exact Or.inl ⟨hh, hh2, by first | rfl | simp only [mhA_o t0, mbg_o t0, men_o t0, mln_o t0, mcl_o t0, mkd_o t0, mct_o t0, mrc_o t0, mcn_o t0, mrq_o t0, mno_o t0, mro_o t0, mfo_o t0], rfl⟩)
    | (have hh : mhA c 200000 a = true := by first | assumption | (simp [*]; done)
       exact Or.inr (Or.inl ⟨hh, by first | assumption | (simp [*]; done), rfl, rfl⟩))
    | exact Or.inr (Or.inr ⟨by first | assumption | (simp [*]; done), rfl, rfl⟩)
  · show gw _ _ _ _ _ (gi _ :: _) _ _
    refine gw_zeq at265_18 (by first | omega | exact hc _ _ | exact t1 _ _ | exact bi_rg _ | exact zrg _) (fun q18 => ?_) (fun q18 => absurd q18 (by decide))
    refine gw_const at265_37 (gw_ri at265_38 am_r265.2.1 ?_)
    first
    | (have hh : mhA c 200000 a = true := by first | assumption | (simp [*]; done)
       have hh2 : inr s 0 1000000 = true := by first | assumption | (simp [*]; done)
       exact Or.inl ⟨hh, hh2, by first | rfl | simp only [mhA_o t0, mbg_o t0, men_o t0, mln_o t0, mcl_o t0, mkd_o t0, mct_o t0, mrc_o t0, mcn_o t0, mrq_o t0, mno_o t0, mro_o t0, mfo_o t0], rfl⟩)
    | (have hh : mhA c 200000 a = true := by first | assumption | (simp [*]; done)
       exact Or.inr (Or.inl ⟨hh, by first | assumption | (simp [*]; done), rfl, rfl⟩))
    | exact Or.inr (Or.inr ⟨by first | assumption | (simp [*]; done), rfl, rfl⟩)
set_option maxHeartbeats 1000000 in
theorem m_x_secondsToDepth {g : Nat} {T : gT} {c J : gC} (hM : MT T 200000) (hc : RG c) (hV : NW c 200000) {a : Int} (ha : -2147483648 ≤ a ∧ a < 2147483648) {p : Int} (hp : -2147483648 ≤ p ∧ p < 2147483648) {B : Int} (hW : WW c 200000 B) (hB : B ≤ 900000000) : gE g 263 3 [.ref 500001, gi a, gi p] (gm T c J) (fun o M1 => (mhA c 200000 a = true ∧ inr p 0 2000 = true ∧ o = .inl (some (gi (if 1000000 < mfs (tw c 0) a p then -1 else mfs (tw c 0) a p))) ∧ M1 = gm T (tw c 0) J) ∨ (mhA c 200000 a = true ∧ inr p 0 2000 = false ∧ o = .inl (some (gi 0)) ∧ M1 = gm T (tw c 2) J) ∨ (mhA c 200000 a = false ∧ o = .inl (some (gi 0)) ∧ M1 = gm T (tw c 1) J)) := by
  have t1 : RG (tw c 0) := tw_RG hc (by decide)
  have t0 : tw c 0 200000 = c 200000 := tw_k (by decide)
  have t2 : NW (tw c 0) 200000 := NW_of hV t0
  have v0 := hV.1.1
  have v1 := hV.1.2
  have tW : WW (tw c 0) 200000 B := WW_of hW t0
  have w1 := hW.1
  have w2 := hW.2.1
  have w3 := hW.2.2.1
  have t5 : tw c 0 200000 5 = c 200000 5 := by rw [t0]
  refine gE_mk am_r263 rfl (Or.inr ⟨_, rfl, (by first | exact MT_0 hM | exact MT_now hM | exact MT_bt hM | exact MT_bl hM | exact MT_r0 hM | exact MT_t0 hM | exact MT_l0 hM | exact MT_r1 hM | exact MT_t1 hM | exact MT_l1 hM | exact MT_r2 hM | exact MT_t2 hM | exact MT_l2 hM | exact MT_r3 hM | exact MT_t3 hM | exact MT_l3 hM | exact MT_r4 hM | exact MT_t4 hM | exact MT_l4 hM | exact MT_r5 hM | exact MT_t5 hM | exact MT_l5 hM | exact MT_r6 hM | exact MT_t6 hM | exact MT_l6 hM | exact MT_r7 hM | exact MT_t7 hM | exact MT_l7 hM | exact MT_r8 hM | exact MT_t8 hM | exact MT_l8 hM | exact MT_r9 hM | exact MT_t9 hM | exact MT_l9 hM | exact MT_r10 hM | exact MT_t10 hM | exact MT_l10 hM)⟩) (fun d hd => ?_)
  show gw d g 263 0 [.ref 500001, gi a, gi p, am_U] [] _ _
  refine gw_al0 at263_0 (gw_al0 at263_1 (gw_il1 at263_2 (gw_callP2 at263_3 (m_isArc hM hc hV (by omega)) (by omega) (Nat.le_of_ble_eq_true rfl) (gw_il2 at263_6 (gw_callP1 at263_7 (m_isDepth (by omega)) (by omega) (Nat.le_of_ble_eq_true rfl) ?_)))))
  refine gw_call3 at263_10 (m_pas2 hM hc (p := mhA c 200000 a) (q := inr p 0 2000)) (by omega) (Nat.le_of_ble_eq_true rfl) (fun o M1 q10 => ?_)
  rcases q10 with ⟨hp10, hq10, rfl, rfl⟩ | ⟨hp10, hq10, rfl, rfl⟩ | ⟨hp10, rfl, rfl⟩
  · show gw _ _ _ _ _ (gi _ :: _) _ _
    refine gw_zne at263_13 (by first | omega | exact hc _ _ | exact t1 _ _ | exact bi_rg _ | exact zrg _) (fun q13 => ?_) (fun q13 => absurd q13 (by decide))
    refine gw_al0 at263_18 (gw_il1 at263_19 (gw_il2 at263_20 (gw_callP3 at263_21 (m_secondsFor hM t1 t2 tW (by omega) (mhA_rg hV hp10) (inr_t.mp hq10)) (by omega) (Nat.le_of_ble_eq_true rfl) ?_)))
    have hf := (mfs_spec (a := a) (p := p) tW).1
    refine gw_is3 at263_24 (h := (gw_il3 at263_25 (gw_ldc (z := 1000000) at263_26 (by decide) ?_)))
    refine gw_cle at263_28 (by first | omega | exact hc _ _ | exact t1 _ _ | exact bi_rg _ | exact zrg _) (by first | omega | exact hc _ _ | exact t1 _ _ | exact bi_rg _ | exact zrg _) (fun q28 => ?_) (fun q28 => ?_)
    · refine gw_il3 at263_35 (gw_ri at263_36 am_r263.2.1 ?_)
      first | exact Or.inl ⟨by first | assumption | (simp [*]; done), by first | assumption | (simp [*]; done), by first | (rw [if_pos (by omega)]; done) | (rw [if_neg (by omega)]; done), rfl⟩ | exact Or.inr (Or.inl ⟨by first | assumption | (simp [*]; done), by first | assumption | (simp [*]; done), rfl, rfl⟩) | exact Or.inr (Or.inr ⟨by first | assumption | (simp [*]; done), rfl, rfl⟩)
    · refine gw_const at263_31 (gw_goto at263_32 (gw_ri at263_36 am_r263.2.1 ?_))
      first | exact Or.inl ⟨by first | assumption | (simp [*]; done), by first | assumption | (simp [*]; done), by first | (rw [if_pos (by omega)]; done) | (rw [if_neg (by omega)]; done), rfl⟩ | exact Or.inr (Or.inl ⟨by first | assumption | (simp [*]; done), by first | assumption | (simp [*]; done), rfl, rfl⟩) | exact Or.inr (Or.inr ⟨by first | assumption | (simp [*]; done), rfl, rfl⟩)
  · show gw _ _ _ _ _ (gi _ :: _) _ _
    refine gw_zne at263_13 (by first | omega | exact hc _ _ | exact t1 _ _ | exact bi_rg _ | exact zrg _) (fun q13 => absurd q13 (by decide)) (fun q13 => ?_)
    refine gw_const at263_16 (gw_ri at263_17 am_r263.2.1 ?_)
    first | exact Or.inl ⟨by first | assumption | (simp [*]; done), by first | assumption | (simp [*]; done), by first | (rw [if_pos (by omega)]; done) | (rw [if_neg (by omega)]; done), rfl⟩ | exact Or.inr (Or.inl ⟨by first | assumption | (simp [*]; done), by first | assumption | (simp [*]; done), rfl, rfl⟩) | exact Or.inr (Or.inr ⟨by first | assumption | (simp [*]; done), rfl, rfl⟩)
  · show gw _ _ _ _ _ (gi _ :: _) _ _
    refine gw_zne at263_13 (by first | omega | exact hc _ _ | exact t1 _ _ | exact bi_rg _ | exact zrg _) (fun q13 => absurd q13 (by decide)) (fun q13 => ?_)
    refine gw_const at263_16 (gw_ri at263_17 am_r263.2.1 ?_)
    first | exact Or.inl ⟨by first | assumption | (simp [*]; done), by first | assumption | (simp [*]; done), by first | (rw [if_pos (by omega)]; done) | (rw [if_neg (by omega)]; done), rfl⟩ | exact Or.inr (Or.inl ⟨by first | assumption | (simp [*]; done), by first | assumption | (simp [*]; done), rfl, rfl⟩) | exact Or.inr (Or.inr ⟨by first | assumption | (simp [*]; done), rfl, rfl⟩)
theorem dbf_a {c : gC} {b : Nat} {q t a k : Int} (h : tb q a = false) : dbf c b q t a k = k := if_neg fun x => by rw [h] at x; exact absurd x.1 (by decide)
theorem dbf_b {c : gC} {b : Nat} {q t a k : Int} (h : tb q a = true) (h2 : k = -1 ∨ msn c b k t < msn c b a t) : dbf c b q t a k = a := if_pos ⟨h, h2⟩
theorem dbf_c {c : gC} {b : Nat} {q t a k : Int} (h : ¬ k = -1) (h2 : ¬ msn c b k t < msn c b a t) : dbf c b q t a k = k := if_neg fun x => x.2.elim h h2
set_option maxHeartbeats 1000000 in
theorem m_x_deepestArc {g : Nat} {T : gT} {c J : gC} (hM : MT T 200000) (hc : RG c) (hV : NW c 200000) {z : Int} (hz : -2147483648 ≤ z ∧ z < 2147483648) {B : Int} (hW : WW c 200000 B) (hB : B ≤ 900000000) : gE g 257 3 [.ref 500001, gi z] (gm T c J) (fun o M1 => (inr z 1 3 = true ∧ o = .inl (some (gi (itI (dbf (tw c 0) 200000 (mrq (tw c 0) 200000 z) ((tw c 0) 200000 5)) (-1) 24))) ∧ M1 = gm T (tw c 0) J) ∨ (inr z 1 3 = false ∧ o = .inl (some (gi 0)) ∧ M1 = gm T (tw c 1) J)) := by
  have t1 : RG (tw c 0) := tw_RG hc (by decide)
  have t0 : tw c 0 200000 = c 200000 := tw_k (by decide)
  have t2 : NW (tw c 0) 200000 := NW_of hV t0
  have v0 := hV.1.1
  have v1 := hV.1.2
  have tW : WW (tw c 0) 200000 B := WW_of hW t0
  have w1 := hW.1
  have w2 := hW.2.1
  have w3 := hW.2.2.1
  have t5 : tw c 0 200000 5 = c 200000 5 := by rw [t0]
  refine gE_mk am_r257 rfl (Or.inr ⟨_, rfl, (by first | exact MT_0 hM | exact MT_now hM | exact MT_bt hM | exact MT_bl hM | exact MT_r0 hM | exact MT_t0 hM | exact MT_l0 hM | exact MT_r1 hM | exact MT_t1 hM | exact MT_l1 hM | exact MT_r2 hM | exact MT_t2 hM | exact MT_l2 hM | exact MT_r3 hM | exact MT_t3 hM | exact MT_l3 hM | exact MT_r4 hM | exact MT_t4 hM | exact MT_l4 hM | exact MT_r5 hM | exact MT_t5 hM | exact MT_l5 hM | exact MT_r6 hM | exact MT_t6 hM | exact MT_l6 hM | exact MT_r7 hM | exact MT_t7 hM | exact MT_l7 hM | exact MT_r8 hM | exact MT_t8 hM | exact MT_l8 hM | exact MT_r9 hM | exact MT_t9 hM | exact MT_l9 hM | exact MT_r10 hM | exact MT_t10 hM | exact MT_l10 hM)⟩) (fun d hd => ?_)
  show gw d g 257 0 [.ref 500001, gi z, am_U, am_U] [] _ _
  refine gw_al0 at257_0 (gw_il1 at257_1 (gw_callP1 at257_2 (m_isClass (by omega)) (by omega) (Nat.le_of_ble_eq_true rfl) ?_))
  refine gw_call2 at257_5 (m_pas1 hM hc (p := inr z 1 3)) (by omega) (Nat.le_of_ble_eq_true rfl) (fun o M1 q5 => ?_)
  rcases q5 with ⟨hp5, rfl, rfl⟩ | ⟨hp5, rfl, rfl⟩
  · show gw _ _ _ _ _ (gi _ :: _) _ _
    refine gw_zne at257_8 (by first | omega | exact hc _ _ | exact t1 _ _ | exact bi_rg _ | exact zrg _ | (unfold mrq; exact mskI_rg _ _) | (have := msn_rg (a := i) (t := tw c 0 200000 5) tW (by omega); have := msn_rg (a := itI (dbf (tw c 0) 200000 (mrq (tw c 0) 200000 z) ((tw c 0) 200000 5)) (-1) i) (t := tw c 0 200000 5) tW (by omega); omega)) (fun q8 => ?_) (fun q8 => absurd q8 (by decide))
    refine gw_const at257_13 (gw_is2 at257_14 (h := (gw_const at257_15 (gw_is3 at257_16 (h := ?_)))))
    have lp17 : ∀ i : Int, 0 ≤ i → i ≤ 24 → gw d g 257 17 [.ref 500001, gi z, gi (itI (dbf (tw c 0) 200000 (mrq (tw c 0) 200000 z) ((tw c 0) 200000 5)) (-1) i), gi i] [] (gm T (tw c 0) J) (fun o M1 => (inr z 1 3 = true ∧ o = .inl (some (gi (itI (dbf (tw c 0) 200000 (mrq (tw c 0) 200000 z) ((tw c 0) 200000 5)) (-1) 24))) ∧ M1 = gm T (tw c 0) J) ∨ (inr z 1 3 = false ∧ o = .inl (some (gi 0)) ∧ M1 = gm T (tw c 1) J)) := by
      refine ind_up 24 ?_
      intro i hi0 hi1 ih
      have hk := dbf_rg (c := tw c 0) (b := 200000) (q := (mrq (tw c 0) 200000 z)) (t := tw c 0 200000 5) hi0
      refine gw_il3 at257_17 ?_
      refine gw_bip at257_18 (by decide) ?_
      refine gw_cge at257_20 (by first | omega | exact hc _ _ | exact t1 _ _ | exact bi_rg _ | exact zrg _ | (unfold mrq; exact mskI_rg _ _) | (have := msn_rg (a := i) (t := tw c 0 200000 5) tW (by omega); have := msn_rg (a := itI (dbf (tw c 0) 200000 (mrq (tw c 0) 200000 z) ((tw c 0) 200000 5)) (-1) i) (t := tw c 0 200000 5) tW (by omega); omega)) (by first | omega | exact hc _ _ | exact t1 _ _ | exact bi_rg _ | exact zrg _ | (unfold mrq; exact mskI_rg _ _) | (have := msn_rg (a := i) (t := tw c 0 200000 5) tW (by omega); have := msn_rg (a := itI (dbf (tw c 0) 200000 (mrq (tw c 0) 200000 z) ((tw c 0) 200000 5)) (-1) i) (t := tw c 0 200000 5) tW (by omega); omega)) (fun q20 => ?_) (fun q20 => ?_)
      · refine gw_il2 at257_61 (gw_ri at257_62 am_r257.2.1 ?_)
        first
        | exact Or.inr ⟨by first | assumption | (simp [*]; done), rfl, rfl⟩
        | (have e : i = 24 := by omega
           subst e
           exact Or.inl ⟨by first | assumption | (simp [*]; done), rfl, rfl⟩)
      · refine gw_al0 at257_23 (gw_il1 at257_24 (gw_callP2 at257_25 (m_rqF hM t1 t2 hz) (by omega) (Nat.le_of_ble_eq_true rfl) (gw_il3 at257_28 (gw_callP2 at257_29 (m_hasBit) (by omega) (Nat.le_of_ble_eq_true rfl) ?_))))
        refine gw_beq at257_32 (fun q32 => ?_) (fun q32 => ?_)
        · refine gw_inc3 at257_55 (h := (gw_goto at257_58 ?_))
          have h8 := ih (i + 1) (by omega) (by omega)
          rw [itI_s _ _ hi0] at h8
          first | (rw [dbf_a q32] at h8; exact h8) | (rw [dbf_b q32 (by first | exact Or.inl (by assumption) | exact Or.inr (by omega))] at h8; exact h8) | (rw [dbf_c (by assumption) (by omega)] at h8; exact h8)
        · refine gw_il2 at257_35 (gw_const at257_36 ?_)
          refine gw_ceq at257_37 (by first | omega | exact hc _ _ | exact t1 _ _ | exact bi_rg _ | exact zrg _ | (unfold mrq; exact mskI_rg _ _) | (have := msn_rg (a := i) (t := tw c 0 200000 5) tW (by omega); have := msn_rg (a := itI (dbf (tw c 0) 200000 (mrq (tw c 0) 200000 z) ((tw c 0) 200000 5)) (-1) i) (t := tw c 0 200000 5) tW (by omega); omega)) (by first | omega | exact hc _ _ | exact t1 _ _ | exact bi_rg _ | exact zrg _ | (unfold mrq; exact mskI_rg _ _) | (have := msn_rg (a := i) (t := tw c 0 200000 5) tW (by omega); have := msn_rg (a := itI (dbf (tw c 0) 200000 (mrq (tw c 0) 200000 z) ((tw c 0) 200000 5)) (-1) i) (t := tw c 0 200000 5) tW (by omega); omega)) (fun q37 => ?_) (fun q37 => ?_)
          · refine gw_il3 at257_53 (gw_is2 at257_54 (h := (gw_inc3 at257_55 (h := (gw_goto at257_58 ?_)))))
            have h8 := ih (i + 1) (by omega) (by omega)
            rw [itI_s _ _ hi0] at h8
            first | (rw [dbf_a q32] at h8; exact h8) | (rw [dbf_b q32 (by first | exact Or.inl (by assumption) | exact Or.inr (by omega))] at h8; exact h8) | (rw [dbf_c (by assumption) (by omega)] at h8; exact h8)
          · refine gw_al0 at257_40 (gw_il3 at257_41 (gw_callP2 at257_42 (m_depthNow hM t1 t2 tW (by omega)) (by omega) (Nat.le_of_ble_eq_true rfl) (gw_al0 at257_45 (gw_il2 at257_46 (gw_callP2 at257_47 (m_depthNow hM t1 t2 tW (by omega)) (by omega) (Nat.le_of_ble_eq_true rfl) ?_)))))
            refine gw_cle at257_50 (by first | omega | exact hc _ _ | exact t1 _ _ | exact bi_rg _ | exact zrg _ | (unfold mrq; exact mskI_rg _ _) | (have := msn_rg (a := i) (t := tw c 0 200000 5) tW (by omega); have := msn_rg (a := itI (dbf (tw c 0) 200000 (mrq (tw c 0) 200000 z) ((tw c 0) 200000 5)) (-1) i) (t := tw c 0 200000 5) tW (by omega); omega)) (by first | omega | exact hc _ _ | exact t1 _ _ | exact bi_rg _ | exact zrg _ | (unfold mrq; exact mskI_rg _ _) | (have := msn_rg (a := i) (t := tw c 0 200000 5) tW (by omega); have := msn_rg (a := itI (dbf (tw c 0) 200000 (mrq (tw c 0) 200000 z) ((tw c 0) 200000 5)) (-1) i) (t := tw c 0 200000 5) tW (by omega); omega)) (fun q50 => ?_) (fun q50 => ?_)
            · refine gw_inc3 at257_55 (h := (gw_goto at257_58 ?_))
              have h8 := ih (i + 1) (by omega) (by omega)
              rw [itI_s _ _ hi0] at h8
              first | (rw [dbf_a q32] at h8; exact h8) | (rw [dbf_b q32 (by first | exact Or.inl (by assumption) | exact Or.inr (by omega))] at h8; exact h8) | (rw [dbf_c (by assumption) (by omega)] at h8; exact h8)
            · refine gw_il3 at257_53 (gw_is2 at257_54 (h := (gw_inc3 at257_55 (h := (gw_goto at257_58 ?_)))))
              have h8 := ih (i + 1) (by omega) (by omega)
              rw [itI_s _ _ hi0] at h8
              first | (rw [dbf_a q32] at h8; exact h8) | (rw [dbf_b q32 (by first | exact Or.inl (by assumption) | exact Or.inr (by omega))] at h8; exact h8) | (rw [dbf_c (by assumption) (by omega)] at h8; exact h8)
    exact lp17 0 (by omega) (by omega)
  · show gw _ _ _ _ _ (gi _ :: _) _ _
    refine gw_zne at257_8 (by first | omega | exact hc _ _ | exact t1 _ _ | exact bi_rg _ | exact zrg _ | (unfold mrq; exact mskI_rg _ _) | (have := msn_rg (a := i) (t := tw c 0 200000 5) tW (by omega); have := msn_rg (a := itI (dbf (tw c 0) 200000 (mrq (tw c 0) 200000 z) ((tw c 0) 200000 5)) (-1) i) (t := tw c 0 200000 5) tW (by omega); omega)) (fun q8 => absurd q8 (by decide)) (fun q8 => ?_)
    refine gw_const at257_11 (gw_ri at257_12 am_r257.2.1 ?_)
    first
    | exact Or.inr ⟨by first | assumption | (simp [*]; done), rfl, rfl⟩
    | (have e : i = 24 := by omega
       subst e
       exact Or.inl ⟨by first | assumption | (simp [*]; done), rfl, rfl⟩)
set_option maxHeartbeats 1000000 in
theorem m_x_deepestArcAfter {g : Nat} {T : gT} {c J : gC} (hM : MT T 200000) (hc : RG c) (hV : NW c 200000) {z : Int} (hz : -2147483648 ≤ z ∧ z < 2147483648) {s : Int} (hs : -2147483648 ≤ s ∧ s < 2147483648) {B : Int} (hW : WW c 200000 B) (hB : B ≤ 900000000) : gE g 288 3 [.ref 500001, gi z, gi s] (gm T c J) (fun o M1 => ((inr z 1 3 && inr s 0 1000000) = true ∧ o = .inl (some (gi (itI (dbf (tw c 0) 200000 (mrq (tw c 0) 200000 z) ((tw c 0) 200000 5 + s)) (-1) 24))) ∧ M1 = gm T (tw c 0) J) ∨ ((inr z 1 3 && inr s 0 1000000) = false ∧ o = .inl (some (gi 0)) ∧ M1 = gm T (tw c 1) J)) := by
  have t1 : RG (tw c 0) := tw_RG hc (by decide)
  have t0 : tw c 0 200000 = c 200000 := tw_k (by decide)
  have t2 : NW (tw c 0) 200000 := NW_of hV t0
  have v0 := hV.1.1
  have v1 := hV.1.2
  have tW : WW (tw c 0) 200000 B := WW_of hW t0
  have w1 := hW.1
  have w2 := hW.2.1
  have w3 := hW.2.2.1
  have t5 : tw c 0 200000 5 = c 200000 5 := by rw [t0]
  refine gE_mk am_r288 rfl (Or.inr ⟨_, rfl, (by first | exact MT_0 hM | exact MT_now hM | exact MT_bt hM | exact MT_bl hM | exact MT_r0 hM | exact MT_t0 hM | exact MT_l0 hM | exact MT_r1 hM | exact MT_t1 hM | exact MT_l1 hM | exact MT_r2 hM | exact MT_t2 hM | exact MT_l2 hM | exact MT_r3 hM | exact MT_t3 hM | exact MT_l3 hM | exact MT_r4 hM | exact MT_t4 hM | exact MT_l4 hM | exact MT_r5 hM | exact MT_t5 hM | exact MT_l5 hM | exact MT_r6 hM | exact MT_t6 hM | exact MT_l6 hM | exact MT_r7 hM | exact MT_t7 hM | exact MT_l7 hM | exact MT_r8 hM | exact MT_t8 hM | exact MT_l8 hM | exact MT_r9 hM | exact MT_t9 hM | exact MT_l9 hM | exact MT_r10 hM | exact MT_t10 hM | exact MT_l10 hM)⟩) (fun d hd => ?_)
  show gw d g 288 0 [.ref 500001, gi z, gi s, am_U, am_U, am_U, am_U] [] _ _
  refine gw_al0 at288_0 (gw_il1 at288_1 (gw_callP1 at288_2 (m_isClass (by omega)) (by omega) (Nat.le_of_ble_eq_true rfl) ?_))
  refine gw_beq at288_5 (fun q5 => ?_) (fun q5 => ?_)
  · refine gw_const at288_24 ?_
    refine gw_call2 at288_25 (m_pas1 hM hc (p := false)) (by omega) (Nat.le_of_ble_eq_true rfl) (fun o M1 q25 => ?_)
    rcases q25 with ⟨hp, -, -⟩ | ⟨-, rfl, rfl⟩
    · cases hp
    · show gw _ _ _ _ _ (gi _ :: _) _ _
      refine gw_zne at288_28 (by first | omega | exact hc _ _ | exact t1 _ _ | exact bi_rg _ | exact zrg _ | (unfold mrq; exact mskI_rg _ _) | (have := msn_rg (a := i) (t := tw c 0 200000 5 + s) tW (by omega); have := msn_rg (a := itI (dbf (tw c 0) 200000 (mrq (tw c 0) 200000 z) ((tw c 0) 200000 5 + s)) (-1) i) (t := tw c 0 200000 5 + s) tW (by omega); omega)) (fun q28 => absurd q28 (by decide)) (fun q28 => ?_)
      refine gw_const at288_31 (gw_ri at288_32 am_r288.2.1 ?_)
      first
      | exact Or.inr ⟨by first | assumption | (simp [*]; done), rfl, rfl⟩
      | (have e : i = 24 := by omega
         subst e
         exact Or.inl ⟨by first | assumption | (simp [*]; done), rfl, rfl⟩)
  · refine gw_il2 at288_8 (gw_i2l at288_9 (by first | omega | exact hc _ _ | exact t1 _ _ | exact bi_rg _ | exact zrg _ | (unfold mrq; exact mskI_rg _ _) | (have := msn_rg (a := i) (t := tw c 0 200000 5 + s) tW (by omega); have := msn_rg (a := itI (dbf (tw c 0) 200000 (mrq (tw c 0) 200000 z) ((tw c 0) 200000 5 + s)) (-1) i) (t := tw c 0 200000 5 + s) tW (by omega); omega)) (gw_lconst (z := 0) at288_10 rfl (gw_ldc2 (z := 1000000) at288_11 (by decide) (gw_callP3 at288_14 (m_in (by omega) (by omega) (by omega)) (by omega) (Nat.le_of_ble_eq_true rfl) ?_))))
    refine gw_beq at288_17 (fun q17 => ?_) (fun q17 => ?_)
    · refine gw_const at288_24 ?_
      refine gw_call2 at288_25 (m_pas1 hM hc (p := false)) (by omega) (Nat.le_of_ble_eq_true rfl) (fun o M1 q25 => ?_)
      rcases q25 with ⟨hp, -, -⟩ | ⟨-, rfl, rfl⟩
      · cases hp
      · show gw _ _ _ _ _ (gi _ :: _) _ _
        refine gw_zne at288_28 (by first | omega | exact hc _ _ | exact t1 _ _ | exact bi_rg _ | exact zrg _ | (unfold mrq; exact mskI_rg _ _) | (have := msn_rg (a := i) (t := tw c 0 200000 5 + s) tW (by omega); have := msn_rg (a := itI (dbf (tw c 0) 200000 (mrq (tw c 0) 200000 z) ((tw c 0) 200000 5 + s)) (-1) i) (t := tw c 0 200000 5 + s) tW (by omega); omega)) (fun q28 => absurd q28 (by decide)) (fun q28 => ?_)
        refine gw_const at288_31 (gw_ri at288_32 am_r288.2.1 ?_)
        first
        | exact Or.inr ⟨by first | assumption | (simp [*]; done), rfl, rfl⟩
        | (have e : i = 24 := by omega
           subst e
           exact Or.inl ⟨by first | assumption | (simp [*]; done), rfl, rfl⟩)
    · refine gw_const at288_20 (gw_goto at288_21 ?_)
      refine gw_call2 at288_25 (m_pas1 hM hc (p := true)) (by omega) (Nat.le_of_ble_eq_true rfl) (fun o M1 q25 => ?_)
      rcases q25 with ⟨-, rfl, rfl⟩ | ⟨hp, -, -⟩
      · show gw _ _ _ _ _ (gi _ :: _) _ _
        refine gw_zne at288_28 (by first | omega | exact hc _ _ | exact t1 _ _ | exact bi_rg _ | exact zrg _ | (unfold mrq; exact mskI_rg _ _) | (have := msn_rg (a := i) (t := tw c 0 200000 5 + s) tW (by omega); have := msn_rg (a := itI (dbf (tw c 0) 200000 (mrq (tw c 0) 200000 z) ((tw c 0) 200000 5 + s)) (-1) i) (t := tw c 0 200000 5 + s) tW (by omega); omega)) (fun q28 => ?_) (fun q28 => absurd q28 (by decide))
        have hs9 := inr_t.mp q17
        refine gw_al0 at288_33 (gw_il1 at288_34 (gw_callP2 at288_35 (m_rqF hM t1 t2 hz) (by omega) (Nat.le_of_ble_eq_true rfl) (gw_is3 at288_38 (h := (gw_al0 at288_39 (gw_gr at288_40 (by first | exact MT_0 hM | exact MT_now hM | exact MT_bt hM | exact MT_bl hM | exact MT_r0 hM | exact MT_t0 hM | exact MT_l0 hM | exact MT_r1 hM | exact MT_t1 hM | exact MT_l1 hM | exact MT_r2 hM | exact MT_t2 hM | exact MT_l2 hM | exact MT_r3 hM | exact MT_t3 hM | exact MT_l3 hM | exact MT_r4 hM | exact MT_t4 hM | exact MT_l4 hM | exact MT_r5 hM | exact MT_t5 hM | exact MT_l5 hM | exact MT_r6 hM | exact MT_t6 hM | exact MT_l6 hM | exact MT_r7 hM | exact MT_t7 hM | exact MT_l7 hM | exact MT_r8 hM | exact MT_t8 hM | exact MT_l8 hM | exact MT_r9 hM | exact MT_t9 hM | exact MT_l9 hM | exact MT_r10 hM | exact MT_t10 hM | exact MT_l10 hM) (by first | exact MT_0 hM | exact MT_now hM | exact MT_bt hM | exact MT_bl hM | exact MT_r0 hM | exact MT_t0 hM | exact MT_l0 hM | exact MT_r1 hM | exact MT_t1 hM | exact MT_l1 hM | exact MT_r2 hM | exact MT_t2 hM | exact MT_l2 hM | exact MT_r3 hM | exact MT_t3 hM | exact MT_l3 hM | exact MT_r4 hM | exact MT_t4 hM | exact MT_l4 hM | exact MT_r5 hM | exact MT_t5 hM | exact MT_l5 hM | exact MT_r6 hM | exact MT_t6 hM | exact MT_l6 hM | exact MT_r7 hM | exact MT_t7 hM | exact MT_l7 hM | exact MT_r8 hM | exact MT_t8 hM | exact MT_l8 hM | exact MT_r9 hM | exact MT_t9 hM | exact MT_l9 hM | exact MT_r10 hM | exact MT_t10 hM | exact MT_l10 hM) (gw_const at288_43 (gw_ia at288_44 (by first | exact Or.inl (by first | exact MT_0 hM | exact MT_now hM | exact MT_bt hM | exact MT_bl hM | exact MT_r0 hM | exact MT_t0 hM | exact MT_l0 hM | exact MT_r1 hM | exact MT_t1 hM | exact MT_l1 hM | exact MT_r2 hM | exact MT_t2 hM | exact MT_l2 hM | exact MT_r3 hM | exact MT_t3 hM | exact MT_l3 hM | exact MT_r4 hM | exact MT_t4 hM | exact MT_l4 hM | exact MT_r5 hM | exact MT_t5 hM | exact MT_l5 hM | exact MT_r6 hM | exact MT_t6 hM | exact MT_l6 hM | exact MT_r7 hM | exact MT_t7 hM | exact MT_l7 hM | exact MT_r8 hM | exact MT_t8 hM | exact MT_l8 hM | exact MT_r9 hM | exact MT_t9 hM | exact MT_l9 hM | exact MT_r10 hM | exact MT_t10 hM | exact MT_l10 hM) | exact Or.inr (by first | exact MT_0 hM | exact MT_now hM | exact MT_bt hM | exact MT_bl hM | exact MT_r0 hM | exact MT_t0 hM | exact MT_l0 hM | exact MT_r1 hM | exact MT_t1 hM | exact MT_l1 hM | exact MT_r2 hM | exact MT_t2 hM | exact MT_l2 hM | exact MT_r3 hM | exact MT_t3 hM | exact MT_l3 hM | exact MT_r4 hM | exact MT_t4 hM | exact MT_l4 hM | exact MT_r5 hM | exact MT_t5 hM | exact MT_l5 hM | exact MT_r6 hM | exact MT_t6 hM | exact MT_l6 hM | exact MT_r7 hM | exact MT_t7 hM | exact MT_l7 hM | exact MT_r8 hM | exact MT_t8 hM | exact MT_l8 hM | exact MT_r9 hM | exact MT_t9 hM | exact MT_l9 hM | exact MT_r10 hM | exact MT_t10 hM | exact MT_l10 hM)) (by first | exact MT_0 hM | exact MT_now hM | exact MT_bt hM | exact MT_bl hM | exact MT_r0 hM | exact MT_t0 hM | exact MT_l0 hM | exact MT_r1 hM | exact MT_t1 hM | exact MT_l1 hM | exact MT_r2 hM | exact MT_t2 hM | exact MT_l2 hM | exact MT_r3 hM | exact MT_t3 hM | exact MT_l3 hM | exact MT_r4 hM | exact MT_t4 hM | exact MT_l4 hM | exact MT_r5 hM | exact MT_t5 hM | exact MT_l5 hM | exact MT_r6 hM | exact MT_t6 hM | exact MT_l6 hM | exact MT_r7 hM | exact MT_t7 hM | exact MT_l7 hM | exact MT_r8 hM | exact MT_t8 hM | exact MT_l8 hM | exact MT_r9 hM | exact MT_t9 hM | exact MT_l9 hM | exact MT_r10 hM | exact MT_t10 hM | exact MT_l10 hM) (by first | omega | exact hc _ _ | exact t1 _ _ | exact bi_rg _ | exact zrg _ | (unfold mrq; exact mskI_rg _ _) | (have := msn_rg (a := i) (t := tw c 0 200000 5 + s) tW (by omega); have := msn_rg (a := itI (dbf (tw c 0) 200000 (mrq (tw c 0) 200000 z) ((tw c 0) 200000 5 + s)) (-1) i) (t := tw c 0 200000 5 + s) tW (by omega); omega)) (by first | omega | exact hc _ _ | exact t1 _ _ | exact bi_rg _ | exact zrg _ | (unfold mrq; exact mskI_rg _ _) | (have := msn_rg (a := i) (t := tw c 0 200000 5 + s) tW (by omega); have := msn_rg (a := itI (dbf (tw c 0) 200000 (mrq (tw c 0) 200000 z) ((tw c 0) 200000 5 + s)) (-1) i) (t := tw c 0 200000 5 + s) tW (by omega); omega)) (by omega) (gw_il2 at288_45 (gw_iadd at288_46 (gw_is4 at288_47 (h := (gw_const at288_49 (gw_is5 at288_50 (h := (gw_const at288_52 (gw_is6 at288_53 (h := ?_))))))))))))))))))
        have lp55 : ∀ i : Int, 0 ≤ i → i ≤ 24 → gw d g 288 55 [.ref 500001, gi z, gi s, gi (mrq (tw c 0) 200000 z), gi ((tw c 0) 200000 5 + s), gi (itI (dbf (tw c 0) 200000 (mrq (tw c 0) 200000 z) ((tw c 0) 200000 5 + s)) (-1) i), gi i] [] (gm T (tw c 0) J) (fun o M1 => ((inr z 1 3 && inr s 0 1000000) = true ∧ o = .inl (some (gi (itI (dbf (tw c 0) 200000 (mrq (tw c 0) 200000 z) ((tw c 0) 200000 5 + s)) (-1) 24))) ∧ M1 = gm T (tw c 0) J) ∨ ((inr z 1 3 && inr s 0 1000000) = false ∧ o = .inl (some (gi 0)) ∧ M1 = gm T (tw c 1) J)) := by
          refine ind_up 24 ?_
          intro i hi0 hi1 ih
          have hk := dbf_rg (c := tw c 0) (b := 200000) (q := (mrq (tw c 0) 200000 z)) (t := tw c 0 200000 5 + s) hi0
          refine gw_il6 at288_55 ?_
          refine gw_bip at288_57 (by decide) ?_
          refine gw_cge at288_59 (by first | omega | exact hc _ _ | exact t1 _ _ | exact bi_rg _ | exact zrg _ | (unfold mrq; exact mskI_rg _ _) | (have := msn_rg (a := i) (t := tw c 0 200000 5 + s) tW (by omega); have := msn_rg (a := itI (dbf (tw c 0) 200000 (mrq (tw c 0) 200000 z) ((tw c 0) 200000 5 + s)) (-1) i) (t := tw c 0 200000 5 + s) tW (by omega); omega)) (by first | omega | exact hc _ _ | exact t1 _ _ | exact bi_rg _ | exact zrg _ | (unfold mrq; exact mskI_rg _ _) | (have := msn_rg (a := i) (t := tw c 0 200000 5 + s) tW (by omega); have := msn_rg (a := itI (dbf (tw c 0) 200000 (mrq (tw c 0) 200000 z) ((tw c 0) 200000 5 + s)) (-1) i) (t := tw c 0 200000 5 + s) tW (by omega); omega)) (fun q59 => ?_) (fun q59 => ?_)
          · refine gw_il5 at288_106 (gw_ri at288_108 am_r288.2.1 ?_)
            first
            | exact Or.inr ⟨by first | assumption | (simp [*]; done), rfl, rfl⟩
            | (have e : i = 24 := by omega
               subst e
               exact Or.inl ⟨by first | assumption | (simp [*]; done), rfl, rfl⟩)
          · refine gw_il3 at288_62 (gw_il6 at288_63 (gw_callP2 at288_65 (m_hasBit) (by omega) (Nat.le_of_ble_eq_true rfl) ?_))
            refine gw_beq at288_68 (fun q68 => ?_) (fun q68 => ?_)
            · refine gw_inc6 at288_100 (h := (gw_goto at288_103 ?_))
              have h8 := ih (i + 1) (by omega) (by omega)
              rw [itI_s _ _ hi0] at h8
              first | (rw [dbf_a q68] at h8; exact h8) | (rw [dbf_b q68 (by first | exact Or.inl (by assumption) | exact Or.inr (by omega))] at h8; exact h8) | (rw [dbf_c (by assumption) (by omega)] at h8; exact h8)
            · refine gw_il5 at288_71 (gw_const at288_73 ?_)
              refine gw_ceq at288_74 (by first | omega | exact hc _ _ | exact t1 _ _ | exact bi_rg _ | exact zrg _ | (unfold mrq; exact mskI_rg _ _) | (have := msn_rg (a := i) (t := tw c 0 200000 5 + s) tW (by omega); have := msn_rg (a := itI (dbf (tw c 0) 200000 (mrq (tw c 0) 200000 z) ((tw c 0) 200000 5 + s)) (-1) i) (t := tw c 0 200000 5 + s) tW (by omega); omega)) (by first | omega | exact hc _ _ | exact t1 _ _ | exact bi_rg _ | exact zrg _ | (unfold mrq; exact mskI_rg _ _) | (have := msn_rg (a := i) (t := tw c 0 200000 5 + s) tW (by omega); have := msn_rg (a := itI (dbf (tw c 0) 200000 (mrq (tw c 0) 200000 z) ((tw c 0) 200000 5 + s)) (-1) i) (t := tw c 0 200000 5 + s) tW (by omega); omega)) (fun q74 => ?_) (fun q74 => ?_)
              · refine gw_il6 at288_96 (gw_is5 at288_98 (h := (gw_inc6 at288_100 (h := (gw_goto at288_103 ?_)))))
                have h8 := ih (i + 1) (by omega) (by omega)
                rw [itI_s _ _ hi0] at h8
                first | (rw [dbf_a q68] at h8; exact h8) | (rw [dbf_b q68 (by first | exact Or.inl (by assumption) | exact Or.inr (by omega))] at h8; exact h8) | (rw [dbf_c (by assumption) (by omega)] at h8; exact h8)
              · refine gw_al0 at288_77 (gw_il6 at288_78 (gw_il4 at288_80 (gw_callP3 at288_82 (m_depthAt hM t1 t2 tW (by omega) (by omega)) (by omega) (Nat.le_of_ble_eq_true rfl) (gw_al0 at288_85 (gw_il5 at288_86 (gw_il4 at288_88 (gw_callP3 at288_90 (m_depthAt hM t1 t2 tW (by omega) (by omega)) (by omega) (Nat.le_of_ble_eq_true rfl) ?_)))))))
                refine gw_cle at288_93 (by first | omega | exact hc _ _ | exact t1 _ _ | exact bi_rg _ | exact zrg _ | (unfold mrq; exact mskI_rg _ _) | (have := msn_rg (a := i) (t := tw c 0 200000 5 + s) tW (by omega); have := msn_rg (a := itI (dbf (tw c 0) 200000 (mrq (tw c 0) 200000 z) ((tw c 0) 200000 5 + s)) (-1) i) (t := tw c 0 200000 5 + s) tW (by omega); omega)) (by first | omega | exact hc _ _ | exact t1 _ _ | exact bi_rg _ | exact zrg _ | (unfold mrq; exact mskI_rg _ _) | (have := msn_rg (a := i) (t := tw c 0 200000 5 + s) tW (by omega); have := msn_rg (a := itI (dbf (tw c 0) 200000 (mrq (tw c 0) 200000 z) ((tw c 0) 200000 5 + s)) (-1) i) (t := tw c 0 200000 5 + s) tW (by omega); omega)) (fun q93 => ?_) (fun q93 => ?_)
                · refine gw_inc6 at288_100 (h := (gw_goto at288_103 ?_))
                  have h8 := ih (i + 1) (by omega) (by omega)
                  rw [itI_s _ _ hi0] at h8
                  first | (rw [dbf_a q68] at h8; exact h8) | (rw [dbf_b q68 (by first | exact Or.inl (by assumption) | exact Or.inr (by omega))] at h8; exact h8) | (rw [dbf_c (by assumption) (by omega)] at h8; exact h8)
                · refine gw_il6 at288_96 (gw_is5 at288_98 (h := (gw_inc6 at288_100 (h := (gw_goto at288_103 ?_)))))
                  have h8 := ih (i + 1) (by omega) (by omega)
                  rw [itI_s _ _ hi0] at h8
                  first | (rw [dbf_a q68] at h8; exact h8) | (rw [dbf_b q68 (by first | exact Or.inl (by assumption) | exact Or.inr (by omega))] at h8; exact h8) | (rw [dbf_c (by assumption) (by omega)] at h8; exact h8)
        exact lp55 0 (by omega) (by omega)
      · cases hp
theorem mnf_t {c : gC} {b : Nat} {q a s : Int} (h : tb q a = true) : mnf c b q a s = s + msq c b a := if_pos h
theorem mnf_f {c : gC} {b : Nat} {q a s : Int} (h : tb q a = false) : mnf c b q a s = s := if_neg (by rw [h]; exact Bool.false_ne_true)
theorem mef_t {c : gC} {b : Nat} {q a s : Int} (h : tb q a = true) : mef c b q a s = s + msn c b a (c b 5) := by unfold mef; rw [if_pos h]
theorem mef_f {c : gC} {b : Nat} {q a s : Int} (h : tb q a = false) : mef c b q a s = s + 0 := by unfold mef; rw [if_neg (by rw [h]; exact Bool.false_ne_true)]
theorem muf_t {c : gC} {b : Nat} {a s : Int} (h : tb s a = true) (h2 : 0 < c b (136 + 3 * a + 2)) : muf c b a s = clr s a := if_pos ⟨h, h2⟩
theorem muf_f {c : gC} {b : Nat} {a s : Int} (h : tb s a = false) : muf c b a s = s := if_neg fun x => by rw [h] at x; exact absurd x.1 (by decide)
theorem muf_g {c : gC} {b : Nat} {a s : Int} (h : ¬ 0 < c b (136 + 3 * a + 2)) : muf c b a s = s := if_neg fun x => h x.2
set_option maxHeartbeats 1000000 in
theorem m_x_saltNeeded {g : Nat} {T : gT} {c J : gC} (hM : MT T 200000) (hc : RG c) (hV : NW c 200000) {z : Int} (hz : -2147483648 ≤ z ∧ z < 2147483648) : gE g 284 3 [.ref 500001, gi z] (gm T c J) (fun o M1 => (inr z 1 3 = true ∧ o = .inl (some (gi (itI (mnf (tw c 0) 200000 (mrq (tw c 0) 200000 z)) 0 24))) ∧ M1 = gm T (tw c 0) J) ∨ (inr z 1 3 = false ∧ o = .inl (some (gi 0)) ∧ M1 = gm T (tw c 1) J)) := by
  have t1 : RG (tw c 0) := tw_RG hc (by decide)
  have t0 : tw c 0 200000 = c 200000 := tw_k (by decide)
  have t2 : NW (tw c 0) 200000 := NW_of hV t0
  have v0 := hV.1.1
  have v1 := hV.1.2
  refine gE_mk am_r284 rfl (Or.inr ⟨_, rfl, (by first | exact MT_0 hM | exact MT_now hM | exact MT_bt hM | exact MT_bl hM | exact MT_r0 hM | exact MT_t0 hM | exact MT_l0 hM | exact MT_r1 hM | exact MT_t1 hM | exact MT_l1 hM | exact MT_r2 hM | exact MT_t2 hM | exact MT_l2 hM | exact MT_r3 hM | exact MT_t3 hM | exact MT_l3 hM | exact MT_r4 hM | exact MT_t4 hM | exact MT_l4 hM | exact MT_r5 hM | exact MT_t5 hM | exact MT_l5 hM | exact MT_r6 hM | exact MT_t6 hM | exact MT_l6 hM | exact MT_r7 hM | exact MT_t7 hM | exact MT_l7 hM | exact MT_r8 hM | exact MT_t8 hM | exact MT_l8 hM | exact MT_r9 hM | exact MT_t9 hM | exact MT_l9 hM | exact MT_r10 hM | exact MT_t10 hM | exact MT_l10 hM)⟩) (fun d hd => ?_)
  show gw d g 284 0 [.ref 500001, gi z, am_U, am_U] [] _ _
  refine gw_al0 at284_0 (gw_il1 at284_1 (gw_callP1 at284_2 (m_isClass (by omega)) (by omega) (Nat.le_of_ble_eq_true rfl) ?_))
  refine gw_call2 at284_5 (m_pas1 hM hc (p := inr z 1 3)) (by omega) (Nat.le_of_ble_eq_true rfl) (fun o M1 q5 => ?_)
  rcases q5 with ⟨hp5, rfl, rfl⟩ | ⟨hp5, rfl, rfl⟩
  · show gw _ _ _ _ _ (gi _ :: _) _ _
    refine gw_zne at284_8 (by first | omega | exact hc _ _ | exact t1 _ _ | exact bi_rg _ | exact zrg _ | (unfold mrq; exact mskI_rg _ _)) (fun q8 => ?_) (fun q8 => absurd q8 (by decide))
    refine gw_const at284_13 (gw_is2 at284_14 (h := (gw_const at284_15 (gw_is3 at284_16 (h := ?_)))))
    have lp17 : ∀ i : Int, 0 ≤ i → i ≤ 24 → gw d g 284 17 [.ref 500001, gi z, gi (itI (mnf (tw c 0) 200000 (mrq (tw c 0) 200000 z)) 0 i), gi i] [] (gm T (tw c 0) J) (fun o M1 => (inr z 1 3 = true ∧ o = .inl (some (gi (itI (mnf (tw c 0) 200000 (mrq (tw c 0) 200000 z)) 0 24))) ∧ M1 = gm T (tw c 0) J) ∨ (inr z 1 3 = false ∧ o = .inl (some (gi 0)) ∧ M1 = gm T (tw c 1) J)) := by
      refine ind_up 24 ?_
      intro i hi0 hi1 ih
      refine gw_il3 at284_17 ?_
      refine gw_bip at284_18 (by decide) ?_
      refine gw_cge at284_20 (by first | omega | exact hc _ _ | exact t1 _ _ | exact bi_rg _ | exact zrg _ | (unfold mrq; exact mskI_rg _ _)) (by first | omega | exact hc _ _ | exact t1 _ _ | exact bi_rg _ | exact zrg _ | (unfold mrq; exact mskI_rg _ _)) (fun q20 => ?_) (fun q20 => ?_)
      · refine gw_il2 at284_49 (gw_ri at284_50 am_r284.2.1 ?_)
        first
        | exact Or.inr ⟨by first | assumption | (simp [*]; done), rfl, rfl⟩
        | (have e : i = 24 := by omega
           subst e
           exact Or.inl ⟨by first | assumption | (simp [*]; done), rfl, rfl⟩)
      · refine gw_al0 at284_23 (gw_il1 at284_24 (gw_callP2 at284_25 (m_rqF hM t1 t2 hz) (by omega) (Nat.le_of_ble_eq_true rfl) (gw_il3 at284_28 (gw_callP2 at284_29 (m_hasBit) (by omega) (Nat.le_of_ble_eq_true rfl) ?_))))
        refine gw_beq at284_32 (fun q32 => ?_) (fun q32 => ?_)
        · refine gw_inc3 at284_43 (h := (gw_goto at284_46 ?_))
          have h8 := ih (i + 1) (by omega) (by omega)
          rw [itI_s _ _ hi0] at h8
          first | (rw [mnf_t q32] at h8; exact h8) | (rw [mnf_f q32] at h8; exact h8)
        · refine gw_il2 at284_35 (gw_al0 at284_36 (gw_il3 at284_37 (gw_callP2 at284_38 (m_saltFor hM t1 t2 (by omega)) (by omega) (Nat.le_of_ble_eq_true rfl) (gw_iadd at284_41 (gw_is2 at284_42 (h := (gw_inc3 at284_43 (h := (gw_goto at284_46 ?_)))))))))
          have h8 := ih (i + 1) (by omega) (by omega)
          rw [itI_s _ _ hi0] at h8
          first | (rw [mnf_t q32] at h8; exact h8) | (rw [mnf_f q32] at h8; exact h8)
    exact lp17 0 (by omega) (by omega)
  · show gw _ _ _ _ _ (gi _ :: _) _ _
    refine gw_zne at284_8 (by first | omega | exact hc _ _ | exact t1 _ _ | exact bi_rg _ | exact zrg _ | (unfold mrq; exact mskI_rg _ _)) (fun q8 => absurd q8 (by decide)) (fun q8 => ?_)
    refine gw_const at284_11 (gw_ri at284_12 am_r284.2.1 ?_)
    first
    | exact Or.inr ⟨by first | assumption | (simp [*]; done), rfl, rfl⟩
    | (have e : i = 24 := by omega
       subst e
       exact Or.inl ⟨by first | assumption | (simp [*]; done), rfl, rfl⟩)
set_option maxHeartbeats 1000000 in
theorem m_x_untouched {g : Nat} {T : gT} {c J : gC} (hM : MT T 200000) (hc : RG c) (hV : NW c 200000) {z : Int} (hz : -2147483648 ≤ z ∧ z < 2147483648) : gE g 283 3 [.ref 500001, gi z] (gm T c J) (fun o M1 => (inr z 1 3 = true ∧ o = .inl (some (gi (itI (muf (tw c 0) 200000) (mrq (tw c 0) 200000 z) 24))) ∧ M1 = gm T (tw c 0) J) ∨ (inr z 1 3 = false ∧ o = .inl (some (gi 0)) ∧ M1 = gm T (tw c 1) J)) := by
  have t1 : RG (tw c 0) := tw_RG hc (by decide)
  have t0 : tw c 0 200000 = c 200000 := tw_k (by decide)
  have t2 : NW (tw c 0) 200000 := NW_of hV t0
  have v0 := hV.1.1
  have v1 := hV.1.2
  refine gE_mk am_r283 rfl (Or.inr ⟨_, rfl, (by first | exact MT_0 hM | exact MT_now hM | exact MT_bt hM | exact MT_bl hM | exact MT_r0 hM | exact MT_t0 hM | exact MT_l0 hM | exact MT_r1 hM | exact MT_t1 hM | exact MT_l1 hM | exact MT_r2 hM | exact MT_t2 hM | exact MT_l2 hM | exact MT_r3 hM | exact MT_t3 hM | exact MT_l3 hM | exact MT_r4 hM | exact MT_t4 hM | exact MT_l4 hM | exact MT_r5 hM | exact MT_t5 hM | exact MT_l5 hM | exact MT_r6 hM | exact MT_t6 hM | exact MT_l6 hM | exact MT_r7 hM | exact MT_t7 hM | exact MT_l7 hM | exact MT_r8 hM | exact MT_t8 hM | exact MT_l8 hM | exact MT_r9 hM | exact MT_t9 hM | exact MT_l9 hM | exact MT_r10 hM | exact MT_t10 hM | exact MT_l10 hM)⟩) (fun d hd => ?_)
  show gw d g 283 0 [.ref 500001, gi z, am_U, am_U] [] _ _
  refine gw_al0 at283_0 (gw_il1 at283_1 (gw_callP1 at283_2 (m_isClass (by omega)) (by omega) (Nat.le_of_ble_eq_true rfl) ?_))
  refine gw_call2 at283_5 (m_pas1 hM hc (p := inr z 1 3)) (by omega) (Nat.le_of_ble_eq_true rfl) (fun o M1 q5 => ?_)
  rcases q5 with ⟨hp5, rfl, rfl⟩ | ⟨hp5, rfl, rfl⟩
  · show gw _ _ _ _ _ (gi _ :: _) _ _
    refine gw_zne at283_8 (by first | omega | exact hc _ _ | exact t1 _ _ | exact bi_rg _ | exact zrg _ | (unfold mrq; exact mskI_rg _ _)) (fun q8 => ?_) (fun q8 => absurd q8 (by decide))
    refine gw_al0 at283_13 (gw_il1 at283_14 (gw_callP2 at283_15 (m_rqF hM t1 t2 hz) (by omega) (Nat.le_of_ble_eq_true rfl) (gw_is2 at283_18 (h := (gw_const at283_19 (gw_is3 at283_20 (h := ?_)))))))
    have lp21 : ∀ i : Int, 0 ≤ i → i ≤ 24 → gw d g 283 21 [.ref 500001, gi z, gi (itI (muf (tw c 0) 200000) (mrq (tw c 0) 200000 z) i), gi i] [] (gm T (tw c 0) J) (fun o M1 => (inr z 1 3 = true ∧ o = .inl (some (gi (itI (muf (tw c 0) 200000) (mrq (tw c 0) 200000 z) 24))) ∧ M1 = gm T (tw c 0) J) ∨ (inr z 1 3 = false ∧ o = .inl (some (gi 0)) ∧ M1 = gm T (tw c 1) J)) := by
      refine ind_up 24 ?_
      intro i hi0 hi1 ih
      refine gw_il3 at283_21 ?_
      refine gw_bip at283_22 (by decide) ?_
      refine gw_cge at283_24 (by first | omega | exact hc _ _ | exact t1 _ _ | exact bi_rg _ | exact zrg _ | (unfold mrq; exact mskI_rg _ _)) (by first | omega | exact hc _ _ | exact t1 _ _ | exact bi_rg _ | exact zrg _ | (unfold mrq; exact mskI_rg _ _)) (fun q24 => ?_) (fun q24 => ?_)
      · refine gw_il2 at283_58 (gw_ri at283_59 am_r283.2.1 ?_)
        first
        | exact Or.inr ⟨by first | assumption | (simp [*]; done), rfl, rfl⟩
        | (have e : i = 24 := by omega
           subst e
           exact Or.inl ⟨by first | assumption | (simp [*]; done), rfl, rfl⟩)
      · refine gw_il2 at283_27 (gw_il3 at283_28 (gw_callP2 at283_29 (m_hasBit) (by omega) (Nat.le_of_ble_eq_true rfl) ?_))
        refine gw_beq at283_32 (fun q32 => ?_) (fun q32 => ?_)
        · refine gw_inc3 at283_52 (h := (gw_goto at283_55 ?_))
          have h8 := ih (i + 1) (by omega) (by omega)
          rw [itI_s _ _ hi0] at h8
          first | (rw [muf_t q32 (by omega)] at h8; exact h8) | (rw [muf_f q32] at h8; exact h8) | (rw [muf_g (by omega)] at h8; exact h8)
        · refine gw_al0 at283_35 (gw_il3 at283_36 (gw_const at283_37 (gw_callP3 at283_38 (m_arf hM t1 (by omega) (by decide)) (by omega) (Nat.le_of_ble_eq_true rfl) ?_)))
          refine gw_zle at283_41 (by first | omega | exact hc _ _ | exact t1 _ _ | exact bi_rg _ | exact zrg _ | (unfold mrq; exact mskI_rg _ _)) (fun q41 => ?_) (fun q41 => ?_)
          · refine gw_inc3 at283_52 (h := (gw_goto at283_55 ?_))
            have h8 := ih (i + 1) (by omega) (by omega)
            rw [itI_s _ _ hi0] at h8
            first | (rw [muf_t q32 (by omega)] at h8; exact h8) | (rw [muf_f q32] at h8; exact h8) | (rw [muf_g (by omega)] at h8; exact h8)
          · refine gw_il2 at283_44 (gw_const at283_45 (gw_il3 at283_46 (gw_ishl at283_47 (gw_const at283_48 (gw_ixor at283_49 (gw_iand at283_50 (gw_is2 at283_51 (h := (gw_inc3 at283_52 (h := (gw_goto at283_55 ?_)))))))))))
            have h8 := ih (i + 1) (by omega) (by omega)
            rw [itI_s _ _ hi0] at h8
            first | (rw [muf_t q32 (by omega)] at h8; exact h8) | (rw [muf_f q32] at h8; exact h8) | (rw [muf_g (by omega)] at h8; exact h8)
    exact lp21 0 (by omega) (by omega)
  · show gw _ _ _ _ _ (gi _ :: _) _ _
    refine gw_zne at283_8 (by first | omega | exact hc _ _ | exact t1 _ _ | exact bi_rg _ | exact zrg _ | (unfold mrq; exact mskI_rg _ _)) (fun q8 => absurd q8 (by decide)) (fun q8 => ?_)
    refine gw_const at283_11 (gw_ri at283_12 am_r283.2.1 ?_)
    first
    | exact Or.inr ⟨by first | assumption | (simp [*]; done), rfl, rfl⟩
    | (have e : i = 24 := by omega
       subst e
       exact Or.inl ⟨by first | assumption | (simp [*]; done), rfl, rfl⟩)
set_option maxHeartbeats 1000000 in
theorem m_x_meanDepth {g : Nat} {T : gT} {c J : gC} (hM : MT T 200000) (hc : RG c) (hV : NW c 200000) {z : Int} (hz : -2147483648 ≤ z ∧ z < 2147483648) {B : Int} (hW : WW c 200000 B) (hB : B ≤ 900000000) (hcb : ¬ (mrq (tw c 0) 200000 z) = 0 → 0 < mcb (mrq (tw c 0) 200000 z)) : gE g 287 3 [.ref 500001, gi z] (gm T c J) (fun o M1 => (inr z 1 3 = true ∧ o = .inl (some (gi (if (mrq (tw c 0) 200000 z) = 0 then -1 else itI (mef (tw c 0) 200000 (mrq (tw c 0) 200000 z)) 0 24 / mcb (mrq (tw c 0) 200000 z)))) ∧ M1 = gm T (tw c 0) J) ∨ (inr z 1 3 = false ∧ o = .inl (some (gi 0)) ∧ M1 = gm T (tw c 1) J)) := by
  have t1 : RG (tw c 0) := tw_RG hc (by decide)
  have t0 : tw c 0 200000 = c 200000 := tw_k (by decide)
  have t2 : NW (tw c 0) 200000 := NW_of hV t0
  have v0 := hV.1.1
  have v1 := hV.1.2
  have tW : WW (tw c 0) 200000 B := WW_of hW t0
  have w1 := hW.1
  have w2 := hW.2.1
  have w3 := hW.2.2.1
  have t5 : tw c 0 200000 5 = c 200000 5 := by rw [t0]
  refine gE_mk am_r287 rfl (Or.inr ⟨_, rfl, (by first | exact MT_0 hM | exact MT_now hM | exact MT_bt hM | exact MT_bl hM | exact MT_r0 hM | exact MT_t0 hM | exact MT_l0 hM | exact MT_r1 hM | exact MT_t1 hM | exact MT_l1 hM | exact MT_r2 hM | exact MT_t2 hM | exact MT_l2 hM | exact MT_r3 hM | exact MT_t3 hM | exact MT_l3 hM | exact MT_r4 hM | exact MT_t4 hM | exact MT_l4 hM | exact MT_r5 hM | exact MT_t5 hM | exact MT_l5 hM | exact MT_r6 hM | exact MT_t6 hM | exact MT_l6 hM | exact MT_r7 hM | exact MT_t7 hM | exact MT_l7 hM | exact MT_r8 hM | exact MT_t8 hM | exact MT_l8 hM | exact MT_r9 hM | exact MT_t9 hM | exact MT_l9 hM | exact MT_r10 hM | exact MT_t10 hM | exact MT_l10 hM)⟩) (fun d hd => ?_)
  show gw d g 287 0 [.ref 500001, gi z, am_U, am_U, am_U] [] _ _
  refine gw_al0 at287_0 (gw_il1 at287_1 (gw_callP1 at287_2 (m_isClass (by omega)) (by omega) (Nat.le_of_ble_eq_true rfl) ?_))
  refine gw_call2 at287_5 (m_pas1 hM hc (p := inr z 1 3)) (by omega) (Nat.le_of_ble_eq_true rfl) (fun o M1 q5 => ?_)
  rcases q5 with ⟨hp5, rfl, rfl⟩ | ⟨hp5, rfl, rfl⟩
  · show gw _ _ _ _ _ (gi _ :: _) _ _
    refine gw_zne at287_8 (by first | omega | exact hc _ _ | exact t1 _ _ | exact bi_rg _ | exact zrg _ | (unfold mrq; exact mskI_rg _ _) | (have := mcb_rg (mrq (tw c 0) 200000 z) (i := 24) (by decide); have := hcb (by assumption); unfold mcb at *; omega)) (fun q8 => ?_) (fun q8 => absurd q8 (by decide))
    refine gw_al0 at287_13 (gw_il1 at287_14 (gw_callP2 at287_15 (m_rqF hM t1 t2 hz) (by omega) (Nat.le_of_ble_eq_true rfl) (gw_is2 at287_18 (h := (gw_const at287_19 (gw_is3 at287_20 (h := (gw_const at287_21 (gw_is4 at287_22 (h := ?_))))))))))
    have lp24 : ∀ i : Int, 0 ≤ i → i ≤ 24 → gw d g 287 24 [.ref 500001, gi z, gi (mrq (tw c 0) 200000 z), gi (itI (mef (tw c 0) 200000 (mrq (tw c 0) 200000 z)) 0 i), gi i] [] (gm T (tw c 0) J) (fun o M1 => (inr z 1 3 = true ∧ o = .inl (some (gi (if (mrq (tw c 0) 200000 z) = 0 then -1 else itI (mef (tw c 0) 200000 (mrq (tw c 0) 200000 z)) 0 24 / mcb (mrq (tw c 0) 200000 z)))) ∧ M1 = gm T (tw c 0) J) ∨ (inr z 1 3 = false ∧ o = .inl (some (gi 0)) ∧ M1 = gm T (tw c 1) J)) := by
      refine ind_up 24 ?_
      intro i hi0 hi1 ih
      have hm := mef_rg (q := (mrq (tw c 0) 200000 z)) tW hi0 hi1
      refine gw_il4 at287_24 ?_
      refine gw_bip at287_26 (by decide) ?_
      refine gw_cge at287_28 (by first | omega | exact hc _ _ | exact t1 _ _ | exact bi_rg _ | exact zrg _ | (unfold mrq; exact mskI_rg _ _) | (have := mcb_rg (mrq (tw c 0) 200000 z) (i := 24) (by decide); have := hcb (by assumption); unfold mcb at *; omega)) (by first | omega | exact hc _ _ | exact t1 _ _ | exact bi_rg _ | exact zrg _ | (unfold mrq; exact mskI_rg _ _) | (have := mcb_rg (mrq (tw c 0) 200000 z) (i := 24) (by decide); have := hcb (by assumption); unfold mcb at *; omega)) (fun q28 => ?_) (fun q28 => ?_)
      · refine gw_il2 at287_59 ?_
        refine gw_zne at287_60 (by first | omega | exact hc _ _ | exact t1 _ _ | exact bi_rg _ | exact zrg _ | (unfold mrq; exact mskI_rg _ _) | (have := mcb_rg (mrq (tw c 0) 200000 z) (i := 24) (by decide); have := hcb (by assumption); unfold mcb at *; omega)) (fun q60 => ?_) (fun q60 => ?_)
        · refine gw_il3 at287_67 (gw_il2 at287_68 (gw_callP1 at287_69 (m_countBits) (by omega) (Nat.le_of_ble_eq_true rfl) (gw_divp at287_72 (by first | omega | exact hc _ _ | exact t1 _ _ | exact bi_rg _ | exact zrg _ | (unfold mrq; exact mskI_rg _ _) | (have := mcb_rg (mrq (tw c 0) 200000 z) (i := 24) (by decide); have := hcb (by assumption); unfold mcb at *; omega)) (by first | omega | exact hc _ _ | exact t1 _ _ | exact bi_rg _ | exact zrg _ | (unfold mrq; exact mskI_rg _ _) | (have := mcb_rg (mrq (tw c 0) 200000 z) (i := 24) (by decide); have := hcb (by assumption); unfold mcb at *; omega)) (gw_ri at287_73 am_r287.2.1 ?_))))
          first
          | exact Or.inr ⟨by first | assumption | (simp [*]; done), rfl, rfl⟩
          | (have e : i = 24 := by omega
             subst e
             exact Or.inl ⟨by first | assumption | (simp [*]; done), by first | (rw [if_pos q60]; done) | (rw [if_neg q60]; done), rfl⟩)
        · refine gw_const at287_63 (gw_goto at287_64 (gw_ri at287_73 am_r287.2.1 ?_))
          first
          | exact Or.inr ⟨by first | assumption | (simp [*]; done), rfl, rfl⟩
          | (have e : i = 24 := by omega
             subst e
             exact Or.inl ⟨by first | assumption | (simp [*]; done), by first | (rw [if_pos q60]; done) | (rw [if_neg q60]; done), rfl⟩)
      · refine gw_il3 at287_31 (gw_il2 at287_32 (gw_il4 at287_33 (gw_callP2 at287_35 (m_hasBit) (by omega) (Nat.le_of_ble_eq_true rfl) ?_)))
        refine gw_beq at287_38 (fun q38 => ?_) (fun q38 => ?_)
        · refine gw_const at287_50 (gw_iadd at287_51 (gw_is3 at287_52 (h := (gw_inc4 at287_53 (h := (gw_goto at287_56 ?_))))))
          have h8 := ih (i + 1) (by omega) (by omega)
          rw [itI_s _ _ hi0] at h8
          first | (rw [mef_t q38] at h8; exact h8) | (rw [mef_f q38] at h8; exact h8)
        · refine gw_al0 at287_41 (gw_il4 at287_42 (gw_callP2 at287_44 (m_depthNow hM t1 t2 tW (by omega)) (by omega) (Nat.le_of_ble_eq_true rfl) (gw_goto at287_47 (gw_iadd at287_51 (gw_is3 at287_52 (h := (gw_inc4 at287_53 (h := (gw_goto at287_56 ?_)))))))))
          have h8 := ih (i + 1) (by omega) (by omega)
          rw [itI_s _ _ hi0] at h8
          first | (rw [mef_t q38] at h8; exact h8) | (rw [mef_f q38] at h8; exact h8)
    exact lp24 0 (by omega) (by omega)
  · show gw _ _ _ _ _ (gi _ :: _) _ _
    refine gw_zne at287_8 (by first | omega | exact hc _ _ | exact t1 _ _ | exact bi_rg _ | exact zrg _ | (unfold mrq; exact mskI_rg _ _) | (have := mcb_rg (mrq (tw c 0) 200000 z) (i := 24) (by decide); have := hcb (by assumption); unfold mcb at *; omega)) (fun q8 => absurd q8 (by decide)) (fun q8 => ?_)
    refine gw_const at287_11 (gw_ri at287_12 am_r287.2.1 ?_)
    first
    | exact Or.inr ⟨by first | assumption | (simp [*]; done), rfl, rfl⟩
    | (have e : i = 24 := by omega
       subst e
       exact Or.inl ⟨by first | assumption | (simp [*]; done), by first | (rw [if_pos q60]; done) | (rw [if_neg q60]; done), rfl⟩)
set_option maxHeartbeats 1000000 in
theorem m_x_totalSnow {g : Nat} {T : gT} {c J : gC} (hM : MT T 200000) (hc : RG c) (hV : NW c 200000) {B : Int} (hW : WW c 200000 B) (hB : B ≤ 900000000) : gE g 261 3 [.ref 500001] (gm T c J) (fun o M1 => o = .inl (some (gl (itI (tnf2 (tw c 0) 200000) 0 24))) ∧ M1 = gm T (tw c 0) J) := by
  have t1 : RG (tw c 0) := tw_RG hc (by decide)
  have t0 : tw c 0 200000 = c 200000 := tw_k (by decide)
  have t2 : NW (tw c 0) 200000 := NW_of hV t0
  have v0 := hV.1.1
  have v1 := hV.1.2
  have tW : WW (tw c 0) 200000 B := WW_of hW t0
  have w1 := hW.1
  have w2 := hW.2.1
  have w3 := hW.2.2.1
  have t5 : tw c 0 200000 5 = c 200000 5 := by rw [t0]
  refine gE_mk am_r261 rfl (Or.inr ⟨_, rfl, (by first | exact MT_0 hM | exact MT_now hM | exact MT_bt hM | exact MT_bl hM | exact MT_r0 hM | exact MT_t0 hM | exact MT_l0 hM | exact MT_r1 hM | exact MT_t1 hM | exact MT_l1 hM | exact MT_r2 hM | exact MT_t2 hM | exact MT_l2 hM | exact MT_r3 hM | exact MT_t3 hM | exact MT_l3 hM | exact MT_r4 hM | exact MT_t4 hM | exact MT_l4 hM | exact MT_r5 hM | exact MT_t5 hM | exact MT_l5 hM | exact MT_r6 hM | exact MT_t6 hM | exact MT_l6 hM | exact MT_r7 hM | exact MT_t7 hM | exact MT_l7 hM | exact MT_r8 hM | exact MT_t8 hM | exact MT_l8 hM | exact MT_r9 hM | exact MT_t9 hM | exact MT_l9 hM | exact MT_r10 hM | exact MT_t10 hM | exact MT_l10 hM)⟩) (fun d hd => ?_)
  show gw d g 261 0 [.ref 500001, am_U, am_U, am_U] [] _ _
  refine gw_al0 at261_0 (gw_const at261_1 (gw_pf (j := 0) at261_2 (by first | exact MT_0 hM | exact MT_now hM | exact MT_bt hM | exact MT_bl hM | exact MT_r0 hM | exact MT_t0 hM | exact MT_l0 hM | exact MT_r1 hM | exact MT_t1 hM | exact MT_l1 hM | exact MT_r2 hM | exact MT_t2 hM | exact MT_l2 hM | exact MT_r3 hM | exact MT_t3 hM | exact MT_l3 hM | exact MT_r4 hM | exact MT_t4 hM | exact MT_l4 hM | exact MT_r5 hM | exact MT_t5 hM | exact MT_l5 hM | exact MT_r6 hM | exact MT_t6 hM | exact MT_l6 hM | exact MT_r7 hM | exact MT_t7 hM | exact MT_l7 hM | exact MT_r8 hM | exact MT_t8 hM | exact MT_l8 hM | exact MT_r9 hM | exact MT_t9 hM | exact MT_l9 hM | exact MT_r10 hM | exact MT_t10 hM | exact MT_l10 hM) rfl (gw_lconst (z := 0) at261_5 rfl (gw_ls1 at261_6 (h := (gw_const at261_7 (gw_is3 at261_8 (h := ?_))))))))
  have lp9 : ∀ i : Int, 0 ≤ i → i ≤ 24 → ∀ s : Int, s = itI (tnf2 (tw c 0) 200000) 0 i → gw d g 261 9 [.ref 500001, gl s, am_U, gi i] [] (gm T (tw c 0) J) (fun o M1 => o = .inl (some (gl (itI (tnf2 (tw c 0) 200000) 0 24))) ∧ M1 = gm T (tw c 0) J) := by
    refine ind_up 24 ?_
    intro i hi0 hi1 ih s hs
    refine gw_il3 at261_9 ?_
    refine gw_bip at261_10 (by decide) ?_
    refine gw_cge at261_12 (by first | omega | exact t1 _ _) (by first | omega | exact t1 _ _) (fun q12 => ?_) (fun q12 => ?_)
    · refine gw_ll1 at261_45 (gw_rl at261_46 am_r261.2.1 ?_)
      have e : i = 24 := by omega
      rw [hs, e]
      exact ⟨rfl, rfl⟩
    · refine gw_al0 at261_15 (gw_il3 at261_16 (gw_callP2 at261_17 (m_isArc hM t1 t2 (by omega)) (by omega) (Nat.le_of_ble_eq_true rfl) ?_))
      refine gw_beq at261_20 (fun q20 => ?_) (fun q20 => ?_)
      · refine gw_inc3 at261_39 (h := (gw_goto at261_42 ?_))
        refine ih (i + 1) (by omega) (by omega) _ ?_
        rw [itI_s _ _ hi0, ← hs]
        first | (rw [tnf2_t (by assumption)]; done) | (rw [tnf2_f (by assumption)]; done)
      · have hl := mln_rg t2 (mhA_rg t2 q20)
        have hsn := msn_rg (t := tw c 0 200000 5) tW (mhA_rg t2 q20)
        refine gw_ll1 at261_23 (gw_al0 at261_24 (gw_il3 at261_25 (gw_callP2 at261_26 (m_lengthOf hM t1 t2 (mhA_rg t2 q20)) (by omega) (Nat.le_of_ble_eq_true rfl) (gw_i2l at261_29 (by first | omega | exact t1 _ _) (gw_al0 at261_30 (gw_il3 at261_31 (gw_callP2 at261_32 (m_depthNow hM t1 t2 tW (mhA_rg t2 q20)) (by omega) (Nat.le_of_ble_eq_true rfl) (gw_i2l at261_35 (by first | omega | exact t1 _ _) (gw_lmul at261_36 (gw_ladd at261_37 (gw_ls1 at261_38 (h := (gw_inc3 at261_39 (h := (gw_goto at261_42 ?_)))))))))))))))
        refine ih (i + 1) (by omega) (by omega) _ ?_
        rw [itI_s _ _ hi0, ← hs]
        first | (rw [tnf2_t (by assumption)]; done) | (rw [tnf2_f (by assumption)]; done)
  exact lp9 0 (by omega) (by omega) 0 rfl
set_option maxHeartbeats 1000000 in
theorem m_x_secondsToFirstDepth {g : Nat} {T : gT} {c J : gC} (hM : MT T 200000) (hc : RG c) (hV : NW c 200000) {z : Int} (hz : -2147483648 ≤ z ∧ z < 2147483648) {p : Int} (hp : -2147483648 ≤ p ∧ p < 2147483648) {B : Int} (hW : WW c 200000 B) (hB : B ≤ 900000000) : gE g 264 3 [.ref 500001, gi z, gi p] (gm T c J) (fun o M1 => ((inr z 1 3 && inr p 0 2000) = true ∧ o = .inl (some (gi (if 1000000 < itI (fun a s => if tb (mrq (tw c 0) 200000 z) a = true then min s (mfs (tw c 0) a p) else s) 1000001 24 then -1 else itI (fun a s => if tb (mrq (tw c 0) 200000 z) a = true then min s (mfs (tw c 0) a p) else s) 1000001 24))) ∧ M1 = gm T (tw c 0) J) ∨ ((inr z 1 3 && inr p 0 2000) = false ∧ o = .inl (some (gi 0)) ∧ M1 = gm T (tw c 1) J)) := by
  have t1 : RG (tw c 0) := tw_RG hc (by decide)
  have t0 : tw c 0 200000 = c 200000 := tw_k (by decide)
  have t2 : NW (tw c 0) 200000 := NW_of hV t0
  have v0 := hV.1.1
  have v1 := hV.1.2
  have tW : WW (tw c 0) 200000 B := WW_of hW t0
  have w1 := hW.1
  have w2 := hW.2.1
  have w3 := hW.2.2.1
  have t5 : tw c 0 200000 5 = c 200000 5 := by rw [t0]
  refine gE_mk am_r264 rfl (Or.inr ⟨_, rfl, (by first | exact MT_0 hM | exact MT_now hM | exact MT_bt hM | exact MT_bl hM | exact MT_r0 hM | exact MT_t0 hM | exact MT_l0 hM | exact MT_r1 hM | exact MT_t1 hM | exact MT_l1 hM | exact MT_r2 hM | exact MT_t2 hM | exact MT_l2 hM | exact MT_r3 hM | exact MT_t3 hM | exact MT_l3 hM | exact MT_r4 hM | exact MT_t4 hM | exact MT_l4 hM | exact MT_r5 hM | exact MT_t5 hM | exact MT_l5 hM | exact MT_r6 hM | exact MT_t6 hM | exact MT_l6 hM | exact MT_r7 hM | exact MT_t7 hM | exact MT_l7 hM | exact MT_r8 hM | exact MT_t8 hM | exact MT_l8 hM | exact MT_r9 hM | exact MT_t9 hM | exact MT_l9 hM | exact MT_r10 hM | exact MT_t10 hM | exact MT_l10 hM)⟩) (fun d hd => ?_)
  show gw d g 264 0 [.ref 500001, gi z, gi p, am_U, am_U] [] _ _
  refine gw_al0 at264_0 (gw_il1 at264_1 (gw_callP1 at264_2 (m_isClass (by omega)) (by omega) (Nat.le_of_ble_eq_true rfl) ?_))
  refine gw_beq at264_5 (fun q5 => ?_) (fun q5 => ?_)
  · refine gw_const at264_19 ?_
    refine gw_call2 at264_20 (m_pas1 hM hc (p := false)) (by omega) (Nat.le_of_ble_eq_true rfl) (fun o M1 q20 => ?_)
    rcases q20 with ⟨hp, -, -⟩ | ⟨-, rfl, rfl⟩
    · cases hp
    · show gw _ _ _ _ _ (gi _ :: _) _ _
      refine gw_zne at264_23 (by first | omega | exact hc _ _ | exact t1 _ _ | exact bi_rg _ | exact zrg _ | (unfold mrq; exact mskI_rg _ _) | (have := (mfs_spec (a := i) (p := p) tW).1; omega)) (fun q23 => absurd q23 (by decide)) (fun q23 => ?_)
      refine gw_const at264_26 (gw_ri at264_27 am_r264.2.1 ?_)
      first
      | exact Or.inr ⟨by first | assumption | (simp [*]; done), rfl, rfl⟩
      | (have e : i = 24 := by omega
         subst e
         exact Or.inl ⟨by first | assumption | (simp [*]; done), by first | (rw [if_pos (by omega)]; done) | (rw [if_neg (by omega)]; done), rfl⟩)
  · refine gw_il2 at264_8 (gw_callP1 at264_9 (m_isDepth (by omega)) (by omega) (Nat.le_of_ble_eq_true rfl) ?_)
    refine gw_beq at264_12 (fun q12 => ?_) (fun q12 => ?_)
    · refine gw_const at264_19 ?_
      refine gw_call2 at264_20 (m_pas1 hM hc (p := false)) (by omega) (Nat.le_of_ble_eq_true rfl) (fun o M1 q20 => ?_)
      rcases q20 with ⟨hp, -, -⟩ | ⟨-, rfl, rfl⟩
      · cases hp
      · show gw _ _ _ _ _ (gi _ :: _) _ _
        refine gw_zne at264_23 (by first | omega | exact hc _ _ | exact t1 _ _ | exact bi_rg _ | exact zrg _ | (unfold mrq; exact mskI_rg _ _) | (have := (mfs_spec (a := i) (p := p) tW).1; omega)) (fun q23 => absurd q23 (by decide)) (fun q23 => ?_)
        refine gw_const at264_26 (gw_ri at264_27 am_r264.2.1 ?_)
        first
        | exact Or.inr ⟨by first | assumption | (simp [*]; done), rfl, rfl⟩
        | (have e : i = 24 := by omega
           subst e
           exact Or.inl ⟨by first | assumption | (simp [*]; done), by first | (rw [if_pos (by omega)]; done) | (rw [if_neg (by omega)]; done), rfl⟩)
    · refine gw_const at264_15 (gw_goto at264_16 ?_)
      refine gw_call2 at264_20 (m_pas1 hM hc (p := true)) (by omega) (Nat.le_of_ble_eq_true rfl) (fun o M1 q20 => ?_)
      rcases q20 with ⟨-, rfl, rfl⟩ | ⟨hp, -, -⟩
      · show gw _ _ _ _ _ (gi _ :: _) _ _
        refine gw_zne at264_23 (by first | omega | exact hc _ _ | exact t1 _ _ | exact bi_rg _ | exact zrg _ | (unfold mrq; exact mskI_rg _ _) | (have := (mfs_spec (a := i) (p := p) tW).1; omega)) (fun q23 => ?_) (fun q23 => absurd q23 (by decide))
        refine gw_ldc (z := 1000001) at264_28 (by decide) (gw_is3 at264_30 (h := (gw_const at264_31 (gw_is4 at264_32 (h := ?_)))))
        have lp34 : ∀ i : Int, 0 ≤ i → i ≤ 24 → gw d g 264 34 [.ref 500001, gi z, gi p, gi (itI (fun a s => if tb (mrq (tw c 0) 200000 z) a = true then min s (mfs (tw c 0) a p) else s) 1000001 i), gi i] [] (gm T (tw c 0) J) (fun o M1 => ((inr z 1 3 && inr p 0 2000) = true ∧ o = .inl (some (gi (if 1000000 < itI (fun a s => if tb (mrq (tw c 0) 200000 z) a = true then min s (mfs (tw c 0) a p) else s) 1000001 24 then -1 else itI (fun a s => if tb (mrq (tw c 0) 200000 z) a = true then min s (mfs (tw c 0) a p) else s) 1000001 24))) ∧ M1 = gm T (tw c 0) J) ∨ ((inr z 1 3 && inr p 0 2000) = false ∧ o = .inl (some (gi 0)) ∧ M1 = gm T (tw c 1) J)) := by
          refine ind_up 24 ?_
          intro i hi0 hi1 ih
          have hk : 0 ≤ itI (fun a s => if tb (mrq (tw c 0) 200000 z) a = true then min s (mfs (tw c 0) a p) else s) 1000001 i ∧ itI (fun a s => if tb (mrq (tw c 0) 200000 z) a = true then min s (mfs (tw c 0) a p) else s) 1000001 i ≤ 1000001 := by
            refine itI_inv (fun s : Int => 0 ≤ s ∧ s ≤ 1000001) (by decide) (fun j s hs => ?_) i
            have := (mfs_spec (a := j) (p := p) tW).1
            (try dsimp only)
            split <;> omega
          refine gw_il4 at264_34 ?_
          refine gw_bip at264_36 (by decide) ?_
          refine gw_cge at264_38 (by first | omega | exact hc _ _ | exact t1 _ _ | exact bi_rg _ | exact zrg _ | (unfold mrq; exact mskI_rg _ _) | (have := (mfs_spec (a := i) (p := p) tW).1; omega)) (by first | omega | exact hc _ _ | exact t1 _ _ | exact bi_rg _ | exact zrg _ | (unfold mrq; exact mskI_rg _ _) | (have := (mfs_spec (a := i) (p := p) tW).1; omega)) (fun q38 => ?_) (fun q38 => ?_)
          · refine gw_il3 at264_72 (gw_ldc (z := 1000000) at264_73 (by decide) ?_)
            refine gw_cle at264_75 (by first | omega | exact hc _ _ | exact t1 _ _ | exact bi_rg _ | exact zrg _ | (unfold mrq; exact mskI_rg _ _) | (have := (mfs_spec (a := i) (p := p) tW).1; omega)) (by first | omega | exact hc _ _ | exact t1 _ _ | exact bi_rg _ | exact zrg _ | (unfold mrq; exact mskI_rg _ _) | (have := (mfs_spec (a := i) (p := p) tW).1; omega)) (fun q75 => ?_) (fun q75 => ?_)
            · refine gw_il3 at264_82 (gw_ri at264_83 am_r264.2.1 ?_)
              first
              | exact Or.inr ⟨by first | assumption | (simp [*]; done), rfl, rfl⟩
              | (have e : i = 24 := by omega
                 subst e
                 exact Or.inl ⟨by first | assumption | (simp [*]; done), by first | (rw [if_pos (by omega)]; done) | (rw [if_neg (by omega)]; done), rfl⟩)
            · refine gw_const at264_78 (gw_goto at264_79 (gw_ri at264_83 am_r264.2.1 ?_))
              first
              | exact Or.inr ⟨by first | assumption | (simp [*]; done), rfl, rfl⟩
              | (have e : i = 24 := by omega
                 subst e
                 exact Or.inl ⟨by first | assumption | (simp [*]; done), by first | (rw [if_pos (by omega)]; done) | (rw [if_neg (by omega)]; done), rfl⟩)
          · refine gw_al0 at264_41 (gw_il1 at264_42 (gw_callP2 at264_43 (m_rqF hM t1 t2 hz) (by omega) (Nat.le_of_ble_eq_true rfl) (gw_il4 at264_46 (gw_callP2 at264_48 (m_hasBit) (by omega) (Nat.le_of_ble_eq_true rfl) ?_))))
            refine gw_beq at264_51 (fun q51 => ?_) (fun q51 => ?_)
            · refine gw_inc4 at264_66 (h := (gw_goto at264_69 ?_))
              have h8 := ih (i + 1) (by omega) (by omega)
              rw [itI_s _ _ hi0] at h8
              first | (rw [if_pos q51] at h8; exact h8) | (rw [if_neg (by rw [q51]; decide)] at h8; exact h8)
            · refine gw_il3 at264_54 (gw_al0 at264_55 (gw_il4 at264_56 (gw_il2 at264_58 (gw_callP3 at264_59 (m_secondsFor hM t1 t2 tW (by omega) (by omega) (inr_t.mp q12)) (by omega) (Nat.le_of_ble_eq_true rfl) (gw_min at264_62 (by first | omega | exact hc _ _ | exact t1 _ _ | exact bi_rg _ | exact zrg _ | (unfold mrq; exact mskI_rg _ _) | (have := (mfs_spec (a := i) (p := p) tW).1; omega)) (by first | omega | exact hc _ _ | exact t1 _ _ | exact bi_rg _ | exact zrg _ | (unfold mrq; exact mskI_rg _ _) | (have := (mfs_spec (a := i) (p := p) tW).1; omega)) (Nat.le_of_ble_eq_true rfl) (gw_is3 at264_65 (h := (gw_inc4 at264_66 (h := (gw_goto at264_69 ?_))))))))))
              have h8 := ih (i + 1) (by omega) (by omega)
              rw [itI_s _ _ hi0] at h8
              first | (rw [if_pos q51] at h8; exact h8) | (rw [if_neg (by rw [q51]; decide)] at h8; exact h8)
        exact lp34 0 (by omega) (by omega)
      · cases hp
