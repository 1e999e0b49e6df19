set_option maxHeartbeats 1000000 in
theorem m_isHere {g : Nat} {T : gT} {c J : gC} (hM : MT T 200000) (hc : RG c) (hV : NW c 200000) {a : Int} (ha : -2147483648 ≤ a ∧ a < 2147483648) : gE g 271 2 [.ref 500001, gi a] (gm T c J) (gR (gi (bi (mhe c a))) (gm T c J)) := by
  refine gE_mk am_r271 rfl (Or.inr ⟨_, rfl, (by first | exact MT_0 hM | exact MT_now hM | exact MT_bt hM | exact MT_bl hM | exact MT_r0 hM | exact MT_t0 hM | exact MT_l0 hM | exact MT_r1 hM | exact MT_t1 hM | exact MT_l1 hM | exact MT_r2 hM | exact MT_t2 hM | exact MT_l2 hM | exact MT_r3 hM | exact MT_t3 hM | exact MT_l3 hM | exact MT_r4 hM | exact MT_t4 hM | exact MT_l4 hM | exact MT_r5 hM | exact MT_t5 hM | exact MT_l5 hM | exact MT_r6 hM | exact MT_t6 hM | exact MT_l6 hM | exact MT_r7 hM | exact MT_t7 hM | exact MT_l7 hM | exact MT_r8 hM | exact MT_t8 hM | exact MT_l8 hM | exact MT_r9 hM | exact MT_t9 hM | exact MT_l9 hM | exact MT_r10 hM | exact MT_t10 hM | exact MT_l10 hM)⟩) (fun d hd => ?_)
  show gw d g 271 0 [.ref 500001, gi a] [] _ _
  refine gw_al0 at271_0 (gw_il1 at271_1 (gw_callP2 at271_2 (m_isArc hM hc hV ha) (by omega) (Nat.le_of_ble_eq_true rfl) ?_))
  refine gw_beq at271_5 (fun q5 => ?_) (fun q5 => ?_)
  · refine gw_const at271_27 (gw_r0 at271_28 am_r271.2.1 (gR_b ?_))
    unfold mhe
    first | (rw [q5]; rfl) | (rw [q5]; simp; omega)
  · have hb9 := mbg_rg hV (mhA_rg hV q5)
    refine gw_al0 at271_8 (gw_il1 at271_9 (gw_callP2 at271_10 (m_startOf hM hc hV (mhA_rg hV q5)) (by omega) (Nat.le_of_ble_eq_true rfl) (gw_al0 at271_13 (gw_gr at271_14 (by first | exact MT_0 hM | exact MT_now hM | exact MT_bt hM | exact MT_bl hM | exact MT_r0 hM | exact MT_t0 hM | exact MT_l0 hM | exact MT_r1 hM | exact MT_t1 hM | exact MT_l1 hM | exact MT_r2 hM | exact MT_t2 hM | exact MT_l2 hM | exact MT_r3 hM | exact MT_t3 hM | exact MT_l3 hM | exact MT_r4 hM | exact MT_t4 hM | exact MT_l4 hM | exact MT_r5 hM | exact MT_t5 hM | exact MT_l5 hM | exact MT_r6 hM | exact MT_t6 hM | exact MT_l6 hM | exact MT_r7 hM | exact MT_t7 hM | exact MT_l7 hM | exact MT_r8 hM | exact MT_t8 hM | exact MT_l8 hM | exact MT_r9 hM | exact MT_t9 hM | exact MT_l9 hM | exact MT_r10 hM | exact MT_t10 hM | exact MT_l10 hM) (by first | exact MT_0 hM | exact MT_now hM | exact MT_bt hM | exact MT_bl hM | exact MT_r0 hM | exact MT_t0 hM | exact MT_l0 hM | exact MT_r1 hM | exact MT_t1 hM | exact MT_l1 hM | exact MT_r2 hM | exact MT_t2 hM | exact MT_l2 hM | exact MT_r3 hM | exact MT_t3 hM | exact MT_l3 hM | exact MT_r4 hM | exact MT_t4 hM | exact MT_l4 hM | exact MT_r5 hM | exact MT_t5 hM | exact MT_l5 hM | exact MT_r6 hM | exact MT_t6 hM | exact MT_l6 hM | exact MT_r7 hM | exact MT_t7 hM | exact MT_l7 hM | exact MT_r8 hM | exact MT_t8 hM | exact MT_l8 hM | exact MT_r9 hM | exact MT_t9 hM | exact MT_l9 hM | exact MT_r10 hM | exact MT_t10 hM | exact MT_l10 hM) (gw_bip at271_17 (by decide) (gw_ia at271_19 (by first | exact Or.inl (by first | exact MT_0 hM | exact MT_now hM | exact MT_bt hM | exact MT_bl hM | exact MT_r0 hM | exact MT_t0 hM | exact MT_l0 hM | exact MT_r1 hM | exact MT_t1 hM | exact MT_l1 hM | exact MT_r2 hM | exact MT_t2 hM | exact MT_l2 hM | exact MT_r3 hM | exact MT_t3 hM | exact MT_l3 hM | exact MT_r4 hM | exact MT_t4 hM | exact MT_l4 hM | exact MT_r5 hM | exact MT_t5 hM | exact MT_l5 hM | exact MT_r6 hM | exact MT_t6 hM | exact MT_l6 hM | exact MT_r7 hM | exact MT_t7 hM | exact MT_l7 hM | exact MT_r8 hM | exact MT_t8 hM | exact MT_l8 hM | exact MT_r9 hM | exact MT_t9 hM | exact MT_l9 hM | exact MT_r10 hM | exact MT_t10 hM | exact MT_l10 hM) | exact Or.inr (by first | exact MT_0 hM | exact MT_now hM | exact MT_bt hM | exact MT_bl hM | exact MT_r0 hM | exact MT_t0 hM | exact MT_l0 hM | exact MT_r1 hM | exact MT_t1 hM | exact MT_l1 hM | exact MT_r2 hM | exact MT_t2 hM | exact MT_l2 hM | exact MT_r3 hM | exact MT_t3 hM | exact MT_l3 hM | exact MT_r4 hM | exact MT_t4 hM | exact MT_l4 hM | exact MT_r5 hM | exact MT_t5 hM | exact MT_l5 hM | exact MT_r6 hM | exact MT_t6 hM | exact MT_l6 hM | exact MT_r7 hM | exact MT_t7 hM | exact MT_l7 hM | exact MT_r8 hM | exact MT_t8 hM | exact MT_l8 hM | exact MT_r9 hM | exact MT_t9 hM | exact MT_l9 hM | exact MT_r10 hM | exact MT_t10 hM | exact MT_l10 hM)) (by first | exact MT_0 hM | exact MT_now hM | exact MT_bt hM | exact MT_bl hM | exact MT_r0 hM | exact MT_t0 hM | exact MT_l0 hM | exact MT_r1 hM | exact MT_t1 hM | exact MT_l1 hM | exact MT_r2 hM | exact MT_t2 hM | exact MT_l2 hM | exact MT_r3 hM | exact MT_t3 hM | exact MT_l3 hM | exact MT_r4 hM | exact MT_t4 hM | exact MT_l4 hM | exact MT_r5 hM | exact MT_t5 hM | exact MT_l5 hM | exact MT_r6 hM | exact MT_t6 hM | exact MT_l6 hM | exact MT_r7 hM | exact MT_t7 hM | exact MT_l7 hM | exact MT_r8 hM | exact MT_t8 hM | exact MT_l8 hM | exact MT_r9 hM | exact MT_t9 hM | exact MT_l9 hM | exact MT_r10 hM | exact MT_t10 hM | exact MT_l10 hM) (by first | omega | exact hc _ _ | exact bi_rg _ | exact zrg _) (by first | omega | exact hc _ _ | exact bi_rg _ | exact zrg _) (by omega) ?_))))))
    refine gw_cne at271_20 (by first | omega | exact hc _ _ | exact bi_rg _ | exact zrg _) (by first | omega | exact hc _ _ | exact bi_rg _ | exact zrg _) (fun q20 => ?_) (fun q20 => ?_)
    · refine gw_const at271_27 (gw_r0 at271_28 am_r271.2.1 (gR_b ?_))
      unfold mhe
      first | (rw [q5]; rfl) | (rw [q5]; simp; omega)
    · refine gw_const at271_23 (gw_goto at271_24 (gw_r1 at271_28 am_r271.2.1 (gR_b ?_)))
      unfold mhe
      first | (rw [q5]; rfl) | (rw [q5]; simp; omega)
set_option maxHeartbeats 1000000 in
theorem m_canReach {g : Nat} {T : gT} {c J : gC} {b : Nat} (hM : MT T b) (hc : RG c) (hV : NW c b) {n : Int} (hn : -2147483648 ≤ n ∧ n < 2147483648) : gE g 274 3 [.ref 500001, gi n] (gm T c J) (gR (gi (bi (mcr c b n))) (gm T c J)) := by
  refine gE_mk am_r274 rfl (Or.inr ⟨_, rfl, (by first | exact MT_0 hM | exact MT_now hM | exact MT_bt hM | exact MT_bl hM | exact MT_r0 hM | exact MT_t0 hM | exact MT_l0 hM | exact MT_r1 hM | exact MT_t1 hM | exact MT_l1 hM | exact MT_r2 hM | exact MT_t2 hM | exact MT_l2 hM | exact MT_r3 hM | exact MT_t3 hM | exact MT_l3 hM | exact MT_r4 hM | exact MT_t4 hM | exact MT_l4 hM | exact MT_r5 hM | exact MT_t5 hM | exact MT_l5 hM | exact MT_r6 hM | exact MT_t6 hM | exact MT_l6 hM | exact MT_r7 hM | exact MT_t7 hM | exact MT_l7 hM | exact MT_r8 hM | exact MT_t8 hM | exact MT_l8 hM | exact MT_r9 hM | exact MT_t9 hM | exact MT_l9 hM | exact MT_r10 hM | exact MT_t10 hM | exact MT_l10 hM)⟩) (fun d hd => ?_)
  show gw d g 274 0 [.ref 500001, gi n] [] _ _
  refine gw_al0 at274_0 (gw_il1 at274_1 (gw_callP2 at274_2 (m_isNode hM hc hV hn) (by omega) (Nat.le_of_ble_eq_true rfl) ?_))
  refine gw_beq at274_5 (fun q5 => ?_) (fun q5 => ?_)
  · refine gw_const at274_31 (gw_r0 at274_32 am_r274.2.1 (gR_b ?_))
    unfold mcr
    first | (rw [q5, q24]; rfl) | (rw [q5]; rfl)
  · refine gw_al0 at274_8 (gw_al0 at274_9 (gw_gr at274_10 (by first | exact MT_0 hM | exact MT_now hM | exact MT_bt hM | exact MT_bl hM | exact MT_r0 hM | exact MT_t0 hM | exact MT_l0 hM | exact MT_r1 hM | exact MT_t1 hM | exact MT_l1 hM | exact MT_r2 hM | exact MT_t2 hM | exact MT_l2 hM | exact MT_r3 hM | exact MT_t3 hM | exact MT_l3 hM | exact MT_r4 hM | exact MT_t4 hM | exact MT_l4 hM | exact MT_r5 hM | exact MT_t5 hM | exact MT_l5 hM | exact MT_r6 hM | exact MT_t6 hM | exact MT_l6 hM | exact MT_r7 hM | exact MT_t7 hM | exact MT_l7 hM | exact MT_r8 hM | exact MT_t8 hM | exact MT_l8 hM | exact MT_r9 hM | exact MT_t9 hM | exact MT_l9 hM | exact MT_r10 hM | exact MT_t10 hM | exact MT_l10 hM) (by first | exact MT_0 hM | exact MT_now hM | exact MT_bt hM | exact MT_bl hM | exact MT_r0 hM | exact MT_t0 hM | exact MT_l0 hM | exact MT_r1 hM | exact MT_t1 hM | exact MT_l1 hM | exact MT_r2 hM | exact MT_t2 hM | exact MT_l2 hM | exact MT_r3 hM | exact MT_t3 hM | exact MT_l3 hM | exact MT_r4 hM | exact MT_t4 hM | exact MT_l4 hM | exact MT_r5 hM | exact MT_t5 hM | exact MT_l5 hM | exact MT_r6 hM | exact MT_t6 hM | exact MT_l6 hM | exact MT_r7 hM | exact MT_t7 hM | exact MT_l7 hM | exact MT_r8 hM | exact MT_t8 hM | exact MT_l8 hM | exact MT_r9 hM | exact MT_t9 hM | exact MT_l9 hM | exact MT_r10 hM | exact MT_t10 hM | exact MT_l10 hM) (gw_bip at274_13 (by decide) (gw_ia at274_15 (by first | exact Or.inl (by first | exact MT_0 hM | exact MT_now hM | exact MT_bt hM | exact MT_bl hM | exact MT_r0 hM | exact MT_t0 hM | exact MT_l0 hM | exact MT_r1 hM | exact MT_t1 hM | exact MT_l1 hM | exact MT_r2 hM | exact MT_t2 hM | exact MT_l2 hM | exact MT_r3 hM | exact MT_t3 hM | exact MT_l3 hM | exact MT_r4 hM | exact MT_t4 hM | exact MT_l4 hM | exact MT_r5 hM | exact MT_t5 hM | exact MT_l5 hM | exact MT_r6 hM | exact MT_t6 hM | exact MT_l6 hM | exact MT_r7 hM | exact MT_t7 hM | exact MT_l7 hM | exact MT_r8 hM | exact MT_t8 hM | exact MT_l8 hM | exact MT_r9 hM | exact MT_t9 hM | exact MT_l9 hM | exact MT_r10 hM | exact MT_t10 hM | exact MT_l10 hM) | exact Or.inr (by first | exact MT_0 hM | exact MT_now hM | exact MT_bt hM | exact MT_bl hM | exact MT_r0 hM | exact MT_t0 hM | exact MT_l0 hM | exact MT_r1 hM | exact MT_t1 hM | exact MT_l1 hM | exact MT_r2 hM | exact MT_t2 hM | exact MT_l2 hM | exact MT_r3 hM | exact MT_t3 hM | exact MT_l3 hM | exact MT_r4 hM | exact MT_t4 hM | exact MT_l4 hM | exact MT_r5 hM | exact MT_t5 hM | exact MT_l5 hM | exact MT_r6 hM | exact MT_t6 hM | exact MT_l6 hM | exact MT_r7 hM | exact MT_t7 hM | exact MT_l7 hM | exact MT_r8 hM | exact MT_t8 hM | exact MT_l8 hM | exact MT_r9 hM | exact MT_t9 hM | exact MT_l9 hM | exact MT_r10 hM | exact MT_t10 hM | exact MT_l10 hM)) (by first | exact MT_0 hM | exact MT_now hM | exact MT_bt hM | exact MT_bl hM | exact MT_r0 hM | exact MT_t0 hM | exact MT_l0 hM | exact MT_r1 hM | exact MT_t1 hM | exact MT_l1 hM | exact MT_r2 hM | exact MT_t2 hM | exact MT_l2 hM | exact MT_r3 hM | exact MT_t3 hM | exact MT_l3 hM | exact MT_r4 hM | exact MT_t4 hM | exact MT_l4 hM | exact MT_r5 hM | exact MT_t5 hM | exact MT_l5 hM | exact MT_r6 hM | exact MT_t6 hM | exact MT_l6 hM | exact MT_r7 hM | exact MT_t7 hM | exact MT_l7 hM | exact MT_r8 hM | exact MT_t8 hM | exact MT_l8 hM | exact MT_r9 hM | exact MT_t9 hM | exact MT_l9 hM | exact MT_r10 hM | exact MT_t10 hM | exact MT_l10 hM) (by first | omega | exact hc _ _ | exact bi_rg _ | exact zrg _) (by first | omega | exact hc _ _ | exact bi_rg _ | exact zrg _) (by omega) (gw_const at274_16 (gw_callP3 at274_17 (m_reachedFrom hM hc hV (hc _ _) (by decide)) (by omega) (Nat.le_of_ble_eq_true rfl) (gw_il1 at274_20 (gw_callP2 at274_21 (m_hasBit) (by omega) (Nat.le_of_ble_eq_true rfl) ?_))))))))
    refine gw_beq at274_24 (fun q24 => ?_) (fun q24 => ?_)
    · refine gw_const at274_31 (gw_r0 at274_32 am_r274.2.1 (gR_b ?_))
      unfold mcr
      first | (rw [q5, q24]; rfl) | (rw [q5]; rfl)
    · refine gw_const at274_27 (gw_goto at274_28 (gw_r1 at274_32 am_r274.2.1 (gR_b ?_)))
      unfold mcr
      first | (rw [q5, q24]; rfl) | (rw [q5]; rfl)
set_option maxHeartbeats 1000000 in
theorem m_x_driveTime {g : Nat} {T : gT} {c J : gC} (hM : MT T 200000) (hc : RG c) (hV : NW c 200000) {a : Int} (ha : -2147483648 ≤ a ∧ a < 2147483648) {B : Int} (hW : WW c 200000 B) (hB : B ≤ 900000000) : gE g 272 5 [.ref 500001, gi a] (gm T c J) (fun o M1 => (mhA c 200000 a = true ∧ mhe c a = true ∧ o = .inl (some (gi (mse (tw c 0) 200000 a))) ∧ M1 = gm T (tw c 0) J) ∨ (mhA c 200000 a = true ∧ mhe c a = false ∧ o = .inl (some (gi 0)) ∧ M1 = gm T (tw c 2) J) ∨ (mhA c 200000 a = false ∧ o = .inl (some (gi 0)) ∧ M1 = gm T (tw c 1) J)) := by
  have t1 : RG (tw c 0) := tw_RG hc (by decide)
  have t0 : tw c 0 200000 = c 200000 := tw_k (by decide)
  have t2 : NW (tw c 0) 200000 := NW_of hV t0
  have v0 := hV.1.1
  have v1 := hV.1.2
  have tW : WW (tw c 0) 200000 B := WW_of hW t0
  have w1 := hW.1
  have w2 := hW.2.1
  have w3 := hW.2.2.1
  have t5 : tw c 0 200000 5 = c 200000 5 := by rw [t0]
  refine gE_mk am_r272 rfl (Or.inr ⟨_, rfl, (by first | exact MT_0 hM | exact MT_now hM | exact MT_bt hM | exact MT_bl hM | exact MT_r0 hM | exact MT_t0 hM | exact MT_l0 hM | exact MT_r1 hM | exact MT_t1 hM | exact MT_l1 hM | exact MT_r2 hM | exact MT_t2 hM | exact MT_l2 hM | exact MT_r3 hM | exact MT_t3 hM | exact MT_l3 hM | exact MT_r4 hM | exact MT_t4 hM | exact MT_l4 hM | exact MT_r5 hM | exact MT_t5 hM | exact MT_l5 hM | exact MT_r6 hM | exact MT_t6 hM | exact MT_l6 hM | exact MT_r7 hM | exact MT_t7 hM | exact MT_l7 hM | exact MT_r8 hM | exact MT_t8 hM | exact MT_l8 hM | exact MT_r9 hM | exact MT_t9 hM | exact MT_l9 hM | exact MT_r10 hM | exact MT_t10 hM | exact MT_l10 hM)⟩) (fun d hd => ?_)
  show gw d g 272 0 [.ref 500001, gi a] [] _ _
  refine gw_al0 at272_0 (gw_al0 at272_1 (gw_il1 at272_2 (gw_callP2 at272_3 (m_isArc hM hc hV (by omega)) (by omega) (Nat.le_of_ble_eq_true rfl) (gw_al0 at272_6 (gw_il1 at272_7 (gw_callP2 at272_8 (m_isHere hM hc hV ha) (by omega) (Nat.le_of_ble_eq_true rfl) ?_))))))
  refine gw_call3 at272_11 (m_pas2 hM hc (p := mhA c 200000 a) (q := mhe c a)) (by omega) (Nat.le_of_ble_eq_true rfl) (fun o M1 q11 => ?_)
  rcases q11 with ⟨hp11, hq11, rfl, rfl⟩ | ⟨hp11, hq11, rfl, rfl⟩ | ⟨hp11, rfl, rfl⟩
  · show gw _ _ _ _ _ (gi _ :: _) _ _
    refine gw_zeq at272_14 (by first | omega | exact hc _ _ | exact t1 _ _ | exact bi_rg _ | exact zrg _) (fun q14 => absurd q14 (by decide)) (fun q14 => ?_)
    refine gw_al0 at272_17 (gw_il1 at272_18 (gw_callP2 at272_19 (m_secondsOn hM t1 t2 tW (mhA_rg hV hp11)) (by omega) (Nat.le_of_ble_eq_true rfl) (gw_goto at272_22 (gw_ri at272_26 am_r272.2.1 ?_))))
    first
    | (have hh : mhA c 200000 a = true := by first | assumption | (simp [*]; done)
       have hh2 : mhe c a = true := by first | assumption | (simp [*]; done)
       exact Or.inl ⟨hh, hh2, by first | rfl | simp only [mhA_o t0, mbg_o t0, men_o t0, mln_o t0, mcl_o t0, mkd_o t0, mct_o t0, mrc_o t0, mcn_o t0, mrq_o t0, mno_o t0, mro_o t0, mfo_o t0], rfl⟩)
    | (have hh : mhA c 200000 a = true := by first | assumption | (simp [*]; done)
       exact Or.inr (Or.inl ⟨hh, by first | assumption | (simp [*]; done), rfl, rfl⟩))
    | exact Or.inr (Or.inr ⟨by first | assumption | (simp [*]; done), rfl, rfl⟩)
  · show gw _ _ _ _ _ (gi _ :: _) _ _
    refine gw_zeq at272_14 (by first | omega | exact hc _ _ | exact t1 _ _ | exact bi_rg _ | exact zrg _) (fun q14 => ?_) (fun q14 => absurd q14 (by decide))
    refine gw_const at272_25 (gw_ri at272_26 am_r272.2.1 ?_)
    first
    | (have hh : mhA c 200000 a = true := by first | assumption | (simp [*]; done)
       have hh2 : mhe c a = true := by first | assumption | (simp [*]; done)
       exact Or.inl ⟨hh, hh2, by first | rfl | simp only [mhA_o t0, mbg_o t0, men_o t0, mln_o t0, mcl_o t0, mkd_o t0, mct_o t0, mrc_o t0, mcn_o t0, mrq_o t0, mno_o t0, mro_o t0, mfo_o t0], rfl⟩)
    | (have hh : mhA c 200000 a = true := by first | assumption | (simp [*]; done)
       exact Or.inr (Or.inl ⟨hh, by first | assumption | (simp [*]; done), rfl, rfl⟩))
    | exact Or.inr (Or.inr ⟨by first | assumption | (simp [*]; done), rfl, rfl⟩)
  · show gw _ _ _ _ _ (gi _ :: _) _ _
    refine gw_zeq at272_14 (by first | omega | exact hc _ _ | exact t1 _ _ | exact bi_rg _ | exact zrg _) (fun q14 => ?_) (fun q14 => absurd q14 (by decide))
    refine gw_const at272_25 (gw_ri at272_26 am_r272.2.1 ?_)
    first
    | (have hh : mhA c 200000 a = true := by first | assumption | (simp [*]; done)
       have hh2 : mhe c a = true := by first | assumption | (simp [*]; done)
       exact Or.inl ⟨hh, hh2, by first | rfl | simp only [mhA_o t0, mbg_o t0, men_o t0, mln_o t0, mcl_o t0, mkd_o t0, mct_o t0, mrc_o t0, mcn_o t0, mrq_o t0, mno_o t0, mro_o t0, mfo_o t0], rfl⟩)
    | (have hh : mhA c 200000 a = true := by first | assumption | (simp [*]; done)
       exact Or.inr (Or.inl ⟨hh, by first | assumption | (simp [*]; done), rfl, rfl⟩))
    | exact Or.inr (Or.inr ⟨by first | assumption | (simp [*]; done), rfl, rfl⟩)
set_option maxHeartbeats 1000000 in
theorem m_x_drive {g : Nat} {T : gT} {c J : gC} (hM : MT T 200000) (hc : RG c) (hV : NW c 200000) {a : Int} (ha : -2147483648 ≤ a ∧ a < 2147483648) {B : Int} (hW : WW c 200000 B) (hB : B ≤ 900000000) (h13 : 0 ≤ c 500001 13 ∧ c 500001 13 ≤ 10) {s : Bool} : gE g 273 6 [.ref 500001, gi a, gi (bi s)] (gm T c J) (fun o M1 => (mhA c 200000 a = true ∧ mhe c a = true ∧ o = .inl (some (gi (mse (rem (tw c 0)) 200000 a))) ∧ M1 = gm T (mgo (rem (tw c 0)) 200000 a s) J) ∨ (mhA c 200000 a = true ∧ mhe c a = false ∧ o = .inl (some (gi 0)) ∧ M1 = gm T (tw c 2) J) ∨ (mhA c 200000 a = false ∧ o = .inl (some (gi 0)) ∧ M1 = gm T (tw c 1) J)) := by
  have t1 : RG (tw c 0) := tw_RG hc (by decide)
  have t0 : tw c 0 200000 = c 200000 := tw_k (by decide)
  have t2 : NW (tw c 0) 200000 := NW_of hV t0
  have v0 := hV.1.1
  have v1 := hV.1.2
  have tW : WW (tw c 0) 200000 B := WW_of hW t0
  have w1 := hW.1
  have w2 := hW.2.1
  have w3 := hW.2.2.1
  have t5 : tw c 0 200000 5 = c 200000 5 := by rw [t0]
  have e13 : tw c 0 500001 13 = c 500001 13 := gu_j (by decide)
  have r1 : RG (rem (tw c 0)) := rem_RG t1 (by rw [e13]; exact h13)
  have r0 : rem (tw c 0) 200000 = c 200000 := by rw [rem_o (by decide) (by decide), t0]
  have r2 : NW (rem (tw c 0)) 200000 := NW_of hV r0
  have rW : WW (rem (tw c 0)) 200000 B := WW_of hW r0
  refine gE_mk am_r273 rfl (Or.inr ⟨_, rfl, (by first | exact MT_0 hM | exact MT_now hM | exact MT_bt hM | exact MT_bl hM | exact MT_r0 hM | exact MT_t0 hM | exact MT_l0 hM | exact MT_r1 hM | exact MT_t1 hM | exact MT_l1 hM | exact MT_r2 hM | exact MT_t2 hM | exact MT_l2 hM | exact MT_r3 hM | exact MT_t3 hM | exact MT_l3 hM | exact MT_r4 hM | exact MT_t4 hM | exact MT_l4 hM | exact MT_r5 hM | exact MT_t5 hM | exact MT_l5 hM | exact MT_r6 hM | exact MT_t6 hM | exact MT_l6 hM | exact MT_r7 hM | exact MT_t7 hM | exact MT_l7 hM | exact MT_r8 hM | exact MT_t8 hM | exact MT_l8 hM | exact MT_r9 hM | exact MT_t9 hM | exact MT_l9 hM | exact MT_r10 hM | exact MT_t10 hM | exact MT_l10 hM)⟩) (fun d hd => ?_)
  show gw d g 273 0 [.ref 500001, gi a, gi (bi s)] [] _ _
  refine gw_al0 at273_0 (gw_al0 at273_1 (gw_il1 at273_2 (gw_callP2 at273_3 (m_isArc hM hc hV (by omega)) (by omega) (Nat.le_of_ble_eq_true rfl) (gw_al0 at273_6 (gw_il1 at273_7 (gw_callP2 at273_8 (m_isHere hM hc hV ha) (by omega) (Nat.le_of_ble_eq_true rfl) ?_))))))
  refine gw_call3 at273_11 (m_pas2 hM hc (p := mhA c 200000 a) (q := mhe c a)) (by omega) (Nat.le_of_ble_eq_true rfl) (fun o M1 q11 => ?_)
  rcases q11 with ⟨hp11, hq11, rfl, rfl⟩ | ⟨hp11, hq11, rfl, rfl⟩ | ⟨hp11, rfl, rfl⟩
  · show gw _ _ _ _ _ (gi _ :: _) _ _
    refine gw_zne at273_14 (by first | omega | exact hc _ _ | exact t1 _ _ | exact bi_rg _ | exact zrg _) (fun q14 => ?_) (fun q14 => absurd q14 (by decide))
    refine gw_al0 at273_19 ?_
    refine gw_call1 at273_20 (m_rem hM t1 (by rw [e13]; exact h13)) (by omega) (Nat.le_of_ble_eq_true rfl) (fun o M1 q20 => ?_)
    obtain ⟨rfl, rfl⟩ := q20
    show gw _ _ _ _ _ [] _ _
    refine gw_al0 at273_23 (gw_il1 at273_24 (gw_il2 at273_25 ?_))
    refine gw_call3 at273_26 (m_go hM r1 r2 rW (by omega) (mhA_rg hV hp11) (s := s)) (by omega) (Nat.le_of_ble_eq_true rfl) (fun o M1 q26 => ?_)
    obtain ⟨rfl, rfl⟩ := q26
    show gw _ _ _ _ _ (gi _ :: _) _ _
    refine gw_ri at273_29 am_r273.2.1 ?_
    first
    | (have hh : mhA c 200000 a = true := by first | assumption | (simp [*]; done)
       have hh2 : mhe c a = true := by first | assumption | (simp [*]; done)
       exact Or.inl ⟨hh, hh2, by first | rfl | simp only [mhA_o t0, mbg_o t0, men_o t0, mln_o t0, mcl_o t0, mkd_o t0, mct_o t0, mrc_o t0, mcn_o t0, mrq_o t0, mno_o t0, mro_o t0, mfo_o t0], rfl⟩)
    | (have hh : mhA c 200000 a = true := by first | assumption | (simp [*]; done)
       exact Or.inr (Or.inl ⟨hh, by first | assumption | (simp [*]; done), rfl, rfl⟩))
    | exact Or.inr (Or.inr ⟨by first | assumption | (simp [*]; done), rfl, rfl⟩)
  · show gw _ _ _ _ _ (gi _ :: _) _ _
    refine gw_zne at273_14 (by first | omega | exact hc _ _ | exact t1 _ _ | exact bi_rg _ | exact zrg _) (fun q14 => absurd q14 (by decide)) (fun q14 => ?_)
    refine gw_const at273_17 (gw_ri at273_18 am_r273.2.1 ?_)
    first
    | (have hh : mhA c 200000 a = true := by first | assumption | (simp [*]; done)
       have hh2 : mhe c a = true := by first | assumption | (simp [*]; done)
       exact Or.inl ⟨hh, hh2, by first | rfl | simp only [mhA_o t0, mbg_o t0, men_o t0, mln_o t0, mcl_o t0, mkd_o t0, mct_o t0, mrc_o t0, mcn_o t0, mrq_o t0, mno_o t0, mro_o t0, mfo_o t0], rfl⟩)
    | (have hh : mhA c 200000 a = true := by first | assumption | (simp [*]; done)
       exact Or.inr (Or.inl ⟨hh, by first | assumption | (simp [*]; done), rfl, rfl⟩))
    | exact Or.inr (Or.inr ⟨by first | assumption | (simp [*]; done), rfl, rfl⟩)
  · show gw _ _ _ _ _ (gi _ :: _) _ _
    refine gw_zne at273_14 (by first | omega | exact hc _ _ | exact t1 _ _ | exact bi_rg _ | exact zrg _) (fun q14 => absurd q14 (by decide)) (fun q14 => ?_)
    refine gw_const at273_17 (gw_ri at273_18 am_r273.2.1 ?_)
    first
    | (have hh : mhA c 200000 a = true := by first | assumption | (simp [*]; done)
       have hh2 : mhe c a = true := by first | assumption | (simp [*]; done)
       exact Or.inl ⟨hh, hh2, by first | rfl | simp only [mhA_o t0, mbg_o t0, men_o t0, mln_o t0, mcl_o t0, mkd_o t0, mct_o t0, mrc_o t0, mcn_o t0, mrq_o t0, mno_o t0, mro_o t0, mfo_o t0], rfl⟩)
    | (have hh : mhA c 200000 a = true := by first | assumption | (simp [*]; done)
       exact Or.inr (Or.inl ⟨hh, by first | assumption | (simp [*]; done), rfl, rfl⟩))
    | exact Or.inr (Or.inr ⟨by first | assumption | (simp [*]; done), rfl, rfl⟩)
