set_option maxHeartbeats 1000000 in
theorem m_pa72 {d g : Nat} {T : gT} {J : gC} (hd : 4 ≤ d) {m : gC} (hM : MT T 200000) (rr : RG m) {n k i : Int} (hi : -2147483648 ≤ i ∧ i < 2147483648) {b1 : Bool} (h7 : 0 ≤ m 500001 7 ∧ m 500001 7 ≤ 24) : gw d g 220 72 [.ref 500001, gi n, gi k, gi i, gi (bi b1)] [] (gm T m J) (fun o M1 => ((b1 && inr i 0 (m 500001 7 - 1)) = true ∧ o = .inl (some (gi (m 200004 i))) ∧ M1 = gm T (tw m 0) J) ∨ ((b1 && inr i 0 (m 500001 7 - 1)) = false ∧ o = .inl (some (gi 0)) ∧ M1 = gm T (tw m 2) J)) := by
  refine gw_al0 at220_72 (gw_const at220_73 (gw_il4 at220_74 ?_))
  refine gw_beq at220_76 (fun q76 => ?_) (fun q76 => ?_)
  · refine gw_const at220_99 ?_
    refine gw_call3 at220_100 (m_pas2 hM rr (p := true) (q := false)) (by omega) (Nat.le_of_ble_eq_true rfl) (fun o M1 q100 => ?_)
    rcases q100 with ⟨-, hq, -⟩ | ⟨-, -, rfl, rfl⟩ | ⟨hp, -⟩
    · cases hq
    · show gw _ _ _ _ _ (gi _ :: _) _ _
      refine gw_zeq at220_103 (by first | omega | exact rr _ _ | exact bi_rg _) (fun q103 => ?_) (fun q103 => absurd q103 (by decide))
      refine gw_const at220_115 (gw_ri at220_116 am_r220.2.1 ?_)
      first | exact Or.inl ⟨by rw [q76, q92]; rfl, rfl, rfl⟩ | exact Or.inr ⟨by rw [q76, q92]; rfl, rfl, rfl⟩ | exact Or.inr ⟨by rw [q76]; rfl, rfl, rfl⟩
    · cases hp
  · refine gw_il3 at220_79 (gw_i2l at220_80 (by first | omega | exact rr _ _ | exact bi_rg _) (gw_lconst (z := 0) at220_81 rfl (gw_al0 at220_82 (gw_gf (j := 7) at220_83 (by first | exact MT_0 hM | exact MT_now hM | exact MT_bt hM | exact MT_bl hM | exact MT_r0 hM | exact MT_t0 hM | exact MT_l0 hM | exact MT_r1 hM | exact MT_t1 hM | exact MT_l1 hM | exact MT_r2 hM | exact MT_t2 hM | exact MT_l2 hM | exact MT_r3 hM | exact MT_t3 hM | exact MT_l3 hM | exact MT_r4 hM | exact MT_t4 hM | exact MT_l4 hM | exact MT_r5 hM | exact MT_t5 hM | exact MT_l5 hM | exact MT_r6 hM | exact MT_t6 hM | exact MT_l6 hM | exact MT_r7 hM | exact MT_t7 hM | exact MT_l7 hM | exact MT_r8 hM | exact MT_t8 hM | exact MT_l8 hM | exact MT_r9 hM | exact MT_t9 hM | exact MT_l9 hM | exact MT_r10 hM | exact MT_t10 hM | exact MT_l10 hM) rfl (gw_const at220_86 (gw_isub at220_87 (gw_i2l at220_88 (by first | omega | exact rr _ _ | exact bi_rg _) (gw_callP3 at220_89 (m_in (by omega) (by omega) (by omega)) (by omega) (Nat.le_of_ble_eq_true rfl) ?_))))))))
    refine gw_beq at220_92 (fun q92 => ?_) (fun q92 => ?_)
    · refine gw_const at220_99 ?_
      refine gw_call3 at220_100 (m_pas2 hM rr (p := true) (q := false)) (by omega) (Nat.le_of_ble_eq_true rfl) (fun o M1 q100 => ?_)
      rcases q100 with ⟨-, hq, -⟩ | ⟨-, -, rfl, rfl⟩ | ⟨hp, -⟩
      · cases hq
      · show gw _ _ _ _ _ (gi _ :: _) _ _
        refine gw_zeq at220_103 (by first | omega | exact rr _ _ | exact bi_rg _) (fun q103 => ?_) (fun q103 => absurd q103 (by decide))
        refine gw_const at220_115 (gw_ri at220_116 am_r220.2.1 ?_)
        first | exact Or.inl ⟨by rw [q76, q92]; rfl, rfl, rfl⟩ | exact Or.inr ⟨by rw [q76, q92]; rfl, rfl, rfl⟩ | exact Or.inr ⟨by rw [q76]; rfl, rfl, rfl⟩
      · cases hp
    · refine gw_const at220_95 (gw_goto at220_96 ?_)
      refine gw_call3 at220_100 (m_pas2 hM rr (p := true) (q := true)) (by omega) (Nat.le_of_ble_eq_true rfl) (fun o M1 q100 => ?_)
      rcases q100 with ⟨-, -, rfl, rfl⟩ | ⟨-, hq, -⟩ | ⟨hp, -⟩
      · show gw _ _ _ _ _ (gi _ :: _) _ _
        refine gw_zeq at220_103 (by first | omega | exact rr _ _ | exact bi_rg _) (fun q103 => absurd q103 (by decide)) (fun q103 => ?_)
        have hi9 := inr_t.mp q92
        refine gw_al0 at220_106 (gw_gr at220_107 (by first | exact MT_0 hM | exact MT_now hM | exact MT_bt hM | exact MT_bl hM | exact MT_r0 hM | exact MT_t0 hM | exact MT_l0 hM | exact MT_r1 hM | exact MT_t1 hM | exact MT_l1 hM | exact MT_r2 hM | exact MT_t2 hM | exact MT_l2 hM | exact MT_r3 hM | exact MT_t3 hM | exact MT_l3 hM | exact MT_r4 hM | exact MT_t4 hM | exact MT_l4 hM | exact MT_r5 hM | exact MT_t5 hM | exact MT_l5 hM | exact MT_r6 hM | exact MT_t6 hM | exact MT_l6 hM | exact MT_r7 hM | exact MT_t7 hM | exact MT_l7 hM | exact MT_r8 hM | exact MT_t8 hM | exact MT_l8 hM | exact MT_r9 hM | exact MT_t9 hM | exact MT_l9 hM | exact MT_r10 hM | exact MT_t10 hM | exact MT_l10 hM) (by first | exact MT_0 hM | exact MT_now hM | exact MT_bt hM | exact MT_bl hM | exact MT_r0 hM | exact MT_t0 hM | exact MT_l0 hM | exact MT_r1 hM | exact MT_t1 hM | exact MT_l1 hM | exact MT_r2 hM | exact MT_t2 hM | exact MT_l2 hM | exact MT_r3 hM | exact MT_t3 hM | exact MT_l3 hM | exact MT_r4 hM | exact MT_t4 hM | exact MT_l4 hM | exact MT_r5 hM | exact MT_t5 hM | exact MT_l5 hM | exact MT_r6 hM | exact MT_t6 hM | exact MT_l6 hM | exact MT_r7 hM | exact MT_t7 hM | exact MT_l7 hM | exact MT_r8 hM | exact MT_t8 hM | exact MT_l8 hM | exact MT_r9 hM | exact MT_t9 hM | exact MT_l9 hM | exact MT_r10 hM | exact MT_t10 hM | exact MT_l10 hM) (gw_il3 at220_110 (gw_ia at220_111 (by first | exact Or.inl (by first | exact MT_0 hM | exact MT_now hM | exact MT_bt hM | exact MT_bl hM | exact MT_r0 hM | exact MT_t0 hM | exact MT_l0 hM | exact MT_r1 hM | exact MT_t1 hM | exact MT_l1 hM | exact MT_r2 hM | exact MT_t2 hM | exact MT_l2 hM | exact MT_r3 hM | exact MT_t3 hM | exact MT_l3 hM | exact MT_r4 hM | exact MT_t4 hM | exact MT_l4 hM | exact MT_r5 hM | exact MT_t5 hM | exact MT_l5 hM | exact MT_r6 hM | exact MT_t6 hM | exact MT_l6 hM | exact MT_r7 hM | exact MT_t7 hM | exact MT_l7 hM | exact MT_r8 hM | exact MT_t8 hM | exact MT_l8 hM | exact MT_r9 hM | exact MT_t9 hM | exact MT_l9 hM | exact MT_r10 hM | exact MT_t10 hM | exact MT_l10 hM) | exact Or.inr (by first | exact MT_0 hM | exact MT_now hM | exact MT_bt hM | exact MT_bl hM | exact MT_r0 hM | exact MT_t0 hM | exact MT_l0 hM | exact MT_r1 hM | exact MT_t1 hM | exact MT_l1 hM | exact MT_r2 hM | exact MT_t2 hM | exact MT_l2 hM | exact MT_r3 hM | exact MT_t3 hM | exact MT_l3 hM | exact MT_r4 hM | exact MT_t4 hM | exact MT_l4 hM | exact MT_r5 hM | exact MT_t5 hM | exact MT_l5 hM | exact MT_r6 hM | exact MT_t6 hM | exact MT_l6 hM | exact MT_r7 hM | exact MT_t7 hM | exact MT_l7 hM | exact MT_r8 hM | exact MT_t8 hM | exact MT_l8 hM | exact MT_r9 hM | exact MT_t9 hM | exact MT_l9 hM | exact MT_r10 hM | exact MT_t10 hM | exact MT_l10 hM)) (by first | exact MT_0 hM | exact MT_now hM | exact MT_bt hM | exact MT_bl hM | exact MT_r0 hM | exact MT_t0 hM | exact MT_l0 hM | exact MT_r1 hM | exact MT_t1 hM | exact MT_l1 hM | exact MT_r2 hM | exact MT_t2 hM | exact MT_l2 hM | exact MT_r3 hM | exact MT_t3 hM | exact MT_l3 hM | exact MT_r4 hM | exact MT_t4 hM | exact MT_l4 hM | exact MT_r5 hM | exact MT_t5 hM | exact MT_l5 hM | exact MT_r6 hM | exact MT_t6 hM | exact MT_l6 hM | exact MT_r7 hM | exact MT_t7 hM | exact MT_l7 hM | exact MT_r8 hM | exact MT_t8 hM | exact MT_l8 hM | exact MT_r9 hM | exact MT_t9 hM | exact MT_l9 hM | exact MT_r10 hM | exact MT_t10 hM | exact MT_l10 hM) (by first | omega | exact rr _ _ | exact bi_rg _) (by first | omega | exact rr _ _ | exact bi_rg _) (by omega) ?_)))
        rw [show tw m 0 200004 i = m 200004 i from gu_k (by decide)]
        refine gw_goto at220_112 (gw_ri at220_116 am_r220.2.1 ?_)
        first | exact Or.inl ⟨by rw [q76, q92]; rfl, rfl, rfl⟩ | exact Or.inr ⟨by rw [q76, q92]; rfl, rfl, rfl⟩ | exact Or.inr ⟨by rw [q76]; rfl, rfl, rfl⟩
      · cases hq
      · cases hp
set_option maxHeartbeats 1000000 in
theorem m_x_pathArc {g : Nat} {T : gT} {c J : gC} (hM : MT T 200000) (hc : RG c) (hV : NW c 200000) {n k i : Int} (hn : -2147483648 ≤ n ∧ n < 2147483648) (hk : -2147483648 ≤ k ∧ k < 2147483648) (hi : -2147483648 ≤ i ∧ i < 2147483648) (hO : (mno c 200000 n && mno c 200000 k) = true → LO (mll (tw c 0) 200000) 200000 (24 + k)) (h7 : 0 ≤ c 500001 7 ∧ c 500001 7 ≤ 24) : gE g 220 7 [.ref 500001, gi n, gi k, gi i] (gm T c J) (fun o M1 => ((mno c 200000 n && mno c 200000 k) = true ∧ ∃ m : gC, (((decide (¬ n = k) && decide (mcw (mll (tw c 0) 200000) 200000 n k < 1000000000)) = true ∧ m = (lrt (mll (tw c 0) 200000) 200000 n (-1) (24 + k) 24).2) ∨ ((decide (¬ n = k) && decide (mcw (mll (tw c 0) 200000) 200000 n k < 1000000000)) = false ∧ m = (mll (tw c 0) 200000))) ∧ ((((decide (¬ n = k) && decide (mcw (mll (tw c 0) 200000) 200000 n k < 1000000000)) && inr i 0 (m 500001 7 - 1)) = true ∧ o = .inl (some (gi (m 200004 i))) ∧ M1 = gm T (tw m 0) J) ∨ (((decide (¬ n = k) && decide (mcw (mll (tw c 0) 200000) 200000 n k < 1000000000)) && inr i 0 (m 500001 7 - 1)) = false ∧ o = .inl (some (gi 0)) ∧ M1 = gm T (tw m 2) J))) ∨ ((mno c 200000 n && mno c 200000 k) = false ∧ o = .inl (some (gi 0)) ∧ M1 = gm T (tw c 1) J)) := by
  have t1 : RG (tw c 0) := tw_RG hc (by decide)
  have t0 : tw c 0 200000 = c 200000 := tw_k (by decide)
  have t2 : NW (tw c 0) 200000 := NW_of hV t0
  have v0 := hV.1.1
  have v1 := hV.1.2
  obtain ⟨⟨g1, g2⟩, g3⟩ := mll_ok t1 t2
  have g0 : mll (tw c 0) 200000 200000 = c 200000 := by rw [g2 200000 (by decide), t0]
  have g4 : NW (mll (tw c 0) 200000) 200000 := NW_of hV g0
  refine gE_mk am_r220 rfl (Or.inr ⟨_, rfl, (by first | exact MT_0 hM | exact MT_now hM | exact MT_bt hM | exact MT_bl hM | exact MT_r0 hM | exact MT_t0 hM | exact MT_l0 hM | exact MT_r1 hM | exact MT_t1 hM | exact MT_l1 hM | exact MT_r2 hM | exact MT_t2 hM | exact MT_l2 hM | exact MT_r3 hM | exact MT_t3 hM | exact MT_l3 hM | exact MT_r4 hM | exact MT_t4 hM | exact MT_l4 hM | exact MT_r5 hM | exact MT_t5 hM | exact MT_l5 hM | exact MT_r6 hM | exact MT_t6 hM | exact MT_l6 hM | exact MT_r7 hM | exact MT_t7 hM | exact MT_l7 hM | exact MT_r8 hM | exact MT_t8 hM | exact MT_l8 hM | exact MT_r9 hM | exact MT_t9 hM | exact MT_l9 hM | exact MT_r10 hM | exact MT_t10 hM | exact MT_l10 hM)⟩) (fun d hd => ?_)
  show gw d g 220 0 [.ref 500001, gi n, gi k, gi i, am_U] [] _ _
  refine gw_al0 at220_0 (gw_al0 at220_1 (gw_il1 at220_2 (gw_callP2 at220_3 (m_isNode hM hc hV (by omega)) (by omega) (Nat.le_of_ble_eq_true rfl) ?_)))
  refine gw_beq at220_6 (fun q6 => ?_) (fun q6 => ?_)
  · refine gw_const at220_21 ?_
    refine gw_call2 at220_22 (m_pas1 hM hc (p := false)) (by omega) (Nat.le_of_ble_eq_true rfl) (fun o M1 q22 => ?_)
    rcases q22 with ⟨hp, -, -⟩ | ⟨-, rfl, rfl⟩
    · cases hp
    · show gw _ _ _ _ _ (gi _ :: _) _ _
      refine gw_zne at220_25 (by first | omega | exact bi_rg _ | exact hc _ _) (fun q25 => absurd q25 (by decide)) (fun q25 => ?_)
      refine gw_const at220_28 (gw_ri at220_29 am_r220.2.1 ?_)
      exact Or.inr ⟨by first | (rw [q6, q14]; rfl) | (rw [q6]; rfl), rfl, rfl⟩
  · refine gw_al0 at220_9 (gw_il2 at220_10 (gw_callP2 at220_11 (m_isNode hM hc hV (by omega)) (by omega) (Nat.le_of_ble_eq_true rfl) ?_))
    refine gw_beq at220_14 (fun q14 => ?_) (fun q14 => ?_)
    · refine gw_const at220_21 ?_
      refine gw_call2 at220_22 (m_pas1 hM hc (p := false)) (by omega) (Nat.le_of_ble_eq_true rfl) (fun o M1 q22 => ?_)
      rcases q22 with ⟨hp, -, -⟩ | ⟨-, rfl, rfl⟩
      · cases hp
      · show gw _ _ _ _ _ (gi _ :: _) _ _
        refine gw_zne at220_25 (by first | omega | exact bi_rg _ | exact hc _ _) (fun q25 => absurd q25 (by decide)) (fun q25 => ?_)
        refine gw_const at220_28 (gw_ri at220_29 am_r220.2.1 ?_)
        exact Or.inr ⟨by first | (rw [q6, q14]; rfl) | (rw [q6]; rfl), rfl, rfl⟩
    · refine gw_const at220_17 (gw_goto at220_18 ?_)
      refine gw_call2 at220_22 (m_pas1 hM hc (p := true)) (by omega) (Nat.le_of_ble_eq_true rfl) (fun o M1 q22 => ?_)
      rcases q22 with ⟨-, rfl, rfl⟩ | ⟨hp, -, -⟩
      · show gw _ _ _ _ _ (gi _ :: _) _ _
        refine gw_zne at220_25 (by first | omega | exact bi_rg _ | exact hc _ _) (fun q25 => ?_) (fun q25 => absurd q25 (by decide))
        refine gw_al0 at220_30 ?_
        refine gw_call1 at220_31 (m_layLeast hM t1 t2) (by omega) (Nat.le_of_ble_eq_true rfl) (fun o M1 q31 => ?_)
        obtain ⟨rfl, rfl⟩ := q31
        show gw _ _ _ _ _ _ _ _
        refine gw_il1 at220_34 (gw_il2 at220_35 ?_)
        refine gw_ceq at220_36 (by first | omega | exact bi_rg _ | exact hc _ _) (by first | omega | exact bi_rg _ | exact hc _ _) (fun q36 => ?_) (fun q36 => ?_)
        · refine gw_const at220_54 (gw_is4 at220_55 (h := (gw_il4 at220_57 ?_)))
          refine gw_zeq at220_59 (by first | omega | exact bi_rg _ | exact hc _ _) (fun q59 => ?_) (fun q59 => absurd q59 (by decide))
          have hP : (mno c 200000 n && mno c 200000 k) = true := by rw [q6, q14]; rfl
          first
          | (have hI : (decide (¬ n = k) && decide (mcw (mll (tw c 0) 200000) 200000 n k < 1000000000)) = true := by rw [decide_eq_true (by omega : ¬ n = k), decide_eq_true (by omega : mcw (mll (tw c 0) 200000) 200000 n k < 1000000000)]; rfl
             obtain ⟨t1, t2, t3, t4, t5⟩ := lrt_24 g1 g4 g3 (by have := mno_rg hV q14; omega) (hO hP) hn (by decide) hm9
             refine gw_mono (m_pa72 (b1 := true) (by omega) hM t1 hi t4) (fun o M1 h => Or.inl ⟨hP, _, Or.inl ⟨hI, rfl⟩, ?_⟩)
             rw [hI]
             exact h)
          | (have hI : (decide (¬ n = k) && decide (mcw (mll (tw c 0) 200000) 200000 n k < 1000000000)) = false := by first | (rw [decide_eq_false (by omega : ¬ ¬ n = k)]; rfl) | (rw [decide_eq_false (by omega : ¬ mcw (mll (tw c 0) 200000) 200000 n k < 1000000000), Bool.and_false])
             have u7 : (mll (tw c 0) 200000) 500001 7 = c 500001 7 := by rw [g2 500001 (by decide)]; exact gu_j (by decide)
             refine gw_mono (m_pa72 (b1 := false) (by omega) hM g1 hi (by rw [u7]; exact h7)) (fun o M1 h => Or.inl ⟨hP, _, Or.inr ⟨hI, rfl⟩, ?_⟩)
             rw [hI]
             exact h)
        · refine gw_al0 at220_39 (gw_il1 at220_40 (gw_il2 at220_41 (gw_callP3 at220_42 (m_costBetween hM g1 g4 g3 hn (mno_rg hV q14)) (by omega) (Nat.le_of_ble_eq_true rfl) ?_)))
          have hw9 := mcw_rg (f := n) (t := k) g4 g3 (mno_rg hV q14).1
          refine gw_ldc (z := 1000000000) at220_45 (by decide) ?_
          refine gw_cge at220_47 (by first | omega | exact bi_rg _ | exact hc _ _) (by first | omega | exact bi_rg _ | exact hc _ _) (fun q47 => ?_) (fun q47 => ?_)
          · refine gw_const at220_54 (gw_is4 at220_55 (h := (gw_il4 at220_57 ?_)))
            refine gw_zeq at220_59 (by first | omega | exact bi_rg _ | exact hc _ _) (fun q59 => ?_) (fun q59 => absurd q59 (by decide))
            have hP : (mno c 200000 n && mno c 200000 k) = true := by rw [q6, q14]; rfl
            first
            | (have hI : (decide (¬ n = k) && decide (mcw (mll (tw c 0) 200000) 200000 n k < 1000000000)) = true := by rw [decide_eq_true (by omega : ¬ n = k), decide_eq_true (by omega : mcw (mll (tw c 0) 200000) 200000 n k < 1000000000)]; rfl
               obtain ⟨t1, t2, t3, t4, t5⟩ := lrt_24 g1 g4 g3 (by have := mno_rg hV q14; omega) (hO hP) hn (by decide) hm9
               refine gw_mono (m_pa72 (b1 := true) (by omega) hM t1 hi t4) (fun o M1 h => Or.inl ⟨hP, _, Or.inl ⟨hI, rfl⟩, ?_⟩)
               rw [hI]
               exact h)
            | (have hI : (decide (¬ n = k) && decide (mcw (mll (tw c 0) 200000) 200000 n k < 1000000000)) = false := by first | (rw [decide_eq_false (by omega : ¬ ¬ n = k)]; rfl) | (rw [decide_eq_false (by omega : ¬ mcw (mll (tw c 0) 200000) 200000 n k < 1000000000), Bool.and_false])
               have u7 : (mll (tw c 0) 200000) 500001 7 = c 500001 7 := by rw [g2 500001 (by decide)]; exact gu_j (by decide)
               refine gw_mono (m_pa72 (b1 := false) (by omega) hM g1 hi (by rw [u7]; exact h7)) (fun o M1 h => Or.inl ⟨hP, _, Or.inr ⟨hI, rfl⟩, ?_⟩)
               rw [hI]
               exact h)
          · refine gw_const at220_50 (gw_goto at220_51 (gw_is4 at220_55 (h := (gw_il4 at220_57 ?_))))
            refine gw_zeq at220_59 (by first | omega | exact bi_rg _ | exact hc _ _) (fun q59 => absurd q59 (by decide)) (fun q59 => ?_)
            have hm9 : mcf (mll (tw c 0) 200000) 200000 n (-1) (24 + k) < 1000000000 := by
              have e9 : mcw (mll (tw c 0) 200000) 200000 n k = mcf (mll (tw c 0) 200000) 200000 n (-1) (24 + k) := if_neg (by omega)
              omega
            refine gw_al0 at220_62 (gw_il1 at220_63 (gw_const at220_64 (gw_bip at220_65 (by decide) (gw_il2 at220_67 (gw_iadd at220_68 ?_)))))
            refine gw_call4 at220_69 (m_layRoute hM g1 g4 g3 hn (by decide) (by have := mno_rg hV q14; omega) (hO (by rw [q6, q14]; rfl)) hm9 (mcf_pos g4 g3 (by have := mno_rg hV q14; omega) (hO (by rw [q6, q14]; rfl)))) (by omega) (Nat.le_of_ble_eq_true rfl) (fun o M1 q69 => ?_)
            obtain ⟨rfl, rfl⟩ := q69
            show gw _ _ _ _ _ [] _ _
            have hP : (mno c 200000 n && mno c 200000 k) = true := by rw [q6, q14]; rfl
            first
            | (have hI : (decide (¬ n = k) && decide (mcw (mll (tw c 0) 200000) 200000 n k < 1000000000)) = true := by rw [decide_eq_true (by omega : ¬ n = k), decide_eq_true (by omega : mcw (mll (tw c 0) 200000) 200000 n k < 1000000000)]; rfl
               obtain ⟨t1, t2, t3, t4, t5⟩ := lrt_24 g1 g4 g3 (by have := mno_rg hV q14; omega) (hO hP) hn (by decide) hm9
               refine gw_mono (m_pa72 (b1 := true) (by omega) hM t1 hi t4) (fun o M1 h => Or.inl ⟨hP, _, Or.inl ⟨hI, rfl⟩, ?_⟩)
               rw [hI]
               exact h)
            | (have hI : (decide (¬ n = k) && decide (mcw (mll (tw c 0) 200000) 200000 n k < 1000000000)) = false := by first | (rw [decide_eq_false (by omega : ¬ ¬ n = k)]; rfl) | (rw [decide_eq_false (by omega : ¬ mcw (mll (tw c 0) 200000) 200000 n k < 1000000000), Bool.and_false])
               have u7 : (mll (tw c 0) 200000) 500001 7 = c 500001 7 := by rw [g2 500001 (by decide)]; exact gu_j (by decide)
               refine gw_mono (m_pa72 (b1 := false) (by omega) hM g1 hi (by rw [u7]; exact h7)) (fun o M1 h => Or.inl ⟨hP, _, Or.inr ⟨hI, rfl⟩, ?_⟩)
               rw [hI]
               exact h)
      · cases hp
