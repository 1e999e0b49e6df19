set_option maxHeartbeats 1000000 in
theorem c_word87 {d g : Nat} {T : gT} {c J : gC} (hd : 0 ≤ d) (hk : c 100032 9 = -1) (hA : AT T) (hc : RG c) (hB : BR c 100000) (he : 0 ≤ c 100032 7 ∧ c 100032 7 ≤ c 100000 1) : gw d g 52 108 [.ref 100032, gi 0] [] (gm T (gu (gu (gu c 100032 5 1) 100032 8 (wmv c (c 100032 7) (wen c (c 100032 7)))) 100032 7 (wen c (c 100032 7))) J) (fun o M1 => o = .inl none ∧ M1 = gm T (tkw c) J) := by
  obtain ⟨r1, r2, r3, r4⟩ := rn_ok (p := ibt c 97 122) ibt_lt he.1 he.2 hB.2
  have hb := hB.2
  have hw := wmv_rg (c := c) (e := c 100032 7) (i := wen c (c 100032 7)) r1 (fun j a b => (ibt_b (r4 j a b)).2)
  have hw2 := bw_le (wen c (c 100032 7) - c 100032 7)
  have lp108 : ∀ i : Int, 0 ≤ i → i ≤ 9 → gw d g 52 108 [.ref 100032, gi i] [] (gm T (gu (gu (gu (gu c 100032 5 1) 100032 8 (wmv c (c 100032 7) (wen c (c 100032 7)))) 100032 7 (wen c (c 100032 7))) 100032 9 (itI (fun i k => if c 100033 i = wmv c (c 100032 7) (wen c (c 100032 7)) then i else k) (-1) i)) J) (fun o M1 => o = .inl none ∧ M1 = gm T (tkw c) J) := by
    refine ind_up 9 ?_
    intro i hi0 hi1 ih
    have hkr := kwd_rg (c := c) (v := wmv c (c 100032 7) (wen c (c 100032 7))) (i := i)
    refine gw_il1 at52_108 ?_
    refine gw_al0 at52_109 (gw_gr at52_110 (by first | exact AT_0 hA | exact AT_r0 hA | exact AT_r1 hA | exact AT_r2 hA | exact AT_t hA | exact AT_l hA | exact AT_b0 hA | exact AT_b1 hA | exact AT_b2 hA | exact AT_b3 hA) (by first | exact AT_0 hA | exact AT_r0 hA | exact AT_r1 hA | exact AT_r2 hA | exact AT_t hA | exact AT_l hA | exact AT_b0 hA | exact AT_b1 hA | exact AT_b2 hA | exact AT_b3 hA) (gw_len at52_113 (by first | exact Or.inl (by first | exact AT_0 hA | exact AT_r0 hA | exact AT_r1 hA | exact AT_r2 hA | exact AT_t hA | exact AT_l hA | exact AT_b0 hA | exact AT_b1 hA | exact AT_b2 hA | exact AT_b3 hA) | exact Or.inr (Or.inl (by first | exact AT_0 hA | exact AT_r0 hA | exact AT_r1 hA | exact AT_r2 hA | exact AT_t hA | exact AT_l hA | exact AT_b0 hA | exact AT_b1 hA | exact AT_b2 hA | exact AT_b3 hA)) | exact Or.inr (Or.inr (Or.inr (Or.inr (Or.inl (by first | exact AT_0 hA | exact AT_r0 hA | exact AT_r1 hA | exact AT_r2 hA | exact AT_t hA | exact AT_l hA | exact AT_b0 hA | exact AT_b1 hA | exact AT_b2 hA | exact AT_b3 hA))))) | exact Or.inr (Or.inr (Or.inr (Or.inr (Or.inr (by first | exact AT_0 hA | exact AT_r0 hA | exact AT_r1 hA | exact AT_r2 hA | exact AT_t hA | exact AT_l hA | exact AT_b0 hA | exact AT_b1 hA | exact AT_b2 hA | exact AT_b3 hA)))))) (by first | exact AT_0 hA | exact AT_r0 hA | exact AT_r1 hA | exact AT_r2 hA | exact AT_t hA | exact AT_l hA | exact AT_b0 hA | exact AT_b1 hA | exact AT_b2 hA | exact AT_b3 hA) rfl ?_))
    refine gw_cge at52_114 (by first | omega | exact hc _ _) (by first | omega | exact hc _ _) (fun q114 => ?_) (fun q114 => ?_)
    · refine gw_rv at52_141 am_r52.2.1 ⟨rfl, ?_⟩
      have e : i = 9 := by omega
      subst e
      rfl
    · refine gw_al0 at52_117 (gw_gr at52_118 (by first | exact AT_0 hA | exact AT_r0 hA | exact AT_r1 hA | exact AT_r2 hA | exact AT_t hA | exact AT_l hA | exact AT_b0 hA | exact AT_b1 hA | exact AT_b2 hA | exact AT_b3 hA) (by first | exact AT_0 hA | exact AT_r0 hA | exact AT_r1 hA | exact AT_r2 hA | exact AT_t hA | exact AT_l hA | exact AT_b0 hA | exact AT_b1 hA | exact AT_b2 hA | exact AT_b3 hA) (gw_il1 at52_121 (gw_ia at52_122 (by first | exact Or.inl (by first | exact AT_0 hA | exact AT_r0 hA | exact AT_r1 hA | exact AT_r2 hA | exact AT_t hA | exact AT_l hA | exact AT_b0 hA | exact AT_b1 hA | exact AT_b2 hA | exact AT_b3 hA) | exact Or.inr (by first | exact AT_0 hA | exact AT_r0 hA | exact AT_r1 hA | exact AT_r2 hA | exact AT_t hA | exact AT_l hA | exact AT_b0 hA | exact AT_b1 hA | exact AT_b2 hA | exact AT_b3 hA)) (by first | exact AT_0 hA | exact AT_r0 hA | exact AT_r1 hA | exact AT_r2 hA | exact AT_t hA | exact AT_l hA | exact AT_b0 hA | exact AT_b1 hA | exact AT_b2 hA | exact AT_b3 hA) (by first | omega | exact hc _ _) (by first | omega | exact hc _ _) (by omega) ?_)))
      rw [show (gu (gu (gu (gu c 100032 5 1) 100032 8 (wmv c (c 100032 7) (wen c (c 100032 7)))) 100032 7 (wen c (c 100032 7))) 100032 9 (itI (fun i k => if c 100033 i = wmv c (c 100032 7) (wen c (c 100032 7)) then i else k) (-1) i)) 100033 i = c 100033 i by simp (disch := omega) only [gu_k]]
      refine gw_al0 at52_123 (gw_gf (j := 8) at52_124 (by first | exact AT_0 hA | exact AT_r0 hA | exact AT_r1 hA | exact AT_r2 hA | exact AT_t hA | exact AT_l hA | exact AT_b0 hA | exact AT_b1 hA | exact AT_b2 hA | exact AT_b3 hA) rfl ?_)
      rw [gu_j (by decide), gu_j (by decide), gu_s]
      refine gw_cne at52_127 (by first | omega | exact hc _ _) (by first | omega | exact hc _ _) (fun q127 => ?_) (fun q127 => ?_)
      · refine gw_inc1 at52_135 (h := (gw_goto at52_138 ?_))
        have h8 := ih (i + 1) (by omega) (by omega)
        rw [itI_s _ _ hi0] at h8
        first | (rw [if_pos q127] at h8; rw [gu_gu]; exact h8) | (rw [if_neg q127] at h8; exact h8)
      · refine gw_al0 at52_130 (gw_il1 at52_131 (gw_pf (j := 9) at52_132 (by first | exact AT_0 hA | exact AT_r0 hA | exact AT_r1 hA | exact AT_r2 hA | exact AT_t hA | exact AT_l hA | exact AT_b0 hA | exact AT_b1 hA | exact AT_b2 hA | exact AT_b3 hA) rfl (gw_inc1 at52_135 (h := (gw_goto at52_138 ?_)))))
        have h8 := ih (i + 1) (by omega) (by omega)
        rw [itI_s _ _ hi0] at h8
        first | (rw [if_pos q127] at h8; rw [gu_gu]; exact h8) | (rw [if_neg q127] at h8; exact h8)
  have h9 := lp108 0 (by decide) (by decide)
  rw [itI_0] at h9
  have h8 := gu_id (c := gu (gu (gu c 100032 5 1) 100032 8 (wmv c (c 100032 7) (wen c (c 100032 7)))) 100032 7 (wen c (c 100032 7))) (k := 100032) (j := 9)
  rw [gu_j (by decide), gu_j (by decide), gu_j (by decide), hk] at h8
  rw [h8] at h9
  exact h9
set_option maxHeartbeats 1000000 in
theorem c_takeWord {g : Nat} {T : gT} {c J : gC} (hA : AT T) (hc : RG c) (hB : BR c 100000) (he : 0 ≤ c 100032 7 ∧ c 100032 7 ≤ c 100000 1) (hs : c 100032 6 = c 100032 7) (hk : c 100032 9 = -1) : gE g 52 1 [.ref 100032] (gm T c J) (fun o M1 => o = .inl none ∧ M1 = gm T (tkw c) J) := by
  obtain ⟨r1, r2, r3, r4⟩ := rn_ok (p := ibt c 97 122) ibt_lt he.1 he.2 hB.2
  have hb := hB.2
  have hw := wmv_rg (c := c) (e := c 100032 7) (i := wen c (c 100032 7)) r1 (fun j a b => (ibt_b (r4 j a b)).2)
  have hw2 := bw_le (wen c (c 100032 7) - c 100032 7)
  refine gE_mk am_r52 rfl (Or.inr ⟨_, rfl, (by first | exact AT_0 hA | exact AT_r0 hA | exact AT_r1 hA | exact AT_r2 hA | exact AT_t hA | exact AT_l hA | exact AT_b0 hA | exact AT_b1 hA | exact AT_b2 hA | exact AT_b3 hA)⟩) (fun d hd => ?_)
  show gw d g 52 0 [.ref 100032, am_U] [] _ _
  refine gw_al0 at52_0 (gw_const at52_1 (gw_pf (j := 5) at52_2 (by first | exact AT_0 hA | exact AT_r0 hA | exact AT_r1 hA | exact AT_r2 hA | exact AT_t hA | exact AT_l hA | exact AT_b0 hA | exact AT_b1 hA | exact AT_b2 hA | exact AT_b3 hA) rfl (gw_al0 at52_5 (gw_const at52_6 (gw_pf (j := 8) at52_7 (by first | exact AT_0 hA | exact AT_r0 hA | exact AT_r1 hA | exact AT_r2 hA | exact AT_t hA | exact AT_l hA | exact AT_b0 hA | exact AT_b1 hA | exact AT_b2 hA | exact AT_b3 hA) rfl ?_)))))
  have lp10 : ∀ i : Int, 0 ≤ i → i ≤ 1200 → c 100032 7 ≤ i → i ≤ wen c (c 100032 7) → ∀ u : Value, gw d g 52 10 [.ref 100032, u] [] (gm T (gu (gu (gu c 100032 5 1) 100032 8 (wmv c (c 100032 7) i)) 100032 7 (i)) J) (fun o M1 => o = .inl none ∧ M1 = gm T (tkw c) J) := by
    refine ind_up 1200 ?_
    intro i hi0 hi1 ih hi2 hi3 u
    have r5 := wmv_rg (c := c) hi2 (fun j a b => (ibt_b (r4 j a (by unfold wen at hi3; omega))).2)
    have r6 := bw_le (i - c 100032 7)
    have hM0 : (gu (gu (gu c 100032 5 1) 100032 8 (wmv c (c 100032 7) i)) 100032 7 (i)) 100000 = c 100000 := by funext j; simp (disch := omega) only [gu_k]
    have hM1 : (gu (gu (gu c 100032 5 1) 100032 8 (wmv c (c 100032 7) i)) 100032 7 (i)) 100001 = c 100001 := by funext j; simp (disch := omega) only [gu_k]
    
    refine gw_al0 at52_10 ?_
    refine gw_gf (j := 7) at52_11 (by first | exact AT_0 hA | exact AT_r0 hA | exact AT_r1 hA | exact AT_r2 hA | exact AT_t hA | exact AT_l hA | exact AT_b0 hA | exact AT_b1 hA | exact AT_b2 hA | exact AT_b3 hA) rfl (gw_al0 at52_14 (gw_gr at52_15 (by first | exact AT_0 hA | exact AT_r0 hA | exact AT_r1 hA | exact AT_r2 hA | exact AT_t hA | exact AT_l hA | exact AT_b0 hA | exact AT_b1 hA | exact AT_b2 hA | exact AT_b3 hA) (by first | exact AT_0 hA | exact AT_r0 hA | exact AT_r1 hA | exact AT_r2 hA | exact AT_t hA | exact AT_l hA | exact AT_b0 hA | exact AT_b1 hA | exact AT_b2 hA | exact AT_b3 hA) (gw_gf (j := 1) at52_18 (by first | exact AT_0 hA | exact AT_r0 hA | exact AT_r1 hA | exact AT_r2 hA | exact AT_t hA | exact AT_l hA | exact AT_b0 hA | exact AT_b1 hA | exact AT_b2 hA | exact AT_b3 hA) rfl ?_)))
    simp (disch := omega) only [gu_k, gu_j, gu_s]
    refine gw_cge at52_21 (by first | omega | exact hc _ _) (by first | omega | exact hc _ _) (fun q21 => ?_) (fun q21 => ?_)
    · have e0 : ibt c 97 122 i = false := by first | exact q39 | exact ibt_out (by omega)
      have e : i = wen c (c 100032 7) := by
        by_cases a : i < wen c (c 100032 7)
        · have := r4 i hi2 a
          rw [this] at e0
          cases e0
        · omega
      rw [e]
      exact gw_const at52_106 (gw_is1 at52_107 (h := c_word87 (by omega) hk hA hc hB he))
    · refine gw_al0 at52_24 (gw_gr at52_25 (by first | exact AT_0 hA | exact AT_r0 hA | exact AT_r1 hA | exact AT_r2 hA | exact AT_t hA | exact AT_l hA | exact AT_b0 hA | exact AT_b1 hA | exact AT_b2 hA | exact AT_b3 hA) (by first | exact AT_0 hA | exact AT_r0 hA | exact AT_r1 hA | exact AT_r2 hA | exact AT_t hA | exact AT_l hA | exact AT_b0 hA | exact AT_b1 hA | exact AT_b2 hA | exact AT_b3 hA) (gw_gr at52_28 (by first | exact AT_0 hA | exact AT_r0 hA | exact AT_r1 hA | exact AT_r2 hA | exact AT_t hA | exact AT_l hA | exact AT_b0 hA | exact AT_b1 hA | exact AT_b2 hA | exact AT_b3 hA) (by first | exact AT_0 hA | exact AT_r0 hA | exact AT_r1 hA | exact AT_r2 hA | exact AT_t hA | exact AT_l hA | exact AT_b0 hA | exact AT_b1 hA | exact AT_b2 hA | exact AT_b3 hA) (gw_al0 at52_31 (gw_gf (j := 7) at52_32 (by first | exact AT_0 hA | exact AT_r0 hA | exact AT_r1 hA | exact AT_r2 hA | exact AT_t hA | exact AT_l hA | exact AT_b0 hA | exact AT_b1 hA | exact AT_b2 hA | exact AT_b3 hA) rfl ?_))))
      simp (disch := omega) only [gu_k, gu_j, gu_s]
      refine gw_ba at52_35 (by first | exact Or.inl (by first | exact AT_0 hA | exact AT_r0 hA | exact AT_r1 hA | exact AT_r2 hA | exact AT_t hA | exact AT_l hA | exact AT_b0 hA | exact AT_b1 hA | exact AT_b2 hA | exact AT_b3 hA) | exact Or.inr (by first | exact AT_0 hA | exact AT_r0 hA | exact AT_r1 hA | exact AT_r2 hA | exact AT_t hA | exact AT_l hA | exact AT_b0 hA | exact AT_b1 hA | exact AT_b2 hA | exact AT_b3 hA)) (by first | exact AT_0 hA | exact AT_r0 hA | exact AT_r1 hA | exact AT_r2 hA | exact AT_t hA | exact AT_l hA | exact AT_b0 hA | exact AT_b1 hA | exact AT_b2 hA | exact AT_b3 hA) (by first | omega | exact hc _ _) (by first | omega | exact hc _ _) (by omega) ?_
      simp (disch := omega) only [gu_k, gu_j, gu_s]
      refine gw_callP1 at52_36 (c_isLetter (hc _ _)) (by omega) (Nat.le_of_ble_eq_true rfl) ?_
      rw [← ibt_in (c := c) (l := 97) (h := 122) (i := i) (by omega)]
      refine gw_beq at52_39 (fun q39 => ?_) (fun q39 => ?_)
      · have e0 : ibt c 97 122 i = false := by first | exact q39 | exact ibt_out (by omega)
        have e : i = wen c (c 100032 7) := by
          by_cases a : i < wen c (c 100032 7)
          · have := r4 i hi2 a
            rw [this] at e0
            cases e0
          · omega
        rw [e]
        exact gw_const at52_106 (gw_is1 at52_107 (h := c_word87 (by omega) hk hA hc hB he))
      · have q19 := ibt_b q39
        have q20 : ¬ i = wen c (c 100032 7) := fun e => by rw [e] at q39; unfold wen at q39; rw [q39] at r3; cases r3
        refine gw_al0 at52_42 (gw_gf (j := 7) at52_43 (by first | exact AT_0 hA | exact AT_r0 hA | exact AT_r1 hA | exact AT_r2 hA | exact AT_t hA | exact AT_l hA | exact AT_b0 hA | exact AT_b1 hA | exact AT_b2 hA | exact AT_b3 hA) rfl ?_)
        simp (disch := omega) only [gu_k, gu_j, gu_s]
        refine gw_al0 at52_46 (gw_gf (j := 6) at52_47 (by first | exact AT_0 hA | exact AT_r0 hA | exact AT_r1 hA | exact AT_r2 hA | exact AT_t hA | exact AT_l hA | exact AT_b0 hA | exact AT_b1 hA | exact AT_b2 hA | exact AT_b3 hA) rfl ?_)
        simp (disch := omega) only [gu_k, gu_j, gu_s]
        rw [hs]
        refine gw_isub at52_50 (gw_bip at52_51 (by decide) ?_)
        refine gw_cge at52_53 (by first | omega | exact hc _ _) (by first | omega | exact hc _ _) (fun q53 => ?_) (fun q53 => ?_)
        · refine gw_const at52_60 (gw_is1 at52_61 (h := (gw_al0 at52_62 (gw_il1 at52_63 ?_))))
          refine gw_zeq at52_64 (by first | omega | exact hc _ _) (fun q64 => ?_) (fun q64 => absurd q64 (by decide))
          refine gw_const at52_89 (gw_pf (j := 8) at52_90 (by first | exact AT_0 hA | exact AT_r0 hA | exact AT_r1 hA | exact AT_r2 hA | exact AT_t hA | exact AT_l hA | exact AT_b0 hA | exact AT_b1 hA | exact AT_b2 hA | exact AT_b3 hA) rfl (gw_al0 at52_93 (gw_dupr at52_94 (gw_gf (j := 7) at52_95 (by first | exact AT_0 hA | exact AT_r0 hA | exact AT_r1 hA | exact AT_r2 hA | exact AT_t hA | exact AT_l hA | exact AT_b0 hA | exact AT_b1 hA | exact AT_b2 hA | exact AT_b3 hA) rfl ?_))))
          simp (disch := omega) only [gu_k, gu_j, gu_s]
          refine gw_const at52_98 (gw_iadd at52_99 (gw_pf (j := 7) at52_100 (by first | exact AT_0 hA | exact AT_r0 hA | exact AT_r1 hA | exact AT_r2 hA | exact AT_t hA | exact AT_l hA | exact AT_b0 hA | exact AT_b1 hA | exact AT_b2 hA | exact AT_b3 hA) rfl (gw_goto at52_103 ?_)))
          rw [gu_st (by decide)]
          have h8 := ih (i + 1) (by omega) (by omega) (by omega) (by omega) (gi 0)
          have h7 := ih (i + 1) (by omega) (by omega) (by omega) (by omega) (gi 1)
          rw [wmv_s hi2] at h7 h8
          first | (rw [if_pos (by omega)] at h7; exact h7) | (rw [if_neg (by omega)] at h8; exact h8)
        · refine gw_const at52_56 (gw_goto at52_57 (gw_is1 at52_61 (h := (gw_al0 at52_62 (gw_il1 at52_63 ?_)))))
          refine gw_zeq at52_64 (by first | omega | exact hc _ _) (fun q64 => absurd q64 (by decide)) (fun q64 => ?_)
          refine gw_al0 at52_67 (gw_gf (j := 8) at52_68 (by first | exact AT_0 hA | exact AT_r0 hA | exact AT_r1 hA | exact AT_r2 hA | exact AT_t hA | exact AT_l hA | exact AT_b0 hA | exact AT_b1 hA | exact AT_b2 hA | exact AT_b3 hA) rfl ?_)
          simp (disch := omega) only [gu_k, gu_j, gu_s]
          refine gw_al0 at52_71 (gw_gr at52_72 (by first | exact AT_0 hA | exact AT_r0 hA | exact AT_r1 hA | exact AT_r2 hA | exact AT_t hA | exact AT_l hA | exact AT_b0 hA | exact AT_b1 hA | exact AT_b2 hA | exact AT_b3 hA) (by first | exact AT_0 hA | exact AT_r0 hA | exact AT_r1 hA | exact AT_r2 hA | exact AT_t hA | exact AT_l hA | exact AT_b0 hA | exact AT_b1 hA | exact AT_b2 hA | exact AT_b3 hA) (gw_gr at52_75 (by first | exact AT_0 hA | exact AT_r0 hA | exact AT_r1 hA | exact AT_r2 hA | exact AT_t hA | exact AT_l hA | exact AT_b0 hA | exact AT_b1 hA | exact AT_b2 hA | exact AT_b3 hA) (by first | exact AT_0 hA | exact AT_r0 hA | exact AT_r1 hA | exact AT_r2 hA | exact AT_t hA | exact AT_l hA | exact AT_b0 hA | exact AT_b1 hA | exact AT_b2 hA | exact AT_b3 hA) (gw_al0 at52_78 (gw_gf (j := 7) at52_79 (by first | exact AT_0 hA | exact AT_r0 hA | exact AT_r1 hA | exact AT_r2 hA | exact AT_t hA | exact AT_l hA | exact AT_b0 hA | exact AT_b1 hA | exact AT_b2 hA | exact AT_b3 hA) rfl ?_))))
          simp (disch := omega) only [gu_k, gu_j, gu_s]
          refine gw_ba at52_82 (by first | exact Or.inl (by first | exact AT_0 hA | exact AT_r0 hA | exact AT_r1 hA | exact AT_r2 hA | exact AT_t hA | exact AT_l hA | exact AT_b0 hA | exact AT_b1 hA | exact AT_b2 hA | exact AT_b3 hA) | exact Or.inr (by first | exact AT_0 hA | exact AT_r0 hA | exact AT_r1 hA | exact AT_r2 hA | exact AT_t hA | exact AT_l hA | exact AT_b0 hA | exact AT_b1 hA | exact AT_b2 hA | exact AT_b3 hA)) (by first | exact AT_0 hA | exact AT_r0 hA | exact AT_r1 hA | exact AT_r2 hA | exact AT_t hA | exact AT_l hA | exact AT_b0 hA | exact AT_b1 hA | exact AT_b2 hA | exact AT_b3 hA) (by first | omega | exact hc _ _) (by first | omega | exact hc _ _) (by omega) ?_
          simp (disch := omega) only [gu_k, gu_j, gu_s]
          refine gw_callP2 at52_83 (c_nameWith) (by omega) (Nat.le_of_ble_eq_true rfl) (gw_goto at52_86 (gw_pf (j := 8) at52_90 (by first | exact AT_0 hA | exact AT_r0 hA | exact AT_r1 hA | exact AT_r2 hA | exact AT_t hA | exact AT_l hA | exact AT_b0 hA | exact AT_b1 hA | exact AT_b2 hA | exact AT_b3 hA) rfl (gw_al0 at52_93 (gw_dupr at52_94 (gw_gf (j := 7) at52_95 (by first | exact AT_0 hA | exact AT_r0 hA | exact AT_r1 hA | exact AT_r2 hA | exact AT_t hA | exact AT_l hA | exact AT_b0 hA | exact AT_b1 hA | exact AT_b2 hA | exact AT_b3 hA) rfl ?_)))))
          simp (disch := omega) only [gu_k, gu_j, gu_s]
          refine gw_const at52_98 (gw_iadd at52_99 (gw_pf (j := 7) at52_100 (by first | exact AT_0 hA | exact AT_r0 hA | exact AT_r1 hA | exact AT_r2 hA | exact AT_t hA | exact AT_l hA | exact AT_b0 hA | exact AT_b1 hA | exact AT_b2 hA | exact AT_b3 hA) rfl (gw_goto at52_103 ?_)))
          rw [gu_st (by decide)]
          have h8 := ih (i + 1) (by omega) (by omega) (by omega) (by omega) (gi 0)
          have h7 := ih (i + 1) (by omega) (by omega) (by omega) (by omega) (gi 1)
          rw [wmv_s hi2] at h7 h8
          first | (rw [if_pos (by omega)] at h7; exact h7) | (rw [if_neg (by omega)] at h8; exact h8)
  have h9 := lp10 (c 100032 7) he.1 (by omega) (Int.le_refl _) r1 am_U
  rw [show wmv c (c 100032 7) (c 100032 7) = 0 by unfold wmv; rw [Int.sub_self]; rfl, show gu (gu (gu c 100032 5 1) 100032 8 0) 100032 7 (c 100032 7) = gu (gu c 100032 5 1) 100032 8 0 from by have := gu_id (c := gu (gu c 100032 5 1) 100032 8 0) (k := 100032) (j := 7); rwa [gu_j (by decide), gu_j (by decide)] at this] at h9
  exact h9
