set_option maxHeartbeats 1000000 in
theorem c_word87 {d g : Nat} {T : gT} {c J : gC} (hd : 0 ≤ d) (hk : c 100032 9 = -1) (hA : AT T) (hc : RG c) (hB : BR c 100000) (he : 0 ≤ c 100032 7 ∧ c 100032 7 ≤ c 100000 1) : gw d g 52 87 [.ref 100032, gi 0] [] (gm T (gu (gu (gu c 100032 5 1) 100032 8 (wmv c (c 100032 7) (wen c (c 100032 7)))) 100032 7 (wen c (c 100032 7))) J) (fun o M1 => o = .inl none ∧ M1 = gm T (tkw c) J) := by
  obtain ⟨r1, r2, r3, r4⟩ := rn_ok (p := ibt c 97 122) ibt_lt he.1 he.2 hB.2
  have hb := hB.2
  have hw := wmv_rg (c := c) (e := c 100032 7) (i := wen c (c 100032 7)) r1 (fun j a b => (ibt_b (r4 j a b)).2)
  have hw2 := bw_le (wen c (c 100032 7) - c 100032 7)
  have lp87 : ∀ i : Int, 0 ≤ i → i ≤ 9 → gw d g 52 87 [.ref 100032, gi i] [] (gm T (gu (gu (gu (gu c 100032 5 1) 100032 8 (wmv c (c 100032 7) (wen c (c 100032 7)))) 100032 7 (wen c (c 100032 7))) 100032 9 (itI (fun i k => if c 100033 i = wmv c (c 100032 7) (wen c (c 100032 7)) then i else k) (-1) i)) J) (fun o M1 => o = .inl none ∧ M1 = gm T (tkw c) J) := by
    refine ind_up 9 ?_
    intro i hi0 hi1 ih
    have hkr := kwd_rg (c := c) (v := wmv c (c 100032 7) (wen c (c 100032 7))) (i := i)
    refine gw_il1 at52_87 ?_
    refine gw_al0 at52_88 (gw_gr at52_89 (by first | exact AT_0 hA | exact AT_r0 hA | exact AT_r1 hA | exact AT_r2 hA | exact AT_t hA | exact AT_l hA | exact AT_b0 hA | exact AT_b1 hA | exact AT_b2 hA | exact AT_b3 hA) (by first | exact AT_0 hA | exact AT_r0 hA | exact AT_r1 hA | exact AT_r2 hA | exact AT_t hA | exact AT_l hA | exact AT_b0 hA | exact AT_b1 hA | exact AT_b2 hA | exact AT_b3 hA) (gw_len at52_92 (by first | exact Or.inl (by first | exact AT_0 hA | exact AT_r0 hA | exact AT_r1 hA | exact AT_r2 hA | exact AT_t hA | exact AT_l hA | exact AT_b0 hA | exact AT_b1 hA | exact AT_b2 hA | exact AT_b3 hA) | exact Or.inr (Or.inl (by first | exact AT_0 hA | exact AT_r0 hA | exact AT_r1 hA | exact AT_r2 hA | exact AT_t hA | exact AT_l hA | exact AT_b0 hA | exact AT_b1 hA | exact AT_b2 hA | exact AT_b3 hA)) | exact Or.inr (Or.inr (Or.inr (Or.inr (Or.inl (by first | exact AT_0 hA | exact AT_r0 hA | exact AT_r1 hA | exact AT_r2 hA | exact AT_t hA | exact AT_l hA | exact AT_b0 hA | exact AT_b1 hA | exact AT_b2 hA | exact AT_b3 hA))))) | exact Or.inr (Or.inr (Or.inr (Or.inr (Or.inr (by first | exact AT_0 hA | exact AT_r0 hA | exact AT_r1 hA | exact AT_r2 hA | exact AT_t hA | exact AT_l hA | exact AT_b0 hA | exact AT_b1 hA | exact AT_b2 hA | exact AT_b3 hA)))))) (by first | exact AT_0 hA | exact AT_r0 hA | exact AT_r1 hA | exact AT_r2 hA | exact AT_t hA | exact AT_l hA | exact AT_b0 hA | exact AT_b1 hA | exact AT_b2 hA | exact AT_b3 hA) rfl ?_))
    refine gw_cge at52_93 (by first | omega | exact hc _ _) (by first | omega | exact hc _ _) (fun q93 => ?_) (fun q93 => ?_)
    · refine gw_rv at52_120 am_r52.2.1 ⟨rfl, ?_⟩
      have e : i = 9 := by omega
      subst e
      rfl
    · refine gw_al0 at52_96 (gw_gr at52_97 (by first | exact AT_0 hA | exact AT_r0 hA | exact AT_r1 hA | exact AT_r2 hA | exact AT_t hA | exact AT_l hA | exact AT_b0 hA | exact AT_b1 hA | exact AT_b2 hA | exact AT_b3 hA) (by first | exact AT_0 hA | exact AT_r0 hA | exact AT_r1 hA | exact AT_r2 hA | exact AT_t hA | exact AT_l hA | exact AT_b0 hA | exact AT_b1 hA | exact AT_b2 hA | exact AT_b3 hA) (gw_il1 at52_100 (gw_ia at52_101 (by first | exact Or.inl (by first | exact AT_0 hA | exact AT_r0 hA | exact AT_r1 hA | exact AT_r2 hA | exact AT_t hA | exact AT_l hA | exact AT_b0 hA | exact AT_b1 hA | exact AT_b2 hA | exact AT_b3 hA) | exact Or.inr (by first | exact AT_0 hA | exact AT_r0 hA | exact AT_r1 hA | exact AT_r2 hA | exact AT_t hA | exact AT_l hA | exact AT_b0 hA | exact AT_b1 hA | exact AT_b2 hA | exact AT_b3 hA)) (by first | exact AT_0 hA | exact AT_r0 hA | exact AT_r1 hA | exact AT_r2 hA | exact AT_t hA | exact AT_l hA | exact AT_b0 hA | exact AT_b1 hA | exact AT_b2 hA | exact AT_b3 hA) (by first | omega | exact hc _ _) (by first | omega | exact hc _ _) (by omega) ?_)))
      rw [show (gu (gu (gu (gu c 100032 5 1) 100032 8 (wmv c (c 100032 7) (wen c (c 100032 7)))) 100032 7 (wen c (c 100032 7))) 100032 9 (itI (fun i k => if c 100033 i = wmv c (c 100032 7) (wen c (c 100032 7)) then i else k) (-1) i)) 100033 i = c 100033 i by simp (disch := omega) only [gu_k]]
      refine gw_al0 at52_102 (gw_gf (j := 8) at52_103 (by first | exact AT_0 hA | exact AT_r0 hA | exact AT_r1 hA | exact AT_r2 hA | exact AT_t hA | exact AT_l hA | exact AT_b0 hA | exact AT_b1 hA | exact AT_b2 hA | exact AT_b3 hA) rfl ?_)
      rw [gu_j (by decide), gu_j (by decide), gu_s]
      refine gw_cne at52_106 (by first | omega | exact hc _ _) (by first | omega | exact hc _ _) (fun q106 => ?_) (fun q106 => ?_)
      · refine gw_inc1 at52_114 (h := (gw_goto at52_117 ?_))
        have h8 := ih (i + 1) (by omega) (by omega)
        rw [itI_s _ _ hi0] at h8
        first | (rw [if_pos q106] at h8; rw [gu_gu]; exact h8) | (rw [if_neg q106] at h8; exact h8)
      · refine gw_al0 at52_109 (gw_il1 at52_110 (gw_pf (j := 9) at52_111 (by first | exact AT_0 hA | exact AT_r0 hA | exact AT_r1 hA | exact AT_r2 hA | exact AT_t hA | exact AT_l hA | exact AT_b0 hA | exact AT_b1 hA | exact AT_b2 hA | exact AT_b3 hA) rfl (gw_inc1 at52_114 (h := (gw_goto at52_117 ?_)))))
        have h8 := ih (i + 1) (by omega) (by omega)
        rw [itI_s _ _ hi0] at h8
        first | (rw [if_pos q106] at h8; rw [gu_gu]; exact h8) | (rw [if_neg q106] at h8; exact h8)
  have h9 := lp87 0 (by decide) (by decide)
  rw [itI_0] at h9
  have h8 := gu_id (c := gu (gu (gu c 100032 5 1) 100032 8 (wmv c (c 100032 7) (wen c (c 100032 7)))) 100032 7 (wen c (c 100032 7))) (k := 100032) (j := 9)
  rw [gu_j (by decide), gu_j (by decide), gu_j (by decide), hk] at h8
  rw [h8] at h9
  exact h9
set_option maxHeartbeats 1000000 in
theorem c_takeWord {g : Nat} {T : gT} {c J : gC} (hA : AT T) (hc : RG c) (hB : BR c 100000) (he : 0 ≤ c 100032 7 ∧ c 100032 7 ≤ c 100000 1) (hs : c 100032 6 = c 100032 7) (hk : c 100032 9 = -1) : gE g 52 1 [.ref 100032] (gm T c J) (fun o M1 => o = .inl none ∧ M1 = gm T (tkw c) J) := by
  obtain ⟨r1, r2, r3, r4⟩ := rn_ok (p := ibt c 97 122) ibt_lt he.1 he.2 hB.2
  have hb := hB.2
  have hw := wmv_rg (c := c) (e := c 100032 7) (i := wen c (c 100032 7)) r1 (fun j a b => (ibt_b (r4 j a b)).2)
  have hw2 := bw_le (wen c (c 100032 7) - c 100032 7)
  refine gE_mk am_r52 rfl (Or.inr ⟨_, rfl, (by first | exact AT_0 hA | exact AT_r0 hA | exact AT_r1 hA | exact AT_r2 hA | exact AT_t hA | exact AT_l hA | exact AT_b0 hA | exact AT_b1 hA | exact AT_b2 hA | exact AT_b3 hA)⟩) (fun d hd => ?_)
  show gw d g 52 0 [.ref 100032, am_U] [] _ _
  refine gw_al0 at52_0 (gw_const at52_1 (gw_pf (j := 5) at52_2 (by first | exact AT_0 hA | exact AT_r0 hA | exact AT_r1 hA | exact AT_r2 hA | exact AT_t hA | exact AT_l hA | exact AT_b0 hA | exact AT_b1 hA | exact AT_b2 hA | exact AT_b3 hA) rfl (gw_al0 at52_5 (gw_const at52_6 (gw_pf (j := 8) at52_7 (by first | exact AT_0 hA | exact AT_r0 hA | exact AT_r1 hA | exact AT_r2 hA | exact AT_t hA | exact AT_l hA | exact AT_b0 hA | exact AT_b1 hA | exact AT_b2 hA | exact AT_b3 hA) rfl ?_)))))
  have lp10 : ∀ i : Int, 0 ≤ i → i ≤ 1200 → c 100032 7 ≤ i → i ≤ wen c (c 100032 7) → ∀ u : Value, gw d g 52 10 [.ref 100032, u] [] (gm T (gu (gu (gu c 100032 5 1) 100032 8 (wmv c (c 100032 7) i)) 100032 7 (i)) J) (fun o M1 => o = .inl none ∧ M1 = gm T (tkw c) J) := by
    refine ind_up 1200 ?_
    intro i hi0 hi1 ih hi2 hi3 u
    have r5 := wmv_rg (c := c) hi2 (fun j a b => (ibt_b (r4 j a (by unfold wen at hi3; omega))).2)
    have r6 := bw_le (i - c 100032 7)
    have hM0 : (gu (gu (gu c 100032 5 1) 100032 8 (wmv c (c 100032 7) i)) 100032 7 (i)) 100000 = c 100000 := by funext j; simp (disch := omega) only [gu_k]
    have hM1 : (gu (gu (gu c 100032 5 1) 100032 8 (wmv c (c 100032 7) i)) 100032 7 (i)) 100001 = c 100001 := by funext j; simp (disch := omega) only [gu_k]
    have hE : ibt (gu (gu (gu c 100032 5 1) 100032 8 (wmv c (c 100032 7) i)) 100032 7 (i)) 97 122 ((gu (gu (gu c 100032 5 1) 100032 8 (wmv c (c 100032 7) i)) 100032 7 (i)) 100032 7) = ibt c 97 122 i := by rw [gu_s]; exact ibt_o hM0 hM1
    have hRG : RG (gu (gu (gu c 100032 5 1) 100032 8 (wmv c (c 100032 7) i)) 100032 7 (i)) := RG_gu (RG_gu (RG_gu hc (by decide)) (by omega)) (by omega)
    refine gw_al0 at52_10 ?_
    refine gw_bip at52_11 (by decide) (gw_bip at52_13 (by decide) (gw_callP3 at52_15 (c_isBetween hA hRG ⟨by rw [hM0]; exact hB.1, by rw [hM0]; exact hB.2⟩ (by rw [gu_s]; exact hi0) (by omega) (by omega)) (by omega) (Nat.le_of_ble_eq_true rfl) ?_))
    rw [hE]
    refine gw_beq at52_18 (fun q18 => ?_) (fun q18 => ?_)
    · have e : i = wen c (c 100032 7) := by
        by_cases a : i < wen c (c 100032 7)
        · have := r4 i hi2 a
          rw [this] at q18
          cases q18
        · omega
      rw [e]
      exact gw_const at52_85 (gw_is1 at52_86 (h := c_word87 (by omega) hk hA hc hB he))
    · have q19 := ibt_b q18
      have q20 : ¬ i = wen c (c 100032 7) := fun e => by rw [e] at q18; unfold wen at q18; rw [q18] at r3; cases r3
      refine gw_al0 at52_21 (gw_gf (j := 7) at52_22 (by first | exact AT_0 hA | exact AT_r0 hA | exact AT_r1 hA | exact AT_r2 hA | exact AT_t hA | exact AT_l hA | exact AT_b0 hA | exact AT_b1 hA | exact AT_b2 hA | exact AT_b3 hA) rfl ?_)
      simp (disch := omega) only [gu_k, gu_j, gu_s]
      refine gw_al0 at52_25 (gw_gf (j := 6) at52_26 (by first | exact AT_0 hA | exact AT_r0 hA | exact AT_r1 hA | exact AT_r2 hA | exact AT_t hA | exact AT_l hA | exact AT_b0 hA | exact AT_b1 hA | exact AT_b2 hA | exact AT_b3 hA) rfl ?_)
      simp (disch := omega) only [gu_k, gu_j, gu_s]
      rw [hs]
      refine gw_isub at52_29 (gw_bip at52_30 (by decide) ?_)
      refine gw_cge at52_32 (by first | omega | exact hc _ _) (by first | omega | exact hc _ _) (fun q32 => ?_) (fun q32 => ?_)
      · refine gw_const at52_39 (gw_is1 at52_40 (h := (gw_al0 at52_41 (gw_il1 at52_42 ?_))))
        refine gw_zeq at52_43 (by first | omega | exact hc _ _) (fun q43 => ?_) (fun q43 => absurd q43 (by decide))
        refine gw_const at52_68 (gw_pf (j := 8) at52_69 (by first | exact AT_0 hA | exact AT_r0 hA | exact AT_r1 hA | exact AT_r2 hA | exact AT_t hA | exact AT_l hA | exact AT_b0 hA | exact AT_b1 hA | exact AT_b2 hA | exact AT_b3 hA) rfl (gw_al0 at52_72 (gw_dupr at52_73 (gw_gf (j := 7) at52_74 (by first | exact AT_0 hA | exact AT_r0 hA | exact AT_r1 hA | exact AT_r2 hA | exact AT_t hA | exact AT_l hA | exact AT_b0 hA | exact AT_b1 hA | exact AT_b2 hA | exact AT_b3 hA) rfl ?_))))
        simp (disch := omega) only [gu_k, gu_j, gu_s]
        refine gw_const at52_77 (gw_iadd at52_78 (gw_pf (j := 7) at52_79 (by first | exact AT_0 hA | exact AT_r0 hA | exact AT_r1 hA | exact AT_r2 hA | exact AT_t hA | exact AT_l hA | exact AT_b0 hA | exact AT_b1 hA | exact AT_b2 hA | exact AT_b3 hA) rfl (gw_goto at52_82 ?_)))
        rw [gu_st (by decide)]
        have h8 := ih (i + 1) (by omega) (by omega) (by omega) (by omega) (gi 0)
        have h7 := ih (i + 1) (by omega) (by omega) (by omega) (by omega) (gi 1)
        rw [wmv_s hi2] at h7 h8
        first | (rw [if_pos (by omega)] at h7; exact h7) | (rw [if_neg (by omega)] at h8; exact h8)
      · refine gw_const at52_35 (gw_goto at52_36 (gw_is1 at52_40 (h := (gw_al0 at52_41 (gw_il1 at52_42 ?_)))))
        refine gw_zeq at52_43 (by first | omega | exact hc _ _) (fun q43 => absurd q43 (by decide)) (fun q43 => ?_)
        refine gw_al0 at52_46 (gw_gf (j := 8) at52_47 (by first | exact AT_0 hA | exact AT_r0 hA | exact AT_r1 hA | exact AT_r2 hA | exact AT_t hA | exact AT_l hA | exact AT_b0 hA | exact AT_b1 hA | exact AT_b2 hA | exact AT_b3 hA) rfl ?_)
        simp (disch := omega) only [gu_k, gu_j, gu_s]
        refine gw_al0 at52_50 (gw_gr at52_51 (by first | exact AT_0 hA | exact AT_r0 hA | exact AT_r1 hA | exact AT_r2 hA | exact AT_t hA | exact AT_l hA | exact AT_b0 hA | exact AT_b1 hA | exact AT_b2 hA | exact AT_b3 hA) (by first | exact AT_0 hA | exact AT_r0 hA | exact AT_r1 hA | exact AT_r2 hA | exact AT_t hA | exact AT_l hA | exact AT_b0 hA | exact AT_b1 hA | exact AT_b2 hA | exact AT_b3 hA) (gw_gr at52_54 (by first | exact AT_0 hA | exact AT_r0 hA | exact AT_r1 hA | exact AT_r2 hA | exact AT_t hA | exact AT_l hA | exact AT_b0 hA | exact AT_b1 hA | exact AT_b2 hA | exact AT_b3 hA) (by first | exact AT_0 hA | exact AT_r0 hA | exact AT_r1 hA | exact AT_r2 hA | exact AT_t hA | exact AT_l hA | exact AT_b0 hA | exact AT_b1 hA | exact AT_b2 hA | exact AT_b3 hA) (gw_al0 at52_57 (gw_gf (j := 7) at52_58 (by first | exact AT_0 hA | exact AT_r0 hA | exact AT_r1 hA | exact AT_r2 hA | exact AT_t hA | exact AT_l hA | exact AT_b0 hA | exact AT_b1 hA | exact AT_b2 hA | exact AT_b3 hA) rfl ?_))))
        simp (disch := omega) only [gu_k, gu_j, gu_s]
        refine gw_ba at52_61 (by first | exact Or.inl (by first | exact AT_0 hA | exact AT_r0 hA | exact AT_r1 hA | exact AT_r2 hA | exact AT_t hA | exact AT_l hA | exact AT_b0 hA | exact AT_b1 hA | exact AT_b2 hA | exact AT_b3 hA) | exact Or.inr (by first | exact AT_0 hA | exact AT_r0 hA | exact AT_r1 hA | exact AT_r2 hA | exact AT_t hA | exact AT_l hA | exact AT_b0 hA | exact AT_b1 hA | exact AT_b2 hA | exact AT_b3 hA)) (by first | exact AT_0 hA | exact AT_r0 hA | exact AT_r1 hA | exact AT_r2 hA | exact AT_t hA | exact AT_l hA | exact AT_b0 hA | exact AT_b1 hA | exact AT_b2 hA | exact AT_b3 hA) (by first | omega | exact hc _ _) (by first | omega | exact hc _ _) (by omega) ?_
        simp (disch := omega) only [gu_k, gu_j, gu_s]
        refine gw_callP2 at52_62 (c_nameWith) (by omega) (Nat.le_of_ble_eq_true rfl) (gw_goto at52_65 (gw_pf (j := 8) at52_69 (by first | exact AT_0 hA | exact AT_r0 hA | exact AT_r1 hA | exact AT_r2 hA | exact AT_t hA | exact AT_l hA | exact AT_b0 hA | exact AT_b1 hA | exact AT_b2 hA | exact AT_b3 hA) rfl (gw_al0 at52_72 (gw_dupr at52_73 (gw_gf (j := 7) at52_74 (by first | exact AT_0 hA | exact AT_r0 hA | exact AT_r1 hA | exact AT_r2 hA | exact AT_t hA | exact AT_l hA | exact AT_b0 hA | exact AT_b1 hA | exact AT_b2 hA | exact AT_b3 hA) rfl ?_)))))
        simp (disch := omega) only [gu_k, gu_j, gu_s]
        refine gw_const at52_77 (gw_iadd at52_78 (gw_pf (j := 7) at52_79 (by first | exact AT_0 hA | exact AT_r0 hA | exact AT_r1 hA | exact AT_r2 hA | exact AT_t hA | exact AT_l hA | exact AT_b0 hA | exact AT_b1 hA | exact AT_b2 hA | exact AT_b3 hA) rfl (gw_goto at52_82 ?_)))
        rw [gu_st (by decide)]
        have h8 := ih (i + 1) (by omega) (by omega) (by omega) (by omega) (gi 0)
        have h7 := ih (i + 1) (by omega) (by omega) (by omega) (by omega) (gi 1)
        rw [wmv_s hi2] at h7 h8
        first | (rw [if_pos (by omega)] at h7; exact h7) | (rw [if_neg (by omega)] at h8; exact h8)
  have h9 := lp10 (c 100032 7) he.1 (by omega) (Int.le_refl _) r1 am_U
  rw [show wmv c (c 100032 7) (c 100032 7) = 0 by unfold wmv; rw [Int.sub_self]; rfl, show gu (gu (gu c 100032 5 1) 100032 8 0) 100032 7 (c 100032 7) = gu (gu c 100032 5 1) 100032 8 0 from by have := gu_id (c := gu (gu c 100032 5 1) 100032 8 0) (k := 100032) (j := 7); rwa [gu_j (by decide), gu_j (by decide)] at this] at h9
  exact h9
