set_option maxHeartbeats 1000000 in
theorem m_x_nearestDeepArc {g : Nat} {T : gT} {c J : gC} (hM : MT T 200000) (hc : RG c) (hV : NW c 200000) {z : Int} (hz : -2147483648 ≤ z ∧ z < 2147483648) {B : Int} (hW : WW c 200000 B) (hB : B ≤ 900000000) : gE g 266 6 [.ref 500001, gi z] (gm T c J) (fun o M1 => (inr z 0 2000 = true ∧ o = .inl (some (gi ((itI (nbf (mll (tw c 0) 200000) (mdq (mll (tw c 0) 200000) 200000 z)) (-1, 1000000000) 24).1))) ∧ M1 = gm T ((mll (tw c 0) 200000)) J) ∨ (inr z 0 2000 = false ∧ o = .inl (some (gi 0)) ∧ M1 = gm T (tw c 1) J)) := by
  have t1 : RG (tw c 0) := tw_RG hc (by decide)
  have t0 : tw c 0 200000 = c 200000 := tw_k (by decide)
  have t2 : NW (tw c 0) 200000 := NW_of hV t0
  have v0 := hV.1.1
  have v1 := hV.1.2
  have tW : WW (tw c 0) 200000 B := WW_of hW t0
  have w1 := hW.1
  have w2 := hW.2.1
  have w3 := hW.2.2.1
  have t5 : tw c 0 200000 5 = c 200000 5 := by rw [t0]
  obtain ⟨⟨g1, g2⟩, g3⟩ := mll_ok t1 t2
  have g0 : mll (tw c 0) 200000 200000 = c 200000 := by rw [g2 200000 (by decide), t0]
  have g4 : NW (mll (tw c 0) 200000) 200000 := NW_of hV g0
  have g5 : WW (mll (tw c 0) 200000) 200000 B := WW_of hW g0
  have w7 : (mll (tw c 0) 200000) 200000 6 = c 200000 6 := by rw [g0]
  have w8 : (mll (tw c 0) 200000) 200000 7 = c 200000 7 := by rw [g0]
  refine gE_mk am_r266 rfl (Or.inr ⟨_, rfl, (by first | exact MT_0 hM | exact MT_now hM | exact MT_bt hM | exact MT_bl hM | exact MT_r0 hM | exact MT_t0 hM | exact MT_l0 hM | exact MT_r1 hM | exact MT_t1 hM | exact MT_l1 hM | exact MT_r2 hM | exact MT_t2 hM | exact MT_l2 hM | exact MT_r3 hM | exact MT_t3 hM | exact MT_l3 hM | exact MT_r4 hM | exact MT_t4 hM | exact MT_l4 hM | exact MT_r5 hM | exact MT_t5 hM | exact MT_l5 hM | exact MT_r6 hM | exact MT_t6 hM | exact MT_l6 hM | exact MT_r7 hM | exact MT_t7 hM | exact MT_l7 hM | exact MT_r8 hM | exact MT_t8 hM | exact MT_l8 hM | exact MT_r9 hM | exact MT_t9 hM | exact MT_l9 hM | exact MT_r10 hM | exact MT_t10 hM | exact MT_l10 hM)⟩) (fun d hd => ?_)
  show gw d g 266 0 [.ref 500001, gi z, am_U, am_U, am_U, am_U, am_U] [] _ _
  refine gw_al0 at266_0 (gw_il1 at266_1 (gw_callP1 at266_2 (m_isDepth (by omega)) (by omega) (Nat.le_of_ble_eq_true rfl) ?_))
  refine gw_call2 at266_5 (m_pas1 hM hc (p := inr z 0 2000)) (by omega) (Nat.le_of_ble_eq_true rfl) (fun o M1 q5 => ?_)
  rcases q5 with ⟨hp5, rfl, rfl⟩ | ⟨hp5, rfl, rfl⟩
  · show gw _ _ _ _ _ (gi _ :: _) _ _
    refine gw_zne at266_8 (by first | omega | (have := mcf_rg (n := (mll (tw c 0) 200000) 200000 6) (l := (mll (tw c 0) 200000) 200000 7) (g := i) g4 g3 hi0; omega) | exact bi_rg _ | exact hc _ _) (fun q8 => ?_) (fun q8 => absurd q8 (by decide))
    refine gw_al0 at266_13 ?_
    refine gw_call1 at266_14 (m_layLeast hM t1 t2) (by omega) (Nat.le_of_ble_eq_true rfl) (fun o M1 q14 => ?_)
    obtain ⟨rfl, rfl⟩ := q14
    show gw _ _ _ _ _ _ _ _
    refine gw_al0 at266_17 (gw_il1 at266_18 (gw_callP2 at266_19 (m_deeperThan hM g1 g4 g5 hz) (by omega) (Nat.le_of_ble_eq_true rfl) ?_))
    show gw _ _ _ _ _ (gi (mdq (mll (tw c 0) 200000) 200000 z) :: _) _ _
    refine gw_is2 at266_22 (h := (gw_const at266_23 (gw_is3 at266_24 (h := (gw_ldc (z := 1000000000) at266_25 (by decide) (gw_is4 at266_27 (h := (gw_const at266_29 (gw_is5 at266_30 (h := ?_))))))))))
    have lp32 : ∀ i : Int, 0 ≤ i → i ≤ 24 → ∀ x : Int × Int, x = itI (nbf (mll (tw c 0) 200000) (mdq (mll (tw c 0) 200000) 200000 z)) (-1, 1000000000) i → ∀ u : Value, am_nl u = true → gw d g 266 32 [.ref 500001, gi z, gi (mdq (mll (tw c 0) 200000) 200000 z), gi x.1, gi x.2, gi i, u] [] (gm T (mll (tw c 0) 200000) J) (fun o M1 => (inr z 0 2000 = true ∧ o = .inl (some (gi ((itI (nbf (mll (tw c 0) 200000) (mdq (mll (tw c 0) 200000) 200000 z)) (-1, 1000000000) 24).1))) ∧ M1 = gm T ((mll (tw c 0) 200000)) J) ∨ (inr z 0 2000 = false ∧ o = .inl (some (gi 0)) ∧ M1 = gm T (tw c 1) J)) := by
      refine ind_up 24 ?_
      intro i hi0 hi1 ih x hx u hu
      have hk : (-1 ≤ x.1 ∧ x.1 < 24) ∧ 0 ≤ x.2 ∧ x.2 ≤ 1000000000 := by
        rw [hx]
        refine itI_inv2 (fun s : Int × Int => (-1 ≤ s.1 ∧ s.1 < 24) ∧ 0 ≤ s.2 ∧ s.2 ≤ 1000000000) (N := 24) (by decide) (fun j s a1 a2 hs => ?_) hi1
        have := mcf_rg (n := (mll (tw c 0) 200000) 200000 6) (l := (mll (tw c 0) 200000) 200000 7) (g := j) g4 g3 a1
        unfold nbf
        split
        · dsimp only; omega
        · exact hs
      refine gw_il5 at266_32 ?_
      refine gw_bip at266_34 (by decide) ?_
      refine gw_cge at266_36 (by first | omega | (have := mcf_rg (n := (mll (tw c 0) 200000) 200000 6) (l := (mll (tw c 0) 200000) 200000 7) (g := i) g4 g3 hi0; omega) | exact bi_rg _ | exact hc _ _) (by first | omega | (have := mcf_rg (n := (mll (tw c 0) 200000) 200000 6) (l := (mll (tw c 0) 200000) 200000 7) (g := i) g4 g3 hi0; omega) | exact bi_rg _ | exact hc _ _) (fun q36 => ?_) (fun q36 => ?_)
      · refine gw_il3 at266_96 (gw_ri at266_97 am_r266.2.1 ?_)
        first
        | exact Or.inr ⟨hp5, rfl, rfl⟩
        | (have e : i = 24 := by omega
           subst e
           exact Or.inl ⟨hp5, by rw [hx], rfl⟩)
      · refine gw_il2 at266_39 (gw_il5 at266_40 (gw_callP2 at266_42 (m_hasBit) (by omega) (Nat.le_of_ble_eq_true rfl) ?_))
        refine gw_bne at266_45 (fun q45 => ?_) (fun q45 => ?_)
        · refine gw_al0 at266_51 (gw_al0 at266_52 (gw_gr at266_53 (by first | exact MT_0 hM | exact MT_now hM | exact MT_bt hM | exact MT_bl hM | exact MT_r0 hM | exact MT_t0 hM | exact MT_l0 hM | exact MT_r1 hM | exact MT_t1 hM | exact MT_l1 hM | exact MT_r2 hM | exact MT_t2 hM | exact MT_l2 hM | exact MT_r3 hM | exact MT_t3 hM | exact MT_l3 hM | exact MT_r4 hM | exact MT_t4 hM | exact MT_l4 hM | exact MT_r5 hM | exact MT_t5 hM | exact MT_l5 hM | exact MT_r6 hM | exact MT_t6 hM | exact MT_l6 hM | exact MT_r7 hM | exact MT_t7 hM | exact MT_l7 hM | exact MT_r8 hM | exact MT_t8 hM | exact MT_l8 hM | exact MT_r9 hM | exact MT_t9 hM | exact MT_l9 hM | exact MT_r10 hM | exact MT_t10 hM | exact MT_l10 hM) (by first | exact MT_0 hM | exact MT_now hM | exact MT_bt hM | exact MT_bl hM | exact MT_r0 hM | exact MT_t0 hM | exact MT_l0 hM | exact MT_r1 hM | exact MT_t1 hM | exact MT_l1 hM | exact MT_r2 hM | exact MT_t2 hM | exact MT_l2 hM | exact MT_r3 hM | exact MT_t3 hM | exact MT_l3 hM | exact MT_r4 hM | exact MT_t4 hM | exact MT_l4 hM | exact MT_r5 hM | exact MT_t5 hM | exact MT_l5 hM | exact MT_r6 hM | exact MT_t6 hM | exact MT_l6 hM | exact MT_r7 hM | exact MT_t7 hM | exact MT_l7 hM | exact MT_r8 hM | exact MT_t8 hM | exact MT_l8 hM | exact MT_r9 hM | exact MT_t9 hM | exact MT_l9 hM | exact MT_r10 hM | exact MT_t10 hM | exact MT_l10 hM) (gw_bip at266_56 (by decide) (gw_ia at266_58 (by first | exact Or.inl (by first | exact MT_0 hM | exact MT_now hM | exact MT_bt hM | exact MT_bl hM | exact MT_r0 hM | exact MT_t0 hM | exact MT_l0 hM | exact MT_r1 hM | exact MT_t1 hM | exact MT_l1 hM | exact MT_r2 hM | exact MT_t2 hM | exact MT_l2 hM | exact MT_r3 hM | exact MT_t3 hM | exact MT_l3 hM | exact MT_r4 hM | exact MT_t4 hM | exact MT_l4 hM | exact MT_r5 hM | exact MT_t5 hM | exact MT_l5 hM | exact MT_r6 hM | exact MT_t6 hM | exact MT_l6 hM | exact MT_r7 hM | exact MT_t7 hM | exact MT_l7 hM | exact MT_r8 hM | exact MT_t8 hM | exact MT_l8 hM | exact MT_r9 hM | exact MT_t9 hM | exact MT_l9 hM | exact MT_r10 hM | exact MT_t10 hM | exact MT_l10 hM) | exact Or.inr (by first | exact MT_0 hM | exact MT_now hM | exact MT_bt hM | exact MT_bl hM | exact MT_r0 hM | exact MT_t0 hM | exact MT_l0 hM | exact MT_r1 hM | exact MT_t1 hM | exact MT_l1 hM | exact MT_r2 hM | exact MT_t2 hM | exact MT_l2 hM | exact MT_r3 hM | exact MT_t3 hM | exact MT_l3 hM | exact MT_r4 hM | exact MT_t4 hM | exact MT_l4 hM | exact MT_r5 hM | exact MT_t5 hM | exact MT_l5 hM | exact MT_r6 hM | exact MT_t6 hM | exact MT_l6 hM | exact MT_r7 hM | exact MT_t7 hM | exact MT_l7 hM | exact MT_r8 hM | exact MT_t8 hM | exact MT_l8 hM | exact MT_r9 hM | exact MT_t9 hM | exact MT_l9 hM | exact MT_r10 hM | exact MT_t10 hM | exact MT_l10 hM)) (by first | exact MT_0 hM | exact MT_now hM | exact MT_bt hM | exact MT_bl hM | exact MT_r0 hM | exact MT_t0 hM | exact MT_l0 hM | exact MT_r1 hM | exact MT_t1 hM | exact MT_l1 hM | exact MT_r2 hM | exact MT_t2 hM | exact MT_l2 hM | exact MT_r3 hM | exact MT_t3 hM | exact MT_l3 hM | exact MT_r4 hM | exact MT_t4 hM | exact MT_l4 hM | exact MT_r5 hM | exact MT_t5 hM | exact MT_l5 hM | exact MT_r6 hM | exact MT_t6 hM | exact MT_l6 hM | exact MT_r7 hM | exact MT_t7 hM | exact MT_l7 hM | exact MT_r8 hM | exact MT_t8 hM | exact MT_l8 hM | exact MT_r9 hM | exact MT_t9 hM | exact MT_l9 hM | exact MT_r10 hM | exact MT_t10 hM | exact MT_l10 hM) (by first | omega | (have := mcf_rg (n := (mll (tw c 0) 200000) 200000 6) (l := (mll (tw c 0) 200000) 200000 7) (g := i) g4 g3 hi0; omega) | exact bi_rg _ | exact hc _ _) (by first | omega | (have := mcf_rg (n := (mll (tw c 0) 200000) 200000 6) (l := (mll (tw c 0) 200000) 200000 7) (g := i) g4 g3 hi0; omega) | exact bi_rg _ | exact hc _ _) (by omega) (gw_al0 at266_59 (gw_gr at266_60 (by first | exact MT_0 hM | exact MT_now hM | exact MT_bt hM | exact MT_bl hM | exact MT_r0 hM | exact MT_t0 hM | exact MT_l0 hM | exact MT_r1 hM | exact MT_t1 hM | exact MT_l1 hM | exact MT_r2 hM | exact MT_t2 hM | exact MT_l2 hM | exact MT_r3 hM | exact MT_t3 hM | exact MT_l3 hM | exact MT_r4 hM | exact MT_t4 hM | exact MT_l4 hM | exact MT_r5 hM | exact MT_t5 hM | exact MT_l5 hM | exact MT_r6 hM | exact MT_t6 hM | exact MT_l6 hM | exact MT_r7 hM | exact MT_t7 hM | exact MT_l7 hM | exact MT_r8 hM | exact MT_t8 hM | exact MT_l8 hM | exact MT_r9 hM | exact MT_t9 hM | exact MT_l9 hM | exact MT_r10 hM | exact MT_t10 hM | exact MT_l10 hM) (by first | exact MT_0 hM | exact MT_now hM | exact MT_bt hM | exact MT_bl hM | exact MT_r0 hM | exact MT_t0 hM | exact MT_l0 hM | exact MT_r1 hM | exact MT_t1 hM | exact MT_l1 hM | exact MT_r2 hM | exact MT_t2 hM | exact MT_l2 hM | exact MT_r3 hM | exact MT_t3 hM | exact MT_l3 hM | exact MT_r4 hM | exact MT_t4 hM | exact MT_l4 hM | exact MT_r5 hM | exact MT_t5 hM | exact MT_l5 hM | exact MT_r6 hM | exact MT_t6 hM | exact MT_l6 hM | exact MT_r7 hM | exact MT_t7 hM | exact MT_l7 hM | exact MT_r8 hM | exact MT_t8 hM | exact MT_l8 hM | exact MT_r9 hM | exact MT_t9 hM | exact MT_l9 hM | exact MT_r10 hM | exact MT_t10 hM | exact MT_l10 hM) (gw_bip at266_63 (by decide) (gw_ia at266_65 (by first | exact Or.inl (by first | exact MT_0 hM | exact MT_now hM | exact MT_bt hM | exact MT_bl hM | exact MT_r0 hM | exact MT_t0 hM | exact MT_l0 hM | exact MT_r1 hM | exact MT_t1 hM | exact MT_l1 hM | exact MT_r2 hM | exact MT_t2 hM | exact MT_l2 hM | exact MT_r3 hM | exact MT_t3 hM | exact MT_l3 hM | exact MT_r4 hM | exact MT_t4 hM | exact MT_l4 hM | exact MT_r5 hM | exact MT_t5 hM | exact MT_l5 hM | exact MT_r6 hM | exact MT_t6 hM | exact MT_l6 hM | exact MT_r7 hM | exact MT_t7 hM | exact MT_l7 hM | exact MT_r8 hM | exact MT_t8 hM | exact MT_l8 hM | exact MT_r9 hM | exact MT_t9 hM | exact MT_l9 hM | exact MT_r10 hM | exact MT_t10 hM | exact MT_l10 hM) | exact Or.inr (by first | exact MT_0 hM | exact MT_now hM | exact MT_bt hM | exact MT_bl hM | exact MT_r0 hM | exact MT_t0 hM | exact MT_l0 hM | exact MT_r1 hM | exact MT_t1 hM | exact MT_l1 hM | exact MT_r2 hM | exact MT_t2 hM | exact MT_l2 hM | exact MT_r3 hM | exact MT_t3 hM | exact MT_l3 hM | exact MT_r4 hM | exact MT_t4 hM | exact MT_l4 hM | exact MT_r5 hM | exact MT_t5 hM | exact MT_l5 hM | exact MT_r6 hM | exact MT_t6 hM | exact MT_l6 hM | exact MT_r7 hM | exact MT_t7 hM | exact MT_l7 hM | exact MT_r8 hM | exact MT_t8 hM | exact MT_l8 hM | exact MT_r9 hM | exact MT_t9 hM | exact MT_l9 hM | exact MT_r10 hM | exact MT_t10 hM | exact MT_l10 hM)) (by first | exact MT_0 hM | exact MT_now hM | exact MT_bt hM | exact MT_bl hM | exact MT_r0 hM | exact MT_t0 hM | exact MT_l0 hM | exact MT_r1 hM | exact MT_t1 hM | exact MT_l1 hM | exact MT_r2 hM | exact MT_t2 hM | exact MT_l2 hM | exact MT_r3 hM | exact MT_t3 hM | exact MT_l3 hM | exact MT_r4 hM | exact MT_t4 hM | exact MT_l4 hM | exact MT_r5 hM | exact MT_t5 hM | exact MT_l5 hM | exact MT_r6 hM | exact MT_t6 hM | exact MT_l6 hM | exact MT_r7 hM | exact MT_t7 hM | exact MT_l7 hM | exact MT_r8 hM | exact MT_t8 hM | exact MT_l8 hM | exact MT_r9 hM | exact MT_t9 hM | exact MT_l9 hM | exact MT_r10 hM | exact MT_t10 hM | exact MT_l10 hM) (by first | omega | (have := mcf_rg (n := (mll (tw c 0) 200000) 200000 6) (l := (mll (tw c 0) 200000) 200000 7) (g := i) g4 g3 hi0; omega) | exact bi_rg _ | exact hc _ _) (by first | omega | (have := mcf_rg (n := (mll (tw c 0) 200000) 200000 6) (l := (mll (tw c 0) 200000) 200000 7) (g := i) g4 g3 hi0; omega) | exact bi_rg _ | exact hc _ _) (by omega) (gw_il5 at266_66 (gw_callP4 at266_68 (m_costFrom hM g1 g4 g3 (by omega) (by omega) (by omega)) (by omega) (Nat.le_of_ble_eq_true rfl) (gw_is6 at266_71 (h := (gw_il6 at266_73 (gw_il4 at266_75 ?_))))))))))))))
          refine gw_clt at266_77 (by first | omega | (have := mcf_rg (n := (mll (tw c 0) 200000) 200000 6) (l := (mll (tw c 0) 200000) 200000 7) (g := i) g4 g3 hi0; omega) | exact bi_rg _ | exact hc _ _) (by first | omega | (have := mcf_rg (n := (mll (tw c 0) 200000) 200000 6) (l := (mll (tw c 0) 200000) 200000 7) (g := i) g4 g3 hi0; omega) | exact bi_rg _ | exact hc _ _) (fun q77 => ?_) (fun q77 => ?_)
          · refine gw_il6 at266_83 (gw_is4 at266_85 (h := (gw_il5 at266_87 (gw_is3 at266_89 (h := (gw_inc5 at266_90 (h := (gw_goto at266_93 ?_))))))))
            have h8 := fun u hu => ih (i + 1) (by omega) (by omega) _ rfl u hu
            rw [itI_s _ _ hi0, ← hx] at h8
            first | (rw [nbf_f q45] at h8; exact h8 _ hu) | (rw [nbf_g (by omega)] at h8; exact h8 _ rfl) | (rw [nbf_t q45 (by omega)] at h8; dsimp only at h8; exact h8 _ rfl)
          · refine gw_goto at266_80 (gw_inc5 at266_90 (h := (gw_goto at266_93 ?_)))
            have h8 := fun u hu => ih (i + 1) (by omega) (by omega) _ rfl u hu
            rw [itI_s _ _ hi0, ← hx] at h8
            first | (rw [nbf_f q45] at h8; exact h8 _ hu) | (rw [nbf_g (by omega)] at h8; exact h8 _ rfl) | (rw [nbf_t q45 (by omega)] at h8; dsimp only at h8; exact h8 _ rfl)
        · refine gw_goto at266_48 (gw_inc5 at266_90 (h := (gw_goto at266_93 ?_)))
          have h8 := fun u hu => ih (i + 1) (by omega) (by omega) _ rfl u hu
          rw [itI_s _ _ hi0, ← hx] at h8
          first | (rw [nbf_f q45] at h8; exact h8 _ hu) | (rw [nbf_g (by omega)] at h8; exact h8 _ rfl) | (rw [nbf_t q45 (by omega)] at h8; dsimp only at h8; exact h8 _ rfl)
    exact lp32 0 (by omega) (by omega) (-1, 1000000000) rfl _ rfl
  · show gw _ _ _ _ _ (gi _ :: _) _ _
    refine gw_zne at266_8 (by first | omega | (have := mcf_rg (n := (mll (tw c 0) 200000) 200000 6) (l := (mll (tw c 0) 200000) 200000 7) (g := i) g4 g3 hi0; omega) | exact bi_rg _ | exact hc _ _) (fun q8 => absurd q8 (by decide)) (fun q8 => ?_)
    refine gw_const at266_11 (gw_ri at266_12 am_r266.2.1 ?_)
    first
    | exact Or.inr ⟨hp5, rfl, rfl⟩
    | (have e : i = 24 := by omega
       subst e
       exact Or.inl ⟨hp5, by rw [hx], rfl⟩)
