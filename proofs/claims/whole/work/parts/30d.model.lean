set_option maxHeartbeats 1000000 in
theorem m_reachedFrom {g : Nat} {T : gT} {c J : gC} {b : Nat} (hM : MT T b) (hc : RG c) (hV : NW c b) {n w : Int} (hn : -2147483648 ≤ n ∧ n < 2147483648) (hw : -2147483648 ≤ w ∧ w < 2147483648) : gE g 221 2 [.ref 500001, gi n, gi w] (gm T c J) (gR (gi (mrc c b n w)) (gm T c J)) := by
  refine gE_mk am_r221 rfl (Or.inr ⟨_, rfl, (by first | exact MT_0 hM | exact MT_now hM | exact MT_bt hM | exact MT_bl hM | exact MT_r0 hM | exact MT_t0 hM | exact MT_l0 hM | exact MT_r1 hM | exact MT_t1 hM | exact MT_l1 hM | exact MT_r2 hM | exact MT_t2 hM | exact MT_l2 hM | exact MT_r3 hM | exact MT_t3 hM | exact MT_l3 hM | exact MT_r4 hM | exact MT_t4 hM | exact MT_l4 hM | exact MT_r5 hM | exact MT_t5 hM | exact MT_l5 hM | exact MT_r6 hM | exact MT_t6 hM | exact MT_l6 hM | exact MT_r7 hM | exact MT_t7 hM | exact MT_l7 hM | exact MT_r8 hM | exact MT_t8 hM | exact MT_l8 hM | exact MT_r9 hM | exact MT_t9 hM | exact MT_l9 hM | exact MT_r10 hM | exact MT_t10 hM | exact MT_l10 hM)⟩) (fun d hd => ?_)
  show gw d g 221 0 [.ref 500001, gi n, gi w, am_U, am_U, am_U] [] _ _
  refine gw_const at221_0 (gw_il1 at221_1 (gw_ishl at221_2 (gw_is3 at221_3 (h := (gw_const at221_4 (gw_is4 at221_5 (h := ?_)))))))
  have lp7 : ∀ i : Int, 0 ≤ i → i ≤ 10 → ∀ u : Value, am_nl u = true → gw d g 221 7 [.ref 500001, gi n, gi w, gi (itI (fun _ s => itI (mrs c b w) s 24) (zshl 1 n) i), gi i, u] [] (gm T c J) (gR (gi (mrc c b n w)) (gm T c J)) := by
    refine ind_up 10 ?_
    intro i hi0 hi1 ih u hu
    have hs := mrj_rg (c := c) (b := b) (w := w) (n := n) i
    refine gw_il4 at221_7 ?_
    refine gw_bip at221_9 (by decide) ?_
    refine gw_cge at221_11 (by first | omega | exact hc _ _ | exact bi_rg _ | exact zrg _) (by first | omega | exact hc _ _ | exact bi_rg _ | exact zrg _) (fun q11 => ?_) (fun q11 => ?_)
    · refine gw_il3 at221_77 (gw_ri at221_78 am_r221.2.1 (gR_i ?_))
      have e : i = 10 := by omega
      rw [e]
      rfl
    · refine gw_const at221_14 (gw_is5 at221_15 (h := ?_))
      have lp17 : ∀ k : Int, 0 ≤ k → k ≤ 24 → gw d g 221 17 [.ref 500001, gi n, gi w, gi (itI (mrs c b w) (itI (fun _ s => itI (mrs c b w) s 24) (zshl 1 n) i) k), gi i, gi k] [] (gm T c J) (gR (gi (mrc c b n w)) (gm T c J)) := by
        refine ind_up 24 ?_
        intro k hk0 hk1 ih2
        have hs2 := mri_rg (c := c) (b := b) (w := w) hs k
        refine gw_il5 at221_17 ?_
        refine gw_bip at221_19 (by decide) ?_
        refine gw_cge at221_21 (by first | omega | exact hc _ _ | exact bi_rg _ | exact zrg _) (by first | omega | exact hc _ _ | exact bi_rg _ | exact zrg _) (fun q21 => ?_) (fun q21 => ?_)
        · refine gw_inc4 at221_71 (h := (gw_goto at221_74 ?_))
          have h8 := ih (i + 1) (by omega) (by omega) (gi k) rfl
          rw [itI_s _ _ hi0] at h8
          have e : k = 24 := by omega
          subst e
          exact h8
        · refine gw_al0 at221_24 (gw_il5 at221_25 (gw_callP2 at221_27 (m_isArc hM hc hV (by omega)) (by omega) (Nat.le_of_ble_eq_true rfl) ?_))
          refine gw_beq at221_30 (fun q30 => ?_) (fun q30 => ?_)
          · refine gw_inc5 at221_65 (h := (gw_goto at221_68 ?_))
            have h8 := ih2 (k + 1) (by omega) (by omega)
            rw [itI_s _ _ hk0] at h8
            first | (rw [mrs_a q30] at h8; exact h8) | (rw [mrs_b (by omega)] at h8; exact h8) | (rw [mrs_d q51] at h8; exact h8) | (rw [mrs_t q30 (by omega) q51] at h8; exact h8)
          · have hbg := mbg_rg hV (mhA_rg hV q30)
            have hen := men_rg hV (mhA_rg hV q30)
            refine gw_il5 at221_33 (gw_const at221_35 (gw_divp at221_36 (by first | omega | exact hc _ _ | exact bi_rg _ | exact zrg _) (by first | omega | exact hc _ _ | exact bi_rg _ | exact zrg _) (gw_il2 at221_37 ?_)))
            refine gw_ceq at221_38 (by first | omega | exact hc _ _ | exact bi_rg _ | exact zrg _) (by first | omega | exact hc _ _ | exact bi_rg _ | exact zrg _) (fun q38 => ?_) (fun q38 => ?_)
            · refine gw_inc5 at221_65 (h := (gw_goto at221_68 ?_))
              have h8 := ih2 (k + 1) (by omega) (by omega)
              rw [itI_s _ _ hk0] at h8
              first | (rw [mrs_a q30] at h8; exact h8) | (rw [mrs_b (by omega)] at h8; exact h8) | (rw [mrs_d q51] at h8; exact h8) | (rw [mrs_t q30 (by omega) q51] at h8; exact h8)
            · refine gw_il3 at221_41 (gw_al0 at221_42 (gw_il5 at221_43 (gw_callP2 at221_45 (m_startOf hM hc hV (mhA_rg hV q30)) (by omega) (Nat.le_of_ble_eq_true rfl) (gw_callP2 at221_48 (m_hasBit) (by omega) (Nat.le_of_ble_eq_true rfl) ?_))))
              refine gw_beq at221_51 (fun q51 => ?_) (fun q51 => ?_)
              · refine gw_inc5 at221_65 (h := (gw_goto at221_68 ?_))
                have h8 := ih2 (k + 1) (by omega) (by omega)
                rw [itI_s _ _ hk0] at h8
                first | (rw [mrs_a q30] at h8; exact h8) | (rw [mrs_b (by omega)] at h8; exact h8) | (rw [mrs_d q51] at h8; exact h8) | (rw [mrs_t q30 (by omega) q51] at h8; exact h8)
              · refine gw_il3 at221_54 (gw_const at221_55 (gw_al0 at221_56 (gw_il5 at221_57 (gw_callP2 at221_59 (m_endOf hM hc hV (mhA_rg hV q30)) (by omega) (Nat.le_of_ble_eq_true rfl) (gw_ishl at221_62 (gw_ior at221_63 (gw_is3 at221_64 (h := (gw_inc5 at221_65 (h := (gw_goto at221_68 ?_)))))))))))
                have h8 := ih2 (k + 1) (by omega) (by omega)
                rw [itI_s _ _ hk0] at h8
                first | (rw [mrs_a q30] at h8; exact h8) | (rw [mrs_b (by omega)] at h8; exact h8) | (rw [mrs_d q51] at h8; exact h8) | (rw [mrs_t q30 (by omega) q51] at h8; exact h8)
      exact lp17 0 (by omega) (by omega)
  exact lp7 0 (by omega) (by omega) _ rfl
