set_option maxHeartbeats 1000000 in
theorem m_layLeast {g : Nat} {T : gT} {c J : gC} {b : Nat} (hM : MT T b) (hc : RG c) (hV : NW c b) : gE g 199 4 [.ref 500001] (gm T c J) (fun o M1 => o = .inl none ∧ M1 = gm T (mll c b) J) := by
  refine gE_mk am_r199 rfl (Or.inr ⟨_, rfl, (by first | exact MT_0 hM | exact MT_now hM | exact MT_bt hM | exact MT_bl hM | exact MT_r0 hM | exact MT_t0 hM | exact MT_l0 hM | exact MT_r1 hM | exact MT_t1 hM | exact MT_l1 hM | exact MT_r2 hM | exact MT_t2 hM | exact MT_l2 hM | exact MT_r3 hM | exact MT_t3 hM | exact MT_l3 hM | exact MT_r4 hM | exact MT_t4 hM | exact MT_l4 hM | exact MT_r5 hM | exact MT_t5 hM | exact MT_l5 hM | exact MT_r6 hM | exact MT_t6 hM | exact MT_l6 hM | exact MT_r7 hM | exact MT_t7 hM | exact MT_l7 hM | exact MT_r8 hM | exact MT_t8 hM | exact MT_l8 hM | exact MT_r9 hM | exact MT_t9 hM | exact MT_l9 hM | exact MT_r10 hM | exact MT_t10 hM | exact MT_l10 hM)⟩) (fun d hd => ?_)
  show gw d g 199 0 [.ref 500001, am_U, am_U, am_U] [] _ _
  refine gw_const at199_0 (gw_is1 at199_1 (h := ?_))
  have lp2 : ∀ i : Int, 0 ≤ i → i ≤ 24 → ∀ u v : Value, am_nl u = true → am_nl v = true → gw d g 199 2 [.ref 500001, gi i, u, v] [] (gm T (itI (mi2 c b) c i) J) (fun o M1 => o = .inl none ∧ M1 = gm T (mll c b) J) := by
    refine ind_up 24 ?_
    intro i hi0 hi1 ih u v hu hv
    obtain ⟨x1, x2⟩ := mi2_ok hc hV hi0 hi1
    refine gw_il1 at199_2 ?_
    refine gw_bip at199_3 (by decide) ?_
    refine gw_cge at199_5 (by first | omega | exact hc _ _) (by first | omega | exact hc _ _) (fun q5 => ?_) (fun q5 => ?_)
    · refine gw_const at199_95 (gw_is1 at199_96 (h := ?_))
      have lp97 : ∀ i : Int, 0 ≤ i → i ≤ 24 → ∀ u v : Value, am_nl u = true → am_nl v = true → gw d g 199 97 [.ref 500001, gi i, u, v] [] (gm T (itI mu3 (itI (mi2 c b) c 24) i) J) (fun o M1 => o = .inl none ∧ M1 = gm T (mll c b) J) := by
        refine ind_up 24 ?_
        intro i hi0 hi1 ih u v hu hv
        obtain ⟨w1, w2⟩ := mi2_ok hc hV (i := 24) (by decide) (by decide)
        have x1 := mu3_ok w1 (fun i a b => w2 i a (by omega)) hi1
        refine gw_il1 at199_97 ?_
        refine gw_bip at199_98 (by decide) ?_
        refine gw_cge at199_100 (by first | omega | exact hc _ _) (by first | omega | exact hc _ _) (fun q100 => ?_) (fun q100 => ?_)
        · refine gw_rv at199_170 am_r199.2.1 ⟨rfl, ?_⟩
          have e : i = 24 := by omega
          rw [e]
          rfl
        · refine gw_const at199_103 (gw_is2 at199_104 (h := ?_))
          have lp105 : ∀ k : Int, 0 ≤ k → k ≤ 24 → ∀ v : Value, am_nl v = true → gw d g 199 105 [.ref 500001, gi i, gi k, v] [] (gm T (itI (mu2 i) (itI mu3 (itI (mi2 c b) c 24) i) k) J) (fun o M1 => o = .inl none ∧ M1 = gm T (mll c b) J) := by
            refine ind_up 24 ?_
            intro k hk0 hk1 ih2 v hv
            have y1 := mu2_ok ⟨hi0, by omega⟩ x1.1 x1.2 hk1
            refine gw_il2 at199_105 ?_
            refine gw_bip at199_106 (by decide) ?_
            refine gw_cge at199_108 (by first | omega | exact hc _ _) (by first | omega | exact hc _ _) (fun q108 => ?_) (fun q108 => ?_)
            · refine gw_inc1 at199_164 (h := (gw_goto at199_167 ?_))
              have h8 := ih (i + 1) (by omega) (by omega) (gi k) v rfl hv
              rw [itI_s _ _ hi0] at h8
              have e : k = 24 := by omega
              subst e
              exact h8
            · refine gw_const at199_111 (gw_is3 at199_112 (h := ?_))
              have lp113 : ∀ e : Int, 0 ≤ e → e ≤ 24 → gw d g 199 113 [.ref 500001, gi i, gi k, gi e] [] (gm T (itI (mu1 i k) (itI (mu2 i) (itI mu3 (itI (mi2 c b) c 24) i) k) e) J) (fun o M1 => o = .inl none ∧ M1 = gm T (mll c b) J) := by
                refine ind_up 24 ?_
                intro e he0 he1 ih3
                have z1 := mu1_ok (a := k) ⟨hi0, by omega⟩ ⟨hk0, by omega⟩ y1.1 y1.2 he1
                refine gw_il3 at199_113 ?_
                refine gw_bip at199_114 (by decide) ?_
                refine gw_cge at199_116 (by first | omega | exact hc _ _) (by first | omega | exact hc _ _) (fun q116 => ?_) (fun q116 => ?_)
                · refine gw_inc2 at199_158 (h := (gw_goto at199_161 ?_))
                  have h8 := ih2 (k + 1) (by omega) (by omega) (gi e) rfl
                  rw [itI_s _ _ hk0] at h8
                  have e : e = 24 := by omega
                  subst e
                  exact h8
                · refine gw_al0 at199_119 (gw_gr at199_120 (by first | exact MT_0 hM | exact MT_now hM | exact MT_bt hM | exact MT_bl hM | exact MT_r0 hM | exact MT_t0 hM | exact MT_l0 hM | exact MT_r1 hM | exact MT_t1 hM | exact MT_l1 hM | exact MT_r2 hM | exact MT_t2 hM | exact MT_l2 hM | exact MT_r3 hM | exact MT_t3 hM | exact MT_l3 hM | exact MT_r4 hM | exact MT_t4 hM | exact MT_l4 hM | exact MT_r5 hM | exact MT_t5 hM | exact MT_l5 hM | exact MT_r6 hM | exact MT_t6 hM | exact MT_l6 hM | exact MT_r7 hM | exact MT_t7 hM | exact MT_l7 hM | exact MT_r8 hM | exact MT_t8 hM | exact MT_l8 hM | exact MT_r9 hM | exact MT_t9 hM | exact MT_l9 hM | exact MT_r10 hM | exact MT_t10 hM | exact MT_l10 hM) (by first | exact MT_0 hM | exact MT_now hM | exact MT_bt hM | exact MT_bl hM | exact MT_r0 hM | exact MT_t0 hM | exact MT_l0 hM | exact MT_r1 hM | exact MT_t1 hM | exact MT_l1 hM | exact MT_r2 hM | exact MT_t2 hM | exact MT_l2 hM | exact MT_r3 hM | exact MT_t3 hM | exact MT_l3 hM | exact MT_r4 hM | exact MT_t4 hM | exact MT_l4 hM | exact MT_r5 hM | exact MT_t5 hM | exact MT_l5 hM | exact MT_r6 hM | exact MT_t6 hM | exact MT_l6 hM | exact MT_r7 hM | exact MT_t7 hM | exact MT_l7 hM | exact MT_r8 hM | exact MT_t8 hM | exact MT_l8 hM | exact MT_r9 hM | exact MT_t9 hM | exact MT_l9 hM | exact MT_r10 hM | exact MT_t10 hM | exact MT_l10 hM) (gw_bip at199_123 (by decide) (gw_il2 at199_125 (gw_imul at199_126 (gw_il3 at199_127 (gw_iadd at199_128 (gw_al0 at199_129 (gw_il2 at199_130 (gw_il3 at199_131 (gw_callP3 at199_132 (m_leastOf hM z1.1.1 (by omega) (by omega)) (by omega) (Nat.le_of_ble_eq_true rfl) ?_))))))))))
                  have e1 := mle_rg (a := k) (e := e) z1.2 (by omega) (by omega)
                  refine gw_al0 at199_135 (gw_il2 at199_136 (gw_il1 at199_137 (gw_callP3 at199_138 (m_leastOf hM z1.1.1 (by omega) (by omega)) (by omega) (Nat.le_of_ble_eq_true rfl) ?_)))
                  have e2 := mle_rg (a := k) (e := i) z1.2 (by omega) (by omega)
                  refine gw_al0 at199_141 (gw_il1 at199_142 (gw_il3 at199_143 (gw_callP3 at199_144 (m_leastOf hM z1.1.1 (by omega) (by omega)) (by omega) (Nat.le_of_ble_eq_true rfl) ?_)))
                  have e3 := mle_rg (a := i) (e := e) z1.2 (by omega) (by omega)
                  refine gw_iadd at199_147 (gw_min at199_148 (by first | omega | exact hc _ _) (by first | omega | exact hc _ _) (Nat.le_of_ble_eq_true rfl) (gw_iw at199_151 (by first | exact MT_0 hM | exact MT_now hM | exact MT_bt hM | exact MT_bl hM | exact MT_r0 hM | exact MT_t0 hM | exact MT_l0 hM | exact MT_r1 hM | exact MT_t1 hM | exact MT_l1 hM | exact MT_r2 hM | exact MT_t2 hM | exact MT_l2 hM | exact MT_r3 hM | exact MT_t3 hM | exact MT_l3 hM | exact MT_r4 hM | exact MT_t4 hM | exact MT_l4 hM | exact MT_r5 hM | exact MT_t5 hM | exact MT_l5 hM | exact MT_r6 hM | exact MT_t6 hM | exact MT_l6 hM | exact MT_r7 hM | exact MT_t7 hM | exact MT_l7 hM | exact MT_r8 hM | exact MT_t8 hM | exact MT_l8 hM | exact MT_r9 hM | exact MT_t9 hM | exact MT_l9 hM | exact MT_r10 hM | exact MT_t10 hM | exact MT_l10 hM) (by first | exact MT_0 hM | exact MT_now hM | exact MT_bt hM | exact MT_bl hM | exact MT_r0 hM | exact MT_t0 hM | exact MT_l0 hM | exact MT_r1 hM | exact MT_t1 hM | exact MT_l1 hM | exact MT_r2 hM | exact MT_t2 hM | exact MT_l2 hM | exact MT_r3 hM | exact MT_t3 hM | exact MT_l3 hM | exact MT_r4 hM | exact MT_t4 hM | exact MT_l4 hM | exact MT_r5 hM | exact MT_t5 hM | exact MT_l5 hM | exact MT_r6 hM | exact MT_t6 hM | exact MT_l6 hM | exact MT_r7 hM | exact MT_t7 hM | exact MT_l7 hM | exact MT_r8 hM | exact MT_t8 hM | exact MT_l8 hM | exact MT_r9 hM | exact MT_t9 hM | exact MT_l9 hM | exact MT_r10 hM | exact MT_t10 hM | exact MT_l10 hM) (by first | omega | exact hc _ _) (by first | omega | exact hc _ _) (by omega) (gw_inc3 at199_152 (h := (gw_goto at199_155 ?_)))))
                  have h8 := ih3 (e + 1) (by omega) (by omega)
                  rw [itI_s _ _ he0] at h8
                  exact h8
              exact lp113 0 (by omega) (by omega)
          exact lp105 0 (by omega) (by omega) v hv
      have e : i = 24 := by omega
      rw [e]
      exact lp97 0 (by omega) (by omega) _ _ hu hv
    · refine gw_const at199_8 (gw_is2 at199_9 (h := ?_))
      have lp10 : ∀ k : Int, 0 ≤ k → k ≤ 24 → gw d g 199 10 [.ref 500001, gi i, gi k, v] [] (gm T (itI (mi1 c b i) (itI (mi2 c b) c i) k) J) (fun o M1 => o = .inl none ∧ M1 = gm T (mll c b) J) := by
        refine ind_up 24 ?_
        intro k hk0 hk1 ih2
        have y1 := mi1_ok hV x1 x2 hk0 hk1
        have hbn := (b_ne hM).1
        have hY : (itI (mi1 c b i) (itI (mi2 c b) c i) k) b = c b := y1.1.2 b hbn
        refine gw_il2 at199_10 ?_
        refine gw_bip at199_11 (by decide) ?_
        refine gw_cge at199_13 (by first | omega | exact hc _ _) (by first | omega | exact hc _ _) (fun q13 => ?_) (fun q13 => ?_)
        · refine gw_inc1 at199_89 (h := (gw_goto at199_92 ?_))
          have h8 := ih (i + 1) (by omega) (by omega) (gi k) v rfl hv
          rw [itI_s _ _ hi0] at h8
          have e : k = 24 := by omega
          subst e
          exact h8
        · refine gw_al0 at199_16 (gw_gr at199_17 (by first | exact MT_0 hM | exact MT_now hM | exact MT_bt hM | exact MT_bl hM | exact MT_r0 hM | exact MT_t0 hM | exact MT_l0 hM | exact MT_r1 hM | exact MT_t1 hM | exact MT_l1 hM | exact MT_r2 hM | exact MT_t2 hM | exact MT_l2 hM | exact MT_r3 hM | exact MT_t3 hM | exact MT_l3 hM | exact MT_r4 hM | exact MT_t4 hM | exact MT_l4 hM | exact MT_r5 hM | exact MT_t5 hM | exact MT_l5 hM | exact MT_r6 hM | exact MT_t6 hM | exact MT_l6 hM | exact MT_r7 hM | exact MT_t7 hM | exact MT_l7 hM | exact MT_r8 hM | exact MT_t8 hM | exact MT_l8 hM | exact MT_r9 hM | exact MT_t9 hM | exact MT_l9 hM | exact MT_r10 hM | exact MT_t10 hM | exact MT_l10 hM) (by first | exact MT_0 hM | exact MT_now hM | exact MT_bt hM | exact MT_bl hM | exact MT_r0 hM | exact MT_t0 hM | exact MT_l0 hM | exact MT_r1 hM | exact MT_t1 hM | exact MT_l1 hM | exact MT_r2 hM | exact MT_t2 hM | exact MT_l2 hM | exact MT_r3 hM | exact MT_t3 hM | exact MT_l3 hM | exact MT_r4 hM | exact MT_t4 hM | exact MT_l4 hM | exact MT_r5 hM | exact MT_t5 hM | exact MT_l5 hM | exact MT_r6 hM | exact MT_t6 hM | exact MT_l6 hM | exact MT_r7 hM | exact MT_t7 hM | exact MT_l7 hM | exact MT_r8 hM | exact MT_t8 hM | exact MT_l8 hM | exact MT_r9 hM | exact MT_t9 hM | exact MT_l9 hM | exact MT_r10 hM | exact MT_t10 hM | exact MT_l10 hM) (gw_bip at199_20 (by decide) (gw_il1 at199_22 (gw_imul at199_23 (gw_il2 at199_24 (gw_iadd at199_25 (gw_al0 at199_26 (gw_il1 at199_27 (gw_callP2 at199_28 (m_isArc hM y1.1.1 (NW_of hV hY) (by omega)) (by omega) (Nat.le_of_ble_eq_true rfl) ?_)))))))))
          rw [mhA_o hY]
          refine gw_beq at199_31 (fun q31 => ?_) (fun q31 => ?_)
          · refine gw_ldc (z := 1000000000) at199_42 (by decide) (gw_goto at199_44 (gw_iw at199_82 (by first | exact MT_0 hM | exact MT_now hM | exact MT_bt hM | exact MT_bl hM | exact MT_r0 hM | exact MT_t0 hM | exact MT_l0 hM | exact MT_r1 hM | exact MT_t1 hM | exact MT_l1 hM | exact MT_r2 hM | exact MT_t2 hM | exact MT_l2 hM | exact MT_r3 hM | exact MT_t3 hM | exact MT_l3 hM | exact MT_r4 hM | exact MT_t4 hM | exact MT_l4 hM | exact MT_r5 hM | exact MT_t5 hM | exact MT_l5 hM | exact MT_r6 hM | exact MT_t6 hM | exact MT_l6 hM | exact MT_r7 hM | exact MT_t7 hM | exact MT_l7 hM | exact MT_r8 hM | exact MT_t8 hM | exact MT_l8 hM | exact MT_r9 hM | exact MT_t9 hM | exact MT_l9 hM | exact MT_r10 hM | exact MT_t10 hM | exact MT_l10 hM) (by first | exact MT_0 hM | exact MT_now hM | exact MT_bt hM | exact MT_bl hM | exact MT_r0 hM | exact MT_t0 hM | exact MT_l0 hM | exact MT_r1 hM | exact MT_t1 hM | exact MT_l1 hM | exact MT_r2 hM | exact MT_t2 hM | exact MT_l2 hM | exact MT_r3 hM | exact MT_t3 hM | exact MT_l3 hM | exact MT_r4 hM | exact MT_t4 hM | exact MT_l4 hM | exact MT_r5 hM | exact MT_t5 hM | exact MT_l5 hM | exact MT_r6 hM | exact MT_t6 hM | exact MT_l6 hM | exact MT_r7 hM | exact MT_t7 hM | exact MT_l7 hM | exact MT_r8 hM | exact MT_t8 hM | exact MT_l8 hM | exact MT_r9 hM | exact MT_t9 hM | exact MT_l9 hM | exact MT_r10 hM | exact MT_t10 hM | exact MT_l10 hM) (by first | omega | exact hc _ _) (by first | omega | exact hc _ _) (by omega) (gw_inc2 at199_83 (h := (gw_goto at199_86 ?_)))))
            have h8 := ih2 (k + 1) (by omega) (by omega)
            rw [itI_s _ _ hk0] at h8
            rw [show mi1 c b i k (itI (mi1 c b i) (itI (mi2 c b) c i) k) = gu (itI (mi1 c b i) (itI (mi2 c b) c i) k) 200003 (24 * i + k) (mini c b i k) from rfl] at h8
            first | (rw [show mini c b i k = 1000000000 from if_pos (by first | exact Or.inl (by assumption) | exact Or.inr (by assumption))] at h8; exact h8) | (rw [show mini c b i k = 0 by unfold mini; rw [if_neg (by simp [*]), if_pos (by omega)]] at h8; exact h8) | (rw [show mini c b i k = mct c b i k + mln c b k by unfold mini; rw [if_neg (by simp [*]), if_neg (by omega), if_pos (by assumption)]] at h8; exact h8) | (rw [show mini c b i k = 1000000000 by unfold mini; rw [if_neg (by simp [*]), if_neg (by omega), if_neg (by simp [*])]] at h8; exact h8)
          · refine gw_al0 at199_34 (gw_il2 at199_35 (gw_callP2 at199_36 (m_isArc hM y1.1.1 (NW_of hV hY) (by omega)) (by omega) (Nat.le_of_ble_eq_true rfl) ?_))
            rw [mhA_o hY]
            refine gw_bne at199_39 (fun q39 => ?_) (fun q39 => ?_)
            · refine gw_il1 at199_47 (gw_il2 at199_48 ?_)
              refine gw_cne at199_49 (by first | omega | exact hc _ _) (by first | omega | exact hc _ _) (fun q49 => ?_) (fun q49 => ?_)
              · refine gw_al0 at199_56 (gw_il1 at199_57 (gw_il2 at199_58 (gw_callP3 at199_59 (m_follows hM y1.1.1 (NW_of hV hY) (by omega) (by omega)) (by omega) (Nat.le_of_ble_eq_true rfl) ?_)))
                rw [mfo_o hY]
                refine gw_beq at199_62 (fun q62 => ?_) (fun q62 => ?_)
                · refine gw_ldc (z := 1000000000) at199_80 (by decide) (gw_iw at199_82 (by first | exact MT_0 hM | exact MT_now hM | exact MT_bt hM | exact MT_bl hM | exact MT_r0 hM | exact MT_t0 hM | exact MT_l0 hM | exact MT_r1 hM | exact MT_t1 hM | exact MT_l1 hM | exact MT_r2 hM | exact MT_t2 hM | exact MT_l2 hM | exact MT_r3 hM | exact MT_t3 hM | exact MT_l3 hM | exact MT_r4 hM | exact MT_t4 hM | exact MT_l4 hM | exact MT_r5 hM | exact MT_t5 hM | exact MT_l5 hM | exact MT_r6 hM | exact MT_t6 hM | exact MT_l6 hM | exact MT_r7 hM | exact MT_t7 hM | exact MT_l7 hM | exact MT_r8 hM | exact MT_t8 hM | exact MT_l8 hM | exact MT_r9 hM | exact MT_t9 hM | exact MT_l9 hM | exact MT_r10 hM | exact MT_t10 hM | exact MT_l10 hM) (by first | exact MT_0 hM | exact MT_now hM | exact MT_bt hM | exact MT_bl hM | exact MT_r0 hM | exact MT_t0 hM | exact MT_l0 hM | exact MT_r1 hM | exact MT_t1 hM | exact MT_l1 hM | exact MT_r2 hM | exact MT_t2 hM | exact MT_l2 hM | exact MT_r3 hM | exact MT_t3 hM | exact MT_l3 hM | exact MT_r4 hM | exact MT_t4 hM | exact MT_l4 hM | exact MT_r5 hM | exact MT_t5 hM | exact MT_l5 hM | exact MT_r6 hM | exact MT_t6 hM | exact MT_l6 hM | exact MT_r7 hM | exact MT_t7 hM | exact MT_l7 hM | exact MT_r8 hM | exact MT_t8 hM | exact MT_l8 hM | exact MT_r9 hM | exact MT_t9 hM | exact MT_l9 hM | exact MT_r10 hM | exact MT_t10 hM | exact MT_l10 hM) (by first | omega | exact hc _ _) (by first | omega | exact hc _ _) (by omega) (gw_inc2 at199_83 (h := (gw_goto at199_86 ?_))))
                  have h8 := ih2 (k + 1) (by omega) (by omega)
                  rw [itI_s _ _ hk0] at h8
                  rw [show mi1 c b i k (itI (mi1 c b i) (itI (mi2 c b) c i) k) = gu (itI (mi1 c b i) (itI (mi2 c b) c i) k) 200003 (24 * i + k) (mini c b i k) from rfl] at h8
                  first | (rw [show mini c b i k = 1000000000 from if_pos (by first | exact Or.inl (by assumption) | exact Or.inr (by assumption))] at h8; exact h8) | (rw [show mini c b i k = 0 by unfold mini; rw [if_neg (by simp [*]), if_pos (by omega)]] at h8; exact h8) | (rw [show mini c b i k = mct c b i k + mln c b k by unfold mini; rw [if_neg (by simp [*]), if_neg (by omega), if_pos (by assumption)]] at h8; exact h8) | (rw [show mini c b i k = 1000000000 by unfold mini; rw [if_neg (by simp [*]), if_neg (by omega), if_neg (by simp [*])]] at h8; exact h8)
                · refine gw_al0 at199_65 (gw_il1 at199_66 (gw_il2 at199_67 (gw_callP3 at199_68 (m_costOfTurn hM y1.1.1 (NW_of hV hY) (by omega) (by omega)) (by omega) (Nat.le_of_ble_eq_true rfl) ?_)))
                  rw [mct_o hY]
                  refine gw_al0 at199_71 (gw_il2 at199_72 (gw_callP2 at199_73 (m_lengthOf hM y1.1.1 (NW_of hV hY) (by omega)) (by omega) (Nat.le_of_ble_eq_true rfl) ?_))
                  rw [mln_o hY]
                  have hct := mct_rg (a := i) (e := k) hV
                  have hln := mln_rg (a := k) hV (by omega)
                  refine gw_iadd at199_76 (gw_goto at199_77 (gw_iw at199_82 (by first | exact MT_0 hM | exact MT_now hM | exact MT_bt hM | exact MT_bl hM | exact MT_r0 hM | exact MT_t0 hM | exact MT_l0 hM | exact MT_r1 hM | exact MT_t1 hM | exact MT_l1 hM | exact MT_r2 hM | exact MT_t2 hM | exact MT_l2 hM | exact MT_r3 hM | exact MT_t3 hM | exact MT_l3 hM | exact MT_r4 hM | exact MT_t4 hM | exact MT_l4 hM | exact MT_r5 hM | exact MT_t5 hM | exact MT_l5 hM | exact MT_r6 hM | exact MT_t6 hM | exact MT_l6 hM | exact MT_r7 hM | exact MT_t7 hM | exact MT_l7 hM | exact MT_r8 hM | exact MT_t8 hM | exact MT_l8 hM | exact MT_r9 hM | exact MT_t9 hM | exact MT_l9 hM | exact MT_r10 hM | exact MT_t10 hM | exact MT_l10 hM) (by first | exact MT_0 hM | exact MT_now hM | exact MT_bt hM | exact MT_bl hM | exact MT_r0 hM | exact MT_t0 hM | exact MT_l0 hM | exact MT_r1 hM | exact MT_t1 hM | exact MT_l1 hM | exact MT_r2 hM | exact MT_t2 hM | exact MT_l2 hM | exact MT_r3 hM | exact MT_t3 hM | exact MT_l3 hM | exact MT_r4 hM | exact MT_t4 hM | exact MT_l4 hM | exact MT_r5 hM | exact MT_t5 hM | exact MT_l5 hM | exact MT_r6 hM | exact MT_t6 hM | exact MT_l6 hM | exact MT_r7 hM | exact MT_t7 hM | exact MT_l7 hM | exact MT_r8 hM | exact MT_t8 hM | exact MT_l8 hM | exact MT_r9 hM | exact MT_t9 hM | exact MT_l9 hM | exact MT_r10 hM | exact MT_t10 hM | exact MT_l10 hM) (by first | omega | exact hc _ _) (by first | omega | exact hc _ _) (by omega) (gw_inc2 at199_83 (h := (gw_goto at199_86 ?_)))))
                  have h8 := ih2 (k + 1) (by omega) (by omega)
                  rw [itI_s _ _ hk0] at h8
                  rw [show mi1 c b i k (itI (mi1 c b i) (itI (mi2 c b) c i) k) = gu (itI (mi1 c b i) (itI (mi2 c b) c i) k) 200003 (24 * i + k) (mini c b i k) from rfl] at h8
                  first | (rw [show mini c b i k = 1000000000 from if_pos (by first | exact Or.inl (by assumption) | exact Or.inr (by assumption))] at h8; exact h8) | (rw [show mini c b i k = 0 by unfold mini; rw [if_neg (by simp [*]), if_pos (by omega)]] at h8; exact h8) | (rw [show mini c b i k = mct c b i k + mln c b k by unfold mini; rw [if_neg (by simp [*]), if_neg (by omega), if_pos (by assumption)]] at h8; exact h8) | (rw [show mini c b i k = 1000000000 by unfold mini; rw [if_neg (by simp [*]), if_neg (by omega), if_neg (by simp [*])]] at h8; exact h8)
              · refine gw_const at199_52 (gw_goto at199_53 (gw_iw at199_82 (by first | exact MT_0 hM | exact MT_now hM | exact MT_bt hM | exact MT_bl hM | exact MT_r0 hM | exact MT_t0 hM | exact MT_l0 hM | exact MT_r1 hM | exact MT_t1 hM | exact MT_l1 hM | exact MT_r2 hM | exact MT_t2 hM | exact MT_l2 hM | exact MT_r3 hM | exact MT_t3 hM | exact MT_l3 hM | exact MT_r4 hM | exact MT_t4 hM | exact MT_l4 hM | exact MT_r5 hM | exact MT_t5 hM | exact MT_l5 hM | exact MT_r6 hM | exact MT_t6 hM | exact MT_l6 hM | exact MT_r7 hM | exact MT_t7 hM | exact MT_l7 hM | exact MT_r8 hM | exact MT_t8 hM | exact MT_l8 hM | exact MT_r9 hM | exact MT_t9 hM | exact MT_l9 hM | exact MT_r10 hM | exact MT_t10 hM | exact MT_l10 hM) (by first | exact MT_0 hM | exact MT_now hM | exact MT_bt hM | exact MT_bl hM | exact MT_r0 hM | exact MT_t0 hM | exact MT_l0 hM | exact MT_r1 hM | exact MT_t1 hM | exact MT_l1 hM | exact MT_r2 hM | exact MT_t2 hM | exact MT_l2 hM | exact MT_r3 hM | exact MT_t3 hM | exact MT_l3 hM | exact MT_r4 hM | exact MT_t4 hM | exact MT_l4 hM | exact MT_r5 hM | exact MT_t5 hM | exact MT_l5 hM | exact MT_r6 hM | exact MT_t6 hM | exact MT_l6 hM | exact MT_r7 hM | exact MT_t7 hM | exact MT_l7 hM | exact MT_r8 hM | exact MT_t8 hM | exact MT_l8 hM | exact MT_r9 hM | exact MT_t9 hM | exact MT_l9 hM | exact MT_r10 hM | exact MT_t10 hM | exact MT_l10 hM) (by first | omega | exact hc _ _) (by first | omega | exact hc _ _) (by omega) (gw_inc2 at199_83 (h := (gw_goto at199_86 ?_)))))
                have h8 := ih2 (k + 1) (by omega) (by omega)
                rw [itI_s _ _ hk0] at h8
                rw [show mi1 c b i k (itI (mi1 c b i) (itI (mi2 c b) c i) k) = gu (itI (mi1 c b i) (itI (mi2 c b) c i) k) 200003 (24 * i + k) (mini c b i k) from rfl] at h8
                first | (rw [show mini c b i k = 1000000000 from if_pos (by first | exact Or.inl (by assumption) | exact Or.inr (by assumption))] at h8; exact h8) | (rw [show mini c b i k = 0 by unfold mini; rw [if_neg (by simp [*]), if_pos (by omega)]] at h8; exact h8) | (rw [show mini c b i k = mct c b i k + mln c b k by unfold mini; rw [if_neg (by simp [*]), if_neg (by omega), if_pos (by assumption)]] at h8; exact h8) | (rw [show mini c b i k = 1000000000 by unfold mini; rw [if_neg (by simp [*]), if_neg (by omega), if_neg (by simp [*])]] at h8; exact h8)
            · refine gw_ldc (z := 1000000000) at199_42 (by decide) (gw_goto at199_44 (gw_iw at199_82 (by first | exact MT_0 hM | exact MT_now hM | exact MT_bt hM | exact MT_bl hM | exact MT_r0 hM | exact MT_t0 hM | exact MT_l0 hM | exact MT_r1 hM | exact MT_t1 hM | exact MT_l1 hM | exact MT_r2 hM | exact MT_t2 hM | exact MT_l2 hM | exact MT_r3 hM | exact MT_t3 hM | exact MT_l3 hM | exact MT_r4 hM | exact MT_t4 hM | exact MT_l4 hM | exact MT_r5 hM | exact MT_t5 hM | exact MT_l5 hM | exact MT_r6 hM | exact MT_t6 hM | exact MT_l6 hM | exact MT_r7 hM | exact MT_t7 hM | exact MT_l7 hM | exact MT_r8 hM | exact MT_t8 hM | exact MT_l8 hM | exact MT_r9 hM | exact MT_t9 hM | exact MT_l9 hM | exact MT_r10 hM | exact MT_t10 hM | exact MT_l10 hM) (by first | exact MT_0 hM | exact MT_now hM | exact MT_bt hM | exact MT_bl hM | exact MT_r0 hM | exact MT_t0 hM | exact MT_l0 hM | exact MT_r1 hM | exact MT_t1 hM | exact MT_l1 hM | exact MT_r2 hM | exact MT_t2 hM | exact MT_l2 hM | exact MT_r3 hM | exact MT_t3 hM | exact MT_l3 hM | exact MT_r4 hM | exact MT_t4 hM | exact MT_l4 hM | exact MT_r5 hM | exact MT_t5 hM | exact MT_l5 hM | exact MT_r6 hM | exact MT_t6 hM | exact MT_l6 hM | exact MT_r7 hM | exact MT_t7 hM | exact MT_l7 hM | exact MT_r8 hM | exact MT_t8 hM | exact MT_l8 hM | exact MT_r9 hM | exact MT_t9 hM | exact MT_l9 hM | exact MT_r10 hM | exact MT_t10 hM | exact MT_l10 hM) (by first | omega | exact hc _ _) (by first | omega | exact hc _ _) (by omega) (gw_inc2 at199_83 (h := (gw_goto at199_86 ?_)))))
              have h8 := ih2 (k + 1) (by omega) (by omega)
              rw [itI_s _ _ hk0] at h8
              rw [show mi1 c b i k (itI (mi1 c b i) (itI (mi2 c b) c i) k) = gu (itI (mi1 c b i) (itI (mi2 c b) c i) k) 200003 (24 * i + k) (mini c b i k) from rfl] at h8
              first | (rw [show mini c b i k = 1000000000 from if_pos (by first | exact Or.inl (by assumption) | exact Or.inr (by assumption))] at h8; exact h8) | (rw [show mini c b i k = 0 by unfold mini; rw [if_neg (by simp [*]), if_pos (by omega)]] at h8; exact h8) | (rw [show mini c b i k = mct c b i k + mln c b k by unfold mini; rw [if_neg (by simp [*]), if_neg (by omega), if_pos (by assumption)]] at h8; exact h8) | (rw [show mini c b i k = 1000000000 by unfold mini; rw [if_neg (by simp [*]), if_neg (by omega), if_neg (by simp [*])]] at h8; exact h8)
      exact lp10 0 (by omega) (by omega)
  exact lp2 0 (by omega) (by omega) _ _ rfl rfl
