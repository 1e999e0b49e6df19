set_option maxHeartbeats 1000000 in
theorem m_parseNumbers {g : Nat} {T : gT} {c J : gC} {b : Nat} (hM : MT T b) (hb : b < 200002) (h : MK b T c) {a n : Int} (hn : AN a n) : gE g 313 4 [.ref 500001, gi a, gi n] (gm T c J) (fun o M1 => o = .inl none ∧ M1 = gm T (mpms b a n c) J) := by
  have hn2 := hn
  unfold AN at hn2
  refine gE_mk am_r313 rfl (Or.inr ⟨_, rfl, (by first | exact MT_0 hM | exact MT_now hM | exact MT_bt hM | exact MT_bl hM | exact MT_r0 hM | exact MT_t0 hM | exact MT_l0 hM | exact MT_r1 hM | exact MT_t1 hM | exact MT_l1 hM | exact MT_r2 hM | exact MT_t2 hM | exact MT_l2 hM | exact MT_r3 hM | exact MT_t3 hM | exact MT_l3 hM | exact MT_r4 hM | exact MT_t4 hM | exact MT_l4 hM | exact MT_r5 hM | exact MT_t5 hM | exact MT_l5 hM | exact MT_r6 hM | exact MT_t6 hM | exact MT_l6 hM | exact MT_r7 hM | exact MT_t7 hM | exact MT_l7 hM | exact MT_r8 hM | exact MT_t8 hM | exact MT_l8 hM | exact MT_r9 hM | exact MT_t9 hM | exact MT_l9 hM | exact MT_r10 hM | exact MT_t10 hM | exact MT_l10 hM)⟩) (fun d hd => ?_)
  show gw d g 313 0 [.ref 500001, gi a, gi n, am_U] [] _ _
  refine gw_const at313_0 (gw_is3 at313_1 (h := ?_))
  have lp2 : ∀ i : Int, 0 ≤ i → i ≤ 4 → i ≤ n → gw d g 313 2 [.ref 500001, gi a, gi n, gi i] [] (gm T (mpms b a i c) J) (fun o M1 => o = .inl none ∧ M1 = gm T (mpms b a n c) J) := by
    refine ind_up 4 ?_
    intro i hi0 hi1 ih hi2
    have g1 := MX_ms (i := i) hb (MX_rf h.1) hn hi2
    have h7 := MK_s hb h g1.1
    have h8 := MK_s hb h (MX_nu (l := 0) (u := 99) hb g1).1
    have r1 := mnu_rg (b := b) (l := 0) (u := 99) (c := mpms b a i c) (by decide)
    refine gw_il3 at313_2 ?_
    refine gw_il2 at313_3 ?_
    refine gw_cge at313_4 (by first | omega | exact h.1.1.1.1 _ _ | exact bi_rg _) (by first | omega | exact h.1.1.1.1 _ _ | exact bi_rg _) (fun q4 => ?_) (fun q4 => ?_)
    · refine gw_rv at313_28 am_r313.2.1 ?_
      have e : i = n := by omega
      rw [e]
      exact ⟨rfl, rfl⟩
    · refine gw_al0 at313_7 (gw_gr at313_8 (by first | exact MT_0 hM | exact MT_now hM | exact MT_bt hM | exact MT_bl hM | exact MT_r0 hM | exact MT_t0 hM | exact MT_l0 hM | exact MT_r1 hM | exact MT_t1 hM | exact MT_l1 hM | exact MT_r2 hM | exact MT_t2 hM | exact MT_l2 hM | exact MT_r3 hM | exact MT_t3 hM | exact MT_l3 hM | exact MT_r4 hM | exact MT_t4 hM | exact MT_l4 hM | exact MT_r5 hM | exact MT_t5 hM | exact MT_l5 hM | exact MT_r6 hM | exact MT_t6 hM | exact MT_l6 hM | exact MT_r7 hM | exact MT_t7 hM | exact MT_l7 hM | exact MT_r8 hM | exact MT_t8 hM | exact MT_l8 hM | exact MT_r9 hM | exact MT_t9 hM | exact MT_l9 hM | exact MT_r10 hM | exact MT_t10 hM | exact MT_l10 hM) (by first | exact MT_0 hM | exact MT_now hM | exact MT_bt hM | exact MT_bl hM | exact MT_r0 hM | exact MT_t0 hM | exact MT_l0 hM | exact MT_r1 hM | exact MT_t1 hM | exact MT_l1 hM | exact MT_r2 hM | exact MT_t2 hM | exact MT_l2 hM | exact MT_r3 hM | exact MT_t3 hM | exact MT_l3 hM | exact MT_r4 hM | exact MT_t4 hM | exact MT_l4 hM | exact MT_r5 hM | exact MT_t5 hM | exact MT_l5 hM | exact MT_r6 hM | exact MT_t6 hM | exact MT_l6 hM | exact MT_r7 hM | exact MT_t7 hM | exact MT_l7 hM | exact MT_r8 hM | exact MT_t8 hM | exact MT_l8 hM | exact MT_r9 hM | exact MT_t9 hM | exact MT_l9 hM | exact MT_r10 hM | exact MT_t10 hM | exact MT_l10 hM) (gw_il1 at313_11 (gw_il3 at313_12 (gw_iadd at313_13 (gw_al0 at313_14 (gw_const at313_15 (gw_bip at313_16 (by decide) ?_)))))))
      refine gw_call3 at313_18 (m_number hM h7.1 (by omega) (by decide) (by decide)) (by omega) (Nat.le_of_ble_eq_true rfl) (fun o M1 q18 => ?_)
      obtain ⟨rfl, rfl⟩ := q18
      show gw _ _ _ _ _ (gi _ :: gi (a + i) :: .ref b :: []) _ _
      refine gw_iw at313_21 (by first | exact MT_0 hM | exact MT_now hM | exact MT_bt hM | exact MT_bl hM | exact MT_r0 hM | exact MT_t0 hM | exact MT_l0 hM | exact MT_r1 hM | exact MT_t1 hM | exact MT_l1 hM | exact MT_r2 hM | exact MT_t2 hM | exact MT_l2 hM | exact MT_r3 hM | exact MT_t3 hM | exact MT_l3 hM | exact MT_r4 hM | exact MT_t4 hM | exact MT_l4 hM | exact MT_r5 hM | exact MT_t5 hM | exact MT_l5 hM | exact MT_r6 hM | exact MT_t6 hM | exact MT_l6 hM | exact MT_r7 hM | exact MT_t7 hM | exact MT_l7 hM | exact MT_r8 hM | exact MT_t8 hM | exact MT_l8 hM | exact MT_r9 hM | exact MT_t9 hM | exact MT_l9 hM | exact MT_r10 hM | exact MT_t10 hM | exact MT_l10 hM) (by first | exact MT_0 hM | exact MT_now hM | exact MT_bt hM | exact MT_bl hM | exact MT_r0 hM | exact MT_t0 hM | exact MT_l0 hM | exact MT_r1 hM | exact MT_t1 hM | exact MT_l1 hM | exact MT_r2 hM | exact MT_t2 hM | exact MT_l2 hM | exact MT_r3 hM | exact MT_t3 hM | exact MT_l3 hM | exact MT_r4 hM | exact MT_t4 hM | exact MT_l4 hM | exact MT_r5 hM | exact MT_t5 hM | exact MT_l5 hM | exact MT_r6 hM | exact MT_t6 hM | exact MT_l6 hM | exact MT_r7 hM | exact MT_t7 hM | exact MT_l7 hM | exact MT_r8 hM | exact MT_t8 hM | exact MT_l8 hM | exact MT_r9 hM | exact MT_t9 hM | exact MT_l9 hM | exact MT_r10 hM | exact MT_t10 hM | exact MT_l10 hM) (by first | omega | exact h.1.1.1.1 _ _ | exact bi_rg _) (by first | omega | exact h.1.1.1.1 _ _ | exact bi_rg _) (by omega) (gw_inc3 at313_22 (h := (gw_goto at313_25 ?_)))
      have h9 := ih (i + 1) (by omega) (by omega) (by omega)
      unfold mpms at h9
      rw [itI_s _ _ hi0] at h9
      exact h9
  exact lp2 0 (by omega) (by omega) (by omega)
