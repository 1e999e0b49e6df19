/-! the reference: names, numbers -/
set_option maxHeartbeats 1000000 in
theorem m_goOn {g : Nat} {T : gT} {c J : gC} {b : Nat} (hM : MT T b) (h : MI c) : gE g 299 2 [.ref 500001] (gm T c J) (fun o M1 => o = .inl none ∧ M1 = gm T (mon c) J) := by
  refine gE_mk am_r299 rfl (Or.inr ⟨_, rfl, (by first | exact MT_0 hM | exact MT_now hM | exact MT_bt hM | exact MT_bl hM | exact MT_r0 hM | exact MT_t0 hM | exact MT_l0 hM | exact MT_r1 hM | exact MT_t1 hM | exact MT_l1 hM | exact MT_r2 hM | exact MT_t2 hM | exact MT_l2 hM | exact MT_r3 hM | exact MT_t3 hM | exact MT_l3 hM | exact MT_r4 hM | exact MT_t4 hM | exact MT_l4 hM | exact MT_r5 hM | exact MT_t5 hM | exact MT_l5 hM | exact MT_r6 hM | exact MT_t6 hM | exact MT_l6 hM | exact MT_r7 hM | exact MT_t7 hM | exact MT_l7 hM | exact MT_r8 hM | exact MT_t8 hM | exact MT_l8 hM | exact MT_r9 hM | exact MT_t9 hM | exact MT_l9 hM | exact MT_r10 hM | exact MT_t10 hM | exact MT_l10 hM)⟩) (fun d hd => ?_)
  show gw d g 299 0 [.ref 500001] [] _ _
  refine gw_al0 at299_0 (gw_callP1 at299_1 (m_good hM h.1) (by omega) (Nat.le_of_ble_eq_true rfl) ?_)
  refine gw_beq at299_4 (fun q4 => ?_) (fun q4 => ?_)
  · refine gw_rv at299_11 am_r299.2.1 ?_
    first
    | (exact ⟨rfl, by rw [mon_t q4]⟩)
    | (exact ⟨rfl, by rw [mon_f q4]⟩)
  · refine gw_al0 at299_7 ?_
    refine gw_call1 at299_8 (m_advance hM h) (by omega) (Nat.le_of_ble_eq_true rfl) (fun o M1 q8 => ?_)
    obtain ⟨rfl, rfl⟩ := q8
    show gw _ _ _ _ _ [] _ _
    refine gw_rv at299_11 am_r299.2.1 ?_
    first
    | (exact ⟨rfl, by rw [mon_t q4]⟩)
    | (exact ⟨rfl, by rw [mon_f q4]⟩)
set_option maxHeartbeats 1000000 in
theorem m_isText {g : Nat} {T : gT} {c J : gC} {b : Nat} (hM : MT T b) (h : MP b c) (hL : LT T c) {n l : Nat} (hn : n < 20) (hl : am_tlen.getD n 0 = l) : gE g 300 4 [.ref 500001, .ref (900000 + n)] (gm T c J) (gR (gi (bi (mtx c n l))) (gm T c J)) := by
  have hS := hL n hn
  rw [hl] at hS
  have hs9 := h.1.1.2.1
  have hs8 := h.1.2.1
  have hl2 := hS.2.2.2.2.2.1
  refine gE_mk am_r300 rfl (Or.inr ⟨_, rfl, (by first | exact MT_0 hM | exact MT_now hM | exact MT_bt hM | exact MT_bl hM | exact MT_r0 hM | exact MT_t0 hM | exact MT_l0 hM | exact MT_r1 hM | exact MT_t1 hM | exact MT_l1 hM | exact MT_r2 hM | exact MT_t2 hM | exact MT_l2 hM | exact MT_r3 hM | exact MT_t3 hM | exact MT_l3 hM | exact MT_r4 hM | exact MT_t4 hM | exact MT_l4 hM | exact MT_r5 hM | exact MT_t5 hM | exact MT_l5 hM | exact MT_r6 hM | exact MT_t6 hM | exact MT_l6 hM | exact MT_r7 hM | exact MT_t7 hM | exact MT_l7 hM | exact MT_r8 hM | exact MT_t8 hM | exact MT_l8 hM | exact MT_r9 hM | exact MT_t9 hM | exact MT_l9 hM | exact MT_r10 hM | exact MT_t10 hM | exact MT_l10 hM)⟩) (fun d hd => ?_)
  show gw d g 300 0 [.ref 500001, .ref (900000 + n), am_U, am_U] [] _ _
  refine gw_al0 at300_0 (gw_callP1 at300_1 (m_good hM h.1.1.1) (by omega) (Nat.le_of_ble_eq_true rfl) ?_)
  refine gw_beq at300_4 (fun q4 => ?_) (fun q4 => ?_)
  · refine gw_const at300_35 (gw_is2 at300_36 (h := (gw_const at300_37 (gw_is3 at300_38 (h := ?_)))))
    have lp39 : ∀ i : Int, 0 ≤ i → i ≤ (l : Int) → ∀ v : Bool, (v && decide (ff (fun k => !decide (c 200009 (c 500001 18 + k) = c (910000 + n) k)) (l : Int) i = -1)) = mtx c n l → (v = true → c 500001 17 - c 500001 18 = (l : Int)) → gw d g 300 39 [.ref 500001, .ref (900000 + n), gi (bi v), gi i] [] (gm T c J) (gR (gi (bi (mtx c n l))) (gm T c J)) := by
      refine ind_up (l : Int) ?_
      intro i hi0 hi1 ih v hv hw
      refine gw_il3 at300_39 ?_
      refine gw_al1 at300_40 (gw_callP1 at300_41 (c_length hS) (by omega) (Nat.le_of_ble_eq_true rfl) ?_)
      refine gw_cge at300_44 (by first | omega | exact h.1.1.1 _ _ | exact bi_rg _ | (have := hS.2.2.2.2.2.2 i (by omega) (by omega); omega)) (by first | omega | exact h.1.1.1 _ _ | exact bi_rg _ | (have := hS.2.2.2.2.2.2 i (by omega) (by omega); omega)) (fun q44 => ?_) (fun q44 => ?_)
      · refine gw_il2 at300_82 (gw_rb at300_83 am_r300.2.1 (gR_b ?_))
        rw [← hv]
        first
        | (rw [q48]; rfl)
        | (rw [ff_end (by omega)]; simp)
      · refine gw_il2 at300_47 ?_
        refine gw_beq at300_48 (fun q48 => ?_) (fun q48 => ?_)
        · refine gw_il2 at300_82 (gw_rb at300_83 am_r300.2.1 (gR_b ?_))
          rw [← hv]
          first
          | (rw [q48]; rfl)
          | (rw [ff_end (by omega)]; simp)
        · have hw2 := hw q48
          refine gw_al0 at300_51 (gw_gr at300_52 (by first | exact MT_0 hM | exact MT_now hM | exact MT_bt hM | exact MT_bl hM | exact MT_r0 hM | exact MT_t0 hM | exact MT_l0 hM | exact MT_r1 hM | exact MT_t1 hM | exact MT_l1 hM | exact MT_r2 hM | exact MT_t2 hM | exact MT_l2 hM | exact MT_r3 hM | exact MT_t3 hM | exact MT_l3 hM | exact MT_r4 hM | exact MT_t4 hM | exact MT_l4 hM | exact MT_r5 hM | exact MT_t5 hM | exact MT_l5 hM | exact MT_r6 hM | exact MT_t6 hM | exact MT_l6 hM | exact MT_r7 hM | exact MT_t7 hM | exact MT_l7 hM | exact MT_r8 hM | exact MT_t8 hM | exact MT_l8 hM | exact MT_r9 hM | exact MT_t9 hM | exact MT_l9 hM | exact MT_r10 hM | exact MT_t10 hM | exact MT_l10 hM) (by first | exact MT_0 hM | exact MT_now hM | exact MT_bt hM | exact MT_bl hM | exact MT_r0 hM | exact MT_t0 hM | exact MT_l0 hM | exact MT_r1 hM | exact MT_t1 hM | exact MT_l1 hM | exact MT_r2 hM | exact MT_t2 hM | exact MT_l2 hM | exact MT_r3 hM | exact MT_t3 hM | exact MT_l3 hM | exact MT_r4 hM | exact MT_t4 hM | exact MT_l4 hM | exact MT_r5 hM | exact MT_t5 hM | exact MT_l5 hM | exact MT_r6 hM | exact MT_t6 hM | exact MT_l6 hM | exact MT_r7 hM | exact MT_t7 hM | exact MT_l7 hM | exact MT_r8 hM | exact MT_t8 hM | exact MT_l8 hM | exact MT_r9 hM | exact MT_t9 hM | exact MT_l9 hM | exact MT_r10 hM | exact MT_t10 hM | exact MT_l10 hM) (gw_al0 at300_55 (gw_gf (j := 18) at300_56 (by first | exact MT_0 hM | exact MT_now hM | exact MT_bt hM | exact MT_bl hM | exact MT_r0 hM | exact MT_t0 hM | exact MT_l0 hM | exact MT_r1 hM | exact MT_t1 hM | exact MT_l1 hM | exact MT_r2 hM | exact MT_t2 hM | exact MT_l2 hM | exact MT_r3 hM | exact MT_t3 hM | exact MT_l3 hM | exact MT_r4 hM | exact MT_t4 hM | exact MT_l4 hM | exact MT_r5 hM | exact MT_t5 hM | exact MT_l5 hM | exact MT_r6 hM | exact MT_t6 hM | exact MT_l6 hM | exact MT_r7 hM | exact MT_t7 hM | exact MT_l7 hM | exact MT_r8 hM | exact MT_t8 hM | exact MT_l8 hM | exact MT_r9 hM | exact MT_t9 hM | exact MT_l9 hM | exact MT_r10 hM | exact MT_t10 hM | exact MT_l10 hM) rfl (gw_il3 at300_59 (gw_iadd at300_60 (gw_ba at300_61 (by first | exact Or.inl (by first | exact MT_0 hM | exact MT_now hM | exact MT_bt hM | exact MT_bl hM | exact MT_r0 hM | exact MT_t0 hM | exact MT_l0 hM | exact MT_r1 hM | exact MT_t1 hM | exact MT_l1 hM | exact MT_r2 hM | exact MT_t2 hM | exact MT_l2 hM | exact MT_r3 hM | exact MT_t3 hM | exact MT_l3 hM | exact MT_r4 hM | exact MT_t4 hM | exact MT_l4 hM | exact MT_r5 hM | exact MT_t5 hM | exact MT_l5 hM | exact MT_r6 hM | exact MT_t6 hM | exact MT_l6 hM | exact MT_r7 hM | exact MT_t7 hM | exact MT_l7 hM | exact MT_r8 hM | exact MT_t8 hM | exact MT_l8 hM | exact MT_r9 hM | exact MT_t9 hM | exact MT_l9 hM | exact MT_r10 hM | exact MT_t10 hM | exact MT_l10 hM) | exact Or.inr (by first | exact MT_0 hM | exact MT_now hM | exact MT_bt hM | exact MT_bl hM | exact MT_r0 hM | exact MT_t0 hM | exact MT_l0 hM | exact MT_r1 hM | exact MT_t1 hM | exact MT_l1 hM | exact MT_r2 hM | exact MT_t2 hM | exact MT_l2 hM | exact MT_r3 hM | exact MT_t3 hM | exact MT_l3 hM | exact MT_r4 hM | exact MT_t4 hM | exact MT_l4 hM | exact MT_r5 hM | exact MT_t5 hM | exact MT_l5 hM | exact MT_r6 hM | exact MT_t6 hM | exact MT_l6 hM | exact MT_r7 hM | exact MT_t7 hM | exact MT_l7 hM | exact MT_r8 hM | exact MT_t8 hM | exact MT_l8 hM | exact MT_r9 hM | exact MT_t9 hM | exact MT_l9 hM | exact MT_r10 hM | exact MT_t10 hM | exact MT_l10 hM)) (by first | exact MT_0 hM | exact MT_now hM | exact MT_bt hM | exact MT_bl hM | exact MT_r0 hM | exact MT_t0 hM | exact MT_l0 hM | exact MT_r1 hM | exact MT_t1 hM | exact MT_l1 hM | exact MT_r2 hM | exact MT_t2 hM | exact MT_l2 hM | exact MT_r3 hM | exact MT_t3 hM | exact MT_l3 hM | exact MT_r4 hM | exact MT_t4 hM | exact MT_l4 hM | exact MT_r5 hM | exact MT_t5 hM | exact MT_l5 hM | exact MT_r6 hM | exact MT_t6 hM | exact MT_l6 hM | exact MT_r7 hM | exact MT_t7 hM | exact MT_l7 hM | exact MT_r8 hM | exact MT_t8 hM | exact MT_l8 hM | exact MT_r9 hM | exact MT_t9 hM | exact MT_l9 hM | exact MT_r10 hM | exact MT_t10 hM | exact MT_l10 hM) (by first | omega | exact h.1.1.1 _ _ | exact bi_rg _ | (have := hS.2.2.2.2.2.2 i (by omega) (by omega); omega)) (by first | omega | exact h.1.1.1 _ _ | exact bi_rg _ | (have := hS.2.2.2.2.2.2 i (by omega) (by omega); omega)) (by omega) (gw_al1 at300_62 (gw_il3 at300_63 (gw_callP2 at300_64 (c_charAt hS (by omega)) (by omega) (Nat.le_of_ble_eq_true rfl) ?_)))))))))
          refine gw_cne at300_67 (by first | omega | exact h.1.1.1 _ _ | exact bi_rg _ | (have := hS.2.2.2.2.2.2 i (by omega) (by omega); omega)) (by first | omega | exact h.1.1.1 _ _ | exact bi_rg _ | (have := hS.2.2.2.2.2.2 i (by omega) (by omega); omega)) (fun q67 => ?_) (fun q67 => ?_)
          · refine gw_const at300_74 (gw_is2 at300_75 (h := (gw_inc3 at300_76 (h := (gw_goto at300_79 ?_)))))
            first
            | exact ih (i + 1) (by omega) (by omega) true (by rw [← hv, q48, ff_no (i := i) (by omega) (by simp [*])]) (fun _ => hw q48)
            | exact ih (i + 1) (by omega) (by omega) false (by rw [← hv, q48, ff_yes (i := i) (by omega) (by simp [*]), decide_eq_false (show ¬ i = -1 by omega)]; rfl) (fun e => absurd e (by decide))
          · refine gw_const at300_70 (gw_goto at300_71 (gw_is2 at300_75 (h := (gw_inc3 at300_76 (h := (gw_goto at300_79 ?_))))))
            first
            | exact ih (i + 1) (by omega) (by omega) true (by rw [← hv, q48, ff_no (i := i) (by omega) (by simp [*])]) (fun _ => hw q48)
            | exact ih (i + 1) (by omega) (by omega) false (by rw [← hv, q48, ff_yes (i := i) (by omega) (by simp [*]), decide_eq_false (show ¬ i = -1 by omega)]; rfl) (fun e => absurd e (by decide))
    first
    | exact lp39 0 (by omega) (by omega) true (by unfold mtx; rw [q4, decide_eq_true (show c 500001 19 = 1 by omega), decide_eq_true (show c 500001 17 - c 500001 18 = (l : Int) by omega)]; rfl) (fun _ => by omega)
    | exact lp39 0 (by omega) (by omega) false (by unfold mtx; rw [q4, decide_eq_true (show c 500001 19 = 1 by omega), decide_eq_false (show ¬ c 500001 17 - c 500001 18 = (l : Int) by omega)]; rfl) (fun e => absurd e (by decide))
    | exact lp39 0 (by omega) (by omega) false (by unfold mtx; rw [q4, decide_eq_false (show ¬ c 500001 19 = 1 by omega)]; rfl) (fun e => absurd e (by decide))
    | exact lp39 0 (by omega) (by omega) false (by unfold mtx; rw [q4]; rfl) (fun e => absurd e (by decide))
  · refine gw_al0 at300_7 (gw_gf (j := 19) at300_8 (by first | exact MT_0 hM | exact MT_now hM | exact MT_bt hM | exact MT_bl hM | exact MT_r0 hM | exact MT_t0 hM | exact MT_l0 hM | exact MT_r1 hM | exact MT_t1 hM | exact MT_l1 hM | exact MT_r2 hM | exact MT_t2 hM | exact MT_l2 hM | exact MT_r3 hM | exact MT_t3 hM | exact MT_l3 hM | exact MT_r4 hM | exact MT_t4 hM | exact MT_l4 hM | exact MT_r5 hM | exact MT_t5 hM | exact MT_l5 hM | exact MT_r6 hM | exact MT_t6 hM | exact MT_l6 hM | exact MT_r7 hM | exact MT_t7 hM | exact MT_l7 hM | exact MT_r8 hM | exact MT_t8 hM | exact MT_l8 hM | exact MT_r9 hM | exact MT_t9 hM | exact MT_l9 hM | exact MT_r10 hM | exact MT_t10 hM | exact MT_l10 hM) rfl (gw_const at300_11 ?_))
    refine gw_cne at300_12 (by first | omega | exact h.1.1.1 _ _ | exact bi_rg _ | (have := hS.2.2.2.2.2.2 i (by omega) (by omega); omega)) (by first | omega | exact h.1.1.1 _ _ | exact bi_rg _ | (have := hS.2.2.2.2.2.2 i (by omega) (by omega); omega)) (fun q12 => ?_) (fun q12 => ?_)
    · refine gw_const at300_35 (gw_is2 at300_36 (h := (gw_const at300_37 (gw_is3 at300_38 (h := ?_)))))
      have lp39 : ∀ i : Int, 0 ≤ i → i ≤ (l : Int) → ∀ v : Bool, (v && decide (ff (fun k => !decide (c 200009 (c 500001 18 + k) = c (910000 + n) k)) (l : Int) i = -1)) = mtx c n l → (v = true → c 500001 17 - c 500001 18 = (l : Int)) → gw d g 300 39 [.ref 500001, .ref (900000 + n), gi (bi v), gi i] [] (gm T c J) (gR (gi (bi (mtx c n l))) (gm T c J)) := by
        refine ind_up (l : Int) ?_
        intro i hi0 hi1 ih v hv hw
        refine gw_il3 at300_39 ?_
        refine gw_al1 at300_40 (gw_callP1 at300_41 (c_length hS) (by omega) (Nat.le_of_ble_eq_true rfl) ?_)
        refine gw_cge at300_44 (by first | omega | exact h.1.1.1 _ _ | exact bi_rg _ | (have := hS.2.2.2.2.2.2 i (by omega) (by omega); omega)) (by first | omega | exact h.1.1.1 _ _ | exact bi_rg _ | (have := hS.2.2.2.2.2.2 i (by omega) (by omega); omega)) (fun q44 => ?_) (fun q44 => ?_)
        · refine gw_il2 at300_82 (gw_rb at300_83 am_r300.2.1 (gR_b ?_))
          rw [← hv]
          first
          | (rw [q48]; rfl)
          | (rw [ff_end (by omega)]; simp)
        · refine gw_il2 at300_47 ?_
          refine gw_beq at300_48 (fun q48 => ?_) (fun q48 => ?_)
          · refine gw_il2 at300_82 (gw_rb at300_83 am_r300.2.1 (gR_b ?_))
            rw [← hv]
            first
            | (rw [q48]; rfl)
            | (rw [ff_end (by omega)]; simp)
          · have hw2 := hw q48
            refine gw_al0 at300_51 (gw_gr at300_52 (by first | exact MT_0 hM | exact MT_now hM | exact MT_bt hM | exact MT_bl hM | exact MT_r0 hM | exact MT_t0 hM | exact MT_l0 hM | exact MT_r1 hM | exact MT_t1 hM | exact MT_l1 hM | exact MT_r2 hM | exact MT_t2 hM | exact MT_l2 hM | exact MT_r3 hM | exact MT_t3 hM | exact MT_l3 hM | exact MT_r4 hM | exact MT_t4 hM | exact MT_l4 hM | exact MT_r5 hM | exact MT_t5 hM | exact MT_l5 hM | exact MT_r6 hM | exact MT_t6 hM | exact MT_l6 hM | exact MT_r7 hM | exact MT_t7 hM | exact MT_l7 hM | exact MT_r8 hM | exact MT_t8 hM | exact MT_l8 hM | exact MT_r9 hM | exact MT_t9 hM | exact MT_l9 hM | exact MT_r10 hM | exact MT_t10 hM | exact MT_l10 hM) (by first | exact MT_0 hM | exact MT_now hM | exact MT_bt hM | exact MT_bl hM | exact MT_r0 hM | exact MT_t0 hM | exact MT_l0 hM | exact MT_r1 hM | exact MT_t1 hM | exact MT_l1 hM | exact MT_r2 hM | exact MT_t2 hM | exact MT_l2 hM | exact MT_r3 hM | exact MT_t3 hM | exact MT_l3 hM | exact MT_r4 hM | exact MT_t4 hM | exact MT_l4 hM | exact MT_r5 hM | exact MT_t5 hM | exact MT_l5 hM | exact MT_r6 hM | exact MT_t6 hM | exact MT_l6 hM | exact MT_r7 hM | exact MT_t7 hM | exact MT_l7 hM | exact MT_r8 hM | exact MT_t8 hM | exact MT_l8 hM | exact MT_r9 hM | exact MT_t9 hM | exact MT_l9 hM | exact MT_r10 hM | exact MT_t10 hM | exact MT_l10 hM) (gw_al0 at300_55 (gw_gf (j := 18) at300_56 (by first | exact MT_0 hM | exact MT_now hM | exact MT_bt hM | exact MT_bl hM | exact MT_r0 hM | exact MT_t0 hM | exact MT_l0 hM | exact MT_r1 hM | exact MT_t1 hM | exact MT_l1 hM | exact MT_r2 hM | exact MT_t2 hM | exact MT_l2 hM | exact MT_r3 hM | exact MT_t3 hM | exact MT_l3 hM | exact MT_r4 hM | exact MT_t4 hM | exact MT_l4 hM | exact MT_r5 hM | exact MT_t5 hM | exact MT_l5 hM | exact MT_r6 hM | exact MT_t6 hM | exact MT_l6 hM | exact MT_r7 hM | exact MT_t7 hM | exact MT_l7 hM | exact MT_r8 hM | exact MT_t8 hM | exact MT_l8 hM | exact MT_r9 hM | exact MT_t9 hM | exact MT_l9 hM | exact MT_r10 hM | exact MT_t10 hM | exact MT_l10 hM) rfl (gw_il3 at300_59 (gw_iadd at300_60 (gw_ba at300_61 (by first | exact Or.inl (by first | exact MT_0 hM | exact MT_now hM | exact MT_bt hM | exact MT_bl hM | exact MT_r0 hM | exact MT_t0 hM | exact MT_l0 hM | exact MT_r1 hM | exact MT_t1 hM | exact MT_l1 hM | exact MT_r2 hM | exact MT_t2 hM | exact MT_l2 hM | exact MT_r3 hM | exact MT_t3 hM | exact MT_l3 hM | exact MT_r4 hM | exact MT_t4 hM | exact MT_l4 hM | exact MT_r5 hM | exact MT_t5 hM | exact MT_l5 hM | exact MT_r6 hM | exact MT_t6 hM | exact MT_l6 hM | exact MT_r7 hM | exact MT_t7 hM | exact MT_l7 hM | exact MT_r8 hM | exact MT_t8 hM | exact MT_l8 hM | exact MT_r9 hM | exact MT_t9 hM | exact MT_l9 hM | exact MT_r10 hM | exact MT_t10 hM | exact MT_l10 hM) | exact Or.inr (by first | exact MT_0 hM | exact MT_now hM | exact MT_bt hM | exact MT_bl hM | exact MT_r0 hM | exact MT_t0 hM | exact MT_l0 hM | exact MT_r1 hM | exact MT_t1 hM | exact MT_l1 hM | exact MT_r2 hM | exact MT_t2 hM | exact MT_l2 hM | exact MT_r3 hM | exact MT_t3 hM | exact MT_l3 hM | exact MT_r4 hM | exact MT_t4 hM | exact MT_l4 hM | exact MT_r5 hM | exact MT_t5 hM | exact MT_l5 hM | exact MT_r6 hM | exact MT_t6 hM | exact MT_l6 hM | exact MT_r7 hM | exact MT_t7 hM | exact MT_l7 hM | exact MT_r8 hM | exact MT_t8 hM | exact MT_l8 hM | exact MT_r9 hM | exact MT_t9 hM | exact MT_l9 hM | exact MT_r10 hM | exact MT_t10 hM | exact MT_l10 hM)) (by first | exact MT_0 hM | exact MT_now hM | exact MT_bt hM | exact MT_bl hM | exact MT_r0 hM | exact MT_t0 hM | exact MT_l0 hM | exact MT_r1 hM | exact MT_t1 hM | exact MT_l1 hM | exact MT_r2 hM | exact MT_t2 hM | exact MT_l2 hM | exact MT_r3 hM | exact MT_t3 hM | exact MT_l3 hM | exact MT_r4 hM | exact MT_t4 hM | exact MT_l4 hM | exact MT_r5 hM | exact MT_t5 hM | exact MT_l5 hM | exact MT_r6 hM | exact MT_t6 hM | exact MT_l6 hM | exact MT_r7 hM | exact MT_t7 hM | exact MT_l7 hM | exact MT_r8 hM | exact MT_t8 hM | exact MT_l8 hM | exact MT_r9 hM | exact MT_t9 hM | exact MT_l9 hM | exact MT_r10 hM | exact MT_t10 hM | exact MT_l10 hM) (by first | omega | exact h.1.1.1 _ _ | exact bi_rg _ | (have := hS.2.2.2.2.2.2 i (by omega) (by omega); omega)) (by first | omega | exact h.1.1.1 _ _ | exact bi_rg _ | (have := hS.2.2.2.2.2.2 i (by omega) (by omega); omega)) (by omega) (gw_al1 at300_62 (gw_il3 at300_63 (gw_callP2 at300_64 (c_charAt hS (by omega)) (by omega) (Nat.le_of_ble_eq_true rfl) ?_)))))))))
            refine gw_cne at300_67 (by first | omega | exact h.1.1.1 _ _ | exact bi_rg _ | (have := hS.2.2.2.2.2.2 i (by omega) (by omega); omega)) (by first | omega | exact h.1.1.1 _ _ | exact bi_rg _ | (have := hS.2.2.2.2.2.2 i (by omega) (by omega); omega)) (fun q67 => ?_) (fun q67 => ?_)
            · refine gw_const at300_74 (gw_is2 at300_75 (h := (gw_inc3 at300_76 (h := (gw_goto at300_79 ?_)))))
              first
              | exact ih (i + 1) (by omega) (by omega) true (by rw [← hv, q48, ff_no (i := i) (by omega) (by simp [*])]) (fun _ => hw q48)
              | exact ih (i + 1) (by omega) (by omega) false (by rw [← hv, q48, ff_yes (i := i) (by omega) (by simp [*]), decide_eq_false (show ¬ i = -1 by omega)]; rfl) (fun e => absurd e (by decide))
            · refine gw_const at300_70 (gw_goto at300_71 (gw_is2 at300_75 (h := (gw_inc3 at300_76 (h := (gw_goto at300_79 ?_))))))
              first
              | exact ih (i + 1) (by omega) (by omega) true (by rw [← hv, q48, ff_no (i := i) (by omega) (by simp [*])]) (fun _ => hw q48)
              | exact ih (i + 1) (by omega) (by omega) false (by rw [← hv, q48, ff_yes (i := i) (by omega) (by simp [*]), decide_eq_false (show ¬ i = -1 by omega)]; rfl) (fun e => absurd e (by decide))
      first
      | exact lp39 0 (by omega) (by omega) true (by unfold mtx; rw [q4, decide_eq_true (show c 500001 19 = 1 by omega), decide_eq_true (show c 500001 17 - c 500001 18 = (l : Int) by omega)]; rfl) (fun _ => by omega)
      | exact lp39 0 (by omega) (by omega) false (by unfold mtx; rw [q4, decide_eq_true (show c 500001 19 = 1 by omega), decide_eq_false (show ¬ c 500001 17 - c 500001 18 = (l : Int) by omega)]; rfl) (fun e => absurd e (by decide))
      | exact lp39 0 (by omega) (by omega) false (by unfold mtx; rw [q4, decide_eq_false (show ¬ c 500001 19 = 1 by omega)]; rfl) (fun e => absurd e (by decide))
      | exact lp39 0 (by omega) (by omega) false (by unfold mtx; rw [q4]; rfl) (fun e => absurd e (by decide))
    · refine gw_al0 at300_15 (gw_gf (j := 17) at300_16 (by first | exact MT_0 hM | exact MT_now hM | exact MT_bt hM | exact MT_bl hM | exact MT_r0 hM | exact MT_t0 hM | exact MT_l0 hM | exact MT_r1 hM | exact MT_t1 hM | exact MT_l1 hM | exact MT_r2 hM | exact MT_t2 hM | exact MT_l2 hM | exact MT_r3 hM | exact MT_t3 hM | exact MT_l3 hM | exact MT_r4 hM | exact MT_t4 hM | exact MT_l4 hM | exact MT_r5 hM | exact MT_t5 hM | exact MT_l5 hM | exact MT_r6 hM | exact MT_t6 hM | exact MT_l6 hM | exact MT_r7 hM | exact MT_t7 hM | exact MT_l7 hM | exact MT_r8 hM | exact MT_t8 hM | exact MT_l8 hM | exact MT_r9 hM | exact MT_t9 hM | exact MT_l9 hM | exact MT_r10 hM | exact MT_t10 hM | exact MT_l10 hM) rfl (gw_al0 at300_19 (gw_gf (j := 18) at300_20 (by first | exact MT_0 hM | exact MT_now hM | exact MT_bt hM | exact MT_bl hM | exact MT_r0 hM | exact MT_t0 hM | exact MT_l0 hM | exact MT_r1 hM | exact MT_t1 hM | exact MT_l1 hM | exact MT_r2 hM | exact MT_t2 hM | exact MT_l2 hM | exact MT_r3 hM | exact MT_t3 hM | exact MT_l3 hM | exact MT_r4 hM | exact MT_t4 hM | exact MT_l4 hM | exact MT_r5 hM | exact MT_t5 hM | exact MT_l5 hM | exact MT_r6 hM | exact MT_t6 hM | exact MT_l6 hM | exact MT_r7 hM | exact MT_t7 hM | exact MT_l7 hM | exact MT_r8 hM | exact MT_t8 hM | exact MT_l8 hM | exact MT_r9 hM | exact MT_t9 hM | exact MT_l9 hM | exact MT_r10 hM | exact MT_t10 hM | exact MT_l10 hM) rfl (gw_isub at300_23 (gw_al1 at300_24 (gw_callP1 at300_25 (c_length hS) (by omega) (Nat.le_of_ble_eq_true rfl) ?_))))))
      refine gw_cne at300_28 (by first | omega | exact h.1.1.1 _ _ | exact bi_rg _ | (have := hS.2.2.2.2.2.2 i (by omega) (by omega); omega)) (by first | omega | exact h.1.1.1 _ _ | exact bi_rg _ | (have := hS.2.2.2.2.2.2 i (by omega) (by omega); omega)) (fun q28 => ?_) (fun q28 => ?_)
      · refine gw_const at300_35 (gw_is2 at300_36 (h := (gw_const at300_37 (gw_is3 at300_38 (h := ?_)))))
        have lp39 : ∀ i : Int, 0 ≤ i → i ≤ (l : Int) → ∀ v : Bool, (v && decide (ff (fun k => !decide (c 200009 (c 500001 18 + k) = c (910000 + n) k)) (l : Int) i = -1)) = mtx c n l → (v = true → c 500001 17 - c 500001 18 = (l : Int)) → gw d g 300 39 [.ref 500001, .ref (900000 + n), gi (bi v), gi i] [] (gm T c J) (gR (gi (bi (mtx c n l))) (gm T c J)) := by
          refine ind_up (l : Int) ?_
          intro i hi0 hi1 ih v hv hw
          refine gw_il3 at300_39 ?_
          refine gw_al1 at300_40 (gw_callP1 at300_41 (c_length hS) (by omega) (Nat.le_of_ble_eq_true rfl) ?_)
          refine gw_cge at300_44 (by first | omega | exact h.1.1.1 _ _ | exact bi_rg _ | (have := hS.2.2.2.2.2.2 i (by omega) (by omega); omega)) (by first | omega | exact h.1.1.1 _ _ | exact bi_rg _ | (have := hS.2.2.2.2.2.2 i (by omega) (by omega); omega)) (fun q44 => ?_) (fun q44 => ?_)
          · refine gw_il2 at300_82 (gw_rb at300_83 am_r300.2.1 (gR_b ?_))
            rw [← hv]
            first
            | (rw [q48]; rfl)
            | (rw [ff_end (by omega)]; simp)
          · refine gw_il2 at300_47 ?_
            refine gw_beq at300_48 (fun q48 => ?_) (fun q48 => ?_)
            · refine gw_il2 at300_82 (gw_rb at300_83 am_r300.2.1 (gR_b ?_))
              rw [← hv]
              first
              | (rw [q48]; rfl)
              | (rw [ff_end (by omega)]; simp)
            · have hw2 := hw q48
              refine gw_al0 at300_51 (gw_gr at300_52 (by first | exact MT_0 hM | exact MT_now hM | exact MT_bt hM | exact MT_bl hM | exact MT_r0 hM | exact MT_t0 hM | exact MT_l0 hM | exact MT_r1 hM | exact MT_t1 hM | exact MT_l1 hM | exact MT_r2 hM | exact MT_t2 hM | exact MT_l2 hM | exact MT_r3 hM | exact MT_t3 hM | exact MT_l3 hM | exact MT_r4 hM | exact MT_t4 hM | exact MT_l4 hM | exact MT_r5 hM | exact MT_t5 hM | exact MT_l5 hM | exact MT_r6 hM | exact MT_t6 hM | exact MT_l6 hM | exact MT_r7 hM | exact MT_t7 hM | exact MT_l7 hM | exact MT_r8 hM | exact MT_t8 hM | exact MT_l8 hM | exact MT_r9 hM | exact MT_t9 hM | exact MT_l9 hM | exact MT_r10 hM | exact MT_t10 hM | exact MT_l10 hM) (by first | exact MT_0 hM | exact MT_now hM | exact MT_bt hM | exact MT_bl hM | exact MT_r0 hM | exact MT_t0 hM | exact MT_l0 hM | exact MT_r1 hM | exact MT_t1 hM | exact MT_l1 hM | exact MT_r2 hM | exact MT_t2 hM | exact MT_l2 hM | exact MT_r3 hM | exact MT_t3 hM | exact MT_l3 hM | exact MT_r4 hM | exact MT_t4 hM | exact MT_l4 hM | exact MT_r5 hM | exact MT_t5 hM | exact MT_l5 hM | exact MT_r6 hM | exact MT_t6 hM | exact MT_l6 hM | exact MT_r7 hM | exact MT_t7 hM | exact MT_l7 hM | exact MT_r8 hM | exact MT_t8 hM | exact MT_l8 hM | exact MT_r9 hM | exact MT_t9 hM | exact MT_l9 hM | exact MT_r10 hM | exact MT_t10 hM | exact MT_l10 hM) (gw_al0 at300_55 (gw_gf (j := 18) at300_56 (by first | exact MT_0 hM | exact MT_now hM | exact MT_bt hM | exact MT_bl hM | exact MT_r0 hM | exact MT_t0 hM | exact MT_l0 hM | exact MT_r1 hM | exact MT_t1 hM | exact MT_l1 hM | exact MT_r2 hM | exact MT_t2 hM | exact MT_l2 hM | exact MT_r3 hM | exact MT_t3 hM | exact MT_l3 hM | exact MT_r4 hM | exact MT_t4 hM | exact MT_l4 hM | exact MT_r5 hM | exact MT_t5 hM | exact MT_l5 hM | exact MT_r6 hM | exact MT_t6 hM | exact MT_l6 hM | exact MT_r7 hM | exact MT_t7 hM | exact MT_l7 hM | exact MT_r8 hM | exact MT_t8 hM | exact MT_l8 hM | exact MT_r9 hM | exact MT_t9 hM | exact MT_l9 hM | exact MT_r10 hM | exact MT_t10 hM | exact MT_l10 hM) rfl (gw_il3 at300_59 (gw_iadd at300_60 (gw_ba at300_61 (by first | exact Or.inl (by first | exact MT_0 hM | exact MT_now hM | exact MT_bt hM | exact MT_bl hM | exact MT_r0 hM | exact MT_t0 hM | exact MT_l0 hM | exact MT_r1 hM | exact MT_t1 hM | exact MT_l1 hM | exact MT_r2 hM | exact MT_t2 hM | exact MT_l2 hM | exact MT_r3 hM | exact MT_t3 hM | exact MT_l3 hM | exact MT_r4 hM | exact MT_t4 hM | exact MT_l4 hM | exact MT_r5 hM | exact MT_t5 hM | exact MT_l5 hM | exact MT_r6 hM | exact MT_t6 hM | exact MT_l6 hM | exact MT_r7 hM | exact MT_t7 hM | exact MT_l7 hM | exact MT_r8 hM | exact MT_t8 hM | exact MT_l8 hM | exact MT_r9 hM | exact MT_t9 hM | exact MT_l9 hM | exact MT_r10 hM | exact MT_t10 hM | exact MT_l10 hM) | exact Or.inr (by first | exact MT_0 hM | exact MT_now hM | exact MT_bt hM | exact MT_bl hM | exact MT_r0 hM | exact MT_t0 hM | exact MT_l0 hM | exact MT_r1 hM | exact MT_t1 hM | exact MT_l1 hM | exact MT_r2 hM | exact MT_t2 hM | exact MT_l2 hM | exact MT_r3 hM | exact MT_t3 hM | exact MT_l3 hM | exact MT_r4 hM | exact MT_t4 hM | exact MT_l4 hM | exact MT_r5 hM | exact MT_t5 hM | exact MT_l5 hM | exact MT_r6 hM | exact MT_t6 hM | exact MT_l6 hM | exact MT_r7 hM | exact MT_t7 hM | exact MT_l7 hM | exact MT_r8 hM | exact MT_t8 hM | exact MT_l8 hM | exact MT_r9 hM | exact MT_t9 hM | exact MT_l9 hM | exact MT_r10 hM | exact MT_t10 hM | exact MT_l10 hM)) (by first | exact MT_0 hM | exact MT_now hM | exact MT_bt hM | exact MT_bl hM | exact MT_r0 hM | exact MT_t0 hM | exact MT_l0 hM | exact MT_r1 hM | exact MT_t1 hM | exact MT_l1 hM | exact MT_r2 hM | exact MT_t2 hM | exact MT_l2 hM | exact MT_r3 hM | exact MT_t3 hM | exact MT_l3 hM | exact MT_r4 hM | exact MT_t4 hM | exact MT_l4 hM | exact MT_r5 hM | exact MT_t5 hM | exact MT_l5 hM | exact MT_r6 hM | exact MT_t6 hM | exact MT_l6 hM | exact MT_r7 hM | exact MT_t7 hM | exact MT_l7 hM | exact MT_r8 hM | exact MT_t8 hM | exact MT_l8 hM | exact MT_r9 hM | exact MT_t9 hM | exact MT_l9 hM | exact MT_r10 hM | exact MT_t10 hM | exact MT_l10 hM) (by first | omega | exact h.1.1.1 _ _ | exact bi_rg _ | (have := hS.2.2.2.2.2.2 i (by omega) (by omega); omega)) (by first | omega | exact h.1.1.1 _ _ | exact bi_rg _ | (have := hS.2.2.2.2.2.2 i (by omega) (by omega); omega)) (by omega) (gw_al1 at300_62 (gw_il3 at300_63 (gw_callP2 at300_64 (c_charAt hS (by omega)) (by omega) (Nat.le_of_ble_eq_true rfl) ?_)))))))))
              refine gw_cne at300_67 (by first | omega | exact h.1.1.1 _ _ | exact bi_rg _ | (have := hS.2.2.2.2.2.2 i (by omega) (by omega); omega)) (by first | omega | exact h.1.1.1 _ _ | exact bi_rg _ | (have := hS.2.2.2.2.2.2 i (by omega) (by omega); omega)) (fun q67 => ?_) (fun q67 => ?_)
              · refine gw_const at300_74 (gw_is2 at300_75 (h := (gw_inc3 at300_76 (h := (gw_goto at300_79 ?_)))))
                first
                | exact ih (i + 1) (by omega) (by omega) true (by rw [← hv, q48, ff_no (i := i) (by omega) (by simp [*])]) (fun _ => hw q48)
                | exact ih (i + 1) (by omega) (by omega) false (by rw [← hv, q48, ff_yes (i := i) (by omega) (by simp [*]), decide_eq_false (show ¬ i = -1 by omega)]; rfl) (fun e => absurd e (by decide))
              · refine gw_const at300_70 (gw_goto at300_71 (gw_is2 at300_75 (h := (gw_inc3 at300_76 (h := (gw_goto at300_79 ?_))))))
                first
                | exact ih (i + 1) (by omega) (by omega) true (by rw [← hv, q48, ff_no (i := i) (by omega) (by simp [*])]) (fun _ => hw q48)
                | exact ih (i + 1) (by omega) (by omega) false (by rw [← hv, q48, ff_yes (i := i) (by omega) (by simp [*]), decide_eq_false (show ¬ i = -1 by omega)]; rfl) (fun e => absurd e (by decide))
        first
        | exact lp39 0 (by omega) (by omega) true (by unfold mtx; rw [q4, decide_eq_true (show c 500001 19 = 1 by omega), decide_eq_true (show c 500001 17 - c 500001 18 = (l : Int) by omega)]; rfl) (fun _ => by omega)
        | exact lp39 0 (by omega) (by omega) false (by unfold mtx; rw [q4, decide_eq_true (show c 500001 19 = 1 by omega), decide_eq_false (show ¬ c 500001 17 - c 500001 18 = (l : Int) by omega)]; rfl) (fun e => absurd e (by decide))
        | exact lp39 0 (by omega) (by omega) false (by unfold mtx; rw [q4, decide_eq_false (show ¬ c 500001 19 = 1 by omega)]; rfl) (fun e => absurd e (by decide))
        | exact lp39 0 (by omega) (by omega) false (by unfold mtx; rw [q4]; rfl) (fun e => absurd e (by decide))
      · refine gw_const at300_31 (gw_goto at300_32 (gw_is2 at300_36 (h := (gw_const at300_37 (gw_is3 at300_38 (h := ?_))))))
        have lp39 : ∀ i : Int, 0 ≤ i → i ≤ (l : Int) → ∀ v : Bool, (v && decide (ff (fun k => !decide (c 200009 (c 500001 18 + k) = c (910000 + n) k)) (l : Int) i = -1)) = mtx c n l → (v = true → c 500001 17 - c 500001 18 = (l : Int)) → gw d g 300 39 [.ref 500001, .ref (900000 + n), gi (bi v), gi i] [] (gm T c J) (gR (gi (bi (mtx c n l))) (gm T c J)) := by
          refine ind_up (l : Int) ?_
          intro i hi0 hi1 ih v hv hw
          refine gw_il3 at300_39 ?_
          refine gw_al1 at300_40 (gw_callP1 at300_41 (c_length hS) (by omega) (Nat.le_of_ble_eq_true rfl) ?_)
          refine gw_cge at300_44 (by first | omega | exact h.1.1.1 _ _ | exact bi_rg _ | (have := hS.2.2.2.2.2.2 i (by omega) (by omega); omega)) (by first | omega | exact h.1.1.1 _ _ | exact bi_rg _ | (have := hS.2.2.2.2.2.2 i (by omega) (by omega); omega)) (fun q44 => ?_) (fun q44 => ?_)
          · refine gw_il2 at300_82 (gw_rb at300_83 am_r300.2.1 (gR_b ?_))
            rw [← hv]
            first
            | (rw [q48]; rfl)
            | (rw [ff_end (by omega)]; simp)
          · refine gw_il2 at300_47 ?_
            refine gw_beq at300_48 (fun q48 => ?_) (fun q48 => ?_)
            · refine gw_il2 at300_82 (gw_rb at300_83 am_r300.2.1 (gR_b ?_))
              rw [← hv]
              first
              | (rw [q48]; rfl)
              | (rw [ff_end (by omega)]; simp)
            · have hw2 := hw q48
              refine gw_al0 at300_51 (gw_gr at300_52 (by first | exact MT_0 hM | exact MT_now hM | exact MT_bt hM | exact MT_bl hM | exact MT_r0 hM | exact MT_t0 hM | exact MT_l0 hM | exact MT_r1 hM | exact MT_t1 hM | exact MT_l1 hM | exact MT_r2 hM | exact MT_t2 hM | exact MT_l2 hM | exact MT_r3 hM | exact MT_t3 hM | exact MT_l3 hM | exact MT_r4 hM | exact MT_t4 hM | exact MT_l4 hM | exact MT_r5 hM | exact MT_t5 hM | exact MT_l5 hM | exact MT_r6 hM | exact MT_t6 hM | exact MT_l6 hM | exact MT_r7 hM | exact MT_t7 hM | exact MT_l7 hM | exact MT_r8 hM | exact MT_t8 hM | exact MT_l8 hM | exact MT_r9 hM | exact MT_t9 hM | exact MT_l9 hM | exact MT_r10 hM | exact MT_t10 hM | exact MT_l10 hM) (by first | exact MT_0 hM | exact MT_now hM | exact MT_bt hM | exact MT_bl hM | exact MT_r0 hM | exact MT_t0 hM | exact MT_l0 hM | exact MT_r1 hM | exact MT_t1 hM | exact MT_l1 hM | exact MT_r2 hM | exact MT_t2 hM | exact MT_l2 hM | exact MT_r3 hM | exact MT_t3 hM | exact MT_l3 hM | exact MT_r4 hM | exact MT_t4 hM | exact MT_l4 hM | exact MT_r5 hM | exact MT_t5 hM | exact MT_l5 hM | exact MT_r6 hM | exact MT_t6 hM | exact MT_l6 hM | exact MT_r7 hM | exact MT_t7 hM | exact MT_l7 hM | exact MT_r8 hM | exact MT_t8 hM | exact MT_l8 hM | exact MT_r9 hM | exact MT_t9 hM | exact MT_l9 hM | exact MT_r10 hM | exact MT_t10 hM | exact MT_l10 hM) (gw_al0 at300_55 (gw_gf (j := 18) at300_56 (by first | exact MT_0 hM | exact MT_now hM | exact MT_bt hM | exact MT_bl hM | exact MT_r0 hM | exact MT_t0 hM | exact MT_l0 hM | exact MT_r1 hM | exact MT_t1 hM | exact MT_l1 hM | exact MT_r2 hM | exact MT_t2 hM | exact MT_l2 hM | exact MT_r3 hM | exact MT_t3 hM | exact MT_l3 hM | exact MT_r4 hM | exact MT_t4 hM | exact MT_l4 hM | exact MT_r5 hM | exact MT_t5 hM | exact MT_l5 hM | exact MT_r6 hM | exact MT_t6 hM | exact MT_l6 hM | exact MT_r7 hM | exact MT_t7 hM | exact MT_l7 hM | exact MT_r8 hM | exact MT_t8 hM | exact MT_l8 hM | exact MT_r9 hM | exact MT_t9 hM | exact MT_l9 hM | exact MT_r10 hM | exact MT_t10 hM | exact MT_l10 hM) rfl (gw_il3 at300_59 (gw_iadd at300_60 (gw_ba at300_61 (by first | exact Or.inl (by first | exact MT_0 hM | exact MT_now hM | exact MT_bt hM | exact MT_bl hM | exact MT_r0 hM | exact MT_t0 hM | exact MT_l0 hM | exact MT_r1 hM | exact MT_t1 hM | exact MT_l1 hM | exact MT_r2 hM | exact MT_t2 hM | exact MT_l2 hM | exact MT_r3 hM | exact MT_t3 hM | exact MT_l3 hM | exact MT_r4 hM | exact MT_t4 hM | exact MT_l4 hM | exact MT_r5 hM | exact MT_t5 hM | exact MT_l5 hM | exact MT_r6 hM | exact MT_t6 hM | exact MT_l6 hM | exact MT_r7 hM | exact MT_t7 hM | exact MT_l7 hM | exact MT_r8 hM | exact MT_t8 hM | exact MT_l8 hM | exact MT_r9 hM | exact MT_t9 hM | exact MT_l9 hM | exact MT_r10 hM | exact MT_t10 hM | exact MT_l10 hM) | exact Or.inr (by first | exact MT_0 hM | exact MT_now hM | exact MT_bt hM | exact MT_bl hM | exact MT_r0 hM | exact MT_t0 hM | exact MT_l0 hM | exact MT_r1 hM | exact MT_t1 hM | exact MT_l1 hM | exact MT_r2 hM | exact MT_t2 hM | exact MT_l2 hM | exact MT_r3 hM | exact MT_t3 hM | exact MT_l3 hM | exact MT_r4 hM | exact MT_t4 hM | exact MT_l4 hM | exact MT_r5 hM | exact MT_t5 hM | exact MT_l5 hM | exact MT_r6 hM | exact MT_t6 hM | exact MT_l6 hM | exact MT_r7 hM | exact MT_t7 hM | exact MT_l7 hM | exact MT_r8 hM | exact MT_t8 hM | exact MT_l8 hM | exact MT_r9 hM | exact MT_t9 hM | exact MT_l9 hM | exact MT_r10 hM | exact MT_t10 hM | exact MT_l10 hM)) (by first | exact MT_0 hM | exact MT_now hM | exact MT_bt hM | exact MT_bl hM | exact MT_r0 hM | exact MT_t0 hM | exact MT_l0 hM | exact MT_r1 hM | exact MT_t1 hM | exact MT_l1 hM | exact MT_r2 hM | exact MT_t2 hM | exact MT_l2 hM | exact MT_r3 hM | exact MT_t3 hM | exact MT_l3 hM | exact MT_r4 hM | exact MT_t4 hM | exact MT_l4 hM | exact MT_r5 hM | exact MT_t5 hM | exact MT_l5 hM | exact MT_r6 hM | exact MT_t6 hM | exact MT_l6 hM | exact MT_r7 hM | exact MT_t7 hM | exact MT_l7 hM | exact MT_r8 hM | exact MT_t8 hM | exact MT_l8 hM | exact MT_r9 hM | exact MT_t9 hM | exact MT_l9 hM | exact MT_r10 hM | exact MT_t10 hM | exact MT_l10 hM) (by first | omega | exact h.1.1.1 _ _ | exact bi_rg _ | (have := hS.2.2.2.2.2.2 i (by omega) (by omega); omega)) (by first | omega | exact h.1.1.1 _ _ | exact bi_rg _ | (have := hS.2.2.2.2.2.2 i (by omega) (by omega); omega)) (by omega) (gw_al1 at300_62 (gw_il3 at300_63 (gw_callP2 at300_64 (c_charAt hS (by omega)) (by omega) (Nat.le_of_ble_eq_true rfl) ?_)))))))))
              refine gw_cne at300_67 (by first | omega | exact h.1.1.1 _ _ | exact bi_rg _ | (have := hS.2.2.2.2.2.2 i (by omega) (by omega); omega)) (by first | omega | exact h.1.1.1 _ _ | exact bi_rg _ | (have := hS.2.2.2.2.2.2 i (by omega) (by omega); omega)) (fun q67 => ?_) (fun q67 => ?_)
              · refine gw_const at300_74 (gw_is2 at300_75 (h := (gw_inc3 at300_76 (h := (gw_goto at300_79 ?_)))))
                first
                | exact ih (i + 1) (by omega) (by omega) true (by rw [← hv, q48, ff_no (i := i) (by omega) (by simp [*])]) (fun _ => hw q48)
                | exact ih (i + 1) (by omega) (by omega) false (by rw [← hv, q48, ff_yes (i := i) (by omega) (by simp [*]), decide_eq_false (show ¬ i = -1 by omega)]; rfl) (fun e => absurd e (by decide))
              · refine gw_const at300_70 (gw_goto at300_71 (gw_is2 at300_75 (h := (gw_inc3 at300_76 (h := (gw_goto at300_79 ?_))))))
                first
                | exact ih (i + 1) (by omega) (by omega) true (by rw [← hv, q48, ff_no (i := i) (by omega) (by simp [*])]) (fun _ => hw q48)
                | exact ih (i + 1) (by omega) (by omega) false (by rw [← hv, q48, ff_yes (i := i) (by omega) (by simp [*]), decide_eq_false (show ¬ i = -1 by omega)]; rfl) (fun e => absurd e (by decide))
        first
        | exact lp39 0 (by omega) (by omega) true (by unfold mtx; rw [q4, decide_eq_true (show c 500001 19 = 1 by omega), decide_eq_true (show c 500001 17 - c 500001 18 = (l : Int) by omega)]; rfl) (fun _ => by omega)
        | exact lp39 0 (by omega) (by omega) false (by unfold mtx; rw [q4, decide_eq_true (show c 500001 19 = 1 by omega), decide_eq_false (show ¬ c 500001 17 - c 500001 18 = (l : Int) by omega)]; rfl) (fun e => absurd e (by decide))
        | exact lp39 0 (by omega) (by omega) false (by unfold mtx; rw [q4, decide_eq_false (show ¬ c 500001 19 = 1 by omega)]; rfl) (fun e => absurd e (by decide))
        | exact lp39 0 (by omega) (by omega) false (by unfold mtx; rw [q4]; rfl) (fun e => absurd e (by decide))
set_option maxHeartbeats 1000000 in
theorem m_isKw {g : Nat} {T : gT} {c J : gC} {b : Nat} (hM : MT T b) (h : MP b c) (hL : LT T c) : gE g 301 5 [.ref 500001] (gm T c J) (gR (gi (bi (mkw2 c))) (gm T c J)) := by
  refine gE_mk am_r301 rfl (Or.inr ⟨_, rfl, (by first | exact MT_0 hM | exact MT_now hM | exact MT_bt hM | exact MT_bl hM | exact MT_r0 hM | exact MT_t0 hM | exact MT_l0 hM | exact MT_r1 hM | exact MT_t1 hM | exact MT_l1 hM | exact MT_r2 hM | exact MT_t2 hM | exact MT_l2 hM | exact MT_r3 hM | exact MT_t3 hM | exact MT_l3 hM | exact MT_r4 hM | exact MT_t4 hM | exact MT_l4 hM | exact MT_r5 hM | exact MT_t5 hM | exact MT_l5 hM | exact MT_r6 hM | exact MT_t6 hM | exact MT_l6 hM | exact MT_r7 hM | exact MT_t7 hM | exact MT_l7 hM | exact MT_r8 hM | exact MT_t8 hM | exact MT_l8 hM | exact MT_r9 hM | exact MT_t9 hM | exact MT_l9 hM | exact MT_r10 hM | exact MT_t10 hM | exact MT_l10 hM)⟩) (fun d hd => ?_)
  show gw d g 301 0 [.ref 500001] [] _ _
  refine gw_al0 at301_0 (gw_ldcsw (q := 900000) at301_1 rfl (gw_callP2 at301_4 (m_isText (n := 0) (l := 4) hM h hL (by decide) rfl) (by omega) (Nat.le_of_ble_eq_true rfl) ?_))
  refine gw_bne at301_7 (fun q7 => ?_) (fun q7 => ?_)
  · refine gw_const at301_90 (gw_goto at301_91 (gw_r1 at301_95 am_r301.2.1 (gR_b ?_)))
    simp [mkw2, *]
  · refine gw_al0 at301_10 (gw_ldcsw (q := 900001) at301_11 rfl (gw_callP2 at301_14 (m_isText (n := 1) (l := 4) hM h hL (by decide) rfl) (by omega) (Nat.le_of_ble_eq_true rfl) ?_))
    refine gw_bne at301_17 (fun q17 => ?_) (fun q17 => ?_)
    · refine gw_const at301_90 (gw_goto at301_91 (gw_r1 at301_95 am_r301.2.1 (gR_b ?_)))
      simp [mkw2, *]
    · refine gw_al0 at301_20 (gw_ldcsw (q := 900002) at301_21 rfl (gw_callP2 at301_24 (m_isText (n := 2) (l := 6) hM h hL (by decide) rfl) (by omega) (Nat.le_of_ble_eq_true rfl) ?_))
      refine gw_bne at301_27 (fun q27 => ?_) (fun q27 => ?_)
      · refine gw_const at301_90 (gw_goto at301_91 (gw_r1 at301_95 am_r301.2.1 (gR_b ?_)))
        simp [mkw2, *]
      · refine gw_al0 at301_30 (gw_ldcsw (q := 900003) at301_31 rfl (gw_callP2 at301_34 (m_isText (n := 3) (l := 5) hM h hL (by decide) rfl) (by omega) (Nat.le_of_ble_eq_true rfl) ?_))
        refine gw_bne at301_37 (fun q37 => ?_) (fun q37 => ?_)
        · refine gw_const at301_90 (gw_goto at301_91 (gw_r1 at301_95 am_r301.2.1 (gR_b ?_)))
          simp [mkw2, *]
        · refine gw_al0 at301_40 (gw_ldcsw (q := 900004) at301_41 rfl (gw_callP2 at301_44 (m_isText (n := 4) (l := 5) hM h hL (by decide) rfl) (by omega) (Nat.le_of_ble_eq_true rfl) ?_))
          refine gw_bne at301_47 (fun q47 => ?_) (fun q47 => ?_)
          · refine gw_const at301_90 (gw_goto at301_91 (gw_r1 at301_95 am_r301.2.1 (gR_b ?_)))
            simp [mkw2, *]
          · refine gw_al0 at301_50 (gw_ldcsw (q := 900005) at301_51 rfl (gw_callP2 at301_54 (m_isText (n := 5) (l := 4) hM h hL (by decide) rfl) (by omega) (Nat.le_of_ble_eq_true rfl) ?_))
            refine gw_bne at301_57 (fun q57 => ?_) (fun q57 => ?_)
            · refine gw_const at301_90 (gw_goto at301_91 (gw_r1 at301_95 am_r301.2.1 (gR_b ?_)))
              simp [mkw2, *]
            · refine gw_al0 at301_60 (gw_ldcsw (q := 900006) at301_61 rfl (gw_callP2 at301_64 (m_isText (n := 6) (l := 6) hM h hL (by decide) rfl) (by omega) (Nat.le_of_ble_eq_true rfl) ?_))
              refine gw_bne at301_67 (fun q67 => ?_) (fun q67 => ?_)
              · refine gw_const at301_90 (gw_goto at301_91 (gw_r1 at301_95 am_r301.2.1 (gR_b ?_)))
                simp [mkw2, *]
              · refine gw_al0 at301_70 (gw_ldcsw (q := 900007) at301_71 rfl (gw_callP2 at301_74 (m_isText (n := 7) (l := 4) hM h hL (by decide) rfl) (by omega) (Nat.le_of_ble_eq_true rfl) ?_))
                refine gw_bne at301_77 (fun q77 => ?_) (fun q77 => ?_)
                · refine gw_const at301_90 (gw_goto at301_91 (gw_r1 at301_95 am_r301.2.1 (gR_b ?_)))
                  simp [mkw2, *]
                · refine gw_al0 at301_80 (gw_ldcsw (q := 900008) at301_81 rfl (gw_callP2 at301_84 (m_isText (n := 8) (l := 4) hM h hL (by decide) rfl) (by omega) (Nat.le_of_ble_eq_true rfl) ?_))
                  refine gw_beq at301_87 (fun q87 => ?_) (fun q87 => ?_)
                  · refine gw_const at301_94 (gw_r0 at301_95 am_r301.2.1 (gR_b ?_))
                    simp [mkw2, *]
                  · refine gw_const at301_90 (gw_goto at301_91 (gw_r1 at301_95 am_r301.2.1 (gR_b ?_)))
                    simp [mkw2, *]
