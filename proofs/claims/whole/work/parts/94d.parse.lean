/-! the parsers: names, numbers, nodes, ends of statements -/
theorem inm_t {c : gC} (h : inm c = true) : c 100032 5 = 1 ∧ ¬ c 100032 8 = -1 ∧ c 100032 9 = -1 := of_decide_eq_true h
theorem inm_f {c : gC} (h : inm c = false) : ¬ (c 100032 5 = 1 ∧ ¬ c 100032 8 = -1 ∧ c 100032 9 = -1) := of_decide_eq_false h
theorem word_8 {c m : gC} (h : PZ c m) (hs : c 100032 5 = 1) : c 100032 8 = -1 ↔ ¬ c 100032 7 - c 100032 6 ≤ 6 := by
  have t := h.1.1.1.2.1
  rcases h.1.1.1.2.2 with ⟨-, t2, t3, -, t5⟩ | ⟨e, -⟩ | ⟨e, -⟩ | ⟨e, -⟩
  · rcases wmv_rg (c := c) (e := c 100032 6) (i := c 100032 7) (by omega) t5 with w | w <;> omega
  all_goals omega
/-- A NAME -/
theorem name_e {c m : gC} (h : PZ c m) : (inm c = false ∧ BAD (fai c 1) (mnh m).2) ∨ (inm c = true ∧ (mnh m).2 = m ∧ NMR (c 100032 8) (mnh m).1) := by
  have t := h.1.1.1
  have hg := PZ_g h
  cases q : inm c with
  | false =>
    have q2 := inm_f q
    refine Or.inl ⟨rfl, ?_⟩
    show BAD (fai c 1) (mnh1 m)
    unfold mnh1
    refine fai_fi h (by decide) ?_
    rw [← t.1.1, ← t.1.2.1, ← t.1.2.2]
    by_cases e1 : c 100032 5 = 1
    · rw [decide_eq_true e1, Bool.true_and, mkw2_e h e1]
      have := word_8 h e1
      by_cases e2 : c 100032 9 = -1
      · rw [decide_eq_false (show ¬ c 100032 7 - c 100032 6 ≤ 6 from this.1 (Classical.byContradiction fun w => q2 ⟨e1, w, e2⟩))]
        rfl
      · rw [decide_eq_true (show ¬ c 100032 9 = -1 from e2)]
        simp
    · rw [decide_eq_false e1]
      rfl
  | true =>
    obtain ⟨e1, e2, e3⟩ := inm_t q
    have hl : c 100032 7 - c 100032 6 ≤ 6 := Classical.byContradiction fun w => e2 ((word_8 h e1).2 w)
    have hm : mnh1 m = m := by
      unfold mnh1
      refine mfi_1 ?_
      rw [← t.1.1, ← t.1.2.1, ← t.1.2.2, decide_eq_true e1, decide_eq_true hl, mkw2_e h e1, decide_eq_false (fun w => w e3)]
      rfl
    have h2 : mnh m = (mpk m, m) := by
      unfold mnh mnh2
      rw [hm, if_pos hg]
    rw [h2]
    obtain ⟨g1, g2⟩ := word_DG h e1 hl
    refine Or.inr ⟨rfl, rfl, _, _, g1, g2, ?_⟩
    show mpk m = _
    rw [mpk_wv (n := (c 100032 7 - c 100032 6).toNat) (by have := t.1; have := t.2.1; omega)]
    refine wv_cg fun j j0 j1 => ?_
    unfold pad
    split
    · dsimp only
      rw [word_by h j0 (by omega)]
    · rfl
/-- A NUMBER: the check -/
theorem inu_e {c m : gC} (h : PZ c m) {l u : Int} (hl : 0 ≤ l) (hu : u < 99999) : ((inu c l u).1 = false ∧ BAD (inu c l u).2 (mnu2 l u (mnu1 m))) ∨ ((inu c l u) = (true, c) ∧ mnu2 l u (mnu1 m) = m ∧ (c 100032 5 = 2 ∧ l ≤ c 100032 8 ∧ c 100032 8 ≤ u) ∧ m 500001 20 = c 100032 8) := by
  have t := h.1.1.1
  unfold inu mnu2 mnu1
  rw [← t.1.1]
  by_cases e1 : c 100032 5 = 2
  · have tv : 0 ≤ c 100032 8 ∧ m 500001 20 = min 99999 (c 100032 8) := by
      rcases t.2.2 with ⟨e, -⟩ | ⟨-, -, e⟩ | ⟨e, -⟩ | ⟨e, -⟩
      · omega
      · exact e
      all_goals omega
    rw [if_neg (fun w => w e1), mfi_1 (p := decide (¬ c 100032 5 = 2)) (m := m) (z := 1) (decide_eq_false fun w => w e1)]
    by_cases e2 : c 100032 8 < l ∨ u < c 100032 8
    · rw [if_pos e2]
      refine Or.inl ⟨rfl, fai_fi h (by decide) ?_⟩
      rw [inr_f.2 (by omega)]; rfl
    · rw [if_neg e2]
      refine Or.inr ⟨rfl, mfi_1 ?_, ⟨e1, by omega⟩, by omega⟩
      rw [inr_t.2 (by omega)]; rfl
  · rw [if_pos e1]
    exact Or.inl ⟨rfl, BAD_k (fai_fi h (z := 1) (by decide) (decide_eq_true e1)) KB_fi⟩
/-- a number, read -/
theorem num_e {c m : gC} (h : PZ c m) {l u : Int} (hl : 0 ≤ l) (hu : u < 99999) : ((rnu c l u).1 = -1 ∧ BAD (rnu c l u).2 (mnu l u m).2) ∨ ((l ≤ (rnu c l u).1 ∧ (rnu c l u).1 ≤ u) ∧ (mnu l u m).1 = (rnu c l u).1 ∧ (rnu c l u).2 = adv c ∧ (mnu l u m).2 = mad m) := by
  unfold rnu mnu mnu3
  rcases inu_e h hl hu with ⟨a1, a2⟩ | ⟨a1, a2, a3, a4⟩
  · rw [if_neg (by rw [a1]; decide)]
    exact Or.inl ⟨rfl, BAD_k a2 KB_mon⟩
  · obtain ⟨z1, z2⟩ := adv_Z h
    rw [a2, z2, if_pos (show mgd (mad m) = true from PZ_g z1), a1, if_pos rfl]
    exact Or.inr ⟨a3.2, a4, rfl, rfl⟩
theorem nnm_e {c m : gC} (h : PZ c m) {x y : Int} (hn : NMR x y) : nnm c x = mfn m 200001 y := by
  obtain ⟨⟨d1, d0⟩, d2, d3, d4, d5, d6⟩ := h.2.1
  unfold nnm mfn
  rw [d1.1.1.1]
  refine ff_congr fun n n0 n1 => ?_
  have := NMR_inj (d2 n n0 n1) hn
  by_cases e : c (100002 + 1) n = x
  · rw [decide_eq_true e, decide_eq_true (this.1 e)]
  · rw [decide_eq_false e, decide_eq_false (mt this.2 e)]
theorem rnm_e {c m : gC} (h : PZ c m) {x y : Int} (hn : NMR x y) : rnm c x = mfr m 200001 y := by
  obtain ⟨⟨d1, d0⟩, d2, d3, d4, d5, d6⟩ := h.2.1
  unfold rnm mfr
  rw [d1.1.1.2]
  refine ff_congr fun n n0 n1 => ?_
  rw [Int.add_zero]
  have := NMR_inj (d3 n n0 n1).1 hn
  by_cases e : c (100002 + 4) n = x
  · rw [decide_eq_true e, decide_eq_true (this.1 e)]
  · rw [decide_eq_false e, decide_eq_false (mt this.2 e)]
theorem mfn_lt {m : gC} {v : Int} : mfn m 200001 v < m 200001 0 ∨ mfn m 200001 v = -1 := (ff_rg (p := fun n => decide (m 200001 (22 + 3 * n) = v)) (N := m 200001 0) (i := 0) (by decide)).2
theorem mfr_lt {m : gC} {v : Int} : mfr m 200001 v < m 200001 1 ∨ mfr m 200001 v = -1 := (ff_rg (p := fun n => decide (m 200001 (52 + 7 * n + 0) = v)) (N := m 200001 1) (i := 0) (by decide)).2
/-- A NODE of an earlier statement -/
theorem nod_e {c m : gC} (h : PZ c m) : ((rkn c).1 = -1 ∧ BAD (rkn c).2 (mnd 200001 (-1) m).2) ∨ ((0 ≤ (rkn c).1 ∧ (rkn c).1 < m 200001 0) ∧ (mnd 200001 (-1) m).1 = (rkn c).1 ∧ (rkn c).2 = adv c ∧ (mnd 200001 (-1) m).2 = mad m) := by
  have hg := PZ_g h
  unfold rkn
  rcases name_e h with ⟨a1, a2⟩ | ⟨a1, a2, a3⟩
  · rw [if_pos a1]
    exact Or.inl ⟨rfl, BAD_k a2 KB_nd1⟩
  · rw [if_neg (by rw [a1]; decide)]
    have e := nnm_e h a3
    have hd : mnd 200001 (-1) m = (nnm c (c 100032 8), mon (mfi (decide (nnm c (c 100032 8) = -1)) (mfi (decide (nnm c (c 100032 8) = -1)) m 4) 3)) := by
      unfold mnd mnd1 mnd2
      rw [a2, ← e]
    rw [hd]
    by_cases q : nnm c (c 100032 8) = -1
    · rw [if_pos q]
      refine Or.inl ⟨rfl, BAD_k (fai_fi h (z := 4) (by decide) (decide_eq_true q)) ?_⟩
      exact KB_tr KB_fi KB_mon
    · rw [if_neg q]
      obtain ⟨z1, z2⟩ := adv_Z h
      have r1 := nnm_rg (v := c 100032 8) h.2.2.2.2.1.2
      have r2 := mfn_lt (m := m) (v := (mnh m).1)
      rw [← e] at r2
      refine Or.inr ⟨⟨by dsimp only; omega, by dsimp only; omega⟩, rfl, rfl, ?_⟩
      dsimp only
      rw [mfi_1 (p := decide (nnm c (c 100032 8) = -1)) (m := m) (z := 4) (decide_eq_false q), mfi_1 (decide_eq_false q), z2]
/-- THE END of a statement -/
theorem ren_e {c m : gC} (h : PZ c m) : RES (ren c) (mst2 m) := by
  have t := h.1.1.1
  unfold ren mst2 mstP
  rw [← t.1.1]
  by_cases e1 : c 100032 5 = 3
  · have tv : c 100032 8 = 59 ↔ m 500001 20 = 59 := by
      rcases t.2.2 with ⟨e, -⟩ | ⟨e, -⟩ | ⟨-, -, e⟩ | ⟨e, -⟩
      · omega
      · omega
      · exact e
      · omega
    by_cases e2 : c 100032 8 = 59
    · rw [if_pos ⟨e1, e2⟩, mfi_1 (decide_eq_false fun w => w ⟨e1, tv.1 e2⟩)]
      obtain ⟨z1, z2⟩ := adv_Z h
      rw [z2]
      exact Or.inl ⟨rfl, z1⟩
    · rw [if_neg (fun w => e2 w.2)]
      have hp : ¬ (c 100032 5 = 3 ∧ m 500001 20 = 59) := fun w => e2 (tv.2 w.2)
      exact Or.inr ⟨rfl, BAD_k (fai_fi h (by decide) (decide_eq_true hp)) KB_mon⟩
  · rw [if_neg (fun w => e1 w.1)]
    have hp : ¬ (c 100032 5 = 3 ∧ m 500001 20 = 59) := fun w => e1 w.1
    exact Or.inr ⟨rfl, BAD_k (fai_fi h (by decide) (decide_eq_true hp)) KB_mon⟩
theorem RES_bad {x : gC} {m m' : gC} (h : BAD x m) (k : KB m m') : RES (false, x) (mst2 m') := Or.inr ⟨rfl, BAD_k (BAD_k h k) KB_st2⟩
