/-- THE LAW RUNS, and answers true -/
theorem law_runs {L : Nat} {xs : Nat → Int32} (hL : L ≤ 3072) : ∃ (n : Nat) (M' : am_M), am_run am_Pg n 13 5 am_nV 0 (am_ent 7 [.ref 800000]) [] (am_M0 L xs) = some (.inl (some (.int 1)), M') ∧ am_cc M' ≤ 601024 ∧ am_sl M' ≤ 7293034 := by
  obtain ⟨n, o, M', h, ho, h1, h2⟩ := law_begin (xs := xs) hL
  refine ⟨n, M', ?_, h1, h2⟩
  rw [ho] at h
  exact h
