/-! the nearest arc of a set -/
theorem nea_e {c m M : gC} (h : TT2 c m M 200000) (hb : M 200000 = c 200000) {p s : Int} (hB : BG c 200000 p (M 200000 6) (M 200000 7)) (hs : ∀ a, I24 a → tb s a = true → mhA c 200000 a = true) : ∀ k : Nat, k ≤ 24 → (am1 100000000 (fun a => if tb s a = true then cfr m p a else 100000000) (k : Int)).1 = (itI (nbf M s) ((-1, 1000000000) : Int × Int) (k : Int)).1 ∧ (am1 100000000 (fun a => if tb s a = true then cfr m p a else 100000000) (k : Int)).2 = cv (itI (nbf M s) ((-1, 1000000000) : Int × Int) (k : Int)).2 ∧ (itI (nbf M s) ((-1, 1000000000) : Int × Int) (k : Int)).2 ≤ 1000000000 ∧ ((itI (nbf M s) ((-1, 1000000000) : Int × Int) (k : Int)).2 < 1000000000 → (itI (nbf M s) ((-1, 1000000000) : Int × Int) (k : Int)).2 ≤ 27450) := by
  intro k
  induction k with
  | zero => intro _; exact ⟨rfl, rfl, Int.le_refl _, fun e => absurd e (Int.lt_irrefl _)⟩
  | succ k ih =>
    intro hk
    obtain ⟨i1, i2, i3, i4⟩ := ih (by omega)
    have hI : I24 (k : Int) := ⟨by omega, by omega⟩
    rw [show ((k + 1 : Nat) : Int) = (k : Int) + 1 by omega, itI_s _ _ (by omega)]
    generalize itI (nbf M s) ((-1, 1000000000) : Int × Int) (k : Int) = x at *
    cases q : tb s (k : Int) with
    | false =>
      rw [nbf_f q, am1_ge (by omega) (by rw [q, if_neg (by decide), i2]; unfold cv; split <;> omega)]
      exact ⟨i1, i2, i3, i4⟩
    | true =>
      have he := hs _ hI q
      have hr := mhA_rg h.nw he
      obtain ⟨c1, c2⟩ := cfr_e h hb hB (g := (k : Int)) (Or.inl ⟨hr.1, hr.2, he⟩)
      by_cases e : mcf M 200000 (M 200000 6) (M 200000 7) (k : Int) < x.2
      · rw [nbf_t q e, am1_lt (by omega) (by rw [q, if_pos rfl, i2, c1]; unfold cv; rw [if_pos (by omega)]; have := c2 (by omega); split <;> omega), q, if_pos rfl]
        exact ⟨rfl, c1, by dsimp only; omega, c2⟩
      · rw [nbf_g e, am1_ge (by omega) (by rw [q, if_pos rfl, i2, c1]; unfold cv; split <;> split <;> omega)]
        exact ⟨i1, i2, i3, i4⟩
