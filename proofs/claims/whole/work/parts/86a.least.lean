/-! the first arc of a best route is the same on both sides -/
theorem fst_e {c m M : gC} {b : Nat} (h : TT2 c m M b) (hb : M b = c b) {p n l g : Int} (hB : BG c b p n l) (hg : GL c b g) (hlt : mcf M b n l g < 1000000000) : (fst1 m p g).1 = fe M b g (n, l, mcf M b n l g) ∧ I24 (fst1 m p g).1 ∧ mhA c b (fst1 m p g).1 = true := by
  obtain ⟨c1, c2⟩ := cfr_e h hb hB hg
  have c3 := c2 hlt
  unfold cv at c1
  rw [if_pos hlt] at c1
  have hcb : ∀ a, I24 a → 0 ≤ cbh m a g := fun a ha => by
    by_cases e2 : mhA c b a = true
    · rw [(cbh_e h hb e2 hg).1]
      exact cv_0 (cbh_e h hb e2 hg).2.2
    · have e3 : mhA c b a = false := by cases q9 : mhA c b a with
        | false => rfl
        | true => exact absurd q9 e2
      have := (h.tb.2 a ha).2 e3 g (by rcases hg with x | x <;> omega) (by rcases hg with x | x <;> omega)
      unfold cbh
      split <;> omega
  have hfe : ∀ a, I24 a → fep M b g (n, l, mcf M b n l g) a = true → stp m p a + cbh m a g = mcf M b n l g := fun a ha q => by
    obtain ⟨q1, q2, q3⟩ := fep_b q
    dsimp only at q2 q3
    rw [mhA_o hb] at q1
    rw [mbg_o hb] at q2
    have k := mnc_rg (l := l) h.nw ha
    rw [(stp_e h hB ha).1 ⟨q1, q2⟩, (cbh_e h hb q1 hg).1]
    rw [mnc_o hb] at q3
    unfold cv
    rw [if_pos (by omega)]
    exact q3
  unfold cfr at c1
  rcases am1_spec (B := 100000000) (f := fun a => stp m p a + cbh m a g) (n := 24) (by decide) with ⟨h1, h2⟩ | ⟨h1, h2, h3, h4, h5, h6⟩
  · have : (fst1 m p g).2 = 100000000 := by unfold fst1; rw [h1]
    omega
  · have h7 : (fst1 m p g).2 = stp m p (fst1 m p g).1 + cbh m (fst1 m p g).1 g := h3
    have hI : I24 (fst1 m p g).1 := ⟨h1, h2⟩
    change ∀ a : Int, 0 ≤ a → a < (fst1 m p g).1 → stp m p (fst1 m p g).1 + cbh m (fst1 m p g).1 g < stp m p a + cbh m a g at h6
    generalize (fst1 m p g).1 = x at *
    have e1 : mhA c b x = true ∧ mbg c b x = n := by
      refine Classical.byContradiction fun e => ?_
      have := (stp_e h hB hI).2 e
      have := hcb x hI
      omega
    have q := cbh_e h hb e1.1 hg
    have k := mnc_rg (l := l) h.nw hI
    have s1 := (stp_e h hB hI).1 e1
    have hfx : fep M b g (n, l, mcf M b n l g) x = true := by
      unfold fep
      rw [mhA_o hb, e1.1, mbg_o hb, decide_eq_true e1.2]
      dsimp only
      rw [decide_eq_true]
      · rfl
      · rw [mnc_o hb]
        rw [s1, q.1] at h7
        unfold cv at h7
        by_cases e3 : mlt M b x g < 1000000000
        · rw [if_pos e3] at h7; omega
        · rw [if_neg e3] at h7; omega
    refine ⟨?_, hI, e1.1⟩
    unfold fe
    rcases ff_spec (p := fep M b g (n, l, mcf M b n l g)) (N := 24) (i := 0) (by decide) with ⟨-, f2⟩ | ⟨f1, f2, f3, f4⟩
    · rw [f2 x hI.1 hI.2] at hfx; cases hfx
    · have a1 : ¬ x < ff (fep M b g (n, l, mcf M b n l g)) 24 0 := fun q => by
        rw [f4 x hI.1 q] at hfx; cases hfx
      have a2 : ¬ ff (fep M b g (n, l, mcf M b n l g)) 24 0 < x := fun q => by
        have := h6 _ f1 q
        have := hfe _ ⟨f1, f2⟩ f3
        have := hfe x hI hfx
        omega
      omega
