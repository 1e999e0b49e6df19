/-! what the reference's contracts need of its table holds -/
theorem mll_FM {c : gC} {b : Nat} (hc : RG c) (hV : NW c b) (hb : ¬ b = 200003) : FWk (mll c b) b 24 (mll c b) ∧ NW (mll c b) b ∧ mll c b b = c b := by
  have e : mll c b b = c b := (mll_ok hc hV).1.2 b hb
  exact ⟨FWk_o e (mll_FW hV), NW_of hV e, e⟩
theorem L1_o {c m : gC} {b : Nat} (e : m b = c b) (h : L1 c b) : L1 m b := fun a ha => by
  rw [mln_o e]
  exact h a (by rw [← mhA_o e]; exact ha)
theorem mlt_sm {m : gC} {b : Nat} (hV : NW m b) (h : FWk m b 24 m) (hL : L1 m b) {a g : Int} (ha : mhA m b a = true) (hg : GL m b g) (h1 : mlt m b a g < 1000000000) : mlt m b a g ≤ 26352 := by
  rcases hg with ⟨g0, g1, g2⟩ | ⟨g0, g1⟩
  · have e : mlt m b a g = tE m a g := by unfold mlt; rw [if_pos g1]; rfl
    rw [e] at h1 ⊢
    exact FW_small hV h hL ha g2 h1
  · have e : mlt m b a g = mtn m b a (g - 24) := by unfold mlt; rw [if_neg (by omega)]
    rw [e] at h1 ⊢
    rcases (mtn_sp (c := m) (b := b) (a := a) (n := g - 24)).2 with q2 | ⟨y, y1, y2, y3, y4⟩
    · omega
    · have y5 : mtn m b a (g - 24) = tE m a y := y4
      have := FW_small hV h hL ha y2 (by omega)
      omega
theorem mcf_sm {m : gC} {b : Nat} (hV : NW m b) (h : FWk m b 24 m) (hL : L1 m b) {n l g : Int} (hg : GL m b g) (h1 : mcf m b n l g < 1000000000) : mcf m b n l g ≤ 27450 := by
  rcases (mcf_sp (c := m) (b := b) (n := n) (l := l) (g := g)).2 with q | ⟨y, y1, y2, y3, y4⟩
  · omega
  · have q2 := mnc_rg (l := l) hV y1
    have := mlt_sm hV h hL (g := g) y2 hg (by omega)
    omega
/-- the greedy tour's premise -/
theorem GTH_ok {c : gC} (hc : RG c) (hV : NW c 200000) (hL : L1 c 200000) : GTH (mll c 200000) := by
  obtain ⟨h1, h2, h3⟩ := mll_FM hc hV (by decide)
  have hL2 := L1_o h3 hL
  refine ⟨fun e e0 e1 he => LO_arc h2 h1 hL2 he, fun x z z0 z1 hx hz => ?_, fun n l e he h => ?_⟩
  · by_cases q : mhA (mll c 200000) 200000 z = true
    · exact FW_self h2 h1 hL2 hx q hz
    · exfalso
      have hw := h1.2.2.2 x z (mhA_rg h2 hx) ⟨z0, z1⟩ (by rw [show tE (mll c 200000) x z = 0 from hz]; decide)
      exact q (WLK_h hw).2
  · have hr := mhA_rg h2 he
    have := mcf_sm h2 h1 hL2 (n := n) (l := l) (g := e) (Or.inl ⟨hr.1, hr.2, he⟩) h
    omega
