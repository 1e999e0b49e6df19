/-! least costs: routes of at least one arc cost the same on both sides -/
/-- a goal: an arc that is there, or a node -/
def GL (c : gC) (b : Nat) (g : Int) : Prop := (0 ≤ g ∧ g < 24 ∧ mhA c b g = true) ∨ (24 ≤ g ∧ g < 34)
section
variable {c m M : gC} {b : Nat}
theorem cbh_e (h : TT2 c m M b) (hb : M b = c b) {a g : Int} (ha : mhA c b a = true) (hg : GL c b g) : cbh m a g = cv (mlt M b a g) ∧ (mlt M b a g < 1000000000 → mlt M b a g ≤ 26352) ∧ 0 ≤ mlt M b a g := by
  have hr := mhA_rg h.nw ha
  have hc : cbh m a g = m 100028 (a * 34 + g) := by
    unfold cbh
    rw [if_pos ⟨hr, by rcases hg with q | q <;> omega⟩]
  rcases hg with ⟨g0, g1, g2⟩ | ⟨g0, g1⟩
  · have e : mlt M b a g = tE M a g := by unfold mlt; rw [if_pos g1]; rfl
    rw [hc, e, row_e h hb ha g2]
    exact ⟨rfl, fun q => WLK_small h.nw h.fw h.l1 hb ha g2 q, h.fw.1 a g hr ⟨g0, g1⟩⟩
  · have e : mlt M b a g = mtn M b a (g - 24) := by unfold mlt; rw [if_neg (by omega)]
    have q := row_n h hb (n := g - 24) ha (by omega)
    rw [show 24 + (g - 24) = g by omega] at q
    rw [hc, e, q]
    refine ⟨rfl, fun q => ?_, ?_⟩
    · rcases (mtn_sp (c := M) (b := b) (a := a) (n := g - 24)).2 with q2 | ⟨y, y1, y2, y3, y4⟩
      · omega
      · have y5 : mtn M b a (g - 24) = tE M a y := y4
        have := WLK_small h.nw h.fw h.l1 hb ha (z := y) (by rw [← mhA_o hb]; exact y2) (by omega)
        omega
    · rcases (mtn_sp (c := M) (b := b) (a := a) (n := g - 24)).2 with q2 | ⟨y, y1, y2, y3, y4⟩
      · omega
      · have y5 : mtn M b a (g - 24) = tE M a y := y4
        have := h.fw.1 a y hr y1
        omega
theorem mcf_sp {c : gC} {b : Nat} {n l g : Int} : (∀ e, I24 e → mhA c b e = true → mbg c b e = n → mcf c b n l g ≤ mnc c b l e + mlt c b e g) ∧ (mcf c b n l g = 1000000000 ∨ ∃ e, I24 e ∧ mhA c b e = true ∧ mbg c b e = n ∧ mcf c b n l g = mnc c b l e + mlt c b e g) := by
  have key : ∀ k : Int, 0 ≤ k → k ≤ 24 → (∀ e, 0 ≤ e → e < k → mhA c b e = true → mbg c b e = n → itI (mff c b n l g) 1000000000 k ≤ mnc c b l e + mlt c b e g) ∧ (itI (mff c b n l g) 1000000000 k = 1000000000 ∨ ∃ e, I24 e ∧ mhA c b e = true ∧ mbg c b e = n ∧ itI (mff c b n l g) 1000000000 k = mnc c b l e + mlt c b e g) := fun k h0 h1 => by
    refine itI_inv3 (fun k (s : Int) => (∀ e, 0 ≤ e → e < k → mhA c b e = true → mbg c b e = n → s ≤ mnc c b l e + mlt c b e g) ∧ (s = 1000000000 ∨ ∃ e, I24 e ∧ mhA c b e = true ∧ mbg c b e = n ∧ s = mnc c b l e + mlt c b e g)) (N := k) ⟨fun e a d => by omega, Or.inl rfl⟩ (fun j s j0 j1 hs => ?_) h0 (Int.le_refl _)
    unfold mff
    by_cases q : mhA c b j = true ∧ mbg c b j = n
    · rw [if_pos q]
      refine ⟨fun e e0 e1 e2 e3 => ?_, ?_⟩
      · by_cases e4 : e = j
        · rw [e4]; omega
        · have := hs.1 e e0 (by omega) e2 e3
          omega
      · by_cases e5 : s ≤ mnc c b l j + mlt c b j g
        · rw [Int.min_eq_left e5]; exact hs.2
        · rw [Int.min_eq_right (by omega)]
          exact Or.inr ⟨j, ⟨j0, by omega⟩, q.1, q.2, rfl⟩
    · rw [if_neg q]
      exact ⟨fun e e0 e1 e2 e3 => hs.1 e e0 (by
        by_cases e4 : e = j
        · rw [e4] at e2 e3; exact absurd ⟨e2, e3⟩ q
        · omega) e2 e3, hs.2⟩
  have := key 24 (by decide) (by decide)
  exact ⟨fun e he => this.1 e he.1 he.2, this.2⟩
/-- where a route begins: at a node, or behind an arc -/
def BG (c : gC) (b : Nat) (p n l : Int) : Prop := (p = 24 + n ∧ l = -1 ∧ 0 ≤ n ∧ n < 10) ∨ (p = l ∧ mhA c b l = true ∧ men c b l = n)
theorem stp_e (h : TT2 c m M b) {p n l a : Int} (hB : BG c b p n l) (ha : I24 a) : (mhA c b a = true ∧ mbg c b a = n → stp m p a = mnc c b l a) ∧ (¬ (mhA c b a = true ∧ mbg c b a = n) → 100000000 ≤ stp m p a) := by
  have hp : I34 p := by
    rcases hB with ⟨e, -, q⟩ | ⟨e, q, -⟩
    · exact ⟨by omega, by omega⟩
    · have := mhA_rg h.nw q
      exact ⟨by omega, by omega⟩
  have hs : stp m p a = if mhA c b a = true then sV c p a 100000000 else 100000000 := by
    unfold stp
    rw [if_pos ⟨hp, ha⟩]
    have := h.tb.1.2 p a hp ha
    rw [NN_hA h.nn] at this
    exact this
  rw [hs]
  cases q : mhA c b a with
  | false => exact ⟨fun x => absurd x.1 (by decide), fun _ => by rw [if_neg (by decide)]; exact Int.le_refl _⟩
  | true =>
    rw [if_pos rfl]
    rcases hB with ⟨e1, e2, e3⟩ | ⟨e1, e2, e3⟩
    · have hb2 := (NN_bg h.nn h.nw q).1
      have hl2 := (NN_ln h.nn h.nw q).1
      unfold sV
      rw [if_neg (by omega), hb2, hl2]
      refine ⟨fun x => ?_, fun x => ?_⟩
      · rw [if_pos (by omega)]
        unfold mnc
        rw [if_pos e2, Int.add_zero]
      · rw [if_neg (fun y => x ⟨rfl, by omega⟩)]; exact Int.le_refl _
    · subst e1
      obtain ⟨w1, w2, w3⟩ := sV_w h.nn h.nw q (mhA_rg h.nw e2)
      have hr := mhA_rg h.nw e2
      refine ⟨fun x => ?_, fun x => ?_⟩
      · rw [w1 ⟨by unfold mfo; rw [q, decide_eq_true (by omega)]; rfl, e2⟩]
        unfold mnc
        rw [if_neg (by omega)]
        omega
      · refine Classical.byContradiction fun y => x ⟨rfl, ?_⟩
        have := (mfo_h (w2 (by omega)).2).2
        omega
/-- THE COST of the best route of at least one arc is the same -/
theorem cfr_e (h : TT2 c m M b) (hb : M b = c b) {p n l g : Int} (hB : BG c b p n l) (hg : GL c b g) : cfr m p g = cv (mcf M b n l g) ∧ (mcf M b n l g < 1000000000 → mcf M b n l g ≤ 27450) := by
  obtain ⟨s1, s2⟩ := mcf_sp (c := M) (b := b) (n := n) (l := l) (g := g)
  have hf : ∀ a, mhA c b a = true → mbg c b a = n → stp m p a + cbh m a g = mnc M b l a + cv (mlt M b a g) ∧ (mlt M b a g < 1000000000 → mlt M b a g ≤ 26352) ∧ (0 ≤ mnc M b l a ∧ mnc M b l a ≤ 1098) ∧ 0 ≤ mlt M b a g := fun a a1 a2 => by
    have q := cbh_e h hb a1 hg
    have q2 := mnc_rg (l := l) h.nw (mhA_rg h.nw a1)
    rw [(stp_e h hB (mhA_rg h.nw a1)).1 ⟨a1, a2⟩, q.1, mnc_o hb]
    exact ⟨rfl, q.2.1, q2, q.2.2⟩
  have hsm : mcf M b n l g < 1000000000 → mcf M b n l g ≤ 27450 := fun e => by
    rcases s2 with q | ⟨y, y1, y2, y3, y4⟩
    · omega
    · obtain ⟨f1, f2, f3, f4⟩ := hf y (by rw [← mhA_o hb]; exact y2) (by rw [← mbg_o hb]; exact y3)
      have := f2 (by omega)
      omega
  have hup : ∀ a, I24 a → stp m p a + cbh m a g < 100000000 → mcf M b n l g ≤ stp m p a + cbh m a g := fun a ha q => by
    by_cases e : mhA c b a = true ∧ mbg c b a = n
    · obtain ⟨f1, f2, f3, f4⟩ := hf a e.1 e.2
      have := s1 a ha (by rw [mhA_o hb]; exact e.1) (by rw [mbg_o hb]; exact e.2)
      unfold cv at f1
      by_cases e3 : mlt M b a g < 1000000000
      · rw [if_pos e3] at f1; omega
      · rw [if_neg e3] at f1; omega
    · have := (stp_e h hB ha).2 e
      have : 0 ≤ cbh m a g := by
        by_cases e2 : mhA c b a = true
        · rw [(cbh_e h hb e2 hg).1]
          exact cv_0 (cbh_e h hb e2 hg).2.2
        · have e3 : mhA c b a = false := by cases q9 : mhA c b a with
            | false => rfl
            | true => exact absurd q9 e2
          have := (h.tb.2 a ha).2 e3 g (by rcases hg with x | x <;> omega) (by rcases hg with x | x <;> omega)
          unfold cbh
          split <;> omega
      omega
  refine ⟨?_, hsm⟩
  unfold cfr fst1
  rcases am1_spec (B := 100000000) (f := fun a => stp m p a + cbh m a g) (n := 24) (by decide) with ⟨h1, h2⟩ | ⟨h1, h2, h3, h4, h5, h6⟩
  · rw [h1]
    unfold cv
    split
    · rename_i e
      exfalso
      rcases s2 with q | ⟨y, y1, y2, y3, y4⟩
      · omega
      · obtain ⟨f1, f2, f3, f4⟩ := hf y (by rw [← mhA_o hb]; exact y2) (by rw [← mbg_o hb]; exact y3)
        have q := h2 y y1.1 y1.2
        have := f2 (by omega)
        unfold cv at f1
        rw [if_pos (by omega)] at f1
        omega
    · rfl
  · rw [h3]
    have q := hup _ ⟨h1, h2⟩ h4
    unfold cv
    rw [if_pos (by omega)]
    rcases s2 with q2 | ⟨y, y1, y2, y3, y4⟩
    · omega
    · obtain ⟨f1, f2, f3, f4⟩ := hf y (by rw [← mhA_o hb]; exact y2) (by rw [← mbg_o hb]; exact y3)
      have r := h5 y y1.1 y1.2
      have := f2 (by omega)
      unfold cv at f1
      rw [if_pos (by omega)] at f1
      omega
end
