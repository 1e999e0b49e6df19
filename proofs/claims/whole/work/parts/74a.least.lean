/-! least costs: the next arc of a best walk; how much a walk can cost -/
theorem WLK_o {c m : gC} {b : Nat} (e : m b = c b) {a z v : Int} (h : WLK c b a z v) : WLK m b a z v := by
  induction h using WLK_ind with
  | nil h => exact WLK.nil (by rw [mhA_o e]; exact h)
  | @cons a x z v h h1 h3 ih =>
    rw [← mct_o e, ← mln_o e]
    exact WLK.cons (by rw [mhA_o e]; exact h) (by rw [mfo_o e]; exact h1) ih
theorem FWk_o {c m t : gC} {b : Nat} {k : Int} (e : m b = c b) (h : FWk c b k t) : FWk m b k t := by
  refine ⟨h.1, h.2.1, fun x y hx hy => ?_, fun x y hx hy q => WLK_o e (h.2.2.2 x y hx hy q)⟩
  have := h.2.2.1 x y hx hy
  unfold mini at this ⊢
  rw [mhA_o e, mhA_o e, mfo_o e, mct_o e, mln_o e]
  exact this
section FW
variable {m : gC} {b : Nat}
/-- every arc has a length -/
def L1 (m : gC) (b : Nat) : Prop := ∀ e, mhA m b e = true → 1 ≤ mln m b e
theorem FW_next (hV : NW m b) (h : FWk m b 24 m) {a z : Int} (ha : mhA m b a = true) (hz : mhA m b z = true) (h0 : 0 < tE m a z) (h1 : tE m a z < 1000000000) : ∃ e, mfo m b a e = true ∧ mct m b a e + mln m b e + tE m e z = tE m a z := by
  have hw := h.2.2.2 a z (mhA_rg hV ha) (mhA_rg hV hz) h1
  rcases WLK_cases hw with ⟨-, h9⟩ | ⟨e, v, h2, h3, h4, hv⟩
  · omega
  · have q1 := FW_le hV h h4
    have he := (mfo_h h3).1
    have q2 := h.2.2.2 e z (mhA_rg hV he) (mhA_rg hV hz)
    have q3 := mct_rg (a := a) (e := e) hV
    have q4 := mln_rg hV (mhA_rg hV he)
    have q5 := FW_le hV h (WLK.cons h2 h3 (q2 (by omega)))
    exact ⟨e, h3, by omega⟩
theorem FW_self (hV : NW m b) (h : FWk m b 24 m) (hL : L1 m b) {x z : Int} (hx : mhA m b x = true) (hz : mhA m b z = true) (h0 : tE m x z = 0) : x = z := by
  have hw := h.2.2.2 x z (mhA_rg hV hx) (mhA_rg hV hz) (by omega)
  rcases WLK_cases hw with ⟨h9, -⟩ | ⟨e, v, h2, h3, h4, hv⟩
  · exact h9
  · exfalso
    have he := (mfo_h h3).1
    have q3 := mct_rg (a := x) (e := e) hV
    have q4 := hL e he
    have q5 := WLK_0 hV h4
    omega
theorem FW_bound (hV : NW m b) (h : FWk m b 24 m) (hL : L1 m b) {z : Int} (hz : mhA m b z = true) : ∀ (n : Nat) (a : Int), mhA m b a = true → tE m a z < 1000000000 → tE m a z ≤ (n : Int) → tE m a z ≤ 1098 * cnt (fun e => decide (0 ≤ e ∧ e < 24) && decide (tE m e z < tE m a z)) 24 := by
  intro n
  induction n with
  | zero =>
    intro a ha h1 h2
    have := (cnt_rg (f := fun e => decide (0 ≤ e ∧ e < 24) && decide (tE m e z < tE m a z)) (n := 24) (by decide)).1
    omega
  | succ n ih =>
    intro a ha h1 h2
    by_cases h0 : 0 < tE m a z
    · obtain ⟨e, e1, e2⟩ := FW_next hV h ha hz h0 h1
      have he := (mfo_h e1).1
      have q3 := mct_rg (a := a) (e := e) hV
      have q4 := mln_rg hV (mhA_rg hV he)
      have q5 := hL e he
      have r := ih e he (by omega) (by omega)
      have hr := mhA_rg hV he
      have := cnt_lt (n := 24) (e := e) (f := fun x => decide (0 ≤ x ∧ x < 24) && decide (tE m x z < tE m a z)) (f' := fun x => decide (0 ≤ x ∧ x < 24) && decide (tE m x z < tE m e z)) hr.1 hr.2 (fun x hx => by
        simp only [Bool.and_eq_true, decide_eq_true_eq] at hx ⊢
        exact ⟨hx.1, by omega⟩) (by simp only [Bool.and_eq_true, decide_eq_true_eq]; exact ⟨hr, by omega⟩) (by simp)
      omega
    · have := (cnt_rg (f := fun e => decide (0 ≤ e ∧ e < 24) && decide (tE m e z < tE m a z)) (n := 24) (by decide)).1
      omega
theorem FW_small (hV : NW m b) (h : FWk m b 24 m) (hL : L1 m b) {a z : Int} (ha : mhA m b a = true) (hz : mhA m b z = true) (h1 : tE m a z < 1000000000) : tE m a z ≤ 26352 := by
  have h0 := h.1 a z (mhA_rg hV ha) (mhA_rg hV hz)
  have := FW_bound hV h hL hz (tE m a z).toNat a ha h1 (by omega)
  have := (cnt_rg (f := fun e => decide (0 ≤ e ∧ e < 24) && decide (tE m e z < tE m a z)) (n := 24) (by decide)).2
  omega
theorem mtn_sp {c : gC} {b : Nat} {a n : Int} : (∀ e, I24 e → mhA c b e = true → men c b e = n → mtn c b a n ≤ mle c a e) ∧ (mtn c b a n = 1000000000 ∨ ∃ e, I24 e ∧ mhA c b e = true ∧ men c b e = n ∧ mtn c b a n = mle c a e) := by
  have key : ∀ k : Int, 0 ≤ k → k ≤ 24 → (∀ e, 0 ≤ e → e < k → mhA c b e = true → men c b e = n → itI (mtf c b a n) 1000000000 k ≤ mle c a e) ∧ (itI (mtf c b a n) 1000000000 k = 1000000000 ∨ ∃ e, I24 e ∧ mhA c b e = true ∧ men c b e = n ∧ itI (mtf c b a n) 1000000000 k = mle c a e) := fun k h0 h1 => by
    refine itI_inv3 (fun k (s : Int) => (∀ e, 0 ≤ e → e < k → mhA c b e = true → men c b e = n → s ≤ mle c a e) ∧ (s = 1000000000 ∨ ∃ e, I24 e ∧ mhA c b e = true ∧ men c b e = n ∧ s = mle c a e)) (N := k) ⟨fun e a d => by omega, Or.inl rfl⟩ (fun j s j0 j1 hs => ?_) h0 (Int.le_refl _)
    unfold mtf
    by_cases q : mhA c b j = true ∧ men c b j = n
    · rw [if_pos q]
      refine ⟨fun e e0 e1 e2 e3 => ?_, ?_⟩
      · by_cases e4 : e = j
        · rw [e4]; omega
        · have := hs.1 e e0 (by omega) e2 e3
          omega
      · by_cases e5 : s ≤ mle c a j
        · rw [Int.min_eq_left e5]; exact hs.2
        · rw [Int.min_eq_right (by omega)]
          exact Or.inr ⟨j, ⟨j0, by omega⟩, q.1, q.2, rfl⟩
    · rw [if_neg q]
      exact ⟨fun e e0 e1 e2 e3 => hs.1 e e0 (by
        by_cases e4 : e = j
        · rw [e4] at e2 e3; exact absurd ⟨e2, e3⟩ q
        · omega) e2 e3, hs.2⟩
  have := key 24 (by decide) (by decide)
  exact ⟨fun e he => this.1 e he.1 he.2, this.2⟩
/-- THE NEXT ARC exists, towards an arc -/
theorem LO_arc (hV : NW m b) (h : FWk m b 24 m) (hL : L1 m b) {z : Int} (hz : mhA m b z = true) : LO m b z := by
  have hr := mhA_rg hV hz
  have e0 : ∀ a, mlt m b a z = tE m a z := fun a => by unfold mlt; rw [if_pos hr.2]; rfl
  refine ⟨hL, fun a ha h0 h1 => ?_⟩
  rw [e0] at h0 h1
  obtain ⟨e, e1, e2⟩ := FW_next hV h ha hz h0 h1
  refine ⟨e, ?_⟩
  have ha0 := mhA_rg hV ha
  unfold fep
  rw [(mfo_h e1).1, decide_eq_true (mfo_h e1).2.symm]
  dsimp only
  rw [decide_eq_true]
  · rfl
  · rw [e0, e0]
    unfold mnc
    rw [if_neg (by omega)]
    omega
/-- … and towards a node -/
theorem LO_node (hV : NW m b) (h : FWk m b 24 m) (hL : L1 m b) {n : Int} (hn : 0 ≤ n) : LO m b (24 + n) := by
  have e0 : ∀ a, mlt m b a (24 + n) = mtn m b a n := fun a => by unfold mlt; rw [if_neg (by omega), show 24 + n - 24 = n by omega]
  refine ⟨hL, fun a ha h0 h1 => ?_⟩
  rw [e0] at h0 h1
  have ha0 := mhA_rg hV ha
  rcases (mtn_sp (c := m) (b := b) (a := a) (n := n)).2 with q | ⟨z, z1, z2, z3, z4⟩
  · omega
  · have z5 : mtn m b a n = tE m a z := z4
    obtain ⟨e, e1, e2⟩ := FW_next hV h ha z2 (by omega) (by omega)
    have he := (mfo_h e1).1
    have q1 : mtn m b e n ≤ tE m e z := (mtn_sp (c := m) (b := b) (a := e) (n := n)).1 z z1 z2 z3
    have q3 := mct_rg (a := a) (e := e) hV
    have q4 := mln_rg hV (mhA_rg hV he)
    refine ⟨e, ?_⟩
    unfold fep
    rw [he, decide_eq_true (mfo_h e1).2.symm]
    dsimp only
    rw [decide_eq_true]
    · rfl
    · rw [e0, e0]
      unfold mnc
      rw [if_neg (by omega)]
      rcases (mtn_sp (c := m) (b := b) (a := e) (n := n)).2 with q | ⟨y, y1, y2, y3, y4⟩
      · omega
      · have y5 : mtn m b e n = tE m e y := y4
        have q6 : mtn m b a n ≤ tE m a y := (mtn_sp (c := m) (b := b) (a := a) (n := n)).1 y y1 y2 y3
        have q7 := FW_le hV h (WLK.cons ha e1 (h.2.2.2 e y (mhA_rg hV he) y1 (by omega)))
        omega
end FW
