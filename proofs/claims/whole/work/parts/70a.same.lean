/-! the class and the reference in one memory: networks and worlds -/
/-- a road's numbers agree -/
def NNr (c : gC) (k : Nat) (m : gC) (b : Nat) (r : Int) : Prop := (c (k + 5) r = m b (52 + 7 * r + 1) ∧ c (k + 6) r = m b (52 + 7 * r + 2)) ∧ (c (k + 7) r = m b (52 + 7 * r + 3) ∧ c (k + 8) r = m b (52 + 7 * r + 4)) ∧ (c (k + 9) r = m b (52 + 7 * r + 6) ∧ tb (c k 6) r = !decide (m b (52 + 7 * r + 5) = 0)) ∧ (m b (52 + 7 * r + 1) < m b 0 ∧ m b (52 + 7 * r + 2) < m b 0)
/-- a network of the class (at k) and one of the reference (b) agree; names apart -/
def NN (c : gC) (k : Nat) (m : gC) (b : Nat) : Prop := ((c k 1 = m b 0 ∧ c k 2 = m b 1) ∧ (c k 3 = m b 2 ∧ c k 4 = m b 3)) ∧ (∀ n, 0 ≤ n → n < m b 0 → c (k + 2) n = m b (22 + 3 * n + 1) ∧ c (k + 3) n = m b (22 + 3 * n + 2)) ∧ (∀ r, 0 ≤ r → r < m b 1 → NNr c k m b r) ∧ (∀ i, 0 ≤ i → i < 4 → c (k + 10) i = m b (11 + i)) ∧ ∀ i, 0 ≤ i → i < 3 → c (k + 11) i = m b (15 + i)
/-- a world of the class (at w) and the reference's agree -/
def VV (c : gC) (w : Nat) (m : gC) (b : Nat) : Prop := ((c w 1 = m b 5 ∧ c w 2 = m b 6) ∧ (c w 3 = m b 7 ∧ c w 4 = m b 8) ∧ (c w 5 = m b 9 ∧ c w 6 = m b 10) ∧ c w 7 = m b 4) ∧ (∀ i, 0 ≤ i → i < 4 → c (w + 1) i = m b (18 + i)) ∧ ∀ a, mhA m b a = true → c (w + 2) a = m b (136 + 3 * a + 2) ∧ c (w + 3) a = m b (136 + 3 * a) ∧ c (w + 4) a = m b (136 + 3 * a + 1)
section NN
variable {c m : gC} {k b : Nat}
theorem NN_r (h : NN c k m b) (hV : NW m b) {a : Int} (ha : mhA m b a = true) : (0 ≤ a ∧ a < 24) ∧ (0 ≤ a / 2 ∧ a / 2 < m b 1) ∧ NNr c k m b (a / 2) := by
  have h1 := mhA_rg hV ha
  have h2 : 0 ≤ a / 2 ∧ a / 2 < m b 1 := by
    unfold mhA at ha
    rw [Bool.and_eq_true] at ha
    have := inr_t.mp ha.1
    omega
  exact ⟨h1, h2, h.2.2.1 _ h2.1 h2.2⟩
theorem NN_hA (h : NN c k m b) (a : Int) : hA c k a = mhA m b a := by
  unfold hA mhA inr
  rw [h.1.1.2]
  by_cases e : 0 ≤ a ∧ a < 2 * m b 1
  · obtain ⟨-, -, ⟨-, h7⟩, -⟩ := h.2.2.1 (a / 2) (by omega) (by omega)
    rw [h7, decide_eq_true e.1, decide_eq_true e.2, decide_eq_true (show a ≤ 2 * m b 1 - 1 by omega), Bool.not_not]
  · by_cases e1 : 0 ≤ a
    · rw [decide_eq_false (show ¬ a < 2 * m b 1 by omega), decide_eq_false (show ¬ a ≤ 2 * m b 1 - 1 by omega)]
      simp
    · rw [decide_eq_false e1]
      rfl
theorem NN_bg (h : NN c k m b) (hV : NW m b) {a : Int} (ha : mhA m b a = true) : bg c k a = mbg m b a ∧ en c k a = men m b a := by
  obtain ⟨h1, h2, ⟨h3, h4⟩, -⟩ := NN_r h hV ha
  unfold bg en mbg men
  rw [if_pos h1, if_pos h1, h3, h4]
  by_cases e : a % 2 = 0
  · simp only [if_pos e, and_self]
  · simp only [if_neg e, and_self]
theorem NN_ln (h : NN c k m b) (hV : NW m b) {a : Int} (ha : mhA m b a = true) : ln c k a = mln m b a ∧ cl c k a = mcl m b a := by
  obtain ⟨h1, h2, -, ⟨h3, h4⟩, -⟩ := NN_r h hV ha
  unfold ln cl mln mcl
  rw [if_pos h1, if_pos h1]
  exact ⟨h3, h4⟩
theorem NN_e (h : NN c k m b) (hV : NW m b) {a : Int} (ha : mhA m b a = true) : (0 ≤ mbg m b a ∧ mbg m b a < m b 0) ∧ (0 ≤ men m b a ∧ men m b a < m b 0) := by
  obtain ⟨h1, h2, -, -, -, h3⟩ := NN_r h hV ha
  have q1 := mbg_rg hV h1
  have q2 := men_rg hV h1
  unfold mbg men at *
  refine ⟨⟨q1.1, ?_⟩, ⟨q2.1, ?_⟩⟩ <;> (split <;> omega)
theorem NN_xy (h : NN c k m b) (hV : NW m b) {n : Int} (hn : 0 ≤ n ∧ n < m b 0) : xo c k n = mxo m b n ∧ yo c k n = myo m b n := by
  have := hV.1.1
  have h2 := h.2.1 n hn.1 hn.2
  unfold xo yo mxo myo
  rw [if_pos (by omega), if_pos (by omega)]
  exact h2
theorem NN_kd (h : NN c k m b) (hV : NW m b) {a e : Int} (ha : mhA m b a = true) (he : mhA m b e = true) : tkd c k a e = mkd m b a e := by
  obtain ⟨a1, a2⟩ := NN_bg h hV ha
  obtain ⟨b1, b2⟩ := NN_bg h hV he
  obtain ⟨a3, a4⟩ := NN_e h hV ha
  obtain ⟨b3, b4⟩ := NN_e h hV he
  unfold tkd mkd kdz
  rw [a1, a2, b1, b2, (NN_xy h hV a3).1, (NN_xy h hV a3).2, (NN_xy h hV a4).1, (NN_xy h hV a4).2, (NN_xy h hV b3).1, (NN_xy h hV b3).2, (NN_xy h hV b4).1, (NN_xy h hV b4).2]
  dsimp only
  generalize (mxo m b (men m b a) - mxo m b (mbg m b a)) * (myo m b (men m b e) - myo m b (mbg m b e)) - (myo m b (men m b a) - myo m b (mbg m b a)) * (mxo m b (men m b e) - mxo m b (mbg m b e)) = p
  generalize (mxo m b (men m b a) - mxo m b (mbg m b a)) * (mxo m b (men m b e) - mxo m b (mbg m b e)) + (myo m b (men m b a) - myo m b (mbg m b a)) * (myo m b (men m b e) - myo m b (mbg m b e)) = q
  by_cases e1 : p = 0
  · rw [if_pos e1, if_neg (show ¬ 0 < p by omega), if_neg (show ¬ p < 0 by omega)]
  · rw [if_neg e1]
    by_cases e2 : 0 < p
    · rw [if_pos e2, if_pos e2]
    · rw [if_neg e2, if_neg e2, if_pos (by omega)]
theorem NN_ct (h : NN c k m b) (hV : NW m b) {a e : Int} (ha : mhA m b a = true) (he : mhA m b e = true) : c (k + 10) (tkd c k a e) = mct m b a e := by
  rw [NN_kd h hV ha he]
  have := mkd_rg (c := m) (b := b) (a := a) (e := e)
  exact h.2.2.2.1 _ this.1 (by omega)
theorem NN_sf (h : NN c k m b) (hV : NW m b) {a : Int} (ha : mhA m b a = true) (hc : 1 ≤ mcl m b a) : sf c k a = msq m b a := by
  obtain ⟨h1, h2, -⟩ := NN_r h hV ha
  obtain ⟨l1, l2⟩ := NN_ln h hV ha
  have q := (hV.2.2.2.2.2 (a / 2) h2.1 (by have := hV.1.2; omega)).2.2.2
  unfold sf msq
  rw [l1, l2]
  have : mcl m b a ≤ 3 := q.2
  rw [if_pos ⟨hc, this⟩, h.2.2.2.2 (mcl m b a - 1) (by omega) (by omega), show 15 + (mcl m b a - 1) = 15 + mcl m b a - 1 by omega]
theorem itI_c2 {α : Type} {f g : Int → α → α} {x : α} {N : Int} (h : ∀ j, 0 ≤ j → j < N → ∀ s, f j s = g j s) : itI f x N = itI g x N := itI_congr fun j a b => funext (h j a b)
theorem NN_rst (h : NN c k m b) (hV : NW m b) (w a s : Int) : rst c k w a s = mrs m b w a s := by
  unfold rst mrs
  rw [NN_hA h]
  cases ha : mhA m b a with
  | false => simp
  | true =>
    obtain ⟨a1, a2⟩ := NN_bg h hV ha
    rw [a1, a2]
    by_cases e : a / 2 = w
    · simp [e]
    · cases e2 : tb s (mbg m b a) <;> simp [e]
end NN
theorem VV_sn {c m : gC} {k w b : Nat} (h : VV c w m b) (hV : NW m b) {a : Int} (ha : mhA m b a = true) (s : Int) : sn c w a s = msn m b a (m b 5 + s) := by
  have h1 := mhA_rg hV ha
  obtain ⟨h2, h3, h4⟩ := h.2.2 a ha
  unfold sn msn
  rw [if_pos h1, h3, h4, h.1.1.1, h.1.2.2.2, Int.add_zero]
