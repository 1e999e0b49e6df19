/-! least costs: the two tables say the same -/
/-- the reference's number as the class writes it -/
def cv (x : Int) : Int := if x < 1000000000 then x else 100000000
/-- all that the two tables' comparison needs: networks agree, both tables fit, every arc has a length -/
def TT2 (c m M : gC) (b : Nat) : Prop := NN c 100014 c b ∧ NW c b ∧ TBL c m b ∧ FWk c b 24 M ∧ L1 c b
theorem TT2.nn {c m M : gC} {b : Nat} (h : TT2 c m M b) : NN c 100014 c b := h.1
theorem TT2.nw {c m M : gC} {b : Nat} (h : TT2 c m M b) : NW c b := h.2.1
theorem TT2.tb {c m M : gC} {b : Nat} (h : TT2 c m M b) : TBL c m b := h.2.2.1
theorem TT2.fw {c m M : gC} {b : Nat} (h : TT2 c m M b) : FWk c b 24 M := h.2.2.2.1
theorem TT2.l1 {c m M : gC} {b : Nat} (h : TT2 c m M b) : L1 c b := h.2.2.2.2
section
variable {c m M : gC} {b : Nat}
theorem FW_le2 (hV : NW c b) (h : FWk c b 24 M) {a z v : Int} (hw : WLK c b a z v) : tE M a z ≤ v := by
  induction hw using WLK_ind with
  | @nil a ha =>
    have := h.2.2.1 a a (mhA_rg hV ha) (mhA_rg hV ha)
    have e : mini c b a a = 0 := by unfold mini; rw [if_neg (by rw [ha]; simp), if_pos rfl]
    omega
  | @cons a e z v ha h2 h3 ih =>
    have he := (mfo_h h2).1
    have hz := (WLK_h h3).2
    have q := h.2.1 a z e (mhA_rg hV ha) (mhA_rg hV hz) (mhA_rg hV he).1 (mhA_rg hV he).2
    have q2 := h.2.2.1 a e (mhA_rg hV ha) (mhA_rg hV he)
    have q3 := mct_rg (a := a) (e := e) hV
    have q4 := mln_rg hV (mhA_rg hV he)
    have : mini c b a e ≤ mct c b a e + mln c b e := by
      unfold mini
      rw [if_neg (by rw [ha, he]; simp)]
      split
      · omega
      · first | (rw [if_pos h2]; exact Int.le_refl _) | exact Int.le_refl _
    omega
/-- a walk need not be longer than all arcs -/
theorem WLK_small (hV : NW c b) (h : FWk c b 24 M) (hL : L1 c b) (hb : M b = c b) {a z : Int} (ha : mhA c b a = true) (hz : mhA c b z = true) (h1 : tE M a z < 1000000000) : tE M a z ≤ 26352 := FW_small (NW_of hV hb) (FWk_o hb h) (fun e he => by rw [mln_o hb]; exact hL e (by rw [← mhA_o hb]; exact he)) (by rw [mhA_o hb]; exact ha) (by rw [mhA_o hb]; exact hz) h1
theorem row_e (h : TT2 c m M b) (hb : M b = c b) {a z : Int} (ha : mhA c b a = true) (hz : mhA c b z = true) : m 100028 (a * 34 + z) = cv (tE M a z) := by
  obtain ⟨⟨r1, r2⟩, r3, r4⟩ := ((h.tb.2 a (mhA_rg h.nw ha)).1 ha).1 z (mhA_rg h.nw hz)
  dsimp only at r1 r2 r3 r4
  unfold cv
  by_cases e : tE M a z < 1000000000
  · rw [if_pos e]
    have q := r4 _ (h.fw.2.2.2 a z (mhA_rg h.nw ha) (mhA_rg h.nw hz) e)
    have q2 := WLK_small h.nw h.fw h.l1 hb ha hz e
    have q3 := FW_le2 h.nw h.fw (r3 (by omega))
    omega
  · rw [if_neg e]
    by_cases e2 : m 100028 (a * 34 + z) < 100000000
    · have q3 := FW_le2 h.nw h.fw (r3 e2)
      omega
    · omega
theorem cv_0 {x : Int} (h : 0 ≤ x) : 0 ≤ cv x := by
  unfold cv
  split <;> omega
/-- to a node -/
theorem row_n (h : TT2 c m M b) (hb : M b = c b) {a n : Int} (ha : mhA c b a = true) (hn : 0 ≤ n ∧ n < 10) : m 100028 (a * 34 + (24 + n)) = cv (mtn M b a n) := by
  have hr := (h.tb.2 a (mhA_rg h.nw ha)).1 ha
  obtain ⟨r1, r2⟩ := hr.2 n hn.1 hn.2
  dsimp only at r1 r2
  obtain ⟨s1, s2⟩ := mtn_sp (c := M) (b := b) (a := a) (n := n)
  have hE : ∀ e, mle M a e = tE M a e := fun e => rfl
  have up : ∀ e, mhA c b e = true → men c b e = n → m 100028 (a * 34 + (24 + n)) ≤ cv (tE M a e) ∧ mtn M b a n ≤ tE M a e := fun e h1 h2 => ⟨by rw [← row_e h hb ha h1]; exact r1 e h1 h2, s1 e (mhA_rg h.nw h1) (by rw [mhA_o hb]; exact h1) (by rw [men_o hb]; exact h2)⟩
  have hle : m 100028 (a * 34 + (24 + n)) ≤ cv (mtn M b a n) := by
    rcases s2 with q | ⟨e, e1, e2, e3, e4⟩
    · rw [q]
      show _ ≤ (if (1000000000 : Int) < 1000000000 then 1000000000 else 100000000)
      rw [if_neg (by decide)]
      rcases r2 with g | ⟨x, x1, x2, x3⟩
      · omega
      · have := (hr.1 x (mhA_rg h.nw x1)).1
        dsimp only at this
        omega
    · rw [e4]
      exact (up e (by rw [← mhA_o hb]; exact e2) (by rw [← men_o hb]; exact e3)).1
  have hge : cv (mtn M b a n) ≤ m 100028 (a * 34 + (24 + n)) := by
    rcases r2 with g | ⟨x, x1, x2, x3⟩
    · rw [g]
      unfold cv
      split
      · rename_i e
        rcases s2 with q | ⟨y, y1, y2, y3, y4⟩
        · omega
        · have y5 : mtn M b a n = tE M a y := y4
          have := WLK_small h.nw h.fw h.l1 hb ha (z := y) (by rw [← mhA_o hb]; exact y2) (by omega)
          omega
      · omega
    · rw [x3, row_e h hb ha x1]
      have q := (up x x1 x2).2
      unfold cv
      by_cases e : tE M a x < 1000000000
      · rw [if_pos e, if_pos (by omega)]; exact q
      · rw [if_neg e]
        split
        · rename_i e2
          rcases s2 with q2 | ⟨y, y1, y2, y3, y4⟩
          · omega
          · have y5 : mtn M b a n = tE M a y := y4
            have := WLK_small h.nw h.fw h.l1 hb ha (z := y) (by rw [← mhA_o hb]; exact y2) (by omega)
            omega
        · omega
  omega
end
