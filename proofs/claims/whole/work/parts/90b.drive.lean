/-! drives: both sides keep agreeing -/
theorem NN_n {c c' m m' : gC} {n b : Nat} (h : NN c n m b) (hV : NW m b) (h1 : NF c c' n) (h2 : NA m m' b) : NN c' n m' b := by
  obtain ⟨⟨⟨a1, a2⟩, a3, a4⟩, a5, a6, a7, a8⟩ := h
  obtain ⟨⟨p1, p2⟩, -⟩ := hV
  have n0 := h1 n (by omega) (by omega)
  have n2 := h1 (n + 2) (by omega) (by omega)
  have n3 := h1 (n + 3) (by omega) (by omega)
  have n5 := h1 (n + 5) (by omega) (by omega)
  have n6 := h1 (n + 6) (by omega) (by omega)
  have n7 := h1 (n + 7) (by omega) (by omega)
  have n8 := h1 (n + 8) (by omega) (by omega)
  have n9 := h1 (n + 9) (by omega) (by omega)
  have n10 := h1 (n + 10) (by omega) (by omega)
  have n11 := h1 (n + 11) (by omega) (by omega)
  have e0 := h2 0 (by omega)
  have e1 := h2 1 (by omega)
  have e2 := h2 2 (by omega)
  have e3 := h2 3 (by omega)
  refine ⟨⟨⟨?_, ?_⟩, ?_, ?_⟩, fun x x0 x1 => ?_, fun r r0 r1 => ?_, fun i i0 i1 => ?_, fun i i0 i1 => ?_⟩
  · rw [n0, e0]; exact a1
  · rw [n0, e1]; exact a2
  · rw [n0, e2]; exact a3
  · rw [n0, e3]; exact a4
  · rw [e0] at x1
    rw [n2, n3, h2 _ (by omega), h2 _ (by omega)]
    exact a5 x x0 x1
  · rw [e1] at r1
    obtain ⟨⟨b1, b2⟩, ⟨b3, b4⟩, ⟨b5, b6⟩, b7, b8⟩ := a6 r r0 r1
    refine ⟨⟨?_, ?_⟩, ⟨?_, ?_⟩, ⟨?_, ?_⟩, ?_, ?_⟩
    · rw [n5, h2 _ (by omega)]; exact b1
    · rw [n6, h2 _ (by omega)]; exact b2
    · rw [n7, h2 _ (by omega)]; exact b3
    · rw [n8, h2 _ (by omega)]; exact b4
    · rw [n9, h2 _ (by omega)]; exact b5
    · rw [n0, h2 (52 + 7 * r + 5) (by omega)]; exact b6
    · rw [e0, h2 _ (by omega)]; exact b7
    · rw [e0, h2 _ (by omega)]; exact b8
  · rw [n10, h2 _ (by omega)]; exact a7 i i0 i1
  · rw [n11, h2 _ (by omega)]; exact a8 i i0 i1
/-- where the plough is -/
def PP (m : gC) (b : Nat) : Prop := (m b 7 = -1 ∨ (mhA m b (m b 7) = true ∧ men m b (m b 7) = m b 6)) ∧ ((0 < m b 0 ∧ (0 ≤ m b 6 ∧ m b 6 < m b 0) ∧ 0 ≤ m b 2 ∧ m b 2 < m b 0) ∨ (m b 0 = 0 ∧ m b 6 = -1 ∧ m b 2 = -1))
/-- every arc has a class and a length -/
def CL1 (m : gC) (b : Nat) : Prop := ∀ a, mhA m b a = true → 1 ≤ mcl m b a ∧ 1 ≤ mln m b a
theorem CL1_n {m m' : gC} {b : Nat} (h : CL1 m b) (hV : NW m b) (h2 : NA m m' b) : CL1 m' b := fun a ha => by
  rw [mhA_n h2 hV] at ha
  have hr := mhA_rg hV ha
  rw [mcl_n h2 hr, mln_n h2 hr]
  exact h a ha
theorem CL1_L {m : gC} {b : Nat} (h : CL1 m b) : L1 m b := fun a ha => (h a ha).2
def SW (c : gC) (n w : Nat) (m : gC) (b : Nat) : Prop := (NN c n m b ∧ NW m b) ∧ VV c w m b ∧ PP m b ∧ CL1 m b
theorem PP_LA {m : gC} {b : Nat} (h : PP m b) : LA m b := by
  rcases h.1 with e | e
  · exact Or.inl e
  · exact Or.inr e.1
theorem SW_drv {c m : gC} {n w b : Nat} (h : SW c n w m b) (hd : n + 12 ≤ w ∨ w + 5 ≤ n) {a : Int} (ha : mhA m b a = true) (s : Bool) : SW (drv c n w a s) n w (mgo m b a s) b ∧ scn c n w a = mse m b a := by
  obtain ⟨⟨h1, h2⟩, h3, h4, h5⟩ := h
  have hr := mhA_rg h2 ha
  have k1 := drv_e h1 h2 h3 (PP_LA h4) ha (h5 a ha).1 s
  have k2 : NA m (mgo m b a s) b := mgo_NA hr
  have k3 : NF c (drv c n w a s) n := NF_drv hd
  have k4 := NN_n h1 h2 k3 k2
  have k5 := drv_w (c := c) (n := n) (w := w) (a := a) (s := s)
  refine ⟨⟨⟨k4, NW_n k2 h2⟩, k1, ⟨Or.inr ?_, ?_⟩, CL1_n h5 h2 k2⟩, scn_e h1 h2 h3 (PP_LA h4) ha⟩
  · rw [← k1.1.2.1.1, ← k1.1.1.2, k5.2.2.1, k5.2.1, mhA_n k2 h2, men_n k2 hr]
    exact ⟨ha, (NN_bg h1 h2 ha).2.symm⟩
  · rw [k2 0 (by omega), k2 2 (by omega), ← k1.1.1.2, k5.2.1, (NN_bg h1 h2 ha).2]
    rcases h4.2 with e | e
    · exact Or.inl ⟨e.1, (NN_e h1 h2 ha).2, e.2.2⟩
    · have := (NN_e h1 h2 ha).2
      omega
theorem gol_0 {b : Nat} {r : Int → Int} {s : Bool} {m : gC} : gol b r s m 0 = (0, m) := rfl
theorem gol_s {b : Nat} {r : Int → Int} {s : Bool} {m : gC} {i : Int} (h : 0 ≤ i) : gol b r s m (i + 1) = ((gol b r s m i).1 + mse (gol b r s m i).2 b (r i), mgo (gol b r s m i).2 b (r i) s) := itI_s _ _ h
theorem drl_e {c m : gC} {n w b q : Nat} {r : Int → Int} {s : Bool} {N : Int} (h : SW c n w m b) (hd : n + 12 ≤ w ∨ w + 5 ≤ n) (hr : ∀ j, 0 ≤ j → j < N → c q j = r j ∧ mhA m b (r j) = true) : ∀ i : Nat, (i : Int) ≤ N → SW (drl c n w q s (i : Int)).2 n w (gol b r s m (i : Int)).2 b ∧ (drl c n w q s (i : Int)).1 = (gol b r s m (i : Int)).1 ∧ NA m (gol b r s m (i : Int)).2 b := by
  intro i
  induction i with
  | zero => intro _; exact ⟨h, rfl, NA_rf⟩
  | succ i ih =>
    intro hi
    obtain ⟨i1, i2, i3⟩ := ih (by omega)
    obtain ⟨r1, r2⟩ := hr (i : Int) (by omega) (by omega)
    rw [show ((i + 1 : Nat) : Int) = (i : Int) + 1 by omega, drl_s (by omega), gol_s (by omega), r1]
    have r3 : mhA (gol b r s m (i : Int)).2 b (r (i : Int)) = true := by rw [mhA_n i3 h.1.2]; exact r2
    obtain ⟨s1, s2⟩ := SW_drv i1 hd r3 s
    refine ⟨s1, ?_, NA_tr i3 (mgo_NA (mhA_rg h.1.2 r2))⟩
    dsimp only
    rw [s2, i2]
theorem drl_c {c m : gC} {n w q : Nat} {s : Bool} (e : m = c) (i : Int) : drl m n w q s i = drl c n w q s i := by rw [e]
theorem VV_c {c c' m m' : gC} {w b : Nat} (h : VV c w m b) (e : ∀ k, w ≤ k → k < w + 5 → ∀ j, c' k j = c k j) (e2 : m' b = m b) : VV c' w m' b := by
  obtain ⟨⟨⟨a1, a2⟩, ⟨a3, a4⟩, ⟨a5, a6⟩, a7⟩, a8, a9⟩ := h
  have w0 := e w (by omega) (by omega)
  have w1 := e (w + 1) (by omega) (by omega)
  have w2 := e (w + 2) (by omega) (by omega)
  have w3 := e (w + 3) (by omega) (by omega)
  have w4 := e (w + 4) (by omega) (by omega)
  refine ⟨⟨⟨?_, ?_⟩, ⟨?_, ?_⟩, ⟨?_, ?_⟩, ?_⟩, fun i i0 i1 => ?_, fun y hy => ?_⟩
  · rw [w0, e2]; exact a1
  · rw [w0, e2]; exact a2
  · rw [w0, e2]; exact a3
  · rw [w0, e2]; exact a4
  · rw [w0, e2]; exact a5
  · rw [w0, e2]; exact a6
  · rw [w0, e2]; exact a7
  · rw [w1, e2]; exact a8 i i0 i1
  · rw [mhA_o e2] at hy
    rw [w2, w3, w4, e2]
    exact a9 y hy
theorem PP_o {m m' : gC} {b b' : Nat} (h : PP m b) (e : m' b' = m b) : PP m' b' := by
  have e1 : ∀ a, mhA m' b' a = mhA m b a := fun a => by unfold mhA; rw [e]
  have e2 : ∀ a, men m' b' a = men m b a := fun a => by unfold men; rw [e]
  unfold PP
  rw [e, e1, e2]
  exact h
theorem CL1_o {m m' : gC} {b b' : Nat} (h : CL1 m b) (e : m' b' = m b) : CL1 m' b' := fun a ha => by
  have e1 : mhA m' b' a = mhA m b a := by unfold mhA; rw [e]
  have e2 : mcl m' b' a = mcl m b a := by unfold mcl; rw [e]
  have e3 : mln m' b' a = mln m b a := by unfold mln; rw [e]
  rw [e1] at ha
  rw [e2, e3]
  exact h a ha
theorem NN_o {c c' m m' : gC} {n b : Nat} (h : NN c n m b) (hV : NW m b) (h1 : NF c c' n) (e : m' b = m b) : NN c' n m' b := NN_n h hV h1 (NA_e e)
theorem SW_o {c c' m m' : gC} {n w b : Nat} (h : SW c n w m b) (h1 : NF c c' n) (e : ∀ k, w ≤ k → k < w + 5 → ∀ j, c' k j = c k j) (e2 : m' b = m b) : SW c' n w m' b := ⟨⟨NN_o h.1.1 h.1.2 h1 e2, NW_of h.1.2 e2⟩, VV_c h.2.1 e e2, PP_o h.2.2.1 e2, CL1_o h.2.2.2 e2⟩
