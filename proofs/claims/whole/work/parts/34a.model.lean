/-! the reference: an arc is driven -/
/-- the network part is the same -/
def NA (c m : gC) (b : Nat) : Prop := ∀ j : Int, j ≤ 3 ∨ (11 ≤ j ∧ j < 18) ∨ (22 ≤ j ∧ j < 136) → m b j = c b j
theorem NA_rf {c : gC} {b : Nat} : NA c c b := fun _ _ => rfl
theorem NA_gu {c m : gC} {b : Nat} {i z : Int} (h : NA c m b) (hi : (4 ≤ i ∧ i < 11) ∨ (18 ≤ i ∧ i < 22) ∨ 136 ≤ i) : NA c (gu m b i z) b := fun j hj => by rw [gu_j (by omega)]; exact h j hj
theorem NA_e {c m : gC} {b : Nat} (h : m b = c b) : NA c m b := fun j _ => by rw [h]
theorem NA_tr {c m n : gC} {b : Nat} (h : NA c m b) (h2 : NA m n b) : NA c n b := fun j hj => by rw [h2 j hj, h j hj]
theorem NW_n {c m : gC} {b : Nat} (h : NA c m b) (hV : NW c b) : NW m b := by
  obtain ⟨⟨a1, a2⟩, ⟨a3, a4⟩, a5, a6, a7, a8⟩ := hV
  refine ⟨⟨by rw [h 0 (by omega)]; exact a1, by rw [h 1 (by omega)]; exact a2⟩, ⟨by rw [h 2 (by omega)]; exact a3, by rw [h 3 (by omega)]; exact a4⟩, fun i p q => by rw [h _ (by omega)]; exact a5 i p q, fun i p q => by rw [h _ (by omega)]; exact a6 i p q, fun i p q => by rw [h _ (by omega), h _ (by omega)]; exact a7 i p q, fun i p q => by rw [h _ (by omega), h _ (by omega), h _ (by omega), h _ (by omega)]; exact a8 i p q⟩
theorem mln_n {c m : gC} {b : Nat} {a : Int} (h : NA c m b) (ha : 0 ≤ a ∧ a < 24) : mln m b a = mln c b a := h _ (by omega)
theorem mcl_n {c m : gC} {b : Nat} {a : Int} (h : NA c m b) (ha : 0 ≤ a ∧ a < 24) : mcl m b a = mcl c b a := h _ (by omega)
theorem men_n {c m : gC} {b : Nat} {a : Int} (h : NA c m b) (ha : 0 ≤ a ∧ a < 24) : men m b a = men c b a := by
  unfold men
  split <;> exact h _ (by omega)
theorem mbg_n {c m : gC} {b : Nat} {a : Int} (h : NA c m b) (ha : 0 ≤ a ∧ a < 24) : mbg m b a = mbg c b a := by
  unfold mbg
  split <;> exact h _ (by omega)
theorem mhA_n {c m : gC} {b : Nat} {a : Int} (h : NA c m b) (hV : NW c b) : mhA m b a = mhA c b a := by
  unfold mhA
  rw [h 1 (by omega)]
  by_cases e : 0 ≤ a ∧ a ≤ 2 * c b 1 - 1
  · have := hV.1.2
    rw [h (52 + 7 * (a / 2) + 5) (by omega)]
  · rw [inr_f.mpr e]; rfl
theorem msq_n {c m : gC} {b : Nat} {a : Int} (h : NA c m b) (hV : NW c b) (ha : 0 ≤ a ∧ a < 24) : msq m b a = msq c b a := by
  have := mcl_rg hV ha
  unfold msq
  rw [mln_n h ha, mcl_n h ha, h _ (by omega)]
/-- turns are counted -/
def mg0 (c : gC) (b : Nat) (a : Int) : gC := if c b 7 = -1 then c else gu c b (18 + mkd c b (c b 7) a) (c b (18 + mkd c b (c b 7) a) + 1)
def mg1 (c : gC) (b : Nat) (a x : Int) : gC := gu (gu (gu (gu (gu (gu (gu c b 5 (c b 5 + x)) b 6 (men c b a)) b 7 a) b 10 (c b 10 + mln c b a)) b (136 + 3 * a + 0) 0) b (136 + 3 * a + 1) (c b 5 + x)) b (136 + 3 * a + 2) (c b (136 + 3 * a + 2) + 1)
def mg2 (c : gC) (b : Nat) (a x : Int) : gC := gu (gu (gu (mg1 c b a x) b 8 (c b 8 - msq c b a)) b 9 (c b 9 + msq c b a)) b (136 + 3 * a + 1) (c b 5 + x + 1800)
def mg3 (c : gC) (b : Nat) (a : Int) (s : Bool) (x : Int) : gC := if s = true ∧ msq c b a ≤ c b 8 then mg2 c b a x else mg1 c b a x
def mgo (c : gC) (b : Nat) (a : Int) (s : Bool) : gC := mg3 (mg0 c b a) b a s (mse c b a)
theorem mg3_a {c : gC} {b : Nat} {a x : Int} {s : Bool} (h : s = false) : mg3 c b a s x = mg1 c b a x := if_neg fun e => by rw [h] at e; exact absurd e.1 (by decide)
theorem mg3_b {c : gC} {b : Nat} {a x : Int} {s : Bool} (h : ¬ msq c b a ≤ c b 8) : mg3 c b a s x = mg1 c b a x := if_neg fun e => h e.2
theorem mg3_c {c : gC} {b : Nat} {a x : Int} {s : Bool} (h : s = true) (h2 : msq c b a ≤ c b 8) : mg3 c b a s x = mg2 c b a x := if_pos ⟨h, h2⟩
theorem mg1_NA {c : gC} {b : Nat} {a x : Int} (ha : 0 ≤ a ∧ a < 24) : NA c (mg1 c b a x) b := by
  unfold mg1
  repeat (first | exact NA_rf | refine NA_gu ?_ (by omega))
theorem mg3_NA {c : gC} {b : Nat} {a x : Int} {s : Bool} (ha : 0 ≤ a ∧ a < 24) : NA c (mg3 c b a s x) b := by
  unfold mg3
  split
  · unfold mg2
    exact NA_gu (NA_gu (NA_gu (mg1_NA ha) (by omega)) (by omega)) (by omega)
  · exact mg1_NA ha
theorem mg0_NA {c : gC} {b : Nat} {a : Int} : NA c (mg0 c b a) b := by
  have := mkd_rg (c := c) (b := b) (a := c b 7) (e := a)
  unfold mg0
  split
  · exact NA_rf
  · exact NA_gu NA_rf (by omega)
theorem mgo_NA {c : gC} {b : Nat} {a : Int} {s : Bool} (ha : 0 ≤ a ∧ a < 24) : NA c (mgo c b a s) b := NA_tr mg0_NA (mg3_NA ha)
theorem mgo_k {c : gC} {b k : Nat} {a : Int} {s : Bool} (h : ¬ k = b) : mgo c b a s k = c k := by
  funext j
  have h0 : mg0 c b a k j = c k j := by
    unfold mg0
    split
    · rfl
    · exact gu_k h
  unfold mgo mg3
  split
  · unfold mg2 mg1
    simp only [gu_k h]; exact h0
  · unfold mg1
    simp only [gu_k h]; exact h0
theorem mg0_WW {c : gC} {b : Nat} {a B : Int} (hV : NW c b) (hW : WW c b B) (hB : B ≤ 1400000000) : WW (mg0 c b a) b (B + 1) ∧ ∀ j : Int, j < 18 ∨ 22 ≤ j → mg0 c b a b j = c b j := by
  have hk := mkd_rg (c := c) (b := b) (a := c b 7) (e := a)
  have he : ∀ j : Int, j < 18 ∨ 22 ≤ j → mg0 c b a b j = c b j := fun j hj => by
    unfold mg0
    split
    · rfl
    · exact gu_j (by omega)
  obtain ⟨⟨b1, b2⟩, ⟨b3, b4⟩, ⟨b5, b6⟩, ⟨b7, b8⟩, b9, b10⟩ := hW
  refine ⟨⟨⟨by omega, by rw [he 4 (by omega)]; exact b2⟩, ⟨by rw [he 5 (by omega)]; omega, by rw [he 6 (by omega)]; exact b4⟩, ⟨by rw [he 7 (by omega)]; exact b5, by rw [he 8 (by omega)]; exact b6⟩, ⟨by rw [he 9 (by omega)]; omega, by rw [he 10 (by omega)]; omega⟩, fun i p q => ?_, fun i p q => ?_⟩, he⟩
  · have h1 := b9 i p q
    have h2 := b9 (mkd c b (c b 7) a) (by omega) (by omega)
    unfold mg0
    split
    · omega
    · by_cases e : i = mkd c b (c b 7) a
      · rw [e, gu_s]; omega
      · rw [gu_j (by omega)]; omega
  · rw [he (136 + 3 * i) (by omega), he (136 + 3 * i + 1) (by omega), he (136 + 3 * i + 2) (by omega)]
    have := b10 i p q
    omega
theorem mg1_WW {c : gC} {b : Nat} {a x B : Int} (hV : NW c b) (hW : WW c b B) (hB : B ≤ 1400000000) (ha : 0 ≤ a ∧ a < 24) (hx : 0 ≤ x ∧ x ≤ 21100) : WW (mg1 c b a x) b (B + 22000) := by
  have hl := mln_rg hV ha
  have hn := men_rg hV ha
  obtain ⟨⟨b1, b2⟩, ⟨b3, b4⟩, ⟨b5, b6⟩, ⟨b7, b8⟩, b9, b10⟩ := hW
  have ba := b10 a ha.1 ha.2
  unfold mg1
  refine ⟨⟨by omega, ?_⟩, ⟨?_, ?_⟩, ⟨?_, ?_⟩, ⟨?_, ?_⟩, fun i p q => ?_, fun i p q => ?_⟩
  · simp (disch := omega) only [gu_j, gu_s]; exact b2
  · simp (disch := omega) only [gu_j, gu_s]; omega
  · simp (disch := omega) only [gu_j, gu_s]; omega
  · simp (disch := omega) only [gu_j, gu_s]; omega
  · simp (disch := omega) only [gu_j, gu_s]; omega
  · simp (disch := omega) only [gu_j, gu_s]; omega
  · simp (disch := omega) only [gu_j, gu_s]; omega
  · have := b9 i p q
    simp (disch := omega) only [gu_j, gu_s]; omega
  · have := b10 i p q
    by_cases e : i = a
    · subst e
      refine ⟨?_, ?_, ?_⟩
      · rw [gu_j (by omega), gu_j (by omega)]; simp only [Int.add_zero, gu_s]; omega
      · rw [gu_j (by omega), gu_s]; omega
      · rw [gu_s]; omega
    · simp (disch := omega) only [gu_j, gu_s]; omega
theorem mg3_WW {c : gC} {b : Nat} {a x B : Int} {s : Bool} (hV : NW c b) (hW : WW c b B) (hB : B ≤ 1400000000) (ha : 0 ≤ a ∧ a < 24) (hx : 0 ≤ x ∧ x ≤ 21100) : WW (mg3 c b a s x) b (B + 24000) := by
  have h1 := mg1_WW hV hW hB ha hx
  have hq := (msq_rg hV ha).2.2
  have w5 := hW.2.1.1
  have w8 := hW.2.2.1.2
  have w9 := hW.2.2.2.1.1
  have hb := hW.1.1
  obtain ⟨⟨b1, b2⟩, ⟨b3, b4⟩, ⟨b5, b6⟩, ⟨b7, b8⟩, b9, b10⟩ := h1
  unfold mg3
  split
  · rename_i hs
    have hs2 := hs.2
    unfold mg2
    refine ⟨⟨by omega, ?_⟩, ⟨?_, ?_⟩, ⟨?_, ?_⟩, ⟨?_, ?_⟩, fun i p q => ?_, fun i p q => ?_⟩
    · simp (disch := omega) only [gu_j, gu_s]; exact b2
    · simp (disch := omega) only [gu_j, gu_s]; omega
    · simp (disch := omega) only [gu_j, gu_s]; omega
    · simp (disch := omega) only [gu_j, gu_s]; omega
    · simp (disch := omega) only [gu_j, gu_s]; omega
    · simp (disch := omega) only [gu_j, gu_s]; omega
    · simp (disch := omega) only [gu_j, gu_s]; omega
    · have := b9 i p q
      simp (disch := omega) only [gu_j, gu_s]; omega
    · have := b10 i p q
      by_cases e : i = a
      · subst e
        refine ⟨?_, ?_, ?_⟩
        · simp (disch := omega) only [gu_j]; omega
        · rw [gu_s]; omega
        · simp (disch := omega) only [gu_j]; omega
      · simp (disch := omega) only [gu_j, gu_s]; omega
  · exact ⟨⟨by omega, b2⟩, ⟨by omega, b4⟩, ⟨b5, b6⟩, ⟨by omega, by omega⟩, fun i p q => by have := b9 i p q; omega, fun i p q => by have := b10 i p q; omega⟩
theorem mgo_WW {c : gC} {b : Nat} {a B : Int} {s : Bool} (hV : NW c b) (hW : WW c b B) (hB : B ≤ 1390000000) (ha : 0 ≤ a ∧ a < 24) : WW (mgo c b a s) b (B + 25000) := by
  have h0 := mg0_WW (a := a) hV hW (by omega)
  have h1 := mg3_WW (s := s) (NW_n mg0_NA hV) h0.1 (by have := hW.1.1; omega) ha (mse_rg hV hW ha)
  obtain ⟨⟨b1, b2⟩, ⟨b3, b4⟩, ⟨b5, b6⟩, ⟨b7, b8⟩, b9, b10⟩ := h1
  have hb := hW.1.1
  unfold mgo
  exact ⟨⟨by omega, b2⟩, ⟨by omega, b4⟩, ⟨b5, b6⟩, ⟨by omega, by omega⟩, fun i p q => by have := b9 i p q; omega, fun i p q => by have := b10 i p q; omega⟩
theorem mg1_RG {c : gC} {b : Nat} {a x B : Int} (hc : RG c) (hV : NW c b) (hW : WW c b B) (hB : B ≤ 1400000000) (ha : 0 ≤ a ∧ a < 24) (hx : 0 ≤ x ∧ x ≤ 21100) : RG (mg1 c b a x) := by
  have hl := mln_rg hV ha
  have b3 := hW.2.1.1
  have b8 := hW.2.2.2.1.2
  have ba := hW.2.2.2.2.2 a ha.1 ha.2
  unfold mg1
  exact RG_gu (RG_gu (RG_gu (RG_gu (RG_gu (RG_gu (RG_gu hc (by omega)) (by have := men_rg hV ha; omega)) (by omega)) (by omega)) (by omega)) (by omega)) (by omega)
theorem mgo_RG {c : gC} {b : Nat} {a B : Int} {s : Bool} (hc : RG c) (hV : NW c b) (hW : WW c b B) (hB : B ≤ 1390000000) (ha : 0 ≤ a ∧ a < 24) : RG (mgo c b a s) := by
  have h0 := mg0_WW (a := a) hV hW (by omega)
  have hV0 := NW_n (mg0_NA (c := c) (b := b) (a := a)) hV
  have hx := mse_rg hV hW ha
  have hb := hW.1.1
  have r0 : RG (mg0 c b a) := by
    have hk := mkd_rg (c := c) (b := b) (a := c b 7) (e := a)
    have := hW.2.2.2.2.1 (mkd c b (c b 7) a) (by omega) (by omega)
    unfold mg0
    split
    · exact hc
    · exact RG_gu hc (by omega)
  have r1 := mg1_RG r0 hV0 h0.1 (by omega) ha hx
  have w5 := h0.1.2.1.1
  have w8 := h0.1.2.2.1.2
  have w9 := h0.1.2.2.2.1.1
  have hq := (msq_rg hV0 ha).2.2
  unfold mgo mg3
  split
  · unfold mg2
    exact RG_gu (RG_gu (RG_gu r1 (by omega)) (by omega)) (by omega)
  · exact r1
