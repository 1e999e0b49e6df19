/-! the reference: what the parser's steps do to the network -/
/-- a step that does not touch the network -/
def MG (c m : gC) : Prop := (∀ k : Nat, ¬ k = 500001 → m k = c k) ∧ (mgd m = true → mgd c = true)
theorem MG_rf {c : gC} : MG c c := ⟨fun _ _ => rfl, id⟩
theorem MG_tr {c m n : gC} (h : MG c m) (h2 : MG m n) : MG c n := ⟨fun k e => by rw [h2.1 k e, h.1 k e], fun e => h.2 (h2.2 e)⟩
theorem mfl_k {c : gC} {z : Int} {k : Nat} (hk : ¬ k = 500001) : mfl c z k = c k := by
  unfold mfl
  split
  · funext i; rw [gu_k hk, gu_k hk]
  · rfl
theorem mfl_g {c : gC} {z : Int} (hz : ¬ z = 0) : mgd (mfl c z) = false := by
  unfold mfl mgd
  by_cases e : c 500001 21 = 0
  · rw [if_pos e, gu_j (by decide), gu_s, decide_eq_false hz]
  · rw [if_neg e, decide_eq_false e]
theorem MG_fi {p : Bool} {c : gC} {z : Int} (hz : ¬ z = 0) : MG c (mfi p c z) := by
  unfold mfi
  split
  · exact ⟨fun k e => mfl_k e, fun e => by rw [mfl_g hz] at e; cases e⟩
  · exact MG_rf
theorem mfi_g {p : Bool} {c : gC} {z : Int} (hz : ¬ z = 0) (h : mgd (mfi p c z) = true) : mgd c = true ∧ p = false ∧ mfi p c z = c := by
  have h1 := (MG_fi (p := p) (c := c) hz).2 h
  cases p with
  | false => exact ⟨h1, rfl, mfi_1 rfl⟩
  | true => rw [mfi_2 h1 rfl, mfl_g hz] at h; cases h
theorem MG_mon {c : gC} (h : MI c) : MG c (mon c) := by
  cases e : mgd c with
  | false => rw [mon_f e]; exact MG_rf
  | true => rw [mon_t e]; exact ⟨(mad_ok (b := 0) h).2.2, fun _ => e⟩
theorem MG_nu {b : Nat} {l u : Int} {c : gC} (hb : ¬ b = 500001) (h : MP b c) : MG c (mnu l u c).2 := MG_tr (MG_tr (MG_fi (by decide)) (MG_fi (by decide))) (MG_mon (MS_nu2 hb (MS_nu1 hb (MS_rf h))).1.1.1)
theorem mnu_rg {b : Nat} {l u : Int} {c : gC} (h : l ≤ u) : l ≤ (mnu l u c).1 ∧ (mnu l u c).1 ≤ u := by
  unfold mnu mnu3
  dsimp only
  split
  · rename_i e
    have e2 : mgd (mnu2 l u (mnu1 c)) = true := by
      revert e
      unfold mon
      split
      · intro _; assumption
      · exact id
    have e3 := mfi_g (by decide) e2
    have e4 : mnu2 l u (mnu1 c) = mnu1 c := e3.2.2
    rw [e4]
    have := e3.2.1
    simp only [Bool.not_eq_false'] at this
    exact inr_t.mp this
  · omega
theorem MG_nh {c : gC} : MG c (mnh c).2 := MG_fi (by decide)
/-- what must hold for a step -/
def MK (b : Nat) (T : gT) (c : gC) : Prop := MP b c ∧ LT T c
/-- a step -/
def MX (b : Nat) (c m : gC) : Prop := MS b c m ∧ ((∀ j : Int, (4 < j ∧ j < 11) ∨ (17 < j ∧ j < 22) ∨ 135 < j → m b j = c b j) ∧ (0 ≤ c b 4 ∧ c b 4 ≤ 99 → 0 ≤ m b 4 ∧ m b 4 ≤ 99))
theorem MX_of {b : Nat} {c m : gC} (h : MS b c m) (hg : MG c m) (hb : b < 200002) : MX b c m := ⟨h, fun j _ => by rw [hg.1 b (by omega)], fun x => by rw [hg.1 b (by omega)]; exact x⟩
theorem MX_rf {b : Nat} {c : gC} (h : MP b c) : MX b c c := ⟨MS_rf h, fun _ _ => rfl, id⟩
theorem MX_tr {b : Nat} {c m n : gC} (h : MX b c m) (h2 : MX b m n) : MX b c n := ⟨⟨h2.1.1, MFr_tr h.1.2 h2.1.2⟩, fun j x => by rw [h2.2.1 j x, h.2.1 j x], fun x => h2.2.2 (h.2.2 x)⟩
theorem MK_s {b : Nat} {T : gT} {c m : gC} (hb : b < 200002) (h : MK b T c) (hs : MS b c m) : MK b T m := ⟨hs.1, LT_of h.2 (fun _ _ => rfl) fun k hk j => by rw [hs.2.1 k (by omega) (by omega)]⟩
theorem MX_mon {b : Nat} {c m : gC} (hb : b < 200002) (h : MX b c m) : MX b c (mon m) := MX_tr h (MX_of (MS_mon (by omega) (MS_rf h.1.1)) (MG_mon h.1.1.1.1) hb)
theorem MX_fi {b : Nat} {c m : gC} {p : Bool} {z : Int} (hb : b < 200002) (h : MX b c m) (hz : 1 ≤ z ∧ z < 100) : MX b c (mfi p m z) := MX_tr h (MX_of (MS_fi (by omega) (MS_rf h.1.1) (by omega)) (MG_fi (by omega)) hb)
theorem MX_nu {b : Nat} {c m : gC} {l u : Int} (hb : b < 200002) (h : MX b c m) : MX b c (mnu l u m).2 := MX_tr h (MX_of (MS_nu (by omega) (MS_rf h.1.1)) (MG_nu (by omega) h.1.1) hb)
theorem MX_nh {b : Nat} {c m : gC} (hb : b < 200002) (h : MX b c m) : MX b c (mnh m).2 := MX_tr h (MX_of (MS_nh (by omega) (MS_rf h.1.1)) MG_nh hb)
theorem gu_v {c : gC} {b : Nat} {j z i : Int} : gu c b j z b i = if i = j then z else c b i := by
  unfold gu
  simp
theorem NW_gu {m : gC} {b : Nat} {j z : Int} (h : NW m b) (p0 : j = 0 → 0 ≤ z ∧ z ≤ 10) (p1 : j = 1 → 0 ≤ z ∧ z ≤ 12) (p2 : j = 2 → -1 ≤ z ∧ z < 10) (p3 : j = 3 → 0 ≤ z ∧ z ≤ 9999) (p4 : 11 ≤ j → j < 18 → 0 ≤ z ∧ z ≤ 99) (p5 : ∀ n, 0 ≤ n → n < 10 → (j = 22 + 3 * n + 1 ∨ j = 22 + 3 * n + 2) → 0 ≤ z ∧ z ≤ 99) (p6 : ∀ r, 0 ≤ r → r < 12 → ((j = 52 + 7 * r + 1 ∨ j = 52 + 7 * r + 2) → 0 ≤ z ∧ z < 10) ∧ (j = 52 + 7 * r + 3 → 0 ≤ z ∧ z ≤ 999) ∧ (j = 52 + 7 * r + 4 → 0 ≤ z ∧ z ≤ 3)) : NW (gu m b j z) b := by
  unfold NW at h ⊢
  obtain ⟨⟨a0, a1⟩, ⟨a2, a3⟩, a4, a5, a6, a7⟩ := h
  simp only [gu_v]
  refine ⟨⟨?_, ?_⟩, ⟨?_, ?_⟩, fun i x y => ?_, fun i x y => ?_, fun i x y => ?_, fun i x y => ?_⟩
  · split
    · exact p0 (by omega)
    · exact a0
  · split
    · exact p1 (by omega)
    · exact a1
  · split
    · exact p2 (by omega)
    · exact a2
  · split
    · exact p3 (by omega)
    · exact a3
  · split
    · exact p4 (by omega) (by omega)
    · exact a4 i x y
  · split
    · exact p4 (by omega) (by omega)
    · exact a5 i x y
  · constructor
    · split
      · exact p5 i x y (by omega)
      · exact (a6 i x y).1
    · split
      · exact p5 i x y (by omega)
      · exact (a6 i x y).2
  · have q := p6 i x y
    refine ⟨?_, ?_, ?_, ?_⟩
    · split
      · exact q.1 (by omega)
      · exact (a7 i x y).1
    · split
      · exact q.1 (by omega)
      · exact (a7 i x y).2.1
    · split
      · exact q.2.1 (by omega)
      · exact (a7 i x y).2.2.1
    · split
      · exact q.2.2 (by omega)
      · exact (a7 i x y).2.2.2
theorem MX_b {b : Nat} {c m : gC} {j z : Int} (hb : b < 200002) (h : MX b c m) (hz : -2147483648 ≤ z ∧ z < 2147483648) (hN : NW (gu m b j z) b) (hj : ¬ ((4 < j ∧ j < 11) ∨ (17 < j ∧ j < 22) ∨ 135 < j)) (h4 : j = 4 → 0 ≤ z ∧ z ≤ 99) : MX b c (gu m b j z) := by
  obtain ⟨⟨⟨a1, a2⟩, a3⟩, a4, a5⟩ := h
  refine ⟨⟨⟨MJ_b a1 ⟨by omega, by omega⟩ hz, hN⟩, MFr_b a3 (by omega)⟩, fun i x => ?_, fun x => ?_⟩
  · rw [gu_v, if_neg (by omega)]; exact a4 i x
  · rw [gu_v]
    split
    · exact h4 (by omega)
    · exact a5 x
def ndm (b : Nat) (n x y : Int) (c : gC) : gC := gu (gu (gu (gu c b (22 + 3 * c b 0) n) b (22 + 3 * c b 0 + 1) x) b (22 + 3 * c b 0 + 2) y) b 0 (c b 0 + 1)
def rdm (b : Nat) (n f t l w s : Int) (c : gC) : gC := gu (gu (gu (gu (gu (gu (gu c b (52 + 7 * c b 1 + 0) n) b (52 + 7 * c b 1 + 1) f) b (52 + 7 * c b 1 + 2) t) b (52 + 7 * c b 1 + 3) l) b (52 + 7 * c b 1 + 4) w) b (52 + 7 * c b 1 + 5) s) b 1 (c b 1 + 1)
theorem MX_nd {b : Nat} {c m : gC} {n x y : Int} (hb : b < 200002) (h : MX b c m) (hn : m b 0 < 10) (h1 : -2147483648 ≤ n ∧ n < 2147483648) (h2 : 0 ≤ x ∧ x ≤ 99) (h3 : 0 ≤ y ∧ y ≤ 99) : MX b c (ndm b n x y m) := by
  have h0 := h.1.1.2.1.1
  have g1 := MX_b (j := 22 + 3 * m b 0) hb h h1 (NW_gu h.1.1.2 (by omega) (by omega) (by omega) (by omega) (by omega) (fun i _ _ e => by omega) (fun i _ _ => by omega)) (by omega) (by omega)
  have g2 := MX_b (j := 22 + 3 * m b 0 + 1) hb g1 (z := x) (by omega) (NW_gu g1.1.1.2 (by omega) (by omega) (by omega) (by omega) (by omega) (fun i _ _ e => by omega) (fun i _ _ => by omega)) (by omega) (by omega)
  have g3 := MX_b (j := 22 + 3 * m b 0 + 2) hb g2 (z := y) (by omega) (NW_gu g2.1.1.2 (by omega) (by omega) (by omega) (by omega) (by omega) (fun i _ _ e => by omega) (fun i _ _ => by omega)) (by omega) (by omega)
  exact MX_b hb g3 (by omega) (NW_gu g3.1.1.2 (by omega) (by omega) (by omega) (by omega) (by omega) (fun i _ _ e => by omega) (fun i _ _ => by omega)) (by omega) (by omega)
theorem MX_rd {b : Nat} {c m : gC} {n f t l w s : Int} (hb : b < 200002) (h : MX b c m) (hn : m b 1 < 12) (h1 : -2147483648 ≤ n ∧ n < 2147483648) (h2 : 0 ≤ f ∧ f < 10) (h3 : 0 ≤ t ∧ t < 10) (h4 : 0 ≤ l ∧ l ≤ 999) (h5 : 0 ≤ w ∧ w ≤ 3) (h6 : 0 ≤ s ∧ s ≤ 1) : MX b c (rdm b n f t l w s m) := by
  have h0 := h.1.1.2.1.2
  have g0 := MX_b (j := 52 + 7 * m b 1 + 0) hb h (z := n) (by omega) (NW_gu h.1.1.2 (by omega) (by omega) (by omega) (by omega) (by omega) (fun i _ _ e => by omega) (fun i _ _ => by omega)) (by omega) (by omega)
  have g1 := MX_b (j := 52 + 7 * m b 1 + 1) hb g0 (z := f) (by omega) (NW_gu g0.1.1.2 (by omega) (by omega) (by omega) (by omega) (by omega) (fun i _ _ e => by omega) (fun i _ _ => by omega)) (by omega) (by omega)
  have g2 := MX_b (j := 52 + 7 * m b 1 + 2) hb g1 (z := t) (by omega) (NW_gu g1.1.1.2 (by omega) (by omega) (by omega) (by omega) (by omega) (fun i _ _ e => by omega) (fun i _ _ => by omega)) (by omega) (by omega)
  have g3 := MX_b (j := 52 + 7 * m b 1 + 3) hb g2 (z := l) (by omega) (NW_gu g2.1.1.2 (by omega) (by omega) (by omega) (by omega) (by omega) (fun i _ _ e => by omega) (fun i _ _ => by omega)) (by omega) (by omega)
  have g4 := MX_b (j := 52 + 7 * m b 1 + 4) hb g3 (z := w) (by omega) (NW_gu g3.1.1.2 (by omega) (by omega) (by omega) (by omega) (by omega) (fun i _ _ e => by omega) (fun i _ _ => by omega)) (by omega) (by omega)
  have g5 := MX_b (j := 52 + 7 * m b 1 + 5) hb g4 (z := s) (by omega) (NW_gu g4.1.1.2 (by omega) (by omega) (by omega) (by omega) (by omega) (fun i _ _ e => by omega) (fun i _ _ => by omega)) (by omega) (by omega)
  exact MX_b hb g5 (by omega) (NW_gu g5.1.1.2 (by omega) (by omega) (by omega) (by omega) (by omega) (fun i _ _ e => by omega) (fun i _ _ => by omega)) (by omega) (by omega)
