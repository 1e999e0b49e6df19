/-! the reference: a best route is laid out -/
def cnt (f : Int → Bool) (n : Int) : Int := itI (fun e s => if f e = true then s + 1 else s) 0 n
theorem cnt_s {f : Int → Bool} {n : Int} (h : 0 ≤ n) : cnt f (n + 1) = if f n = true then cnt f n + 1 else cnt f n := by
  unfold cnt
  rw [itI_s _ _ h]
theorem cnt_rg {f : Int → Bool} {n : Int} (h : 0 ≤ n) : 0 ≤ cnt f n ∧ cnt f n ≤ n := by
  unfold cnt
  refine itI_inv3 (fun k s => 0 ≤ s ∧ s ≤ k) (N := n) (by decide) (fun j s a b hs => ?_) h (Int.le_refl _)
  try dsimp only at hs ⊢
  split <;> omega
theorem cnt_le {f f' : Int → Bool} {n : Int} (h : 0 ≤ n) (hf : ∀ e, f' e = true → f e = true) : cnt f' n ≤ cnt f n := by
  have key : ∀ k : Nat, cnt f' (k : Int) ≤ cnt f (k : Int) := by
    intro k
    induction k with
    | zero => exact Int.le_refl _
    | succ k ih =>
      rw [show ((k + 1 : Nat) : Int) = (k : Int) + 1 by omega, cnt_s (by omega), cnt_s (by omega)]
      by_cases a : f' (k : Int) = true
      · rw [if_pos a, if_pos (hf _ a)]; omega
      · rw [if_neg a]; split <;> omega
  have := key n.toNat
  rwa [show ((n.toNat : Nat) : Int) = n by omega] at this
theorem cnt_lt {f f' : Int → Bool} {n e : Int} (h0 : 0 ≤ e) (h1 : e < n) (hf : ∀ e, f' e = true → f e = true) (he : f e = true) (he' : f' e = false) : cnt f' n + 1 ≤ cnt f n := by
  have key : ∀ k : Nat, e < (k : Int) → cnt f' (k : Int) + 1 ≤ cnt f (k : Int) := by
    intro k
    induction k with
    | zero => intro a; omega
    | succ k ih =>
      intro a
      rw [show ((k + 1 : Nat) : Int) = (k : Int) + 1 by omega, cnt_s (by omega), cnt_s (by omega)]
      by_cases b : e = (k : Int)
      · have := cnt_le (n := (k : Int)) (by omega) hf
        rw [← b] at this ⊢
        rw [if_pos he, if_neg (by rw [he']; decide)]; omega
      · have := ih (by omega)
        by_cases a : f' (k : Int) = true
        · rw [if_pos a, if_pos (hf _ a)]; omega
        · rw [if_neg a]; split <;> omega
  have := key n.toNat (by omega)
  rwa [show ((n.toNat : Nat) : Int) = n by omega] at this
/-- the next arc of a best route: (node, arc behind or -1, what is left) -/
def fep (c : gC) (b : Nat) (z : Int) (x : Int × Int × Int) (e : Int) : Bool := mhA c b e && (decide (mbg c b e = x.1) && decide (mnc c b x.2.1 e + mlt c b e z = x.2.2))
def fe (c : gC) (b : Nat) (z : Int) (x : Int × Int × Int) : Int := ff (fep c b z x) 24 0
def lrs (c : gC) (b : Nat) (z : Int) (_ : Int) (y : (Int × Int × Int) × gC) : (Int × Int × Int) × gC := if 0 < y.1.2.2 then ((men c b (fe c b z y.1), fe c b z y.1, mlt c b (fe c b z y.1) z), gu (gu y.2 200004 (y.2 500001 7) (fe c b z y.1)) 500001 7 (y.2 500001 7 + 1)) else y
def lrt (c : gC) (b : Nat) (n l z i : Int) : (Int × Int × Int) × gC := itI (lrs c b z) ((n, l, mcf c b n l z), gu c 500001 7 0) i
theorem lrs_t {c : gC} {b : Nat} {z i : Int} {y : (Int × Int × Int) × gC} (h : 0 < y.1.2.2) : lrs c b z i y = ((men c b (fe c b z y.1), fe c b z y.1, mlt c b (fe c b z y.1) z), gu (gu y.2 200004 (y.2 500001 7) (fe c b z y.1)) 500001 7 (y.2 500001 7 + 1)) := if_pos h
theorem lrs_f {c : gC} {b : Nat} {z i : Int} {y : (Int × Int × Int) × gC} (h : ¬ 0 < y.1.2.2) : lrs c b z i y = y := if_neg h
/-- the table is a table of least costs, towards a goal -/
def LO (c : gC) (b : Nat) (z : Int) : Prop := (∀ e, mhA c b e = true → 1 ≤ mln c b e) ∧ ∀ a, mhA c b a = true → 0 < mlt c b a z → mlt c b a z < 1000000000 → ∃ e, fep c b z (men c b a, a, mlt c b a z) e = true
theorem fep_b {c : gC} {b : Nat} {z : Int} {x : Int × Int × Int} {e : Int} (h : fep c b z x e = true) : mhA c b e = true ∧ mbg c b e = x.1 ∧ mnc c b x.2.1 e + mlt c b e z = x.2.2 := by
  unfold fep at h
  simp only [Bool.and_eq_true, decide_eq_true_eq] at h
  exact h
theorem fe_ok {c : gC} {b : Nat} {z : Int} {x : Int × Int × Int} (hV : NW c b) (h : ∃ e, fep c b z x e = true) : (0 ≤ fe c b z x ∧ fe c b z x < 24) ∧ fep c b z x (fe c b z x) = true ∧ ∀ j, 0 ≤ j → j < fe c b z x → fep c b z x j = false := by
  obtain ⟨e, he⟩ := h
  have hr := mhA_rg hV (fep_b he).1
  rcases ff_spec (p := fep c b z x) (N := 24) (i := 0) (by decide) with ⟨h1, h2⟩ | ⟨h1, h2, h3, h4⟩
  · rw [h2 e hr.1 hr.2] at he; cases he
  · exact ⟨⟨h1, h2⟩, h3, h4⟩
theorem mcf_att {c : gC} {b : Nat} {n l z : Int} (h : mcf c b n l z < 1000000000) : ∃ e, fep c b z (n, l, mcf c b n l z) e = true := by
  have key : ∀ i : Nat, itI (mff c b n l z) 1000000000 (i : Int) < 1000000000 → ∃ e, mhA c b e = true ∧ mbg c b e = n ∧ mnc c b l e + mlt c b e z = itI (mff c b n l z) 1000000000 (i : Int) := by
    intro i
    induction i with
    | zero => intro h; rw [show ((0 : Nat) : Int) = 0 from rfl, itI_0] at h; omega
    | succ i ih =>
      intro h
      rw [show ((i + 1 : Nat) : Int) = (i : Int) + 1 by omega, itI_s _ _ (by omega)] at h ⊢
      unfold mff at h ⊢
      by_cases a : mhA c b (i : Int) = true ∧ mbg c b (i : Int) = n
      · rw [if_pos a] at h ⊢
        by_cases e : mnc c b l (i : Int) + mlt c b (i : Int) z < itI (mff c b n l z) 1000000000 (i : Int)
        · exact ⟨(i : Int), a.1, a.2, by unfold mff at e; omega⟩
        · obtain ⟨x, x1, x2, x3⟩ := ih (by unfold mff at e ⊢; omega)
          exact ⟨x, x1, x2, by unfold mff at e x3; omega⟩
      · rw [if_neg a] at h ⊢
        exact ih h
  obtain ⟨e, e1, e2, e3⟩ := key 24 h
  refine ⟨e, ?_⟩
  unfold fep
  simp only [Bool.and_eq_true, decide_eq_true_eq]
  exact ⟨e1, e2, e3⟩
/-- what holds along a route -/
def RI_ (c : gC) (b : Nat) (z : Int) (k : Int) (y : (Int × Int × Int) × gC) : Prop := (0 < y.1.2.2 → (∃ e, fep c b z y.1 e = true) ∧ y.2 500001 7 = k ∧ k + cnt (fun e => mhA c b e && decide (mlt c b e z < y.1.2.2)) 24 ≤ 24) ∧ (y.1.2.2 < 1000000000 ∧ 0 ≤ y.1.2.2) ∧ (-1 ≤ y.1.2.1 ∧ y.1.2.1 < 24) ∧ (-2147483648 ≤ y.1.1 ∧ y.1.1 < 2147483648) ∧ (RG y.2 ∧ (∀ x : Nat, ¬ x = 200004 → ¬ x = 500001 → y.2 x = c x) ∧ ∀ j, ¬ j = 7 → y.2 500001 j = c 500001 j) ∧ (0 ≤ y.2 500001 7 ∧ y.2 500001 7 ≤ k) ∧ ∀ j, 0 ≤ j → j < y.2 500001 7 → mhA c b (y.2 200004 j) = true
theorem lrt_ok {c : gC} {b : Nat} {n l z : Int} (hc : RG c) (hV : NW c b) (hL : LR c) (hz : 0 ≤ z) (hO : LO c b z) (hn : -2147483648 ≤ n ∧ n < 2147483648) (hl : -1 ≤ l ∧ l < 24) (hm : mcf c b n l z < 1000000000) {i : Int} (h0 : 0 ≤ i) (h1 : i ≤ 24) : RI_ c b z i (lrt c b n l z i) := by
  refine itI_inv3 (RI_ c b z) (N := i) ?_ (fun k y k0 k1 hy => ?_) h0 (Int.le_refl _)
  · have hr := mcf_rg (n := n) (l := l) hV hL hz
    refine ⟨fun _ => ⟨mcf_att hm, by dsimp only; exact gu_s, ?_⟩, ⟨hm, hr.1⟩, hl, hn, ⟨RG_gu hc (by decide), fun x a b => funext fun j => gu_k b, fun j a => gu_j a⟩, ?_, fun j a b => ?_⟩
    · have := cnt_rg (f := fun e => mhA c b e && decide (mlt c b e z < mcf c b n l z)) (n := 24) (by decide)
      dsimp only
      omega
    · dsimp only; rw [gu_s]; omega
    · dsimp only at b; rw [gu_s] at b; omega
  · obtain ⟨y1, y2, y3, y4, y5, y6, y7⟩ := hy
    by_cases hp : 0 < y.1.2.2
    · rw [lrs_t hp]
      obtain ⟨a1, a2, a3⟩ := y1 hp
      obtain ⟨e1, e2, e3⟩ := fe_ok hV a1
      obtain ⟨f1, f2, f3⟩ := fep_b e2
      have g1 := mlt_rg (b := b) (g := z) hL e1 hz
      have g2 := mnc_rg (l := y.1.2.1) hV e1
      have g3 : 1 ≤ mnc c b y.1.2.1 (fe c b z y.1) := by
        have u1 := hO.1 _ f1
        have u2 := mct_rg (a := y.1.2.1) (e := fe c b z y.1) hV
        unfold mnc; split <;> omega
      have g4 := men_rg hV e1
      refine ⟨fun hq => ⟨hO.2 _ f1 hq (by omega), by dsimp only; rw [gu_s, a2], ?_⟩, ⟨by dsimp only; omega, g1.1⟩, ⟨by dsimp only; omega, by dsimp only; omega⟩, ⟨by dsimp only; omega, by dsimp only; omega⟩, ⟨RG_gu (RG_gu y5.1 (by omega)) (by omega), fun x p q => ?_, fun j p => ?_⟩, ?_, fun j p q => ?_⟩
      · have := cnt_lt (n := 24) (e := fe c b z y.1) (f := fun e => mhA c b e && decide (mlt c b e z < y.1.2.2)) (f' := fun e => mhA c b e && decide (mlt c b e z < mlt c b (fe c b z y.1) z)) e1.1 e1.2 (fun e he => ?_) ?_ ?_
        · dsimp only; omega
        · simp only [Bool.and_eq_true, decide_eq_true_eq] at he ⊢
          exact ⟨he.1, by omega⟩
        · simp only [Bool.and_eq_true, decide_eq_true_eq]
          exact ⟨f1, by omega⟩
        · simp
      · dsimp only
        rw [← y5.2.1 x p q]
        funext j
        rw [gu_k q, gu_k p]
      · dsimp only
        rw [gu_j p, gu_k (by decide), y5.2.2 j p]
      · dsimp only; rw [gu_s]; omega
      · dsimp only at q ⊢
        rw [gu_s] at q
        rw [gu_k (by decide)]
        by_cases e : j = y.2 500001 7
        · rw [e, gu_s]; exact f1
        · rw [gu_j e]; exact y7 j p (by omega)
    · rw [lrs_f hp]
      exact ⟨fun a => absurd a hp, y2, y3, y4, y5, by omega, y7⟩
