/-! the reference: the order of a plan -/
theorem cnt_ex {f : Int → Bool} {n : Int} (h0 : 0 ≤ n) (h : cnt f n < n) : ∃ e, (0 ≤ e ∧ e < n) ∧ f e = false := by
  have key : ∀ k : Nat, cnt f (k : Int) < (k : Int) → ∃ e, (0 ≤ e ∧ e < (k : Int)) ∧ f e = false := by
    intro k
    induction k with
    | zero => intro a; have := cnt_rg (f := f) (n := 0) (by decide); rw [show ((0 : Nat) : Int) = 0 from rfl] at a; omega
    | succ k ih =>
      intro a
      rw [show ((k + 1 : Nat) : Int) = (k : Int) + 1 by omega, cnt_s (by omega)] at a
      cases e : f (k : Int) with
      | false => exact ⟨(k : Int), ⟨by omega, by omega⟩, e⟩
      | true =>
        rw [if_pos e] at a
        obtain ⟨x, x1, x2⟩ := ih (by omega)
        exact ⟨x, ⟨x1.1, by omega⟩, x2⟩
  have := key n.toNat
  rw [show ((n.toNat : Nat) : Int) = n by omega] at this
  exact this h
theorem cnt_or {s y n : Int} (hn : n ≤ 32) (hy : 0 ≤ y ∧ y < n) (h : tb s y = false) : cnt (tb (zor s (zshl 1 y))) n = cnt (tb s) n + 1 := by
  have key : ∀ k : Nat, (k : Int) ≤ n → cnt (tb (zor s (zshl 1 y))) (k : Int) = cnt (tb s) (k : Int) + (if y < (k : Int) then 1 else 0) := by
    intro k
    induction k with
    | zero => intro _; rw [if_neg (by omega)]; rfl
    | succ k ih =>
      intro a
      have ih := ih (by omega)
      rw [show ((k + 1 : Nat) : Int) = (k : Int) + 1 by omega, cnt_s (by omega), cnt_s (by omega), tb_ors (by omega) (by omega)]
      by_cases e : y = (k : Int)
      · rw [← e] at ih ⊢
        rw [h, decide_eq_true rfl, Bool.false_or, if_pos rfl, if_neg (by decide), if_pos (by omega)]
        rw [if_neg (by omega)] at ih
        omega
      · rw [decide_eq_false e, Bool.or_false]
        by_cases a2 : y < (k : Int)
        · rw [if_pos a2] at ih
          rw [if_pos (show y < (k : Int) + 1 by omega)]
          split <;> omega
        · rw [if_neg a2] at ih
          rw [if_neg (show ¬ y < (k : Int) + 1 by omega)]
          split <;> omega
  have := key n.toNat (by omega)
  rw [show ((n.toNat : Nat) : Int) = n by omega, if_pos hy.2] at this
  exact this
/-- the rests' table is the plan's: what is left goes by a next arc -/
def RO (m : gC) (n : Int) : Prop := ∀ s l, (0 ≤ s ∧ s < 4096) → (∀ e, n ≤ e → e < 32 → tb s e = false) → (0 ≤ l ∧ l < n) → tb s l = true → (∃ e, (0 ≤ e ∧ e < n) ∧ tb s e = false) → mro2 m s l < 1000000000 → ∃ x, (0 ≤ x ∧ x < n) ∧ tb s x = false ∧ mrb m s l x = mro2 m s l
def lof (m : gC) (b : Nat) (K : Int) (f : Int) : Bool := decide (mst m b (m 200005 f) + mro2 m (zshl 1 f) f = K)
def lof0 (m : gC) (b : Nat) (n K : Int) : Int := ff (lof m b K) n 0
def loy (m : gC) (s l : Int) (y : Int) : Bool := !tb s y && decide (mrb m s l y = mro2 m s l)
def loy0 (m : gC) (n s l : Int) : Int := ff (loy m s l) n 0
def los (m : gC) (n : Int) (i : Int) (x : (Int × Int) × gC) : (Int × Int) × gC := ((zor x.1.1 (zshl 1 (loy0 m n x.1.1 x.1.2)), loy0 m n x.1.1 x.1.2), gu x.2 200007 (i + 1) (m 200005 (loy0 m n x.1.1 x.1.2)))
def lor (m : gC) (b : Nat) (n K i : Int) : (Int × Int) × gC := itI (los m n) ((zshl 1 (lof0 m b n K), lof0 m b n K), gu m 200007 0 (m 200005 (lof0 m b n K))) i
def LOI (m : gC) (n : Int) (i : Int) (x : (Int × Int) × gC) : Prop := ((0 ≤ x.1.1 ∧ x.1.1 < 4096) ∧ (0 ≤ x.1.2 ∧ x.1.2 < n)) ∧ (tb x.1.1 x.1.2 = true ∧ ∀ e, n ≤ e → e < 32 → tb x.1.1 e = false) ∧ cnt (tb x.1.1) n = i + 1 ∧ mro2 m x.1.1 x.1.2 < 1000000000 ∧ RG x.2 ∧ (∀ k : Nat, ¬ k = 200007 → x.2 k = m k) ∧ ∀ j, 0 ≤ j → j ≤ i → ∃ y, (0 ≤ y ∧ y < n) ∧ x.2 200007 j = m 200005 y
theorem shl_1 {f : Int} (h : 0 ≤ f ∧ f < 12) : 0 ≤ zshl 1 f ∧ zshl 1 f < 4096 := by
  rcases (show f = 0 ∨ f = 1 ∨ f = 2 ∨ f = 3 ∨ f = 4 ∨ f = 5 ∨ f = 6 ∨ f = 7 ∨ f = 8 ∨ f = 9 ∨ f = 10 ∨ f = 11 by omega) with e | e | e | e | e | e | e | e | e | e | e | e <;> subst e <;> decide
theorem tb_1 {f e : Int} (h : 0 ≤ f ∧ f < 32) (he : 0 ≤ e ∧ e < 32) : tb (zshl 1 f) e = decide (f = e) := by
  have h2 := tb_shl f.toNat e.toNat (by omega) (by omega)
  rw [show ((f.toNat : Nat) : Int) = f by omega, show ((e.toNat : Nat) : Int) = e by omega] at h2
  rw [h2]
  by_cases a : f = e
  · subst a; simp
  · rw [decide_eq_false a, decide_eq_false (by omega)]
theorem cnt_1 {f n : Int} (h : 0 ≤ f ∧ f < n) (hn : n ≤ 32) : cnt (tb (zshl 1 f)) n = 1 := by
  have key : ∀ k : Nat, (k : Int) ≤ n → cnt (tb (zshl 1 f)) (k : Int) = (if f < (k : Int) then 1 else 0) := by
    intro k
    induction k with
    | zero => intro _; rw [if_neg (by omega)]; rfl
    | succ k ih =>
      intro a
      have ih := ih (by omega)
      rw [show ((k + 1 : Nat) : Int) = (k : Int) + 1 by omega, cnt_s (by omega), tb_1 (by omega) (by omega), ih]
      by_cases e : f = (k : Int)
      · rw [decide_eq_true e, if_pos rfl, if_neg (by omega), if_pos (by omega)]; rfl
      · rw [decide_eq_false e, if_neg (by decide)]
        by_cases a2 : f < (k : Int)
        · rw [if_pos a2, if_pos (by omega)]
        · rw [if_neg a2, if_neg (by omega)]
  have := key n.toNat (by omega)
  rw [show ((n.toNat : Nat) : Int) = n by omega, if_pos h.2] at this
  exact this
theorem loy_ok {m : gC} {n : Int} {i : Int} {x : (Int × Int) × gC} (hR : RO m n) (h : LOI m n i x) (hi : i + 1 < n) : (0 ≤ loy0 m n x.1.1 x.1.2 ∧ loy0 m n x.1.1 x.1.2 < n) ∧ (tb x.1.1 (loy0 m n x.1.1 x.1.2) = false ∧ mrb m x.1.1 x.1.2 (loy0 m n x.1.1 x.1.2) = mro2 m x.1.1 x.1.2) ∧ ∀ j, 0 ≤ j → j < loy0 m n x.1.1 x.1.2 → loy m x.1.1 x.1.2 j = false := by
  obtain ⟨⟨x1, x2⟩, x3, x4, x5, x6, x7⟩ := h
  obtain ⟨y, y1, y2, y3⟩ := hR _ _ x1 x3.2 x2 x3.1 (cnt_ex (by omega) (by omega)) x5
  have hy : loy m x.1.1 x.1.2 y = true := by unfold loy; rw [y2, decide_eq_true y3]; rfl
  rcases ff_spec (p := loy m x.1.1 x.1.2) (N := n) (i := 0) (by decide) with ⟨h1, h2⟩ | ⟨h1, h2, h3, h4⟩
  · rw [h2 y y1.1 y1.2] at hy; cases hy
  · have h5 : loy m x.1.1 x.1.2 (loy0 m n x.1.1 x.1.2) = true := h3
    unfold loy at h5
    simp only [Bool.and_eq_true, Bool.not_eq_true', decide_eq_true_eq] at h5
    exact ⟨⟨h1, h2⟩, h5, h4⟩
theorem lof_ok {m : gC} {b : Nat} {n K : Int} (h : ∃ f, (0 ≤ f ∧ f < n) ∧ lof m b K f = true) : (0 ≤ lof0 m b n K ∧ lof0 m b n K < n) ∧ mst m b (m 200005 (lof0 m b n K)) + mro2 m (zshl 1 (lof0 m b n K)) (lof0 m b n K) = K ∧ ∀ j, 0 ≤ j → j < lof0 m b n K → lof m b K j = false := by
  obtain ⟨f, f1, f2⟩ := h
  rcases ff_spec (p := lof m b K) (N := n) (i := 0) (by decide) with ⟨h1, h2⟩ | ⟨h1, h2, h3, h4⟩
  · rw [h2 f f1.1 f1.2] at f2; cases f2
  · exact ⟨⟨h1, h2⟩, of_decide_eq_true h3, h4⟩
theorem lor_ok {m : gC} {b : Nat} {n K : Int} (hP : PS m b n) (hR : RO m n) (hK : K < 1000000000) (hE : ∃ f, (0 ≤ f ∧ f < n) ∧ lof m b K f = true) (hst : ∀ a, 0 ≤ a → a < 24 → 0 ≤ mst m b a) {i : Int} (h0 : 0 ≤ i) (h1 : i + 1 ≤ n) : LOI m n i (lor m b n K i) := by
  have hn := hP.1
  refine itI_inv3 (LOI m n) (N := i) ?_ (fun k x k0 k1 hx => ?_) h0 (Int.le_refl _)
  · obtain ⟨a1, a2, a3⟩ := lof_ok hE
    have a4 := hP.2.2.1 _ a1.1 a1.2
    have a5 := hst _ a4.1 a4.2
    refine ⟨⟨shl_1 (by omega), a1⟩, ?_, cnt_1 a1 (by omega), by dsimp only; omega, RG_gu hP.2.2.2.2.2.2 (by omega), fun k hk => funext fun j => gu_k hk, fun j p q => ⟨_, a1, ?_⟩⟩
    · dsimp only
      refine ⟨by rw [tb_1 (by omega) (by omega)]; exact decide_eq_true rfl, fun e p q => ?_⟩
      rw [tb_1 (by omega) (by omega)]; exact decide_eq_false (by omega)
    · dsimp only
      rw [show j = 0 by omega, gu_s]
  · obtain ⟨y1, ⟨y2, y3⟩, y4⟩ := loy_ok hR hx (by omega)
    obtain ⟨⟨x1, x2⟩, x3, x4, x5, x6, x7, x8⟩ := hx
    have z1 := mrb_rg hP x1 x2 y1
    have z2 := hP.2.2.1 _ y1.1 y1.2
    unfold los
    refine ⟨⟨zor_lt x1 (by omega), y1⟩, ?_, ?_, ?_, RG_gu x6 (by omega), fun j hj => ?_, fun j p q => ?_⟩
    · dsimp only
      refine ⟨by rw [tb_ors (by omega) (by omega), decide_eq_true rfl, Bool.or_true], fun e p q => ?_⟩
      rw [tb_ors (by omega) (by omega), x3.2 e p q, decide_eq_false (by omega)]
      rfl
    · dsimp only; rw [cnt_or (by omega) y1 y2, x4]
    · dsimp only
      unfold mrb at y3
      omega
    · dsimp only; rw [← x7 j hj]; funext i; exact gu_k hj
    · dsimp only
      by_cases e : j = k + 1
      · subst e; exact ⟨_, y1, gu_s⟩
      · obtain ⟨y, w1, w2⟩ := x8 j p (by omega)
        exact ⟨y, w1, by rw [gu_j e]; exact w2⟩
