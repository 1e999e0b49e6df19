/-! plans, pure: the cost and the order -/
def PCO (E : Int → Int) (L : Int → Int → Int) (H : Int → Int) (K : Int) : Int := if K = 0 then 0 else itI (fun x a => if tb (zshl 1 K - 1) x = true then min a (min 1000000000 (E x + RW L H K (clr (zshl 1 K - 1) x) x)) else a) 1000000000 K
def PY0 (E : Int → Int) (L : Int → Int → Int) (H : Int → Int) (K C : Int) (f : Int) : Bool := decide (E f + RW L H K (clr (zshl 1 K - 1) f) f = C)
def PY (L : Int → Int → Int) (H : Int → Int) (K s l y : Int) : Bool := tb s y && decide (min 1000000000 (L l y + RW L H K (clr s y) y) = RW L H K s l)
/-- the order of a plan: what is still to come behind its i-th place, and that place -/
def POR (E : Int → Int) (L : Int → Int → Int) (H : Int → Int) (K C : Int) : Nat → Int × Int
  | 0 => (clr (zshl 1 K - 1) (ff (PY0 E L H K C) K 0), ff (PY0 E L H K C) K 0)
  | i + 1 => (clr (POR E L H K C i).1 (ff (PY L H K (POR E L H K C i).1 (POR E L H K C i).2) K 0), ff (PY L H K (POR E L H K C i).1 (POR E L H K C i).2) K 0)
def PHY (E : Int → Int) (L : Int → Int → Int) (H : Int → Int) (K : Int) : Prop := LHK L H K ∧ ∀ l, 0 ≤ l → l < K → FIN (E l)
theorem ff_ex {p : Int → Bool} {N : Int} (h : ∃ e, (0 ≤ e ∧ e < N) ∧ p e = true) : (0 ≤ ff p N 0 ∧ ff p N 0 < N) ∧ p (ff p N 0) = true ∧ ∀ j, 0 ≤ j → j < ff p N 0 → p j = false := by
  obtain ⟨e, e1, e2⟩ := h
  rcases ff_spec (p := p) (N := N) (i := 0) (by decide) with ⟨h1, h2⟩ | ⟨h1, h2, h3, h4⟩
  · rw [h2 e e1.1 e1.2] at e2; cases e2
  · exact ⟨⟨h1, h2⟩, h3, h4⟩
/-- the least of a set is one of its values -/
theorem acc_at {s K : Int} {fm : Int → Int} : ∀ k : Nat, (k : Int) ≤ K → itI (fun x a => if tb s x = true then min a (min 1000000000 (fm x)) else a) 1000000000 (k : Int) < 1000000000 → ∃ x, (0 ≤ x ∧ x < (k : Int)) ∧ tb s x = true ∧ min 1000000000 (fm x) = itI (fun x a => if tb s x = true then min a (min 1000000000 (fm x)) else a) 1000000000 (k : Int) := by
  intro k
  induction k with
  | zero => intro _ h; exact absurd h (Int.lt_irrefl _)
  | succ k ih =>
    intro hk h
    rw [show ((k + 1 : Nat) : Int) = (k : Int) + 1 by omega, itI_s _ _ (by omega)] at h ⊢
    cases q : tb s (k : Int) with
    | false =>
      rw [q, if_neg (by decide)] at h
      rw [if_neg (by decide)]
      obtain ⟨x, x1, x2, x3⟩ := ih (by omega) h
      exact ⟨x, ⟨x1.1, by omega⟩, x2, x3⟩
    | true =>
      rw [q, if_pos rfl] at h
      rw [if_pos rfl]
      by_cases e : min 1000000000 (fm (k : Int)) < itI (fun x a => if tb s x = true then min a (min 1000000000 (fm x)) else a) 1000000000 (k : Int)
      · exact ⟨(k : Int), ⟨by omega, by omega⟩, q, by omega⟩
      · obtain ⟨x, x1, x2, x3⟩ := ih (by omega) (by omega)
        exact ⟨x, ⟨x1.1, by omega⟩, x2, by omega⟩
section
variable {E : Int → Int} {L : Int → Int → Int} {H : Int → Int} {K : Int}
theorem PCO_rg (h : PHY E L H K) : (0 ≤ PCO E L H K ∧ PCO E L H K ≤ 1000000000) ∧ (PCO E L H K < 1000000000 → PCO E L H K ≤ 384300) := by
  obtain ⟨h1, hE⟩ := h
  have hK := h1.1
  unfold PCO
  by_cases e : K = 0
  · rw [if_pos e]; omega
  · rw [if_neg e]
    have := acc_e (s := zshl 1 K - 1) (B := 384300) (K := K) (fc := fun x => cv (E x + RW L H K (clr (zshl 1 K - 1) x) x)) (fm := fun x => E x + RW L H K (clr (zshl 1 K - 1) x) x) (by decide) hK.1 (fun x x0 x1 hx => ?_)
    · exact this.2
    · have hc := SK_clr hK (SK_all hK) ⟨x0, x1⟩
      have h3 := RW_r h1 hc x0 x1
      have h4 := cnt_clr hK (SK_all hK) ⟨x0, x1⟩ hx
      have h5 := (cnt_rg (f := tb (zshl 1 K - 1)) (n := K) hK.1).2
      have h6 := (hE x x0 x1).1
      have h7 := (hE x x0 x1).2
      have h8 := h3.2
      try dsimp only
      refine ⟨by omega, fun q => ?_, fun q => ?_⟩
      · unfold cv
        rw [if_pos q]
        have := h8 (by omega)
        have := h7 (by omega)
        exact ⟨rfl, by omega⟩
      · unfold cv
        rw [if_neg q]
        omega
theorem PY0_ex (h : PHY E L H K) (h0 : ¬ K = 0) (hC : PCO E L H K < 1000000000) : ∃ f, (0 ≤ f ∧ f < K) ∧ PY0 E L H K (PCO E L H K) f = true := by
  have hK := h.1.1
  have hC2 := hC
  unfold PCO at hC2
  rw [if_neg h0] at hC2
  have := acc_at (s := zshl 1 K - 1) (K := K) (fm := fun x => E x + RW L H K (clr (zshl 1 K - 1) x) x) K.toNat (by omega)
  rw [show (K.toNat : Int) = K by omega] at this
  obtain ⟨x, x1, x2, x3⟩ := this hC2
  refine ⟨x, x1, ?_⟩
  unfold PY0
  refine decide_eq_true ?_
  have e : PCO E L H K = itI (fun x a => if tb (zshl 1 K - 1) x = true then min a (min 1000000000 (E x + RW L H K (clr (zshl 1 K - 1) x) x)) else a) 1000000000 K := by unfold PCO; rw [if_neg h0]
  rw [← e] at x3
  omega
theorem PY_ex (h : LHK L H K) {s l : Int} (hs : SK K s) (h0 : ¬ s = 0) (hC : RW L H K s l < 1000000000) : ∃ y, (0 ≤ y ∧ y < K) ∧ PY L H K s l y = true := by
  have hK := h.1
  have e := RW_s (L := L) (H := H) (l := l) hK hs h0
  have := acc_at (s := s) (K := K) (fm := fun x => L l x + RW L H K (clr s x) x) K.toNat (by omega)
  rw [show (K.toNat : Int) = K by omega] at this
  obtain ⟨x, x1, x2, x3⟩ := this (by rw [← e]; exact hC)
  refine ⟨x, x1, ?_⟩
  unfold PY
  rw [x2, decide_eq_true (x3.trans e.symm)]
  rfl
/-- what holds along a plan -/
def POI (L : Int → Int → Int) (H : Int → Int) (K : Int) (i : Int) (x : Int × Int) : Prop := (SK K x.1 ∧ 0 ≤ x.2 ∧ x.2 < K) ∧ tb x.1 x.2 = false ∧ cnt (tb x.1) K = K - 1 - i ∧ RW L H K x.1 x.2 < 1000000000
theorem POR_0 (h : PHY E L H K) (h0 : ¬ K = 0) (hC : PCO E L H K < 1000000000) : POI L H K 0 (POR E L H K (PCO E L H K) 0) ∧ E (POR E L H K (PCO E L H K) 0).2 < 1000000000 ∧ E (POR E L H K (PCO E L H K) 0).2 + RW L H K (POR E L H K (PCO E L H K) 0).1 (POR E L H K (PCO E L H K) 0).2 = PCO E L H K := by
  have hK := h.1.1
  obtain ⟨a1, a2, a3⟩ := ff_ex (PY0_ex h h0 hC)
  have ha := all_tb hK a1.1 (by omega)
  rw [decide_eq_true a1.2] at ha
  have a4 := of_decide_eq_true a2
  show POI L H K 0 (clr (zshl 1 K - 1) (ff (PY0 E L H K (PCO E L H K)) K 0), ff (PY0 E L H K (PCO E L H K)) K 0) ∧ E (ff (PY0 E L H K (PCO E L H K)) K 0) < 1000000000 ∧ E (ff (PY0 E L H K (PCO E L H K)) K 0) + RW L H K (clr (zshl 1 K - 1) (ff (PY0 E L H K (PCO E L H K)) K 0)) (ff (PY0 E L H K (PCO E L H K)) K 0) = PCO E L H K
  generalize ff (PY0 E L H K (PCO E L H K)) K 0 = f at *
  have hc := SK_clr hK (SK_all hK) a1
  have h4 := cnt_clr hK (SK_all hK) a1 ha
  have h3 := (RW_r h.1 hc a1.1 a1.2).1
  have h6 := (h.2 f a1.1 a1.2).1
  have h5 : cnt (tb (zshl 1 K - 1)) K = K := by
    have h6 : ∀ k : Nat, (k : Int) ≤ K → cnt (tb (zshl 1 K - 1)) (k : Int) = (k : Int) := by
      intro k
      induction k with
      | zero => intro _; rfl
      | succ k ih =>
        intro hk
        have q := all_tb hK (e := (k : Int)) (by omega) (by omega)
        rw [show ((k + 1 : Nat) : Int) = (k : Int) + 1 by omega, cnt_s (by omega), q, decide_eq_true (by omega), if_pos rfl, ih (by omega)]
    have := h6 K.toNat (by omega)
    rwa [show (K.toNat : Int) = K by omega] at this
  refine ⟨⟨⟨hc, a1⟩, by (try dsimp only); rw [tb_clr (by omega) (by omega), decide_eq_true rfl]; simp, by (try dsimp only); omega, by (try dsimp only); omega⟩, by omega, a4⟩
theorem POR_s (h : PHY E L H K) {C : Int} {i : Nat} (hi : (i : Int) + 1 < K) (hI : POI L H K (i : Int) (POR E L H K C i)) : POI L H K ((i : Int) + 1) (POR E L H K C (i + 1)) ∧ (tb (POR E L H K C i).1 (POR E L H K C (i + 1)).2 = true ∧ L (POR E L H K C i).2 (POR E L H K C (i + 1)).2 < 1000000000) ∧ L (POR E L H K C i).2 (POR E L H K C (i + 1)).2 + RW L H K (POR E L H K C (i + 1)).1 (POR E L H K C (i + 1)).2 = RW L H K (POR E L H K C i).1 (POR E L H K C i).2 := by
  have hK := h.1.1
  obtain ⟨⟨i1, i2⟩, i3, i4, i5⟩ := hI
  have hne : ¬ (POR E L H K C i).1 = 0 := fun q => by
    have := (cnt_zero hK i1).2 q
    omega
  obtain ⟨a1, a2, a3⟩ := ff_ex (PY_ex h.1 i1 hne i5)
  show POI L H K ((i : Int) + 1) (clr (POR E L H K C i).1 (ff (PY L H K (POR E L H K C i).1 (POR E L H K C i).2) K 0), ff (PY L H K (POR E L H K C i).1 (POR E L H K C i).2) K 0) ∧ (tb (POR E L H K C i).1 (ff (PY L H K (POR E L H K C i).1 (POR E L H K C i).2) K 0) = true ∧ L (POR E L H K C i).2 (ff (PY L H K (POR E L H K C i).1 (POR E L H K C i).2) K 0) < 1000000000) ∧ L (POR E L H K C i).2 (ff (PY L H K (POR E L H K C i).1 (POR E L H K C i).2) K 0) + RW L H K (clr (POR E L H K C i).1 (ff (PY L H K (POR E L H K C i).1 (POR E L H K C i).2) K 0)) (ff (PY L H K (POR E L H K C i).1 (POR E L H K C i).2) K 0) = RW L H K (POR E L H K C i).1 (POR E L H K C i).2
  generalize POR E L H K C i = x at *
  generalize ff (PY L H K x.1 x.2) K 0 = y at *
  unfold PY at a2
  rw [Bool.and_eq_true] at a2
  have a4 := of_decide_eq_true a2.2
  have hc := SK_clr hK i1 a1
  have h4 := cnt_clr hK i1 a1 a2.1
  have h3 := (RW_r h.1 hc a1.1 a1.2).1
  have h6 := (h.1.2.2 x.2 y i2.1 i2.2 a1.1 a1.2).1
  refine ⟨⟨⟨hc, a1⟩, by (try dsimp only); rw [tb_clr (by omega) (by omega), decide_eq_true rfl]; simp, by (try dsimp only); omega, by (try dsimp only); omega⟩, ⟨a2.1, by omega⟩, by omega⟩
theorem POR_I (h : PHY E L H K) (hC : PCO E L H K < 1000000000) : ∀ i : Nat, (i : Int) < K → POI L H K (i : Int) (POR E L H K (PCO E L H K) i) := by
  intro i
  induction i with
  | zero => intro hi; exact (POR_0 h (by omega) hC).1
  | succ i ih =>
    intro hi
    exact (POR_s h (by omega) (ih (by omega))).1
end
