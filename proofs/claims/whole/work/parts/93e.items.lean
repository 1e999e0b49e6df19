/-! the arcs of a plan, in a row -/
theorem cnt_mono {f : Int → Bool} {n m : Int} (h0 : 0 ≤ n) (h : n ≤ m) : cnt f n ≤ cnt f m := by
  have key : ∀ k : Nat, cnt f n ≤ cnt f (n + (k : Int)) := by
    intro k
    induction k with
    | zero => rw [show n + ((0 : Nat) : Int) = n by omega]; exact Int.le_refl _
    | succ k ih =>
      rw [show n + ((k + 1 : Nat) : Int) = n + (k : Int) + 1 by omega, cnt_s (by omega)]
      split <;> omega
  have := key (m - n).toNat
  rwa [show n + ((m - n).toNat : Int) = m by omega] at this
def nb (q j : Int) : Int := ff (fun e => tb q e && decide (cnt (tb q) e = j)) 24 0
theorem nb_of {q e : Int} (he : I24 e) (h : tb q e = true) : nb q (cnt (tb q) e) = e := by
  obtain ⟨a1, a2, a3⟩ := ff_ex (p := fun x => tb q x && decide (cnt (tb q) x = cnt (tb q) e)) (N := 24) ⟨e, he, by rw [h, decide_eq_true rfl]; rfl⟩
  change (0 ≤ nb q (cnt (tb q) e) ∧ nb q (cnt (tb q) e) < 24) at a1
  change (tb q (nb q (cnt (tb q) e)) && decide (cnt (tb q) (nb q (cnt (tb q) e)) = cnt (tb q) e)) = true at a2
  rw [Bool.and_eq_true] at a2
  have a4 := of_decide_eq_true a2.2
  generalize nb q (cnt (tb q) e) = x at *
  have hs : ∀ y, 0 ≤ y → tb q y = true → cnt (tb q) (y + 1) = cnt (tb q) y + 1 := fun y y0 y1 => by rw [cnt_s y0, y1, if_pos rfl]
  unfold I24 at he
  by_cases c1 : x < e
  · have := cnt_mono (f := tb q) (n := x + 1) (m := e) (by omega) (by omega)
    rw [hs x a1.1 a2.1] at this
    omega
  · by_cases c2 : e < x
    · have := cnt_mono (f := tb q) (n := e + 1) (m := x) (by omega) (by omega)
      rw [hs e he.1 h] at this
      omega
    · omega
theorem nb_ex {q j : Int} (j0 : 0 ≤ j) : ∀ n : Nat, j < cnt (tb q) (n : Int) → ∃ e, (0 ≤ e ∧ e < (n : Int)) ∧ tb q e = true ∧ cnt (tb q) e = j := by
  intro n
  induction n with
  | zero =>
    intro h
    have : cnt (tb q) ((0 : Nat) : Int) = 0 := rfl
    omega
  | succ n ih =>
    intro h
    rw [show ((n + 1 : Nat) : Int) = (n : Int) + 1 by omega] at h ⊢
    by_cases e : j < cnt (tb q) (n : Int)
    · obtain ⟨x, x1, x2⟩ := ih e
      exact ⟨x, ⟨x1.1, by omega⟩, x2⟩
    · rw [cnt_s (by omega)] at h
      cases w : tb q (n : Int) with
      | false => rw [w, if_neg (by decide)] at h; omega
      | true =>
        rw [w, if_pos rfl] at h
        exact ⟨(n : Int), ⟨by omega, by omega⟩, w, by omega⟩
theorem nb_sp {q j : Int} (j0 : 0 ≤ j) (j1 : j < cnt (tb q) 24) : I24 (nb q j) ∧ tb q (nb q j) = true ∧ cnt (tb q) (nb q j) = j := by
  obtain ⟨e, e1, e2, e3⟩ := nb_ex j0 24 j1
  have e4 := nb_of (q := q) (e := e) e1 e2
  rw [e3] at e4
  rw [e4]
  exact ⟨e1, e2, e3⟩
theorem nb_inj {q i j : Int} (i0 : 0 ≤ i) (i1 : i < cnt (tb q) 24) (j0 : 0 ≤ j) (j1 : j < cnt (tb q) 24) (h : nb q i = nb q j) : i = j := by
  have a := (nb_sp i0 i1).2.2
  have b := (nb_sp j0 j1).2.2
  rw [h] at a
  omega
/-- the class's items -/
theorem col_v {c : gC} {q : Int} (hq : cnt (tb q) 24 ≤ 12) {i : Int} (i0 : 0 ≤ i) (i1 : i ≤ 24) : itI (cif c q) (gu c 100044 8 0) i 100044 8 = cnt (tb q) i ∧ (∀ j, 0 ≤ j → j < cnt (tb q) i → itI (cif c q) (gu c 100044 8 0) i 100049 j = nb q j ∧ itI (cif c q) (gu c 100044 8 0) i 100050 j = cfr c (24 + c 100014 3) (nb q j)) ∧ PF c (itI (cif c q) (gu c 100044 8 0) i) := by
  refine itI_inv3 (fun i (m : gC) => m 100044 8 = cnt (tb q) i ∧ (∀ j, 0 ≤ j → j < cnt (tb q) i → m 100049 j = nb q j ∧ m 100050 j = cfr c (24 + c 100014 3) (nb q j)) ∧ PF c m) (N := 24) ⟨gu_s, fun j a b => by have : cnt (tb q) 0 = 0 := rfl; omega, fun k h1 h2 h3 j => gu_k h1⟩ (fun e m e0 e1 hm => ?_) i0 i1
  obtain ⟨m1, m2, m3⟩ := hm
  have h1 := cnt_mono (f := tb q) (n := e) (m := 24) e0 (by omega)
  have h2 := cnt_mono (f := tb q) (n := e + 1) (m := 24) (by omega) (by omega)
  have h0 := (cnt_rg (f := tb q) (n := e) e0).1
  rw [cnt_s e0] at h2 ⊢
  cases w : tb q e with
  | false =>
    rw [cif_a w, if_neg (by decide)]
    exact ⟨m1, m2, m3⟩
  | true =>
    rw [w, if_pos rfl] at h2
    have hn := nb_of ⟨e0, e1⟩ w
    rw [cif_t w (by omega), if_pos rfl]
    refine ⟨by rw [gu_s, m1], fun j a b => ⟨?_, ?_⟩, fun k k1 k2 k3 j => ?_⟩
    · rw [gu_k (by decide), gu_k (by decide), m1]
      by_cases e2 : j = cnt (tb q) e
      · rw [e2, gu_s, hn]
      · rw [gu_j e2]; exact (m2 j a (by omega)).1
    · rw [gu_k (k := 100044) (by decide), m1]
      by_cases e2 : j = cnt (tb q) e
      · rw [e2, gu_s, hn]
      · rw [gu_j e2, gu_k (by decide)]; exact (m2 j a (by omega)).2
    · rw [gu_k k1, gu_k k3, gu_k k2]; exact m3 k k1 k2 k3 j
/-- the reference's -/
theorem lnf_v {c : gC} {q i : Int} (i0 : 0 ≤ i) (i1 : i ≤ 24) : itI (lnf q) (gu c 500001 9 0) i 500001 9 = cnt (tb q) i ∧ ∀ j, 0 ≤ j → j < cnt (tb q) i → itI (lnf q) (gu c 500001 9 0) i 200005 j = nb q j := by
  refine itI_inv3 (fun i (m : gC) => m 500001 9 = cnt (tb q) i ∧ ∀ j, 0 ≤ j → j < cnt (tb q) i → m 200005 j = nb q j) (N := 24) ⟨gu_s, fun j a b => by have : cnt (tb q) 0 = 0 := rfl; omega⟩ (fun e m e0 e1 hm => ?_) i0 i1
  obtain ⟨m1, m2⟩ := hm
  rw [cnt_s e0]
  cases w : tb q e with
  | false =>
    rw [lnf_f w, if_neg (by decide)]
    exact ⟨m1, m2⟩
  | true =>
    have hn := nb_of ⟨e0, e1⟩ w
    rw [lnf_t w, if_pos rfl]
    refine ⟨by rw [gu_s, m1], fun j a b => ?_⟩
    rw [gu_k (by decide), m1]
    by_cases e2 : j = cnt (tb q) e
    · rw [e2, gu_s, hn]
    · rw [gu_j e2]; exact m2 j a (by omega)
/-- a plan's data, out of a network and its table -/
def qK (M : gC) (b : Nat) (z : Int) : Int := cnt (tb (mrq M b z)) 24
def qE (M : gC) (b : Nat) (z j : Int) : Int := mcf M b (M b 2) (-1) (nb (mrq M b z) j)
def qL (M : gC) (b : Nat) (z i j : Int) : Int := mle M (nb (mrq M b z) i) (nb (mrq M b z) j)
def qH (M : gC) (b : Nat) (z j : Int) : Int := mtn M b (nb (mrq M b z) j) (M b 2)
def qC (M : gC) (b : Nat) (z : Int) : Int := PCO (qE M b z) (qL M b z) (qH M b z) (qK M b z)
def qP (M : gC) (b : Nat) (z : Int) (i : Nat) : Int × Int := POR (qE M b z) (qL M b z) (qH M b z) (qK M b z) (qC M b z) i
def qO (M : gC) (b : Nat) (z : Int) (i : Nat) : Int := nb (mrq M b z) (qP M b z i).2
theorem q_PHY {M : gC} {b : Nat} (hV : NW M b) (h : FWk M b 24 M) (hL : LR M) (h1 : L1 M b) {z : Int} (hK : qK M b z ≤ 12) : PHY (qE M b z) (qL M b z) (qH M b z) (qK M b z) := by
  have h0 := (cnt_rg (f := tb (mrq M b z)) (n := 24) (by decide)).1
  have hA : ∀ j, 0 ≤ j → j < qK M b z → mhA M b (nb (mrq M b z) j) = true := fun j j0 j1 => by
    obtain ⟨a1, a2, -⟩ := nb_sp j0 j1
    exact (tb_req a1 a2).1
  refine ⟨⟨⟨h0, hK⟩, fun l l0 l1 => ?_, fun l x l0 l1 x0 x1 => ?_⟩, fun l l0 l1 => ?_⟩
  · have ha := hA l l0 l1
    have hr := I24_A hV ha
    refine ⟨mtn_rg hL hr, fun q => ?_⟩
    rcases (mtn_sp (c := M) (b := b) (a := nb (mrq M b z) l) (n := M b 2)).2 with e | ⟨y, y1, y2, y3, y4⟩
    · unfold qH at q; omega
    · have y5 : mtn M b (nb (mrq M b z) l) (M b 2) = tE M (nb (mrq M b z) l) y := y4
      have := FW_small hV h h1 ha y2 (by unfold qH at q; omega)
      unfold qH
      omega
  · have ha := hA l l0 l1
    have hx := hA x x0 x1
    refine ⟨mle_rg hL (I24_A hV ha) (I24_A hV hx), fun q => ?_⟩
    have : tE M (nb (mrq M b z) l) (nb (mrq M b z) x) ≤ 26352 := FW_small hV h h1 ha hx q
    unfold qL
    have e : mle M (nb (mrq M b z) l) (nb (mrq M b z) x) = tE M (nb (mrq M b z) l) (nb (mrq M b z) x) := rfl
    omega
  · have ha := hA l l0 l1
    have hr := I24_A hV ha
    exact ⟨mcf_rg hV hL hr.1, fun q => mcf_sm hV h h1 (Or.inl ⟨hr.1, hr.2, ha⟩) q⟩
