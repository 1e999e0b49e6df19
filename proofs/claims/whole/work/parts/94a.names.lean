/-! names as numbers, on both sides -/
def wv (d : Int → Int) : Nat → Int
  | 0 => 0
  | n + 1 => wv d n * 27 + d (n : Int)
theorem wv_cg {d d' : Int → Int} : ∀ {n : Nat}, (∀ j : Int, 0 ≤ j → j < (n : Int) → d j = d' j) → wv d n = wv d' n := by
  intro n
  induction n with
  | zero => intro _; rfl
  | succ n ih =>
    intro h
    show wv d n * 27 + d (n : Int) = wv d' n * 27 + d' (n : Int)
    rw [ih (fun j a b => h j a (by omega)), h _ (by omega) (by omega)]
theorem wv_0 {d : Int → Int} : ∀ {n : Nat}, (∀ j : Int, 0 ≤ j → j < (n : Int) → 0 ≤ d j ∧ d j ≤ 26) → 0 ≤ wv d n := by
  intro n
  induction n with
  | zero => intro _; exact Int.le_refl 0
  | succ n ih =>
    intro h
    have := ih (fun j a b => h j a (by omega))
    have := h (n : Int) (by omega) (by omega)
    show 0 ≤ wv d n * 27 + d (n : Int)
    omega
theorem wv_inj {d d' : Int → Int} : ∀ (n n' : Nat), (∀ j : Int, 0 ≤ j → j < (n : Int) → 1 ≤ d j ∧ d j ≤ 26) → (∀ j : Int, 0 ≤ j → j < (n' : Int) → 1 ≤ d' j ∧ d' j ≤ 26) → wv d n = wv d' n' → n = n' ∧ ∀ j : Int, 0 ≤ j → j < (n : Int) → d j = d' j := by
  intro n
  induction n with
  | zero =>
    intro n' h h' e
    cases n' with
    | zero => exact ⟨rfl, fun j a b => by omega⟩
    | succ k =>
      have e2 : 0 = wv d' k * 27 + d' (k : Int) := e
      have := wv_0 (d := d') (n := k) (fun j a b => by have := h' j a (by omega); omega)
      have := h' (k : Int) (by omega) (by omega)
      omega
  | succ n ih =>
    intro n' h h' e
    cases n' with
    | zero =>
      have e2 : wv d n * 27 + d (n : Int) = 0 := e
      have := wv_0 (d := d) (n := n) (fun j a b => by have := h j a (by omega); omega)
      have := h (n : Int) (by omega) (by omega)
      omega
    | succ k =>
      have e2 : wv d n * 27 + d (n : Int) = wv d' k * 27 + d' (k : Int) := e
      have a1 := h (n : Int) (by omega) (by omega)
      have a2 := h' (k : Int) (by omega) (by omega)
      obtain ⟨b1, b2⟩ := ih k (fun j a b => h j a (by omega)) (fun j a b => h' j a (by omega)) (by omega)
      subst b1
      refine ⟨rfl, fun j a b => ?_⟩
      by_cases q : j = (n : Int)
      · rw [q]; omega
      · exact b2 j a (by omega)
theorem wv_inj0 {d d' : Int → Int} : ∀ (n : Nat), (∀ j : Int, 0 ≤ j → j < (n : Int) → 0 ≤ d j ∧ d j ≤ 26) → (∀ j : Int, 0 ≤ j → j < (n : Int) → 0 ≤ d' j ∧ d' j ≤ 26) → wv d n = wv d' n → ∀ j : Int, 0 ≤ j → j < (n : Int) → d j = d' j := by
  intro n
  induction n with
  | zero => intro h h' e j a b; omega
  | succ n ih =>
    intro h h' e
    have e2 : wv d n * 27 + d (n : Int) = wv d' n * 27 + d' (n : Int) := e
    have a1 := h (n : Int) (by omega) (by omega)
    have a2 := h' (n : Int) (by omega) (by omega)
    have b2 := ih (fun j a b => h j a (by omega)) (fun j a b => h' j a (by omega)) (by omega)
    intro j a b
    by_cases q : j = (n : Int)
    · rw [q]; omega
    · exact b2 j a (by omega)
/-- a name: the class's number and the reference's -/
def pad (d : Int → Int) (n : Nat) (j : Int) : Int := if j < (n : Int) then d j else 0
def DG (d : Int → Int) (n : Nat) : Prop := (1 ≤ n ∧ n ≤ 6) ∧ ∀ j : Int, 0 ≤ j → j < (n : Int) → 1 ≤ d j ∧ d j ≤ 26
def NMR (x y : Int) : Prop := ∃ (d : Int → Int) (n : Nat), DG d n ∧ x = wv d n ∧ y = wv (pad d n) 6
theorem DG_pad {d : Int → Int} {n : Nat} (h : DG d n) (j : Int) (h0 : 0 ≤ j) (h1 : j < ((6 : Nat) : Int)) : 0 ≤ pad d n j ∧ pad d n j ≤ 26 := by
  unfold pad
  split
  · have := h.2 j h0 (by assumption); omega
  · omega
theorem NMR_inj {x y x' y' : Int} (h : NMR x y) (h' : NMR x' y') : x = x' ↔ y = y' := by
  obtain ⟨d, n, h1, h2, h3⟩ := h
  obtain ⟨d', n', h1', h2', h3'⟩ := h'
  constructor
  · intro e
    rw [h2, h2'] at e
    obtain ⟨a, b⟩ := wv_inj n n' h1.2 h1'.2 e
    subst a
    rw [h3, h3']
    refine wv_cg fun j j0 j1 => ?_
    unfold pad
    split
    · rename_i q; exact b j j0 q
    · rfl
  · intro e
    rw [h3, h3'] at e
    have b := wv_inj0 6 (DG_pad h1) (DG_pad h1') e
    have hn : n = n' := by
      obtain ⟨⟨p1, p2⟩, p3⟩ := h1
      obtain ⟨⟨q1, q2⟩, q3⟩ := h1'
      refine Classical.byContradiction fun hne => ?_
      by_cases c : n < n'
      · have := b (n : Int) (by omega) (by omega)
        unfold pad at this
        rw [if_neg (by omega), if_pos (by omega)] at this
        have := q3 (n : Int) (by omega) (by omega)
        omega
      · have := b (n' : Int) (by omega) (by omega)
        unfold pad at this
        rw [if_pos (by omega), if_neg (by omega)] at this
        have := p3 (n' : Int) (by omega) (by omega)
        omega
    subst hn
    rw [h2, h2']
    refine wv_cg fun j j0 j1 => ?_
    have := b j j0 (by have := h1.1; omega)
    unfold pad at this
    rwa [if_pos j1, if_pos j1] at this
theorem wv_bw {d : Int → Int} : ∀ {n : Nat}, n ≤ 6 → (∀ j : Int, 0 ≤ j → j < (n : Int) → 0 ≤ d j ∧ d j ≤ 26) → wv d n < bw (n : Int) := by
  intro n
  induction n with
  | zero => intro _ _; show (0 : Int) < bw ((0 : Nat) : Int); decide
  | succ n ih =>
    intro hn h
    have h1 := ih (by omega) (fun j a b => h j a (by omega))
    have h2 := h (n : Int) (by omega) (by omega)
    rw [show ((n + 1 : Nat) : Int) = (n : Int) + 1 by omega, bw_s (by omega) (by omega)]
    show wv d n * 27 + d (n : Int) < _
    omega
theorem NMR_rg {x y : Int} (h : NMR x y) : (1 ≤ x ∧ x < 387420489) ∧ 0 ≤ y ∧ y < 387420489 := by
  obtain ⟨d, n, h1, h2, h3⟩ := h
  have b1 := wv_bw (d := d) h1.1.2 (fun j a b => by have := h1.2 j a b; omega)
  have b2 := wv_bw (d := pad d n) (n := 6) (by decide) (DG_pad h1)
  have b3 := wv_0 (d := pad d n) (n := 6) (DG_pad h1)
  have b4 := bw_le (n : Int)
  have b5 := bw_le ((6 : Nat) : Int)
  have b6 : 1 ≤ wv d n := by
    obtain ⟨k, hk⟩ : ∃ k, n = k + 1 := ⟨n - 1, by have := h1.1; omega⟩
    subst hk
    have := wv_0 (d := d) (n := k) (fun j a b => by have := h1.2 j a (by omega); omega)
    have := h1.2 (k : Int) (by omega) (by omega)
    show 1 ≤ wv d k * 27 + d (k : Int)
    omega
  omega
/-- the texts, byte by byte -/
def txb (n : Nat) (j : Int) : Int := ((am_tbyt.getD n []).getD j.toNat 0).toInt
def TX (c : gC) : Prop := ∀ n : Nat, n < 20 → ∀ j : Int, 0 ≤ j → j < ((am_tlen.getD n 0 : Nat) : Int) → c (910000 + n) j = txb n j
theorem TX_o {c m : gC} (h : TX c) (e : ∀ k : Nat, 910000 ≤ k → m k = c k) : TX m := fun n hn j a b => by rw [e _ (by omega)]; exact h n hn j a b
theorem nmo_wv {c : gC} (h : TX c) {n : Nat} (hn : n < 20) : ∀ k : Nat, k ≤ am_tlen.getD n 0 → nmo c n k = wv (fun j => txb n j - 96) k := by
  intro k
  unfold nmo
  induction k with
  | zero => intro _; rfl
  | succ k ih =>
    intro hk
    rw [show ((k + 1 : Nat) : Int) = (k : Int) + 1 by omega, itI_s _ _ (by omega), ih (by omega), h n hn (k : Int) (by omega) (by omega)]
    show _ = wv (fun j => txb n j - 96) k * 27 + (txb n (k : Int) - 96)
    omega
theorem txb_kw : ∀ n : Nat, n < 9 → ∀ j : Nat, j < am_tlen.getD n 0 → 97 ≤ txb n (j : Int) ∧ txb n (j : Int) ≤ 122 := by decide +kernel
theorem tlen_kw : ∀ n : Nat, n < 9 → 1 ≤ am_tlen.getD n 0 ∧ am_tlen.getD n 0 ≤ 6 := by decide +kernel
theorem kw_DG {n : Nat} (hn : n < 9) : DG (fun j => txb n j - 96) (am_tlen.getD n 0) := ⟨tlen_kw n hn, fun j a b => by
  have := txb_kw n hn j.toNat (by omega)
  rw [show (j.toNat : Int) = j by omega] at this
  dsimp only
  omega⟩
theorem kw_df : ∀ n : Nat, n < 9 → ∀ n' : Nat, n' < 9 → ¬ n = n' → ¬ wv (fun j => txb n j - 96) (am_tlen.getD n 0) = wv (fun j => txb n' j - 96) (am_tlen.getD n' 0) := by decide +kernel
/-- a word of the input -/
theorem wmv_wv {c : gC} {s : Int} : ∀ k : Nat, k ≤ 6 → wmv c s (s + (k : Int)) = wv (fun j => c 100001 (s + j) - 96) k := by
  intro k
  induction k with
  | zero =>
    intro _
    unfold wmv
    rw [show s + ((0 : Nat) : Int) - s = 0 by omega, itI_0]
    rfl
  | succ k ih =>
    intro hk
    rw [show s + ((k + 1 : Nat) : Int) = s + (k : Int) + 1 by omega, wmv_s (by omega), if_pos (by omega), ih (by omega)]
    show _ = wv (fun j => c 100001 (s + j) - 96) k * 27 + (c 100001 (s + (k : Int)) - 96)
    omega
theorem mpk_wv {m : gC} {n : Nat} (h1 : m 500001 17 = m 500001 18 + (n : Int)) : mpk m = wv (pad (fun j => m 200009 (m 500001 18 + j) - 96) n) 6 := by
  have key : ∀ k : Nat, k ≤ 6 → itI (fun k v => 27 * v + (if m 500001 18 + k < m 500001 17 then m 200009 (m 500001 18 + k) - 97 + 1 else 0)) 0 (k : Int) = wv (pad (fun j => m 200009 (m 500001 18 + j) - 96) n) k := by
    intro k
    induction k with
    | zero => intro _; rfl
    | succ k ih =>
      intro hk
      rw [show ((k + 1 : Nat) : Int) = (k : Int) + 1 by omega, itI_s _ _ (by omega), ih (by omega)]
      show _ = wv (pad (fun j => m 200009 (m 500001 18 + j) - 96) n) k * 27 + pad (fun j => m 200009 (m 500001 18 + j) - 96) n (k : Int)
      unfold pad
      by_cases e : (k : Int) < (n : Int)
      · rw [if_pos e, if_pos (by omega)]; dsimp only; omega
      · rw [if_neg e, if_neg (by omega)]; omega
  exact key 6 (by decide)
