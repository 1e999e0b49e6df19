/-! reach: closed after as many rounds as there are further nodes -/
theorem tb_ext {s t : Int} (hs : -2147483648 ≤ s ∧ s < 2147483648) (ht : -2147483648 ≤ t ∧ t < 2147483648) (h : ∀ n : Nat, n < 32 → tb s (n : Int) = tb t (n : Int)) : s = t := by
  have h1 : (Int32.ofInt s).toInt = s := Int32.toInt_ofInt_of_le (by omega) (by omega)
  have h2 : (Int32.ofInt t).toInt = t := Int32.toInt_ofInt_of_le (by omega) (by omega)
  have h3 : (Int32.ofInt s).toBitVec = (Int32.ofInt t).toBitVec := BitVec.eq_of_getLsbD_eq fun i hi => by
    rw [← tb_bit hi, ← tb_bit hi]
    exact h i hi
  have h4 : (Int32.ofInt s).toBitVec.toInt = s := h1
  have h5 : (Int32.ofInt t).toBitVec.toInt = t := h2
  rw [← h4, ← h5, h3]
theorem cnt_top {f : Int → Bool} {N : Int} (h0 : 0 ≤ N) (hf : ∀ e, N ≤ e → f e = false) {k : Int} (hk : 0 ≤ k) : cnt f k ≤ N := by
  have key : ∀ j : Nat, cnt f (j : Int) ≤ N := by
    intro j
    induction j with
    | zero => show cnt f 0 ≤ N; unfold cnt; exact h0
    | succ j ih =>
      rw [show ((j + 1 : Nat) : Int) = (j : Int) + 1 by omega, cnt_s (by omega)]
      by_cases e : f (j : Int) = true
      · rw [if_pos e]
        have := (cnt_rg (f := f) (n := (j : Int)) (by omega)).2
        by_cases e2 : N ≤ (j : Int)
        · rw [hf _ e2] at e; cases e
        · omega
      · rw [if_neg e]; exact ih
  have := key k.toNat
  rwa [show ((k.toNat : Nat) : Int) = k by omega] at this
/-- one round -/
def rnR (c : gC) (b : Nat) (w s : Int) : Int := itI (mrs c b w) s 24
theorem mrc_e {c : gC} {b : Nat} {n w : Int} : mrc c b n w = itI (fun _ s => rnR c b w s) (zshl 1 n) 10 := rfl
section RR
variable {c : gC} {b : Nat} {w : Int}
theorem rnR_ok (hV : NW c b) (hN : ∀ a, mhA c b a = true → men c b a < c b 0) {s : Int} (hs : -2147483648 ≤ s ∧ s < 2147483648) : (-2147483648 ≤ rnR c b w s ∧ rnR c b w s < 2147483648) ∧ (∀ e, 0 ≤ e → e < 32 → tb s e = true → tb (rnR c b w s) e = true) ∧ ∀ e, 0 ≤ e → e < 32 → tb (rnR c b w s) e = true → tb s e = true ∨ e < c b 0 := by
  have hn := hV.1.1
  refine itI_inv2 (fun t : Int => (-2147483648 ≤ t ∧ t < 2147483648) ∧ (∀ e, 0 ≤ e → e < 32 → tb s e = true → tb t e = true) ∧ ∀ e, 0 ≤ e → e < 32 → tb t e = true → tb s e = true ∨ e < c b 0) (N := 24) ⟨hs, fun _ _ _ h => h, fun _ _ _ h => Or.inl h⟩ (fun j t j0 j1 ht => ?_) (Int.le_refl _)
  unfold mrs
  split
  · rename_i h
    have hm := men_rg hV (show 0 ≤ j ∧ j < 24 by omega)
    have hl := hN j h.1
    refine ⟨zrg _, fun e a d q => ?_, fun e a d q => ?_⟩
    · rw [tb_ors (by omega) ⟨a, d⟩, ht.2.1 e a d q]; rfl
    · rw [tb_ors (by omega) ⟨a, d⟩, Bool.or_eq_true] at q
      rcases q with q | q
      · exact ht.2.2 e a d q
      · have := of_decide_eq_true q
        right; omega
  · exact ht
def rnF (s : Int) : Int → Bool := fun e => decide (0 ≤ e ∧ e < 10) && tb s e
/-- the rounds -/
def rnI (c : gC) (b : Nat) (w n i : Int) : Int := itI (fun _ s => rnR c b w s) (zshl 1 n) i
theorem rnI_s {n i : Int} (h : 0 ≤ i) : rnI c b w n (i + 1) = rnR c b w (rnI c b w n i) := by unfold rnI; rw [itI_s _ _ h]
theorem rnI_ok (hV : NW c b) (hN : ∀ a, mhA c b a = true → men c b a < c b 0) {n : Int} (hn : 0 ≤ n ∧ n < c b 0) {i : Int} : (-2147483648 ≤ rnI c b w n i ∧ rnI c b w n i < 2147483648) ∧ tb (rnI c b w n i) n = true ∧ ∀ e, 0 ≤ e → e < 32 → tb (rnI c b w n i) e = true → e < c b 0 := by
  have h0 := hV.1.1
  refine itI_inv (fun s : Int => (-2147483648 ≤ s ∧ s < 2147483648) ∧ tb s n = true ∧ ∀ e, 0 ≤ e → e < 32 → tb s e = true → e < c b 0) ⟨zshl_rg 1 n, ?_, fun e a d q => ?_⟩ (fun j s hs => ?_) i
  · rw [tb_1 (by omega) (by omega)]; simp
  · rw [tb_1 (by omega) ⟨a, d⟩] at q
    have := of_decide_eq_true q
    omega
  · obtain ⟨h1, h2, h3⟩ := rnR_ok (w := w) hV hN hs.1
    refine ⟨h1, h2 n hn.1 (by omega) hs.2.1, fun e a d q => ?_⟩
    rcases h3 e a d q with h | h
    · exact hs.2.2 e a d h
    · exact h
theorem rnI_grow (hV : NW c b) (hN : ∀ a, mhA c b a = true → men c b a < c b 0) {n : Int} (hn : 0 ≤ n ∧ n < c b 0) : ∀ i : Nat, rnI c b w n ((i : Int) + 1) = rnI c b w n (i : Int) ∨ (i : Int) + 2 ≤ cnt (rnF (rnI c b w n ((i : Int) + 1))) 10 := by
  have h0 := hV.1.1
  have step : ∀ i : Nat, rnI c b w n ((i : Int) + 1) = rnI c b w n (i : Int) ∨ cnt (rnF (rnI c b w n (i : Int))) 10 + 1 ≤ cnt (rnF (rnI c b w n ((i : Int) + 1))) 10 := fun i => by
    obtain ⟨a1, a2, a3⟩ := rnI_ok (w := w) hV hN hn (i := (i : Int))
    obtain ⟨b1, b2, b3⟩ := rnI_ok (w := w) hV hN hn (i := (i : Int) + 1)
    obtain ⟨r1, r2, r3⟩ := rnR_ok (w := w) hV hN a1
    rw [← rnI_s (by omega)] at r1 r2 r3
    by_cases e : ∀ k : Nat, k < 32 → tb (rnI c b w n ((i : Int) + 1)) (k : Int) = tb (rnI c b w n (i : Int)) (k : Int)
    · exact Or.inl (tb_ext b1 a1 e)
    · refine Or.inr ?_
      refine Classical.byContradiction fun hc => e fun k hk => ?_
      cases q : tb (rnI c b w n (i : Int)) (k : Int) with
      | true => exact r2 _ (by omega) (by omega) q
      | false =>
        cases q2 : tb (rnI c b w n ((i : Int) + 1)) (k : Int) with
        | false => rfl
        | true =>
          exfalso
          have hk2 := b3 _ (by omega) (by omega) q2
          refine hc (cnt_lt (n := 10) (e := (k : Int)) (by omega) (by omega) (fun e he => ?_) ?_ ?_)
          · unfold rnF at he ⊢
            rw [Bool.and_eq_true] at he ⊢
            have := of_decide_eq_true he.1
            exact ⟨he.1, r2 e (by omega) (by omega) he.2⟩
          · unfold rnF
            rw [decide_eq_true ⟨by omega, by omega⟩, q2]; rfl
          · unfold rnF
            rw [q]; simp
  intro i
  induction i with
  | zero =>
    rcases step 0 with h | h
    · exact Or.inl h
    · refine Or.inr ?_
      have hp : cnt (fun _ => false) 10 + 1 ≤ cnt (rnF (rnI c b w n ((0 : Nat) : Int))) 10 := cnt_lt (n := 10) (e := n) hn.1 (by omega) (fun e he => by cases he) (by
        unfold rnF
        rw [decide_eq_true ⟨hn.1, by omega⟩, (rnI_ok (w := w) hV hN hn (i := ((0 : Nat) : Int))).2.1]; rfl) rfl
      have := (cnt_rg (f := fun _ => false) (n := 10) (by decide)).1
      omega
  | succ i ih =>
    rcases ih with h | h
    · left
      rw [rnI_s (by omega), show ((i + 1 : Nat) : Int) = (i : Int) + 1 by omega, h, ← rnI_s (by omega), h]
    · rcases step (i + 1) with h2 | h2
      · exact Or.inl h2
      · refine Or.inr ?_
        rw [show ((i + 1 : Nat) : Int) = (i : Int) + 1 by omega] at h2 ⊢
        omega
theorem rnI_fix (hV : NW c b) (hN : ∀ a, mhA c b a = true → men c b a < c b 0) {n : Int} (hn : 0 ≤ n ∧ n < c b 0) : ∀ j : Nat, rnI c b w n (c b 0 - 1 + (j : Int)) = rnI c b w n (c b 0 - 1) := by
  have h0 := hV.1.1
  have h1 : rnI c b w n (c b 0 - 1 + 1) = rnI c b w n (c b 0 - 1) := by
    have e1 : ((c b 0 - 1).toNat : Int) = c b 0 - 1 := by omega
    rcases rnI_grow (w := w) hV hN hn (c b 0 - 1).toNat with h | h
    · rwa [e1] at h
    · exfalso
      rw [e1] at h
      have := cnt_top (f := rnF (rnI c b w n (c b 0 - 1 + 1))) (N := c b 0) (by omega) (fun e he => by
        unfold rnF
        by_cases a : 0 ≤ e ∧ e < 10
        · rw [decide_eq_true a]
          cases q : tb (rnI c b w n (c b 0 - 1 + 1)) e with
          | false => rfl
          | true =>
            have := (rnI_ok (w := w) hV hN hn (i := c b 0 - 1 + 1)).2.2 e (by omega) (by omega) q
            omega
        · rw [decide_eq_false a]; rfl) (k := 10) (by decide)
      omega
  intro j
  induction j with
  | zero => rw [show c b 0 - 1 + ((0 : Nat) : Int) = c b 0 - 1 by omega]
  | succ j ih =>
    rw [show c b 0 - 1 + ((j + 1 : Nat) : Int) = c b 0 - 1 + (j : Int) + 1 by omega, rnI_s (by omega), ih, ← rnI_s (by omega), h1]
end RR
/-- REACH is the same -/
theorem NN_rch {c m : gC} {k b : Nat} (h : NN c k m b) (hV : NW m b) {n : Int} (hn : 0 ≤ n ∧ n < m b 0) (w : Int) : rch c k n w = mrc m b n w := by
  have h0 := hV.1.1
  have e1 : rch c k n w = rnI m b w n (m b 0 - 1) := by
    unfold rch rnI rnR
    rw [h.1.1.1, show rst c k w = mrs m b w from funext fun a => funext fun s => NN_rst h hV w a s]
  have e2 : mrc m b n w = rnI m b w n 10 := rfl
  rw [e1, e2]
  have := rnI_fix (w := w) hV (fun a ha => (NN_e h hV ha).2.2) hn (10 - (m b 0 - 1)).toNat
  rw [show m b 0 - 1 + ((10 - (m b 0 - 1)).toNat : Int) = 10 by omega] at this
  exact this.symm
theorem NN_con {c m : gC} {k b : Nat} (h : NN c k m b) (hV : NW m b) (w : Int) : con c k w = mcn m b w := by
  unfold con mcn
  rw [h.1.1.1]
  congr 2
  refine ff_congr fun n a d => ?_
  rw [NN_rch h hV ⟨a, d⟩, decide_not]
