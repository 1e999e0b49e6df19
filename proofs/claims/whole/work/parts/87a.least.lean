/-! how far the farthest node is -/
theorem cv_max {x y : Int} (hx : x < 1000000000 → x ≤ 27450) (hy : y < 1000000000 → y ≤ 27450) : max (cv x) (cv y) = cv (max x y) := by
  unfold cv
  by_cases a : x < 1000000000
  · have := hx a
    by_cases d : y < 1000000000
    · rw [if_pos a, if_pos d, if_pos (by omega)]
    · rw [if_pos a, if_neg d, if_neg (by omega)]; omega
  · by_cases d : y < 1000000000
    · have := hy d
      rw [if_neg a, if_pos d, if_neg (by omega)]; omega
    · rw [if_neg a, if_neg d, if_neg (by omega)]; omega
theorem cv_min {x : Int} : cv (min 1000000000 x) = cv x := by
  unfold cv
  by_cases a : x < 1000000000
  · rw [if_pos a, if_pos (by omega)]; omega
  · rw [if_neg a, if_neg (by omega)]
theorem far_e {c m M : gC} {b : Nat} (h : TT2 c m M b) (hb : M b = c b) {n : Int} (hn : 0 ≤ n ∧ n < 10) : far m n (c b 0) = cv (mfa M b n) ∧ (mfa M b n < 1000000000 → mfa M b n ≤ 27450) := by
  have h0 := h.nw.1.1
  have key : ∀ k : Nat, (k : Int) ≤ c b 0 → far m n (k : Int) = cv (itI (fun k s => max s (min 1000000000 (mcw M b n k))) 0 (k : Int)) ∧ (itI (fun k s => max s (min 1000000000 (mcw M b n k))) 0 (k : Int) < 1000000000 → itI (fun k s => max s (min 1000000000 (mcw M b n k))) 0 (k : Int) ≤ 27450) := by
    intro k
    induction k with
    | zero => intro _; exact ⟨rfl, fun _ => by show (0 : Int) ≤ 27450; decide⟩
    | succ k ih =>
      intro hk
      obtain ⟨i1, i2⟩ := ih (by omega)
      obtain ⟨w1, w2⟩ := cbw_e h hb hn (t := (k : Int)) (by omega)
      have w3 : min 1000000000 (mcw M b n (k : Int)) < 1000000000 → min 1000000000 (mcw M b n (k : Int)) ≤ 27450 := fun e => by
        have := w2 (by omega)
        omega
      unfold far at i1 ⊢
      rw [show ((k + 1 : Nat) : Int) = (k : Int) + 1 by omega, itI_s _ _ (by omega), itI_s _ _ (by omega), i1, w1, ← cv_min (x := mcw M b n (k : Int)), cv_max i2 w3]
      exact ⟨rfl, fun e => by omega⟩
  have q := key (c b 0).toNat (by omega)
  rw [show (((c b 0).toNat : Nat) : Int) = c b 0 by omega] at q
  unfold mfa
  rw [show M b 0 = c b 0 by rw [hb]]
  exact q
