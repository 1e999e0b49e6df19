/-! the plans' tables: what stands in them -/
theorem idx_lt {s S K x : Int} (h : s < S) (hx : x < K) (hK : 0 ≤ K) : s * K + x < S * K := by
  have h1 : (s + 1) * K ≤ S * K := Int.mul_le_mul_of_nonneg_right (by omega) hK
  rw [Int.add_mul, Int.one_mul] at h1
  omega
theorem bst_loc {c m : gC} {R : Nat} {l s : Int} (hR : R = 100051 ∨ 400000 ≤ R ∧ R < 500000) (hf : ∀ k : Nat, ¬ k = R → ∀ j, m k j = c k j) (h : ∀ x, 0 ≤ x → x < c 100044 8 → tb s x = true → m R (clr s x * c 100044 8 + x) = c R (clr s x * c 100044 8 + x)) : bst m R l s = bst c R l s := by
  have h1 : ∀ a p, cbh m a p = cbh c a p := fun a p => cbh_cg (hf 100028 (by omega)) a p
  unfold bst
  by_cases e : s = 0
  · rw [if_pos e, if_pos e, h1, hf 100049 (by omega), hf 100014 (by omega)]
  · rw [if_neg e, if_neg e, hf 100044 (by omega)]
    refine itI_c2 fun j j0 j1 a => ?_
    unfold bsf
    cases q : tb s j with
    | false => rw [if_neg (by decide), if_neg (by decide)]
    | true =>
      rw [if_pos rfl, if_pos rfl]
      unfold ctr
      rw [h1, hf 100049 (by omega), hf 100049 (by omega), hf 100050 (by omega), hf 100044 (by omega), h j j0 j1 q]
theorem fil_rec {c : gC} {R : Nat} (hR : R = 100051 ∨ 400000 ≤ R ∧ R < 500000) (hK : 0 ≤ c 100044 8 ∧ c 100044 8 ≤ 12) : (∀ k : Nat, ¬ k = R → ∀ j, fil c R k j = c k j) ∧ ∀ s x, SK (c 100044 8) s → 0 ≤ x → x < c 100044 8 → tb s x = false → fil c R R (s * c 100044 8 + x) = bst (fil c R) R x s := by
  have hS := shl_rg hK
  have key := itI_inv3 (f := fio c R) (x := c) (fun S (m : gC) => (∀ k : Nat, ¬ k = R → ∀ j, m k j = c k j) ∧ ∀ s x, 0 ≤ s → s < S → 0 ≤ x → x < c 100044 8 → tb s x = false → m R (s * c 100044 8 + x) = bst m R x s) (N := zshl 1 (c 100044 8)) ⟨fun _ _ _ => rfl, fun s x a d => by omega⟩ (fun S m S0 S1 hm => ?_) (k := zshl 1 (c 100044 8)) (by omega) (Int.le_refl _)
  · exact ⟨key.1, fun s x hs a d e => key.2 s x hs.1 hs.2 a d e⟩
  · obtain ⟨m1, m2⟩ := hm
    have e8 : m 100044 8 = c 100044 8 := m1 100044 (by omega) 8
    have inner := itI_inv3 (f := fii c R S) (x := m) (fun X (t : gC) => (∀ k : Nat, ¬ k = R → ∀ j, t k j = m k j) ∧ (∀ j, (j < S * c 100044 8 ∨ S * c 100044 8 + c 100044 8 ≤ j) → t R j = m R j) ∧ ∀ x, 0 ≤ x → x < X → tb S x = false → t R (S * c 100044 8 + x) = bst m R x S) (N := c 100044 8) ⟨fun _ _ _ => rfl, fun _ _ => rfl, fun x a d => by omega⟩ (fun X t X0 X1 ht => ?_) (k := c 100044 8) hK.1 (Int.le_refl _)
    · obtain ⟨t1, t2, t3⟩ := inner
      have tm : ∀ k : Nat, ¬ k = R → ∀ j, fio c R S m k j = m k j := t1
      have lo : ∀ (l s : Int), 0 ≤ s → s ≤ S → bst (fio c R S m) R l s = bst m R l s := fun l s s0 s1 => bst_loc hR tm fun x x0 x1 hx => t2 _ (Or.inl (by
        rw [e8] at x1 ⊢
        exact idx_lt (Int.lt_of_lt_of_le (clr_lt (by omega) (by omega) hx) s1) x1 hK.1))
      refine ⟨fun k hk j => (t1 k hk j).trans (m1 k hk j), fun s x s0 s1 x0 x1 hx => ?_⟩
      by_cases e : s = S
      · rw [e] at hx ⊢
        rw [lo x S S0 (Int.le_refl _)]
        exact t3 x x0 x1 hx
      · rw [lo x s s0 (by omega), ← m2 s x s0 (by omega) x0 x1 hx]
        exact t2 _ (Or.inl (idx_lt (by omega) x1 hK.1))
    · obtain ⟨t1, t2, t3⟩ := ht
      cases q : tb S X with
      | true =>
        rw [fii_t q]
        refine ⟨t1, t2, fun x x0 x1 hx => ?_⟩
        by_cases e : x = X
        · rw [e, q] at hx; cases hx
        · exact t3 x x0 (by omega) hx
      | false =>
        have e8 : t 100044 8 = c 100044 8 := (t1 100044 (by omega) 8).trans e8
        have lo : bst t R X S = bst m R X S := bst_loc hR t1 fun x x0 x1 hx => t2 _ (Or.inl (by
          rw [m1 100044 (by omega) 8] at x1 ⊢
          exact idx_lt (clr_lt (by omega) (by omega) hx) x1 hK.1))
        rw [fii_f q, lo]
        refine ⟨fun k hk j => by rw [gu_k hk]; exact t1 k hk j, fun j hj => ?_, fun x x0 x1 hx => ?_⟩
        · rw [gu_j (by omega)]; exact t2 j hj
        · by_cases e : x = X
          · rw [e, gu_s]
          · rw [gu_j (by omega)]; exact t3 x x0 (by omega) hx
theorem lpx_loc {m m' : gC} {b : Nat} {all s l n : Int} (hb : ¬ b = 200006) (hf : ∀ k : Nat, ¬ k = 200006 → m' k = m k) (h : ∀ x, 0 ≤ x → x < n → tb s x = false → mro2 m' (zor s (zshl 1 x)) x = mro2 m (zor s (zshl 1 x)) x) : lpx m' b all s l n = lpx m b all s l n := by
  have e3 := hf 200003 (by decide)
  have e5 := hf 200005 (by decide)
  have eb := hf b hb
  have ei : lpi m' b all s l = lpi m b all s l := by
    unfold lpi
    rw [e5, men_o eb, mtn_o eb e3, eb]
  unfold lpx
  rw [ei]
  refine itI_c2 fun j j0 j1 a => ?_
  cases q : tb s j with
  | true => rw [lpf_t q, lpf_t q]
  | false =>
    rw [lpf_f q, lpf_f q]
    unfold mrb
    rw [e5, mle_o e3, h j j0 j1 q]
theorem mro2_gu {m : gC} {s l s' l' v : Int} (hl : 0 ≤ l ∧ l < 12) (hl' : 0 ≤ l' ∧ l' < 12) : mro2 (gu m 200006 (12 * s + l) v) s' l' = if s' = s ∧ l' = l then v else mro2 m s' l' := by
  unfold mro2
  rw [gu_v]
  by_cases e : s' = s ∧ l' = l
  · rw [if_pos (by omega), if_pos e]
  · rw [if_neg (by omega), if_neg e]
theorem lq3_rec {m : gC} {b : Nat} {n : Int} (hn : 0 ≤ n ∧ n ≤ 12) (hb : ¬ b = 200006) : (∀ k : Nat, ¬ k = 200006 → lq3 b n (zshl 1 n - 1) (zshl 1 n - 1) m k = m k) ∧ ∀ s l, SK n s → 1 ≤ s → 0 ≤ l → l < n → tb s l = true → mro2 (lq3 b n (zshl 1 n - 1) (zshl 1 n - 1) m) s l = min 1000000000 (lpx (lq3 b n (zshl 1 n - 1) (zshl 1 n - 1) m) b (zshl 1 n - 1) s l n) := by
  have hS := shl_rg hn
  generalize hall : zshl 1 n - 1 = all
  have key := itI_inv3 (f := fun j m => lq2 b n all (all - j) n m) (x := m) (fun i (t : gC) => (∀ k : Nat, ¬ k = 200006 → t k = m k) ∧ ∀ s l, SK n s → all - i < s → 0 ≤ l → l < n → tb s l = true → mro2 t s l = min 1000000000 (lpx t b all s l n)) (N := all) ⟨fun _ _ => rfl, fun s l hs h => by unfold SK at hs; omega⟩ (fun j t j0 j1 ht => ?_) (k := all) (by omega) (Int.le_refl _)
  · exact ⟨key.1, fun s l hs h1 l0 l1 hl => key.2 s l hs (by omega) l0 l1 hl⟩
  · obtain ⟨t1, t2⟩ := ht
    try dsimp only
    have hSS : SK n (all - j) := ⟨by omega, by omega⟩
    generalize hSj : all - j = S at *
    have inner := itI_inv3 (f := lq1 b n all S) (x := t) (fun X (u : gC) => (∀ k : Nat, ¬ k = 200006 → u k = t k) ∧ (∀ s l, ¬ s = S → 0 ≤ l → l < n → mro2 u s l = mro2 t s l) ∧ ∀ l, 0 ≤ l → l < X → tb S l = true → mro2 u S l = min 1000000000 (lpx t b all S l n)) (N := n) ⟨fun _ _ => rfl, fun _ _ _ _ _ => rfl, fun l a d => by omega⟩ (fun X u X0 X1 hu => ?_) (k := n) hn.1 (Int.le_refl _)
    · obtain ⟨u1, u2, u3⟩ := inner
      change (∀ k : Nat, ¬ k = 200006 → lq2 b n all S n t k = t k) at u1
      change (∀ s l, ¬ s = S → 0 ≤ l → l < n → mro2 (lq2 b n all S n t) s l = mro2 t s l) at u2
      change (∀ l, 0 ≤ l → l < n → tb S l = true → mro2 (lq2 b n all S n t) S l = min 1000000000 (lpx t b all S l n)) at u3
      have lo : ∀ s l, SK n s → S ≤ s → lpx (lq2 b n all S n t) b all s l n = lpx t b all s l n := fun s l hs h => lpx_loc hb u1 fun x x0 x1 hx => u2 _ _ (by
        have := zor_gt hn hs ⟨x0, x1⟩ hx
        omega) x0 x1
      refine ⟨fun k hk => (u1 k hk).trans (t1 k hk), fun s l hs h l0 l1 hl => ?_⟩
      by_cases e : s = S
      · rw [e] at hl ⊢
        rw [lo S l hSS (Int.le_refl _)]
        exact u3 l l0 l1 hl
      · rw [lo s l hs (by omega), u2 s l e l0 l1]
        exact t2 s l hs (by omega) l0 l1 hl
    · obtain ⟨u1, u2, u3⟩ := hu
      cases q : tb S X with
      | false =>
        rw [lq1_f q]
        refine ⟨u1, u2, fun l l0 l1 hl => ?_⟩
        by_cases e : l = X
        · rw [e, q] at hl; cases hl
        · exact u3 l l0 (by omega) hl
      | true =>
        have lo : lpx u b all S X n = lpx t b all S X n := lpx_loc hb u1 fun x x0 x1 hx => u2 _ _ (by
          have := zor_gt hn hSS ⟨x0, x1⟩ hx
          omega) x0 x1
        rw [lq1_t q, lo]
        refine ⟨fun k hk => funext fun i => by rw [gu_k hk, u1 k hk], fun s l hs l0 l1 => ?_, fun l l0 l1 hl => ?_⟩
        · rw [mro2_gu (by omega) (by omega), if_neg (fun w => hs w.1)]
          exact u2 s l hs l0 l1
        · rw [mro2_gu (by omega) (by omega)]
          by_cases e : l = X
          · rw [if_pos ⟨rfl, e⟩, e]
          · rw [if_neg (fun w => e w.2)]
            exact u3 l l0 (by omega) hl
