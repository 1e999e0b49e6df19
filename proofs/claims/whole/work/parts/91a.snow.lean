/-! snow: what both sides say of it is the same -/
theorem mskI_congr {p q : Int → Bool} {n : Int} (h : ∀ a : Int, 0 ≤ a → a < n → p a = q a) : mskI p n = mskI q n := by
  unfold mskI
  exact msk_congr fun k hk => h _ (by omega) (by omega)
section
variable {c m : gC} {k w b : Nat}
theorem req_e (h : NN c k m b) (hV : NW m b) (z : Int) : mskI (fun a => hA c k a && decide (cl c k a ≤ z)) 24 = mrq m b z := by
  refine mskI_congr fun a a0 a1 => ?_
  rw [NN_hA h]
  cases e : mhA m b a with
  | false => rfl
  | true => rw [(NN_ln h hV e).2]
theorem arcs_e (h : NN c k m b) (hV : NW m b) : mskI (fun a => hA c k a && decide (cl c k a ≤ 3)) 24 = mskI (mhA m b) 24 := by
  refine mskI_congr fun a a0 a1 => ?_
  rw [NN_hA h]
  cases e : mhA m b a with
  | false => rfl
  | true =>
    rw [(NN_ln h hV e).2, decide_eq_true (mcl_rg hV ⟨a0, a1⟩).2]
    rfl
theorem tb_req {z a : Int} (ha : I24 a) (h : tb (mrq m b z) a = true) : mhA m b a = true ∧ mcl m b a ≤ z := by
  unfold mrq at h
  rw [mskI_tb _ (by decide) (by decide) ha.1 (by have := ha.2; omega)] at h
  simp only [Bool.and_eq_true, decide_eq_true_eq] at h
  exact h.2
theorem tb_reqn {z a : Int} (ha : I24 a) (h : tb (mrq m b z) a = false) : ¬ (mhA m b a = true ∧ mcl m b a ≤ z) := by
  intro q
  unfold mrq at h
  rw [mskI_tb _ (by decide) (by decide) ha.1 (by have := ha.2; omega)] at h
  simp only [Bool.and_eq_false_iff, decide_eq_false_iff_not] at h
  unfold I24 at ha
  rcases h with h | h | h
  · omega
  · rw [q.1] at h; cases h
  · exact h q.2
theorem req_rg {z : Int} : 0 ≤ mrq m b z ∧ mrq m b z < 16777216 := mskI_lt _
theorem deep_e (h : NN c k m b) (hV : NW m b) (hW : VV c w m b) (z : Int) : mskI (fun a => hA c k a && decide (z < sn c w a 0)) 24 = mdq m b z := by
  refine mskI_congr fun a a0 a1 => ?_
  rw [NN_hA h]
  cases e : mhA m b a with
  | false => rfl
  | true =>
    have := VV_sn (k := k) hW hV e 0
    rw [Int.add_zero] at this
    rw [this]
theorem deepest_e (hV : NW m b) (hW : VV c w m b) {B : Int} (hR : WW m b B) {q t : Int} (hq : ∀ a, I24 a → tb q a = true → mhA m b a = true) : (am1 1 (fun a => if tb q a = true then -sn c w a t else 1) 24).1 = itI (dbf m b q (m b 5 + t)) (-1) 24 := by
  have key : ∀ i : Nat, i ≤ 24 → ((am1 1 (fun a => if tb q a = true then -sn c w a t else 1) (i : Int)).1 = itI (dbf m b q (m b 5 + t)) (-1) (i : Int)) ∧ ((itI (dbf m b q (m b 5 + t)) (-1) (i : Int) = -1 ∧ (am1 1 (fun a => if tb q a = true then -sn c w a t else 1) (i : Int)).2 = 1) ∨ (¬ itI (dbf m b q (m b 5 + t)) (-1) (i : Int) = -1 ∧ (am1 1 (fun a => if tb q a = true then -sn c w a t else 1) (i : Int)).2 = -msn m b (itI (dbf m b q (m b 5 + t)) (-1) (i : Int)) (m b 5 + t))) := by
    intro i
    induction i with
    | zero => intro _; exact ⟨rfl, Or.inl ⟨rfl, rfl⟩⟩
    | succ i ih =>
      intro hi
      obtain ⟨i1, i2⟩ := ih (by omega)
      have hI : I24 (i : Int) := ⟨by omega, by omega⟩
      rw [show ((i + 1 : Nat) : Int) = (i : Int) + 1 by omega, itI_s _ _ (by omega)]
      generalize itI (dbf m b q (m b 5 + t)) (-1) (i : Int) = x at *
      cases e : tb q (i : Int) with
      | false =>
        rw [dbf_a e, am1_ge (by omega) (by rw [e, if_neg (by decide)]; have := am1_le (B := 1) (f := fun a => if tb q a = true then -sn c w a t else 1) (n := (i : Int)) (by omega); omega)]
        exact ⟨i1, i2⟩
      | true =>
        have ha := hq _ hI e
        have hs := VV_sn (k := w) hW hV ha t
        have hr := msn_rg (t := m b 5 + t) hR hI
        rcases i2 with ⟨j1, j2⟩ | ⟨j1, j2⟩
        · rw [dbf_b e (Or.inl j1), am1_lt (by omega) (by rw [e, if_pos rfl, j2, hs]; omega), e, if_pos rfl, hs]
          exact ⟨rfl, Or.inr ⟨by omega, rfl⟩⟩
        · by_cases e2 : msn m b x (m b 5 + t) < msn m b (i : Int) (m b 5 + t)
          · rw [dbf_b e (Or.inr e2), am1_lt (by omega) (by rw [e, if_pos rfl, j2, hs]; omega), e, if_pos rfl, hs]
            exact ⟨rfl, Or.inr ⟨by omega, rfl⟩⟩
          · rw [dbf_c j1 e2, am1_ge (by omega) (by rw [e, if_pos rfl, j2, hs]; omega)]
            exact ⟨i1, Or.inr ⟨j1, j2⟩⟩
  exact (key 24 (by decide)).1
end
theorem su_ar {d t T r p x : Int} (hr : 1 ≤ r) (hd : d < p) : p ≤ d + r * max 0 (T + x - t) / 3600 ↔ t + ((p - d) * 3600 + r - 1) / r - T ≤ x := by
  have e1 : p ≤ d + r * max 0 (T + x - t) / 3600 ↔ (p - d) * 3600 ≤ r * max 0 (T + x - t) := by
    rw [← Int.le_ediv_iff_mul_le (by decide)]
    omega
  have e2 : t + ((p - d) * 3600 + r - 1) / r - T ≤ x ↔ (p - d) * 3600 ≤ r * (T + x - t) := by
    have : ((p - d) * 3600 + r - 1) / r < T + x - t + 1 ↔ (p - d) * 3600 + r - 1 < (T + x - t + 1) * r := Int.ediv_lt_iff_lt_mul (by omega)
    rw [Int.add_mul, Int.one_mul, Int.mul_comm (T + x - t) r] at this
    omega
  rw [e1, e2]
  by_cases q : 0 ≤ T + x - t
  · rw [Int.max_eq_right q]
  · have h1 : r * (T + x - t) ≤ 0 := Int.mul_nonpos_of_nonneg_of_nonpos (by omega) (by omega)
    rw [Int.max_eq_left (by omega), Int.mul_zero]
    omega
/-- SECONDS UNTIL A DEPTH: the class's formula is what the reference finds by halving -/
theorem su_e {c m : gC} {w : Nat} {B : Int} (hV : NW m 200000) (hW : VV c w m 200000) (hR : WW m 200000 B) {a p : Int} (ha : mhA m 200000 a = true) (hp : 0 ≤ p ∧ p ≤ 2000) : su c w a p = if 1000000 < mfs m a p then -1 else mfs m a p := by
  obtain ⟨s1, s2⟩ := mfs_spec (a := a) (p := p) hR
  obtain ⟨w1, w2, w3⟩ := hW.2.2 a ha
  have w4 := hW.1.1.1
  have w7 := hW.1.2.2.2
  have hs := fun x => VV_sn (k := w) hW hV ha x
  have hr := hR.1.2
  generalize mfs m a p = q at *
  have hm : ∀ x, msn m 200000 a (m 200000 5 + x) = min 2000 (m 200000 (136 + 3 * a) + m 200000 4 * max 0 (m 200000 5 + x - m 200000 (136 + 3 * a + 1)) / 3600) := fun x => by
    unfold msn
    rw [Int.add_zero]
  unfold su
  rw [hs 0, w2, w3, w4, w7]
  by_cases h0 : p ≤ msn m 200000 a (m 200000 5 + 0)
  · have := (s2 0 (by omega) (by omega)).1 h0
    rw [if_pos h0, if_neg (by omega)]
    omega
  · rw [if_neg h0]
    have hnn : ∀ x, 0 ≤ m 200000 4 * max 0 (m 200000 5 + x - m 200000 (136 + 3 * a + 1)) / 3600 := fun x => Int.ediv_nonneg (Int.mul_nonneg (by omega) (Int.le_max_left _ _)) (by decide)
    have hd : m 200000 (136 + 3 * a) < p := by
      rw [hm 0] at h0
      have := hnn 0
      omega
    by_cases h1 : m 200000 4 ≤ 0
    · rw [if_pos h1]
      have hz : m 200000 4 = 0 := by omega
      by_cases h2 : q < 1000001
      · have := (s2 q s1.1 h2).2 (Int.le_refl _)
        rw [hm, hz, Int.zero_mul] at this
        omega
      · rw [if_pos (by omega)]
    · rw [if_neg h1]
      have key : ∀ x, 0 ≤ x → x < 1000001 → (q ≤ x ↔ m 200000 (136 + 3 * a + 1) + ((p - m 200000 (136 + 3 * a)) * 3600 + m 200000 4 - 1) / m 200000 4 - m 200000 5 ≤ x) := fun x x0 x1 => by
        rw [← s2 x x0 x1, ← su_ar (T := m 200000 5) (x := x) (by omega) hd, hm]
        omega
      generalize m 200000 (136 + 3 * a + 1) + ((p - m 200000 (136 + 3 * a)) * 3600 + m 200000 4 - 1) / m 200000 4 - m 200000 5 = X at *
      have k0 := key 0 (by omega) (by omega)
      have k1 := s2 0 (by omega) (by omega)
      have k2 : 0 < q := by
        refine Classical.byContradiction fun z => h0 (k1.2 (by omega))
      have k3 : 0 < X := by omega
      by_cases h2 : 1000000 < X
      · have := key 1000000 (by omega) (by omega)
        rw [if_pos h2, if_pos (by omega)]
      · have a1 := key X (by omega) (by omega)
        have a2 := key (X - 1) (by omega) (by omega)
        rw [if_neg h2, if_neg (by omega)]
        omega
