/-! the law's case: bytes appended -/
theorem zi2b_bm (a : Int) : zi2b a = a.bmod 256 := by
  unfold zi2b
  rw [Int8.toInt_toInt32, Int32.toInt_toInt8, Int32.toInt_ofInt]
  exact Int.bmod_bmod_of_dvd (by decide)
theorem bm_cg {x y : Int} (h : x % 256 = y % 256) : x.bmod 256 = y.bmod 256 := by
  unfold Int.bmod
  simp only [show ((256 : Nat) : Int) = 256 from rfl, h]
theorem zushr_z {a : Int} {k : Nat} (hk : k < 32) : zushr a (k : Int) = (((a % 4294967296).toNat / 2 ^ k : Nat) : Int).bmod 4294967296 := by
  have h2 : (Int32.ofInt a).toUInt32.toNat = (a % 4294967296).toNat := by
    show (BitVec.ofInt 32 a).toNat = _
    rw [BitVec.toNat_ofInt]
    rfl
  have e2 : ((Int32.ofInt (k : Int)).toUInt32 &&& Int32.toUInt32 31).toNat = k := by
    have : ∀ k : Nat, k < 32 → ((Int32.ofInt (k : Int)).toUInt32 &&& Int32.toUInt32 31).toNat = k := by decide +kernel
    exact this k hk
  have h : ((Int32.ofInt a).toUInt32 >>> ((Int32.ofInt (k : Int)).toUInt32 &&& Int32.toUInt32 31)).toInt32.toBitVec.toNat = (a % 4294967296).toNat / 2 ^ k := by
    show ((Int32.ofInt a).toUInt32 >>> ((Int32.ofInt (k : Int)).toUInt32 &&& Int32.toUInt32 31)).toNat = _
    rw [UInt32.toNat_shiftRight, h2, e2, Nat.mod_eq_of_lt hk, Nat.shiftRight_eq_div_pow]
  unfold zushr
  show (((Int32.ofInt a).toUInt32 >>> ((Int32.ofInt (k : Int)).toUInt32 &&& Int32.toUInt32 31)).toInt32).toBitVec.toInt = _
  rw [BitVec.toInt_eq_toNat_bmod, h]
theorem byte_e {a : Int} (ha : -2147483648 ≤ a ∧ a < 2147483648) : zi2b (zushr a 24) = zi2b (zshr a 24) ∧ zi2b (zushr a 16) = zi2b (zshr a 16) ∧ zi2b (zushr a 8) = zi2b (zshr a 8) := by
  have u1 := zushr_z (a := a) (k := 24) (by decide)
  have u2 := zushr_z (a := a) (k := 16) (by decide)
  have u3 := zushr_z (a := a) (k := 8) (by decide)
  have v1 := zshr_of ha (n := 24) (by decide)
  have v2 := zshr_of ha (n := 16) (by decide)
  have v3 := zshr_of ha (n := 8) (by decide)
  rw [show ((24 : Nat) : Int) = 24 from rfl] at u1 v1
  rw [show ((16 : Nat) : Int) = 16 from rfl] at u2 v2
  rw [show ((8 : Nat) : Int) = 8 from rfl] at u3 v3
  rw [u1, u2, u3, v1, v2, v3]
  simp only [zi2b_bm]
  rw [Int.bmod_bmod_of_dvd (by decide), Int.bmod_bmod_of_dvd (by decide), Int.bmod_bmod_of_dvd (by decide)]
  refine ⟨bm_cg ?_, bm_cg ?_, bm_cg ?_⟩
  · rw [show (2 : Nat) ^ 24 = 16777216 from rfl, show (2 : Int) ^ 24 = 16777216 from rfl]; omega
  · rw [show (2 : Nat) ^ 16 = 65536 from rfl, show (2 : Int) ^ 16 = 65536 from rfl]; omega
  · rw [show (2 : Nat) ^ 8 = 256 from rfl, show (2 : Int) ^ 8 = 256 from rfl]; omega
/-- the bytes put in so far -/
def IOR (x y : gC) (n : Int) : Prop := x 100000 1 = n ∧ y 500001 15 = n ∧ ∀ k, 0 ≤ k → k < n → x 100001 k = y 200009 k ∧ -128 ≤ x 100001 k ∧ x 100001 k < 128
theorem IOR_s {x y : gC} {n v w s : Int} (h : IOR x y n) (h0 : 0 ≤ n ∧ n < 1200) (e : zi2b v = zi2b (zshr w s)) : IOR (put x 100000 v) (ap1 w s y) (n + 1) := by
  obtain ⟨a, b, d⟩ := h
  unfold put
  rw [if_pos (by omega), show (100000 : Nat) + 1 = 100001 from rfl]
  unfold ap1
  refine ⟨by rw [gu_s, a], by rw [gu_s, b], fun k k0 k1 => ?_⟩
  rw [gu_k (k := 100000) (k' := 100001) (by decide), gu_k (k := 500001) (k' := 200009) (by decide), a, b]
  by_cases q : k = n
  · subst q
    rw [gu_s, gu_s, e]
    exact ⟨rfl, zi2b_rg _⟩
  · rw [gu_j q, gu_j q]
    exact d k k0 (by omega)
theorem IOR_4 {x y : gC} {n v : Int} (h : IOR x y n) (h0 : 0 ≤ n ∧ n + 4 ≤ 1200) (hv : -2147483648 ≤ v ∧ v < 2147483648) : IOR (pin x 100000 v) (ap4 y v) (n + 4) := by
  obtain ⟨b1, b2, b3⟩ := byte_e hv
  have e4 : ap4 y v = ap1 v 0 (ap1 v 8 (ap1 v 16 (ap1 v 24 y))) := by
    unfold ap4
    rw [show (4 : Int) = 0 + 1 + 1 + 1 + 1 from rfl, itI_s _ _ (by decide), itI_s _ _ (by decide), itI_s _ _ (by decide), itI_s _ _ (by decide), itI_0]
    rfl
  rw [e4]
  unfold pin
  have s1 := IOR_s (w := v) (s := 24) (v := zushr v 24) h (by omega) b1
  have s2 := IOR_s (w := v) (s := 16) (v := zushr v 16) s1 (by omega) b2
  have s3 := IOR_s (w := v) (s := 8) (v := zushr v 8) s2 (by omega) b3
  have s4 := IOR_s (w := v) (s := 0) (v := v) s3 (by omega) (by rw [zshr_0 hv])
  rw [show n + 4 = n + 1 + 1 + 1 + 1 by omega]
  exact s4
theorem ap4_5 {y : gC} {v j : Int} (hj : ¬ j = 15) : ap4 y v 500001 j = y 500001 j := by
  unfold ap4
  exact itI_inv (fun m : gC => m 500001 j = y 500001 j) rfl (fun i m hm => by
    unfold ap1
    rw [gu_j hj, gu_k (by decide)]
    exact hm) _
theorem ap4_9 {y : gC} {v : Int} (h : ∀ k, 0 ≤ k → k < 1200 → -128 ≤ y 200009 k ∧ y 200009 k < 128) : ∀ k, 0 ≤ k → k < 1200 → -128 ≤ ap4 y v 200009 k ∧ ap4 y v 200009 k < 128 := by
  unfold ap4
  exact itI_inv (fun m : gC => ∀ k, 0 ≤ k → k < 1200 → -128 ≤ m 200009 k ∧ m 200009 k < 128) h (fun i m hm k k0 k1 => by
    unfold ap1
    rw [gu_k (by decide)]
    unfold gu
    split
    · exact zi2b_rg _
    · exact hm k k0 k1) _
