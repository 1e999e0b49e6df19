/-! Integer.bitCount counts the bits of a set of arcs -/
theorem ofN {n : Nat} (h : n < 2147483648) : (Int32.ofInt (n : Int)).toBitVec.toNat = n := by
  have h1 : (Int32.ofInt (n : Int)).toInt = (n : Int) := Int32.toInt_ofInt_of_le (by omega) (by omega)
  have h3 : (Int32.ofInt (n : Int)).toBitVec.toInt = (n : Int) := h1
  rw [BitVec.toInt_eq_toNat_cond] at h3
  split at h3 <;> omega
theorem zand_N {a b : Nat} (ha : a < 2147483648) (hb : b < 2147483648) : zand (a : Int) (b : Int) = ((a &&& b : Nat) : Int) := by
  have h : (Int32.ofInt (a : Int) &&& Int32.ofInt (b : Int)).toBitVec.toNat = a &&& b := by
    rw [Int32.toBitVec_and, BitVec.toNat_and, ofN ha, ofN hb]
  have h2 : a &&& b ≤ a := Nat.and_le_left
  unfold zand
  show (Int32.ofInt (a : Int) &&& Int32.ofInt (b : Int)).toBitVec.toInt = _
  rw [BitVec.toInt_eq_toNat_cond, h]
  split <;> omega
theorem zushr_N {a : Nat} (ha : a < 2147483648) {k : Nat} (hk : k < 32) : zushr (a : Int) (k : Int) = ((a / 2 ^ k : Nat) : Int) := by
  have h : ((Int32.ofInt (a : Int)).toUInt32 >>> ((Int32.ofInt (k : Int)).toUInt32 &&& Int32.toUInt32 31)).toInt32.toBitVec.toNat = a / 2 ^ k := by
    have e1 : (Int32.ofInt (a : Int)).toUInt32.toNat = a := ofN ha
    have e2 : ((Int32.ofInt (k : Int)).toUInt32 &&& Int32.toUInt32 31).toNat = k := by
      have : ∀ k : Nat, k < 32 → ((Int32.ofInt (k : Int)).toUInt32 &&& Int32.toUInt32 31).toNat = k := by decide +kernel
      exact this k hk
    show ((Int32.ofInt (a : Int)).toUInt32 >>> ((Int32.ofInt (k : Int)).toUInt32 &&& Int32.toUInt32 31)).toNat = _
    rw [UInt32.toNat_shiftRight, e1, e2, Nat.mod_eq_of_lt hk, Nat.shiftRight_eq_div_pow]
  have h2 : a / 2 ^ k ≤ a := Nat.div_le_self _ _
  unfold zushr
  show (((Int32.ofInt (a : Int)).toUInt32 >>> ((Int32.ofInt (k : Int)).toUInt32 &&& Int32.toUInt32 31)).toInt32).toBitVec.toInt = _
  rw [BitVec.toInt_eq_toNat_cond, h]
  split <;> omega
theorem and256 {x y m M : Nat} (hx : x < 256) (hm : m < 256) : (256 * y + x) &&& (256 * M + m) = 256 * (y &&& M) + (x &&& m) := by
  refine Nat.eq_of_testBit_eq fun i => ?_
  have h : x &&& m < 2 ^ 8 := Nat.lt_of_le_of_lt Nat.and_le_left hx
  have e1 := Nat.testBit_two_pow_mul_add y (b := x) (i := 8) hx i
  have e2 := Nat.testBit_two_pow_mul_add M (b := m) (i := 8) hm i
  have e3 := Nat.testBit_two_pow_mul_add (y &&& M) (b := x &&& m) (i := 8) h i
  rw [show (2 : Nat) ^ 8 = 256 from rfl] at e1 e2 e3
  rw [Nat.testBit_and, e1, e2, e3]
  split
  · rw [Nat.testBit_and]
  · rw [Nat.testBit_and]
def pa8 (x : Nat) : Nat := x - (x / 2 &&& 85)
def pb8 (x : Nat) : Nat := (x &&& 51) + (x / 4 &&& 51)
def pe8 (x : Nat) : Nat := (x + x / 16) &&& 15
theorem p8_ok : ∀ x : Nat, x < 256 → (∀ p : Nat, p < 2 → (x / 2 + 128 * p) &&& 85 = x / 2 &&& 85) ∧ (x / 2 &&& 85) ≤ x ∧ pa8 x < 256 ∧ (∀ p : Nat, p < 4 → (pa8 x / 4 + 64 * p) &&& 51 = pa8 x / 4 &&& 51) ∧ pb8 (pa8 x) < 69 ∧ (∀ p : Nat, p < 16 → (pb8 (pa8 x) + pb8 (pa8 x) / 16 + 16 * p) &&& 15 = pe8 (pb8 (pa8 x))) ∧ pe8 (pb8 (pa8 x)) < 9 ∧ pb8 (pa8 x) % 16 ≤ 4 ∧ ((pe8 (pb8 (pa8 x)) : Nat) : Int) = cnt (tb (x : Int)) 8 := by decide +kernel
theorem pa_s {x r M : Nat} (hx : x < 256) : (256 * r + x) / 2 &&& (256 * M + 85) = 256 * (r / 2 &&& M) + (x / 2 &&& 85) := by
  rw [show (256 * r + x) / 2 = 256 * (r / 2) + (x / 2 + 128 * (r % 2)) by omega, and256 (by omega) (by decide), (p8_ok x hx).1 (r % 2) (by omega)]
theorem pb_s {x r M : Nat} (hx : x < 256) : ((256 * r + pa8 x) &&& (256 * M + 51)) + ((256 * r + pa8 x) / 4 &&& (256 * M + 51)) = 256 * ((r &&& M) + (r / 4 &&& M)) + pb8 (pa8 x) := by
  have h := p8_ok x hx
  have h3 := h.2.2.1
  rw [show (256 * r + pa8 x) / 4 = 256 * (r / 4) + (pa8 x / 4 + 64 * (r % 4)) by omega, and256 (by omega) (by decide), and256 (by omega) (by decide), h.2.2.2.1 (r % 4) (by omega)]
  unfold pb8
  omega
theorem pe_s {x r M : Nat} (hx : x < 256) (hr : r % 16 ≤ 4) : (256 * r + pb8 (pa8 x) + (256 * r + pb8 (pa8 x)) / 16) &&& (256 * M + 15) = 256 * ((r + r / 16) &&& M) + pe8 (pb8 (pa8 x)) := by
  have h := p8_ok x hx
  have h5 := h.2.2.2.2.1
  rw [show 256 * r + pb8 (pa8 x) + (256 * r + pb8 (pa8 x)) / 16 = 256 * (r + r / 16) + (pb8 (pa8 x) + pb8 (pa8 x) / 16 + 16 * (r % 16)) by omega, and256 (by omega) (by decide), h.2.2.2.2.2.1 (r % 16) (by omega)]
theorem cnt_add {f : Int → Bool} {n : Int} (h0 : 0 ≤ n) : ∀ m : Nat, cnt f (n + (m : Int)) = cnt f n + cnt (fun e => f (n + e)) (m : Int) := by
  intro m
  induction m with
  | zero =>
    rw [show n + ((0 : Nat) : Int) = n by omega]
    have : cnt (fun e => f (n + e)) ((0 : Nat) : Int) = 0 := rfl
    omega
  | succ m ih =>
    rw [show n + ((m + 1 : Nat) : Int) = n + (m : Int) + 1 by omega, cnt_s (by omega), show ((m + 1 : Nat) : Int) = (m : Int) + 1 by omega, cnt_s (by omega), ih]
    split <;> omega
theorem cnt_cg {f g : Int → Bool} {n : Int} (h : ∀ e, 0 ≤ e → e < n → f e = g e) : cnt f n = cnt g n := by
  unfold cnt
  exact itI_c2 fun j j0 j1 s => by rw [h j j0 j1]
theorem tb_dv {z : Nat} (hz : z < 16777216) {k e : Nat} (h : k + e < 32) : tb (z : Int) ((k : Int) + (e : Int)) = tb ((z / 2 ^ k : Nat) : Int) (e : Int) := by
  have h2 : z / 2 ^ k ≤ z := Nat.div_le_self _ _
  have e1 := zshr_of (a := (z : Int)) (by omega) (n := k + e) h
  have hz2 : -2147483648 ≤ ((z / 2 ^ k : Nat) : Int) ∧ ((z / 2 ^ k : Nat) : Int) < 2147483648 := by
    generalize z / 2 ^ k = y at h2 ⊢
    omega
  have e2 := zshr_of (a := ((z / 2 ^ k : Nat) : Int)) hz2 (n := e) (by omega)
  unfold tb
  rw [show (k : Int) + (e : Int) = ((k + e : Nat) : Int) by omega, e1, e2]
  have e3 : (z : Int) / 2 ^ (k + e) = ((z / 2 ^ (k + e) : Nat) : Int) := by rw [Int.natCast_ediv, Int.natCast_pow]; rfl
  have e4 : ((z / 2 ^ k : Nat) : Int) / 2 ^ e = ((z / 2 ^ k / 2 ^ e : Nat) : Int) := by rw [Int.natCast_ediv (z / 2 ^ k), Int.natCast_pow]; rfl
  rw [e3, e4, Nat.div_div_eq_div_mul, ← Nat.pow_add]
theorem tb_md {z : Nat} (hz : z < 16777216) {e : Nat} (h : e < 8) : tb (z : Int) (e : Int) = tb ((z % 256 : Nat) : Int) (e : Int) := by
  have e1 := zshr_of (a := (z : Int)) (by omega) (n := e) (by omega)
  have e2 := zshr_of (a := ((z % 256 : Nat) : Int)) (by omega) (n := e) (by omega)
  have e3 : (z : Int) / 2 ^ e % 2 = ((z % 256 : Nat) : Int) / 2 ^ e % 2 := by
    rcases (show e = 0 ∨ e = 1 ∨ e = 2 ∨ e = 3 ∨ e = 4 ∨ e = 5 ∨ e = 6 ∨ e = 7 by omega) with q | q | q | q | q | q | q | q <;> subst q <;> omega
  unfold tb
  rw [e1, e2, e3]
theorem fin64 {u v w : Nat} (hu : u < 9) (hv : v < 9) (hw : w < 9) : (256 * (256 * (256 * 0 + w) + v) + u + (256 * (256 * (256 * 0 + w) + v) + u) / 2 ^ 8 + (256 * (256 * (256 * 0 + w) + v) + u + (256 * (256 * (256 * 0 + w) + v) + u) / 2 ^ 8) / 2 ^ 16) % 64 = u + v + w := by
  have d1 : (256 * (256 * (256 * 0 + w) + v) + u) / 2 ^ 8 = 256 * w + v := by omega
  rw [d1]
  have d2 : (256 * (256 * (256 * 0 + w) + v) + u + (256 * w + v)) / 2 ^ 16 = w := by omega
  rw [d2]
  omega
theorem bcn_e {q : Int} (hq : 0 ≤ q ∧ q < 16777216) : bcn q = cnt (tb q) 24 := by
  obtain ⟨n, rfl⟩ : ∃ n : Nat, q = (n : Int) := ⟨q.toNat, by omega⟩
  have hn : n < 16777216 := by omega
  -- the three bytes
  have hx : n % 256 < 256 := Nat.mod_lt _ (by decide)
  have hy : n / 256 % 256 < 256 := Nat.mod_lt _ (by decide)
  have hw : n / 65536 < 256 := by omega
  have hd : n = 256 * (256 * (256 * 0 + n / 65536) + n / 256 % 256) + n % 256 := by omega
  have c1 : cnt (tb (n : Int)) 24 = ((pe8 (pb8 (pa8 (n % 256))) : Nat) : Int) + ((pe8 (pb8 (pa8 (n / 256 % 256))) : Nat) : Int) + ((pe8 (pb8 (pa8 (n / 65536))) : Nat) : Int) := by
    have a1 := cnt_add (f := tb (n : Int)) (n := 8) (by decide) 16
    have a2 := cnt_add (f := fun e => tb (n : Int) (8 + e)) (n := 8) (by decide) 8
    rw [show (8 : Int) + ((16 : Nat) : Int) = 24 from rfl, show ((16 : Nat) : Int) = 8 + ((8 : Nat) : Int) from rfl, a2] at a1
    rw [a1, (p8_ok _ hx).2.2.2.2.2.2.2.2, (p8_ok _ hy).2.2.2.2.2.2.2.2, (p8_ok _ hw).2.2.2.2.2.2.2.2, show ((8 : Nat) : Int) = 8 from rfl]
    have b1 : cnt (tb (n : Int)) 8 = cnt (tb ((n % 256 : Nat) : Int)) 8 := cnt_cg fun e e0 e1 => by
      have := tb_md hn (e := e.toNat) (by omega)
      rwa [show (e.toNat : Int) = e by omega] at this
    have b2 : cnt (fun e => tb (n : Int) (8 + e)) 8 = cnt (tb ((n / 256 % 256 : Nat) : Int)) 8 := cnt_cg fun e e0 e1 => by
      have h1 := tb_dv hn (k := 8) (e := e.toNat) (by omega)
      have h2 := tb_md (z := n / 2 ^ 8) (by omega) (e := e.toNat) (by omega)
      rw [show (e.toNat : Int) = e by omega] at h1 h2
      rw [show ((8 : Nat) : Int) = 8 from rfl] at h1
      rw [h1, h2]
    have b3 : cnt (fun e => tb (n : Int) (8 + (8 + e))) 8 = cnt (tb ((n / 65536 : Nat) : Int)) 8 := cnt_cg fun e e0 e1 => by
      have h1 := tb_dv hn (k := 16) (e := e.toNat) (by omega)
      rw [show (e.toNat : Int) = e by omega, show ((16 : Nat) : Int) = 16 from rfl] at h1
      rw [show 8 + (8 + e) = 16 + e by omega, h1]
    rw [b1, b2, b3]
    omega
  have f1 := p8_ok _ hx
  have f2 := p8_ok _ hy
  have f3 := p8_ok _ hw
  -- step by step
  have s1 : zand (zushr (n : Int) 1) 1431655765 = ((n / 2 &&& 1431655765 : Nat) : Int) := by
    have := zushr_N (a := n) (by omega) (k := 1) (by decide)
    rw [show ((1 : Nat) : Int) = 1 from rfl] at this
    rw [this]
    exact zand_N (b := 1431655765) (by omega) (by decide)
  have s2 : n / 2 &&& 1431655765 = 256 * (256 * (256 * 0 + (n / 65536 / 2 &&& 85)) + (n / 256 % 256 / 2 &&& 85)) + (n % 256 / 2 &&& 85) := by
    have h1 := pa_s (x := n % 256) (r := 256 * (256 * 0 + n / 65536) + n / 256 % 256) (M := 5592405) hx
    have h2 := pa_s (x := n / 256 % 256) (r := 256 * 0 + n / 65536) (M := 21845) hy
    have h3 := pa_s (x := n / 65536) (r := 0) (M := 85) hw
    rw [← hd] at h1
    rw [h1, h2, h3]
    simp
  have s3 : (n : Int) - ((n / 2 &&& 1431655765 : Nat) : Int) = ((256 * (256 * (256 * 0 + pa8 (n / 65536)) + pa8 (n / 256 % 256)) + pa8 (n % 256) : Nat) : Int) := by
    rw [s2]
    unfold pa8
    have := f1.2.1
    have := f2.2.1
    have := f3.2.1
    omega
  have g1 := f1.2.2.1
  have g2 := f2.2.2.1
  have g3 := f3.2.2.1
  have h1 := f1.2.2.2.2.1
  have h2 := f2.2.2.2.2.1
  have h3 := f3.2.2.2.2.1
  have k1 := f1.2.2.2.2.2.2.1
  have k2 := f2.2.2.2.2.2.2.1
  have k3 := f3.2.2.2.2.2.2.1
  unfold bcn
  simp only []
  rw [s1, s3]
  generalize hA : 256 * (256 * (256 * 0 + pa8 (n / 65536)) + pa8 (n / 256 % 256)) + pa8 (n % 256) = A
  have hAlt : A < 16777216 := by omega
  have s4 : zand (A : Int) 858993459 + zand (zushr (A : Int) 2) 858993459 = ((256 * (256 * (256 * 0 + pb8 (pa8 (n / 65536))) + pb8 (pa8 (n / 256 % 256))) + pb8 (pa8 (n % 256)) : Nat) : Int) := by
    have e1 := zushr_N (a := A) (by omega) (k := 2) (by decide)
    rw [show ((2 : Nat) : Int) = 2 from rfl] at e1
    have e2 := zand_N (a := A) (b := 858993459) (by omega) (by decide)
    have e3 := zand_N (a := A / 2 ^ 2) (b := 858993459) (by omega) (by decide)
    rw [show ((858993459 : Nat) : Int) = 858993459 from rfl] at e2 e3
    rw [e1, e2, e3]
    have b1 := pb_s (x := n % 256) (r := 256 * (256 * 0 + pa8 (n / 65536)) + pa8 (n / 256 % 256)) (M := 3355443) hx
    have b2 := pb_s (x := n / 256 % 256) (r := 256 * 0 + pa8 (n / 65536)) (M := 13107) hy
    have b3 := pb_s (x := n / 65536) (r := 0) (M := 51) hw
    rw [hA, b2, b3] at b1
    rw [show (2 : Nat) ^ 2 = 4 from rfl, ← Int.natCast_add, b1]
    simp
  rw [s4]
  generalize hB : 256 * (256 * (256 * 0 + pb8 (pa8 (n / 65536))) + pb8 (pa8 (n / 256 % 256))) + pb8 (pa8 (n % 256)) = B
  have hBlt : B < 16777216 := by omega
  have s5 : zand ((B : Int) + zushr (B : Int) 4) 252645135 = ((256 * (256 * (256 * 0 + pe8 (pb8 (pa8 (n / 65536)))) + pe8 (pb8 (pa8 (n / 256 % 256)))) + pe8 (pb8 (pa8 (n % 256))) : Nat) : Int) := by
    have e1 := zushr_N (a := B) (by omega) (k := 4) (by decide)
    rw [show ((4 : Nat) : Int) = 4 from rfl] at e1
    have e2 := zand_N (a := B + B / 2 ^ 4) (b := 252645135) (by omega) (by decide)
    rw [show ((252645135 : Nat) : Int) = 252645135 from rfl, Int.natCast_add] at e2
    rw [e1, e2]
    have b1 := pe_s (x := n % 256) (r := 256 * (256 * 0 + pb8 (pa8 (n / 65536))) + pb8 (pa8 (n / 256 % 256))) (M := 986895) hx (by have := f2.2.2.2.2.2.2.2.1; omega)
    have b2 := pe_s (x := n / 256 % 256) (r := 256 * 0 + pb8 (pa8 (n / 65536))) (M := 3855) hy (by have := f3.2.2.2.2.2.2.2.1; omega)
    have b3 := pe_s (x := n / 65536) (r := 0) (M := 15) hw (by decide)
    rw [hB, b2, b3] at b1
    rw [show (2 : Nat) ^ 4 = 16 from rfl, b1]
    simp
  rw [s5, c1]
  generalize pe8 (pb8 (pa8 (n % 256))) = u at *
  generalize pe8 (pb8 (pa8 (n / 256 % 256))) = v at *
  generalize pe8 (pb8 (pa8 (n / 65536))) = w at *
  have e1 := zushr_N (a := 256 * (256 * (256 * 0 + w) + v) + u) (by omega) (k := 8) (by decide)
  rw [show ((8 : Nat) : Int) = 8 from rfl] at e1
  rw [e1, ← Int.natCast_add]
  have e2 := zushr_N (a := 256 * (256 * (256 * 0 + w) + v) + u + (256 * (256 * (256 * 0 + w) + v) + u) / 2 ^ 8) (by omega) (k := 16) (by decide)
  rw [show ((16 : Nat) : Int) = 16 from rfl] at e2
  rw [e2, ← Int.natCast_add]
  have e3 := zand_N (a := 256 * (256 * (256 * 0 + w) + v) + u + (256 * (256 * (256 * 0 + w) + v) + u) / 2 ^ 8 + (256 * (256 * (256 * 0 + w) + v) + u + (256 * (256 * (256 * 0 + w) + v) + u) / 2 ^ 8) / 2 ^ 16) (b := 63) (by omega) (by decide)
  rw [show ((63 : Nat) : Int) = 63 from rfl] at e3
  rw [e3]
  have e4 := Nat.and_two_pow_sub_one_eq_mod (256 * (256 * (256 * 0 + w) + v) + u + (256 * (256 * (256 * 0 + w) + v) + u) / 2 ^ 8 + (256 * (256 * (256 * 0 + w) + v) + u + (256 * (256 * (256 * 0 + w) + v) + u) / 2 ^ 8) / 2 ^ 16) 6
  rw [show (2 : Nat) ^ 6 - 1 = 63 from rfl, show (2 : Nat) ^ 6 = 64 from rfl] at e4
  rw [e4, fin64 k1 k2 k3]
  omega
