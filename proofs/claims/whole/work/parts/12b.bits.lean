/-! bits -/
theorem zand1 (a : Int) : zand a 1 = a % 2 := by
  unfold zand
  show ((Int32.ofInt a &&& Int32.ofInt 1).toBitVec).toInt = a % 2
  rw [Int32.toBitVec_and]
  have h1 : ((Int32.ofInt a).toBitVec &&& (Int32.ofInt 1).toBitVec).toNat = (Int32.ofInt a).toBitVec.toNat % 2 := by
    rw [BitVec.toNat_and, show (Int32.ofInt 1).toBitVec.toNat = 1 from rfl, Nat.and_one_is_mod]
  rw [BitVec.toInt_eq_toNat_of_lt (by rw [h1]; omega), h1]
  have h2 : (Int32.ofInt a).toBitVec.toNat = (a % 4294967296).toNat := by
    show (BitVec.ofInt 32 a).toNat = _
    rw [BitVec.toNat_ofInt]
    rfl
  rw [h2]
  omega
theorem zsh_e : ∀ n : Nat, n < 32 → ((Int32.ofInt (n : Int) &&& 31).toBitVec.smod 32).toNat = n := by decide +kernel
theorem zshr_of {a : Int} (ha : -2147483648 ≤ a ∧ a < 2147483648) {n : Nat} (hn : n < 32) : zshr a (n : Int) = a / 2 ^ n := by
  unfold zshr
  show ((Int32.ofInt a).toBitVec.sshiftRight' ((Int32.ofInt (n : Int) &&& 31).toBitVec.smod 32)).toInt = _
  rw [BitVec.toInt_sshiftRight', zsh_e n hn, show (Int32.ofInt a).toBitVec.toInt = (Int32.ofInt a).toInt from rfl, Int32.toInt_ofInt_of_le (by omega) (by omega), Int.shiftRight_eq_div_pow]
  norm_cast
theorem zshr1 {a : Int} (ha : -2147483648 ≤ a ∧ a < 2147483648) : zshr a 1 = a / 2 := by
  have h := zshr_of ha (n := 1) (by omega)
  simpa using h
theorem zdiv_of {a b : Int} (ha : 0 ≤ a ∧ a < 2147483648) (hb : 0 < b ∧ b < 2147483648) : zdiv a b = a / b := by
  unfold zdiv
  have e1 : (Int32.ofInt a).toInt = a := Int32.toInt_ofInt_of_le (by omega) (by omega)
  have e2 : (Int32.ofInt b).toInt = b := Int32.toInt_ofInt_of_le (by omega) (by omega)
  rw [Int32.toInt_div_of_ne_right _ _ (fun e => by rw [e] at e2; have : (-1 : Int32).toInt = -1 := by decide
                                                   omega), e1, e2, Int.tdiv_eq_ediv_of_nonneg ha.1]
theorem zdiv_rg {a b : Int} (ha : 0 ≤ a ∧ a < 2147483648) (hb : 0 < b ∧ b < 2147483648) : 0 ≤ a / b ∧ a / b ≤ a := ⟨Int.ediv_nonneg ha.1 (by omega), Int.ediv_le_self b ha.1⟩
theorem zrem_of {a b : Int} (ha : 0 ≤ a ∧ a < 2147483648) (hb : 0 < b ∧ b < 2147483648) : zrem a b = a % b := by
  unfold zrem
  have h1 := zdiv_of ha hb
  unfold zdiv at h1
  have h2 : Int32.ofInt a / Int32.ofInt b = Int32.ofInt (a / b) := by
    rw [← h1, Int32.ofInt_toInt]
  rw [h2, ← Int32.ofInt_mul, ← Int32.ofInt_sub]
  have h3 := Int.emod_def a b
  have h4 := Int.emod_nonneg a (show b ≠ 0 by omega)
  have h5 := Int.emod_lt_of_pos a (show 0 < b by omega)
  rw [Int.mul_comm (a / b) b, ← h3, Int32.toInt_ofInt_of_le (by omega) (by omega)]
section GB
variable {d g y pc nx a b : Nat} {L r : List Value} {T : gT} {c J : gC} {Q : am_O → am_M → Prop}
theorem gw_and1 {x : Int} (hi : am_at y pc nx .iand 0 a b) (h : gw d g y nx L (gi (x % 2) :: r) (gm T c J) Q) : gw d g y pc L (gi 1 :: gi x :: r) (gm T c J) Q := gw_iand hi (by rw [zand1]; exact h)
theorem gw_shr1 {x : Int} (hi : am_at y pc nx .ishr 0 a b) (hx : -2147483648 ≤ x ∧ x < 2147483648) (h : gw d g y nx L (gi (x / 2) :: r) (gm T c J) Q) : gw d g y pc L (gi 1 :: gi x :: r) (gm T c J) Q := gw_ishr hi (by rw [zshr1 hx]; exact h)
theorem gw_divp {x z : Int} (hi : am_at y pc nx .idiv 0 a b) (hx : 0 ≤ x ∧ x < 2147483648) (hz : 0 < z ∧ z < 2147483648) (h : gw d g y nx L (gi (x / z) :: r) (gm T c J) Q) : gw d g y pc L (gi z :: gi x :: r) (gm T c J) Q := gw_idiv hi (by omega) (by omega) (by rw [zdiv_of hx hz]; exact h)
theorem gw_remp {x z : Int} (hi : am_at y pc nx .irem 0 a b) (hx : 0 ≤ x ∧ x < 2147483648) (hz : 0 < z ∧ z < 2147483648) (h : gw d g y nx L (gi (x % z) :: r) (gm T c J) Q) : gw d g y pc L (gi z :: gi x :: r) (gm T c J) Q := gw_irem hi (by omega) (by omega) (by rw [zrem_of hx hz]; exact h)
end GB
/-- a set's element -/
def tb (s e : Int) : Bool := decide (¬ zshr s e % 2 = 0)
theorem bv_lsb (x : BitVec 32) : (x.toInt % 2 = 0) ↔ x.getLsbD 0 = false := by
  rw [BitVec.toInt_eq_toNat_cond]
  have h : x.getLsbD 0 = x.toNat.testBit 0 := rfl
  rw [h, Nat.testBit_zero]
  simp only [decide_eq_false_iff_not]
  split <;> omega
theorem tb_bit {s : Int} {n : Nat} (hn : n < 32) : tb s (n : Int) = (Int32.ofInt s).toBitVec.getLsbD n := by
  unfold tb zshr
  have e : ((Int32.ofInt s >>> (Int32.ofInt (n : Int) &&& 31)).toInt) = ((Int32.ofInt s).toBitVec.sshiftRight n).toInt := by
    show ((Int32.ofInt s).toBitVec.sshiftRight' ((Int32.ofInt (n : Int) &&& 31).toBitVec.smod 32)).toInt = _
    rw [BitVec.sshiftRight', zsh_e n hn]
  rw [e]
  have h := bv_lsb ((Int32.ofInt s).toBitVec.sshiftRight n)
  rw [BitVec.getLsbD_sshiftRight] at h
  simp only [show ¬ (32 : Nat) ≤ 0 by omega, show n + 0 < 32 by omega, if_true, Nat.add_zero, decide_false, Bool.not_false, Bool.true_and] at h
  rw [if_pos hn] at h
  generalize ((Int32.ofInt s).toBitVec.sshiftRight n).toInt = v at h ⊢
  cases hb : (Int32.ofInt s).toBitVec.getLsbD n
  · rw [hb] at h; simp [h]
  · rw [hb] at h; simp [h]
theorem tb_or {s t : Int} {n : Nat} (hn : n < 32) : tb (zor s t) (n : Int) = (tb s (n : Int) || tb t (n : Int)) := by
  rw [tb_bit hn, tb_bit hn, tb_bit hn]
  unfold zor
  rw [Int32.ofInt_toInt, Int32.toBitVec_or, BitVec.getLsbD_or]
theorem tb_shl : ∀ m n : Nat, m < 32 → n < 32 → tb (zshl 1 (m : Int)) (n : Int) = decide (m = n) := by
  have h : ∀ m : Nat, m < 32 → ∀ n : Nat, n < 32 → tb (zshl 1 (m : Int)) (n : Int) = decide (m = n) := by decide +kernel
  exact fun m n hm hn => h m hm n hn
theorem tb_0 {n : Nat} (hn : n < 32) : tb 0 (n : Int) = false := by
  rw [tb_bit hn]
  show (0#32).getLsbD n = false
  simp
/-- the set of those numbers below n that p takes -/
def msk (p : Int → Bool) : Nat → Int
  | 0 => 0
  | n + 1 => if p n = true then zor (msk p n) (zshl 1 n) else msk p n
theorem msk_tb {p : Int → Bool} {n : Nat} (hn : n ≤ 32) {e : Nat} (he : e < 32) : tb (msk p n) (e : Int) = (decide (e < n) && p e) := by
  induction n with
  | zero => rw [show msk p 0 = 0 from rfl, tb_0 he]; simp
  | succ n ih =>
    unfold msk
    split
    · rename_i hp
      rw [tb_or he, ih (by omega), tb_shl n e (by omega) he]
      by_cases h : n = e
      · subst h; simp [hp]
      · by_cases h2 : e < n
        · simp [h, h2, show e < n + 1 by omega]
        · simp [h, h2, show ¬ e < n + 1 by omega]
    · rename_i hp
      rw [ih (by omega)]
      by_cases h : e = n
      · subst h; simp [Bool.not_eq_true _ ▸ hp]
      · by_cases h2 : e < n
        · simp [h2, show e < n + 1 by omega]
        · simp [h2, show ¬ e < n + 1 by omega]
theorem msk_congr {p q : Int → Bool} {n : Nat} (h : ∀ k : Nat, k < n → p k = q k) : msk p n = msk q n := by
  induction n with
  | zero => rfl
  | succ n ih =>
    unfold msk
    rw [ih (fun k hk => h k (by omega)), h n (by omega)]
theorem msk_rg (p : Int → Bool) (n : Nat) : -2147483648 ≤ msk p n ∧ msk p n < 2147483648 := by
  induction n with
  | zero => exact ⟨(by omega : (-2147483648 : Int) ≤ 0), (by omega : (0 : Int) < 2147483648)⟩
  | succ n ih =>
    unfold msk
    split
    · exact zrg _
    · exact ih
def mskI (p : Int → Bool) (k : Int) : Int := msk p k.toNat
theorem mskI_0 (p : Int → Bool) : mskI p 0 = 0 := rfl
theorem mskI_s (p : Int → Bool) {k : Int} (hk : 0 ≤ k) : mskI p (k + 1) = if p k = true then zor (mskI p k) (zshl 1 k) else mskI p k := by
  unfold mskI
  rw [show (k + 1).toNat = k.toNat + 1 by omega]
  show (if p (k.toNat : Int) = true then zor (msk p k.toNat) (zshl 1 (k.toNat : Int)) else msk p k.toNat) = _
  rw [show ((k.toNat : Nat) : Int) = k by omega]
theorem mskI_tb (p : Int → Bool) {k e : Int} (h0 : 0 ≤ k) (hk : k ≤ 32) (h1 : 0 ≤ e) (he : e < 32) : tb (mskI p k) e = (decide (e < k) && p e) := by
  have h := msk_tb (p := p) (n := k.toNat) (by omega) (e := e.toNat) (by omega)
  rw [show ((e.toNat : Nat) : Int) = e by omega] at h
  unfold mskI
  rw [h]
  congr 1
  exact decide_eq_decide.mpr (by omega)
set_option maxHeartbeats 1000000 in
theorem c_contains {g : Nat} {T : gT} {c J : gC} {s e : Int} : gE g 168 0 [gi s, gi e] (gm T c J) (gR (gi (bi (tb s e))) (gm T c J)) := by
  refine gE_mk am_r168 rfl (Or.inl rfl) (fun d hd => ?_)
  show gw d g 168 0 [gi s, gi e] [] _ _
  refine gw_il0 at168_0 (gw_il1 at168_1 (gw_ishr at168_2 (gw_const at168_3 (gw_and1 at168_4 ?_))))
  refine gw_zeq at168_5 (by first | omega | exact hc _ _ | exact bi_rg _ | exact zrg _) (fun q5 => ?_) (fun q5 => ?_)
  · refine gw_const at168_12 (gw_r0 at168_13 am_r168.2.1 (gR_b ?_))
    unfold tb; simp [q5]
  · refine gw_const at168_8 (gw_goto at168_9 (gw_r1 at168_13 am_r168.2.1 (gR_b ?_)))
    unfold tb; simp [q5]
set_option maxHeartbeats 1000000 in
theorem c_known {g : Nat} {T : gT} {c J : gC} {z : Int} (hz : -2147483648 ≤ z ∧ z < 2147483648) : gE g 170 0 [gi z] (gm T c J) (gR (gi (if 100000000 ≤ z then -1 else z)) (gm T c J)) := by
  refine gE_mk am_r170 rfl (Or.inl rfl) (fun d hd => ?_)
  show gw d g 170 0 [gi z] [] _ _
  refine gw_il0 at170_0 (gw_ldc (z := 100000000) at170_1 (by decide) ?_)
  refine gw_clt at170_3 (by first | omega | exact hc _ _ | exact bi_rg _ | exact zrg _) (by first | omega | exact hc _ _ | exact bi_rg _ | exact zrg _) (fun q3 => ?_) (fun q3 => ?_)
  · refine gw_il0 at170_10 (gw_ri at170_11 am_r170.2.1 (gR_i ?_))
    first | rw [if_pos (by omega)] | rw [if_neg (by omega)]
  · refine gw_const at170_6 (gw_goto at170_7 (gw_ri at170_11 am_r170.2.1 (gR_i ?_)))
    first | rw [if_pos (by omega)] | rw [if_neg (by omega)]
