/-! planner (it lies at 100044; its table of rests lies at R and has Z places) -/
def PT (T : gT) (R Z : Nat) : Prop := (T.1 100044).1 = 14 ∧ ((T.1 100044).2.2 0 = 100014 + 1 ∧ (T.1 100044).2.2 1 = 100026 + 1) ∧ ((T.1 100044).2.2 2 = 100045 + 1 ∧ (T.1 100045).1 = 1 ∧ (T.1 100045).2.1 = 3) ∧ ((T.1 100044).2.2 3 = 100046 + 1 ∧ (T.1 100046).1 = 1 ∧ (T.1 100046).2.1 = 3) ∧ ((T.1 100044).2.2 4 = 100047 + 1 ∧ (T.1 100047).1 = 1 ∧ (T.1 100047).2.1 = 3) ∧ ((T.1 100044).2.2 5 = 100048 + 1 ∧ (T.1 100048).1 = 1 ∧ (T.1 100048).2.1 = 36) ∧ ((T.1 100044).2.2 6 = 100049 + 1 ∧ (T.1 100049).1 = 1 ∧ (T.1 100049).2.1 = 12) ∧ ((T.1 100044).2.2 7 = 100050 + 1 ∧ (T.1 100050).1 = 1 ∧ (T.1 100050).2.1 = 12) ∧ ((T.1 100044).2.2 9 = R + 1 ∧ (T.1 R).1 = 1 ∧ (T.1 R).2.1 = Z) ∧ (R = 100051 ∨ 400000 ≤ R ∧ R < 500000) ∧ Z ≤ 49152
theorem PT_0 {T : gT} {R Z : Nat} (h : PT T R Z) : (T.1 100044).1 = 14 := h.1
theorem PT_n {T : gT} {R Z : Nat} (h : PT T R Z) : (T.1 100044).2.2 0 = 100014 + 1 := h.2.1.1
theorem PT_o {T : gT} {R Z : Nat} (h : PT T R Z) : (T.1 100044).2.2 1 = 100026 + 1 := h.2.1.2
theorem PT_r2 {T : gT} {R Z : Nat} (h : PT T R Z) : (T.1 100044).2.2 2 = 100045 + 1 := h.2.2.1.1
theorem PT_t2 {T : gT} {R Z : Nat} (h : PT T R Z) : (T.1 100045).1 = 1 := h.2.2.1.2.1
theorem PT_l2 {T : gT} {R Z : Nat} (h : PT T R Z) : (T.1 100045).2.1 = 3 := h.2.2.1.2.2
theorem PT_r3 {T : gT} {R Z : Nat} (h : PT T R Z) : (T.1 100044).2.2 3 = 100046 + 1 := h.2.2.2.1.1
theorem PT_t3 {T : gT} {R Z : Nat} (h : PT T R Z) : (T.1 100046).1 = 1 := h.2.2.2.1.2.1
theorem PT_l3 {T : gT} {R Z : Nat} (h : PT T R Z) : (T.1 100046).2.1 = 3 := h.2.2.2.1.2.2
theorem PT_r4 {T : gT} {R Z : Nat} (h : PT T R Z) : (T.1 100044).2.2 4 = 100047 + 1 := h.2.2.2.2.1.1
theorem PT_t4 {T : gT} {R Z : Nat} (h : PT T R Z) : (T.1 100047).1 = 1 := h.2.2.2.2.1.2.1
theorem PT_l4 {T : gT} {R Z : Nat} (h : PT T R Z) : (T.1 100047).2.1 = 3 := h.2.2.2.2.1.2.2
theorem PT_r5 {T : gT} {R Z : Nat} (h : PT T R Z) : (T.1 100044).2.2 5 = 100048 + 1 := h.2.2.2.2.2.1.1
theorem PT_t5 {T : gT} {R Z : Nat} (h : PT T R Z) : (T.1 100048).1 = 1 := h.2.2.2.2.2.1.2.1
theorem PT_l5 {T : gT} {R Z : Nat} (h : PT T R Z) : (T.1 100048).2.1 = 36 := h.2.2.2.2.2.1.2.2
theorem PT_r6 {T : gT} {R Z : Nat} (h : PT T R Z) : (T.1 100044).2.2 6 = 100049 + 1 := h.2.2.2.2.2.2.1.1
theorem PT_t6 {T : gT} {R Z : Nat} (h : PT T R Z) : (T.1 100049).1 = 1 := h.2.2.2.2.2.2.1.2.1
theorem PT_l6 {T : gT} {R Z : Nat} (h : PT T R Z) : (T.1 100049).2.1 = 12 := h.2.2.2.2.2.2.1.2.2
theorem PT_r7 {T : gT} {R Z : Nat} (h : PT T R Z) : (T.1 100044).2.2 7 = 100050 + 1 := h.2.2.2.2.2.2.2.1.1
theorem PT_t7 {T : gT} {R Z : Nat} (h : PT T R Z) : (T.1 100050).1 = 1 := h.2.2.2.2.2.2.2.1.2.1
theorem PT_l7 {T : gT} {R Z : Nat} (h : PT T R Z) : (T.1 100050).2.1 = 12 := h.2.2.2.2.2.2.2.1.2.2
theorem PT_r9 {T : gT} {R Z : Nat} (h : PT T R Z) : (T.1 100044).2.2 9 = R + 1 := h.2.2.2.2.2.2.2.2.1.1
theorem PT_t9 {T : gT} {R Z : Nat} (h : PT T R Z) : (T.1 R).1 = 1 := h.2.2.2.2.2.2.2.2.1.2.1
theorem PT_l9 {T : gT} {R Z : Nat} (h : PT T R Z) : (T.1 R).2.1 = Z := h.2.2.2.2.2.2.2.2.1.2.2
theorem PT_k {T : gT} {R Z : Nat} (h : PT T R Z) : (R = 100051 ∨ 400000 ≤ R ∧ R < 500000) ∧ Z ≤ 49152 := h.2.2.2.2.2.2.2.2.2
/-- the numbers of the plans made so far -/
def PR (c : gC) : Prop := (∀ i : Int, 0 ≤ i → i < 3 → 0 ≤ c 100046 i ∧ c 100046 i ≤ 12) ∧ ∀ i : Int, 0 ≤ i → i < 36 → 0 ≤ c 100048 i ∧ c 100048 i < 24
/-- the numbers of the plan that is being made -/
def PQ (c : gC) (R Z : Nat) : Prop := (0 ≤ c 100044 8 ∧ c 100044 8 ≤ 12) ∧ (∀ i : Int, 0 ≤ i → i < 12 → (0 ≤ c 100049 i ∧ c 100049 i < 24) ∧ 0 ≤ c 100050 i ∧ c 100050 i ≤ 100000000) ∧ ∀ i : Int, 0 ≤ i → i < (Z : Int) → 0 ≤ c R i ∧ c R i ≤ 100000000
/-- places of the table of rests: n items, sets below S -/
def PW (S n : Int) (Z : Nat) : Prop := ∀ x y : Int, 0 ≤ x → x < S → 0 ≤ y → y < n → 0 ≤ x * n + y ∧ x * n + y < (Z : Int)
theorem zand_rg {a b : Int} (ha : 0 ≤ a ∧ a < 2147483648) : 0 ≤ zand a b ∧ zand a b ≤ a := by
  have h1 : (Int32.ofInt a).toInt = a := Int32.toInt_ofInt_of_le (by omega) (by omega)
  have h2 : (Int32.ofInt a).toBitVec.toNat < 2 ^ 31 := by
    have h3 : (Int32.ofInt a).toBitVec.toInt = a := h1
    have h4 := (Int32.ofInt a).toBitVec.isLt
    rw [BitVec.toInt_eq_toNat_cond] at h3
    split at h3 <;> omega
  have h3 : ((Int32.ofInt a).toBitVec.toNat : Int) = a := by
    have h3 : (Int32.ofInt a).toBitVec.toInt = a := h1
    rw [BitVec.toInt_eq_toNat_cond] at h3
    split at h3 <;> omega
  have h5 : ((Int32.ofInt a).toBitVec &&& (Int32.ofInt b).toBitVec).toNat ≤ (Int32.ofInt a).toBitVec.toNat := by
    rw [BitVec.toNat_and]
    exact Nat.and_le_left
  have h6 : zand a b = ((Int32.ofInt a).toBitVec &&& (Int32.ofInt b).toBitVec).toInt := rfl
  rw [h6, BitVec.toInt_eq_toNat_cond]
  split <;> omega
def clr (s e : Int) : Int := zand s (zxor (zshl 1 e) (-1))
theorem clr_rg {s : Int} (e : Int) (h : 0 ≤ s ∧ s < 2147483648) : 0 ≤ clr s e ∧ clr s e ≤ s := zand_rg h
def isc (z : Int) : Bool := decide (1 ≤ z ∧ z ≤ 3)
def szo (c : gC) (z : Int) : Int := if 1 ≤ z ∧ z ≤ 3 then c 100046 (z - 1) else 0
def cso (c : gC) (z : Int) : Int := if 1 ≤ z ∧ z ≤ 3 then c 100047 (z - 1) else -1
def paa (c : gC) (z i : Int) : Int := if (1 ≤ z ∧ z ≤ 3) ∧ 0 ≤ i ∧ i < c 100046 (z - 1) then c 100048 ((z - 1) * 12 + i) else -1
def ist (c : gC) (a b k : Int) : Int := if (¬ a = -1 ∧ ¬ b = -1) ∧ tkd c 100014 a b = k then 1 else 0
def ctr (c : gC) (R : Nat) (l x s : Int) : Int := (if l = -1 then c 100050 x else cbh c (c 100049 l) (c 100049 x)) + c R (clr s x * c 100044 8 + x)
def bsf (c : gC) (R : Nat) (l s i a : Int) : Int := if tb s i = true then min a (ctr c R l i s) else a
def bst (c : gC) (R : Nat) (l s : Int) : Int := if s = 0 then cbh c (if l = -1 then -1 else c 100049 l) (24 + c 100014 3) else itI (bsf c R l s) 100000000 (c 100044 8)
theorem ctr_rg {c : gC} {R Z : Nat} {S l x s : Int} (hS : SR c) (hP : PQ c R Z) (hK : PW S (c 100044 8) Z) (hs : 0 ≤ s ∧ s < S) (hS2 : S ≤ 4096) (hx : 0 ≤ x ∧ x < c 100044 8) : 0 ≤ ctr c R l x s ∧ ctr c R l x s ≤ 200000000 := by
  have h1 := clr_rg (s := s) x (by omega)
  have h2 := hK (clr s x) x (by omega) (by omega) (by omega) (by omega)
  have h3 := hP.2.2 _ h2.1 h2.2
  have h4 := (hP.2.1 x (by omega) (by have := hP.1; omega)).2
  have h5 := cbh_rg hS (c 100049 l) (c 100049 x)
  unfold ctr
  split <;> omega
theorem bsi_rg {c : gC} {R Z : Nat} {S l s : Int} (hS : SR c) (hP : PQ c R Z) (hK : PW S (c 100044 8) Z) (hs : 0 ≤ s ∧ s < S) (hS2 : S ≤ 4096) {i : Int} (hi : i ≤ c 100044 8) : 0 ≤ itI (bsf c R l s) 100000000 i ∧ itI (bsf c R l s) 100000000 i ≤ 100000000 := by
  refine itI_inv2 (fun a : Int => 0 ≤ a ∧ a ≤ 100000000) (N := c 100044 8) (by omega) (fun j a h0 h1 h => ?_) hi
  have := ctr_rg (l := l) (x := j) hS hP hK hs hS2 (by omega)
  unfold bsf
  split <;> omega
theorem bst_rg {c : gC} {R Z : Nat} {S l s : Int} (hS : SR c) (hP : PQ c R Z) (hK : PW S (c 100044 8) Z) (hs : 0 ≤ s ∧ s < S) (hS2 : S ≤ 4096) : 0 ≤ bst c R l s ∧ bst c R l s ≤ 100000000 := by
  unfold bst
  split
  · exact cbh_rg hS _ _
  · exact bsi_rg hS hP hK hs hS2 (by omega)
set_option maxHeartbeats 1000000 in
theorem c_isClass {g : Nat} {T : gT} {c J : gC} {z : Int} (hz : -2147483648 ≤ z ∧ z < 2147483648) : gE g 59 0 [gi z] (gm T c J) (gR (gi (bi (isc z))) (gm T c J)) := by
  refine gE_mk am_r59 rfl (Or.inl rfl) (fun d hd => ?_)
  show gw d g 59 0 [gi z] [] _ _
  refine gw_il0 at59_0 (gw_const at59_1 ?_)
  refine gw_clt at59_2 (by first | omega | exact hc _ _ | exact bi_rg _ | exact zrg _) (by first | omega | exact hc _ _ | exact bi_rg _ | exact zrg _) (fun q2 => ?_) (fun q2 => ?_)
  · refine gw_const at59_14 (gw_r0 at59_15 am_r59.2.1 (gR_b ?_))
    unfold isc
    first | (rw [decide_eq_true (by omega)]; done) | (rw [decide_eq_false (by omega)]; done)
  · refine gw_il0 at59_5 (gw_const at59_6 ?_)
    refine gw_cgt at59_7 (by first | omega | exact hc _ _ | exact bi_rg _ | exact zrg _) (by first | omega | exact hc _ _ | exact bi_rg _ | exact zrg _) (fun q7 => ?_) (fun q7 => ?_)
    · refine gw_const at59_14 (gw_r0 at59_15 am_r59.2.1 (gR_b ?_))
      unfold isc
      first | (rw [decide_eq_true (by omega)]; done) | (rw [decide_eq_false (by omega)]; done)
    · refine gw_const at59_10 (gw_goto at59_11 (gw_r1 at59_15 am_r59.2.1 (gR_b ?_)))
      unfold isc
      first | (rw [decide_eq_true (by omega)]; done) | (rw [decide_eq_false (by omega)]; done)
set_option maxHeartbeats 1000000 in
theorem c_sizeOf {g : Nat} {T : gT} {c J : gC} {R Z : Nat} (hP : PT T R Z) (hc : RG c) (hA : PR c) {z : Int} (hz : -2147483648 ≤ z ∧ z < 2147483648) : gE g 56 1 [.ref 100044, gi z] (gm T c J) (gR (gi (szo c z)) (gm T c J)) := by
  refine gE_mk am_r56 rfl (Or.inr ⟨_, rfl, (by first | exact PT_0 hP | exact PT_n hP | exact PT_o hP | exact PT_r3 hP | exact PT_t3 hP | exact PT_l3 hP)⟩) (fun d hd => ?_)
  show gw d g 56 0 [.ref 100044, gi z] [] _ _
  refine gw_il1 at56_0 (gw_callP1 at56_1 (c_isClass (by omega)) (by omega) (Nat.le_of_ble_eq_true rfl) ?_)
  refine gw_beq at56_4 (fun q4 => ?_) (fun q4 => ?_)
  · have hz3 := of_decide_eq_false q4
    refine gw_const at56_18 (gw_ri at56_19 am_r56.2.1 (gR_i ?_))
    unfold szo
    first | (rw [if_pos hz3]; done) | (rw [if_neg hz3]; done)
  · have hz3 := of_decide_eq_true q4
    refine gw_al0 at56_7 (gw_gr at56_8 (by first | exact PT_0 hP | exact PT_n hP | exact PT_o hP | exact PT_r3 hP | exact PT_t3 hP | exact PT_l3 hP) (by first | exact PT_0 hP | exact PT_n hP | exact PT_o hP | exact PT_r3 hP | exact PT_t3 hP | exact PT_l3 hP) (gw_il1 at56_11 (gw_const at56_12 (gw_isub at56_13 (gw_ia at56_14 (by first | exact Or.inl (by first | exact PT_0 hP | exact PT_n hP | exact PT_o hP | exact PT_r3 hP | exact PT_t3 hP | exact PT_l3 hP) | exact Or.inr (by first | exact PT_0 hP | exact PT_n hP | exact PT_o hP | exact PT_r3 hP | exact PT_t3 hP | exact PT_l3 hP)) (by first | exact PT_0 hP | exact PT_n hP | exact PT_o hP | exact PT_r3 hP | exact PT_t3 hP | exact PT_l3 hP) (by first | omega | exact hc _ _ | exact bi_rg _ | exact zrg _) (by first | omega | exact hc _ _ | exact bi_rg _ | exact zrg _) (by omega) (gw_goto at56_15 (gw_ri at56_19 am_r56.2.1 (gR_i ?_))))))))
    unfold szo
    first | (rw [if_pos hz3]; done) | (rw [if_neg hz3]; done)
set_option maxHeartbeats 1000000 in
theorem c_costOf {g : Nat} {T : gT} {c J : gC} {R Z : Nat} (hP : PT T R Z) (hc : RG c) (hA : PR c) {z : Int} (hz : -2147483648 ≤ z ∧ z < 2147483648) : gE g 57 1 [.ref 100044, gi z] (gm T c J) (gR (gi (cso c z)) (gm T c J)) := by
  refine gE_mk am_r57 rfl (Or.inr ⟨_, rfl, (by first | exact PT_0 hP | exact PT_n hP | exact PT_o hP | exact PT_r4 hP | exact PT_t4 hP | exact PT_l4 hP)⟩) (fun d hd => ?_)
  show gw d g 57 0 [.ref 100044, gi z] [] _ _
  refine gw_il1 at57_0 (gw_callP1 at57_1 (c_isClass (by omega)) (by omega) (Nat.le_of_ble_eq_true rfl) ?_)
  refine gw_beq at57_4 (fun q4 => ?_) (fun q4 => ?_)
  · have hz3 := of_decide_eq_false q4
    refine gw_const at57_18 (gw_ri at57_19 am_r57.2.1 (gR_i ?_))
    unfold cso
    first | (rw [if_pos hz3]; done) | (rw [if_neg hz3]; done)
  · have hz3 := of_decide_eq_true q4
    refine gw_al0 at57_7 (gw_gr at57_8 (by first | exact PT_0 hP | exact PT_n hP | exact PT_o hP | exact PT_r4 hP | exact PT_t4 hP | exact PT_l4 hP) (by first | exact PT_0 hP | exact PT_n hP | exact PT_o hP | exact PT_r4 hP | exact PT_t4 hP | exact PT_l4 hP) (gw_il1 at57_11 (gw_const at57_12 (gw_isub at57_13 (gw_ia at57_14 (by first | exact Or.inl (by first | exact PT_0 hP | exact PT_n hP | exact PT_o hP | exact PT_r4 hP | exact PT_t4 hP | exact PT_l4 hP) | exact Or.inr (by first | exact PT_0 hP | exact PT_n hP | exact PT_o hP | exact PT_r4 hP | exact PT_t4 hP | exact PT_l4 hP)) (by first | exact PT_0 hP | exact PT_n hP | exact PT_o hP | exact PT_r4 hP | exact PT_t4 hP | exact PT_l4 hP) (by first | omega | exact hc _ _ | exact bi_rg _ | exact zrg _) (by first | omega | exact hc _ _ | exact bi_rg _ | exact zrg _) (by omega) (gw_goto at57_15 (gw_ri at57_19 am_r57.2.1 (gR_i ?_))))))))
    unfold cso
    first | (rw [if_pos hz3]; done) | (rw [if_neg hz3]; done)
set_option maxHeartbeats 1000000 in
theorem c_arcAt {g : Nat} {T : gT} {c J : gC} {R Z : Nat} (hP : PT T R Z) (hc : RG c) (hA : PR c) {z i : Int} (hz : -2147483648 ≤ z ∧ z < 2147483648) (hi : -2147483648 ≤ i ∧ i < 2147483648) : gE g 58 1 [.ref 100044, gi z, gi i] (gm T c J) (gR (gi (paa c z i)) (gm T c J)) := by
  refine gE_mk am_r58 rfl (Or.inr ⟨_, rfl, (by first | exact PT_0 hP | exact PT_n hP | exact PT_o hP | exact PT_r3 hP | exact PT_t3 hP | exact PT_l3 hP | exact PT_r5 hP | exact PT_t5 hP | exact PT_l5 hP)⟩) (fun d hd => ?_)
  show gw d g 58 0 [.ref 100044, gi z, gi i] [] _ _
  refine gw_il1 at58_0 (gw_callP1 at58_1 (c_isClass (by omega)) (by omega) (Nat.le_of_ble_eq_true rfl) ?_)
  refine gw_beq at58_4 (fun q4 => ?_) (fun q4 => ?_)
  · refine gw_const at58_23 (gw_ri at58_24 am_r58.2.1 (gR_i ?_))
    unfold paa
    first | (rw [if_pos ⟨hz3, by omega⟩]; done) | (rw [if_neg (fun h => absurd h.1 (of_decide_eq_false q4))]; done) | (rw [if_neg (by omega)]; done)
  · have hz3 := of_decide_eq_true q4
    have hz4 := hA.1 (z - 1) (by omega) (by omega)
    refine gw_il2 at58_7 ?_
    refine gw_zlt at58_8 (by first | omega | exact hc _ _ | exact bi_rg _ | exact zrg _) (fun q8 => ?_) (fun q8 => ?_)
    · refine gw_const at58_23 (gw_ri at58_24 am_r58.2.1 (gR_i ?_))
      unfold paa
      first | (rw [if_pos ⟨hz3, by omega⟩]; done) | (rw [if_neg (fun h => absurd h.1 (of_decide_eq_false q4))]; done) | (rw [if_neg (by omega)]; done)
    · refine gw_il2 at58_11 (gw_al0 at58_12 (gw_gr at58_13 (by first | exact PT_0 hP | exact PT_n hP | exact PT_o hP | exact PT_r3 hP | exact PT_t3 hP | exact PT_l3 hP | exact PT_r5 hP | exact PT_t5 hP | exact PT_l5 hP) (by first | exact PT_0 hP | exact PT_n hP | exact PT_o hP | exact PT_r3 hP | exact PT_t3 hP | exact PT_l3 hP | exact PT_r5 hP | exact PT_t5 hP | exact PT_l5 hP) (gw_il1 at58_16 (gw_const at58_17 (gw_isub at58_18 (gw_ia at58_19 (by first | exact Or.inl (by first | exact PT_0 hP | exact PT_n hP | exact PT_o hP | exact PT_r3 hP | exact PT_t3 hP | exact PT_l3 hP | exact PT_r5 hP | exact PT_t5 hP | exact PT_l5 hP) | exact Or.inr (by first | exact PT_0 hP | exact PT_n hP | exact PT_o hP | exact PT_r3 hP | exact PT_t3 hP | exact PT_l3 hP | exact PT_r5 hP | exact PT_t5 hP | exact PT_l5 hP)) (by first | exact PT_0 hP | exact PT_n hP | exact PT_o hP | exact PT_r3 hP | exact PT_t3 hP | exact PT_l3 hP | exact PT_r5 hP | exact PT_t5 hP | exact PT_l5 hP) (by first | omega | exact hc _ _ | exact bi_rg _ | exact zrg _) (by first | omega | exact hc _ _ | exact bi_rg _ | exact zrg _) (by omega) ?_))))))
      refine gw_clt at58_20 (by first | omega | exact hc _ _ | exact bi_rg _ | exact zrg _) (by first | omega | exact hc _ _ | exact bi_rg _ | exact zrg _) (fun q20 => ?_) (fun q20 => ?_)
      · refine gw_al0 at58_25 (gw_gr at58_26 (by first | exact PT_0 hP | exact PT_n hP | exact PT_o hP | exact PT_r3 hP | exact PT_t3 hP | exact PT_l3 hP | exact PT_r5 hP | exact PT_t5 hP | exact PT_l5 hP) (by first | exact PT_0 hP | exact PT_n hP | exact PT_o hP | exact PT_r3 hP | exact PT_t3 hP | exact PT_l3 hP | exact PT_r5 hP | exact PT_t5 hP | exact PT_l5 hP) (gw_il1 at58_29 (gw_const at58_30 (gw_isub at58_31 (gw_bip at58_32 (by decide) (gw_imul at58_34 (gw_il2 at58_35 (gw_iadd at58_36 (gw_ia at58_37 (by first | exact Or.inl (by first | exact PT_0 hP | exact PT_n hP | exact PT_o hP | exact PT_r3 hP | exact PT_t3 hP | exact PT_l3 hP | exact PT_r5 hP | exact PT_t5 hP | exact PT_l5 hP) | exact Or.inr (by first | exact PT_0 hP | exact PT_n hP | exact PT_o hP | exact PT_r3 hP | exact PT_t3 hP | exact PT_l3 hP | exact PT_r5 hP | exact PT_t5 hP | exact PT_l5 hP)) (by first | exact PT_0 hP | exact PT_n hP | exact PT_o hP | exact PT_r3 hP | exact PT_t3 hP | exact PT_l3 hP | exact PT_r5 hP | exact PT_t5 hP | exact PT_l5 hP) (by first | omega | exact hc _ _ | exact bi_rg _ | exact zrg _) (by first | omega | exact hc _ _ | exact bi_rg _ | exact zrg _) (by omega) (gw_ri at58_38 am_r58.2.1 (gR_i ?_)))))))))))
        unfold paa
        first | (rw [if_pos ⟨hz3, by omega⟩]; done) | (rw [if_neg (fun h => absurd h.1 (of_decide_eq_false q4))]; done) | (rw [if_neg (by omega)]; done)
      · refine gw_const at58_23 (gw_ri at58_24 am_r58.2.1 (gR_i ?_))
        unfold paa
        first | (rw [if_pos ⟨hz3, by omega⟩]; done) | (rw [if_neg (fun h => absurd h.1 (of_decide_eq_false q4))]; done) | (rw [if_neg (by omega)]; done)
set_option maxHeartbeats 1000000 in
theorem c_isTurn {g : Nat} {T : gT} {c J : gC} {R Z : Nat} (hP : PT T R Z) (hc : RG c) (hT : NT T 100014) (hN : NR c 100014) {a b k : Int} (ha : -1 ≤ a ∧ a < 24) (hb : -1 ≤ b ∧ b < 24) (hk : -2147483648 ≤ k ∧ k < 2147483648) : gE g 67 2 [.ref 100044, gi a, gi b, gi k] (gm T c J) (gR (gi (ist c a b k)) (gm T c J)) := by
  have htk := tkd_rg c 100014 a b
  refine gE_mk am_r67 rfl (Or.inr ⟨_, rfl, (by first | exact PT_0 hP | exact PT_n hP | exact NT_0 hT)⟩) (fun d hd => ?_)
  show gw d g 67 0 [.ref 100044, gi a, gi b, gi k] [] _ _
  refine gw_il1 at67_0 (gw_const at67_1 ?_)
  refine gw_ceq at67_2 (by first | omega | exact hc _ _ | exact bi_rg _ | exact zrg _) (by first | omega | exact hc _ _ | exact bi_rg _ | exact zrg _) (fun q2 => ?_) (fun q2 => ?_)
  · refine gw_const at67_27 (gw_ri at67_28 am_r67.2.1 (gR_i ?_))
    unfold ist
    first | (rw [if_pos ⟨by omega, by omega⟩]; done) | (rw [if_neg (fun h => by omega)]; done)
  · refine gw_il2 at67_5 (gw_const at67_6 ?_)
    refine gw_ceq at67_7 (by first | omega | exact hc _ _ | exact bi_rg _ | exact zrg _) (by first | omega | exact hc _ _ | exact bi_rg _ | exact zrg _) (fun q7 => ?_) (fun q7 => ?_)
    · refine gw_const at67_27 (gw_ri at67_28 am_r67.2.1 (gR_i ?_))
      unfold ist
      first | (rw [if_pos ⟨by omega, by omega⟩]; done) | (rw [if_neg (fun h => by omega)]; done)
    · refine gw_al0 at67_10 (gw_gr at67_11 (by first | exact PT_0 hP | exact PT_n hP | exact NT_0 hT) (by first | exact PT_0 hP | exact PT_n hP | exact NT_0 hT) (gw_il1 at67_14 (gw_il2 at67_15 (gw_callP3 at67_16 (c_turnKind hT hc hN (by omega) (by omega)) (by omega) (Nat.le_of_ble_eq_true rfl) (gw_il3 at67_19 ?_)))))
      refine gw_cne at67_20 (by first | omega | exact hc _ _ | exact bi_rg _ | exact zrg _) (by first | omega | exact hc _ _ | exact bi_rg _ | exact zrg _) (fun q20 => ?_) (fun q20 => ?_)
      · refine gw_const at67_27 (gw_ri at67_28 am_r67.2.1 (gR_i ?_))
        unfold ist
        first | (rw [if_pos ⟨by omega, by omega⟩]; done) | (rw [if_neg (fun h => by omega)]; done)
      · refine gw_const at67_23 (gw_goto at67_24 (gw_ri at67_28 am_r67.2.1 (gR_i ?_)))
        unfold ist
        first | (rw [if_pos ⟨by omega, by omega⟩]; done) | (rw [if_neg (fun h => by omega)]; done)
set_option maxHeartbeats 1000000 in
theorem c_ctr {g : Nat} {T : gT} {c J : gC} {R Z : Nat} (hP : PT T R Z) (hR : RT T) (hc : RG c) (hS : SR c) (hQ : PQ c R Z) {S : Int} (hK : PW S (c 100044 8) Z) (hS2 : S ≤ 4096) {l x s : Int} (hl : -1 ≤ l ∧ l < c 100044 8) (hx : 0 ≤ x ∧ x < c 100044 8) (hs : 0 ≤ s ∧ s < S) : gE g 64 1 [.ref 100044, gi l, gi x, gi s] (gm T c J) (gR (gi (ctr c R l x s)) (gm T c J)) := by
  have hn := hQ.1
  have hZ := (PT_k hP).2
  have h1 := clr_rg (s := s) x (by omega)
  have h2 := hK (clr s x) x (by omega) (by omega) (by omega) (by omega)
  unfold clr at h1 h2
  refine gE_mk am_r64 rfl (Or.inr ⟨_, rfl, (by first | exact PT_0 hP | exact PT_n hP | exact PT_o hP | exact PT_r6 hP | exact PT_t6 hP | exact PT_l6 hP | exact PT_r7 hP | exact PT_t7 hP | exact PT_l7 hP | exact PT_r9 hP | exact PT_t9 hP | exact PT_l9 hP | exact RT_0 hR)⟩) (fun d hd => ?_)
  show gw d g 64 0 [.ref 100044, gi l, gi x, gi s, am_U] [] _ _
  refine gw_il1 at64_0 (gw_const at64_1 ?_)
  refine gw_cne at64_2 (by first | omega | exact hc _ _ | exact bi_rg _ | exact zrg _) (by first | omega | exact hc _ _ | exact bi_rg _ | exact zrg _) (fun q2 => ?_) (fun q2 => ?_)
  · refine gw_al0 at64_14 (gw_gr at64_15 (by first | exact PT_0 hP | exact PT_n hP | exact PT_o hP | exact PT_r6 hP | exact PT_t6 hP | exact PT_l6 hP | exact PT_r7 hP | exact PT_t7 hP | exact PT_l7 hP | exact PT_r9 hP | exact PT_t9 hP | exact PT_l9 hP | exact RT_0 hR) (by first | exact PT_0 hP | exact PT_n hP | exact PT_o hP | exact PT_r6 hP | exact PT_t6 hP | exact PT_l6 hP | exact PT_r7 hP | exact PT_t7 hP | exact PT_l7 hP | exact PT_r9 hP | exact PT_t9 hP | exact PT_l9 hP | exact RT_0 hR) (gw_al0 at64_18 (gw_gr at64_19 (by first | exact PT_0 hP | exact PT_n hP | exact PT_o hP | exact PT_r6 hP | exact PT_t6 hP | exact PT_l6 hP | exact PT_r7 hP | exact PT_t7 hP | exact PT_l7 hP | exact PT_r9 hP | exact PT_t9 hP | exact PT_l9 hP | exact RT_0 hR) (by first | exact PT_0 hP | exact PT_n hP | exact PT_o hP | exact PT_r6 hP | exact PT_t6 hP | exact PT_l6 hP | exact PT_r7 hP | exact PT_t7 hP | exact PT_l7 hP | exact PT_r9 hP | exact PT_t9 hP | exact PT_l9 hP | exact RT_0 hR) (gw_il1 at64_22 (gw_ia at64_23 (by first | exact Or.inl (by first | exact PT_0 hP | exact PT_n hP | exact PT_o hP | exact PT_r6 hP | exact PT_t6 hP | exact PT_l6 hP | exact PT_r7 hP | exact PT_t7 hP | exact PT_l7 hP | exact PT_r9 hP | exact PT_t9 hP | exact PT_l9 hP | exact RT_0 hR) | exact Or.inr (by first | exact PT_0 hP | exact PT_n hP | exact PT_o hP | exact PT_r6 hP | exact PT_t6 hP | exact PT_l6 hP | exact PT_r7 hP | exact PT_t7 hP | exact PT_l7 hP | exact PT_r9 hP | exact PT_t9 hP | exact PT_l9 hP | exact RT_0 hR)) (by first | exact PT_0 hP | exact PT_n hP | exact PT_o hP | exact PT_r6 hP | exact PT_t6 hP | exact PT_l6 hP | exact PT_r7 hP | exact PT_t7 hP | exact PT_l7 hP | exact PT_r9 hP | exact PT_t9 hP | exact PT_l9 hP | exact RT_0 hR) (by first | omega | exact hc _ _ | exact bi_rg _ | exact zrg _) (by first | omega | exact hc _ _ | exact bi_rg _ | exact zrg _) (by omega) (gw_al0 at64_24 (gw_gr at64_25 (by first | exact PT_0 hP | exact PT_n hP | exact PT_o hP | exact PT_r6 hP | exact PT_t6 hP | exact PT_l6 hP | exact PT_r7 hP | exact PT_t7 hP | exact PT_l7 hP | exact PT_r9 hP | exact PT_t9 hP | exact PT_l9 hP | exact RT_0 hR) (by first | exact PT_0 hP | exact PT_n hP | exact PT_o hP | exact PT_r6 hP | exact PT_t6 hP | exact PT_l6 hP | exact PT_r7 hP | exact PT_t7 hP | exact PT_l7 hP | exact PT_r9 hP | exact PT_t9 hP | exact PT_l9 hP | exact RT_0 hR) (gw_il2 at64_28 (gw_ia at64_29 (by first | exact Or.inl (by first | exact PT_0 hP | exact PT_n hP | exact PT_o hP | exact PT_r6 hP | exact PT_t6 hP | exact PT_l6 hP | exact PT_r7 hP | exact PT_t7 hP | exact PT_l7 hP | exact PT_r9 hP | exact PT_t9 hP | exact PT_l9 hP | exact RT_0 hR) | exact Or.inr (by first | exact PT_0 hP | exact PT_n hP | exact PT_o hP | exact PT_r6 hP | exact PT_t6 hP | exact PT_l6 hP | exact PT_r7 hP | exact PT_t7 hP | exact PT_l7 hP | exact PT_r9 hP | exact PT_t9 hP | exact PT_l9 hP | exact RT_0 hR)) (by first | exact PT_0 hP | exact PT_n hP | exact PT_o hP | exact PT_r6 hP | exact PT_t6 hP | exact PT_l6 hP | exact PT_r7 hP | exact PT_t7 hP | exact PT_l7 hP | exact PT_r9 hP | exact PT_t9 hP | exact PT_l9 hP | exact RT_0 hR) (by first | omega | exact hc _ _ | exact bi_rg _ | exact zrg _) (by first | omega | exact hc _ _ | exact bi_rg _ | exact zrg _) (by omega) (gw_callP3 at64_30 (c_costBehind hR hc (hc _ _) (hc _ _)) (by omega) (Nat.le_of_ble_eq_true rfl) (gw_is4 at64_33 (h := (gw_il4 at64_35 (gw_al0 at64_37 (gw_gr at64_38 (by first | exact PT_0 hP | exact PT_n hP | exact PT_o hP | exact PT_r6 hP | exact PT_t6 hP | exact PT_l6 hP | exact PT_r7 hP | exact PT_t7 hP | exact PT_l7 hP | exact PT_r9 hP | exact PT_t9 hP | exact PT_l9 hP | exact RT_0 hR) (by first | exact PT_0 hP | exact PT_n hP | exact PT_o hP | exact PT_r6 hP | exact PT_t6 hP | exact PT_l6 hP | exact PT_r7 hP | exact PT_t7 hP | exact PT_l7 hP | exact PT_r9 hP | exact PT_t9 hP | exact PT_l9 hP | exact RT_0 hR) (gw_il3 at64_41 (gw_const at64_42 (gw_il2 at64_43 (gw_ishl at64_44 (gw_const at64_45 (gw_ixor at64_46 (gw_iand at64_47 (gw_al0 at64_48 (gw_gf (j := 8) at64_49 (by first | exact PT_0 hP | exact PT_n hP | exact PT_o hP | exact PT_r6 hP | exact PT_t6 hP | exact PT_l6 hP | exact PT_r7 hP | exact PT_t7 hP | exact PT_l7 hP | exact PT_r9 hP | exact PT_t9 hP | exact PT_l9 hP | exact RT_0 hR) rfl (gw_imul at64_52 (gw_il2 at64_53 (gw_iadd at64_54 (gw_ia at64_55 (by first | exact Or.inl (by first | exact PT_0 hP | exact PT_n hP | exact PT_o hP | exact PT_r6 hP | exact PT_t6 hP | exact PT_l6 hP | exact PT_r7 hP | exact PT_t7 hP | exact PT_l7 hP | exact PT_r9 hP | exact PT_t9 hP | exact PT_l9 hP | exact RT_0 hR) | exact Or.inr (by first | exact PT_0 hP | exact PT_n hP | exact PT_o hP | exact PT_r6 hP | exact PT_t6 hP | exact PT_l6 hP | exact PT_r7 hP | exact PT_t7 hP | exact PT_l7 hP | exact PT_r9 hP | exact PT_t9 hP | exact PT_l9 hP | exact RT_0 hR)) (by first | exact PT_0 hP | exact PT_n hP | exact PT_o hP | exact PT_r6 hP | exact PT_t6 hP | exact PT_l6 hP | exact PT_r7 hP | exact PT_t7 hP | exact PT_l7 hP | exact PT_r9 hP | exact PT_t9 hP | exact PT_l9 hP | exact RT_0 hR) (by first | omega | exact hc _ _ | exact bi_rg _ | exact zrg _) (by first | omega | exact hc _ _ | exact bi_rg _ | exact zrg _) (by omega) (gw_iadd at64_56 (gw_ri at64_57 am_r64.2.1 (gR_i ?_)))))))))))))))))))))))))))))))
    unfold ctr clr
    first | (rw [if_pos (by omega)]; done) | (rw [if_neg (by omega)]; done)
  · refine gw_al0 at64_5 (gw_gr at64_6 (by first | exact PT_0 hP | exact PT_n hP | exact PT_o hP | exact PT_r6 hP | exact PT_t6 hP | exact PT_l6 hP | exact PT_r7 hP | exact PT_t7 hP | exact PT_l7 hP | exact PT_r9 hP | exact PT_t9 hP | exact PT_l9 hP | exact RT_0 hR) (by first | exact PT_0 hP | exact PT_n hP | exact PT_o hP | exact PT_r6 hP | exact PT_t6 hP | exact PT_l6 hP | exact PT_r7 hP | exact PT_t7 hP | exact PT_l7 hP | exact PT_r9 hP | exact PT_t9 hP | exact PT_l9 hP | exact RT_0 hR) (gw_il2 at64_9 (gw_ia at64_10 (by first | exact Or.inl (by first | exact PT_0 hP | exact PT_n hP | exact PT_o hP | exact PT_r6 hP | exact PT_t6 hP | exact PT_l6 hP | exact PT_r7 hP | exact PT_t7 hP | exact PT_l7 hP | exact PT_r9 hP | exact PT_t9 hP | exact PT_l9 hP | exact RT_0 hR) | exact Or.inr (by first | exact PT_0 hP | exact PT_n hP | exact PT_o hP | exact PT_r6 hP | exact PT_t6 hP | exact PT_l6 hP | exact PT_r7 hP | exact PT_t7 hP | exact PT_l7 hP | exact PT_r9 hP | exact PT_t9 hP | exact PT_l9 hP | exact RT_0 hR)) (by first | exact PT_0 hP | exact PT_n hP | exact PT_o hP | exact PT_r6 hP | exact PT_t6 hP | exact PT_l6 hP | exact PT_r7 hP | exact PT_t7 hP | exact PT_l7 hP | exact PT_r9 hP | exact PT_t9 hP | exact PT_l9 hP | exact RT_0 hR) (by first | omega | exact hc _ _ | exact bi_rg _ | exact zrg _) (by first | omega | exact hc _ _ | exact bi_rg _ | exact zrg _) (by omega) (gw_goto at64_11 (gw_is4 at64_33 (h := (gw_il4 at64_35 (gw_al0 at64_37 (gw_gr at64_38 (by first | exact PT_0 hP | exact PT_n hP | exact PT_o hP | exact PT_r6 hP | exact PT_t6 hP | exact PT_l6 hP | exact PT_r7 hP | exact PT_t7 hP | exact PT_l7 hP | exact PT_r9 hP | exact PT_t9 hP | exact PT_l9 hP | exact RT_0 hR) (by first | exact PT_0 hP | exact PT_n hP | exact PT_o hP | exact PT_r6 hP | exact PT_t6 hP | exact PT_l6 hP | exact PT_r7 hP | exact PT_t7 hP | exact PT_l7 hP | exact PT_r9 hP | exact PT_t9 hP | exact PT_l9 hP | exact RT_0 hR) (gw_il3 at64_41 (gw_const at64_42 (gw_il2 at64_43 (gw_ishl at64_44 (gw_const at64_45 (gw_ixor at64_46 (gw_iand at64_47 (gw_al0 at64_48 (gw_gf (j := 8) at64_49 (by first | exact PT_0 hP | exact PT_n hP | exact PT_o hP | exact PT_r6 hP | exact PT_t6 hP | exact PT_l6 hP | exact PT_r7 hP | exact PT_t7 hP | exact PT_l7 hP | exact PT_r9 hP | exact PT_t9 hP | exact PT_l9 hP | exact RT_0 hR) rfl (gw_imul at64_52 (gw_il2 at64_53 (gw_iadd at64_54 (gw_ia at64_55 (by first | exact Or.inl (by first | exact PT_0 hP | exact PT_n hP | exact PT_o hP | exact PT_r6 hP | exact PT_t6 hP | exact PT_l6 hP | exact PT_r7 hP | exact PT_t7 hP | exact PT_l7 hP | exact PT_r9 hP | exact PT_t9 hP | exact PT_l9 hP | exact RT_0 hR) | exact Or.inr (by first | exact PT_0 hP | exact PT_n hP | exact PT_o hP | exact PT_r6 hP | exact PT_t6 hP | exact PT_l6 hP | exact PT_r7 hP | exact PT_t7 hP | exact PT_l7 hP | exact PT_r9 hP | exact PT_t9 hP | exact PT_l9 hP | exact RT_0 hR)) (by first | exact PT_0 hP | exact PT_n hP | exact PT_o hP | exact PT_r6 hP | exact PT_t6 hP | exact PT_l6 hP | exact PT_r7 hP | exact PT_t7 hP | exact PT_l7 hP | exact PT_r9 hP | exact PT_t9 hP | exact PT_l9 hP | exact RT_0 hR) (by first | omega | exact hc _ _ | exact bi_rg _ | exact zrg _) (by first | omega | exact hc _ _ | exact bi_rg _ | exact zrg _) (by omega) (gw_iadd at64_56 (gw_ri at64_57 am_r64.2.1 (gR_i ?_)))))))))))))))))))))))))
    unfold ctr clr
    first | (rw [if_pos (by omega)]; done) | (rw [if_neg (by omega)]; done)
set_option maxHeartbeats 1000000 in
theorem c_bst {g : Nat} {T : gT} {c J : gC} {R Z : Nat} (hP : PT T R Z) (hR : RT T) (hc : RG c) (hS : SR c) (hQ : PQ c R Z) {S : Int} (hK : PW S (c 100044 8) Z) (hS2 : S ≤ 4096) {l s : Int} (hl : -1 ≤ l ∧ l < c 100044 8) (hs : 0 ≤ s ∧ s < S) (hT : NT T 100014) (hD : -1 ≤ c 100014 3 ∧ c 100014 3 < 10) : gE g 63 2 [.ref 100044, gi l, gi s] (gm T c J) (gR (gi (bst c R l s)) (gm T c J)) := by
  have hn := hQ.1
  refine gE_mk am_r63 rfl (Or.inr ⟨_, rfl, (by first | exact PT_0 hP | exact PT_n hP | exact PT_o hP | exact PT_r6 hP | exact PT_t6 hP | exact PT_l6 hP | exact RT_0 hR | exact NT_0 hT)⟩) (fun d hd => ?_)
  show gw d g 63 0 [.ref 100044, gi l, gi s, am_U, am_U] [] _ _
  refine gw_il2 at63_0 ?_
  refine gw_zne at63_1 (by first | omega | exact hc _ _ | (have := ctr_rg (l := l) (x := i) hS hQ hK hs hS2 (by omega); omega)) (fun q1 => ?_) (fun q1 => ?_)
  · refine gw_ldc (z := 100000000) at63_37 (by decide) (gw_is3 at63_39 (h := (gw_const at63_40 (gw_is4 at63_41 (h := ?_)))))
    have lp43 : ∀ i : Int, 0 ≤ i → i ≤ 12 → i ≤ c 100044 8 → ∀ a : Int, a = itI (bsf c R l s) 100000000 i → gw d g 63 43 [.ref 100044, gi l, gi s, gi a, gi i] [] (gm T c J) (gR (gi (bst c R l s)) (gm T c J)) := by
      refine ind_up 12 ?_
      intro i hi0 hi1 ih hi2 a ha
      have ha2 : 0 ≤ a ∧ a ≤ 100000000 := by rw [ha]; exact bsi_rg hS hQ hK hs hS2 hi2
      refine gw_il4 at63_43 ?_
      refine gw_al0 at63_45 (gw_gf (j := 8) at63_46 (by first | exact PT_0 hP | exact PT_n hP | exact PT_o hP | exact PT_r6 hP | exact PT_t6 hP | exact PT_l6 hP | exact RT_0 hR | exact NT_0 hT) rfl ?_)
      refine gw_cge at63_49 (by first | omega | exact hc _ _ | (have := ctr_rg (l := l) (x := i) hS hQ hK hs hS2 (by omega); omega)) (by first | omega | exact hc _ _ | (have := ctr_rg (l := l) (x := i) hS hQ hK hs hS2 (by omega); omega)) (fun q49 => ?_) (fun q49 => ?_)
      · refine gw_il3 at63_80 (gw_ri at63_81 am_r63.2.1 (gR_i ?_))
        unfold bst
        rw [if_neg (by assumption), ha, show i = c 100044 8 by omega]
      · refine gw_il2 at63_52 (gw_il4 at63_53 (gw_callP2 at63_55 (c_contains) (by omega) (Nat.le_of_ble_eq_true rfl) ?_))
        refine gw_beq at63_58 (fun q58 => ?_) (fun q58 => ?_)
        · refine gw_inc4 at63_74 (h := (gw_goto at63_77 ?_))
          refine ih (i + 1) (by omega) (by omega) (by omega) _ ?_
          rw [itI_s _ _ hi0, ← ha]
          unfold bsf
          first | (rw [if_pos (by assumption)]; done) | (rw [if_neg (by simp [*])]; done)
        · refine gw_il3 at63_61 (gw_al0 at63_62 (gw_il1 at63_63 (gw_il4 at63_64 (gw_il2 at63_66 (gw_callP4 at63_67 (c_ctr hP hR hc hS hQ hK hS2 (by omega) (by omega) (by omega)) (by omega) (Nat.le_of_ble_eq_true rfl) (gw_min at63_70 (by first | omega | exact hc _ _ | (have := ctr_rg (l := l) (x := i) hS hQ hK hs hS2 (by omega); omega)) (by first | omega | exact hc _ _ | (have := ctr_rg (l := l) (x := i) hS hQ hK hs hS2 (by omega); omega)) (Nat.le_of_ble_eq_true rfl) (gw_is3 at63_73 (h := (gw_inc4 at63_74 (h := (gw_goto at63_77 ?_)))))))))))
          refine ih (i + 1) (by omega) (by omega) (by omega) _ ?_
          rw [itI_s _ _ hi0, ← ha]
          unfold bsf
          first | (rw [if_pos (by assumption)]; done) | (rw [if_neg (by simp [*])]; done)
    exact lp43 0 (by omega) (by omega) (by omega) _ rfl
  · refine gw_al0 at63_4 (gw_gr at63_5 (by first | exact PT_0 hP | exact PT_n hP | exact PT_o hP | exact PT_r6 hP | exact PT_t6 hP | exact PT_l6 hP | exact RT_0 hR | exact NT_0 hT) (by first | exact PT_0 hP | exact PT_n hP | exact PT_o hP | exact PT_r6 hP | exact PT_t6 hP | exact PT_l6 hP | exact RT_0 hR | exact NT_0 hT) (gw_il1 at63_8 (gw_const at63_9 ?_)))
    refine gw_cne at63_10 (by first | omega | exact hc _ _ | (have := ctr_rg (l := l) (x := i) hS hQ hK hs hS2 (by omega); omega)) (by first | omega | exact hc _ _ | (have := ctr_rg (l := l) (x := i) hS hQ hK hs hS2 (by omega); omega)) (fun q10 => ?_) (fun q10 => ?_)
    · refine gw_al0 at63_17 (gw_gr at63_18 (by first | exact PT_0 hP | exact PT_n hP | exact PT_o hP | exact PT_r6 hP | exact PT_t6 hP | exact PT_l6 hP | exact RT_0 hR | exact NT_0 hT) (by first | exact PT_0 hP | exact PT_n hP | exact PT_o hP | exact PT_r6 hP | exact PT_t6 hP | exact PT_l6 hP | exact RT_0 hR | exact NT_0 hT) (gw_il1 at63_21 (gw_ia at63_22 (by first | exact Or.inl (by first | exact PT_0 hP | exact PT_n hP | exact PT_o hP | exact PT_r6 hP | exact PT_t6 hP | exact PT_l6 hP | exact RT_0 hR | exact NT_0 hT) | exact Or.inr (by first | exact PT_0 hP | exact PT_n hP | exact PT_o hP | exact PT_r6 hP | exact PT_t6 hP | exact PT_l6 hP | exact RT_0 hR | exact NT_0 hT)) (by first | exact PT_0 hP | exact PT_n hP | exact PT_o hP | exact PT_r6 hP | exact PT_t6 hP | exact PT_l6 hP | exact RT_0 hR | exact NT_0 hT) (by first | omega | exact hc _ _ | (have := ctr_rg (l := l) (x := i) hS hQ hK hs hS2 (by omega); omega)) (by first | omega | exact hc _ _ | (have := ctr_rg (l := l) (x := i) hS hQ hK hs hS2 (by omega); omega)) (by omega) (gw_al0 at63_23 (gw_gr at63_24 (by first | exact PT_0 hP | exact PT_n hP | exact PT_o hP | exact PT_r6 hP | exact PT_t6 hP | exact PT_l6 hP | exact RT_0 hR | exact NT_0 hT) (by first | exact PT_0 hP | exact PT_n hP | exact PT_o hP | exact PT_r6 hP | exact PT_t6 hP | exact PT_l6 hP | exact RT_0 hR | exact NT_0 hT) (gw_gf (j := 3) at63_27 (by first | exact PT_0 hP | exact PT_n hP | exact PT_o hP | exact PT_r6 hP | exact PT_t6 hP | exact PT_l6 hP | exact RT_0 hR | exact NT_0 hT) rfl (gw_callP1 at63_30 (c_placeOf) (by omega) (Nat.le_of_ble_eq_true rfl) (gw_callP3 at63_33 (c_costBehind hR hc (by first | omega | exact hc _ _) (by omega)) (by omega) (Nat.le_of_ble_eq_true rfl) (gw_ri at63_36 am_r63.2.1 (gR_i ?_))))))))))
      unfold bst
      first | (rw [if_pos (by assumption), if_pos (by omega)]; done) | (rw [if_pos (by assumption), if_neg (by omega)]; done)
    · refine gw_const at63_13 (gw_goto at63_14 (gw_al0 at63_23 (gw_gr at63_24 (by first | exact PT_0 hP | exact PT_n hP | exact PT_o hP | exact PT_r6 hP | exact PT_t6 hP | exact PT_l6 hP | exact RT_0 hR | exact NT_0 hT) (by first | exact PT_0 hP | exact PT_n hP | exact PT_o hP | exact PT_r6 hP | exact PT_t6 hP | exact PT_l6 hP | exact RT_0 hR | exact NT_0 hT) (gw_gf (j := 3) at63_27 (by first | exact PT_0 hP | exact PT_n hP | exact PT_o hP | exact PT_r6 hP | exact PT_t6 hP | exact PT_l6 hP | exact RT_0 hR | exact NT_0 hT) rfl (gw_callP1 at63_30 (c_placeOf) (by omega) (Nat.le_of_ble_eq_true rfl) (gw_callP3 at63_33 (c_costBehind hR hc (by first | omega | exact hc _ _) (by omega)) (by omega) (Nat.le_of_ble_eq_true rfl) (gw_ri at63_36 am_r63.2.1 (gR_i ?_))))))))
      unfold bst
      first | (rw [if_pos (by assumption), if_pos (by omega)]; done) | (rw [if_pos (by assumption), if_neg (by omega)]; done)
