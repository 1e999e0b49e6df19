/-! the road network: its shape, what is read off it -/
def NT (T : gT) (k : Nat) : Prop := (T.1 k).1 = 12 ∧ ((T.1 k).2.2 7 = k + 1 + 1 ∧ (T.1 (k + 1)).1 = 1 ∧ (T.1 (k + 1)).2.1 = 10) ∧ ((T.1 k).2.2 8 = k + 2 + 1 ∧ (T.1 (k + 2)).1 = 1 ∧ (T.1 (k + 2)).2.1 = 10) ∧ ((T.1 k).2.2 9 = k + 3 + 1 ∧ (T.1 (k + 3)).1 = 1 ∧ (T.1 (k + 3)).2.1 = 10) ∧ ((T.1 k).2.2 10 = k + 4 + 1 ∧ (T.1 (k + 4)).1 = 1 ∧ (T.1 (k + 4)).2.1 = 12) ∧ ((T.1 k).2.2 11 = k + 5 + 1 ∧ (T.1 (k + 5)).1 = 1 ∧ (T.1 (k + 5)).2.1 = 12) ∧ ((T.1 k).2.2 12 = k + 6 + 1 ∧ (T.1 (k + 6)).1 = 1 ∧ (T.1 (k + 6)).2.1 = 12) ∧ ((T.1 k).2.2 13 = k + 7 + 1 ∧ (T.1 (k + 7)).1 = 1 ∧ (T.1 (k + 7)).2.1 = 12) ∧ ((T.1 k).2.2 14 = k + 8 + 1 ∧ (T.1 (k + 8)).1 = 1 ∧ (T.1 (k + 8)).2.1 = 12) ∧ ((T.1 k).2.2 15 = k + 9 + 1 ∧ (T.1 (k + 9)).1 = 1 ∧ (T.1 (k + 9)).2.1 = 12) ∧ ((T.1 k).2.2 16 = k + 10 + 1 ∧ (T.1 (k + 10)).1 = 1 ∧ (T.1 (k + 10)).2.1 = 4) ∧ ((T.1 k).2.2 17 = k + 11 + 1 ∧ (T.1 (k + 11)).1 = 1 ∧ (T.1 (k + 11)).2.1 = 3)
theorem NT_0 {T : gT} {k : Nat} (h : NT T k) : (T.1 k).1 = 12 := h.1
theorem NT_r7 {T : gT} {k : Nat} (h : NT T k) : (T.1 k).2.2 7 = k + 1 + 1 := h.2.1.1
theorem NT_t7 {T : gT} {k : Nat} (h : NT T k) : (T.1 (k + 1)).1 = 1 := h.2.1.2.1
theorem NT_l7 {T : gT} {k : Nat} (h : NT T k) : (T.1 (k + 1)).2.1 = 10 := h.2.1.2.2
theorem NT_r8 {T : gT} {k : Nat} (h : NT T k) : (T.1 k).2.2 8 = k + 2 + 1 := h.2.2.1.1
theorem NT_t8 {T : gT} {k : Nat} (h : NT T k) : (T.1 (k + 2)).1 = 1 := h.2.2.1.2.1
theorem NT_l8 {T : gT} {k : Nat} (h : NT T k) : (T.1 (k + 2)).2.1 = 10 := h.2.2.1.2.2
theorem NT_r9 {T : gT} {k : Nat} (h : NT T k) : (T.1 k).2.2 9 = k + 3 + 1 := h.2.2.2.1.1
theorem NT_t9 {T : gT} {k : Nat} (h : NT T k) : (T.1 (k + 3)).1 = 1 := h.2.2.2.1.2.1
theorem NT_l9 {T : gT} {k : Nat} (h : NT T k) : (T.1 (k + 3)).2.1 = 10 := h.2.2.2.1.2.2
theorem NT_r10 {T : gT} {k : Nat} (h : NT T k) : (T.1 k).2.2 10 = k + 4 + 1 := h.2.2.2.2.1.1
theorem NT_t10 {T : gT} {k : Nat} (h : NT T k) : (T.1 (k + 4)).1 = 1 := h.2.2.2.2.1.2.1
theorem NT_l10 {T : gT} {k : Nat} (h : NT T k) : (T.1 (k + 4)).2.1 = 12 := h.2.2.2.2.1.2.2
theorem NT_r11 {T : gT} {k : Nat} (h : NT T k) : (T.1 k).2.2 11 = k + 5 + 1 := h.2.2.2.2.2.1.1
theorem NT_t11 {T : gT} {k : Nat} (h : NT T k) : (T.1 (k + 5)).1 = 1 := h.2.2.2.2.2.1.2.1
theorem NT_l11 {T : gT} {k : Nat} (h : NT T k) : (T.1 (k + 5)).2.1 = 12 := h.2.2.2.2.2.1.2.2
theorem NT_r12 {T : gT} {k : Nat} (h : NT T k) : (T.1 k).2.2 12 = k + 6 + 1 := h.2.2.2.2.2.2.1.1
theorem NT_t12 {T : gT} {k : Nat} (h : NT T k) : (T.1 (k + 6)).1 = 1 := h.2.2.2.2.2.2.1.2.1
theorem NT_l12 {T : gT} {k : Nat} (h : NT T k) : (T.1 (k + 6)).2.1 = 12 := h.2.2.2.2.2.2.1.2.2
theorem NT_r13 {T : gT} {k : Nat} (h : NT T k) : (T.1 k).2.2 13 = k + 7 + 1 := h.2.2.2.2.2.2.2.1.1
theorem NT_t13 {T : gT} {k : Nat} (h : NT T k) : (T.1 (k + 7)).1 = 1 := h.2.2.2.2.2.2.2.1.2.1
theorem NT_l13 {T : gT} {k : Nat} (h : NT T k) : (T.1 (k + 7)).2.1 = 12 := h.2.2.2.2.2.2.2.1.2.2
theorem NT_r14 {T : gT} {k : Nat} (h : NT T k) : (T.1 k).2.2 14 = k + 8 + 1 := h.2.2.2.2.2.2.2.2.1.1
theorem NT_t14 {T : gT} {k : Nat} (h : NT T k) : (T.1 (k + 8)).1 = 1 := h.2.2.2.2.2.2.2.2.1.2.1
theorem NT_l14 {T : gT} {k : Nat} (h : NT T k) : (T.1 (k + 8)).2.1 = 12 := h.2.2.2.2.2.2.2.2.1.2.2
theorem NT_r15 {T : gT} {k : Nat} (h : NT T k) : (T.1 k).2.2 15 = k + 9 + 1 := h.2.2.2.2.2.2.2.2.2.1.1
theorem NT_t15 {T : gT} {k : Nat} (h : NT T k) : (T.1 (k + 9)).1 = 1 := h.2.2.2.2.2.2.2.2.2.1.2.1
theorem NT_l15 {T : gT} {k : Nat} (h : NT T k) : (T.1 (k + 9)).2.1 = 12 := h.2.2.2.2.2.2.2.2.2.1.2.2
theorem NT_r16 {T : gT} {k : Nat} (h : NT T k) : (T.1 k).2.2 16 = k + 10 + 1 := h.2.2.2.2.2.2.2.2.2.2.1.1
theorem NT_t16 {T : gT} {k : Nat} (h : NT T k) : (T.1 (k + 10)).1 = 1 := h.2.2.2.2.2.2.2.2.2.2.1.2.1
theorem NT_l16 {T : gT} {k : Nat} (h : NT T k) : (T.1 (k + 10)).2.1 = 4 := h.2.2.2.2.2.2.2.2.2.2.1.2.2
theorem NT_r17 {T : gT} {k : Nat} (h : NT T k) : (T.1 k).2.2 17 = k + 11 + 1 := h.2.2.2.2.2.2.2.2.2.2.2.1
theorem NT_t17 {T : gT} {k : Nat} (h : NT T k) : (T.1 (k + 11)).1 = 1 := h.2.2.2.2.2.2.2.2.2.2.2.2.1
theorem NT_l17 {T : gT} {k : Nat} (h : NT T k) : (T.1 (k + 11)).2.1 = 3 := h.2.2.2.2.2.2.2.2.2.2.2.2.2
def bg (c : gC) (k : Nat) (a : Int) : Int := if 0 ≤ a ∧ a < 24 then (if a % 2 = 0 then c (k + 5) (a / 2) else c (k + 6) (a / 2)) else -1
def en (c : gC) (k : Nat) (a : Int) : Int := if 0 ≤ a ∧ a < 24 then (if a % 2 = 0 then c (k + 6) (a / 2) else c (k + 5) (a / 2)) else -1
def ln (c : gC) (k : Nat) (a : Int) : Int := if 0 ≤ a ∧ a < 24 then c (k + 7) (a / 2) else 0
def cl (c : gC) (k : Nat) (a : Int) : Int := if 0 ≤ a ∧ a < 24 then c (k + 8) (a / 2) else -1
def hA (c : gC) (k : Nat) (a : Int) : Bool := decide (0 ≤ a) && decide (a < 2 * c k 2) && (decide (a % 2 = 0) || !tb (c k 6) (a / 2))
def xo (c : gC) (k : Nat) (n : Int) : Int := if 0 ≤ n ∧ n < 10 then c (k + 2) n else 0
def yo (c : gC) (k : Nat) (n : Int) : Int := if 0 ≤ n ∧ n < 10 then c (k + 3) n else 0
def kdz (dx dy ex ey : Int) : Int := if dx * ey - dy * ex = 0 then (if 0 < dx * ex + dy * ey then 0 else 3) else (if 0 < dx * ey - dy * ex then 2 else 1)
def tkd (c : gC) (k : Nat) (a b : Int) : Int := kdz (xo c k (en c k a) - xo c k (bg c k a)) (yo c k (en c k a) - yo c k (bg c k a)) (xo c k (en c k b) - xo c k (bg c k b)) (yo c k (en c k b) - yo c k (bg c k b))
/-- what is known of the numbers of a network -/
def NR (c : gC) (k : Nat) : Prop := (0 ≤ c k 1 ∧ c k 1 ≤ 10) ∧ (0 ≤ c k 2 ∧ c k 2 ≤ 12) ∧ (∀ i : Int, 0 ≤ i → i < 10 → (0 ≤ c (k + 2) i ∧ c (k + 2) i ≤ 99) ∧ (0 ≤ c (k + 3) i ∧ c (k + 3) i ≤ 99)) ∧
  (∀ i : Int, 0 ≤ i → i < 12 → (-1 ≤ c (k + 5) i ∧ c (k + 5) i < 10) ∧ (-1 ≤ c (k + 6) i ∧ c (k + 6) i < 10) ∧ (0 ≤ c (k + 7) i ∧ c (k + 7) i ≤ 999) ∧ (0 ≤ c (k + 8) i ∧ c (k + 8) i ≤ 3)) ∧
  (∀ i : Int, 0 ≤ i → i < 4 → 0 ≤ c (k + 10) i ∧ c (k + 10) i ≤ 99) ∧ (∀ i : Int, 0 ≤ i → i < 3 → 0 ≤ c (k + 11) i ∧ c (k + 11) i ≤ 99)
theorem xo_rg {c : gC} {k : Nat} (h : NR c k) (n : Int) : 0 ≤ xo c k n ∧ xo c k n ≤ 99 := by
  unfold xo
  split
  · exact (h.2.2.1 n (by omega) (by omega)).1
  · omega
theorem yo_rg {c : gC} {k : Nat} (h : NR c k) (n : Int) : 0 ≤ yo c k n ∧ yo c k n ≤ 99 := by
  unfold yo
  split
  · exact (h.2.2.1 n (by omega) (by omega)).2
  · omega
theorem ln_rg {c : gC} {k : Nat} (h : NR c k) (a : Int) : 0 ≤ ln c k a ∧ ln c k a ≤ 999 := by
  unfold ln
  split
  · exact (h.2.2.2.1 (a / 2) (by omega) (by omega)).2.2.1
  · omega
theorem cl_rg {c : gC} {k : Nat} (h : NR c k) (a : Int) : -1 ≤ cl c k a ∧ cl c k a ≤ 3 := by
  unfold cl
  split
  · have := (h.2.2.2.1 (a / 2) (by omega) (by omega)).2.2.2; omega
  · omega
theorem bg_rg {c : gC} {k : Nat} (h : NR c k) (a : Int) : -1 ≤ bg c k a ∧ bg c k a < 10 := by
  unfold bg
  split
  · have := h.2.2.2.1 (a / 2) (by omega) (by omega)
    split <;> omega
  · omega
theorem en_rg {c : gC} {k : Nat} (h : NR c k) (a : Int) : -1 ≤ en c k a ∧ en c k a < 10 := by
  unfold en
  split
  · have := h.2.2.2.1 (a / 2) (by omega) (by omega)
    split <;> omega
  · omega
theorem mul99 {a b : Int} (ha : -99 ≤ a ∧ a ≤ 99) (hb : -99 ≤ b ∧ b ≤ 99) : -9801 ≤ a * b ∧ a * b ≤ 9801 := by
  have h1 : 0 ≤ (99 - a) * (99 - b) := Int.mul_nonneg (by omega) (by omega)
  have h2 : 0 ≤ (99 + a) * (99 + b) := Int.mul_nonneg (by omega) (by omega)
  have h3 : 0 ≤ (99 - a) * (99 + b) := Int.mul_nonneg (by omega) (by omega)
  have h4 : 0 ≤ (99 + a) * (99 - b) := Int.mul_nonneg (by omega) (by omega)
  rw [Int.sub_mul, Int.mul_sub, Int.mul_sub] at h1
  rw [Int.add_mul, Int.mul_add, Int.mul_add] at h2
  rw [Int.sub_mul, Int.mul_add, Int.mul_add] at h3
  rw [Int.add_mul, Int.mul_sub, Int.mul_sub] at h4
  omega
theorem tkd_rg (c : gC) (k : Nat) (a b : Int) : 0 ≤ tkd c k a b ∧ tkd c k a b ≤ 3 := by
  unfold tkd kdz
  split <;> split <;> omega
set_option maxHeartbeats 1000000 in
theorem c_hasArc {g : Nat} {T : gT} {c J : gC} {k : Nat} (hT : NT T k) (hc : RG c) (hN : NR c k) {a : Int} (ha : -2147483648 ≤ a ∧ a < 2147483648) : gE g 18 1 [.ref k, gi a] (gm T c J) (gR (gi (bi (hA c k a))) (gm T c J)) := by
  have hR := hN.2.1
  refine gE_mk am_r18 rfl (Or.inr ⟨_, rfl, (by first | exact NT_0 hT | assumption)⟩) (fun d hd => ?_)
  show gw d g 18 0 [.ref k, gi a] [] _ _
  refine gw_il1 at18_0 ?_
  refine gw_zlt at18_1 (by first | omega | exact hc _ _ | exact bi_rg _ | exact zrg _) (fun q1 => ?_) (fun q1 => ?_)
  · refine gw_const at18_37 (gw_r0 at18_38 am_r18.2.1 (gR_b ?_))
    unfold hA; simp [*]; try omega
  · refine gw_il1 at18_4 (gw_const at18_5 (gw_al0 at18_6 (gw_gf (j := 2) at18_7 (by first | exact NT_0 hT | assumption) rfl (gw_imul at18_10 ?_))))
    refine gw_cge at18_11 (by first | omega | exact hc _ _ | exact bi_rg _ | exact zrg _) (by first | omega | exact hc _ _ | exact bi_rg _ | exact zrg _) (fun q11 => ?_) (fun q11 => ?_)
    · refine gw_const at18_37 (gw_r0 at18_38 am_r18.2.1 (gR_b ?_))
      unfold hA; simp [*]; try omega
    · refine gw_il1 at18_14 (gw_const at18_15 (gw_and1 at18_16 ?_))
      refine gw_zeq at18_17 (by first | omega | exact hc _ _ | exact bi_rg _ | exact zrg _) (fun q17 => ?_) (fun q17 => ?_)
      · refine gw_const at18_33 (gw_goto at18_34 (gw_r1 at18_38 am_r18.2.1 (gR_b ?_)))
        unfold hA; simp [*]; try omega
      · refine gw_al0 at18_20 (gw_gf (j := 6) at18_21 (by first | exact NT_0 hT | assumption) rfl (gw_il1 at18_24 (gw_const at18_25 (gw_shr1 at18_26 (by first | omega | exact hc _ _ | exact bi_rg _ | exact zrg _) (gw_callP2 at18_27 (c_contains) (by omega) (Nat.le_of_ble_eq_true rfl) ?_)))))
        refine gw_bne at18_30 (fun q30 => ?_) (fun q30 => ?_)
        · refine gw_const at18_37 (gw_r0 at18_38 am_r18.2.1 (gR_b ?_))
          unfold hA; simp [*]; try omega
        · refine gw_const at18_33 (gw_goto at18_34 (gw_r1 at18_38 am_r18.2.1 (gR_b ?_)))
          unfold hA; simp [*]; try omega
set_option maxHeartbeats 1000000 in
theorem c_beginOf {g : Nat} {T : gT} {c J : gC} {k : Nat} (hT : NT T k) (hc : RG c) {a : Int} (ha : -2147483648 ≤ a ∧ a < 2147483648) : gE g 19 0 [.ref k, gi a] (gm T c J) (gR (gi (bg c k a)) (gm T c J)) := by
  refine gE_mk am_r19 rfl (Or.inr ⟨_, rfl, (by first | exact NT_0 hT | exact NT_r11 hT | exact NT_t11 hT | exact NT_l11 hT | exact NT_r12 hT | exact NT_t12 hT | exact NT_l12 hT)⟩) (fun d hd => ?_)
  show gw d g 19 0 [.ref k, gi a] [] _ _
  refine gw_il1 at19_0 ?_
  refine gw_zlt at19_1 (by first | omega | exact hc _ _ | exact bi_rg _ | exact zrg _) (fun q1 => ?_) (fun q1 => ?_)
  · refine gw_const at19_10 (gw_ri at19_11 am_r19.2.1 (gR_i ?_))
    unfold bg; first | (rw [if_pos (by omega), if_pos (by omega)]) | (rw [if_pos (by omega), if_neg (by omega)]) | (rw [if_neg (by omega)])
  · refine gw_il1 at19_4 (gw_bip at19_5 (by decide) ?_)
    refine gw_clt at19_7 (by first | omega | exact hc _ _ | exact bi_rg _ | exact zrg _) (by first | omega | exact hc _ _ | exact bi_rg _ | exact zrg _) (fun q7 => ?_) (fun q7 => ?_)
    · refine gw_il1 at19_12 (gw_const at19_13 (gw_and1 at19_14 ?_))
      refine gw_zne at19_15 (by first | omega | exact hc _ _ | exact bi_rg _ | exact zrg _) (fun q15 => ?_) (fun q15 => ?_)
      · refine gw_al0 at19_29 (gw_gr at19_30 (by first | exact NT_0 hT | exact NT_r11 hT | exact NT_t11 hT | exact NT_l11 hT | exact NT_r12 hT | exact NT_t12 hT | exact NT_l12 hT) (by first | exact NT_0 hT | exact NT_r11 hT | exact NT_t11 hT | exact NT_l11 hT | exact NT_r12 hT | exact NT_t12 hT | exact NT_l12 hT) (gw_il1 at19_33 (gw_const at19_34 (gw_shr1 at19_35 (by first | omega | exact hc _ _ | exact bi_rg _ | exact zrg _) (gw_ia at19_36 (by first | exact Or.inl (by first | exact NT_0 hT | exact NT_r11 hT | exact NT_t11 hT | exact NT_l11 hT | exact NT_r12 hT | exact NT_t12 hT | exact NT_l12 hT) | exact Or.inr (by first | exact NT_0 hT | exact NT_r11 hT | exact NT_t11 hT | exact NT_l11 hT | exact NT_r12 hT | exact NT_t12 hT | exact NT_l12 hT)) (by first | exact NT_0 hT | exact NT_r11 hT | exact NT_t11 hT | exact NT_l11 hT | exact NT_r12 hT | exact NT_t12 hT | exact NT_l12 hT) (by first | omega | exact hc _ _ | exact bi_rg _ | exact zrg _) (by first | omega | exact hc _ _ | exact bi_rg _ | exact zrg _) (by omega) (gw_ri at19_37 am_r19.2.1 (gR_i ?_)))))))
        unfold bg; first | (rw [if_pos (by omega), if_pos (by omega)]) | (rw [if_pos (by omega), if_neg (by omega)]) | (rw [if_neg (by omega)])
      · refine gw_al0 at19_18 (gw_gr at19_19 (by first | exact NT_0 hT | exact NT_r11 hT | exact NT_t11 hT | exact NT_l11 hT | exact NT_r12 hT | exact NT_t12 hT | exact NT_l12 hT) (by first | exact NT_0 hT | exact NT_r11 hT | exact NT_t11 hT | exact NT_l11 hT | exact NT_r12 hT | exact NT_t12 hT | exact NT_l12 hT) (gw_il1 at19_22 (gw_const at19_23 (gw_shr1 at19_24 (by first | omega | exact hc _ _ | exact bi_rg _ | exact zrg _) (gw_ia at19_25 (by first | exact Or.inl (by first | exact NT_0 hT | exact NT_r11 hT | exact NT_t11 hT | exact NT_l11 hT | exact NT_r12 hT | exact NT_t12 hT | exact NT_l12 hT) | exact Or.inr (by first | exact NT_0 hT | exact NT_r11 hT | exact NT_t11 hT | exact NT_l11 hT | exact NT_r12 hT | exact NT_t12 hT | exact NT_l12 hT)) (by first | exact NT_0 hT | exact NT_r11 hT | exact NT_t11 hT | exact NT_l11 hT | exact NT_r12 hT | exact NT_t12 hT | exact NT_l12 hT) (by first | omega | exact hc _ _ | exact bi_rg _ | exact zrg _) (by first | omega | exact hc _ _ | exact bi_rg _ | exact zrg _) (by omega) (gw_goto at19_26 (gw_ri at19_37 am_r19.2.1 (gR_i ?_))))))))
        unfold bg; first | (rw [if_pos (by omega), if_pos (by omega)]) | (rw [if_pos (by omega), if_neg (by omega)]) | (rw [if_neg (by omega)])
    · refine gw_const at19_10 (gw_ri at19_11 am_r19.2.1 (gR_i ?_))
      unfold bg; first | (rw [if_pos (by omega), if_pos (by omega)]) | (rw [if_pos (by omega), if_neg (by omega)]) | (rw [if_neg (by omega)])
set_option maxHeartbeats 1000000 in
theorem c_endOf {g : Nat} {T : gT} {c J : gC} {k : Nat} (hT : NT T k) (hc : RG c) {a : Int} (ha : -2147483648 ≤ a ∧ a < 2147483648) : gE g 20 0 [.ref k, gi a] (gm T c J) (gR (gi (en c k a)) (gm T c J)) := by
  refine gE_mk am_r20 rfl (Or.inr ⟨_, rfl, (by first | exact NT_0 hT | exact NT_r11 hT | exact NT_t11 hT | exact NT_l11 hT | exact NT_r12 hT | exact NT_t12 hT | exact NT_l12 hT)⟩) (fun d hd => ?_)
  show gw d g 20 0 [.ref k, gi a] [] _ _
  refine gw_il1 at20_0 ?_
  refine gw_zlt at20_1 (by first | omega | exact hc _ _ | exact bi_rg _ | exact zrg _) (fun q1 => ?_) (fun q1 => ?_)
  · refine gw_const at20_10 (gw_ri at20_11 am_r20.2.1 (gR_i ?_))
    unfold en; first | (rw [if_pos (by omega), if_pos (by omega)]) | (rw [if_pos (by omega), if_neg (by omega)]) | (rw [if_neg (by omega)])
  · refine gw_il1 at20_4 (gw_bip at20_5 (by decide) ?_)
    refine gw_clt at20_7 (by first | omega | exact hc _ _ | exact bi_rg _ | exact zrg _) (by first | omega | exact hc _ _ | exact bi_rg _ | exact zrg _) (fun q7 => ?_) (fun q7 => ?_)
    · refine gw_il1 at20_12 (gw_const at20_13 (gw_and1 at20_14 ?_))
      refine gw_zne at20_15 (by first | omega | exact hc _ _ | exact bi_rg _ | exact zrg _) (fun q15 => ?_) (fun q15 => ?_)
      · refine gw_al0 at20_29 (gw_gr at20_30 (by first | exact NT_0 hT | exact NT_r11 hT | exact NT_t11 hT | exact NT_l11 hT | exact NT_r12 hT | exact NT_t12 hT | exact NT_l12 hT) (by first | exact NT_0 hT | exact NT_r11 hT | exact NT_t11 hT | exact NT_l11 hT | exact NT_r12 hT | exact NT_t12 hT | exact NT_l12 hT) (gw_il1 at20_33 (gw_const at20_34 (gw_shr1 at20_35 (by first | omega | exact hc _ _ | exact bi_rg _ | exact zrg _) (gw_ia at20_36 (by first | exact Or.inl (by first | exact NT_0 hT | exact NT_r11 hT | exact NT_t11 hT | exact NT_l11 hT | exact NT_r12 hT | exact NT_t12 hT | exact NT_l12 hT) | exact Or.inr (by first | exact NT_0 hT | exact NT_r11 hT | exact NT_t11 hT | exact NT_l11 hT | exact NT_r12 hT | exact NT_t12 hT | exact NT_l12 hT)) (by first | exact NT_0 hT | exact NT_r11 hT | exact NT_t11 hT | exact NT_l11 hT | exact NT_r12 hT | exact NT_t12 hT | exact NT_l12 hT) (by first | omega | exact hc _ _ | exact bi_rg _ | exact zrg _) (by first | omega | exact hc _ _ | exact bi_rg _ | exact zrg _) (by omega) (gw_ri at20_37 am_r20.2.1 (gR_i ?_)))))))
        unfold en; first | (rw [if_pos (by omega), if_pos (by omega)]) | (rw [if_pos (by omega), if_neg (by omega)]) | (rw [if_neg (by omega)])
      · refine gw_al0 at20_18 (gw_gr at20_19 (by first | exact NT_0 hT | exact NT_r11 hT | exact NT_t11 hT | exact NT_l11 hT | exact NT_r12 hT | exact NT_t12 hT | exact NT_l12 hT) (by first | exact NT_0 hT | exact NT_r11 hT | exact NT_t11 hT | exact NT_l11 hT | exact NT_r12 hT | exact NT_t12 hT | exact NT_l12 hT) (gw_il1 at20_22 (gw_const at20_23 (gw_shr1 at20_24 (by first | omega | exact hc _ _ | exact bi_rg _ | exact zrg _) (gw_ia at20_25 (by first | exact Or.inl (by first | exact NT_0 hT | exact NT_r11 hT | exact NT_t11 hT | exact NT_l11 hT | exact NT_r12 hT | exact NT_t12 hT | exact NT_l12 hT) | exact Or.inr (by first | exact NT_0 hT | exact NT_r11 hT | exact NT_t11 hT | exact NT_l11 hT | exact NT_r12 hT | exact NT_t12 hT | exact NT_l12 hT)) (by first | exact NT_0 hT | exact NT_r11 hT | exact NT_t11 hT | exact NT_l11 hT | exact NT_r12 hT | exact NT_t12 hT | exact NT_l12 hT) (by first | omega | exact hc _ _ | exact bi_rg _ | exact zrg _) (by first | omega | exact hc _ _ | exact bi_rg _ | exact zrg _) (by omega) (gw_goto at20_26 (gw_ri at20_37 am_r20.2.1 (gR_i ?_))))))))
        unfold en; first | (rw [if_pos (by omega), if_pos (by omega)]) | (rw [if_pos (by omega), if_neg (by omega)]) | (rw [if_neg (by omega)])
    · refine gw_const at20_10 (gw_ri at20_11 am_r20.2.1 (gR_i ?_))
      unfold en; first | (rw [if_pos (by omega), if_pos (by omega)]) | (rw [if_pos (by omega), if_neg (by omega)]) | (rw [if_neg (by omega)])
set_option maxHeartbeats 1000000 in
theorem c_lengthOf {g : Nat} {T : gT} {c J : gC} {k : Nat} (hT : NT T k) (hc : RG c) {a : Int} (ha : -2147483648 ≤ a ∧ a < 2147483648) : gE g 21 0 [.ref k, gi a] (gm T c J) (gR (gi (ln c k a)) (gm T c J)) := by
  refine gE_mk am_r21 rfl (Or.inr ⟨_, rfl, (by first | exact NT_0 hT | exact NT_r13 hT | exact NT_t13 hT | exact NT_l13 hT)⟩) (fun d hd => ?_)
  show gw d g 21 0 [.ref k, gi a] [] _ _
  refine gw_il1 at21_0 ?_
  refine gw_zlt at21_1 (by first | omega | exact hc _ _ | exact bi_rg _ | exact zrg _) (fun q1 => ?_) (fun q1 => ?_)
  · refine gw_const at21_10 (gw_goto at21_11 (gw_ri at21_22 am_r21.2.1 (gR_i ?_)))
    unfold ln; first | (rw [if_pos (by omega)]) | (rw [if_neg (by omega)])
  · refine gw_il1 at21_4 (gw_bip at21_5 (by decide) ?_)
    refine gw_clt at21_7 (by first | omega | exact hc _ _ | exact bi_rg _ | exact zrg _) (by first | omega | exact hc _ _ | exact bi_rg _ | exact zrg _) (fun q7 => ?_) (fun q7 => ?_)
    · refine gw_al0 at21_14 (gw_gr at21_15 (by first | exact NT_0 hT | exact NT_r13 hT | exact NT_t13 hT | exact NT_l13 hT) (by first | exact NT_0 hT | exact NT_r13 hT | exact NT_t13 hT | exact NT_l13 hT) (gw_il1 at21_18 (gw_const at21_19 (gw_shr1 at21_20 (by first | omega | exact hc _ _ | exact bi_rg _ | exact zrg _) (gw_ia at21_21 (by first | exact Or.inl (by first | exact NT_0 hT | exact NT_r13 hT | exact NT_t13 hT | exact NT_l13 hT) | exact Or.inr (by first | exact NT_0 hT | exact NT_r13 hT | exact NT_t13 hT | exact NT_l13 hT)) (by first | exact NT_0 hT | exact NT_r13 hT | exact NT_t13 hT | exact NT_l13 hT) (by first | omega | exact hc _ _ | exact bi_rg _ | exact zrg _) (by first | omega | exact hc _ _ | exact bi_rg _ | exact zrg _) (by omega) (gw_ri at21_22 am_r21.2.1 (gR_i ?_)))))))
      unfold ln; first | (rw [if_pos (by omega)]) | (rw [if_neg (by omega)])
    · refine gw_const at21_10 (gw_goto at21_11 (gw_ri at21_22 am_r21.2.1 (gR_i ?_)))
      unfold ln; first | (rw [if_pos (by omega)]) | (rw [if_neg (by omega)])
set_option maxHeartbeats 1000000 in
theorem c_classOf {g : Nat} {T : gT} {c J : gC} {k : Nat} (hT : NT T k) (hc : RG c) {a : Int} (ha : -2147483648 ≤ a ∧ a < 2147483648) : gE g 22 0 [.ref k, gi a] (gm T c J) (gR (gi (cl c k a)) (gm T c J)) := by
  refine gE_mk am_r22 rfl (Or.inr ⟨_, rfl, (by first | exact NT_0 hT | exact NT_r14 hT | exact NT_t14 hT | exact NT_l14 hT)⟩) (fun d hd => ?_)
  show gw d g 22 0 [.ref k, gi a] [] _ _
  refine gw_il1 at22_0 ?_
  refine gw_zlt at22_1 (by first | omega | exact hc _ _ | exact bi_rg _ | exact zrg _) (fun q1 => ?_) (fun q1 => ?_)
  · refine gw_const at22_10 (gw_goto at22_11 (gw_ri at22_22 am_r22.2.1 (gR_i ?_)))
    unfold cl; first | (rw [if_pos (by omega)]) | (rw [if_neg (by omega)])
  · refine gw_il1 at22_4 (gw_bip at22_5 (by decide) ?_)
    refine gw_clt at22_7 (by first | omega | exact hc _ _ | exact bi_rg _ | exact zrg _) (by first | omega | exact hc _ _ | exact bi_rg _ | exact zrg _) (fun q7 => ?_) (fun q7 => ?_)
    · refine gw_al0 at22_14 (gw_gr at22_15 (by first | exact NT_0 hT | exact NT_r14 hT | exact NT_t14 hT | exact NT_l14 hT) (by first | exact NT_0 hT | exact NT_r14 hT | exact NT_t14 hT | exact NT_l14 hT) (gw_il1 at22_18 (gw_const at22_19 (gw_shr1 at22_20 (by first | omega | exact hc _ _ | exact bi_rg _ | exact zrg _) (gw_ia at22_21 (by first | exact Or.inl (by first | exact NT_0 hT | exact NT_r14 hT | exact NT_t14 hT | exact NT_l14 hT) | exact Or.inr (by first | exact NT_0 hT | exact NT_r14 hT | exact NT_t14 hT | exact NT_l14 hT)) (by first | exact NT_0 hT | exact NT_r14 hT | exact NT_t14 hT | exact NT_l14 hT) (by first | omega | exact hc _ _ | exact bi_rg _ | exact zrg _) (by first | omega | exact hc _ _ | exact bi_rg _ | exact zrg _) (by omega) (gw_ri at22_22 am_r22.2.1 (gR_i ?_)))))))
      unfold cl; first | (rw [if_pos (by omega)]) | (rw [if_neg (by omega)])
    · refine gw_const at22_10 (gw_goto at22_11 (gw_ri at22_22 am_r22.2.1 (gR_i ?_)))
      unfold cl; first | (rw [if_pos (by omega)]) | (rw [if_neg (by omega)])
set_option maxHeartbeats 1000000 in
theorem c_xOf {g : Nat} {T : gT} {c J : gC} {k : Nat} (hT : NT T k) (hc : RG c) {n : Int} (hn : -2147483648 ≤ n ∧ n < 2147483648) : gE g 26 0 [.ref k, gi n] (gm T c J) (gR (gi (xo c k n)) (gm T c J)) := by
  refine gE_mk am_r26 rfl (Or.inr ⟨_, rfl, (by first | exact NT_0 hT | exact NT_r8 hT | exact NT_t8 hT | exact NT_l8 hT)⟩) (fun d hd => ?_)
  show gw d g 26 0 [.ref k, gi n] [] _ _
  refine gw_il1 at26_0 ?_
  refine gw_zlt at26_1 (by first | omega | exact hc _ _ | exact bi_rg _ | exact zrg _) (fun q1 => ?_) (fun q1 => ?_)
  · refine gw_const at26_10 (gw_goto at26_11 (gw_ri at26_20 am_r26.2.1 (gR_i ?_)))
    unfold xo; first | (rw [if_pos (by omega)]) | (rw [if_neg (by omega)])
  · refine gw_il1 at26_4 (gw_bip at26_5 (by decide) ?_)
    refine gw_clt at26_7 (by first | omega | exact hc _ _ | exact bi_rg _ | exact zrg _) (by first | omega | exact hc _ _ | exact bi_rg _ | exact zrg _) (fun q7 => ?_) (fun q7 => ?_)
    · refine gw_al0 at26_14 (gw_gr at26_15 (by first | exact NT_0 hT | exact NT_r8 hT | exact NT_t8 hT | exact NT_l8 hT) (by first | exact NT_0 hT | exact NT_r8 hT | exact NT_t8 hT | exact NT_l8 hT) (gw_il1 at26_18 (gw_ia at26_19 (by first | exact Or.inl (by first | exact NT_0 hT | exact NT_r8 hT | exact NT_t8 hT | exact NT_l8 hT) | exact Or.inr (by first | exact NT_0 hT | exact NT_r8 hT | exact NT_t8 hT | exact NT_l8 hT)) (by first | exact NT_0 hT | exact NT_r8 hT | exact NT_t8 hT | exact NT_l8 hT) (by first | omega | exact hc _ _ | exact bi_rg _ | exact zrg _) (by first | omega | exact hc _ _ | exact bi_rg _ | exact zrg _) (by omega) (gw_ri at26_20 am_r26.2.1 (gR_i ?_)))))
      unfold xo; first | (rw [if_pos (by omega)]) | (rw [if_neg (by omega)])
    · refine gw_const at26_10 (gw_goto at26_11 (gw_ri at26_20 am_r26.2.1 (gR_i ?_)))
      unfold xo; first | (rw [if_pos (by omega)]) | (rw [if_neg (by omega)])
set_option maxHeartbeats 1000000 in
theorem c_yOf {g : Nat} {T : gT} {c J : gC} {k : Nat} (hT : NT T k) (hc : RG c) {n : Int} (hn : -2147483648 ≤ n ∧ n < 2147483648) : gE g 27 0 [.ref k, gi n] (gm T c J) (gR (gi (yo c k n)) (gm T c J)) := by
  refine gE_mk am_r27 rfl (Or.inr ⟨_, rfl, (by first | exact NT_0 hT | exact NT_r9 hT | exact NT_t9 hT | exact NT_l9 hT)⟩) (fun d hd => ?_)
  show gw d g 27 0 [.ref k, gi n] [] _ _
  refine gw_il1 at27_0 ?_
  refine gw_zlt at27_1 (by first | omega | exact hc _ _ | exact bi_rg _ | exact zrg _) (fun q1 => ?_) (fun q1 => ?_)
  · refine gw_const at27_10 (gw_goto at27_11 (gw_ri at27_20 am_r27.2.1 (gR_i ?_)))
    unfold yo; first | (rw [if_pos (by omega)]) | (rw [if_neg (by omega)])
  · refine gw_il1 at27_4 (gw_bip at27_5 (by decide) ?_)
    refine gw_clt at27_7 (by first | omega | exact hc _ _ | exact bi_rg _ | exact zrg _) (by first | omega | exact hc _ _ | exact bi_rg _ | exact zrg _) (fun q7 => ?_) (fun q7 => ?_)
    · refine gw_al0 at27_14 (gw_gr at27_15 (by first | exact NT_0 hT | exact NT_r9 hT | exact NT_t9 hT | exact NT_l9 hT) (by first | exact NT_0 hT | exact NT_r9 hT | exact NT_t9 hT | exact NT_l9 hT) (gw_il1 at27_18 (gw_ia at27_19 (by first | exact Or.inl (by first | exact NT_0 hT | exact NT_r9 hT | exact NT_t9 hT | exact NT_l9 hT) | exact Or.inr (by first | exact NT_0 hT | exact NT_r9 hT | exact NT_t9 hT | exact NT_l9 hT)) (by first | exact NT_0 hT | exact NT_r9 hT | exact NT_t9 hT | exact NT_l9 hT) (by first | omega | exact hc _ _ | exact bi_rg _ | exact zrg _) (by first | omega | exact hc _ _ | exact bi_rg _ | exact zrg _) (by omega) (gw_ri at27_20 am_r27.2.1 (gR_i ?_)))))
      unfold yo; first | (rw [if_pos (by omega)]) | (rw [if_neg (by omega)])
    · refine gw_const at27_10 (gw_goto at27_11 (gw_ri at27_20 am_r27.2.1 (gR_i ?_)))
      unfold yo; first | (rw [if_pos (by omega)]) | (rw [if_neg (by omega)])
set_option maxHeartbeats 1000000 in
theorem c_arcsUpTo {g : Nat} {T : gT} {c J : gC} {k : Nat} (hT : NT T k) (hc : RG c) (hN : NR c k) {w : Int} (hw : -2147483648 ≤ w ∧ w < 2147483648) : gE g 24 2 [.ref k, gi w] (gm T c J) (gR (gi (mskI (fun a => hA c k a && decide (cl c k a ≤ w)) 24)) (gm T c J)) := by
  refine gE_mk am_r24 rfl (Or.inr ⟨_, rfl, (by exact NT_0 hT)⟩) (fun d hd => ?_)
  show gw d g 24 0 [.ref k, gi w, am_U, am_U] [] _ _
  refine gw_const at24_0 (gw_is2 at24_1 (h := (gw_const at24_2 (gw_is3 at24_3 (h := ?_)))))
  have lp4 : ∀ n : Int, 0 ≤ n → n ≤ 24 → ∀ s : Int, s = mskI (fun a => hA c k a && decide (cl c k a ≤ w)) n → gw d g 24 4 [.ref k, gi w, gi s, gi n] [] (gm T c J) (gR (gi (mskI (fun a => hA c k a && decide (cl c k a ≤ w)) 24)) (gm T c J)) := by
    refine ind_up 24 ?_
    intro n hn0 hn1 ih s hs
    refine gw_il3 at24_4 ?_
    refine gw_bip at24_5 (by decide) ?_
    refine gw_cge at24_7 (by first | omega | exact hc _ _ | (have := cl_rg hN n; omega)) (by first | omega | exact hc _ _ | (have := cl_rg hN n; omega)) (fun q7 => ?_) (fun q7 => ?_)
    · refine gw_il2 at24_39 (gw_ri at24_40 am_r24.2.1 (gR_i ?_))
      rw [hs, show n = 24 by omega]
    · refine gw_al0 at24_10 (gw_il3 at24_11 (gw_callP2 at24_12 (c_hasArc hT hc hN (by omega)) (by omega) (Nat.le_of_ble_eq_true rfl) ?_))
      refine gw_beq at24_15 (fun q15 => ?_) (fun q15 => ?_)
      · refine gw_inc3 at24_33 (h := (gw_goto at24_36 ?_))
        refine ih (n + 1) (by omega) (by omega) _ ?_
        rw [mskI_s _ hn0, hs]
        simp [*] <;> (intros; omega)
      · refine gw_al0 at24_18 (gw_il3 at24_19 (gw_callP2 at24_20 (c_classOf hT hc (by omega)) (by omega) (Nat.le_of_ble_eq_true rfl) (gw_il1 at24_23 ?_)))
        refine gw_cgt at24_24 (by first | omega | exact hc _ _ | (have := cl_rg hN n; omega)) (by first | omega | exact hc _ _ | (have := cl_rg hN n; omega)) (fun q24 => ?_) (fun q24 => ?_)
        · refine gw_inc3 at24_33 (h := (gw_goto at24_36 ?_))
          refine ih (n + 1) (by omega) (by omega) _ ?_
          rw [mskI_s _ hn0, hs]
          simp [*] <;> (intros; omega)
        · refine gw_il2 at24_27 (gw_const at24_28 (gw_il3 at24_29 (gw_ishl at24_30 (gw_ior at24_31 (gw_is2 at24_32 (h := (gw_inc3 at24_33 (h := (gw_goto at24_36 ?_)))))))))
          refine ih (n + 1) (by omega) (by omega) _ ?_
          rw [mskI_s _ hn0, hs]
          simp [*] <;> (intros; omega)
  exact lp4 0 (by omega) (by omega) 0 (mskI_0 _).symm
