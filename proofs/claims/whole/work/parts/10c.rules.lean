/-! lcmp with its branch; ldiv; reads behind writes -/
theorem gu_k {c : gC} {k k' : Nat} {j z j' : Int} (h : ¬ k' = k) : gu c k j z k' j' = c k' j' := if_neg fun e => h e.1
theorem gu_j {c : gC} {k : Nat} {j z j' : Int} (h : ¬ j' = j) : gu c k j z k j' = c k j' := if_neg fun e => h e.2
theorem gu_s {c : gC} {k : Nat} {j z : Int} : gu c k j z k j = z := if_pos ⟨rfl, rfl⟩
theorem gcp_k {c : gC} {k q k' : Nat} {sp dp n j' : Int} (h : ¬ k' = q) : gcp c k q sp dp n k' j' = c k' j' := if_neg fun e => h e.1
theorem gcp_s {c : gC} {k q : Nat} {sp dp n j' : Int} (h : dp ≤ j' ∧ j' < dp + n) : gcp c k q sp dp n q j' = c k (sp + (j' - dp)) := if_pos ⟨rfl, h⟩
theorem gcp_j {c : gC} {k q : Nat} {sp dp n j' : Int} (h : ¬ (dp ≤ j' ∧ j' < dp + n)) : gcp c k q sp dp n q j' = c q j' := if_neg fun e => h e.2
theorem gz_k {c : gC} {k k' : Nat} {j' : Int} (h : ¬ k' = k) : gz c k k' j' = c k' j' := if_neg h
theorem gz_s {c : gC} {k : Nat} {j' : Int} : gz c k k j' = 0 := if_pos rfl
theorem zldiv_of {a b : Int} (ha : 0 ≤ a ∧ a < 9223372036854775808) (hb : 0 < b ∧ b < 9223372036854775808) : zldiv a b = a / b := by
  unfold zldiv
  have e1 : (Int64.ofInt a).toInt = a := Int64.toInt_ofInt_of_le (by omega) (by omega)
  have e2 : (Int64.ofInt b).toInt = b := Int64.toInt_ofInt_of_le (by omega) (by omega)
  rw [Int64.toInt_div_of_ne_right _ _ (fun e => by rw [e] at e2; have : (-1 : Int64).toInt = -1 := by decide
                                                   omega), e1, e2, Int.tdiv_eq_ediv_of_nonneg ha.1]
section GC
variable {d g y pc nx nx2 a b a2 b2 : Nat} {L r : List Value} {T : gT} {c J : gC} {Q : am_O → am_M → Prop}
theorem gw_ldivp {x z : Int} (hi : am_at y pc nx .ldiv 0 a b) (hx : 0 ≤ x ∧ x < 9223372036854775808) (hz : 0 < z ∧ z < 9223372036854775808) (h : gw d g y nx L (gl (x / z) :: r) (gm T c J) Q) : gw d g y pc L (gl z :: gl x :: r) (gm T c J) Q := gw_ldiv hi (fun e => by
  have e2 : (Int64.ofInt z).toInt = z := Int64.toInt_ofInt_of_le (by omega) (by omega)
  rw [e] at e2
  have : (0 : Int64).toInt = 0 := by decide
  omega) (by rw [zldiv_of hx hz]; exact h)

theorem gw_lceq {x z off : Int} (hi : am_at y pc nx .lcmp 0 a b) (hj : am_at y nx nx2 (.ifCond .eq off) 0 a2 b2) (hx : -9223372036854775808 ≤ x ∧ x < 9223372036854775808) (hz : -9223372036854775808 ≤ z ∧ z < 9223372036854775808) (ht : x = z → gw d g y a2 L r (gm T c J) Q) (hf : ¬ x = z → gw d g y nx2 L r (gm T c J) Q) : gw d g y pc L (gl z :: gl x :: r) (gm T c J) Q := by
  refine gw_lcmp hi hx hz (gw_zeq hj ?_ (fun h => ht ?_) (fun h => hf ?_))
  · split <;> (try split) <;> omega
  · split at h
    · omega
    · split at h <;> omega
  · split at h
    · omega
    · split at h <;> omega
theorem gw_lcne {x z off : Int} (hi : am_at y pc nx .lcmp 0 a b) (hj : am_at y nx nx2 (.ifCond .ne off) 0 a2 b2) (hx : -9223372036854775808 ≤ x ∧ x < 9223372036854775808) (hz : -9223372036854775808 ≤ z ∧ z < 9223372036854775808) (ht : ¬ x = z → gw d g y a2 L r (gm T c J) Q) (hf : x = z → gw d g y nx2 L r (gm T c J) Q) : gw d g y pc L (gl z :: gl x :: r) (gm T c J) Q := by
  refine gw_lcmp hi hx hz (gw_zne hj ?_ (fun h => ht ?_) (fun h => hf ?_))
  · split <;> (try split) <;> omega
  · split at h
    · omega
    · split at h <;> omega
  · split at h
    · omega
    · split at h <;> omega
theorem gw_lclt {x z off : Int} (hi : am_at y pc nx .lcmp 0 a b) (hj : am_at y nx nx2 (.ifCond .lt off) 0 a2 b2) (hx : -9223372036854775808 ≤ x ∧ x < 9223372036854775808) (hz : -9223372036854775808 ≤ z ∧ z < 9223372036854775808) (ht : x < z → gw d g y a2 L r (gm T c J) Q) (hf : ¬ x < z → gw d g y nx2 L r (gm T c J) Q) : gw d g y pc L (gl z :: gl x :: r) (gm T c J) Q := by
  refine gw_lcmp hi hx hz (gw_zlt hj ?_ (fun h => ht ?_) (fun h => hf ?_))
  · split <;> (try split) <;> omega
  · split at h
    · omega
    · split at h <;> omega
  · split at h
    · omega
    · split at h <;> omega
theorem gw_lcge {x z off : Int} (hi : am_at y pc nx .lcmp 0 a b) (hj : am_at y nx nx2 (.ifCond .ge off) 0 a2 b2) (hx : -9223372036854775808 ≤ x ∧ x < 9223372036854775808) (hz : -9223372036854775808 ≤ z ∧ z < 9223372036854775808) (ht : z ≤ x → gw d g y a2 L r (gm T c J) Q) (hf : ¬ z ≤ x → gw d g y nx2 L r (gm T c J) Q) : gw d g y pc L (gl z :: gl x :: r) (gm T c J) Q := by
  refine gw_lcmp hi hx hz (gw_zge hj ?_ (fun h => ht ?_) (fun h => hf ?_))
  · split <;> (try split) <;> omega
  · split at h
    · omega
    · split at h <;> omega
  · split at h
    · omega
    · split at h <;> omega
theorem gw_lcgt {x z off : Int} (hi : am_at y pc nx .lcmp 0 a b) (hj : am_at y nx nx2 (.ifCond .gt off) 0 a2 b2) (hx : -9223372036854775808 ≤ x ∧ x < 9223372036854775808) (hz : -9223372036854775808 ≤ z ∧ z < 9223372036854775808) (ht : z < x → gw d g y a2 L r (gm T c J) Q) (hf : ¬ z < x → gw d g y nx2 L r (gm T c J) Q) : gw d g y pc L (gl z :: gl x :: r) (gm T c J) Q := by
  refine gw_lcmp hi hx hz (gw_zgt hj ?_ (fun h => ht ?_) (fun h => hf ?_))
  · split <;> (try split) <;> omega
  · split at h
    · omega
    · split at h <;> omega
  · split at h
    · omega
    · split at h <;> omega
theorem gw_lcle {x z off : Int} (hi : am_at y pc nx .lcmp 0 a b) (hj : am_at y nx nx2 (.ifCond .le off) 0 a2 b2) (hx : -9223372036854775808 ≤ x ∧ x < 9223372036854775808) (hz : -9223372036854775808 ≤ z ∧ z < 9223372036854775808) (ht : x ≤ z → gw d g y a2 L r (gm T c J) Q) (hf : ¬ x ≤ z → gw d g y nx2 L r (gm T c J) Q) : gw d g y pc L (gl z :: gl x :: r) (gm T c J) Q := by
  refine gw_lcmp hi hx hz (gw_zle hj ?_ (fun h => ht ?_) (fun h => hf ?_))
  · split <;> (try split) <;> omega
  · split at h
    · omega
    · split at h <;> omega
  · split at h
    · omega
    · split at h <;> omega
end GC
