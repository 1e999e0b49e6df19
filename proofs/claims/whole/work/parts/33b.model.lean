set_option maxHeartbeats 1000000 in
theorem m_ap4 {g : Nat} {T : gT} {c J : gC} {b : Nat} (hM : MT T b) (hc : RG c) (h15 : 0 ≤ c 500001 15 ∧ c 500001 15 + 4 ≤ 1200) {v : Int} : gE g 292 0 [.ref 500001, gi v] (gm T c J) (fun o M1 => o = .inl none ∧ M1 = gm T (ap4 c v) J) := by
  refine gE_mk am_r292 rfl (Or.inr ⟨_, rfl, (by first | exact MT_0 hM | exact MT_now hM | exact MT_bt hM | exact MT_bl hM | exact MT_r0 hM | exact MT_t0 hM | exact MT_l0 hM | exact MT_r1 hM | exact MT_t1 hM | exact MT_l1 hM | exact MT_r2 hM | exact MT_t2 hM | exact MT_l2 hM | exact MT_r3 hM | exact MT_t3 hM | exact MT_l3 hM | exact MT_r4 hM | exact MT_t4 hM | exact MT_l4 hM | exact MT_r5 hM | exact MT_t5 hM | exact MT_l5 hM | exact MT_r6 hM | exact MT_t6 hM | exact MT_l6 hM | exact MT_r7 hM | exact MT_t7 hM | exact MT_l7 hM | exact MT_r8 hM | exact MT_t8 hM | exact MT_l8 hM | exact MT_r9 hM | exact MT_t9 hM | exact MT_l9 hM | exact MT_r10 hM | exact MT_t10 hM | exact MT_l10 hM)⟩) (fun d hd => ?_)
  show gw d g 292 0 [.ref 500001, gi v, am_U] [] _ _
  refine gw_bip at292_0 (by decide) (gw_is2 at292_2 (h := ?_))
  have lp3 : ∀ i : Int, 0 ≤ i → i ≤ 4 → gw d g 292 3 [.ref 500001, gi v, gi (24 - 8 * i)] [] (gm T (itI (fun j m => ap1 v (24 - 8 * j) m) c i) J) (fun o M1 => o = .inl none ∧ M1 = gm T (ap4 c v) J) := by
    refine ind_up 4 ?_
    intro i hi0 hi1 ih
    obtain ⟨a1, a2, a3⟩ := ap_i (v := v) hc h15 hi0 hi1
    refine gw_il2 at292_3 ?_
    refine gw_zlt at292_4 (by first | omega | exact zrg _ | exact a2 _ _) (fun q4 => ?_) (fun q4 => ?_)
    · refine gw_rv at292_36 am_r292.2.1 ⟨rfl, ?_⟩
      have e : i = 4 := by omega
      rw [e]
      rfl
    · refine gw_al0 at292_7 (gw_gr at292_8 (by first | exact MT_0 hM | exact MT_now hM | exact MT_bt hM | exact MT_bl hM | exact MT_r0 hM | exact MT_t0 hM | exact MT_l0 hM | exact MT_r1 hM | exact MT_t1 hM | exact MT_l1 hM | exact MT_r2 hM | exact MT_t2 hM | exact MT_l2 hM | exact MT_r3 hM | exact MT_t3 hM | exact MT_l3 hM | exact MT_r4 hM | exact MT_t4 hM | exact MT_l4 hM | exact MT_r5 hM | exact MT_t5 hM | exact MT_l5 hM | exact MT_r6 hM | exact MT_t6 hM | exact MT_l6 hM | exact MT_r7 hM | exact MT_t7 hM | exact MT_l7 hM | exact MT_r8 hM | exact MT_t8 hM | exact MT_l8 hM | exact MT_r9 hM | exact MT_t9 hM | exact MT_l9 hM | exact MT_r10 hM | exact MT_t10 hM | exact MT_l10 hM) (by first | exact MT_0 hM | exact MT_now hM | exact MT_bt hM | exact MT_bl hM | exact MT_r0 hM | exact MT_t0 hM | exact MT_l0 hM | exact MT_r1 hM | exact MT_t1 hM | exact MT_l1 hM | exact MT_r2 hM | exact MT_t2 hM | exact MT_l2 hM | exact MT_r3 hM | exact MT_t3 hM | exact MT_l3 hM | exact MT_r4 hM | exact MT_t4 hM | exact MT_l4 hM | exact MT_r5 hM | exact MT_t5 hM | exact MT_l5 hM | exact MT_r6 hM | exact MT_t6 hM | exact MT_l6 hM | exact MT_r7 hM | exact MT_t7 hM | exact MT_l7 hM | exact MT_r8 hM | exact MT_t8 hM | exact MT_l8 hM | exact MT_r9 hM | exact MT_t9 hM | exact MT_l9 hM | exact MT_r10 hM | exact MT_t10 hM | exact MT_l10 hM) (gw_al0 at292_11 (gw_gf (j := 15) at292_12 (by first | exact MT_0 hM | exact MT_now hM | exact MT_bt hM | exact MT_bl hM | exact MT_r0 hM | exact MT_t0 hM | exact MT_l0 hM | exact MT_r1 hM | exact MT_t1 hM | exact MT_l1 hM | exact MT_r2 hM | exact MT_t2 hM | exact MT_l2 hM | exact MT_r3 hM | exact MT_t3 hM | exact MT_l3 hM | exact MT_r4 hM | exact MT_t4 hM | exact MT_l4 hM | exact MT_r5 hM | exact MT_t5 hM | exact MT_l5 hM | exact MT_r6 hM | exact MT_t6 hM | exact MT_l6 hM | exact MT_r7 hM | exact MT_t7 hM | exact MT_l7 hM | exact MT_r8 hM | exact MT_t8 hM | exact MT_l8 hM | exact MT_r9 hM | exact MT_t9 hM | exact MT_l9 hM | exact MT_r10 hM | exact MT_t10 hM | exact MT_l10 hM) rfl (gw_il1 at292_15 (gw_il2 at292_16 (gw_ishr at292_17 (gw_i2b at292_18 (gw_bw at292_19 (by first | exact MT_0 hM | exact MT_now hM | exact MT_bt hM | exact MT_bl hM | exact MT_r0 hM | exact MT_t0 hM | exact MT_l0 hM | exact MT_r1 hM | exact MT_t1 hM | exact MT_l1 hM | exact MT_r2 hM | exact MT_t2 hM | exact MT_l2 hM | exact MT_r3 hM | exact MT_t3 hM | exact MT_l3 hM | exact MT_r4 hM | exact MT_t4 hM | exact MT_l4 hM | exact MT_r5 hM | exact MT_t5 hM | exact MT_l5 hM | exact MT_r6 hM | exact MT_t6 hM | exact MT_l6 hM | exact MT_r7 hM | exact MT_t7 hM | exact MT_l7 hM | exact MT_r8 hM | exact MT_t8 hM | exact MT_l8 hM | exact MT_r9 hM | exact MT_t9 hM | exact MT_l9 hM | exact MT_r10 hM | exact MT_t10 hM | exact MT_l10 hM) (by first | exact MT_0 hM | exact MT_now hM | exact MT_bt hM | exact MT_bl hM | exact MT_r0 hM | exact MT_t0 hM | exact MT_l0 hM | exact MT_r1 hM | exact MT_t1 hM | exact MT_l1 hM | exact MT_r2 hM | exact MT_t2 hM | exact MT_l2 hM | exact MT_r3 hM | exact MT_t3 hM | exact MT_l3 hM | exact MT_r4 hM | exact MT_t4 hM | exact MT_l4 hM | exact MT_r5 hM | exact MT_t5 hM | exact MT_l5 hM | exact MT_r6 hM | exact MT_t6 hM | exact MT_l6 hM | exact MT_r7 hM | exact MT_t7 hM | exact MT_l7 hM | exact MT_r8 hM | exact MT_t8 hM | exact MT_l8 hM | exact MT_r9 hM | exact MT_t9 hM | exact MT_l9 hM | exact MT_r10 hM | exact MT_t10 hM | exact MT_l10 hM) (by first | omega | exact zrg _ | exact a2 _ _) (by first | omega | exact zrg _ | exact a2 _ _) (by omega) (gw_al0 at292_20 (gw_dupr at292_21 (gw_gf (j := 15) at292_22 (by first | exact MT_0 hM | exact MT_now hM | exact MT_bt hM | exact MT_bl hM | exact MT_r0 hM | exact MT_t0 hM | exact MT_l0 hM | exact MT_r1 hM | exact MT_t1 hM | exact MT_l1 hM | exact MT_r2 hM | exact MT_t2 hM | exact MT_l2 hM | exact MT_r3 hM | exact MT_t3 hM | exact MT_l3 hM | exact MT_r4 hM | exact MT_t4 hM | exact MT_l4 hM | exact MT_r5 hM | exact MT_t5 hM | exact MT_l5 hM | exact MT_r6 hM | exact MT_t6 hM | exact MT_l6 hM | exact MT_r7 hM | exact MT_t7 hM | exact MT_l7 hM | exact MT_r8 hM | exact MT_t8 hM | exact MT_l8 hM | exact MT_r9 hM | exact MT_t9 hM | exact MT_l9 hM | exact MT_r10 hM | exact MT_t10 hM | exact MT_l10 hM) rfl ?_)))))))))))
      rw [gu_k (by decide)]
      refine gw_const at292_25 (gw_iadd at292_26 (gw_pf (j := 15) at292_27 (by first | exact MT_0 hM | exact MT_now hM | exact MT_bt hM | exact MT_bl hM | exact MT_r0 hM | exact MT_t0 hM | exact MT_l0 hM | exact MT_r1 hM | exact MT_t1 hM | exact MT_l1 hM | exact MT_r2 hM | exact MT_t2 hM | exact MT_l2 hM | exact MT_r3 hM | exact MT_t3 hM | exact MT_l3 hM | exact MT_r4 hM | exact MT_t4 hM | exact MT_l4 hM | exact MT_r5 hM | exact MT_t5 hM | exact MT_l5 hM | exact MT_r6 hM | exact MT_t6 hM | exact MT_l6 hM | exact MT_r7 hM | exact MT_t7 hM | exact MT_l7 hM | exact MT_r8 hM | exact MT_t8 hM | exact MT_l8 hM | exact MT_r9 hM | exact MT_t9 hM | exact MT_l9 hM | exact MT_r10 hM | exact MT_t10 hM | exact MT_l10 hM) rfl (gw_inc2 at292_30 (h := (gw_goto at292_33 ?_)))))
      have h8 := ih (i + 1) (by omega) (by omega)
      rw [itI_s _ _ hi0] at h8
      rw [zi2b_2, show 24 - 8 * i + -8 = 24 - 8 * (i + 1) by omega]
      exact h8
  exact lp3 0 (by decide) (by decide)
set_option maxHeartbeats 1000000 in
theorem m_x_append {g : Nat} {T : gT} {c J : gC} (hM : MT T 200000) (hc : RG c) (hV : NW c 200000) {p : Int} (hp : -2147483648 ≤ p ∧ p < 2147483648) {q : Int} (hq : -2147483648 ≤ q ∧ q < 2147483648) {r : Int} (hr : -2147483648 ≤ r ∧ r < 2147483648) {s : Int} (hs : -2147483648 ≤ s ∧ s < 2147483648) {t : Int} (ht : -2147483648 ≤ t ∧ t < 2147483648) (h15 : 0 ≤ c 500001 15 ∧ c 500001 15 ≤ 1200) : gE g 293 2 [.ref 500001, gi p, gi q, gi r, gi s, gi t] (gm T c J) (fun o M1 => (decide (c 500001 15 + 20 ≤ 1200) = true ∧ o = .inl (some (gi (c 500001 15 + 20))) ∧ M1 = gm T (ap20 (tw c 0) p q r s t) J) ∨ (decide (c 500001 15 + 20 ≤ 1200) = false ∧ o = .inl (some (gi 0)) ∧ M1 = gm T (tw c 1) J)) := by
  have t1 : RG (tw c 0) := tw_RG hc (by decide)
  have t0 : tw c 0 200000 = c 200000 := tw_k (by decide)
  have t2 : NW (tw c 0) 200000 := NW_of hV t0
  have v0 := hV.1.1
  have v1 := hV.1.2
  have z0 : tw c 0 500001 15 = c 500001 15 := gu_j (by decide)
  have y0 := t1
  have x1 : c 500001 15 + 20 ≤ 1200 → ap4 (tw c 0) p 500001 15 = c 500001 15 + 4 ∧ RG (ap4 (tw c 0) p) := fun hh => by
    have := ap4_ok (v := p) y0 ⟨by rw [z0]; omega, by rw [z0]; omega⟩
    rw [z0] at this
    exact ⟨by omega, this.2.1⟩
  have x2 : c 500001 15 + 20 ≤ 1200 → ap4 (ap4 (tw c 0) p) q 500001 15 = c 500001 15 + 8 ∧ RG (ap4 (ap4 (tw c 0) p) q) := fun hh => by
    have := ap4_ok (v := q) (x1 hh).2 ⟨by rw [(x1 hh).1]; omega, by rw [(x1 hh).1]; omega⟩
    rw [(x1 hh).1] at this
    exact ⟨by omega, this.2.1⟩
  have x3 : c 500001 15 + 20 ≤ 1200 → ap4 (ap4 (ap4 (tw c 0) p) q) r 500001 15 = c 500001 15 + 12 ∧ RG (ap4 (ap4 (ap4 (tw c 0) p) q) r) := fun hh => by
    have := ap4_ok (v := r) (x2 hh).2 ⟨by rw [(x2 hh).1]; omega, by rw [(x2 hh).1]; omega⟩
    rw [(x2 hh).1] at this
    exact ⟨by omega, this.2.1⟩
  have x4 : c 500001 15 + 20 ≤ 1200 → ap4 (ap4 (ap4 (ap4 (tw c 0) p) q) r) s 500001 15 = c 500001 15 + 16 ∧ RG (ap4 (ap4 (ap4 (ap4 (tw c 0) p) q) r) s) := fun hh => by
    have := ap4_ok (v := s) (x3 hh).2 ⟨by rw [(x3 hh).1]; omega, by rw [(x3 hh).1]; omega⟩
    rw [(x3 hh).1] at this
    exact ⟨by omega, this.2.1⟩
  have x5 : c 500001 15 + 20 ≤ 1200 → ap4 (ap4 (ap4 (ap4 (ap4 (tw c 0) p) q) r) s) t 500001 15 = c 500001 15 + 20 ∧ RG (ap4 (ap4 (ap4 (ap4 (ap4 (tw c 0) p) q) r) s) t) := fun hh => by
    have := ap4_ok (v := t) (x4 hh).2 ⟨by rw [(x4 hh).1]; omega, by rw [(x4 hh).1]; omega⟩
    rw [(x4 hh).1] at this
    exact ⟨by omega, this.2.1⟩
  refine gE_mk am_r293 rfl (Or.inr ⟨_, rfl, (by first | exact MT_0 hM | exact MT_now hM | exact MT_bt hM | exact MT_bl hM | exact MT_r0 hM | exact MT_t0 hM | exact MT_l0 hM | exact MT_r1 hM | exact MT_t1 hM | exact MT_l1 hM | exact MT_r2 hM | exact MT_t2 hM | exact MT_l2 hM | exact MT_r3 hM | exact MT_t3 hM | exact MT_l3 hM | exact MT_r4 hM | exact MT_t4 hM | exact MT_l4 hM | exact MT_r5 hM | exact MT_t5 hM | exact MT_l5 hM | exact MT_r6 hM | exact MT_t6 hM | exact MT_l6 hM | exact MT_r7 hM | exact MT_t7 hM | exact MT_l7 hM | exact MT_r8 hM | exact MT_t8 hM | exact MT_l8 hM | exact MT_r9 hM | exact MT_t9 hM | exact MT_l9 hM | exact MT_r10 hM | exact MT_t10 hM | exact MT_l10 hM)⟩) (fun d hd => ?_)
  show gw d g 293 0 [.ref 500001, gi p, gi q, gi r, gi s, gi t] [] _ _
  refine gw_al0 at293_0 (gw_al0 at293_1 (gw_gf (j := 15) at293_2 (by first | exact MT_0 hM | exact MT_now hM | exact MT_bt hM | exact MT_bl hM | exact MT_r0 hM | exact MT_t0 hM | exact MT_l0 hM | exact MT_r1 hM | exact MT_t1 hM | exact MT_l1 hM | exact MT_r2 hM | exact MT_t2 hM | exact MT_l2 hM | exact MT_r3 hM | exact MT_t3 hM | exact MT_l3 hM | exact MT_r4 hM | exact MT_t4 hM | exact MT_l4 hM | exact MT_r5 hM | exact MT_t5 hM | exact MT_l5 hM | exact MT_r6 hM | exact MT_t6 hM | exact MT_l6 hM | exact MT_r7 hM | exact MT_t7 hM | exact MT_l7 hM | exact MT_r8 hM | exact MT_t8 hM | exact MT_l8 hM | exact MT_r9 hM | exact MT_t9 hM | exact MT_l9 hM | exact MT_r10 hM | exact MT_t10 hM | exact MT_l10 hM) rfl (gw_bip at293_5 (by decide) (gw_iadd at293_7 (gw_sip at293_8 (by decide) ?_)))))
  refine gw_cgt at293_11 (by first | omega | exact hc _ _ | exact t1 _ _ | exact bi_rg _ | exact zrg _) (by first | omega | exact hc _ _ | exact t1 _ _ | exact bi_rg _ | exact zrg _) (fun q11 => ?_) (fun q11 => ?_)
  · refine gw_const at293_18 ?_
    refine gw_call2 at293_19 (m_pas1 hM hc (p := false)) (by omega) (Nat.le_of_ble_eq_true rfl) (fun o M1 q19 => ?_)
    rcases q19 with ⟨hp, -, -⟩ | ⟨-, rfl, rfl⟩
    · cases hp
    · show gw _ _ _ _ _ (gi _ :: _) _ _
      refine gw_zne at293_22 (by first | omega | exact hc _ _ | exact t1 _ _ | exact bi_rg _ | exact zrg _) (fun q22 => absurd q22 (by decide)) (fun q22 => ?_)
      refine gw_const at293_25 (gw_ri at293_26 am_r293.2.1 ?_)
      first | exact Or.inr ⟨decide_eq_false (by omega), rfl, rfl⟩ | exact Or.inl ⟨decide_eq_true (by omega), rfl, rfl⟩
  · refine gw_const at293_14 (gw_goto at293_15 ?_)
    refine gw_call2 at293_19 (m_pas1 hM hc (p := true)) (by omega) (Nat.le_of_ble_eq_true rfl) (fun o M1 q19 => ?_)
    rcases q19 with ⟨-, rfl, rfl⟩ | ⟨hp, -, -⟩
    · show gw _ _ _ _ _ (gi _ :: _) _ _
      refine gw_zne at293_22 (by first | omega | exact hc _ _ | exact t1 _ _ | exact bi_rg _ | exact zrg _) (fun q22 => ?_) (fun q22 => absurd q22 (by decide))
      obtain ⟨z1, y1⟩ := x1 (by omega)
      obtain ⟨z2, y2⟩ := x2 (by omega)
      obtain ⟨z3, y3⟩ := x3 (by omega)
      obtain ⟨z4, y4⟩ := x4 (by omega)
      obtain ⟨z5, y5⟩ := x5 (by omega)
      refine gw_al0 at293_27 (gw_il1 at293_28 ?_)
      refine gw_call2 at293_29 (m_ap4 hM y0 ⟨by rw [z0]; omega, by rw [z0]; omega⟩) (by omega) (Nat.le_of_ble_eq_true rfl) (fun o M1 q29 => ?_)
      obtain ⟨rfl, rfl⟩ := q29
      show gw _ _ _ _ _ [] _ _
      refine gw_al0 at293_32 (gw_il2 at293_33 ?_)
      refine gw_call2 at293_34 (m_ap4 hM y1 ⟨by rw [z1]; omega, by rw [z1]; omega⟩) (by omega) (Nat.le_of_ble_eq_true rfl) (fun o M1 q34 => ?_)
      obtain ⟨rfl, rfl⟩ := q34
      show gw _ _ _ _ _ [] _ _
      refine gw_al0 at293_37 (gw_il3 at293_38 ?_)
      refine gw_call2 at293_39 (m_ap4 hM y2 ⟨by rw [z2]; omega, by rw [z2]; omega⟩) (by omega) (Nat.le_of_ble_eq_true rfl) (fun o M1 q39 => ?_)
      obtain ⟨rfl, rfl⟩ := q39
      show gw _ _ _ _ _ [] _ _
      refine gw_al0 at293_42 (gw_il4 at293_43 ?_)
      refine gw_call2 at293_45 (m_ap4 hM y3 ⟨by rw [z3]; omega, by rw [z3]; omega⟩) (by omega) (Nat.le_of_ble_eq_true rfl) (fun o M1 q45 => ?_)
      obtain ⟨rfl, rfl⟩ := q45
      show gw _ _ _ _ _ [] _ _
      refine gw_al0 at293_48 (gw_il5 at293_49 ?_)
      refine gw_call2 at293_51 (m_ap4 hM y4 ⟨by rw [z4]; omega, by rw [z4]; omega⟩) (by omega) (Nat.le_of_ble_eq_true rfl) (fun o M1 q51 => ?_)
      obtain ⟨rfl, rfl⟩ := q51
      show gw _ _ _ _ _ [] _ _
      refine gw_al0 at293_54 (gw_gf (j := 15) at293_55 (by first | exact MT_0 hM | exact MT_now hM | exact MT_bt hM | exact MT_bl hM | exact MT_r0 hM | exact MT_t0 hM | exact MT_l0 hM | exact MT_r1 hM | exact MT_t1 hM | exact MT_l1 hM | exact MT_r2 hM | exact MT_t2 hM | exact MT_l2 hM | exact MT_r3 hM | exact MT_t3 hM | exact MT_l3 hM | exact MT_r4 hM | exact MT_t4 hM | exact MT_l4 hM | exact MT_r5 hM | exact MT_t5 hM | exact MT_l5 hM | exact MT_r6 hM | exact MT_t6 hM | exact MT_l6 hM | exact MT_r7 hM | exact MT_t7 hM | exact MT_l7 hM | exact MT_r8 hM | exact MT_t8 hM | exact MT_l8 hM | exact MT_r9 hM | exact MT_t9 hM | exact MT_l9 hM | exact MT_r10 hM | exact MT_t10 hM | exact MT_l10 hM) rfl ?_)
      rw [z5]
      refine gw_ri at293_58 am_r293.2.1 ?_
      first | exact Or.inr ⟨decide_eq_false (by omega), rfl, rfl⟩ | exact Or.inl ⟨decide_eq_true (by omega), rfl, rfl⟩
    · cases hp
set_option maxHeartbeats 1000000 in
theorem m_x_truncate {g : Nat} {T : gT} {c J : gC} {b : Nat} (hM : MT T b) (hc : RG c) {z : Int} (hz : -2147483648 ≤ z ∧ z < 2147483648) : gE g 294 2 [.ref 500001, gi z] (gm T c J) (fun o M1 => o = .inl none ∧ ((inr z 0 (c 500001 15) = true ∧ M1 = gm T (gu (tw c 0) 500001 15 z) J) ∨ (inr z 0 (c 500001 15) = false ∧ M1 = gm T (tw c 1) J))) := by
  refine gE_mk am_r294 rfl (Or.inr ⟨_, rfl, (by first | exact MT_0 hM | exact MT_now hM | exact MT_bt hM | exact MT_bl hM | exact MT_r0 hM | exact MT_t0 hM | exact MT_l0 hM | exact MT_r1 hM | exact MT_t1 hM | exact MT_l1 hM | exact MT_r2 hM | exact MT_t2 hM | exact MT_l2 hM | exact MT_r3 hM | exact MT_t3 hM | exact MT_l3 hM | exact MT_r4 hM | exact MT_t4 hM | exact MT_l4 hM | exact MT_r5 hM | exact MT_t5 hM | exact MT_l5 hM | exact MT_r6 hM | exact MT_t6 hM | exact MT_l6 hM | exact MT_r7 hM | exact MT_t7 hM | exact MT_l7 hM | exact MT_r8 hM | exact MT_t8 hM | exact MT_l8 hM | exact MT_r9 hM | exact MT_t9 hM | exact MT_l9 hM | exact MT_r10 hM | exact MT_t10 hM | exact MT_l10 hM)⟩) (fun d hd => ?_)
  show gw d g 294 0 [.ref 500001, gi z] [] _ _
  refine gw_al0 at294_0 (gw_il1 at294_1 (gw_i2l at294_2 (by first | omega | exact hc _ _ | exact bi_rg _) (gw_lconst (z := 0) at294_3 rfl (gw_al0 at294_4 (gw_gf (j := 15) at294_5 (by first | exact MT_0 hM | exact MT_now hM | exact MT_bt hM | exact MT_bl hM | exact MT_r0 hM | exact MT_t0 hM | exact MT_l0 hM | exact MT_r1 hM | exact MT_t1 hM | exact MT_l1 hM | exact MT_r2 hM | exact MT_t2 hM | exact MT_l2 hM | exact MT_r3 hM | exact MT_t3 hM | exact MT_l3 hM | exact MT_r4 hM | exact MT_t4 hM | exact MT_l4 hM | exact MT_r5 hM | exact MT_t5 hM | exact MT_l5 hM | exact MT_r6 hM | exact MT_t6 hM | exact MT_l6 hM | exact MT_r7 hM | exact MT_t7 hM | exact MT_l7 hM | exact MT_r8 hM | exact MT_t8 hM | exact MT_l8 hM | exact MT_r9 hM | exact MT_t9 hM | exact MT_l9 hM | exact MT_r10 hM | exact MT_t10 hM | exact MT_l10 hM) rfl (gw_i2l at294_8 (by first | omega | exact hc _ _ | exact bi_rg _) (gw_callP3 at294_9 (m_in (by omega) (by omega) (by have := hc 500001 15; omega)) (by omega) (Nat.le_of_ble_eq_true rfl) ?_)))))))
  refine gw_call2 at294_12 (m_pas1 hM hc (p := inr z 0 (c 500001 15))) (by omega) (Nat.le_of_ble_eq_true rfl) (fun o M1 q12 => ?_)
  rcases q12 with ⟨hp12, rfl, rfl⟩ | ⟨hp12, rfl, rfl⟩
  · show gw _ _ _ _ _ (gi _ :: _) _ _
    refine gw_zeq at294_15 (by first | omega | exact hc _ _ | exact bi_rg _) (fun q15 => absurd q15 (by decide)) (fun q15 => ?_)
    refine gw_al0 at294_18 (gw_il1 at294_19 (gw_pf (j := 15) at294_20 (by first | exact MT_0 hM | exact MT_now hM | exact MT_bt hM | exact MT_bl hM | exact MT_r0 hM | exact MT_t0 hM | exact MT_l0 hM | exact MT_r1 hM | exact MT_t1 hM | exact MT_l1 hM | exact MT_r2 hM | exact MT_t2 hM | exact MT_l2 hM | exact MT_r3 hM | exact MT_t3 hM | exact MT_l3 hM | exact MT_r4 hM | exact MT_t4 hM | exact MT_l4 hM | exact MT_r5 hM | exact MT_t5 hM | exact MT_l5 hM | exact MT_r6 hM | exact MT_t6 hM | exact MT_l6 hM | exact MT_r7 hM | exact MT_t7 hM | exact MT_l7 hM | exact MT_r8 hM | exact MT_t8 hM | exact MT_l8 hM | exact MT_r9 hM | exact MT_t9 hM | exact MT_l9 hM | exact MT_r10 hM | exact MT_t10 hM | exact MT_l10 hM) rfl (gw_rv at294_23 am_r294.2.1 ⟨rfl, ?_⟩)))
    first | exact Or.inl ⟨hp12, rfl⟩ | exact Or.inr ⟨hp12, rfl⟩
  · show gw _ _ _ _ _ (gi _ :: _) _ _
    refine gw_zeq at294_15 (by first | omega | exact hc _ _ | exact bi_rg _) (fun q15 => ?_) (fun q15 => absurd q15 (by decide))
    refine gw_rv at294_23 am_r294.2.1 ⟨rfl, ?_⟩
    first | exact Or.inl ⟨hp12, rfl⟩ | exact Or.inr ⟨hp12, rfl⟩
