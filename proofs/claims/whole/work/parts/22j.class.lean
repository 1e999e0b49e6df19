/-! the class: find (hw, that the name is an int, is still to be shown) -/
set_option maxHeartbeats 1000000 in
theorem c_x_find {g : Nat} {T : gT} {c J : gC} (hX : XT T) (hB : BT T 100000) (hT : NT T 100014) (hc : RG c) (hR : BR c 100000) (hN : NR c 100014) (hw : -2147483648 ≤ wnm c 100000 ∧ wnm c 100000 < 2147483648) {b : Bool} : gE g 104 6 [.ref 500000, gi (bi b)] (gm T c J) (fun o M1 => (wnm c 100000 = -1 ∧ o = .inr 1 ∧ M1 = gm (gTt T) (gu c 100000 1 0) J) ∨ (¬ wnm c 100000 = -1 ∧ o = .inl (some (gi (if b = true then ff (fun i => decide ((gu c 100000 1 0) (100014 + 4) i = wnm c 100000)) ((gu c 100000 1 0) 100014 2) 0 else ff (fun i => decide ((gu c 100000 1 0) (100014 + 1) i = wnm c 100000)) ((gu c 100000 1 0) 100014 1) 0))) ∧ M1 = gm T (gu c 100000 1 0) J)) := by
  have hN2 : NR (gu c 100000 1 0) 100014 := NF_NR (NF_gu NF_rf (by omega)) hN
  have hc2 : RG (gu c 100000 1 0) := RG_gu hc (by omega)
  refine gE_mk am_r104 rfl (Or.inr ⟨_, rfl, (by first | exact XT_0 hX | exact XT_r0 hX | exact XT_r4 hX | exact hB.1)⟩) (fun d hd => ?_)
  show gw d g 104 0 [.ref 500000, gi (bi b), am_U] [] _ _
  refine gw_al0 at104_0 (gw_gr at104_1 (by first | exact XT_0 hX | exact XT_r0 hX | exact XT_r4 hX | exact hB.1) (by first | exact XT_0 hX | exact XT_r0 hX | exact XT_r4 hX | exact hB.1) (gw_callP1 at104_4 (c_wholeName hB hc hR) (by omega) (Nat.le_of_ble_eq_true rfl) (gw_is2 at104_7 (h := (gw_al0 at104_8 (gw_gr at104_9 (by first | exact XT_0 hX | exact XT_r0 hX | exact XT_r4 hX | exact hB.1) (by first | exact XT_0 hX | exact XT_r0 hX | exact XT_r4 hX | exact hB.1) (gw_const at104_12 (gw_pf (j := 1) at104_13 (by first | exact XT_0 hX | exact XT_r0 hX | exact XT_r4 hX | exact hB.1) rfl (gw_il2 at104_16 (gw_const at104_17 ?_))))))))))
  refine gw_cne at104_18 (by first | omega | exact hc _ _ | exact bi_rg _ | exact zrg _) (by first | omega | exact hc _ _ | exact bi_rg _ | exact zrg _) (fun q18 => ?_) (fun q18 => ?_)
  · refine gw_il1 at104_29 ?_
    refine gw_beq at104_30 (fun q30 => ?_) (fun q30 => ?_)
    · refine gw_al0 at104_44 (gw_gr at104_45 (by first | exact XT_0 hX | exact XT_r0 hX | exact XT_r4 hX | exact hB.1) (by first | exact XT_0 hX | exact XT_r0 hX | exact XT_r4 hX | exact hB.1) (gw_il2 at104_48 (gw_callP2 at104_49 (c_nodeNamed hT hc2 hN2 hw) (by omega) (Nat.le_of_ble_eq_true rfl) (gw_ri at104_52 am_r104.2.1 ?_))))
      refine Or.inr ⟨by omega, ?_, rfl⟩
      first | (rw [if_pos (by assumption)]; done) | (rw [if_neg (by simp [*])]; done)
    · refine gw_al0 at104_33 (gw_gr at104_34 (by first | exact XT_0 hX | exact XT_r0 hX | exact XT_r4 hX | exact hB.1) (by first | exact XT_0 hX | exact XT_r0 hX | exact XT_r4 hX | exact hB.1) (gw_il2 at104_37 (gw_callP2 at104_38 (c_roadNamed hT hc2 hN2 hw) (by omega) (Nat.le_of_ble_eq_true rfl) (gw_goto at104_41 (gw_ri at104_52 am_r104.2.1 ?_)))))
      refine Or.inr ⟨by omega, ?_, rfl⟩
      first | (rw [if_pos (by assumption)]; done) | (rw [if_neg (by simp [*])]; done)
  · refine gw_thr at104_21 (by omega) (Nat.le_of_ble_eq_true rfl) ?_
    exact Or.inl ⟨by omega, rfl, rfl⟩
