/-! the class: calls that keep what was -/
theorem KP_T {T T1 : gT} {c J c1 J1 : gC} (h : KP T c J T1 c1 J1) {k : Nat} (hk : k < 300000 ∨ 400000 ≤ k) (h3 : ¬ k = 100053) : T1.1 k = T.1 k := by
  obtain ⟨c0, q, h0, h1, h2, h4, h5, h6, h7⟩ := h
  exact h6 k (by omega) h3
theorem KP_c {T T1 : gT} {c J c1 J1 : gC} (h : KP T c J T1 c1 J1) {k : Nat} (hk : k < 300000 ∨ 400000 ≤ k) (h3 : ¬ k = 100052) : c1 k = c k := by
  obtain ⟨c0, q, h0, h1, h2, h4, h5, h6, h7⟩ := h
  rw [h2, ← (h5 k (by omega)).1]
  funext j
  unfold kps
  rw [gu_k (by omega), gu_k (by omega), wcp_k (by omega), ncp_k (by omega)]
theorem KP_RG {T T1 : gT} {c J c1 J1 : gC} (h : KP T c J T1 c1 J1) (hR : HR T c) : RG c1 := by
  obtain ⟨m, r1, r2, r3, r4, r5, r6, r7, r8, r9⟩ := hR
  obtain ⟨c0, q, h0, h1, h2, h4, h5, h6, h7⟩ := h
  rw [h2]
  unfold kps
  have e := (h5 100052 (by omega)).1
  refine RG_gu (RG_gu (wcp_RG (ncp_RG h4)) ?_) ?_
  · rw [e]; omega
  · rw [e]; omega
theorem KP_NT {T T1 : gT} {c J c1 J1 : gC} (h : KP T c J T1 c1 J1) (hT : NT T 100014) : NT T1 100014 := NT_of hT fun k h1 h2 => KP_T h (by omega) (by omega)
theorem KP_WT {T T1 : gT} {c J c1 J1 : gC} (h : KP T c J T1 c1 J1) (hT : WT T 100034) : WT T1 100034 := WT_of hT fun k h1 h2 => KP_T h (by omega) (by omega)
theorem KP_XT {T T1 : gT} {c J c1 J1 : gC} (h : KP T c J T1 c1 J1) (hX : XT T) : XT T1 := by
  unfold XT at hX ⊢
  rw [KP_T h (by omega) (by omega)]
  exact hX
theorem KP_NR {T T1 : gT} {c J c1 J1 : gC} (h : KP T c J T1 c1 J1) (hN : NR c 100014) : NR c1 100014 := by
  unfold NR at hN ⊢
  rw [KP_c h (k := 100014) (by omega) (by omega), KP_c h (k := 100014 + 2) (by omega) (by omega), KP_c h (k := 100014 + 3) (by omega) (by omega), KP_c h (k := 100014 + 5) (by omega) (by omega), KP_c h (k := 100014 + 6) (by omega) (by omega), KP_c h (k := 100014 + 7) (by omega) (by omega), KP_c h (k := 100014 + 8) (by omega) (by omega), KP_c h (k := 100014 + 10) (by omega) (by omega), KP_c h (k := 100014 + 11) (by omega) (by omega)]
  exact hN
theorem KP_WR {T T1 : gT} {c J c1 J1 : gC} {B : Int} (h : KP T c J T1 c1 J1) (hN : WR c 100034 B) : WR c1 100034 B := by
  unfold WR at hN ⊢
  rw [KP_c h (k := 100034) (by omega) (by omega), KP_c h (k := 100034 + 1) (by omega) (by omega), KP_c h (k := 100034 + 2) (by omega) (by omega), KP_c h (k := 100034 + 3) (by omega) (by omega), KP_c h (k := 100034 + 4) (by omega) (by omega)]
  exact hN
set_option maxHeartbeats 1000000 in
theorem c_x_waitFor {g : Nat} {T : gT} {c J : gC} (hX : XT T) (hT : NT T 100014) (hc : RG c) (hN : NR c 100014) (hW : WT T 100034) (hwn : (T.1 100034).2.2 0 = 100014 + 1) {B : Int} (hR : WR c 100034 B) (hH : HR T c) {z : Int} (hz : -2147483648 ≤ z ∧ z < 2147483648) : gE g 149 6 [.ref 500000, gi z] (gm T c J) (fun o M1 => (¬ (0 ≤ z ∧ z ≤ 86400) ∧ o = .inr 1 ∧ M1 = gm (gTt T) c J) ∨ ((0 ≤ z ∧ z ≤ 86400) ∧ ¬ c 100034 1 + z ≤ 1000000 ∧ o = .inr 0 ∧ M1 = gm (gTt T) c J) ∨ (z = 0 ∧ c 100034 1 ≤ 1000000 ∧ o = .inl (some (gi (c 100034 1))) ∧ M1 = gm T c J) ∨ ((0 < z ∧ z ≤ 86400) ∧ c 100034 1 + z ≤ 1000000 ∧ ∃ (T1 : gT) (c1 J1 : gC), KP T c J T1 c1 J1 ∧ o = .inl (some (gi (c 100034 1 + z))) ∧ M1 = gm T1 (gu c1 100034 1 (c 100034 1 + z)) J1)) := by
  have hb1 := hR.1
  have hb2 := hR.2.1
  refine gE_mk am_r149 rfl (Or.inr ⟨_, rfl, (by first | exact XT_0 hX | exact XT_r4 hX | exact XT_r5 hX | exact XT_r9 hX | exact NT_0 hT | exact WT_0 hW | exact XT_0 x1 | exact XT_r4 x1 | exact XT_r5 x1 | exact XT_r6 x1 | exact WT_0 x3 | exact NT_0 x2)⟩) (fun d hd => ?_)
  show gw d g 149 0 [.ref 500000, gi z] [] _ _
  refine gw_il1 at149_0 ?_
  refine gw_zlt at149_1 (by first | omega | exact hc _ _ | exact x4 _ _) (fun q1 => ?_) (fun q1 => ?_)
  · refine gw_thr at149_11 (by omega) (Nat.le_of_ble_eq_true rfl) ?_
    first | exact Or.inl ⟨by omega, rfl, rfl⟩ | exact Or.inr (Or.inl ⟨by omega, by omega, rfl, rfl⟩)
  · refine gw_il1 at149_4 (gw_ldcw (z := 86400) at149_5 (by decide) ?_)
    refine gw_cle at149_8 (by first | omega | exact hc _ _ | exact x4 _ _) (by first | omega | exact hc _ _ | exact x4 _ _) (fun q8 => ?_) (fun q8 => ?_)
    · refine gw_al0 at149_19 (gw_gr at149_20 (by first | exact XT_0 hX | exact XT_r4 hX | exact XT_r5 hX | exact XT_r9 hX | exact NT_0 hT | exact WT_0 hW | exact XT_0 x1 | exact XT_r4 x1 | exact XT_r5 x1 | exact XT_r6 x1 | exact WT_0 x3 | exact NT_0 x2) (by first | exact XT_0 hX | exact XT_r4 hX | exact XT_r5 hX | exact XT_r9 hX | exact NT_0 hT | exact WT_0 hW | exact XT_0 x1 | exact XT_r4 x1 | exact XT_r5 x1 | exact XT_r6 x1 | exact WT_0 x3 | exact NT_0 x2) (gw_gf (j := 1) at149_23 (by first | exact XT_0 hX | exact XT_r4 hX | exact XT_r5 hX | exact XT_r9 hX | exact NT_0 hT | exact WT_0 hW | exact XT_0 x1 | exact XT_r4 x1 | exact XT_r5 x1 | exact XT_r6 x1 | exact WT_0 x3 | exact NT_0 x2) rfl (gw_il1 at149_26 (gw_iadd at149_27 (gw_ldcw (z := 1000000) at149_28 (by decide) ?_)))))
      refine gw_cle at149_31 (by first | omega | exact hc _ _ | exact x4 _ _) (by first | omega | exact hc _ _ | exact x4 _ _) (fun q31 => ?_) (fun q31 => ?_)
      · refine gw_il1 at149_42 ?_
        refine gw_zle at149_43 (by first | omega | exact hc _ _ | exact x4 _ _) (fun q43 => ?_) (fun q43 => ?_)
        · refine gw_al0 at149_74 (gw_gr at149_75 (by first | exact XT_0 hX | exact XT_r4 hX | exact XT_r5 hX | exact XT_r9 hX | exact NT_0 hT | exact WT_0 hW | exact XT_0 x1 | exact XT_r4 x1 | exact XT_r5 x1 | exact XT_r6 x1 | exact WT_0 x3 | exact NT_0 x2) (by first | exact XT_0 hX | exact XT_r4 hX | exact XT_r5 hX | exact XT_r9 hX | exact NT_0 hT | exact WT_0 hW | exact XT_0 x1 | exact XT_r4 x1 | exact XT_r5 x1 | exact XT_r6 x1 | exact WT_0 x3 | exact NT_0 x2) (gw_gf (j := 1) at149_78 (by first | exact XT_0 hX | exact XT_r4 hX | exact XT_r5 hX | exact XT_r9 hX | exact NT_0 hT | exact WT_0 hW | exact XT_0 x1 | exact XT_r4 x1 | exact XT_r5 x1 | exact XT_r6 x1 | exact WT_0 x3 | exact NT_0 x2) rfl ?_))
          try simp only [gu_s]
          refine gw_ri at149_81 am_r149.2.1 ?_
          first | exact Or.inr (Or.inr (Or.inl ⟨by omega, by omega, rfl, rfl⟩)) | exact Or.inr (Or.inr (Or.inr ⟨by omega, by omega, T1, c1, J1, kp, rfl, rfl⟩))
        · refine gw_al0 at149_46 (gw_gr at149_47 (by first | exact XT_0 hX | exact XT_r4 hX | exact XT_r5 hX | exact XT_r9 hX | exact NT_0 hT | exact WT_0 hW | exact XT_0 x1 | exact XT_r4 x1 | exact XT_r5 x1 | exact XT_r6 x1 | exact WT_0 x3 | exact NT_0 x2) (by first | exact XT_0 hX | exact XT_r4 hX | exact XT_r5 hX | exact XT_r9 hX | exact NT_0 hT | exact WT_0 hW | exact XT_0 x1 | exact XT_r4 x1 | exact XT_r5 x1 | exact XT_r6 x1 | exact WT_0 x3 | exact NT_0 x2) (gw_al0 at149_50 (gw_gr at149_51 (by first | exact XT_0 hX | exact XT_r4 hX | exact XT_r5 hX | exact XT_r9 hX | exact NT_0 hT | exact WT_0 hW | exact XT_0 x1 | exact XT_r4 x1 | exact XT_r5 x1 | exact XT_r6 x1 | exact WT_0 x3 | exact NT_0 x2) (by first | exact XT_0 hX | exact XT_r4 hX | exact XT_r5 hX | exact XT_r9 hX | exact NT_0 hT | exact WT_0 hW | exact XT_0 x1 | exact XT_r4 x1 | exact XT_r5 x1 | exact XT_r6 x1 | exact WT_0 x3 | exact NT_0 x2) (gw_al0 at149_54 (gw_gr at149_55 (by first | exact XT_0 hX | exact XT_r4 hX | exact XT_r5 hX | exact XT_r9 hX | exact NT_0 hT | exact WT_0 hW | exact XT_0 x1 | exact XT_r4 x1 | exact XT_r5 x1 | exact XT_r6 x1 | exact WT_0 x3 | exact NT_0 x2) (by first | exact XT_0 hX | exact XT_r4 hX | exact XT_r5 hX | exact XT_r9 hX | exact NT_0 hT | exact WT_0 hW | exact XT_0 x1 | exact XT_r4 x1 | exact XT_r5 x1 | exact XT_r6 x1 | exact WT_0 x3 | exact NT_0 x2) ?_)))))
          refine gw_call3 at149_58 (c_keep hH hc hT hW) (by omega) (Nat.le_of_ble_eq_true rfl) (fun o M1 q58 => ?_)
          obtain ⟨rfl, T1, c1, J1, kp, rfl⟩ := q58
          have x1 := KP_XT kp hX
          have x2 := KP_NT kp hT
          have x3 := KP_WT kp hW
          have x4 := KP_RG kp hH
          have x5 := KP_NR kp hN
          have x6 := KP_WR kp hR
          have x7 : c1 100034 = c 100034 := KP_c kp (by omega) (by omega)
          have x8 : c1 100014 = c 100014 := KP_c kp (by omega) (by omega)
          have x9 : (T1.1 100034).2.2 0 = 100014 + 1 := by rw [KP_T kp (by omega) (by omega)]; exact hwn
          show gw _ _ _ _ _ [] _ _
          refine gw_al0 at149_61 (gw_gr at149_62 (by first | exact XT_0 hX | exact XT_r4 hX | exact XT_r5 hX | exact XT_r9 hX | exact NT_0 hT | exact WT_0 hW | exact XT_0 x1 | exact XT_r4 x1 | exact XT_r5 x1 | exact XT_r6 x1 | exact WT_0 x3 | exact NT_0 x2) (by first | exact XT_0 hX | exact XT_r4 hX | exact XT_r5 hX | exact XT_r9 hX | exact NT_0 hT | exact WT_0 hW | exact XT_0 x1 | exact XT_r4 x1 | exact XT_r5 x1 | exact XT_r6 x1 | exact WT_0 x3 | exact NT_0 x2) (gw_dupr at149_65 (gw_gf (j := 1) at149_66 (by first | exact XT_0 hX | exact XT_r4 hX | exact XT_r5 hX | exact XT_r9 hX | exact NT_0 hT | exact WT_0 hW | exact XT_0 x1 | exact XT_r4 x1 | exact XT_r5 x1 | exact XT_r6 x1 | exact WT_0 x3 | exact NT_0 x2) rfl ?_)))
          rw [x7]
          refine gw_il1 at149_69 (gw_iadd at149_70 (gw_pf (j := 1) at149_71 (by first | exact XT_0 hX | exact XT_r4 hX | exact XT_r5 hX | exact XT_r9 hX | exact NT_0 hT | exact WT_0 hW | exact XT_0 x1 | exact XT_r4 x1 | exact XT_r5 x1 | exact XT_r6 x1 | exact WT_0 x3 | exact NT_0 x2) rfl (gw_al0 at149_74 (gw_gr at149_75 (by first | exact XT_0 hX | exact XT_r4 hX | exact XT_r5 hX | exact XT_r9 hX | exact NT_0 hT | exact WT_0 hW | exact XT_0 x1 | exact XT_r4 x1 | exact XT_r5 x1 | exact XT_r6 x1 | exact WT_0 x3 | exact NT_0 x2) (by first | exact XT_0 hX | exact XT_r4 hX | exact XT_r5 hX | exact XT_r9 hX | exact NT_0 hT | exact WT_0 hW | exact XT_0 x1 | exact XT_r4 x1 | exact XT_r5 x1 | exact XT_r6 x1 | exact WT_0 x3 | exact NT_0 x2) (gw_gf (j := 1) at149_78 (by first | exact XT_0 hX | exact XT_r4 hX | exact XT_r5 hX | exact XT_r9 hX | exact NT_0 hT | exact WT_0 hW | exact XT_0 x1 | exact XT_r4 x1 | exact XT_r5 x1 | exact XT_r6 x1 | exact WT_0 x3 | exact NT_0 x2) rfl ?_)))))
          try simp only [gu_s]
          refine gw_ri at149_81 am_r149.2.1 ?_
          first | exact Or.inr (Or.inr (Or.inl ⟨by omega, by omega, rfl, rfl⟩)) | exact Or.inr (Or.inr (Or.inr ⟨by omega, by omega, T1, c1, J1, kp, rfl, rfl⟩))
      · refine gw_thr at149_34 (by omega) (Nat.le_of_ble_eq_true rfl) ?_
        first | exact Or.inl ⟨by omega, rfl, rfl⟩ | exact Or.inr (Or.inl ⟨by omega, by omega, rfl, rfl⟩)
    · refine gw_thr at149_11 (by omega) (Nat.le_of_ble_eq_true rfl) ?_
      first | exact Or.inl ⟨by omega, rfl, rfl⟩ | exact Or.inr (Or.inl ⟨by omega, by omega, rfl, rfl⟩)
set_option maxHeartbeats 1000000 in
theorem c_x_refill {g : Nat} {T : gT} {c J : gC} (hX : XT T) (hT : NT T 100014) (hc : RG c) (hN : NR c 100014) (hW : WT T 100034) (hwn : (T.1 100034).2.2 0 = 100014 + 1) {B : Int} (hR : WR c 100034 B) (hH : HR T c) (hcap : 0 ≤ c 100014 4 ∧ c 100014 4 ≤ 9999) : gE g 150 6 [.ref 500000] (gm T c J) (fun o M1 => ((c 100014 1 = 0 ∨ ¬ c 100034 2 = c 100014 3) ∧ o = .inr 0 ∧ M1 = gm (gTt T) c J) ∨ (¬ (c 100014 1 = 0 ∨ ¬ c 100034 2 = c 100014 3) ∧ c 100014 4 - c 100034 4 ≤ 0 ∧ o = .inl (some (gi (c 100014 4 - c 100034 4))) ∧ M1 = gm T c J) ∨ (¬ (c 100014 1 = 0 ∨ ¬ c 100034 2 = c 100014 3) ∧ ¬ c 100014 4 - c 100034 4 ≤ 0 ∧ ∃ (T1 : gT) (c1 J1 : gC), KP T c J T1 c1 J1 ∧ o = .inl (some (gi (c 100014 4 - c 100034 4))) ∧ M1 = gm T1 (gu c1 100034 4 (c 100014 4)) J1)) := by
  have hb1 := hR.1
  have hb2 := hR.2.1
  have hb3 := hR.2.2.2.2.1
  refine gE_mk am_r150 rfl (Or.inr ⟨_, rfl, (by first | exact XT_0 hX | exact XT_r4 hX | exact XT_r5 hX | exact XT_r9 hX | exact NT_0 hT | exact WT_0 hW | exact XT_0 x1 | exact XT_r4 x1 | exact XT_r5 x1 | exact XT_r6 x1 | exact WT_0 x3 | exact NT_0 x2)⟩) (fun d hd => ?_)
  show gw d g 150 0 [.ref 500000, am_U] [] _ _
  refine gw_al0 at150_0 (gw_gr at150_1 (by first | exact XT_0 hX | exact XT_r4 hX | exact XT_r5 hX | exact XT_r9 hX | exact NT_0 hT | exact WT_0 hW | exact XT_0 x1 | exact XT_r4 x1 | exact XT_r5 x1 | exact XT_r6 x1 | exact WT_0 x3 | exact NT_0 x2) (by first | exact XT_0 hX | exact XT_r4 hX | exact XT_r5 hX | exact XT_r9 hX | exact NT_0 hT | exact WT_0 hW | exact XT_0 x1 | exact XT_r4 x1 | exact XT_r5 x1 | exact XT_r6 x1 | exact WT_0 x3 | exact NT_0 x2) (gw_gf (j := 1) at150_4 (by first | exact XT_0 hX | exact XT_r4 hX | exact XT_r5 hX | exact XT_r9 hX | exact NT_0 hT | exact WT_0 hW | exact XT_0 x1 | exact XT_r4 x1 | exact XT_r5 x1 | exact XT_r6 x1 | exact WT_0 x3 | exact NT_0 x2) rfl ?_))
  refine gw_zeq at150_7 (by first | omega | exact hc _ _ | exact x4 _ _) (fun q7 => ?_) (fun q7 => ?_)
  · refine gw_thr at150_27 (by omega) (Nat.le_of_ble_eq_true rfl) ?_
    exact Or.inl ⟨by omega, rfl, rfl⟩
  · refine gw_al0 at150_10 (gw_gr at150_11 (by first | exact XT_0 hX | exact XT_r4 hX | exact XT_r5 hX | exact XT_r9 hX | exact NT_0 hT | exact WT_0 hW | exact XT_0 x1 | exact XT_r4 x1 | exact XT_r5 x1 | exact XT_r6 x1 | exact WT_0 x3 | exact NT_0 x2) (by first | exact XT_0 hX | exact XT_r4 hX | exact XT_r5 hX | exact XT_r9 hX | exact NT_0 hT | exact WT_0 hW | exact XT_0 x1 | exact XT_r4 x1 | exact XT_r5 x1 | exact XT_r6 x1 | exact WT_0 x3 | exact NT_0 x2) (gw_gf (j := 2) at150_14 (by first | exact XT_0 hX | exact XT_r4 hX | exact XT_r5 hX | exact XT_r9 hX | exact NT_0 hT | exact WT_0 hW | exact XT_0 x1 | exact XT_r4 x1 | exact XT_r5 x1 | exact XT_r6 x1 | exact WT_0 x3 | exact NT_0 x2) rfl (gw_al0 at150_17 (gw_gr at150_18 (by first | exact XT_0 hX | exact XT_r4 hX | exact XT_r5 hX | exact XT_r9 hX | exact NT_0 hT | exact WT_0 hW | exact XT_0 x1 | exact XT_r4 x1 | exact XT_r5 x1 | exact XT_r6 x1 | exact WT_0 x3 | exact NT_0 x2) (by first | exact XT_0 hX | exact XT_r4 hX | exact XT_r5 hX | exact XT_r9 hX | exact NT_0 hT | exact WT_0 hW | exact XT_0 x1 | exact XT_r4 x1 | exact XT_r5 x1 | exact XT_r6 x1 | exact WT_0 x3 | exact NT_0 x2) (gw_gf (j := 3) at150_21 (by first | exact XT_0 hX | exact XT_r4 hX | exact XT_r5 hX | exact XT_r9 hX | exact NT_0 hT | exact WT_0 hW | exact XT_0 x1 | exact XT_r4 x1 | exact XT_r5 x1 | exact XT_r6 x1 | exact WT_0 x3 | exact NT_0 x2) rfl ?_)))))
    refine gw_ceq at150_24 (by first | omega | exact hc _ _ | exact x4 _ _) (by first | omega | exact hc _ _ | exact x4 _ _) (fun q24 => ?_) (fun q24 => ?_)
    · refine gw_al0 at150_35 (gw_gr at150_36 (by first | exact XT_0 hX | exact XT_r4 hX | exact XT_r5 hX | exact XT_r9 hX | exact NT_0 hT | exact WT_0 hW | exact XT_0 x1 | exact XT_r4 x1 | exact XT_r5 x1 | exact XT_r6 x1 | exact WT_0 x3 | exact NT_0 x2) (by first | exact XT_0 hX | exact XT_r4 hX | exact XT_r5 hX | exact XT_r9 hX | exact NT_0 hT | exact WT_0 hW | exact XT_0 x1 | exact XT_r4 x1 | exact XT_r5 x1 | exact XT_r6 x1 | exact WT_0 x3 | exact NT_0 x2) (gw_gf (j := 4) at150_39 (by first | exact XT_0 hX | exact XT_r4 hX | exact XT_r5 hX | exact XT_r9 hX | exact NT_0 hT | exact WT_0 hW | exact XT_0 x1 | exact XT_r4 x1 | exact XT_r5 x1 | exact XT_r6 x1 | exact WT_0 x3 | exact NT_0 x2) rfl (gw_al0 at150_42 (gw_gr at150_43 (by first | exact XT_0 hX | exact XT_r4 hX | exact XT_r5 hX | exact XT_r9 hX | exact NT_0 hT | exact WT_0 hW | exact XT_0 x1 | exact XT_r4 x1 | exact XT_r5 x1 | exact XT_r6 x1 | exact WT_0 x3 | exact NT_0 x2) (by first | exact XT_0 hX | exact XT_r4 hX | exact XT_r5 hX | exact XT_r9 hX | exact NT_0 hT | exact WT_0 hW | exact XT_0 x1 | exact XT_r4 x1 | exact XT_r5 x1 | exact XT_r6 x1 | exact WT_0 x3 | exact NT_0 x2) (gw_gf (j := 4) at150_46 (by first | exact XT_0 hX | exact XT_r4 hX | exact XT_r5 hX | exact XT_r9 hX | exact NT_0 hT | exact WT_0 hW | exact XT_0 x1 | exact XT_r4 x1 | exact XT_r5 x1 | exact XT_r6 x1 | exact WT_0 x3 | exact NT_0 x2) rfl (gw_isub at150_49 (gw_is1 at150_50 (h := (gw_il1 at150_51 ?_)))))))))
      refine gw_zle at150_52 (by first | omega | exact hc _ _ | exact x4 _ _) (fun q52 => ?_) (fun q52 => ?_)
      · refine gw_il1 at150_84 (gw_ri at150_85 am_r150.2.1 ?_)
        first | exact Or.inr (Or.inl ⟨by omega, by omega, rfl, rfl⟩) | exact Or.inr (Or.inr ⟨by omega, by omega, T1, c1, J1, kp, rfl, rfl⟩)
      · refine gw_al0 at150_55 (gw_gr at150_56 (by first | exact XT_0 hX | exact XT_r4 hX | exact XT_r5 hX | exact XT_r9 hX | exact NT_0 hT | exact WT_0 hW | exact XT_0 x1 | exact XT_r4 x1 | exact XT_r5 x1 | exact XT_r6 x1 | exact WT_0 x3 | exact NT_0 x2) (by first | exact XT_0 hX | exact XT_r4 hX | exact XT_r5 hX | exact XT_r9 hX | exact NT_0 hT | exact WT_0 hW | exact XT_0 x1 | exact XT_r4 x1 | exact XT_r5 x1 | exact XT_r6 x1 | exact WT_0 x3 | exact NT_0 x2) (gw_al0 at150_59 (gw_gr at150_60 (by first | exact XT_0 hX | exact XT_r4 hX | exact XT_r5 hX | exact XT_r9 hX | exact NT_0 hT | exact WT_0 hW | exact XT_0 x1 | exact XT_r4 x1 | exact XT_r5 x1 | exact XT_r6 x1 | exact WT_0 x3 | exact NT_0 x2) (by first | exact XT_0 hX | exact XT_r4 hX | exact XT_r5 hX | exact XT_r9 hX | exact NT_0 hT | exact WT_0 hW | exact XT_0 x1 | exact XT_r4 x1 | exact XT_r5 x1 | exact XT_r6 x1 | exact WT_0 x3 | exact NT_0 x2) (gw_al0 at150_63 (gw_gr at150_64 (by first | exact XT_0 hX | exact XT_r4 hX | exact XT_r5 hX | exact XT_r9 hX | exact NT_0 hT | exact WT_0 hW | exact XT_0 x1 | exact XT_r4 x1 | exact XT_r5 x1 | exact XT_r6 x1 | exact WT_0 x3 | exact NT_0 x2) (by first | exact XT_0 hX | exact XT_r4 hX | exact XT_r5 hX | exact XT_r9 hX | exact NT_0 hT | exact WT_0 hW | exact XT_0 x1 | exact XT_r4 x1 | exact XT_r5 x1 | exact XT_r6 x1 | exact WT_0 x3 | exact NT_0 x2) ?_)))))
        refine gw_call3 at150_67 (c_keep hH hc hT hW) (by omega) (Nat.le_of_ble_eq_true rfl) (fun o M1 q67 => ?_)
        obtain ⟨rfl, T1, c1, J1, kp, rfl⟩ := q67
        have x1 := KP_XT kp hX
        have x2 := KP_NT kp hT
        have x3 := KP_WT kp hW
        have x4 := KP_RG kp hH
        have x5 := KP_NR kp hN
        have x6 := KP_WR kp hR
        have x7 : c1 100034 = c 100034 := KP_c kp (by omega) (by omega)
        have x8 : c1 100014 = c 100014 := KP_c kp (by omega) (by omega)
        have x9 : (T1.1 100034).2.2 0 = 100014 + 1 := by rw [KP_T kp (by omega) (by omega)]; exact hwn
        show gw _ _ _ _ _ [] _ _
        refine gw_al0 at150_70 (gw_gr at150_71 (by first | exact XT_0 hX | exact XT_r4 hX | exact XT_r5 hX | exact XT_r9 hX | exact NT_0 hT | exact WT_0 hW | exact XT_0 x1 | exact XT_r4 x1 | exact XT_r5 x1 | exact XT_r6 x1 | exact WT_0 x3 | exact NT_0 x2) (by first | exact XT_0 hX | exact XT_r4 hX | exact XT_r5 hX | exact XT_r9 hX | exact NT_0 hT | exact WT_0 hW | exact XT_0 x1 | exact XT_r4 x1 | exact XT_r5 x1 | exact XT_r6 x1 | exact WT_0 x3 | exact NT_0 x2) (gw_al0 at150_74 (gw_gr at150_75 (by first | exact XT_0 hX | exact XT_r4 hX | exact XT_r5 hX | exact XT_r9 hX | exact NT_0 hT | exact WT_0 hW | exact XT_0 x1 | exact XT_r4 x1 | exact XT_r5 x1 | exact XT_r6 x1 | exact WT_0 x3 | exact NT_0 x2) (by first | exact XT_0 hX | exact XT_r4 hX | exact XT_r5 hX | exact XT_r9 hX | exact NT_0 hT | exact WT_0 hW | exact XT_0 x1 | exact XT_r4 x1 | exact XT_r5 x1 | exact XT_r6 x1 | exact WT_0 x3 | exact NT_0 x2) (gw_gf (j := 4) at150_78 (by first | exact XT_0 hX | exact XT_r4 hX | exact XT_r5 hX | exact XT_r9 hX | exact NT_0 hT | exact WT_0 hW | exact XT_0 x1 | exact XT_r4 x1 | exact XT_r5 x1 | exact XT_r6 x1 | exact WT_0 x3 | exact NT_0 x2) rfl ?_))))
        rw [x8]
        refine gw_pf (j := 4) at150_81 (by first | exact XT_0 hX | exact XT_r4 hX | exact XT_r5 hX | exact XT_r9 hX | exact NT_0 hT | exact WT_0 hW | exact XT_0 x1 | exact XT_r4 x1 | exact XT_r5 x1 | exact XT_r6 x1 | exact WT_0 x3 | exact NT_0 x2) rfl (gw_il1 at150_84 (gw_ri at150_85 am_r150.2.1 ?_))
        first | exact Or.inr (Or.inl ⟨by omega, by omega, rfl, rfl⟩) | exact Or.inr (Or.inr ⟨by omega, by omega, T1, c1, J1, kp, rfl, rfl⟩)
    · refine gw_thr at150_27 (by omega) (Nat.le_of_ble_eq_true rfl) ?_
      exact Or.inl ⟨by omega, rfl, rfl⟩
set_option maxHeartbeats 1000000 in
theorem c_x_setFall {g : Nat} {T : gT} {c J : gC} (hX : XT T) (hT : NT T 100014) (hc : RG c) (hN : NR c 100014) (hW : WT T 100034) (hwn : (T.1 100034).2.2 0 = 100014 + 1) {B : Int} (hR : WR c 100034 B) (hH : HR T c) {z : Int} (hz : -2147483648 ≤ z ∧ z < 2147483648) : gE g 151 6 [.ref 500000, gi z] (gm T c J) (fun o M1 => (¬ (0 ≤ z ∧ z ≤ 99) ∧ o = .inr 1 ∧ M1 = gm (gTt T) c J) ∨ ((0 ≤ z ∧ z ≤ 99) ∧ z = c 100034 7 ∧ o = .inl (some (gi (c 100034 7))) ∧ M1 = gm T c J) ∨ ((0 ≤ z ∧ z ≤ 99) ∧ ¬ z = c 100034 7 ∧ ∃ (T1 : gT) (c1 J1 : gC), KP T c J T1 c1 J1 ∧ o = .inl (some (gi (c 100034 7))) ∧ M1 = gm T1 (chr c1 100034 z) J1)) := by
  have hb1 := hR.1
  have hb2 := hR.2.1
  refine gE_mk am_r151 rfl (Or.inr ⟨_, rfl, (by first | exact XT_0 hX | exact XT_r4 hX | exact XT_r5 hX | exact XT_r9 hX | exact NT_0 hT | exact WT_0 hW | exact XT_0 x1 | exact XT_r4 x1 | exact XT_r5 x1 | exact XT_r6 x1 | exact WT_0 x3 | exact NT_0 x2)⟩) (fun d hd => ?_)
  show gw d g 151 0 [.ref 500000, gi z, am_U] [] _ _
  refine gw_il1 at151_0 ?_
  refine gw_zlt at151_1 (by first | omega | exact hc _ _ | exact x4 _ _) (fun q1 => ?_) (fun q1 => ?_)
  · refine gw_thr at151_10 (by omega) (Nat.le_of_ble_eq_true rfl) ?_
    exact Or.inl ⟨by omega, rfl, rfl⟩
  · refine gw_il1 at151_4 (gw_bip at151_5 (by decide) ?_)
    refine gw_cle at151_7 (by first | omega | exact hc _ _ | exact x4 _ _) (by first | omega | exact hc _ _ | exact x4 _ _) (fun q7 => ?_) (fun q7 => ?_)
    · refine gw_al0 at151_18 (gw_gr at151_19 (by first | exact XT_0 hX | exact XT_r4 hX | exact XT_r5 hX | exact XT_r9 hX | exact NT_0 hT | exact WT_0 hW | exact XT_0 x1 | exact XT_r4 x1 | exact XT_r5 x1 | exact XT_r6 x1 | exact WT_0 x3 | exact NT_0 x2) (by first | exact XT_0 hX | exact XT_r4 hX | exact XT_r5 hX | exact XT_r9 hX | exact NT_0 hT | exact WT_0 hW | exact XT_0 x1 | exact XT_r4 x1 | exact XT_r5 x1 | exact XT_r6 x1 | exact WT_0 x3 | exact NT_0 x2) (gw_gf (j := 7) at151_22 (by first | exact XT_0 hX | exact XT_r4 hX | exact XT_r5 hX | exact XT_r9 hX | exact NT_0 hT | exact WT_0 hW | exact XT_0 x1 | exact XT_r4 x1 | exact XT_r5 x1 | exact XT_r6 x1 | exact WT_0 x3 | exact NT_0 x2) rfl (gw_is2 at151_25 (h := (gw_il1 at151_26 (gw_il2 at151_27 ?_))))))
      refine gw_ceq at151_28 (by first | omega | exact hc _ _ | exact x4 _ _) (by first | omega | exact hc _ _ | exact x4 _ _) (fun q28 => ?_) (fun q28 => ?_)
      · refine gw_il2 at151_54 (gw_ri at151_55 am_r151.2.1 ?_)
        first | exact Or.inr (Or.inl ⟨by omega, by omega, rfl, rfl⟩) | exact Or.inr (Or.inr ⟨by omega, by omega, T1, c1, J1, kp, rfl, rfl⟩)
      · refine gw_al0 at151_31 (gw_gr at151_32 (by first | exact XT_0 hX | exact XT_r4 hX | exact XT_r5 hX | exact XT_r9 hX | exact NT_0 hT | exact WT_0 hW | exact XT_0 x1 | exact XT_r4 x1 | exact XT_r5 x1 | exact XT_r6 x1 | exact WT_0 x3 | exact NT_0 x2) (by first | exact XT_0 hX | exact XT_r4 hX | exact XT_r5 hX | exact XT_r9 hX | exact NT_0 hT | exact WT_0 hW | exact XT_0 x1 | exact XT_r4 x1 | exact XT_r5 x1 | exact XT_r6 x1 | exact WT_0 x3 | exact NT_0 x2) (gw_al0 at151_35 (gw_gr at151_36 (by first | exact XT_0 hX | exact XT_r4 hX | exact XT_r5 hX | exact XT_r9 hX | exact NT_0 hT | exact WT_0 hW | exact XT_0 x1 | exact XT_r4 x1 | exact XT_r5 x1 | exact XT_r6 x1 | exact WT_0 x3 | exact NT_0 x2) (by first | exact XT_0 hX | exact XT_r4 hX | exact XT_r5 hX | exact XT_r9 hX | exact NT_0 hT | exact WT_0 hW | exact XT_0 x1 | exact XT_r4 x1 | exact XT_r5 x1 | exact XT_r6 x1 | exact WT_0 x3 | exact NT_0 x2) (gw_al0 at151_39 (gw_gr at151_40 (by first | exact XT_0 hX | exact XT_r4 hX | exact XT_r5 hX | exact XT_r9 hX | exact NT_0 hT | exact WT_0 hW | exact XT_0 x1 | exact XT_r4 x1 | exact XT_r5 x1 | exact XT_r6 x1 | exact WT_0 x3 | exact NT_0 x2) (by first | exact XT_0 hX | exact XT_r4 hX | exact XT_r5 hX | exact XT_r9 hX | exact NT_0 hT | exact WT_0 hW | exact XT_0 x1 | exact XT_r4 x1 | exact XT_r5 x1 | exact XT_r6 x1 | exact WT_0 x3 | exact NT_0 x2) ?_)))))
        refine gw_call3 at151_43 (c_keep hH hc hT hW) (by omega) (Nat.le_of_ble_eq_true rfl) (fun o M1 q43 => ?_)
        obtain ⟨rfl, T1, c1, J1, kp, rfl⟩ := q43
        have x1 := KP_XT kp hX
        have x2 := KP_NT kp hT
        have x3 := KP_WT kp hW
        have x4 := KP_RG kp hH
        have x5 := KP_NR kp hN
        have x6 := KP_WR kp hR
        have x7 : c1 100034 = c 100034 := KP_c kp (by omega) (by omega)
        have x8 : c1 100014 = c 100014 := KP_c kp (by omega) (by omega)
        have x9 : (T1.1 100034).2.2 0 = 100014 + 1 := by rw [KP_T kp (by omega) (by omega)]; exact hwn
        show gw _ _ _ _ _ [] _ _
        refine gw_al0 at151_46 (gw_gr at151_47 (by first | exact XT_0 hX | exact XT_r4 hX | exact XT_r5 hX | exact XT_r9 hX | exact NT_0 hT | exact WT_0 hW | exact XT_0 x1 | exact XT_r4 x1 | exact XT_r5 x1 | exact XT_r6 x1 | exact WT_0 x3 | exact NT_0 x2) (by first | exact XT_0 hX | exact XT_r4 hX | exact XT_r5 hX | exact XT_r9 hX | exact NT_0 hT | exact WT_0 hW | exact XT_0 x1 | exact XT_r4 x1 | exact XT_r5 x1 | exact XT_r6 x1 | exact WT_0 x3 | exact NT_0 x2) (gw_il1 at151_50 ?_))
        refine gw_call2 at151_51 (c_changeRate x3 x4 x6 (by omega)) (by omega) (Nat.le_of_ble_eq_true rfl) (fun o M1 q51 => ?_)
        obtain ⟨rfl, rfl⟩ := q51
        show gw _ _ _ _ _ [] _ _
        refine gw_il2 at151_54 (gw_ri at151_55 am_r151.2.1 ?_)
        first | exact Or.inr (Or.inl ⟨by omega, by omega, rfl, rfl⟩) | exact Or.inr (Or.inr ⟨by omega, by omega, T1, c1, J1, kp, rfl, rfl⟩)
    · refine gw_thr at151_10 (by omega) (Nat.le_of_ble_eq_true rfl) ?_
      exact Or.inl ⟨by omega, rfl, rfl⟩
set_option maxHeartbeats 1000000 in
theorem c_x_drive {g : Nat} {T : gT} {c J : gC} (hX : XT T) (hT : NT T 100014) (hc : RG c) (hN : NR c 100014) (hW : WT T 100034) (hwn : (T.1 100034).2.2 0 = 100014 + 1) {B : Int} (hR : WR c 100034 B) (hH : HR T c) (hB2 : B ≤ 1300000000) {z : Int} (hz : -2147483648 ≤ z ∧ z < 2147483648) {s : Bool} : gE g 146 8 [.ref 500000, gi z, gi (bi s)] (gm T c J) (fun o M1 => (hA c 100014 z = true ∧ bg c 100014 z = c 100034 2 ∧ ∃ (T1 : gT) (c1 J1 : gC), KP T c J T1 c1 J1 ∧ o = .inl (some (gi (scn c1 100014 100034 z))) ∧ M1 = gm T1 (drv c1 100014 100034 z s) J1) ∨ (hA c 100014 z = true ∧ ¬ bg c 100014 z = c 100034 2 ∧ o = .inr 0 ∧ M1 = gm (gTt T) c J) ∨ (¬ hA c 100014 z = true ∧ o = .inr 2 ∧ M1 = gm (gTt T) c J)) := by
  have hb1 := hR.1
  have hb2 := hR.2.1
  refine gE_mk am_r146 rfl (Or.inr ⟨_, rfl, (by first | exact XT_0 hX | exact XT_r4 hX | exact XT_r5 hX | exact XT_r9 hX | exact NT_0 hT | exact WT_0 hW | exact XT_0 x1 | exact XT_r4 x1 | exact XT_r5 x1 | exact XT_r6 x1 | exact WT_0 x3 | exact NT_0 x2)⟩) (fun d hd => ?_)
  show gw d g 146 0 [.ref 500000, gi z, gi (bi s)] [] _ _
  refine gw_al0 at146_0 (gw_il1 at146_1 ?_)
  refine gw_call2 at146_2 (c_ckDriv hX hT hc hN hW (by omega)) (by omega) (Nat.le_of_ble_eq_true rfl) (fun o M1 q2 => ?_)
  rcases q2 with ⟨h1, h2, rfl, rfl⟩ | ⟨h1, h2, rfl, rfl⟩ | ⟨h1, rfl, rfl⟩
  · have hr := hA_rg hN h1
    show gw _ _ _ _ _ [] _ _
    refine gw_al0 at146_5 (gw_gr at146_6 (by first | exact XT_0 hX | exact XT_r4 hX | exact XT_r5 hX | exact XT_r9 hX | exact NT_0 hT | exact WT_0 hW | exact XT_0 x1 | exact XT_r4 x1 | exact XT_r5 x1 | exact XT_r6 x1 | exact WT_0 x3 | exact NT_0 x2) (by first | exact XT_0 hX | exact XT_r4 hX | exact XT_r5 hX | exact XT_r9 hX | exact NT_0 hT | exact WT_0 hW | exact XT_0 x1 | exact XT_r4 x1 | exact XT_r5 x1 | exact XT_r6 x1 | exact WT_0 x3 | exact NT_0 x2) (gw_al0 at146_9 (gw_gr at146_10 (by first | exact XT_0 hX | exact XT_r4 hX | exact XT_r5 hX | exact XT_r9 hX | exact NT_0 hT | exact WT_0 hW | exact XT_0 x1 | exact XT_r4 x1 | exact XT_r5 x1 | exact XT_r6 x1 | exact WT_0 x3 | exact NT_0 x2) (by first | exact XT_0 hX | exact XT_r4 hX | exact XT_r5 hX | exact XT_r9 hX | exact NT_0 hT | exact WT_0 hW | exact XT_0 x1 | exact XT_r4 x1 | exact XT_r5 x1 | exact XT_r6 x1 | exact WT_0 x3 | exact NT_0 x2) (gw_al0 at146_13 (gw_gr at146_14 (by first | exact XT_0 hX | exact XT_r4 hX | exact XT_r5 hX | exact XT_r9 hX | exact NT_0 hT | exact WT_0 hW | exact XT_0 x1 | exact XT_r4 x1 | exact XT_r5 x1 | exact XT_r6 x1 | exact WT_0 x3 | exact NT_0 x2) (by first | exact XT_0 hX | exact XT_r4 hX | exact XT_r5 hX | exact XT_r9 hX | exact NT_0 hT | exact WT_0 hW | exact XT_0 x1 | exact XT_r4 x1 | exact XT_r5 x1 | exact XT_r6 x1 | exact WT_0 x3 | exact NT_0 x2) ?_)))))
    refine gw_call3 at146_17 (c_keep hH hc hT hW) (by omega) (Nat.le_of_ble_eq_true rfl) (fun o M1 q17 => ?_)
    obtain ⟨rfl, T1, c1, J1, kp, rfl⟩ := q17
    have x1 := KP_XT kp hX
    have x2 := KP_NT kp hT
    have x3 := KP_WT kp hW
    have x4 := KP_RG kp hH
    have x5 := KP_NR kp hN
    have x6 := KP_WR kp hR
    have x7 : c1 100034 = c 100034 := KP_c kp (by omega) (by omega)
    have x8 : c1 100014 = c 100014 := KP_c kp (by omega) (by omega)
    have x9 : (T1.1 100034).2.2 0 = 100014 + 1 := by rw [KP_T kp (by omega) (by omega)]; exact hwn
    show gw _ _ _ _ _ [] _ _
    refine gw_al0 at146_20 (gw_gr at146_21 (by first | exact XT_0 hX | exact XT_r4 hX | exact XT_r5 hX | exact XT_r9 hX | exact NT_0 hT | exact WT_0 hW | exact XT_0 x1 | exact XT_r4 x1 | exact XT_r5 x1 | exact XT_r6 x1 | exact WT_0 x3 | exact NT_0 x2) (by first | exact XT_0 hX | exact XT_r4 hX | exact XT_r5 hX | exact XT_r9 hX | exact NT_0 hT | exact WT_0 hW | exact XT_0 x1 | exact XT_r4 x1 | exact XT_r5 x1 | exact XT_r6 x1 | exact WT_0 x3 | exact NT_0 x2) (gw_il1 at146_24 (gw_il2 at146_25 ?_)))
    refine gw_call3 at146_26 (c_driveArc x2 x5 x3 x9 x4 x6 (by omega) (by omega) (by omega)) (by omega) (Nat.le_of_ble_eq_true rfl) (fun o M1 q26 => ?_)
    obtain ⟨rfl, rfl⟩ := q26
    show gw _ _ _ _ _ (gi _ :: _) _ _
    refine gw_ri at146_29 am_r146.2.1 ?_
    exact Or.inl ⟨h1, h2, T1, c1, J1, kp, rfl, rfl⟩
  · refine gK_thr (am_h146 _ (by decide)) ?_
    exact Or.inr (Or.inl ⟨h1, h2, rfl, rfl⟩)
  · refine gK_thr (am_h146 _ (by decide)) ?_
    exact Or.inr (Or.inr ⟨h1, rfl, rfl⟩)
