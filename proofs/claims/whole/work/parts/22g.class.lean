/-! the class: sums, buffers -/
def ibf (c : gC) (z i a : Int) : Int := if hA c 100014 i = true then a + (if bg c 100014 i = z then 1 else 0) - (if en c 100014 i = z then 1 else 0) else a
def slf (c : gC) (s i a : Int) : Int := if tb s i = true then a + sf c 100014 i else a
set_option maxHeartbeats 1000000 in
theorem c_x_imbalance {g : Nat} {T : gT} {c J : gC} (hX : XT T) (hT : NT T 100014) (hc : RG c) (hN : NR c 100014) (hW : WT T 100034) (hwn : (T.1 100034).2.2 0 = 100014 + 1) {B : Int} (hR : WR c 100034 B) {z : Int} (hz : -2147483648 ≤ z ∧ z < 2147483648) : gE g 117 7 [.ref 500000, gi z] (gm T c J) (gI (0 ≤ z ∧ z < c 100014 1) 2 (itI (ibf c z) 0 24) T c J) := by
  have hn1 := hN.1
  refine gE_mk am_r117 rfl (Or.inr ⟨_, rfl, (by first | exact XT_0 hX | exact XT_r4 hX | exact XT_r5 hX | exact NT_0 hT | exact WT_0 hW | exact WT_r8 hW | exact WT_t8 hW | exact WT_l8 hW | exact WT_r9 hW | exact WT_t9 hW | exact WT_l9 hW | exact NT_r16 hT | exact NT_t16 hT | exact NT_l16 hT)⟩) (fun d hd => ?_)
  show gw d g 117 0 [.ref 500000, gi z, am_U, am_U] [] _ _
  refine gw_al0 at117_0 (gw_il1 at117_1 ?_)
  refine gw_call2 at117_2 (c_ckNode hX hT hc hN (by omega)) (by omega) (Nat.le_of_ble_eq_true rfl) (fun o M1 q2 => ?_)
  rcases q2 with ⟨hp2, rfl, rfl⟩ | ⟨hp2, rfl, rfl⟩
  · show gw _ _ _ _ _ [] _ _
    refine gw_const at117_5 (gw_is2 at117_6 (h := (gw_const at117_7 (gw_is3 at117_8 (h := ?_)))))
    have lp9 : ∀ i : Int, 0 ≤ i → i ≤ 24 → ∀ s : Int, s = itI (ibf c z) 0 i → gw d g 117 9 [.ref 500000, gi z, gi s, gi i] [] (gm T c J) (gI (0 ≤ z ∧ z < c 100014 1) 2 (itI (ibf c z) 0 24) T c J) := by
      refine ind_up 24 ?_
      intro i hi0 hi1 ih s hs
      have hb1 := bg_rg hN i
      have he1 := en_rg hN i
      refine gw_il3 at117_9 ?_
      refine gw_bip at117_10 (by decide) ?_
      refine gw_cge at117_12 (by first | omega | exact hc _ _) (by first | omega | exact hc _ _) (fun q12 => ?_) (fun q12 => ?_)
      · refine gw_il2 at117_72 (gw_ri at117_73 am_r117.2.1 ?_)
        refine Or.inl ⟨hp2, ?_, rfl⟩
        rw [hs, show i = 24 by omega]
      · refine gw_al0 at117_15 (gw_gr at117_16 (by first | exact XT_0 hX | exact XT_r4 hX | exact XT_r5 hX | exact NT_0 hT | exact WT_0 hW | exact WT_r8 hW | exact WT_t8 hW | exact WT_l8 hW | exact WT_r9 hW | exact WT_t9 hW | exact WT_l9 hW | exact NT_r16 hT | exact NT_t16 hT | exact NT_l16 hT) (by first | exact XT_0 hX | exact XT_r4 hX | exact XT_r5 hX | exact NT_0 hT | exact WT_0 hW | exact WT_r8 hW | exact WT_t8 hW | exact WT_l8 hW | exact WT_r9 hW | exact WT_t9 hW | exact WT_l9 hW | exact NT_r16 hT | exact NT_t16 hT | exact NT_l16 hT) (gw_il3 at117_19 (gw_callP2 at117_20 (c_hasArc hT hc hN (by omega)) (by omega) (Nat.le_of_ble_eq_true rfl) ?_)))
        refine gw_beq at117_23 (fun q23 => ?_) (fun q23 => ?_)
        · refine gw_inc3 at117_66 (h := (gw_goto at117_69 ?_))
          refine ih (i + 1) (by omega) (by omega) _ ?_
          rw [itI_s _ _ hi0, ← hs]
          unfold ibf
          first | (rw [if_neg (by simp [*])]; done) | (rw [if_pos (by assumption)]; first | (rw [if_pos (by omega), if_pos (by omega)]; done) | (rw [if_pos (by omega), if_neg (by omega)]; done) | (rw [if_neg (by omega), if_pos (by omega)]; done) | (rw [if_neg (by omega), if_neg (by omega)]; done))
        · refine gw_il2 at117_26 (gw_al0 at117_27 (gw_gr at117_28 (by first | exact XT_0 hX | exact XT_r4 hX | exact XT_r5 hX | exact NT_0 hT | exact WT_0 hW | exact WT_r8 hW | exact WT_t8 hW | exact WT_l8 hW | exact WT_r9 hW | exact WT_t9 hW | exact WT_l9 hW | exact NT_r16 hT | exact NT_t16 hT | exact NT_l16 hT) (by first | exact XT_0 hX | exact XT_r4 hX | exact XT_r5 hX | exact NT_0 hT | exact WT_0 hW | exact WT_r8 hW | exact WT_t8 hW | exact WT_l8 hW | exact WT_r9 hW | exact WT_t9 hW | exact WT_l9 hW | exact NT_r16 hT | exact NT_t16 hT | exact NT_l16 hT) (gw_il3 at117_31 (gw_callP2 at117_32 (c_beginOf hT hc (by omega)) (by omega) (Nat.le_of_ble_eq_true rfl) (gw_il1 at117_35 ?_)))))
          refine gw_cne at117_36 (by first | omega | exact hc _ _) (by first | omega | exact hc _ _) (fun q36 => ?_) (fun q36 => ?_)
          · refine gw_const at117_43 (gw_iadd at117_44 (gw_is2 at117_45 (h := (gw_il2 at117_46 (gw_al0 at117_47 (gw_gr at117_48 (by first | exact XT_0 hX | exact XT_r4 hX | exact XT_r5 hX | exact NT_0 hT | exact WT_0 hW | exact WT_r8 hW | exact WT_t8 hW | exact WT_l8 hW | exact WT_r9 hW | exact WT_t9 hW | exact WT_l9 hW | exact NT_r16 hT | exact NT_t16 hT | exact NT_l16 hT) (by first | exact XT_0 hX | exact XT_r4 hX | exact XT_r5 hX | exact NT_0 hT | exact WT_0 hW | exact WT_r8 hW | exact WT_t8 hW | exact WT_l8 hW | exact WT_r9 hW | exact WT_t9 hW | exact WT_l9 hW | exact NT_r16 hT | exact NT_t16 hT | exact NT_l16 hT) (gw_il3 at117_51 (gw_callP2 at117_52 (c_endOf hT hc (by omega)) (by omega) (Nat.le_of_ble_eq_true rfl) (gw_il1 at117_55 ?_)))))))))
            refine gw_cne at117_56 (by first | omega | exact hc _ _) (by first | omega | exact hc _ _) (fun q56 => ?_) (fun q56 => ?_)
            · refine gw_const at117_63 (gw_isub at117_64 (gw_is2 at117_65 (h := (gw_inc3 at117_66 (h := (gw_goto at117_69 ?_))))))
              refine ih (i + 1) (by omega) (by omega) _ ?_
              rw [itI_s _ _ hi0, ← hs]
              unfold ibf
              first | (rw [if_neg (by simp [*])]; done) | (rw [if_pos (by assumption)]; first | (rw [if_pos (by omega), if_pos (by omega)]; done) | (rw [if_pos (by omega), if_neg (by omega)]; done) | (rw [if_neg (by omega), if_pos (by omega)]; done) | (rw [if_neg (by omega), if_neg (by omega)]; done))
            · refine gw_const at117_59 (gw_goto at117_60 (gw_isub at117_64 (gw_is2 at117_65 (h := (gw_inc3 at117_66 (h := (gw_goto at117_69 ?_)))))))
              refine ih (i + 1) (by omega) (by omega) _ ?_
              rw [itI_s _ _ hi0, ← hs]
              unfold ibf
              first | (rw [if_neg (by simp [*])]; done) | (rw [if_pos (by assumption)]; first | (rw [if_pos (by omega), if_pos (by omega)]; done) | (rw [if_pos (by omega), if_neg (by omega)]; done) | (rw [if_neg (by omega), if_pos (by omega)]; done) | (rw [if_neg (by omega), if_neg (by omega)]; done))
          · refine gw_const at117_39 (gw_goto at117_40 (gw_iadd at117_44 (gw_is2 at117_45 (h := (gw_il2 at117_46 (gw_al0 at117_47 (gw_gr at117_48 (by first | exact XT_0 hX | exact XT_r4 hX | exact XT_r5 hX | exact NT_0 hT | exact WT_0 hW | exact WT_r8 hW | exact WT_t8 hW | exact WT_l8 hW | exact WT_r9 hW | exact WT_t9 hW | exact WT_l9 hW | exact NT_r16 hT | exact NT_t16 hT | exact NT_l16 hT) (by first | exact XT_0 hX | exact XT_r4 hX | exact XT_r5 hX | exact NT_0 hT | exact WT_0 hW | exact WT_r8 hW | exact WT_t8 hW | exact WT_l8 hW | exact WT_r9 hW | exact WT_t9 hW | exact WT_l9 hW | exact NT_r16 hT | exact NT_t16 hT | exact NT_l16 hT) (gw_il3 at117_51 (gw_callP2 at117_52 (c_endOf hT hc (by omega)) (by omega) (Nat.le_of_ble_eq_true rfl) (gw_il1 at117_55 ?_))))))))))
            refine gw_cne at117_56 (by first | omega | exact hc _ _) (by first | omega | exact hc _ _) (fun q56 => ?_) (fun q56 => ?_)
            · refine gw_const at117_63 (gw_isub at117_64 (gw_is2 at117_65 (h := (gw_inc3 at117_66 (h := (gw_goto at117_69 ?_))))))
              refine ih (i + 1) (by omega) (by omega) _ ?_
              rw [itI_s _ _ hi0, ← hs]
              unfold ibf
              first | (rw [if_neg (by simp [*])]; done) | (rw [if_pos (by assumption)]; first | (rw [if_pos (by omega), if_pos (by omega)]; done) | (rw [if_pos (by omega), if_neg (by omega)]; done) | (rw [if_neg (by omega), if_pos (by omega)]; done) | (rw [if_neg (by omega), if_neg (by omega)]; done))
            · refine gw_const at117_59 (gw_goto at117_60 (gw_isub at117_64 (gw_is2 at117_65 (h := (gw_inc3 at117_66 (h := (gw_goto at117_69 ?_)))))))
              refine ih (i + 1) (by omega) (by omega) _ ?_
              rw [itI_s _ _ hi0, ← hs]
              unfold ibf
              first | (rw [if_neg (by simp [*])]; done) | (rw [if_pos (by assumption)]; first | (rw [if_pos (by omega), if_pos (by omega)]; done) | (rw [if_pos (by omega), if_neg (by omega)]; done) | (rw [if_neg (by omega), if_pos (by omega)]; done) | (rw [if_neg (by omega), if_neg (by omega)]; done))
    exact lp9 0 (by omega) (by omega) _ rfl
  · refine gK_thr (am_h117 _ (by decide)) ?_
    exact Or.inr ⟨hp2, rfl, rfl⟩
set_option maxHeartbeats 1000000 in
theorem c_x_salt {g : Nat} {T : gT} {c J : gC} (hX : XT T) (hT : NT T 100014) (hc : RG c) (hN : NR c 100014) (hW : WT T 100034) (hwn : (T.1 100034).2.2 0 = 100014 + 1) {B : Int} (hR : WR c 100034 B) {z : Int} (hz : -2147483648 ≤ z ∧ z < 2147483648) : gE g 129 7 [.ref 500000, gi z] (gm T c J) (gI (1 ≤ z ∧ z ≤ 3) 1 (itI (slf c (mskI (fun a => hA c 100014 a && decide (cl c 100014 a ≤ z)) 24)) 0 24) T c J) := by
  refine gE_mk am_r129 rfl (Or.inr ⟨_, rfl, (by first | exact XT_0 hX | exact XT_r4 hX | exact XT_r5 hX | exact NT_0 hT | exact WT_0 hW | exact WT_r8 hW | exact WT_t8 hW | exact WT_l8 hW | exact WT_r9 hW | exact WT_t9 hW | exact WT_l9 hW | exact NT_r16 hT | exact NT_t16 hT | exact NT_l16 hT)⟩) (fun d hd => ?_)
  show gw d g 129 0 [.ref 500000, gi z, am_U, am_U, am_U] [] _ _
  refine gw_il1 at129_0 ?_
  refine gw_call1 at129_1 (c_ckClass (by omega)) (by omega) (Nat.le_of_ble_eq_true rfl) (fun o M1 q1 => ?_)
  rcases q1 with ⟨hp1, rfl, rfl⟩ | ⟨hp1, rfl, rfl⟩
  · show gw _ _ _ _ _ [] _ _
    refine gw_al0 at129_4 (gw_gr at129_5 (by first | exact XT_0 hX | exact XT_r4 hX | exact XT_r5 hX | exact NT_0 hT | exact WT_0 hW | exact WT_r8 hW | exact WT_t8 hW | exact WT_l8 hW | exact WT_r9 hW | exact WT_t9 hW | exact WT_l9 hW | exact NT_r16 hT | exact NT_t16 hT | exact NT_l16 hT) (by first | exact XT_0 hX | exact XT_r4 hX | exact XT_r5 hX | exact NT_0 hT | exact WT_0 hW | exact WT_r8 hW | exact WT_t8 hW | exact WT_l8 hW | exact WT_r9 hW | exact WT_t9 hW | exact WT_l9 hW | exact NT_r16 hT | exact NT_t16 hT | exact NT_l16 hT) (gw_il1 at129_8 (gw_callP2 at129_9 (c_arcsUpTo hT hc hN (by omega)) (by omega) (Nat.le_of_ble_eq_true rfl) (gw_is2 at129_12 (h := (gw_const at129_13 (gw_is3 at129_14 (h := (gw_const at129_15 (gw_is4 at129_16 (h := ?_)))))))))))
    have lp18 : ∀ i : Int, 0 ≤ i → i ≤ 24 → ∀ s : Int, s = itI (slf c (mskI (fun a => hA c 100014 a && decide (cl c 100014 a ≤ z)) 24)) 0 i → gw d g 129 18 [.ref 500000, gi z, gi (mskI (fun a => hA c 100014 a && decide (cl c 100014 a ≤ z)) 24), gi s, gi i] [] (gm T c J) (gI (1 ≤ z ∧ z ≤ 3) 1 (itI (slf c (mskI (fun a => hA c 100014 a && decide (cl c 100014 a ≤ z)) 24)) 0 24) T c J) := by
      refine ind_up 24 ?_
      intro i hi0 hi1 ih s hs
      refine gw_il4 at129_18 ?_
      refine gw_bip at129_20 (by decide) ?_
      refine gw_cge at129_22 (by first | omega | exact hc _ _ | exact bi_rg _ | exact zrg _) (by first | omega | exact hc _ _ | exact bi_rg _ | exact zrg _) (fun q22 => ?_) (fun q22 => ?_)
      · refine gw_il3 at129_52 (gw_ri at129_53 am_r129.2.1 ?_)
        refine Or.inl ⟨hp1, ?_, rfl⟩
        rw [hs, show i = 24 by omega]
      · refine gw_il2 at129_25 (gw_il4 at129_26 (gw_callP2 at129_28 (c_contains) (by omega) (Nat.le_of_ble_eq_true rfl) ?_))
        refine gw_beq at129_31 (fun q31 => ?_) (fun q31 => ?_)
        · refine gw_inc4 at129_46 (h := (gw_goto at129_49 ?_))
          refine ih (i + 1) (by omega) (by omega) _ ?_
          rw [itI_s _ _ hi0, ← hs]
          unfold slf
          first | (rw [if_pos (by assumption)]; done) | (rw [if_neg (by simp [*])]; done)
        · refine gw_il3 at129_34 (gw_al0 at129_35 (gw_gr at129_36 (by first | exact XT_0 hX | exact XT_r4 hX | exact XT_r5 hX | exact NT_0 hT | exact WT_0 hW | exact WT_r8 hW | exact WT_t8 hW | exact WT_l8 hW | exact WT_r9 hW | exact WT_t9 hW | exact WT_l9 hW | exact NT_r16 hT | exact NT_t16 hT | exact NT_l16 hT) (by first | exact XT_0 hX | exact XT_r4 hX | exact XT_r5 hX | exact NT_0 hT | exact WT_0 hW | exact WT_r8 hW | exact WT_t8 hW | exact WT_l8 hW | exact WT_r9 hW | exact WT_t9 hW | exact WT_l9 hW | exact NT_r16 hT | exact NT_t16 hT | exact NT_l16 hT) (gw_il4 at129_39 (gw_callP2 at129_41 (c_saltFor hT hc hN (by omega)) (by omega) (Nat.le_of_ble_eq_true rfl) (gw_iadd at129_44 (gw_is3 at129_45 (h := (gw_inc4 at129_46 (h := (gw_goto at129_49 ?_))))))))))
          refine ih (i + 1) (by omega) (by omega) _ ?_
          rw [itI_s _ _ hi0, ← hs]
          unfold slf
          first | (rw [if_pos (by assumption)]; done) | (rw [if_neg (by simp [*])]; done)
    exact lp18 0 (by omega) (by omega) _ rfl
  · refine gK_thr (am_h129 _ (by decide)) ?_
    exact Or.inr ⟨hp1, rfl, rfl⟩
set_option maxHeartbeats 1000000 in
theorem c_x_truncate {g : Nat} {T : gT} {c J : gC} (hX : XT T) (hB : BT T 100000) (hc : RG c) (hR : BR c 100000) {z : Int} (hz : -2147483648 ≤ z ∧ z < 2147483648) : gE g 98 6 [.ref 500000, gi z] (gm T c J) (fun o M1 => ((0 ≤ z ∧ z ≤ c 100000 1) ∧ o = .inl none ∧ M1 = gm T (gu c 100000 1 z) J) ∨ (¬ (0 ≤ z ∧ z ≤ c 100000 1) ∧ o = .inr 1 ∧ M1 = gm (gTt T) c J)) := by
  have hR1 := hR.1
  have hR2 := hR.2
  refine gE_mk am_r98 rfl (Or.inr ⟨_, rfl, (by first | exact XT_0 hX | exact XT_r0 hX | exact XT_r1 hX | exact hB.1 | exact hB.2.1 | exact hB.2.2.1 | exact hB.2.2.2)⟩) (fun d hd => ?_)
  show gw d g 98 0 [.ref 500000, gi z] [] _ _
  refine gw_il1 at98_0 ?_
  refine gw_zlt at98_1 (by first | omega | exact hc _ _) (fun q1 => ?_) (fun q1 => ?_)
  · refine gw_thr at98_15 (by omega) (Nat.le_of_ble_eq_true rfl) ?_
    exact Or.inr ⟨by omega, rfl, rfl⟩
  · refine gw_il1 at98_4 (gw_al0 at98_5 (gw_gr at98_6 (by first | exact XT_0 hX | exact XT_r0 hX | exact XT_r1 hX | exact hB.1 | exact hB.2.1 | exact hB.2.2.1 | exact hB.2.2.2) (by first | exact XT_0 hX | exact XT_r0 hX | exact XT_r1 hX | exact hB.1 | exact hB.2.1 | exact hB.2.2.1 | exact hB.2.2.2) (gw_gf (j := 1) at98_9 (by first | exact XT_0 hX | exact XT_r0 hX | exact XT_r1 hX | exact hB.1 | exact hB.2.1 | exact hB.2.2.1 | exact hB.2.2.2) rfl ?_)))
    refine gw_cle at98_12 (by first | omega | exact hc _ _) (by first | omega | exact hc _ _) (fun q12 => ?_) (fun q12 => ?_)
    · refine gw_al0 at98_23 (gw_gr at98_24 (by first | exact XT_0 hX | exact XT_r0 hX | exact XT_r1 hX | exact hB.1 | exact hB.2.1 | exact hB.2.2.1 | exact hB.2.2.2) (by first | exact XT_0 hX | exact XT_r0 hX | exact XT_r1 hX | exact hB.1 | exact hB.2.1 | exact hB.2.2.1 | exact hB.2.2.2) (gw_il1 at98_27 (gw_pf (j := 1) at98_28 (by first | exact XT_0 hX | exact XT_r0 hX | exact XT_r1 hX | exact hB.1 | exact hB.2.1 | exact hB.2.2.1 | exact hB.2.2.2) rfl (gw_rv at98_31 am_r98.2.1 ?_))))
      exact Or.inl ⟨by omega, rfl, rfl⟩
    · refine gw_thr at98_15 (by omega) (Nat.le_of_ble_eq_true rfl) ?_
      exact Or.inr ⟨by omega, rfl, rfl⟩
set_option maxHeartbeats 1000000 in
theorem c_x_byte {g : Nat} {T : gT} {c J : gC} (hX : XT T) (hB : BT T 100030) (hc : RG c) (hR : BR c 100030) {z : Int} (hz : -2147483648 ≤ z ∧ z < 2147483648) : gE g 160 6 [.ref 500000, gi z] (gm T c J) (gI (0 ≤ z ∧ z < c 100030 1) 2 (c (100030 + 1) z) T c J) := by
  have hR1 := hR.1
  have hR2 := hR.2
  refine gE_mk am_r160 rfl (Or.inr ⟨_, rfl, (by first | exact XT_0 hX | exact XT_r0 hX | exact XT_r1 hX | exact hB.1 | exact hB.2.1 | exact hB.2.2.1 | exact hB.2.2.2)⟩) (fun d hd => ?_)
  show gw d g 160 0 [.ref 500000, gi z] [] _ _
  refine gw_il1 at160_0 ?_
  refine gw_zlt at160_1 (by first | omega | exact hc _ _) (fun q1 => ?_) (fun q1 => ?_)
  · refine gw_thr at160_15 (by omega) (Nat.le_of_ble_eq_true rfl) ?_
    exact Or.inr ⟨by omega, rfl, rfl⟩
  · refine gw_il1 at160_4 (gw_al0 at160_5 (gw_gr at160_6 (by first | exact XT_0 hX | exact XT_r0 hX | exact XT_r1 hX | exact hB.1 | exact hB.2.1 | exact hB.2.2.1 | exact hB.2.2.2) (by first | exact XT_0 hX | exact XT_r0 hX | exact XT_r1 hX | exact hB.1 | exact hB.2.1 | exact hB.2.2.1 | exact hB.2.2.2) (gw_gf (j := 1) at160_9 (by first | exact XT_0 hX | exact XT_r0 hX | exact XT_r1 hX | exact hB.1 | exact hB.2.1 | exact hB.2.2.1 | exact hB.2.2.2) rfl ?_)))
    refine gw_clt at160_12 (by first | omega | exact hc _ _) (by first | omega | exact hc _ _) (fun q12 => ?_) (fun q12 => ?_)
    · refine gw_al0 at160_23 (gw_gr at160_24 (by first | exact XT_0 hX | exact XT_r0 hX | exact XT_r1 hX | exact hB.1 | exact hB.2.1 | exact hB.2.2.1 | exact hB.2.2.2) (by first | exact XT_0 hX | exact XT_r0 hX | exact XT_r1 hX | exact hB.1 | exact hB.2.1 | exact hB.2.2.1 | exact hB.2.2.2) (gw_gr at160_27 (by first | exact XT_0 hX | exact XT_r0 hX | exact XT_r1 hX | exact hB.1 | exact hB.2.1 | exact hB.2.2.1 | exact hB.2.2.2) (by first | exact XT_0 hX | exact XT_r0 hX | exact XT_r1 hX | exact hB.1 | exact hB.2.1 | exact hB.2.2.1 | exact hB.2.2.2) (gw_il1 at160_30 (gw_ba at160_31 (by first | exact Or.inl (by first | exact XT_0 hX | exact XT_r0 hX | exact XT_r1 hX | exact hB.1 | exact hB.2.1 | exact hB.2.2.1 | exact hB.2.2.2) | exact Or.inr (by first | exact XT_0 hX | exact XT_r0 hX | exact XT_r1 hX | exact hB.1 | exact hB.2.1 | exact hB.2.2.1 | exact hB.2.2.2)) (by first | exact XT_0 hX | exact XT_r0 hX | exact XT_r1 hX | exact hB.1 | exact hB.2.1 | exact hB.2.2.1 | exact hB.2.2.2) (by first | omega | exact hc _ _) (by first | omega | exact hc _ _) (by omega) (gw_ri at160_32 am_r160.2.1 ?_)))))
      exact Or.inl ⟨by omega, rfl, rfl⟩
    · refine gw_thr at160_15 (by omega) (Nat.le_of_ble_eq_true rfl) ?_
      exact Or.inr ⟨by omega, rfl, rfl⟩
