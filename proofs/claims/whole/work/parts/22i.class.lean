/-! the class: mean depth -/
def mdf (c : gC) (s i : Int) (x : Int × Int) : Int × Int := if tb s i = true then (x.1 + sn c 100034 i 0, x.2 + 1) else x
theorem mdf_t {c : gC} {s i : Int} {x : Int × Int} (h : tb s i = true) : mdf c s i x = (x.1 + sn c 100034 i 0, x.2 + 1) := if_pos h
theorem mdf_f {c : gC} {s i : Int} {x : Int × Int} (h : tb s i = false) : mdf c s i x = x := if_neg (by rw [h]; exact Bool.false_ne_true)
def mdp (c : gC) (s : Int) : Int := if (itI (mdf c s) (0, 0) 24).2 = 0 then -1 else (itI (mdf c s) (0, 0) 24).1 / (itI (mdf c s) (0, 0) 24).2
theorem mdi_rg {c : gC} {B : Int} (hR : WR c 100034 B) (s : Int) {i : Int} (h0 : 0 ≤ i) (h1 : i ≤ 24) : (0 ≤ (itI (mdf c s) (0, 0) i).1 ∧ (itI (mdf c s) (0, 0) i).1 ≤ i * 2000) ∧ 0 ≤ (itI (mdf c s) (0, 0) i).2 ∧ (itI (mdf c s) (0, 0) i).2 ≤ i := by
  refine itI_inv3 (fun (i : Int) (x : Int × Int) => (0 ≤ x.1 ∧ x.1 ≤ i * 2000) ∧ 0 ≤ x.2 ∧ x.2 ≤ i) (N := 24) (by dsimp only; omega) (fun j x q0 q1 h => ?_) h0 h1
  have := sn_rg hR j 0
  unfold mdf
  split
  · dsimp only; omega
  · omega
set_option maxHeartbeats 1000000 in
theorem c_x_mean {g : Nat} {T : gT} {c J : gC} (hX : XT T) (hT : NT T 100014) (hc : RG c) (hN : NR c 100014) (hW : WT T 100034) (hwn : (T.1 100034).2.2 0 = 100014 + 1) {B : Int} (hR : WR c 100034 B) {z : Int} (hz : -2147483648 ≤ z ∧ z < 2147483648) : gE g 140 7 [.ref 500000, gi z] (gm T c J) (gI (1 ≤ z ∧ z ≤ 3) 1 (mdp c (mskI (fun a => hA c 100014 a && decide (cl c 100014 a ≤ z)) 24)) T c J) := by
  refine gE_mk am_r140 rfl (Or.inr ⟨_, rfl, (by first | exact XT_0 hX | exact XT_r4 hX | exact XT_r5 hX | exact NT_0 hT | exact WT_0 hW | exact WT_r8 hW | exact WT_t8 hW | exact WT_l8 hW | exact WT_r9 hW | exact WT_t9 hW | exact WT_l9 hW | exact NT_r16 hT | exact NT_t16 hT | exact NT_l16 hT)⟩) (fun d hd => ?_)
  show gw d g 140 0 [.ref 500000, gi z, am_U, am_U, am_U, am_U] [] _ _
  refine gw_il1 at140_0 ?_
  refine gw_call1 at140_1 (c_ckClass (by omega)) (by omega) (Nat.le_of_ble_eq_true rfl) (fun o M1 q1 => ?_)
  rcases q1 with ⟨hp1, rfl, rfl⟩ | ⟨hp1, rfl, rfl⟩
  · show gw _ _ _ _ _ [] _ _
    refine gw_al0 at140_4 (gw_gr at140_5 (by first | exact XT_0 hX | exact XT_r4 hX | exact XT_r5 hX | exact NT_0 hT | exact WT_0 hW | exact WT_r8 hW | exact WT_t8 hW | exact WT_l8 hW | exact WT_r9 hW | exact WT_t9 hW | exact WT_l9 hW | exact NT_r16 hT | exact NT_t16 hT | exact NT_l16 hT) (by first | exact XT_0 hX | exact XT_r4 hX | exact XT_r5 hX | exact NT_0 hT | exact WT_0 hW | exact WT_r8 hW | exact WT_t8 hW | exact WT_l8 hW | exact WT_r9 hW | exact WT_t9 hW | exact WT_l9 hW | exact NT_r16 hT | exact NT_t16 hT | exact NT_l16 hT) (gw_il1 at140_8 (gw_callP2 at140_9 (c_arcsUpTo hT hc hN (by omega)) (by omega) (Nat.le_of_ble_eq_true rfl) (gw_is2 at140_12 (h := (gw_const at140_13 (gw_is3 at140_14 (h := (gw_const at140_15 (gw_is4 at140_16 (h := (gw_const at140_18 (gw_is5 at140_19 (h := ?_))))))))))))))
    have lp21 : ∀ i : Int, 0 ≤ i → i ≤ 24 → ∀ X : Int × Int, X = itI (mdf c (mskI (fun a => hA c 100014 a && decide (cl c 100014 a ≤ z)) 24)) (0, 0) i → gw d g 140 21 [.ref 500000, gi z, gi (mskI (fun a => hA c 100014 a && decide (cl c 100014 a ≤ z)) 24), gi X.1, gi X.2, gi i] [] (gm T c J) (gI (1 ≤ z ∧ z ≤ 3) 1 (mdp c (mskI (fun a => hA c 100014 a && decide (cl c 100014 a ≤ z)) 24)) T c J) := by
      refine ind_up 24 ?_
      intro i hi0 hi1 ih X hY
      have hx : (0 ≤ X.1 ∧ X.1 ≤ i * 2000) ∧ 0 ≤ X.2 ∧ X.2 ≤ i := by rw [hY]; exact mdi_rg hR _ hi0 hi1
      refine gw_il5 at140_21 ?_
      refine gw_bip at140_23 (by decide) ?_
      refine gw_cge at140_25 (by first | omega | exact hc _ _ | exact bi_rg _ | exact zrg _) (by first | omega | exact hc _ _ | exact bi_rg _ | exact zrg _) (fun q25 => ?_) (fun q25 => ?_)
      · refine gw_il4 at140_59 ?_
        refine gw_zne at140_61 (by first | omega | exact hc _ _ | exact bi_rg _ | exact zrg _) (fun q61 => ?_) (fun q61 => ?_)
        · refine gw_il3 at140_68 (gw_il4 at140_69 (gw_divp at140_71 (by first | omega | exact hc _ _ | exact bi_rg _ | exact zrg _) (by first | omega | exact hc _ _ | exact bi_rg _ | exact zrg _) (gw_ri at140_72 am_r140.2.1 ?_)))
          refine Or.inl ⟨hp1, ?_, rfl⟩
          unfold mdp
          have hi : i = 24 := by omega
          subst hi
          rw [← hY]
          first | (rw [if_pos (by omega)]; done) | (rw [if_neg (by omega)]; done)
        · refine gw_const at140_64 (gw_goto at140_65 (gw_ri at140_72 am_r140.2.1 ?_))
          refine Or.inl ⟨hp1, ?_, rfl⟩
          unfold mdp
          have hi : i = 24 := by omega
          subst hi
          rw [← hY]
          first | (rw [if_pos (by omega)]; done) | (rw [if_neg (by omega)]; done)
      · refine gw_il2 at140_28 (gw_il5 at140_29 (gw_callP2 at140_31 (c_contains) (by omega) (Nat.le_of_ble_eq_true rfl) ?_))
        refine gw_beq at140_34 (fun q34 => ?_) (fun q34 => ?_)
        · refine gw_inc5 at140_53 (h := (gw_goto at140_56 ?_))
          have e := ih (i + 1) (by omega) (by omega) _ rfl
          rw [itI_s _ _ hi0, ← hY] at e
          first | (rw [mdf_t (by assumption)] at e; exact e) | (rw [mdf_f (by assumption)] at e; exact e)
        · refine gw_il3 at140_37 (gw_al0 at140_38 (gw_gr at140_39 (by first | exact XT_0 hX | exact XT_r4 hX | exact XT_r5 hX | exact NT_0 hT | exact WT_0 hW | exact WT_r8 hW | exact WT_t8 hW | exact WT_l8 hW | exact WT_r9 hW | exact WT_t9 hW | exact WT_l9 hW | exact NT_r16 hT | exact NT_t16 hT | exact NT_l16 hT) (by first | exact XT_0 hX | exact XT_r4 hX | exact XT_r5 hX | exact NT_0 hT | exact WT_0 hW | exact WT_r8 hW | exact WT_t8 hW | exact WT_l8 hW | exact WT_r9 hW | exact WT_t9 hW | exact WT_l9 hW | exact NT_r16 hT | exact NT_t16 hT | exact NT_l16 hT) (gw_il5 at140_42 (gw_const at140_44 (gw_callP3 at140_45 (c_snowAfter hW hc hR (by omega) (by omega)) (by omega) (Nat.le_of_ble_eq_true rfl) (gw_iadd at140_48 (gw_is3 at140_49 (h := (gw_inc4 at140_50 (h := (gw_inc5 at140_53 (h := (gw_goto at140_56 ?_)))))))))))))
          have e := ih (i + 1) (by omega) (by omega) _ rfl
          rw [itI_s _ _ hi0, ← hY] at e
          first | (rw [mdf_t (by assumption)] at e; exact e) | (rw [mdf_f (by assumption)] at e; exact e)
    exact lp21 0 (by omega) (by omega) (0, 0) rfl
  · refine gK_thr (am_h140 _ (by decide)) ?_
    exact Or.inr ⟨hp1, rfl, rfl⟩
