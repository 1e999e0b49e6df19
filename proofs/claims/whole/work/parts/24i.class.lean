/-! the class: all snow, the first depth -/
def tnf (c : gC) (a s : Int) : Int := if hA c 100014 a = true then s + ln c 100014 a * sn c 100034 a 0 else s
theorem tnf_t {c : gC} {a s : Int} (h : hA c 100014 a = true) : tnf c a s = s + ln c 100014 a * sn c 100034 a 0 := if_pos h
theorem tnf_f {c : gC} {a s : Int} (h : hA c 100014 a = false) : tnf c a s = s := if_neg (by rw [h]; exact Bool.false_ne_true)
theorem su_rg {c : gC} {B : Int} (hR : WR c 100034 B) {a p : Int} (ha : 0 ≤ a ∧ a < 24) (hp : 0 ≤ p ∧ p ≤ 2000) : -2147483648 ≤ su c 100034 a p ∧ su c 100034 a p < 2147483648 := by
  have h1 := hR.1
  have h2 := hR.2.1
  have h3 := hR.2.2.2.2.2.2.2.1
  have h4 := hR.2.2.2.2.2.2.2.2.2 a ha.1 ha.2
  have hd : ∀ x : Int, 0 ≤ x → x ≤ 7200099 → ∀ r : Int, 0 < r → 0 ≤ x / r ∧ x / r ≤ 7200099 := fun x x0 x1 r r0 => ⟨Int.ediv_nonneg x0 (by omega), by
    have := Int.ediv_le_self r x0; omega⟩
  unfold su
  split
  · omega
  · split
    · omega
    · rename_i e1 e2
      have hs := sn_ge hR (s := 0) ha
      have := hd ((p - c (100034 + 3) a) * 3600 + c 100034 7 - 1) (by omega) (by omega) (c 100034 7) (by omega)
      split <;> omega
def sfv (c : gC) (m p a : Int) : Int := if tb m a = true then su c 100034 a p else -1
theorem sfv_t {c : gC} {m p a : Int} (h : tb m a = true) : sfv c m p a = su c 100034 a p := if_pos h
theorem sfv_f {c : gC} {m p a : Int} (h : tb m a = false) : sfv c m p a = -1 := if_neg (by rw [h]; exact Bool.false_ne_true)
def sff (c : gC) (m p a l : Int) : Int := if ¬ sfv c m p a = -1 ∧ (l = -1 ∨ sfv c m p a < l) then sfv c m p a else l
set_option maxHeartbeats 1000000 in
theorem c_x_totalSnow {g : Nat} {T : gT} {c J : gC} (hX : XT T) (hT : NT T 100014) (hc : RG c) (hN : NR c 100014) (hW : WT T 100034) (hwn : (T.1 100034).2.2 0 = 100014 + 1) {B : Int} (hR : WR c 100034 B) : gE g 135 2 [.ref 500000] (gm T c J) (gR (gl (itI (tnf c) 0 24)) (gm T c J)) := by
  refine gE_mk am_r135 rfl (Or.inr ⟨_, rfl, (by first | exact XT_0 hX | exact XT_r4 hX | exact XT_r5 hX | exact NT_0 hT | exact WT_0 hW | exact WT_r8 hW | exact WT_t8 hW | exact WT_l8 hW | exact WT_r9 hW | exact WT_t9 hW | exact WT_l9 hW | exact NT_r16 hT | exact NT_t16 hT | exact NT_l16 hT)⟩) (fun d hd => ?_)
  show gw d g 135 0 [.ref 500000, am_U, am_U, am_U] [] _ _
  refine gw_lconst (z := 0) at135_0 rfl (gw_ls1 at135_1 (h := (gw_const at135_2 (gw_is3 at135_3 (h := ?_)))))
  have lp4 : ∀ i : Int, 0 ≤ i → i ≤ 24 → ∀ s : Int, s = itI (tnf c) 0 i → gw d g 135 4 [.ref 500000, gl s, am_U, gi i] [] (gm T c J) (gR (gl (itI (tnf c) 0 24)) (gm T c J)) := by
    refine ind_up 24 ?_
    intro i hi0 hi1 ih s hs
    have hl := ln_rg hN i
    have hsn := sn_rg hR i 0
    refine gw_il3 at135_4 ?_
    refine gw_bip at135_5 (by decide) ?_
    refine gw_cge at135_7 (by first | omega | exact hc _ _ | exact bi_rg _ | exact zrg _) (by first | omega | exact hc _ _ | exact bi_rg _ | exact zrg _) (fun q7 => ?_) (fun q7 => ?_)
    · refine gw_ll1 at135_50 (gw_rl at135_51 am_r135.2.1 (gR_l ?_))
      rw [hs, show i = 24 by omega]
    · refine gw_al0 at135_10 (gw_gr at135_11 (by first | exact XT_0 hX | exact XT_r4 hX | exact XT_r5 hX | exact NT_0 hT | exact WT_0 hW | exact WT_r8 hW | exact WT_t8 hW | exact WT_l8 hW | exact WT_r9 hW | exact WT_t9 hW | exact WT_l9 hW | exact NT_r16 hT | exact NT_t16 hT | exact NT_l16 hT) (by first | exact XT_0 hX | exact XT_r4 hX | exact XT_r5 hX | exact NT_0 hT | exact WT_0 hW | exact WT_r8 hW | exact WT_t8 hW | exact WT_l8 hW | exact WT_r9 hW | exact WT_t9 hW | exact WT_l9 hW | exact NT_r16 hT | exact NT_t16 hT | exact NT_l16 hT) (gw_il3 at135_14 (gw_callP2 at135_15 (c_hasArc hT hc hN (by omega)) (by omega) (Nat.le_of_ble_eq_true rfl) ?_)))
      refine gw_beq at135_18 (fun q18 => ?_) (fun q18 => ?_)
      · refine gw_inc3 at135_44 (h := (gw_goto at135_47 ?_))
        refine ih (i + 1) (by omega) (by omega) _ ?_
        rw [itI_s _ _ hi0, ← hs]
        first | (rw [tnf_t (by assumption)]; done) | (rw [tnf_f (by assumption)]; done)
      · refine gw_ll1 at135_21 (gw_al0 at135_22 (gw_gr at135_23 (by first | exact XT_0 hX | exact XT_r4 hX | exact XT_r5 hX | exact NT_0 hT | exact WT_0 hW | exact WT_r8 hW | exact WT_t8 hW | exact WT_l8 hW | exact WT_r9 hW | exact WT_t9 hW | exact WT_l9 hW | exact NT_r16 hT | exact NT_t16 hT | exact NT_l16 hT) (by first | exact XT_0 hX | exact XT_r4 hX | exact XT_r5 hX | exact NT_0 hT | exact WT_0 hW | exact WT_r8 hW | exact WT_t8 hW | exact WT_l8 hW | exact WT_r9 hW | exact WT_t9 hW | exact WT_l9 hW | exact NT_r16 hT | exact NT_t16 hT | exact NT_l16 hT) (gw_il3 at135_26 (gw_callP2 at135_27 (c_lengthOf hT hc (by omega)) (by omega) (Nat.le_of_ble_eq_true rfl) (gw_i2l at135_30 (by first | omega | exact hc _ _ | exact bi_rg _ | exact zrg _) (gw_al0 at135_31 (gw_gr at135_32 (by first | exact XT_0 hX | exact XT_r4 hX | exact XT_r5 hX | exact NT_0 hT | exact WT_0 hW | exact WT_r8 hW | exact WT_t8 hW | exact WT_l8 hW | exact WT_r9 hW | exact WT_t9 hW | exact WT_l9 hW | exact NT_r16 hT | exact NT_t16 hT | exact NT_l16 hT) (by first | exact XT_0 hX | exact XT_r4 hX | exact XT_r5 hX | exact NT_0 hT | exact WT_0 hW | exact WT_r8 hW | exact WT_t8 hW | exact WT_l8 hW | exact WT_r9 hW | exact WT_t9 hW | exact WT_l9 hW | exact NT_r16 hT | exact NT_t16 hT | exact NT_l16 hT) (gw_il3 at135_35 (gw_const at135_36 (gw_callP3 at135_37 (c_snowAfter hW hc hR (by omega) (by omega)) (by omega) (Nat.le_of_ble_eq_true rfl) (gw_i2l at135_40 (by first | omega | exact hc _ _ | exact bi_rg _ | exact zrg _) (gw_lmul at135_41 (gw_ladd at135_42 (gw_ls1 at135_43 (h := (gw_inc3 at135_44 (h := (gw_goto at135_47 ?_))))))))))))))))))
        refine ih (i + 1) (by omega) (by omega) _ ?_
        rw [itI_s _ _ hi0, ← hs]
        first | (rw [tnf_t (by assumption)]; done) | (rw [tnf_f (by assumption)]; done)
  exact lp4 0 (by omega) (by omega) 0 rfl
set_option maxHeartbeats 1000000 in
theorem c_x_secondsFirst {g : Nat} {T : gT} {c J : gC} (hX : XT T) (hT : NT T 100014) (hc : RG c) (hN : NR c 100014) (hW : WT T 100034) (hwn : (T.1 100034).2.2 0 = 100014 + 1) {B : Int} (hR : WR c 100034 B) {z p : Int} (hz : -2147483648 ≤ z ∧ z < 2147483648) (hp : -2147483648 ≤ p ∧ p < 2147483648) : gE g 139 7 [.ref 500000, gi z, gi p] (gm T c J) (gI2 (1 ≤ z ∧ z ≤ 3) 1 (0 ≤ p ∧ p ≤ 2000) 1 (itI (sff c (mskI (fun a => hA c 100014 a && decide (cl c 100014 a ≤ z)) 24) p) (-1) 24) T c J) := by
  refine gE_mk am_r139 rfl (Or.inr ⟨_, rfl, (by first | exact XT_0 hX | exact XT_r4 hX | exact XT_r5 hX | exact NT_0 hT | exact WT_0 hW | exact WT_r8 hW | exact WT_t8 hW | exact WT_l8 hW | exact WT_r9 hW | exact WT_t9 hW | exact WT_l9 hW | exact NT_r16 hT | exact NT_t16 hT | exact NT_l16 hT)⟩) (fun d hd => ?_)
  show gw d g 139 0 [.ref 500000, gi z, gi p, am_U, am_U, am_U, am_U] [] _ _
  refine gw_il1 at139_0 ?_
  refine gw_call1 at139_1 (c_ckClass (by omega)) (by omega) (Nat.le_of_ble_eq_true rfl) (fun o M1 q1 => ?_)
  rcases q1 with ⟨hp1, rfl, rfl⟩ | ⟨hp1, rfl, rfl⟩
  · show gw _ _ _ _ _ [] _ _
    refine gw_il2 at139_4 ?_
    refine gw_call1 at139_5 (c_ckDepth (by omega)) (by omega) (Nat.le_of_ble_eq_true rfl) (fun o M1 q5 => ?_)
    rcases q5 with ⟨hp5, rfl, rfl⟩ | ⟨hp5, rfl, rfl⟩
    · show gw _ _ _ _ _ [] _ _
      refine gw_al0 at139_8 (gw_gr at139_9 (by first | exact XT_0 hX | exact XT_r4 hX | exact XT_r5 hX | exact NT_0 hT | exact WT_0 hW | exact WT_r8 hW | exact WT_t8 hW | exact WT_l8 hW | exact WT_r9 hW | exact WT_t9 hW | exact WT_l9 hW | exact NT_r16 hT | exact NT_t16 hT | exact NT_l16 hT) (by first | exact XT_0 hX | exact XT_r4 hX | exact XT_r5 hX | exact NT_0 hT | exact WT_0 hW | exact WT_r8 hW | exact WT_t8 hW | exact WT_l8 hW | exact WT_r9 hW | exact WT_t9 hW | exact WT_l9 hW | exact NT_r16 hT | exact NT_t16 hT | exact NT_l16 hT) (gw_il1 at139_12 (gw_callP2 at139_13 (c_arcsUpTo hT hc hN (by omega)) (by omega) (Nat.le_of_ble_eq_true rfl) (gw_is3 at139_16 (h := (gw_const at139_17 (gw_is4 at139_18 (h := (gw_const at139_20 (gw_is5 at139_21 (h := ?_)))))))))))
      have lp23 : ∀ i : Int, 0 ≤ i → i ≤ 24 → ∀ l : Int, l = itI (sff c (mskI (fun a => hA c 100014 a && decide (cl c 100014 a ≤ z)) 24) p) (-1) i → ∀ u : Value, am_nl u = true → gw d g 139 23 [.ref 500000, gi z, gi p, gi (mskI (fun a => hA c 100014 a && decide (cl c 100014 a ≤ z)) 24), gi l, gi i, u] [] (gm T c J) (gI2 (1 ≤ z ∧ z ≤ 3) 1 (0 ≤ p ∧ p ≤ 2000) 1 (itI (sff c (mskI (fun a => hA c 100014 a && decide (cl c 100014 a ≤ z)) 24) p) (-1) 24) T c J) := by
        refine ind_up 24 ?_
        intro i hi0 hi1 ih l hl u hu
        have hu1 : i < 24 → -2147483648 ≤ su c 100034 i p ∧ su c 100034 i p < 2147483648 := fun h => su_rg hR ⟨hi0, h⟩ (by omega)
        have hl2 : -2147483648 ≤ l ∧ l < 2147483648 := by
          rw [hl]
          refine itI_inv2 (fun l : Int => -2147483648 ≤ l ∧ l < 2147483648) (N := 24) (by omega) (fun j s h0 h1 hs => ?_) hi1
          have := su_rg (p := p) hR ⟨h0, h1⟩ (by omega)
          unfold sff
          split
          · unfold sfv
            split <;> omega
          · exact hs
        refine gw_il5 at139_23 ?_
        refine gw_bip at139_25 (by decide) ?_
        refine gw_cge at139_27 (by first | omega | exact hc _ _ | exact zrg _) (by first | omega | exact hc _ _ | exact zrg _) (fun q27 => ?_) (fun q27 => ?_)
        · refine gw_il4 at139_84 (gw_ri at139_86 am_r139.2.1 ?_)
          refine Or.inl ⟨hp1, hp5, ?_, rfl⟩
          rw [hl, show i = 24 by omega]
        · refine gw_il3 at139_30 (gw_il5 at139_31 (gw_callP2 at139_33 (c_contains) (by omega) (Nat.le_of_ble_eq_true rfl) ?_))
          refine gw_beq at139_36 (fun q36 => ?_) (fun q36 => ?_)
          · refine gw_const at139_52 (gw_is6 at139_53 (h := (gw_il6 at139_55 (gw_const at139_57 ?_))))
            refine gw_ceq at139_58 (by first | omega | exact hc _ _ | exact zrg _) (by first | omega | exact hc _ _ | exact zrg _) (fun q58 => ?_) (fun q58 => ?_)
            · refine gw_inc5 at139_78 (h := (gw_goto at139_81 ?_))
              refine ih (i + 1) (by omega) (by omega) _ ?_ _ rfl
              rw [itI_s _ _ hi0, ← hl]
              unfold sff
              first | rw [sfv_t (by assumption)] | rw [sfv_f (by assumption)]
              first | exact absurd rfl q58 | (rw [if_pos (by omega)]; done) | (rw [if_neg (by omega)]; done)
            · refine gw_il4 at139_61 (gw_const at139_63 ?_)
              refine gw_ceq at139_64 (by first | omega | exact hc _ _ | exact zrg _) (by first | omega | exact hc _ _ | exact zrg _) (fun q64 => ?_) (fun q64 => ?_)
              · refine gw_il6 at139_74 (gw_is4 at139_76 (h := (gw_inc5 at139_78 (h := (gw_goto at139_81 ?_)))))
                refine ih (i + 1) (by omega) (by omega) _ ?_ _ rfl
                rw [itI_s _ _ hi0, ← hl]
                unfold sff
                first | rw [sfv_t (by assumption)] | rw [sfv_f (by assumption)]
                first | exact absurd rfl q58 | (rw [if_pos (by omega)]; done) | (rw [if_neg (by omega)]; done)
              · refine gw_il6 at139_67 (gw_il4 at139_69 ?_)
                refine gw_cge at139_71 (by first | omega | exact hc _ _ | exact zrg _) (by first | omega | exact hc _ _ | exact zrg _) (fun q71 => ?_) (fun q71 => ?_)
                · refine gw_inc5 at139_78 (h := (gw_goto at139_81 ?_))
                  refine ih (i + 1) (by omega) (by omega) _ ?_ _ rfl
                  rw [itI_s _ _ hi0, ← hl]
                  unfold sff
                  first | rw [sfv_t (by assumption)] | rw [sfv_f (by assumption)]
                  first | exact absurd rfl q58 | (rw [if_pos (by omega)]; done) | (rw [if_neg (by omega)]; done)
                · refine gw_il6 at139_74 (gw_is4 at139_76 (h := (gw_inc5 at139_78 (h := (gw_goto at139_81 ?_)))))
                  refine ih (i + 1) (by omega) (by omega) _ ?_ _ rfl
                  rw [itI_s _ _ hi0, ← hl]
                  unfold sff
                  first | rw [sfv_t (by assumption)] | rw [sfv_f (by assumption)]
                  first | exact absurd rfl q58 | (rw [if_pos (by omega)]; done) | (rw [if_neg (by omega)]; done)
          · refine gw_al0 at139_39 (gw_gr at139_40 (by first | exact XT_0 hX | exact XT_r4 hX | exact XT_r5 hX | exact NT_0 hT | exact WT_0 hW | exact WT_r8 hW | exact WT_t8 hW | exact WT_l8 hW | exact WT_r9 hW | exact WT_t9 hW | exact WT_l9 hW | exact NT_r16 hT | exact NT_t16 hT | exact NT_l16 hT) (by first | exact XT_0 hX | exact XT_r4 hX | exact XT_r5 hX | exact NT_0 hT | exact WT_0 hW | exact WT_r8 hW | exact WT_t8 hW | exact WT_l8 hW | exact WT_r9 hW | exact WT_t9 hW | exact WT_l9 hW | exact NT_r16 hT | exact NT_t16 hT | exact NT_l16 hT) (gw_il5 at139_43 (gw_il2 at139_45 (gw_callP3 at139_46 (c_secondsUntil hW hc hR (by omega) (by omega)) (by omega) (Nat.le_of_ble_eq_true rfl) (gw_goto at139_49 (gw_is6 at139_53 (h := (gw_il6 at139_55 (gw_const at139_57 ?_)))))))))
            refine gw_ceq at139_58 (by first | omega | exact hc _ _ | exact zrg _) (by first | omega | exact hc _ _ | exact zrg _) (fun q58 => ?_) (fun q58 => ?_)
            · refine gw_inc5 at139_78 (h := (gw_goto at139_81 ?_))
              refine ih (i + 1) (by omega) (by omega) _ ?_ _ rfl
              rw [itI_s _ _ hi0, ← hl]
              unfold sff
              first | rw [sfv_t (by assumption)] | rw [sfv_f (by assumption)]
              first | exact absurd rfl q58 | (rw [if_pos (by omega)]; done) | (rw [if_neg (by omega)]; done)
            · refine gw_il4 at139_61 (gw_const at139_63 ?_)
              refine gw_ceq at139_64 (by first | omega | exact hc _ _ | exact zrg _) (by first | omega | exact hc _ _ | exact zrg _) (fun q64 => ?_) (fun q64 => ?_)
              · refine gw_il6 at139_74 (gw_is4 at139_76 (h := (gw_inc5 at139_78 (h := (gw_goto at139_81 ?_)))))
                refine ih (i + 1) (by omega) (by omega) _ ?_ _ rfl
                rw [itI_s _ _ hi0, ← hl]
                unfold sff
                first | rw [sfv_t (by assumption)] | rw [sfv_f (by assumption)]
                first | exact absurd rfl q58 | (rw [if_pos (by omega)]; done) | (rw [if_neg (by omega)]; done)
              · refine gw_il6 at139_67 (gw_il4 at139_69 ?_)
                refine gw_cge at139_71 (by first | omega | exact hc _ _ | exact zrg _) (by first | omega | exact hc _ _ | exact zrg _) (fun q71 => ?_) (fun q71 => ?_)
                · refine gw_inc5 at139_78 (h := (gw_goto at139_81 ?_))
                  refine ih (i + 1) (by omega) (by omega) _ ?_ _ rfl
                  rw [itI_s _ _ hi0, ← hl]
                  unfold sff
                  first | rw [sfv_t (by assumption)] | rw [sfv_f (by assumption)]
                  first | exact absurd rfl q58 | (rw [if_pos (by omega)]; done) | (rw [if_neg (by omega)]; done)
                · refine gw_il6 at139_74 (gw_is4 at139_76 (h := (gw_inc5 at139_78 (h := (gw_goto at139_81 ?_)))))
                  refine ih (i + 1) (by omega) (by omega) _ ?_ _ rfl
                  rw [itI_s _ _ hi0, ← hl]
                  unfold sff
                  first | rw [sfv_t (by assumption)] | rw [sfv_f (by assumption)]
                  first | exact absurd rfl q58 | (rw [if_pos (by omega)]; done) | (rw [if_neg (by omega)]; done)
      exact lp23 0 (by omega) (by omega) (-1) rfl _ rfl
    · refine gK_thr (am_h139 _ (by decide)) ?_
      exact Or.inr (Or.inl ⟨hp1, hp5, rfl, rfl⟩)
  · refine gK_thr (am_h139 _ (by decide)) ?_
    exact Or.inr (Or.inr ⟨hp1, rfl, rfl⟩)
