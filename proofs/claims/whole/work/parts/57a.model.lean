/-! the reference: a number, a name written -/
set_option maxHeartbeats 1000000 in
theorem m_wn24 {d g : Nat} {T : gT} {c J : gC} (hd : 1 ≤ d) {b : Nat} (hM : MT T b) (hc : RG c) (hA : 0 ≤ c 500001 25 ∧ c 500001 25 + 4 ≤ 1500) {v : Int} (hv : 0 ≤ v ∧ v ≤ 9999) {q : Int} (hq : 0 ≤ q ∧ q ≤ 3) (h1 : un10 q ≤ v ∨ q = 3) (h2 : v < 10 * un10 q) {u : Value} (hu : am_nl u = true) : gw d g 322 24 [.ref 500001, gi v, gi (un10 q), u] [] (gm T c J) (fun o M1 => o = .inl none ∧ M1 = gm T (itI (mwdf v) c 4) J) := by
  refine gw_il2 at322_24 (gw_is3 at322_25 (h := ?_))
  have lp26 : ∀ i : Int, 0 ≤ i → i ≤ 4 → q ≤ i → gw d g 322 26 [.ref 500001, gi v, gi (un10 q), gi (un10 i)] [] (gm T (itI (mwdf v) c i) J) (fun o M1 => o = .inl none ∧ M1 = gm T (itI (mwdf v) c 4) J) := by
    refine ind_up 4 ?_
    intro i hi0 hi1 ih hi2
    have o5 := un10_rg (i := i) (by omega)
    have wk := wit_ok (mwdf_ok (v := v)) hc hA hi0 hi1
    have w2 := wk.2.1
    refine gw_il3 at322_26 ?_
    refine gw_zle at322_27 (by first | omega | (have := Int.emod_nonneg (v / un10 i) (show (10 : Int) ≠ 0 by omega); have := Int.ediv_nonneg hv.1 o5.1; have := Int.ediv_le_self (un10 i) hv.1; omega)) (fun q27 => ?_) (fun q27 => ?_)
    · refine gw_rv at322_51 am_r322.2.1 ⟨rfl, ?_⟩
      rw [show i = 4 by omega]
    · refine gw_al0 at322_30 (gw_bip at322_31 (by decide) (gw_il1 at322_33 (gw_il3 at322_34 (gw_divp at322_35 (by first | omega | (have := Int.emod_nonneg (v / un10 i) (show (10 : Int) ≠ 0 by omega); have := Int.ediv_nonneg hv.1 o5.1; have := Int.ediv_le_self (un10 i) hv.1; omega)) (by first | omega | (have := Int.emod_nonneg (v / un10 i) (show (10 : Int) ≠ 0 by omega); have := Int.ediv_nonneg hv.1 o5.1; have := Int.ediv_le_self (un10 i) hv.1; omega)) (gw_bip at322_36 (by decide) (gw_remp at322_38 (by first | omega | (have := Int.emod_nonneg (v / un10 i) (show (10 : Int) ≠ 0 by omega); have := Int.ediv_nonneg hv.1 o5.1; have := Int.ediv_le_self (un10 i) hv.1; omega)) (by first | omega | (have := Int.emod_nonneg (v / un10 i) (show (10 : Int) ≠ 0 by omega); have := Int.ediv_nonneg hv.1 o5.1; have := Int.ediv_le_self (un10 i) hv.1; omega)) (gw_iadd at322_39 ?_)))))))
      refine gw_call2 at322_40 (m_write hM wk.1 (by omega)) (by omega) (Nat.le_of_ble_eq_true rfl) (fun o M1 q40 => ?_)
      obtain ⟨rfl, rfl⟩ := q40
      show gw _ _ _ _ _ [] _ _
      refine gw_il3 at322_43 (gw_bip at322_44 (by decide) (gw_divp at322_46 (by first | omega | (have := Int.emod_nonneg (v / un10 i) (show (10 : Int) ≠ 0 by omega); have := Int.ediv_nonneg hv.1 o5.1; have := Int.ediv_le_self (un10 i) hv.1; omega)) (by first | omega | (have := Int.emod_nonneg (v / un10 i) (show (10 : Int) ≠ 0 by omega); have := Int.ediv_nonneg hv.1 o5.1; have := Int.ediv_le_self (un10 i) hv.1; omega)) (gw_is3 at322_47 (h := (gw_goto at322_48 ?_)))))
      have h9 := ih (i + 1) (by omega) (by omega) (by omega)
      have hk : un10 i ≤ v ∨ un10 i = 1 := by
        by_cases e : i = 3
        · right; rw [e]; rfl
        · left
          have := un10_u hq.1 hi2 (show i ≤ 3 by omega)
          omega
      rw [itI_s _ _ hi0, ← un10_s (by omega), mwdf_t hk] at h9
      exact h9
  have h9 := lp26 q hq.1 (by omega) (Int.le_refl _)
  rw [mwdf_skip hq h2] at h9
  exact h9
set_option maxHeartbeats 1000000 in
theorem m_writeNumber {g : Nat} {T : gT} {c J : gC} {b : Nat} (hM : MT T b) (hc : RG c) (hA : 0 ≤ c 500001 25 ∧ c 500001 25 + 5 ≤ 1500) {v : Int} (hv : 0 ≤ v ∧ v ≤ 9999) : gE g 322 1 [.ref 500001, gi v] (gm T c J) (fun o M1 => o = .inl none ∧ M1 = gm T (mwn v c) J) := by
  have wk := mput_ok (v := 32) hc (by omega)
  have w2 := wk.2.1
  refine gE_mk am_r322 rfl (Or.inr ⟨_, rfl, (by first | exact MT_0 hM | exact MT_now hM | exact MT_bt hM | exact MT_bl hM | exact MT_r0 hM | exact MT_t0 hM | exact MT_l0 hM | exact MT_r1 hM | exact MT_t1 hM | exact MT_l1 hM | exact MT_r2 hM | exact MT_t2 hM | exact MT_l2 hM | exact MT_r3 hM | exact MT_t3 hM | exact MT_l3 hM | exact MT_r4 hM | exact MT_t4 hM | exact MT_l4 hM | exact MT_r5 hM | exact MT_t5 hM | exact MT_l5 hM | exact MT_r6 hM | exact MT_t6 hM | exact MT_l6 hM | exact MT_r7 hM | exact MT_t7 hM | exact MT_l7 hM | exact MT_r8 hM | exact MT_t8 hM | exact MT_l8 hM | exact MT_r9 hM | exact MT_t9 hM | exact MT_l9 hM | exact MT_r10 hM | exact MT_t10 hM | exact MT_l10 hM)⟩) (fun d hd => ?_)
  show gw d g 322 0 [.ref 500001, gi v, am_U, am_U] [] _ _
  refine gw_al0 at322_0 (gw_bip at322_1 (by decide) ?_)
  refine gw_call2 at322_3 (m_write hM hc (by omega)) (by omega) (Nat.le_of_ble_eq_true rfl) (fun o M1 q3 => ?_)
  obtain ⟨rfl, rfl⟩ := q3
  show gw _ _ _ _ _ [] _ _
  refine gw_const at322_6 (gw_is2 at322_7 (h := ?_))
  have lp8 : ∀ i : Int, 0 ≤ i → i ≤ 3 → (un10 (3 - i) ≤ v ∨ i = 0) → gw d g 322 8 [.ref 500001, gi v, gi (un10 (3 - i)), am_U] [] (gm T (mput c 32) J) (fun o M1 => o = .inl none ∧ M1 = gm T (mwn v c) J) := by
    refine ind_up 3 ?_
    intro i hi0 hi1 ih hi2
    have o5 := un10_rg (i := 3 - i) (by omega)
    have o6 : 1 ≤ un10 (3 - i) := o5.2.2.mpr (by omega)
    have o7 : v / un10 (3 - i) * un10 (3 - i) ≤ v := Int.ediv_mul_le v (by omega)
    have o8 : v < (v / un10 (3 - i) + 1) * un10 (3 - i) := Int.lt_ediv_add_one_mul_self v (by omega)
    refine gw_il1 at322_8 ?_
    refine gw_il2 at322_9 (gw_divp at322_10 (by first | omega | (have := Int.ediv_nonneg hv.1 (show 0 ≤ un10 (3 - i) by omega); have := Int.ediv_le_self (un10 (3 - i)) hv.1; omega)) (by first | omega | (have := Int.ediv_nonneg hv.1 (show 0 ≤ un10 (3 - i) by omega); have := Int.ediv_le_self (un10 (3 - i)) hv.1; omega)) (gw_bip at322_11 (by decide) ?_))
    refine gw_clt at322_13 (by first | omega | (have := Int.ediv_nonneg hv.1 (show 0 ≤ un10 (3 - i) by omega); have := Int.ediv_le_self (un10 (3 - i)) hv.1; omega)) (by first | omega | (have := Int.ediv_nonneg hv.1 (show 0 ≤ un10 (3 - i) by omega); have := Int.ediv_le_self (un10 (3 - i)) hv.1; omega)) (fun q13 => ?_) (fun q13 => ?_)
    · have hz : v < 10 * un10 (3 - i) := by
        have := Int.mul_le_mul_of_nonneg_right (show v / un10 (3 - i) + 1 ≤ 10 by omega) (show 0 ≤ un10 (3 - i) by omega)
        omega
      exact m_wn24 (by omega) hM wk.1 (by omega) hv (by omega) (by omega) hz rfl
    · refine gw_il2 at322_16 (gw_bip at322_17 (by decide) (gw_imul at322_19 (gw_is2 at322_20 (h := (gw_goto at322_21 ?_)))))
      have hz : 10 * un10 (3 - i) ≤ v := by
        have := Int.mul_le_mul_of_nonneg_right (show 10 ≤ v / un10 (3 - i) by omega) (show 0 ≤ un10 (3 - i) by omega)
        omega
      have hi3 : ¬ i = 3 := fun e => by
        rw [e] at hz
        have : un10 (3 - 3) = 1000 := by decide
        omega
      have e9 : un10 (3 - (i + 1)) = un10 (3 - i) * 10 := by
        rcases (show i = 0 ∨ i = 1 ∨ i = 2 by omega) with e | e | e <;> subst e <;> decide
      have h9 := ih (i + 1) (by omega) (by omega) (Or.inl (by rw [e9]; omega))
      rw [e9] at h9
      exact h9
  exact lp8 0 (by decide) (by decide) (Or.inr rfl)
set_option maxHeartbeats 1000000 in
theorem m_letterOf {g : Nat} {T : gT} {c J : gC} {v p : Int} (hv : 0 ≤ v ∧ v < 387420489) (hp : 0 ≤ p ∧ p < 6) : gE g 323 0 [gi v, gi p] (gm T c J) (gR (gi (v / un27 p % 27)) (gm T c J)) := by
  refine gE_mk am_r323 rfl (Or.inl rfl) (fun d hd => ?_)
  show gw d g 323 0 [gi v, gi p, am_U, am_U] [] _ _
  refine gw_il0 at323_0 (gw_is2 at323_1 (h := (gw_il1 at323_2 (gw_is3 at323_3 (h := ?_)))))
  have lp4 : ∀ i : Int, 0 ≤ i → i ≤ 5 - p → gw d g 323 4 [gi v, gi p, gi (v / un27 (5 - i)), gi (p + i)] [] (gm T c J) (gR (gi (v / un27 p % 27)) (gm T c J)) := by
    refine ind_up (5 - p) ?_
    intro i hi0 hi1 ih
    have o5 := un27_rg (i := 5 - i) (by omega)
    refine gw_il3 at323_4 ?_
    refine gw_const at323_5 ?_
    refine gw_cge at323_6 (by first | omega | (have := Int.ediv_nonneg hv.1 (show 0 ≤ un27 (5 - i) by omega); have := Int.ediv_le_self (un27 (5 - i)) hv.1; omega)) (by first | omega | (have := Int.ediv_nonneg hv.1 (show 0 ≤ un27 (5 - i) by omega); have := Int.ediv_le_self (un27 (5 - i)) hv.1; omega)) (fun q6 => ?_) (fun q6 => ?_)
    · refine gw_il2 at323_20 (gw_bip at323_21 (by decide) (gw_remp at323_23 (by first | omega | (have := Int.ediv_nonneg hv.1 (show 0 ≤ un27 (5 - i) by omega); have := Int.ediv_le_self (un27 (5 - i)) hv.1; omega)) (by first | omega | (have := Int.ediv_nonneg hv.1 (show 0 ≤ un27 (5 - i) by omega); have := Int.ediv_le_self (un27 (5 - i)) hv.1; omega)) (gw_ri at323_24 am_r323.2.1 (gR_i ?_))))
      rw [show 5 - i = p by omega]
    · refine gw_il2 at323_9 (gw_bip at323_10 (by decide) (gw_divp at323_12 (by first | omega | (have := Int.ediv_nonneg hv.1 (show 0 ≤ un27 (5 - i) by omega); have := Int.ediv_le_self (un27 (5 - i)) hv.1; omega)) (by first | omega | (have := Int.ediv_nonneg hv.1 (show 0 ≤ un27 (5 - i) by omega); have := Int.ediv_le_self (un27 (5 - i)) hv.1; omega)) (gw_is2 at323_13 (h := (gw_inc3 at323_14 (h := (gw_goto at323_17 ?_)))))))
      have h9 := ih (i + 1) (by omega) (by omega)
      rw [un27_m (by omega), ← Int.ediv_ediv_of_nonneg (by omega), ← Int.add_assoc] at h9
      exact h9
  have h9 := lp4 0 (by omega) (by omega)
  rw [show v / un27 (5 - 0) = v from Int.ediv_one v, Int.add_zero] at h9
  exact h9
set_option maxHeartbeats 1000000 in
theorem m_writeName {g : Nat} {T : gT} {c J : gC} {b : Nat} (hM : MT T b) (hc : RG c) (hA : 0 ≤ c 500001 25 ∧ c 500001 25 + 7 ≤ 1500) {v : Int} (hv : 0 ≤ v ∧ v < 387420489) : gE g 324 1 [.ref 500001, gi v] (gm T c J) (fun o M1 => o = .inl none ∧ M1 = gm T (mwm v c) J) := by
  have wk0 := mput_ok (v := 32) hc (by omega)
  have w0 := wk0.2.1
  refine gE_mk am_r324 rfl (Or.inr ⟨_, rfl, (by first | exact MT_0 hM | exact MT_now hM | exact MT_bt hM | exact MT_bl hM | exact MT_r0 hM | exact MT_t0 hM | exact MT_l0 hM | exact MT_r1 hM | exact MT_t1 hM | exact MT_l1 hM | exact MT_r2 hM | exact MT_t2 hM | exact MT_l2 hM | exact MT_r3 hM | exact MT_t3 hM | exact MT_l3 hM | exact MT_r4 hM | exact MT_t4 hM | exact MT_l4 hM | exact MT_r5 hM | exact MT_t5 hM | exact MT_l5 hM | exact MT_r6 hM | exact MT_t6 hM | exact MT_l6 hM | exact MT_r7 hM | exact MT_t7 hM | exact MT_l7 hM | exact MT_r8 hM | exact MT_t8 hM | exact MT_l8 hM | exact MT_r9 hM | exact MT_t9 hM | exact MT_l9 hM | exact MT_r10 hM | exact MT_t10 hM | exact MT_l10 hM)⟩) (fun d hd => ?_)
  show gw d g 324 0 [.ref 500001, gi v, am_U] [] _ _
  refine gw_al0 at324_0 (gw_bip at324_1 (by decide) ?_)
  refine gw_call2 at324_3 (m_write hM hc (by omega)) (by omega) (Nat.le_of_ble_eq_true rfl) (fun o M1 q3 => ?_)
  obtain ⟨rfl, rfl⟩ := q3
  show gw _ _ _ _ _ [] _ _
  refine gw_const at324_6 (gw_is2 at324_7 (h := ?_))
  have lp8 : ∀ i : Int, 0 ≤ i → i ≤ 6 → gw d g 324 8 [.ref 500001, gi v, gi i] [] (gm T (itI (mwlf v) (mput c 32) i) J) (fun o M1 => o = .inl none ∧ M1 = gm T (mwm v c) J) := by
    refine ind_up 6 ?_
    intro i hi0 hi1 ih
    have wk := wit_ok (mwlf_ok (v := v)) wk0.1 (N := 6) (by omega) hi0 hi1
    have w2 := wk.2.1
    refine gw_il2 at324_8 ?_
    refine gw_bip at324_9 (by decide) ?_
    refine gw_cge at324_11 (by first | omega | (have := Int.emod_nonneg (v / un27 i) (show (27 : Int) ≠ 0 by omega); have := Int.emod_lt_of_pos (v / un27 i) (show (0 : Int) < 27 by omega); omega)) (by first | omega | (have := Int.emod_nonneg (v / un27 i) (show (27 : Int) ≠ 0 by omega); have := Int.emod_lt_of_pos (v / un27 i) (show (0 : Int) < 27 by omega); omega)) (fun q11 => ?_) (fun q11 => ?_)
    · refine gw_rv at324_42 am_r324.2.1 ⟨rfl, ?_⟩
      rw [show i = 6 by omega]
      rfl
    · refine gw_il1 at324_14 (gw_il2 at324_15 (gw_callP2 at324_16 (m_letterOf hv (by omega)) (by omega) (Nat.le_of_ble_eq_true rfl) ?_))
      refine gw_zle at324_19 (by first | omega | (have := Int.emod_nonneg (v / un27 i) (show (27 : Int) ≠ 0 by omega); have := Int.emod_lt_of_pos (v / un27 i) (show (0 : Int) < 27 by omega); omega)) (fun q19 => ?_) (fun q19 => ?_)
      · refine gw_inc2 at324_36 (h := (gw_goto at324_39 ?_))
        have h9 := ih (i + 1) (by omega) (by omega)
        rw [itI_s _ _ hi0] at h9
        first
        | (rw [mwlf_t (by omega)] at h9; exact h9)
        | (rw [mwlf_f (by omega)] at h9; exact h9)
      · refine gw_al0 at324_22 (gw_bip at324_23 (by decide) (gw_il1 at324_25 (gw_il2 at324_26 (gw_callP2 at324_27 (m_letterOf hv (by omega)) (by omega) (Nat.le_of_ble_eq_true rfl) (gw_iadd at324_30 (gw_const at324_31 (gw_isub at324_32 ?_)))))))
        refine gw_call2 at324_33 (m_write hM wk.1 (by omega)) (by omega) (Nat.le_of_ble_eq_true rfl) (fun o M1 q33 => ?_)
        obtain ⟨rfl, rfl⟩ := q33
        show gw _ _ _ _ _ [] _ _
        refine gw_inc2 at324_36 (h := (gw_goto at324_39 ?_))
        have h9 := ih (i + 1) (by omega) (by omega)
        rw [itI_s _ _ hi0] at h9
        first
        | (rw [mwlf_t (by omega)] at h9; exact h9)
        | (rw [mwlf_f (by omega)] at h9; exact h9)
  exact lp8 0 (by omega) (by omega)
