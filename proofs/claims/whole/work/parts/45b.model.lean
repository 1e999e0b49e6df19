def mnu1 (c : gC) : gC := mfi (decide (¬ c 500001 19 = 2)) c 1
def mnu2 (l h : Int) (c : gC) : gC := mfi (!inr (c 500001 20) l h) c 2
def mnu3 (l : Int) (c : gC) : Int × gC := (if mgd (mon c) = true then c 500001 20 else l, mon c)
def mnu (l h : Int) (c : gC) : Int × gC := mnu3 l (mnu2 l h (mnu1 c))
theorem mnu3_t {l : Int} {c : gC} (h : mgd (mon c) = true) : mnu3 l c = (c 500001 20, mon c) := by unfold mnu3; rw [if_pos h]
theorem mnu3_f {l : Int} {c : gC} (h : mgd (mon c) = false) : mnu3 l c = (l, mon c) := by unfold mnu3; rw [if_neg (by rw [h]; decide)]
theorem MP_of {b : Nat} {c m : gC} (h : MS b c m) : MP b m := h.1
theorem MS_nu1 {b : Nat} {c m : gC} (hb : ¬ b = 500001) (h : MS b c m) : MS b c (mnu1 m) := MS_fi hb h (by decide)
theorem MS_nu2 {b : Nat} {c m : gC} {l u : Int} (hb : ¬ b = 500001) (h : MS b c m) : MS b c (mnu2 l u m) := MS_fi hb h (by decide)
theorem MS_nu {b : Nat} {c m : gC} {l u : Int} (hb : ¬ b = 500001) (h : MS b c m) : MS b c (mnu l u m).2 := MS_mon hb (MS_nu2 hb (MS_nu1 hb h))
set_option maxHeartbeats 1000000 in
theorem m_nu47 {d g : Nat} {T : gT} {c J : gC} (hd : 3 ≤ d) {b : Nat} (hM : MT T b) (h : MP b c) {l u : Int} (hl : -2147483648 ≤ l ∧ l < 2147483648) {w : Value} (hw : am_nl w = true) : gw d g 302 47 [.ref 500001, gi l, gi u, w] [] (gm T c J) (fun o M1 => o = .inl (some (gi (mnu3 l c).1)) ∧ M1 = gm T (mnu3 l c).2 J) := by
  refine gw_al0 at302_47 (gw_gf (j := 20) at302_48 (by first | exact MT_0 hM | exact MT_now hM | exact MT_bt hM | exact MT_bl hM | exact MT_r0 hM | exact MT_t0 hM | exact MT_l0 hM | exact MT_r1 hM | exact MT_t1 hM | exact MT_l1 hM | exact MT_r2 hM | exact MT_t2 hM | exact MT_l2 hM | exact MT_r3 hM | exact MT_t3 hM | exact MT_l3 hM | exact MT_r4 hM | exact MT_t4 hM | exact MT_l4 hM | exact MT_r5 hM | exact MT_t5 hM | exact MT_l5 hM | exact MT_r6 hM | exact MT_t6 hM | exact MT_l6 hM | exact MT_r7 hM | exact MT_t7 hM | exact MT_l7 hM | exact MT_r8 hM | exact MT_t8 hM | exact MT_l8 hM | exact MT_r9 hM | exact MT_t9 hM | exact MT_l9 hM | exact MT_r10 hM | exact MT_t10 hM | exact MT_l10 hM) rfl (gw_is3 at302_51 (h := (gw_al0 at302_52 ?_))))
  refine gw_call1 at302_53 (m_goOn hM h.1.1) (by omega) (Nat.le_of_ble_eq_true rfl) (fun o M1 q53 => ?_)
  obtain ⟨rfl, rfl⟩ := q53
  show gw _ _ _ _ _ [] _ _
  refine gw_al0 at302_56 ?_
  have hr : RG (mon c) := by
    unfold mon
    split
    · exact (mad_ok (b := b) h.1.1).1.1.1
    · exact h.1.1.1
  refine gw_callP1 at302_57 (m_good hM hr) (by omega) (Nat.le_of_ble_eq_true rfl) ?_
  refine gw_beq at302_60 (fun q60 => ?_) (fun q60 => ?_)
  · refine gw_il1 at302_67 (gw_ri at302_68 am_r302.2.1 ?_)
    first
    | (rw [mnu3_t q60]; exact ⟨rfl, rfl⟩)
    | (rw [mnu3_f q60]; exact ⟨rfl, rfl⟩)
  · refine gw_il3 at302_63 (gw_goto at302_64 (gw_ri at302_68 am_r302.2.1 ?_))
    first
    | (rw [mnu3_t q60]; exact ⟨rfl, rfl⟩)
    | (rw [mnu3_f q60]; exact ⟨rfl, rfl⟩)
set_option maxHeartbeats 1000000 in
theorem m_nu20 {d g : Nat} {T : gT} {c J : gC} (hd : 3 ≤ d) {b : Nat} (hM : MT T b) (h : MP b c) (hb : ¬ b = 500001) {l u : Int} (hl : -2147483648 ≤ l ∧ l < 2147483648) (hu : -2147483648 ≤ u ∧ u < 2147483648) {w : Value} (hw : am_nl w = true) : gw d g 302 20 [.ref 500001, gi l, gi u, w] [] (gm T c J) (fun o M1 => o = .inl (some (gi (mnu3 l (mnu2 l u c)).1)) ∧ M1 = gm T (mnu3 l (mnu2 l u c)).2 J) := by
  have h8 := (MS_nu2 (l := l) (u := u) hb (MS_rf h)).1
  have r8 := h.1.1.1 500001 20
  refine gw_al0 at302_20 (gw_callP1 at302_21 (m_good hM h.1.1.1) (by omega) (Nat.le_of_ble_eq_true rfl) ?_)
  refine gw_beq at302_24 (fun q24 => ?_) (fun q24 => ?_)
  · first
    | (rw [show mnu2 l u c = c from mfi_0 q24] at *; exact m_nu47 (by omega) hM h8 hl hw)
    | (rw [show mnu2 l u c = c from mfi_1 (by rw [q39]; rfl)] at *; exact m_nu47 (by omega) hM h8 hl hw)
    | (rw [show mnu2 l u c = mfl c 2 from mfi_2 q24 (by rw [q39]; rfl)] at *; exact m_nu47 (by omega) hM h8 hl hw)
  · refine gw_al0 at302_27 (gw_gf (j := 20) at302_28 (by first | exact MT_0 hM | exact MT_now hM | exact MT_bt hM | exact MT_bl hM | exact MT_r0 hM | exact MT_t0 hM | exact MT_l0 hM | exact MT_r1 hM | exact MT_t1 hM | exact MT_l1 hM | exact MT_r2 hM | exact MT_t2 hM | exact MT_l2 hM | exact MT_r3 hM | exact MT_t3 hM | exact MT_l3 hM | exact MT_r4 hM | exact MT_t4 hM | exact MT_l4 hM | exact MT_r5 hM | exact MT_t5 hM | exact MT_l5 hM | exact MT_r6 hM | exact MT_t6 hM | exact MT_l6 hM | exact MT_r7 hM | exact MT_t7 hM | exact MT_l7 hM | exact MT_r8 hM | exact MT_t8 hM | exact MT_l8 hM | exact MT_r9 hM | exact MT_t9 hM | exact MT_l9 hM | exact MT_r10 hM | exact MT_t10 hM | exact MT_l10 hM) rfl (gw_i2l at302_31 (by first | omega | exact h.1.1.1 _ _ | exact bi_rg _) (gw_il1 at302_32 (gw_i2l at302_33 (by first | omega | exact h.1.1.1 _ _ | exact bi_rg _) (gw_il2 at302_34 (gw_i2l at302_35 (by first | omega | exact h.1.1.1 _ _ | exact bi_rg _) (gw_callP3 at302_36 (m_in (by omega) (by omega) (by omega)) (by omega) (Nat.le_of_ble_eq_true rfl) ?_)))))))
    refine gw_bne at302_39 (fun q39 => ?_) (fun q39 => ?_)
    · first
      | (rw [show mnu2 l u c = c from mfi_0 q24] at *; exact m_nu47 (by omega) hM h8 hl hw)
      | (rw [show mnu2 l u c = c from mfi_1 (by rw [q39]; rfl)] at *; exact m_nu47 (by omega) hM h8 hl hw)
      | (rw [show mnu2 l u c = mfl c 2 from mfi_2 q24 (by rw [q39]; rfl)] at *; exact m_nu47 (by omega) hM h8 hl hw)
    · refine gw_al0 at302_42 (gw_const at302_43 ?_)
      refine gw_call2 at302_44 (m_fail hM h.1.1.1) (by omega) (Nat.le_of_ble_eq_true rfl) (fun o M1 q44 => ?_)
      obtain ⟨rfl, rfl⟩ := q44
      show gw _ _ _ _ _ [] _ _
      first
      | (rw [show mnu2 l u c = c from mfi_0 q24] at *; exact m_nu47 (by omega) hM h8 hl hw)
      | (rw [show mnu2 l u c = c from mfi_1 (by rw [q39]; rfl)] at *; exact m_nu47 (by omega) hM h8 hl hw)
      | (rw [show mnu2 l u c = mfl c 2 from mfi_2 q24 (by rw [q39]; rfl)] at *; exact m_nu47 (by omega) hM h8 hl hw)
set_option maxHeartbeats 1000000 in
theorem m_number {g : Nat} {T : gT} {c J : gC} {b : Nat} (hM : MT T b) (h : MP b c) (hb : ¬ b = 500001) {l u : Int} (hl : -2147483648 ≤ l ∧ l < 2147483648) (hu : -2147483648 ≤ u ∧ u < 2147483648) : gE g 302 3 [.ref 500001, gi l, gi u] (gm T c J) (fun o M1 => o = .inl (some (gi (mnu l u c).1)) ∧ M1 = gm T (mnu l u c).2 J) := by
  have h8 := (MS_nu1 hb (MS_rf h)).1
  refine gE_mk am_r302 rfl (Or.inr ⟨_, rfl, (by first | exact MT_0 hM | exact MT_now hM | exact MT_bt hM | exact MT_bl hM | exact MT_r0 hM | exact MT_t0 hM | exact MT_l0 hM | exact MT_r1 hM | exact MT_t1 hM | exact MT_l1 hM | exact MT_r2 hM | exact MT_t2 hM | exact MT_l2 hM | exact MT_r3 hM | exact MT_t3 hM | exact MT_l3 hM | exact MT_r4 hM | exact MT_t4 hM | exact MT_l4 hM | exact MT_r5 hM | exact MT_t5 hM | exact MT_l5 hM | exact MT_r6 hM | exact MT_t6 hM | exact MT_l6 hM | exact MT_r7 hM | exact MT_t7 hM | exact MT_l7 hM | exact MT_r8 hM | exact MT_t8 hM | exact MT_l8 hM | exact MT_r9 hM | exact MT_t9 hM | exact MT_l9 hM | exact MT_r10 hM | exact MT_t10 hM | exact MT_l10 hM)⟩) (fun d hd => ?_)
  show gw d g 302 0 [.ref 500001, gi l, gi u, am_U] [] _ _
  refine gw_al0 at302_0 (gw_callP1 at302_1 (m_good hM h.1.1.1) (by omega) (Nat.le_of_ble_eq_true rfl) ?_)
  refine gw_beq at302_4 (fun q4 => ?_) (fun q4 => ?_)
  · unfold mnu
    first
    | (rw [show mnu1 c = c from mfi_0 q4] at *; exact m_nu20 (by omega) hM h8 hb hl hu rfl)
    | (rw [show mnu1 c = c from mfi_1 (decide_eq_false (by omega))] at *; exact m_nu20 (by omega) hM h8 hb hl hu rfl)
    | (rw [show mnu1 c = mfl c 1 from mfi_2 q4 (decide_eq_true (by omega))] at *; exact m_nu20 (by omega) hM h8 hb hl hu rfl)
  · refine gw_al0 at302_7 (gw_gf (j := 19) at302_8 (by first | exact MT_0 hM | exact MT_now hM | exact MT_bt hM | exact MT_bl hM | exact MT_r0 hM | exact MT_t0 hM | exact MT_l0 hM | exact MT_r1 hM | exact MT_t1 hM | exact MT_l1 hM | exact MT_r2 hM | exact MT_t2 hM | exact MT_l2 hM | exact MT_r3 hM | exact MT_t3 hM | exact MT_l3 hM | exact MT_r4 hM | exact MT_t4 hM | exact MT_l4 hM | exact MT_r5 hM | exact MT_t5 hM | exact MT_l5 hM | exact MT_r6 hM | exact MT_t6 hM | exact MT_l6 hM | exact MT_r7 hM | exact MT_t7 hM | exact MT_l7 hM | exact MT_r8 hM | exact MT_t8 hM | exact MT_l8 hM | exact MT_r9 hM | exact MT_t9 hM | exact MT_l9 hM | exact MT_r10 hM | exact MT_t10 hM | exact MT_l10 hM) rfl (gw_const at302_11 ?_))
    refine gw_ceq at302_12 (by first | omega | exact h.1.1.1 _ _ | exact bi_rg _) (by first | omega | exact h.1.1.1 _ _ | exact bi_rg _) (fun q12 => ?_) (fun q12 => ?_)
    · unfold mnu
      first
      | (rw [show mnu1 c = c from mfi_0 q4] at *; exact m_nu20 (by omega) hM h8 hb hl hu rfl)
      | (rw [show mnu1 c = c from mfi_1 (decide_eq_false (by omega))] at *; exact m_nu20 (by omega) hM h8 hb hl hu rfl)
      | (rw [show mnu1 c = mfl c 1 from mfi_2 q4 (decide_eq_true (by omega))] at *; exact m_nu20 (by omega) hM h8 hb hl hu rfl)
    · refine gw_al0 at302_15 (gw_const at302_16 ?_)
      refine gw_call2 at302_17 (m_fail hM h.1.1.1) (by omega) (Nat.le_of_ble_eq_true rfl) (fun o M1 q17 => ?_)
      obtain ⟨rfl, rfl⟩ := q17
      show gw _ _ _ _ _ [] _ _
      unfold mnu
      first
      | (rw [show mnu1 c = c from mfi_0 q4] at *; exact m_nu20 (by omega) hM h8 hb hl hu rfl)
      | (rw [show mnu1 c = c from mfi_1 (decide_eq_false (by omega))] at *; exact m_nu20 (by omega) hM h8 hb hl hu rfl)
      | (rw [show mnu1 c = mfl c 1 from mfi_2 q4 (decide_eq_true (by omega))] at *; exact m_nu20 (by omega) hM h8 hb hl hu rfl)
set_option maxHeartbeats 1000000 in
theorem m_packed {g : Nat} {T : gT} {c J : gC} {b : Nat} (hM : MT T b) (h : MP b c) (hw : c 500001 19 = 1) : gE g 303 0 [.ref 500001] (gm T c J) (gR (gi (mpk c)) (gm T c J)) := by
  have hs9 := h.1.1.2.1
  have hs8 := h.1.2.1
  refine gE_mk am_r303 rfl (Or.inr ⟨_, rfl, (by first | exact MT_0 hM | exact MT_now hM | exact MT_bt hM | exact MT_bl hM | exact MT_r0 hM | exact MT_t0 hM | exact MT_l0 hM | exact MT_r1 hM | exact MT_t1 hM | exact MT_l1 hM | exact MT_r2 hM | exact MT_t2 hM | exact MT_l2 hM | exact MT_r3 hM | exact MT_t3 hM | exact MT_l3 hM | exact MT_r4 hM | exact MT_t4 hM | exact MT_l4 hM | exact MT_r5 hM | exact MT_t5 hM | exact MT_l5 hM | exact MT_r6 hM | exact MT_t6 hM | exact MT_l6 hM | exact MT_r7 hM | exact MT_t7 hM | exact MT_l7 hM | exact MT_r8 hM | exact MT_t8 hM | exact MT_l8 hM | exact MT_r9 hM | exact MT_t9 hM | exact MT_l9 hM | exact MT_r10 hM | exact MT_t10 hM | exact MT_l10 hM)⟩) (fun d hd => ?_)
  show gw d g 303 0 [.ref 500001, am_U, am_U] [] _ _
  refine gw_const at303_0 (gw_is1 at303_1 (h := (gw_const at303_2 (gw_is2 at303_3 (h := ?_)))))
  have lp4 : ∀ i : Int, 0 ≤ i → i ≤ 6 → gw d g 303 4 [.ref 500001, gi (itI (fun k v => 27 * v + (if c 500001 18 + k < c 500001 17 then c 200009 (c 500001 18 + k) - 97 + 1 else 0)) 0 i), gi i] [] (gm T c J) (gR (gi (mpk c)) (gm T c J)) := by
    refine ind_up 6 ?_
    intro i hi0 hi1 ih
    refine gw_il2 at303_4 ?_
    refine gw_bip at303_5 (by decide) ?_
    refine gw_cge at303_7 (by first | omega | exact h.1.1.1 _ _) (by first | omega | exact h.1.1.1 _ _) (fun q7 => ?_) (fun q7 => ?_)
    · refine gw_il1 at303_55 (gw_ri at303_56 am_r303.2.1 (gR_i ?_))
      rw [show i = 6 by omega]
      rfl
    · refine gw_bip at303_10 (by decide) (gw_il1 at303_12 (gw_imul at303_13 (gw_al0 at303_14 (gw_gf (j := 18) at303_15 (by first | exact MT_0 hM | exact MT_now hM | exact MT_bt hM | exact MT_bl hM | exact MT_r0 hM | exact MT_t0 hM | exact MT_l0 hM | exact MT_r1 hM | exact MT_t1 hM | exact MT_l1 hM | exact MT_r2 hM | exact MT_t2 hM | exact MT_l2 hM | exact MT_r3 hM | exact MT_t3 hM | exact MT_l3 hM | exact MT_r4 hM | exact MT_t4 hM | exact MT_l4 hM | exact MT_r5 hM | exact MT_t5 hM | exact MT_l5 hM | exact MT_r6 hM | exact MT_t6 hM | exact MT_l6 hM | exact MT_r7 hM | exact MT_t7 hM | exact MT_l7 hM | exact MT_r8 hM | exact MT_t8 hM | exact MT_l8 hM | exact MT_r9 hM | exact MT_t9 hM | exact MT_l9 hM | exact MT_r10 hM | exact MT_t10 hM | exact MT_l10 hM) rfl (gw_il2 at303_18 (gw_iadd at303_19 (gw_al0 at303_20 (gw_gf (j := 17) at303_21 (by first | exact MT_0 hM | exact MT_now hM | exact MT_bt hM | exact MT_bl hM | exact MT_r0 hM | exact MT_t0 hM | exact MT_l0 hM | exact MT_r1 hM | exact MT_t1 hM | exact MT_l1 hM | exact MT_r2 hM | exact MT_t2 hM | exact MT_l2 hM | exact MT_r3 hM | exact MT_t3 hM | exact MT_l3 hM | exact MT_r4 hM | exact MT_t4 hM | exact MT_l4 hM | exact MT_r5 hM | exact MT_t5 hM | exact MT_l5 hM | exact MT_r6 hM | exact MT_t6 hM | exact MT_l6 hM | exact MT_r7 hM | exact MT_t7 hM | exact MT_l7 hM | exact MT_r8 hM | exact MT_t8 hM | exact MT_l8 hM | exact MT_r9 hM | exact MT_t9 hM | exact MT_l9 hM | exact MT_r10 hM | exact MT_t10 hM | exact MT_l10 hM) rfl ?_))))))))
      refine gw_cge at303_24 (by first | omega | exact h.1.1.1 _ _) (by first | omega | exact h.1.1.1 _ _) (fun q24 => ?_) (fun q24 => ?_)
      · refine gw_const at303_46 (gw_iadd at303_47 (gw_is1 at303_48 (h := (gw_inc2 at303_49 (h := (gw_goto at303_52 ?_))))))
        have h9 := ih (i + 1) (by omega) (by omega)
        rw [itI_s _ _ hi0] at h9
        first
        | (rw [if_pos (by omega)] at h9; exact h9)
        | (rw [if_neg (by omega)] at h9; exact h9)
      · refine gw_al0 at303_27 (gw_gr at303_28 (by first | exact MT_0 hM | exact MT_now hM | exact MT_bt hM | exact MT_bl hM | exact MT_r0 hM | exact MT_t0 hM | exact MT_l0 hM | exact MT_r1 hM | exact MT_t1 hM | exact MT_l1 hM | exact MT_r2 hM | exact MT_t2 hM | exact MT_l2 hM | exact MT_r3 hM | exact MT_t3 hM | exact MT_l3 hM | exact MT_r4 hM | exact MT_t4 hM | exact MT_l4 hM | exact MT_r5 hM | exact MT_t5 hM | exact MT_l5 hM | exact MT_r6 hM | exact MT_t6 hM | exact MT_l6 hM | exact MT_r7 hM | exact MT_t7 hM | exact MT_l7 hM | exact MT_r8 hM | exact MT_t8 hM | exact MT_l8 hM | exact MT_r9 hM | exact MT_t9 hM | exact MT_l9 hM | exact MT_r10 hM | exact MT_t10 hM | exact MT_l10 hM) (by first | exact MT_0 hM | exact MT_now hM | exact MT_bt hM | exact MT_bl hM | exact MT_r0 hM | exact MT_t0 hM | exact MT_l0 hM | exact MT_r1 hM | exact MT_t1 hM | exact MT_l1 hM | exact MT_r2 hM | exact MT_t2 hM | exact MT_l2 hM | exact MT_r3 hM | exact MT_t3 hM | exact MT_l3 hM | exact MT_r4 hM | exact MT_t4 hM | exact MT_l4 hM | exact MT_r5 hM | exact MT_t5 hM | exact MT_l5 hM | exact MT_r6 hM | exact MT_t6 hM | exact MT_l6 hM | exact MT_r7 hM | exact MT_t7 hM | exact MT_l7 hM | exact MT_r8 hM | exact MT_t8 hM | exact MT_l8 hM | exact MT_r9 hM | exact MT_t9 hM | exact MT_l9 hM | exact MT_r10 hM | exact MT_t10 hM | exact MT_l10 hM) (gw_al0 at303_31 (gw_gf (j := 18) at303_32 (by first | exact MT_0 hM | exact MT_now hM | exact MT_bt hM | exact MT_bl hM | exact MT_r0 hM | exact MT_t0 hM | exact MT_l0 hM | exact MT_r1 hM | exact MT_t1 hM | exact MT_l1 hM | exact MT_r2 hM | exact MT_t2 hM | exact MT_l2 hM | exact MT_r3 hM | exact MT_t3 hM | exact MT_l3 hM | exact MT_r4 hM | exact MT_t4 hM | exact MT_l4 hM | exact MT_r5 hM | exact MT_t5 hM | exact MT_l5 hM | exact MT_r6 hM | exact MT_t6 hM | exact MT_l6 hM | exact MT_r7 hM | exact MT_t7 hM | exact MT_l7 hM | exact MT_r8 hM | exact MT_t8 hM | exact MT_l8 hM | exact MT_r9 hM | exact MT_t9 hM | exact MT_l9 hM | exact MT_r10 hM | exact MT_t10 hM | exact MT_l10 hM) rfl (gw_il2 at303_35 (gw_iadd at303_36 (gw_ba at303_37 (by first | exact Or.inl (by first | exact MT_0 hM | exact MT_now hM | exact MT_bt hM | exact MT_bl hM | exact MT_r0 hM | exact MT_t0 hM | exact MT_l0 hM | exact MT_r1 hM | exact MT_t1 hM | exact MT_l1 hM | exact MT_r2 hM | exact MT_t2 hM | exact MT_l2 hM | exact MT_r3 hM | exact MT_t3 hM | exact MT_l3 hM | exact MT_r4 hM | exact MT_t4 hM | exact MT_l4 hM | exact MT_r5 hM | exact MT_t5 hM | exact MT_l5 hM | exact MT_r6 hM | exact MT_t6 hM | exact MT_l6 hM | exact MT_r7 hM | exact MT_t7 hM | exact MT_l7 hM | exact MT_r8 hM | exact MT_t8 hM | exact MT_l8 hM | exact MT_r9 hM | exact MT_t9 hM | exact MT_l9 hM | exact MT_r10 hM | exact MT_t10 hM | exact MT_l10 hM) | exact Or.inr (by first | exact MT_0 hM | exact MT_now hM | exact MT_bt hM | exact MT_bl hM | exact MT_r0 hM | exact MT_t0 hM | exact MT_l0 hM | exact MT_r1 hM | exact MT_t1 hM | exact MT_l1 hM | exact MT_r2 hM | exact MT_t2 hM | exact MT_l2 hM | exact MT_r3 hM | exact MT_t3 hM | exact MT_l3 hM | exact MT_r4 hM | exact MT_t4 hM | exact MT_l4 hM | exact MT_r5 hM | exact MT_t5 hM | exact MT_l5 hM | exact MT_r6 hM | exact MT_t6 hM | exact MT_l6 hM | exact MT_r7 hM | exact MT_t7 hM | exact MT_l7 hM | exact MT_r8 hM | exact MT_t8 hM | exact MT_l8 hM | exact MT_r9 hM | exact MT_t9 hM | exact MT_l9 hM | exact MT_r10 hM | exact MT_t10 hM | exact MT_l10 hM)) (by first | exact MT_0 hM | exact MT_now hM | exact MT_bt hM | exact MT_bl hM | exact MT_r0 hM | exact MT_t0 hM | exact MT_l0 hM | exact MT_r1 hM | exact MT_t1 hM | exact MT_l1 hM | exact MT_r2 hM | exact MT_t2 hM | exact MT_l2 hM | exact MT_r3 hM | exact MT_t3 hM | exact MT_l3 hM | exact MT_r4 hM | exact MT_t4 hM | exact MT_l4 hM | exact MT_r5 hM | exact MT_t5 hM | exact MT_l5 hM | exact MT_r6 hM | exact MT_t6 hM | exact MT_l6 hM | exact MT_r7 hM | exact MT_t7 hM | exact MT_l7 hM | exact MT_r8 hM | exact MT_t8 hM | exact MT_l8 hM | exact MT_r9 hM | exact MT_t9 hM | exact MT_l9 hM | exact MT_r10 hM | exact MT_t10 hM | exact MT_l10 hM) (by first | omega | exact h.1.1.1 _ _) (by first | omega | exact h.1.1.1 _ _) (by omega) (gw_bip at303_38 (by decide) (gw_isub at303_40 (gw_const at303_41 (gw_iadd at303_42 (gw_goto at303_43 (gw_iadd at303_47 (gw_is1 at303_48 (h := (gw_inc2 at303_49 (h := (gw_goto at303_52 ?_)))))))))))))))))
        have h9 := ih (i + 1) (by omega) (by omega)
        rw [itI_s _ _ hi0] at h9
        first
        | (rw [if_pos (by omega)] at h9; exact h9)
        | (rw [if_neg (by omega)] at h9; exact h9)
  exact lp4 0 (by omega) (by omega)
