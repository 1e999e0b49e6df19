/-! the law's wrappers: what a call told, and what is thrown turned into a number -/
def gP (R : (Int ⊕ Nat) → gT → gC → gC → Prop) : am_O → am_M → Prop := fun o M1 => ∃ T1 c1 J1, M1 = gm T1 c1 J1 ∧ ((∃ v, o = .inl (some (gi v)) ∧ (-2147483648 ≤ v ∧ v < 2147483648) ∧ ((T1.1 500002).1 = 3 ∧ (T1.1 500002).2.1 = 1) ∧ R (.inl v) T1 c1 J1) ∨ ∃ E, o = .inr E ∧ (T1.1 (700000 + T1.2.1 7)).1 = 0 ∧ R (.inr E) T1 c1 J1)
def gP0 (R : (Int ⊕ Nat) → gT → gC → gC → Prop) : am_O → am_M → Prop := fun o M1 => ∃ T1 c1 J1, M1 = gm T1 c1 J1 ∧ ((o = .inl none ∧ R (.inl 0) T1 c1 J1) ∨ ∃ E, o = .inr E ∧ (T1.1 (700000 + T1.2.1 7)).1 = 0 ∧ R (.inr E) T1 c1 J1)
def gPl (R : (Int ⊕ Nat) → gT → gC → gC → Prop) : am_O → am_M → Prop := fun o M1 => ∃ T1 c1 J1, M1 = gm T1 c1 J1 ∧ ((∃ v, o = .inl (some (gl v)) ∧ ((T1.1 500002).1 = 3 ∧ (T1.1 500002).2.1 = 1) ∧ R (.inl v) T1 c1 J1) ∨ ∃ E, o = .inr E ∧ (T1.1 (700000 + T1.2.1 7)).1 = 0 ∧ R (.inr E) T1 c1 J1)
def gW (hm : Nat → Int) (R : (Int ⊕ Nat) → gT → gC → gC → Prop) : am_O → am_M → Prop := fun o M1 => ∃ T1 c1 J1, (∃ v, R (.inl v) T1 c1 J1 ∧ o = .inl (some (gi 0)) ∧ M1 = gm T1 c1 (gu J1 500002 0 v)) ∨ ∃ E, R (.inr E) T1 c1 J1 ∧ o = .inl (some (gi (hm E))) ∧ M1 = gm (gTe T1) (gz c1 (700000 + T1.2.1 7)) (gz J1 (700000 + T1.2.1 7))
def gW0 (hm : Nat → Int) (R : (Int ⊕ Nat) → gT → gC → gC → Prop) : am_O → am_M → Prop := fun o M1 => ∃ T1 c1 J1, (R (.inl 0) T1 c1 J1 ∧ o = .inl (some (gi 0)) ∧ M1 = gm T1 c1 J1) ∨ ∃ E, R (.inr E) T1 c1 J1 ∧ o = .inl (some (gi (hm E))) ∧ M1 = gm (gTe T1) (gz c1 (700000 + T1.2.1 7)) (gz J1 (700000 + T1.2.1 7))
set_option maxHeartbeats 1000000 in
theorem w_append {g H : Nat} {T : gT} {c J : gC} {R : (Int ⊕ Nat) → gT → gC → gC → Prop} {p0 p1 p2 p3 p4 : Int} (e : gE g 97 H [.ref 500000, gi p0, gi p1, gi p2, gi p3, gi p4] (gm T c J) (gP R)) (hE : ∀ E T1 c1 J1, R (.inr E) T1 c1 J1 → E = 0) : gE g 341 (H + 1) [.ref 500000, gi p0, gi p1, gi p2, gi p3, gi p4, .ref 500002] (gm T c J) (gW (fun E => 1) R) := by
  refine gE_mk am_r341 rfl (Or.inl rfl) (fun d hd => ?_)
  show gw d g 341 0 [.ref 500000, gi p0, gi p1, gi p2, gi p3, gi p4, .ref 500002, am_U] [] _ _
  refine gw_al6 at341_0 (gw_const at341_2 (gw_al0 at341_3 (gw_il1 at341_4 (gw_il2 at341_5 (gw_il3 at341_6 (gw_il4 at341_7 (gw_il5 at341_9 (?_))))))))
  refine gw_call6 at341_11 e (by omega) (Nat.le_of_ble_eq_true rfl) (fun o M1 q => ?_)
  obtain ⟨T1, c1, J1, rfl, ⟨v, rfl, hv, ⟨o1, o2⟩, hR⟩ | ⟨E, rfl, fx, hR⟩⟩ := q
  · show gw _ _ _ _ _ (gi v :: _) _ _
    refine gw_i2l at341_14 hv (gw_lw at341_15 o1 o2 (by decide) (by decide) (by decide) (gw_goto at341_16 (gw_const at341_23 (gw_ri at341_24 am_r341.2.1 ?_))))
    exact ⟨T1, c1, J1, Or.inl ⟨v, hR, rfl, rfl⟩⟩
  · have e1 := hE E T1 c1 J1 hR
    subst e1
    refine ⟨fx, ?_⟩
    rw [gm_exc]
    refine gw_as7 at341_19 rfl (gw_const at341_21 (gw_ri at341_22 am_r341.2.1 ?_))
    exact ⟨T1, c1, J1, Or.inr ⟨0, hR, rfl, rfl⟩⟩
set_option maxHeartbeats 1000000 in
theorem w_truncate {g H : Nat} {T : gT} {c J : gC} {R : (Int ⊕ Nat) → gT → gC → gC → Prop} {p0 : Int} (e : gE g 98 H [.ref 500000, gi p0] (gm T c J) (gP0 R)) (hE : ∀ E T1 c1 J1, R (.inr E) T1 c1 J1 → E = 1) : gE g 342 (H + 1) [.ref 500000, gi p0] (gm T c J) (gW0 (fun E => 1) R) := by
  refine gE_mk am_r342 rfl (Or.inl rfl) (fun d hd => ?_)
  show gw d g 342 0 [.ref 500000, gi p0, am_U] [] _ _
  refine gw_al0 at342_0 (gw_il1 at342_1 (?_))
  refine gw_call2 at342_2 e (by omega) (Nat.le_of_ble_eq_true rfl) (fun o M1 q => ?_)
  obtain ⟨T1, c1, J1, rfl, ⟨rfl, hR⟩ | ⟨E, rfl, fx, hR⟩⟩ := q
  · show gw _ _ _ _ _ [] _ _
    refine gw_goto at342_5 (gw_const at342_11 (gw_ri at342_12 am_r342.2.1 ?_))
    exact ⟨T1, c1, J1, Or.inl ⟨hR, rfl, rfl⟩⟩
  · have e1 := hE E T1 c1 J1 hR
    subst e1
    refine ⟨fx, ?_⟩
    rw [gm_exc]
    refine gw_as2 at342_8 rfl (gw_const at342_9 (gw_ri at342_10 am_r342.2.1 ?_))
    exact ⟨T1, c1, J1, Or.inr ⟨1, hR, rfl, rfl⟩⟩
set_option maxHeartbeats 1000000 in
theorem w_find {g H : Nat} {T : gT} {c J : gC} {R : (Int ⊕ Nat) → gT → gC → gC → Prop} {p0 : Int} (e : gE g 104 H [.ref 500000, gi p0] (gm T c J) (gP R)) (hE : ∀ E T1 c1 J1, R (.inr E) T1 c1 J1 → E = 1) : gE g 343 (H + 1) [.ref 500000, gi p0, .ref 500002] (gm T c J) (gW (fun E => 1) R) := by
  refine gE_mk am_r343 rfl (Or.inl rfl) (fun d hd => ?_)
  show gw d g 343 0 [.ref 500000, gi p0, .ref 500002, am_U] [] _ _
  refine gw_al2 at343_0 (gw_const at343_1 (gw_al0 at343_2 (gw_il1 at343_3 (?_))))
  refine gw_call2 at343_4 e (by omega) (Nat.le_of_ble_eq_true rfl) (fun o M1 q => ?_)
  obtain ⟨T1, c1, J1, rfl, ⟨v, rfl, hv, ⟨o1, o2⟩, hR⟩ | ⟨E, rfl, fx, hR⟩⟩ := q
  · show gw _ _ _ _ _ (gi v :: _) _ _
    refine gw_i2l at343_7 hv (gw_lw at343_8 o1 o2 (by decide) (by decide) (by decide) (gw_goto at343_9 (gw_const at343_15 (gw_ri at343_16 am_r343.2.1 ?_))))
    exact ⟨T1, c1, J1, Or.inl ⟨v, hR, rfl, rfl⟩⟩
  · have e1 := hE E T1 c1 J1 hR
    subst e1
    refine ⟨fx, ?_⟩
    rw [gm_exc]
    refine gw_as3 at343_12 rfl (gw_const at343_13 (gw_ri at343_14 am_r343.2.1 ?_))
    exact ⟨T1, c1, J1, Or.inr ⟨1, hR, rfl, rfl⟩⟩
set_option maxHeartbeats 1000000 in
theorem w_arcStart {g H : Nat} {T : gT} {c J : gC} {R : (Int ⊕ Nat) → gT → gC → gC → Prop} {p0 : Int} (e : gE g 106 H [.ref 500000, gi p0] (gm T c J) (gP R)) (hE : ∀ E T1 c1 J1, R (.inr E) T1 c1 J1 → E = 2) : gE g 344 (H + 1) [.ref 500000, gi p0, .ref 500002] (gm T c J) (gW (fun E => 1) R) := by
  refine gE_mk am_r344 rfl (Or.inl rfl) (fun d hd => ?_)
  show gw d g 344 0 [.ref 500000, gi p0, .ref 500002, am_U] [] _ _
  refine gw_al2 at344_0 (gw_const at344_1 (gw_al0 at344_2 (gw_il1 at344_3 (?_))))
  refine gw_call2 at344_4 e (by omega) (Nat.le_of_ble_eq_true rfl) (fun o M1 q => ?_)
  obtain ⟨T1, c1, J1, rfl, ⟨v, rfl, hv, ⟨o1, o2⟩, hR⟩ | ⟨E, rfl, fx, hR⟩⟩ := q
  · show gw _ _ _ _ _ (gi v :: _) _ _
    refine gw_i2l at344_7 hv (gw_lw at344_8 o1 o2 (by decide) (by decide) (by decide) (gw_goto at344_9 (gw_const at344_15 (gw_ri at344_16 am_r344.2.1 ?_))))
    exact ⟨T1, c1, J1, Or.inl ⟨v, hR, rfl, rfl⟩⟩
  · have e1 := hE E T1 c1 J1 hR
    subst e1
    refine ⟨fx, ?_⟩
    rw [gm_exc]
    refine gw_as3 at344_12 rfl (gw_const at344_13 (gw_ri at344_14 am_r344.2.1 ?_))
    exact ⟨T1, c1, J1, Or.inr ⟨2, hR, rfl, rfl⟩⟩
set_option maxHeartbeats 1000000 in
theorem w_arcEnd {g H : Nat} {T : gT} {c J : gC} {R : (Int ⊕ Nat) → gT → gC → gC → Prop} {p0 : Int} (e : gE g 107 H [.ref 500000, gi p0] (gm T c J) (gP R)) (hE : ∀ E T1 c1 J1, R (.inr E) T1 c1 J1 → E = 2) : gE g 345 (H + 1) [.ref 500000, gi p0, .ref 500002] (gm T c J) (gW (fun E => 1) R) := by
  refine gE_mk am_r345 rfl (Or.inl rfl) (fun d hd => ?_)
  show gw d g 345 0 [.ref 500000, gi p0, .ref 500002, am_U] [] _ _
  refine gw_al2 at345_0 (gw_const at345_1 (gw_al0 at345_2 (gw_il1 at345_3 (?_))))
  refine gw_call2 at345_4 e (by omega) (Nat.le_of_ble_eq_true rfl) (fun o M1 q => ?_)
  obtain ⟨T1, c1, J1, rfl, ⟨v, rfl, hv, ⟨o1, o2⟩, hR⟩ | ⟨E, rfl, fx, hR⟩⟩ := q
  · show gw _ _ _ _ _ (gi v :: _) _ _
    refine gw_i2l at345_7 hv (gw_lw at345_8 o1 o2 (by decide) (by decide) (by decide) (gw_goto at345_9 (gw_const at345_15 (gw_ri at345_16 am_r345.2.1 ?_))))
    exact ⟨T1, c1, J1, Or.inl ⟨v, hR, rfl, rfl⟩⟩
  · have e1 := hE E T1 c1 J1 hR
    subst e1
    refine ⟨fx, ?_⟩
    rw [gm_exc]
    refine gw_as3 at345_12 rfl (gw_const at345_13 (gw_ri at345_14 am_r345.2.1 ?_))
    exact ⟨T1, c1, J1, Or.inr ⟨2, hR, rfl, rfl⟩⟩
set_option maxHeartbeats 1000000 in
theorem w_arcLength {g H : Nat} {T : gT} {c J : gC} {R : (Int ⊕ Nat) → gT → gC → gC → Prop} {p0 : Int} (e : gE g 108 H [.ref 500000, gi p0] (gm T c J) (gP R)) (hE : ∀ E T1 c1 J1, R (.inr E) T1 c1 J1 → E = 2) : gE g 346 (H + 1) [.ref 500000, gi p0, .ref 500002] (gm T c J) (gW (fun E => 1) R) := by
  refine gE_mk am_r346 rfl (Or.inl rfl) (fun d hd => ?_)
  show gw d g 346 0 [.ref 500000, gi p0, .ref 500002, am_U] [] _ _
  refine gw_al2 at346_0 (gw_const at346_1 (gw_al0 at346_2 (gw_il1 at346_3 (?_))))
  refine gw_call2 at346_4 e (by omega) (Nat.le_of_ble_eq_true rfl) (fun o M1 q => ?_)
  obtain ⟨T1, c1, J1, rfl, ⟨v, rfl, hv, ⟨o1, o2⟩, hR⟩ | ⟨E, rfl, fx, hR⟩⟩ := q
  · show gw _ _ _ _ _ (gi v :: _) _ _
    refine gw_i2l at346_7 hv (gw_lw at346_8 o1 o2 (by decide) (by decide) (by decide) (gw_goto at346_9 (gw_const at346_15 (gw_ri at346_16 am_r346.2.1 ?_))))
    exact ⟨T1, c1, J1, Or.inl ⟨v, hR, rfl, rfl⟩⟩
  · have e1 := hE E T1 c1 J1 hR
    subst e1
    refine ⟨fx, ?_⟩
    rw [gm_exc]
    refine gw_as3 at346_12 rfl (gw_const at346_13 (gw_ri at346_14 am_r346.2.1 ?_))
    exact ⟨T1, c1, J1, Or.inr ⟨2, hR, rfl, rfl⟩⟩
set_option maxHeartbeats 1000000 in
theorem w_arcClass {g H : Nat} {T : gT} {c J : gC} {R : (Int ⊕ Nat) → gT → gC → gC → Prop} {p0 : Int} (e : gE g 109 H [.ref 500000, gi p0] (gm T c J) (gP R)) (hE : ∀ E T1 c1 J1, R (.inr E) T1 c1 J1 → E = 2) : gE g 347 (H + 1) [.ref 500000, gi p0, .ref 500002] (gm T c J) (gW (fun E => 1) R) := by
  refine gE_mk am_r347 rfl (Or.inl rfl) (fun d hd => ?_)
  show gw d g 347 0 [.ref 500000, gi p0, .ref 500002, am_U] [] _ _
  refine gw_al2 at347_0 (gw_const at347_1 (gw_al0 at347_2 (gw_il1 at347_3 (?_))))
  refine gw_call2 at347_4 e (by omega) (Nat.le_of_ble_eq_true rfl) (fun o M1 q => ?_)
  obtain ⟨T1, c1, J1, rfl, ⟨v, rfl, hv, ⟨o1, o2⟩, hR⟩ | ⟨E, rfl, fx, hR⟩⟩ := q
  · show gw _ _ _ _ _ (gi v :: _) _ _
    refine gw_i2l at347_7 hv (gw_lw at347_8 o1 o2 (by decide) (by decide) (by decide) (gw_goto at347_9 (gw_const at347_15 (gw_ri at347_16 am_r347.2.1 ?_))))
    exact ⟨T1, c1, J1, Or.inl ⟨v, hR, rfl, rfl⟩⟩
  · have e1 := hE E T1 c1 J1 hR
    subst e1
    refine ⟨fx, ?_⟩
    rw [gm_exc]
    refine gw_as3 at347_12 rfl (gw_const at347_13 (gw_ri at347_14 am_r347.2.1 ?_))
    exact ⟨T1, c1, J1, Or.inr ⟨2, hR, rfl, rfl⟩⟩
set_option maxHeartbeats 1000000 in
theorem w_turn {g H : Nat} {T : gT} {c J : gC} {R : (Int ⊕ Nat) → gT → gC → gC → Prop} {p0 p1 : Int} (e : gE g 110 H [.ref 500000, gi p0, gi p1] (gm T c J) (gP R)) (hE : ∀ E T1 c1 J1, R (.inr E) T1 c1 J1 → E = 2 ∨ E = 1) : gE g 348 (H + 1) [.ref 500000, gi p0, gi p1, .ref 500002] (gm T c J) (gW (fun E => if E = 2 then 1 else 2) R) := by
  refine gE_mk am_r348 rfl (Or.inl rfl) (fun d hd => ?_)
  show gw d g 348 0 [.ref 500000, gi p0, gi p1, .ref 500002, am_U] [] _ _
  refine gw_al3 at348_0 (gw_const at348_1 (gw_al0 at348_2 (gw_il1 at348_3 (gw_il2 at348_4 (?_)))))
  refine gw_call3 at348_5 e (by omega) (Nat.le_of_ble_eq_true rfl) (fun o M1 q => ?_)
  obtain ⟨T1, c1, J1, rfl, ⟨v, rfl, hv, ⟨o1, o2⟩, hR⟩ | ⟨E, rfl, fx, hR⟩⟩ := q
  · show gw _ _ _ _ _ (gi v :: _) _ _
    refine gw_i2l at348_8 hv (gw_lw at348_9 o1 o2 (by decide) (by decide) (by decide) (gw_goto at348_10 (gw_const at348_21 (gw_ri at348_22 am_r348.2.1 ?_))))
    exact ⟨T1, c1, J1, Or.inl ⟨v, hR, rfl, rfl⟩⟩
  · rcases hE E T1 c1 J1 hR with e1 | e1 <;> subst e1
    · refine ⟨fx, ?_⟩
      rw [gm_exc]
      refine gw_as4 at348_13 rfl (gw_const at348_15 (gw_ri at348_16 am_r348.2.1 ?_))
      exact ⟨T1, c1, J1, Or.inr ⟨2, hR, rfl, rfl⟩⟩
    · refine ⟨fx, ?_⟩
      rw [gm_exc]
      refine gw_as4 at348_17 rfl (gw_const at348_19 (gw_ri at348_20 am_r348.2.1 ?_))
      exact ⟨T1, c1, J1, Or.inr ⟨1, hR, rfl, rfl⟩⟩
set_option maxHeartbeats 1000000 in
theorem w_turnCost {g H : Nat} {T : gT} {c J : gC} {R : (Int ⊕ Nat) → gT → gC → gC → Prop} {p0 : Int} (e : gE g 111 H [.ref 500000, gi p0] (gm T c J) (gP R)) (hE : ∀ E T1 c1 J1, R (.inr E) T1 c1 J1 → E = 1) : gE g 349 (H + 1) [.ref 500000, gi p0, .ref 500002] (gm T c J) (gW (fun E => 1) R) := by
  refine gE_mk am_r349 rfl (Or.inl rfl) (fun d hd => ?_)
  show gw d g 349 0 [.ref 500000, gi p0, .ref 500002, am_U] [] _ _
  refine gw_al2 at349_0 (gw_const at349_1 (gw_al0 at349_2 (gw_il1 at349_3 (?_))))
  refine gw_call2 at349_4 e (by omega) (Nat.le_of_ble_eq_true rfl) (fun o M1 q => ?_)
  obtain ⟨T1, c1, J1, rfl, ⟨v, rfl, hv, ⟨o1, o2⟩, hR⟩ | ⟨E, rfl, fx, hR⟩⟩ := q
  · show gw _ _ _ _ _ (gi v :: _) _ _
    refine gw_i2l at349_7 hv (gw_lw at349_8 o1 o2 (by decide) (by decide) (by decide) (gw_goto at349_9 (gw_const at349_15 (gw_ri at349_16 am_r349.2.1 ?_))))
    exact ⟨T1, c1, J1, Or.inl ⟨v, hR, rfl, rfl⟩⟩
  · have e1 := hE E T1 c1 J1 hR
    subst e1
    refine ⟨fx, ?_⟩
    rw [gm_exc]
    refine gw_as3 at349_12 rfl (gw_const at349_13 (gw_ri at349_14 am_r349.2.1 ?_))
    exact ⟨T1, c1, J1, Or.inr ⟨1, hR, rfl, rfl⟩⟩
set_option maxHeartbeats 1000000 in
theorem w_routeCost {g H : Nat} {T : gT} {c J : gC} {R : (Int ⊕ Nat) → gT → gC → gC → Prop} {p0 p1 : Int} (e : gE g 112 H [.ref 500000, gi p0, gi p1] (gm T c J) (gP R)) (hE : ∀ E T1 c1 J1, R (.inr E) T1 c1 J1 → E = 2) : gE g 350 (H + 1) [.ref 500000, gi p0, gi p1, .ref 500002] (gm T c J) (gW (fun E => 1) R) := by
  refine gE_mk am_r350 rfl (Or.inl rfl) (fun d hd => ?_)
  show gw d g 350 0 [.ref 500000, gi p0, gi p1, .ref 500002, am_U] [] _ _
  refine gw_al3 at350_0 (gw_const at350_1 (gw_al0 at350_2 (gw_il1 at350_3 (gw_il2 at350_4 (?_)))))
  refine gw_call3 at350_5 e (by omega) (Nat.le_of_ble_eq_true rfl) (fun o M1 q => ?_)
  obtain ⟨T1, c1, J1, rfl, ⟨v, rfl, hv, ⟨o1, o2⟩, hR⟩ | ⟨E, rfl, fx, hR⟩⟩ := q
  · show gw _ _ _ _ _ (gi v :: _) _ _
    refine gw_i2l at350_8 hv (gw_lw at350_9 o1 o2 (by decide) (by decide) (by decide) (gw_goto at350_10 (gw_const at350_17 (gw_ri at350_18 am_r350.2.1 ?_))))
    exact ⟨T1, c1, J1, Or.inl ⟨v, hR, rfl, rfl⟩⟩
  · have e1 := hE E T1 c1 J1 hR
    subst e1
    refine ⟨fx, ?_⟩
    rw [gm_exc]
    refine gw_as4 at350_13 rfl (gw_const at350_15 (gw_ri at350_16 am_r350.2.1 ?_))
    exact ⟨T1, c1, J1, Or.inr ⟨2, hR, rfl, rfl⟩⟩
set_option maxHeartbeats 1000000 in
theorem w_pathCost {g H : Nat} {T : gT} {c J : gC} {R : (Int ⊕ Nat) → gT → gC → gC → Prop} {p0 p1 : Int} (e : gE g 113 H [.ref 500000, gi p0, gi p1] (gm T c J) (gP R)) (hE : ∀ E T1 c1 J1, R (.inr E) T1 c1 J1 → E = 2) : gE g 351 (H + 1) [.ref 500000, gi p0, gi p1, .ref 500002] (gm T c J) (gW (fun E => 1) R) := by
  refine gE_mk am_r351 rfl (Or.inl rfl) (fun d hd => ?_)
  show gw d g 351 0 [.ref 500000, gi p0, gi p1, .ref 500002, am_U] [] _ _
  refine gw_al3 at351_0 (gw_const at351_1 (gw_al0 at351_2 (gw_il1 at351_3 (gw_il2 at351_4 (?_)))))
  refine gw_call3 at351_5 e (by omega) (Nat.le_of_ble_eq_true rfl) (fun o M1 q => ?_)
  obtain ⟨T1, c1, J1, rfl, ⟨v, rfl, hv, ⟨o1, o2⟩, hR⟩ | ⟨E, rfl, fx, hR⟩⟩ := q
  · show gw _ _ _ _ _ (gi v :: _) _ _
    refine gw_i2l at351_8 hv (gw_lw at351_9 o1 o2 (by decide) (by decide) (by decide) (gw_goto at351_10 (gw_const at351_17 (gw_ri at351_18 am_r351.2.1 ?_))))
    exact ⟨T1, c1, J1, Or.inl ⟨v, hR, rfl, rfl⟩⟩
  · have e1 := hE E T1 c1 J1 hR
    subst e1
    refine ⟨fx, ?_⟩
    rw [gm_exc]
    refine gw_as4 at351_13 rfl (gw_const at351_15 (gw_ri at351_16 am_r351.2.1 ?_))
    exact ⟨T1, c1, J1, Or.inr ⟨2, hR, rfl, rfl⟩⟩
set_option maxHeartbeats 1000000 in
theorem w_pathArc {g H : Nat} {T : gT} {c J : gC} {R : (Int ⊕ Nat) → gT → gC → gC → Prop} {p0 p1 p2 : Int} (e : gE g 114 H [.ref 500000, gi p0, gi p1, gi p2] (gm T c J) (gP R)) (hE : ∀ E T1 c1 J1, R (.inr E) T1 c1 J1 → E = 2 ∨ E = 3) : gE g 352 (H + 1) [.ref 500000, gi p0, gi p1, gi p2, .ref 500002] (gm T c J) (gW (fun E => if E = 2 then 1 else 2) R) := by
  refine gE_mk am_r352 rfl (Or.inl rfl) (fun d hd => ?_)
  show gw d g 352 0 [.ref 500000, gi p0, gi p1, gi p2, .ref 500002, am_U] [] _ _
  refine gw_al4 at352_0 (gw_const at352_2 (gw_al0 at352_3 (gw_il1 at352_4 (gw_il2 at352_5 (gw_il3 at352_6 (?_))))))
  refine gw_call4 at352_7 e (by omega) (Nat.le_of_ble_eq_true rfl) (fun o M1 q => ?_)
  obtain ⟨T1, c1, J1, rfl, ⟨v, rfl, hv, ⟨o1, o2⟩, hR⟩ | ⟨E, rfl, fx, hR⟩⟩ := q
  · show gw _ _ _ _ _ (gi v :: _) _ _
    refine gw_i2l at352_10 hv (gw_lw at352_11 o1 o2 (by decide) (by decide) (by decide) (gw_goto at352_12 (gw_const at352_23 (gw_ri at352_24 am_r352.2.1 ?_))))
    exact ⟨T1, c1, J1, Or.inl ⟨v, hR, rfl, rfl⟩⟩
  · rcases hE E T1 c1 J1 hR with e1 | e1 <;> subst e1
    · refine ⟨fx, ?_⟩
      rw [gm_exc]
      refine gw_as5 at352_15 rfl (gw_const at352_17 (gw_ri at352_18 am_r352.2.1 ?_))
      exact ⟨T1, c1, J1, Or.inr ⟨2, hR, rfl, rfl⟩⟩
    · refine ⟨fx, ?_⟩
      rw [gm_exc]
      refine gw_as5 at352_19 rfl (gw_const at352_21 (gw_ri at352_22 am_r352.2.1 ?_))
      exact ⟨T1, c1, J1, Or.inr ⟨3, hR, rfl, rfl⟩⟩
set_option maxHeartbeats 1000000 in
theorem w_reachable {g H : Nat} {T : gT} {c J : gC} {R : (Int ⊕ Nat) → gT → gC → gC → Prop} {p0 : Int} (e : gE g 115 H [.ref 500000, gi p0] (gm T c J) (gP R)) (hE : ∀ E T1 c1 J1, R (.inr E) T1 c1 J1 → E = 2) : gE g 353 (H + 1) [.ref 500000, gi p0, .ref 500002] (gm T c J) (gW (fun E => 1) R) := by
  refine gE_mk am_r353 rfl (Or.inl rfl) (fun d hd => ?_)
  show gw d g 353 0 [.ref 500000, gi p0, .ref 500002, am_U] [] _ _
  refine gw_al2 at353_0 (gw_const at353_1 (gw_al0 at353_2 (gw_il1 at353_3 (?_))))
  refine gw_call2 at353_4 e (by omega) (Nat.le_of_ble_eq_true rfl) (fun o M1 q => ?_)
  obtain ⟨T1, c1, J1, rfl, ⟨v, rfl, hv, ⟨o1, o2⟩, hR⟩ | ⟨E, rfl, fx, hR⟩⟩ := q
  · show gw _ _ _ _ _ (gi v :: _) _ _
    refine gw_i2l at353_7 hv (gw_lw at353_8 o1 o2 (by decide) (by decide) (by decide) (gw_goto at353_9 (gw_const at353_15 (gw_ri at353_16 am_r353.2.1 ?_))))
    exact ⟨T1, c1, J1, Or.inl ⟨v, hR, rfl, rfl⟩⟩
  · have e1 := hE E T1 c1 J1 hR
    subst e1
    refine ⟨fx, ?_⟩
    rw [gm_exc]
    refine gw_as3 at353_12 rfl (gw_const at353_13 (gw_ri at353_14 am_r353.2.1 ?_))
    exact ⟨T1, c1, J1, Or.inr ⟨2, hR, rfl, rfl⟩⟩
set_option maxHeartbeats 1000000 in
theorem w_imbalance {g H : Nat} {T : gT} {c J : gC} {R : (Int ⊕ Nat) → gT → gC → gC → Prop} {p0 : Int} (e : gE g 117 H [.ref 500000, gi p0] (gm T c J) (gP R)) (hE : ∀ E T1 c1 J1, R (.inr E) T1 c1 J1 → E = 2) : gE g 354 (H + 1) [.ref 500000, gi p0, .ref 500002] (gm T c J) (gW (fun E => 1) R) := by
  refine gE_mk am_r354 rfl (Or.inl rfl) (fun d hd => ?_)
  show gw d g 354 0 [.ref 500000, gi p0, .ref 500002, am_U] [] _ _
  refine gw_al2 at354_0 (gw_const at354_1 (gw_al0 at354_2 (gw_il1 at354_3 (?_))))
  refine gw_call2 at354_4 e (by omega) (Nat.le_of_ble_eq_true rfl) (fun o M1 q => ?_)
  obtain ⟨T1, c1, J1, rfl, ⟨v, rfl, hv, ⟨o1, o2⟩, hR⟩ | ⟨E, rfl, fx, hR⟩⟩ := q
  · show gw _ _ _ _ _ (gi v :: _) _ _
    refine gw_i2l at354_7 hv (gw_lw at354_8 o1 o2 (by decide) (by decide) (by decide) (gw_goto at354_9 (gw_const at354_15 (gw_ri at354_16 am_r354.2.1 ?_))))
    exact ⟨T1, c1, J1, Or.inl ⟨v, hR, rfl, rfl⟩⟩
  · have e1 := hE E T1 c1 J1 hR
    subst e1
    refine ⟨fx, ?_⟩
    rw [gm_exc]
    refine gw_as3 at354_12 rfl (gw_const at354_13 (gw_ri at354_14 am_r354.2.1 ?_))
    exact ⟨T1, c1, J1, Or.inr ⟨2, hR, rfl, rfl⟩⟩
set_option maxHeartbeats 1000000 in
theorem w_requiredArcs {g H : Nat} {T : gT} {c J : gC} {R : (Int ⊕ Nat) → gT → gC → gC → Prop} {p0 : Int} (e : gE g 122 H [.ref 500000, gi p0] (gm T c J) (gP R)) (hE : ∀ E T1 c1 J1, R (.inr E) T1 c1 J1 → E = 1) : gE g 355 (H + 1) [.ref 500000, gi p0, .ref 500002] (gm T c J) (gW (fun E => 1) R) := by
  refine gE_mk am_r355 rfl (Or.inl rfl) (fun d hd => ?_)
  show gw d g 355 0 [.ref 500000, gi p0, .ref 500002, am_U] [] _ _
  refine gw_al2 at355_0 (gw_const at355_1 (gw_al0 at355_2 (gw_il1 at355_3 (?_))))
  refine gw_call2 at355_4 e (by omega) (Nat.le_of_ble_eq_true rfl) (fun o M1 q => ?_)
  obtain ⟨T1, c1, J1, rfl, ⟨v, rfl, hv, ⟨o1, o2⟩, hR⟩ | ⟨E, rfl, fx, hR⟩⟩ := q
  · show gw _ _ _ _ _ (gi v :: _) _ _
    refine gw_i2l at355_7 hv (gw_lw at355_8 o1 o2 (by decide) (by decide) (by decide) (gw_goto at355_9 (gw_const at355_15 (gw_ri at355_16 am_r355.2.1 ?_))))
    exact ⟨T1, c1, J1, Or.inl ⟨v, hR, rfl, rfl⟩⟩
  · have e1 := hE E T1 c1 J1 hR
    subst e1
    refine ⟨fx, ?_⟩
    rw [gm_exc]
    refine gw_as3 at355_12 rfl (gw_const at355_13 (gw_ri at355_14 am_r355.2.1 ?_))
    exact ⟨T1, c1, J1, Or.inr ⟨1, hR, rfl, rfl⟩⟩
set_option maxHeartbeats 1000000 in
theorem w_planCost {g H : Nat} {T : gT} {c J : gC} {R : (Int ⊕ Nat) → gT → gC → gC → Prop} {p0 : Int} (e : gE g 123 H [.ref 500000, gi p0] (gm T c J) (gP R)) (hE : ∀ E T1 c1 J1, R (.inr E) T1 c1 J1 → E = 1 ∨ E = 0) : gE g 356 (H + 1) [.ref 500000, gi p0, .ref 500002] (gm T c J) (gW (fun E => if E = 1 then 1 else 2) R) := by
  refine gE_mk am_r356 rfl (Or.inl rfl) (fun d hd => ?_)
  show gw d g 356 0 [.ref 500000, gi p0, .ref 500002, am_U] [] _ _
  refine gw_al2 at356_0 (gw_const at356_1 (gw_al0 at356_2 (gw_il1 at356_3 (?_))))
  refine gw_call2 at356_4 e (by omega) (Nat.le_of_ble_eq_true rfl) (fun o M1 q => ?_)
  obtain ⟨T1, c1, J1, rfl, ⟨v, rfl, hv, ⟨o1, o2⟩, hR⟩ | ⟨E, rfl, fx, hR⟩⟩ := q
  · show gw _ _ _ _ _ (gi v :: _) _ _
    refine gw_i2l at356_7 hv (gw_lw at356_8 o1 o2 (by decide) (by decide) (by decide) (gw_goto at356_9 (gw_const at356_18 (gw_ri at356_19 am_r356.2.1 ?_))))
    exact ⟨T1, c1, J1, Or.inl ⟨v, hR, rfl, rfl⟩⟩
  · rcases hE E T1 c1 J1 hR with e1 | e1 <;> subst e1
    · refine ⟨fx, ?_⟩
      rw [gm_exc]
      refine gw_as3 at356_12 rfl (gw_const at356_13 (gw_ri at356_14 am_r356.2.1 ?_))
      exact ⟨T1, c1, J1, Or.inr ⟨1, hR, rfl, rfl⟩⟩
    · refine ⟨fx, ?_⟩
      rw [gm_exc]
      refine gw_as3 at356_15 rfl (gw_const at356_16 (gw_ri at356_17 am_r356.2.1 ?_))
      exact ⟨T1, c1, J1, Or.inr ⟨0, hR, rfl, rfl⟩⟩
set_option maxHeartbeats 1000000 in
theorem w_planArc {g H : Nat} {T : gT} {c J : gC} {R : (Int ⊕ Nat) → gT → gC → gC → Prop} {p0 p1 : Int} (e : gE g 124 H [.ref 500000, gi p0, gi p1] (gm T c J) (gP R)) (hE : ∀ E T1 c1 J1, R (.inr E) T1 c1 J1 → E = 1 ∨ E = 0 ∨ E = 3) : gE g 357 (H + 1) [.ref 500000, gi p0, gi p1, .ref 500002] (gm T c J) (gW (fun E => if E = 1 then 1 else if E = 0 then 2 else 3) R) := by
  refine gE_mk am_r357 rfl (Or.inl rfl) (fun d hd => ?_)
  show gw d g 357 0 [.ref 500000, gi p0, gi p1, .ref 500002, am_U] [] _ _
  refine gw_al3 at357_0 (gw_const at357_1 (gw_al0 at357_2 (gw_il1 at357_3 (gw_il2 at357_4 (?_)))))
  refine gw_call3 at357_5 e (by omega) (Nat.le_of_ble_eq_true rfl) (fun o M1 q => ?_)
  obtain ⟨T1, c1, J1, rfl, ⟨v, rfl, hv, ⟨o1, o2⟩, hR⟩ | ⟨E, rfl, fx, hR⟩⟩ := q
  · show gw _ _ _ _ _ (gi v :: _) _ _
    refine gw_i2l at357_8 hv (gw_lw at357_9 o1 o2 (by decide) (by decide) (by decide) (gw_goto at357_10 (gw_const at357_25 (gw_ri at357_26 am_r357.2.1 ?_))))
    exact ⟨T1, c1, J1, Or.inl ⟨v, hR, rfl, rfl⟩⟩
  · rcases hE E T1 c1 J1 hR with e1 | e1 | e1 <;> subst e1
    · refine ⟨fx, ?_⟩
      rw [gm_exc]
      refine gw_as4 at357_13 rfl (gw_const at357_15 (gw_ri at357_16 am_r357.2.1 ?_))
      exact ⟨T1, c1, J1, Or.inr ⟨1, hR, rfl, rfl⟩⟩
    · refine ⟨fx, ?_⟩
      rw [gm_exc]
      refine gw_as4 at357_17 rfl (gw_const at357_19 (gw_ri at357_20 am_r357.2.1 ?_))
      exact ⟨T1, c1, J1, Or.inr ⟨0, hR, rfl, rfl⟩⟩
    · refine ⟨fx, ?_⟩
      rw [gm_exc]
      refine gw_as4 at357_21 rfl (gw_const at357_23 (gw_ri at357_24 am_r357.2.1 ?_))
      exact ⟨T1, c1, J1, Or.inr ⟨3, hR, rfl, rfl⟩⟩
set_option maxHeartbeats 1000000 in
theorem w_greedyTour {g H : Nat} {T : gT} {c J : gC} {R : (Int ⊕ Nat) → gT → gC → gC → Prop} {p0 : Int} (e : gE g 125 H [.ref 500000, gi p0] (gm T c J) (gP R)) (hE : ∀ E T1 c1 J1, R (.inr E) T1 c1 J1 → E = 1) : gE g 358 (H + 1) [.ref 500000, gi p0, .ref 500002] (gm T c J) (gW (fun E => 1) R) := by
  refine gE_mk am_r358 rfl (Or.inl rfl) (fun d hd => ?_)
  show gw d g 358 0 [.ref 500000, gi p0, .ref 500002, am_U] [] _ _
  refine gw_al2 at358_0 (gw_const at358_1 (gw_al0 at358_2 (gw_il1 at358_3 (?_))))
  refine gw_call2 at358_4 e (by omega) (Nat.le_of_ble_eq_true rfl) (fun o M1 q => ?_)
  obtain ⟨T1, c1, J1, rfl, ⟨v, rfl, hv, ⟨o1, o2⟩, hR⟩ | ⟨E, rfl, fx, hR⟩⟩ := q
  · show gw _ _ _ _ _ (gi v :: _) _ _
    refine gw_i2l at358_7 hv (gw_lw at358_8 o1 o2 (by decide) (by decide) (by decide) (gw_goto at358_9 (gw_const at358_15 (gw_ri at358_16 am_r358.2.1 ?_))))
    exact ⟨T1, c1, J1, Or.inl ⟨v, hR, rfl, rfl⟩⟩
  · have e1 := hE E T1 c1 J1 hR
    subst e1
    refine ⟨fx, ?_⟩
    rw [gm_exc]
    refine gw_as3 at358_12 rfl (gw_const at358_13 (gw_ri at358_14 am_r358.2.1 ?_))
    exact ⟨T1, c1, J1, Or.inr ⟨1, hR, rfl, rfl⟩⟩
set_option maxHeartbeats 1000000 in
theorem w_planOverhead {g H : Nat} {T : gT} {c J : gC} {R : (Int ⊕ Nat) → gT → gC → gC → Prop} {p0 : Int} (e : gE g 126 H [.ref 500000, gi p0] (gm T c J) (gP R)) (hE : ∀ E T1 c1 J1, R (.inr E) T1 c1 J1 → E = 1 ∨ E = 0) : gE g 359 (H + 1) [.ref 500000, gi p0, .ref 500002] (gm T c J) (gW (fun E => if E = 1 then 1 else 2) R) := by
  refine gE_mk am_r359 rfl (Or.inl rfl) (fun d hd => ?_)
  show gw d g 359 0 [.ref 500000, gi p0, .ref 500002, am_U] [] _ _
  refine gw_al2 at359_0 (gw_const at359_1 (gw_al0 at359_2 (gw_il1 at359_3 (?_))))
  refine gw_call2 at359_4 e (by omega) (Nat.le_of_ble_eq_true rfl) (fun o M1 q => ?_)
  obtain ⟨T1, c1, J1, rfl, ⟨v, rfl, hv, ⟨o1, o2⟩, hR⟩ | ⟨E, rfl, fx, hR⟩⟩ := q
  · show gw _ _ _ _ _ (gi v :: _) _ _
    refine gw_i2l at359_7 hv (gw_lw at359_8 o1 o2 (by decide) (by decide) (by decide) (gw_goto at359_9 (gw_const at359_18 (gw_ri at359_19 am_r359.2.1 ?_))))
    exact ⟨T1, c1, J1, Or.inl ⟨v, hR, rfl, rfl⟩⟩
  · rcases hE E T1 c1 J1 hR with e1 | e1 <;> subst e1
    · refine ⟨fx, ?_⟩
      rw [gm_exc]
      refine gw_as3 at359_12 rfl (gw_const at359_13 (gw_ri at359_14 am_r359.2.1 ?_))
      exact ⟨T1, c1, J1, Or.inr ⟨1, hR, rfl, rfl⟩⟩
    · refine ⟨fx, ?_⟩
      rw [gm_exc]
      refine gw_as3 at359_15 rfl (gw_const at359_16 (gw_ri at359_17 am_r359.2.1 ?_))
      exact ⟨T1, c1, J1, Or.inr ⟨0, hR, rfl, rfl⟩⟩
set_option maxHeartbeats 1000000 in
theorem w_depth {g H : Nat} {T : gT} {c J : gC} {R : (Int ⊕ Nat) → gT → gC → gC → Prop} {p0 : Int} (e : gE g 132 H [.ref 500000, gi p0] (gm T c J) (gP R)) (hE : ∀ E T1 c1 J1, R (.inr E) T1 c1 J1 → E = 2) : gE g 360 (H + 1) [.ref 500000, gi p0, .ref 500002] (gm T c J) (gW (fun E => 1) R) := by
  refine gE_mk am_r360 rfl (Or.inl rfl) (fun d hd => ?_)
  show gw d g 360 0 [.ref 500000, gi p0, .ref 500002, am_U] [] _ _
  refine gw_al2 at360_0 (gw_const at360_1 (gw_al0 at360_2 (gw_il1 at360_3 (?_))))
  refine gw_call2 at360_4 e (by omega) (Nat.le_of_ble_eq_true rfl) (fun o M1 q => ?_)
  obtain ⟨T1, c1, J1, rfl, ⟨v, rfl, hv, ⟨o1, o2⟩, hR⟩ | ⟨E, rfl, fx, hR⟩⟩ := q
  · show gw _ _ _ _ _ (gi v :: _) _ _
    refine gw_i2l at360_7 hv (gw_lw at360_8 o1 o2 (by decide) (by decide) (by decide) (gw_goto at360_9 (gw_const at360_15 (gw_ri at360_16 am_r360.2.1 ?_))))
    exact ⟨T1, c1, J1, Or.inl ⟨v, hR, rfl, rfl⟩⟩
  · have e1 := hE E T1 c1 J1 hR
    subst e1
    refine ⟨fx, ?_⟩
    rw [gm_exc]
    refine gw_as3 at360_12 rfl (gw_const at360_13 (gw_ri at360_14 am_r360.2.1 ?_))
    exact ⟨T1, c1, J1, Or.inr ⟨2, hR, rfl, rfl⟩⟩
set_option maxHeartbeats 1000000 in
theorem w_deepestArc {g H : Nat} {T : gT} {c J : gC} {R : (Int ⊕ Nat) → gT → gC → gC → Prop} {p0 : Int} (e : gE g 133 H [.ref 500000, gi p0] (gm T c J) (gP R)) (hE : ∀ E T1 c1 J1, R (.inr E) T1 c1 J1 → E = 1) : gE g 361 (H + 1) [.ref 500000, gi p0, .ref 500002] (gm T c J) (gW (fun E => 1) R) := by
  refine gE_mk am_r361 rfl (Or.inl rfl) (fun d hd => ?_)
  show gw d g 361 0 [.ref 500000, gi p0, .ref 500002, am_U] [] _ _
  refine gw_al2 at361_0 (gw_const at361_1 (gw_al0 at361_2 (gw_il1 at361_3 (?_))))
  refine gw_call2 at361_4 e (by omega) (Nat.le_of_ble_eq_true rfl) (fun o M1 q => ?_)
  obtain ⟨T1, c1, J1, rfl, ⟨v, rfl, hv, ⟨o1, o2⟩, hR⟩ | ⟨E, rfl, fx, hR⟩⟩ := q
  · show gw _ _ _ _ _ (gi v :: _) _ _
    refine gw_i2l at361_7 hv (gw_lw at361_8 o1 o2 (by decide) (by decide) (by decide) (gw_goto at361_9 (gw_const at361_15 (gw_ri at361_16 am_r361.2.1 ?_))))
    exact ⟨T1, c1, J1, Or.inl ⟨v, hR, rfl, rfl⟩⟩
  · have e1 := hE E T1 c1 J1 hR
    subst e1
    refine ⟨fx, ?_⟩
    rw [gm_exc]
    refine gw_as3 at361_12 rfl (gw_const at361_13 (gw_ri at361_14 am_r361.2.1 ?_))
    exact ⟨T1, c1, J1, Or.inr ⟨1, hR, rfl, rfl⟩⟩
set_option maxHeartbeats 1000000 in
theorem w_deepArcs {g H : Nat} {T : gT} {c J : gC} {R : (Int ⊕ Nat) → gT → gC → gC → Prop} {p0 : Int} (e : gE g 134 H [.ref 500000, gi p0] (gm T c J) (gP R)) (hE : ∀ E T1 c1 J1, R (.inr E) T1 c1 J1 → E = 1) : gE g 362 (H + 1) [.ref 500000, gi p0, .ref 500002] (gm T c J) (gW (fun E => 1) R) := by
  refine gE_mk am_r362 rfl (Or.inl rfl) (fun d hd => ?_)
  show gw d g 362 0 [.ref 500000, gi p0, .ref 500002, am_U] [] _ _
  refine gw_al2 at362_0 (gw_const at362_1 (gw_al0 at362_2 (gw_il1 at362_3 (?_))))
  refine gw_call2 at362_4 e (by omega) (Nat.le_of_ble_eq_true rfl) (fun o M1 q => ?_)
  obtain ⟨T1, c1, J1, rfl, ⟨v, rfl, hv, ⟨o1, o2⟩, hR⟩ | ⟨E, rfl, fx, hR⟩⟩ := q
  · show gw _ _ _ _ _ (gi v :: _) _ _
    refine gw_i2l at362_7 hv (gw_lw at362_8 o1 o2 (by decide) (by decide) (by decide) (gw_goto at362_9 (gw_const at362_15 (gw_ri at362_16 am_r362.2.1 ?_))))
    exact ⟨T1, c1, J1, Or.inl ⟨v, hR, rfl, rfl⟩⟩
  · have e1 := hE E T1 c1 J1 hR
    subst e1
    refine ⟨fx, ?_⟩
    rw [gm_exc]
    refine gw_as3 at362_12 rfl (gw_const at362_13 (gw_ri at362_14 am_r362.2.1 ?_))
    exact ⟨T1, c1, J1, Or.inr ⟨1, hR, rfl, rfl⟩⟩
set_option maxHeartbeats 1000000 in
theorem w_secondsToDepth {g H : Nat} {T : gT} {c J : gC} {R : (Int ⊕ Nat) → gT → gC → gC → Prop} {p0 p1 : Int} (e : gE g 136 H [.ref 500000, gi p0, gi p1] (gm T c J) (gP R)) (hE : ∀ E T1 c1 J1, R (.inr E) T1 c1 J1 → E = 2 ∨ E = 1) : gE g 363 (H + 1) [.ref 500000, gi p0, gi p1, .ref 500002] (gm T c J) (gW (fun E => if E = 2 then 1 else 2) R) := by
  refine gE_mk am_r363 rfl (Or.inl rfl) (fun d hd => ?_)
  show gw d g 363 0 [.ref 500000, gi p0, gi p1, .ref 500002, am_U] [] _ _
  refine gw_al3 at363_0 (gw_const at363_1 (gw_al0 at363_2 (gw_il1 at363_3 (gw_il2 at363_4 (?_)))))
  refine gw_call3 at363_5 e (by omega) (Nat.le_of_ble_eq_true rfl) (fun o M1 q => ?_)
  obtain ⟨T1, c1, J1, rfl, ⟨v, rfl, hv, ⟨o1, o2⟩, hR⟩ | ⟨E, rfl, fx, hR⟩⟩ := q
  · show gw _ _ _ _ _ (gi v :: _) _ _
    refine gw_i2l at363_8 hv (gw_lw at363_9 o1 o2 (by decide) (by decide) (by decide) (gw_goto at363_10 (gw_const at363_21 (gw_ri at363_22 am_r363.2.1 ?_))))
    exact ⟨T1, c1, J1, Or.inl ⟨v, hR, rfl, rfl⟩⟩
  · rcases hE E T1 c1 J1 hR with e1 | e1 <;> subst e1
    · refine ⟨fx, ?_⟩
      rw [gm_exc]
      refine gw_as4 at363_13 rfl (gw_const at363_15 (gw_ri at363_16 am_r363.2.1 ?_))
      exact ⟨T1, c1, J1, Or.inr ⟨2, hR, rfl, rfl⟩⟩
    · refine ⟨fx, ?_⟩
      rw [gm_exc]
      refine gw_as4 at363_17 rfl (gw_const at363_19 (gw_ri at363_20 am_r363.2.1 ?_))
      exact ⟨T1, c1, J1, Or.inr ⟨1, hR, rfl, rfl⟩⟩
set_option maxHeartbeats 1000000 in
theorem w_driveTime {g H : Nat} {T : gT} {c J : gC} {R : (Int ⊕ Nat) → gT → gC → gC → Prop} {p0 : Int} (e : gE g 145 H [.ref 500000, gi p0] (gm T c J) (gP R)) (hE : ∀ E T1 c1 J1, R (.inr E) T1 c1 J1 → E = 2 ∨ E = 0) : gE g 364 (H + 1) [.ref 500000, gi p0, .ref 500002] (gm T c J) (gW (fun E => if E = 2 then 1 else 2) R) := by
  refine gE_mk am_r364 rfl (Or.inl rfl) (fun d hd => ?_)
  show gw d g 364 0 [.ref 500000, gi p0, .ref 500002, am_U] [] _ _
  refine gw_al2 at364_0 (gw_const at364_1 (gw_al0 at364_2 (gw_il1 at364_3 (?_))))
  refine gw_call2 at364_4 e (by omega) (Nat.le_of_ble_eq_true rfl) (fun o M1 q => ?_)
  obtain ⟨T1, c1, J1, rfl, ⟨v, rfl, hv, ⟨o1, o2⟩, hR⟩ | ⟨E, rfl, fx, hR⟩⟩ := q
  · show gw _ _ _ _ _ (gi v :: _) _ _
    refine gw_i2l at364_7 hv (gw_lw at364_8 o1 o2 (by decide) (by decide) (by decide) (gw_goto at364_9 (gw_const at364_18 (gw_ri at364_19 am_r364.2.1 ?_))))
    exact ⟨T1, c1, J1, Or.inl ⟨v, hR, rfl, rfl⟩⟩
  · rcases hE E T1 c1 J1 hR with e1 | e1 <;> subst e1
    · refine ⟨fx, ?_⟩
      rw [gm_exc]
      refine gw_as3 at364_12 rfl (gw_const at364_13 (gw_ri at364_14 am_r364.2.1 ?_))
      exact ⟨T1, c1, J1, Or.inr ⟨2, hR, rfl, rfl⟩⟩
    · refine ⟨fx, ?_⟩
      rw [gm_exc]
      refine gw_as3 at364_15 rfl (gw_const at364_16 (gw_ri at364_17 am_r364.2.1 ?_))
      exact ⟨T1, c1, J1, Or.inr ⟨0, hR, rfl, rfl⟩⟩
set_option maxHeartbeats 1000000 in
theorem w_drive {g H : Nat} {T : gT} {c J : gC} {R : (Int ⊕ Nat) → gT → gC → gC → Prop} {p0 p1 : Int} (e : gE g 146 H [.ref 500000, gi p0, gi p1] (gm T c J) (gP R)) (hE : ∀ E T1 c1 J1, R (.inr E) T1 c1 J1 → E = 2 ∨ E = 0) : gE g 365 (H + 1) [.ref 500000, gi p0, gi p1, .ref 500002] (gm T c J) (gW (fun E => if E = 2 then 1 else 2) R) := by
  refine gE_mk am_r365 rfl (Or.inl rfl) (fun d hd => ?_)
  show gw d g 365 0 [.ref 500000, gi p0, gi p1, .ref 500002, am_U] [] _ _
  refine gw_al3 at365_0 (gw_const at365_1 (gw_al0 at365_2 (gw_il1 at365_3 (gw_il2 at365_4 (?_)))))
  refine gw_call3 at365_5 e (by omega) (Nat.le_of_ble_eq_true rfl) (fun o M1 q => ?_)
  obtain ⟨T1, c1, J1, rfl, ⟨v, rfl, hv, ⟨o1, o2⟩, hR⟩ | ⟨E, rfl, fx, hR⟩⟩ := q
  · show gw _ _ _ _ _ (gi v :: _) _ _
    refine gw_i2l at365_8 hv (gw_lw at365_9 o1 o2 (by decide) (by decide) (by decide) (gw_goto at365_10 (gw_const at365_21 (gw_ri at365_22 am_r365.2.1 ?_))))
    exact ⟨T1, c1, J1, Or.inl ⟨v, hR, rfl, rfl⟩⟩
  · rcases hE E T1 c1 J1 hR with e1 | e1 <;> subst e1
    · refine ⟨fx, ?_⟩
      rw [gm_exc]
      refine gw_as4 at365_13 rfl (gw_const at365_15 (gw_ri at365_16 am_r365.2.1 ?_))
      exact ⟨T1, c1, J1, Or.inr ⟨2, hR, rfl, rfl⟩⟩
    · refine ⟨fx, ?_⟩
      rw [gm_exc]
      refine gw_as4 at365_17 rfl (gw_const at365_19 (gw_ri at365_20 am_r365.2.1 ?_))
      exact ⟨T1, c1, J1, Or.inr ⟨0, hR, rfl, rfl⟩⟩
set_option maxHeartbeats 1000000 in
theorem w_driveTo {g H : Nat} {T : gT} {c J : gC} {R : (Int ⊕ Nat) → gT → gC → gC → Prop} {p0 p1 : Int} (e : gE g 147 H [.ref 500000, gi p0, gi p1] (gm T c J) (gP R)) (hE : ∀ E T1 c1 J1, R (.inr E) T1 c1 J1 → E = 2 ∨ E = 3) : gE g 366 (H + 1) [.ref 500000, gi p0, gi p1, .ref 500002] (gm T c J) (gW (fun E => if E = 2 then 1 else 2) R) := by
  refine gE_mk am_r366 rfl (Or.inl rfl) (fun d hd => ?_)
  show gw d g 366 0 [.ref 500000, gi p0, gi p1, .ref 500002, am_U] [] _ _
  refine gw_al3 at366_0 (gw_const at366_1 (gw_al0 at366_2 (gw_il1 at366_3 (gw_il2 at366_4 (?_)))))
  refine gw_call3 at366_5 e (by omega) (Nat.le_of_ble_eq_true rfl) (fun o M1 q => ?_)
  obtain ⟨T1, c1, J1, rfl, ⟨v, rfl, hv, ⟨o1, o2⟩, hR⟩ | ⟨E, rfl, fx, hR⟩⟩ := q
  · show gw _ _ _ _ _ (gi v :: _) _ _
    refine gw_i2l at366_8 hv (gw_lw at366_9 o1 o2 (by decide) (by decide) (by decide) (gw_goto at366_10 (gw_const at366_21 (gw_ri at366_22 am_r366.2.1 ?_))))
    exact ⟨T1, c1, J1, Or.inl ⟨v, hR, rfl, rfl⟩⟩
  · rcases hE E T1 c1 J1 hR with e1 | e1 <;> subst e1
    · refine ⟨fx, ?_⟩
      rw [gm_exc]
      refine gw_as4 at366_13 rfl (gw_const at366_15 (gw_ri at366_16 am_r366.2.1 ?_))
      exact ⟨T1, c1, J1, Or.inr ⟨2, hR, rfl, rfl⟩⟩
    · refine ⟨fx, ?_⟩
      rw [gm_exc]
      refine gw_as4 at366_17 rfl (gw_const at366_19 (gw_ri at366_20 am_r366.2.1 ?_))
      exact ⟨T1, c1, J1, Or.inr ⟨3, hR, rfl, rfl⟩⟩
set_option maxHeartbeats 1000000 in
theorem w_waitFor {g H : Nat} {T : gT} {c J : gC} {R : (Int ⊕ Nat) → gT → gC → gC → Prop} {p0 : Int} (e : gE g 149 H [.ref 500000, gi p0] (gm T c J) (gP R)) (hE : ∀ E T1 c1 J1, R (.inr E) T1 c1 J1 → E = 1 ∨ E = 0) : gE g 367 (H + 1) [.ref 500000, gi p0, .ref 500002] (gm T c J) (gW (fun E => if E = 1 then 1 else 2) R) := by
  refine gE_mk am_r367 rfl (Or.inl rfl) (fun d hd => ?_)
  show gw d g 367 0 [.ref 500000, gi p0, .ref 500002, am_U] [] _ _
  refine gw_al2 at367_0 (gw_const at367_1 (gw_al0 at367_2 (gw_il1 at367_3 (?_))))
  refine gw_call2 at367_4 e (by omega) (Nat.le_of_ble_eq_true rfl) (fun o M1 q => ?_)
  obtain ⟨T1, c1, J1, rfl, ⟨v, rfl, hv, ⟨o1, o2⟩, hR⟩ | ⟨E, rfl, fx, hR⟩⟩ := q
  · show gw _ _ _ _ _ (gi v :: _) _ _
    refine gw_i2l at367_7 hv (gw_lw at367_8 o1 o2 (by decide) (by decide) (by decide) (gw_goto at367_9 (gw_const at367_18 (gw_ri at367_19 am_r367.2.1 ?_))))
    exact ⟨T1, c1, J1, Or.inl ⟨v, hR, rfl, rfl⟩⟩
  · rcases hE E T1 c1 J1 hR with e1 | e1 <;> subst e1
    · refine ⟨fx, ?_⟩
      rw [gm_exc]
      refine gw_as3 at367_12 rfl (gw_const at367_13 (gw_ri at367_14 am_r367.2.1 ?_))
      exact ⟨T1, c1, J1, Or.inr ⟨1, hR, rfl, rfl⟩⟩
    · refine ⟨fx, ?_⟩
      rw [gm_exc]
      refine gw_as3 at367_15 rfl (gw_const at367_16 (gw_ri at367_17 am_r367.2.1 ?_))
      exact ⟨T1, c1, J1, Or.inr ⟨0, hR, rfl, rfl⟩⟩
set_option maxHeartbeats 1000000 in
theorem w_refill {g H : Nat} {T : gT} {c J : gC} {R : (Int ⊕ Nat) → gT → gC → gC → Prop} (e : gE g 150 H [.ref 500000] (gm T c J) (gP R)) (hE : ∀ E T1 c1 J1, R (.inr E) T1 c1 J1 → E = 0) : gE g 368 (H + 1) [.ref 500000, .ref 500002] (gm T c J) (gW (fun E => 1) R) := by
  refine gE_mk am_r368 rfl (Or.inl rfl) (fun d hd => ?_)
  show gw d g 368 0 [.ref 500000, .ref 500002, am_U] [] _ _
  refine gw_al1 at368_0 (gw_const at368_1 (gw_al0 at368_2 (?_)))
  refine gw_call1 at368_3 e (by omega) (Nat.le_of_ble_eq_true rfl) (fun o M1 q => ?_)
  obtain ⟨T1, c1, J1, rfl, ⟨v, rfl, hv, ⟨o1, o2⟩, hR⟩ | ⟨E, rfl, fx, hR⟩⟩ := q
  · show gw _ _ _ _ _ (gi v :: _) _ _
    refine gw_i2l at368_6 hv (gw_lw at368_7 o1 o2 (by decide) (by decide) (by decide) (gw_goto at368_8 (gw_const at368_14 (gw_ri at368_15 am_r368.2.1 ?_))))
    exact ⟨T1, c1, J1, Or.inl ⟨v, hR, rfl, rfl⟩⟩
  · have e1 := hE E T1 c1 J1 hR
    subst e1
    refine ⟨fx, ?_⟩
    rw [gm_exc]
    refine gw_as2 at368_11 rfl (gw_const at368_12 (gw_ri at368_13 am_r368.2.1 ?_))
    exact ⟨T1, c1, J1, Or.inr ⟨0, hR, rfl, rfl⟩⟩
set_option maxHeartbeats 1000000 in
theorem w_setFall {g H : Nat} {T : gT} {c J : gC} {R : (Int ⊕ Nat) → gT → gC → gC → Prop} {p0 : Int} (e : gE g 151 H [.ref 500000, gi p0] (gm T c J) (gP R)) (hE : ∀ E T1 c1 J1, R (.inr E) T1 c1 J1 → E = 1) : gE g 369 (H + 1) [.ref 500000, gi p0, .ref 500002] (gm T c J) (gW (fun E => 1) R) := by
  refine gE_mk am_r369 rfl (Or.inl rfl) (fun d hd => ?_)
  show gw d g 369 0 [.ref 500000, gi p0, .ref 500002, am_U] [] _ _
  refine gw_al2 at369_0 (gw_const at369_1 (gw_al0 at369_2 (gw_il1 at369_3 (?_))))
  refine gw_call2 at369_4 e (by omega) (Nat.le_of_ble_eq_true rfl) (fun o M1 q => ?_)
  obtain ⟨T1, c1, J1, rfl, ⟨v, rfl, hv, ⟨o1, o2⟩, hR⟩ | ⟨E, rfl, fx, hR⟩⟩ := q
  · show gw _ _ _ _ _ (gi v :: _) _ _
    refine gw_i2l at369_7 hv (gw_lw at369_8 o1 o2 (by decide) (by decide) (by decide) (gw_goto at369_9 (gw_const at369_15 (gw_ri at369_16 am_r369.2.1 ?_))))
    exact ⟨T1, c1, J1, Or.inl ⟨v, hR, rfl, rfl⟩⟩
  · have e1 := hE E T1 c1 J1 hR
    subst e1
    refine ⟨fx, ?_⟩
    rw [gm_exc]
    refine gw_as3 at369_12 rfl (gw_const at369_13 (gw_ri at369_14 am_r369.2.1 ?_))
    exact ⟨T1, c1, J1, Or.inr ⟨1, hR, rfl, rfl⟩⟩
set_option maxHeartbeats 1000000 in
theorem w_turnsMade {g H : Nat} {T : gT} {c J : gC} {R : (Int ⊕ Nat) → gT → gC → gC → Prop} {p0 : Int} (e : gE g 154 H [.ref 500000, gi p0] (gm T c J) (gP R)) (hE : ∀ E T1 c1 J1, R (.inr E) T1 c1 J1 → E = 1) : gE g 370 (H + 1) [.ref 500000, gi p0, .ref 500002] (gm T c J) (gW (fun E => 1) R) := by
  refine gE_mk am_r370 rfl (Or.inl rfl) (fun d hd => ?_)
  show gw d g 370 0 [.ref 500000, gi p0, .ref 500002, am_U] [] _ _
  refine gw_al2 at370_0 (gw_const at370_1 (gw_al0 at370_2 (gw_il1 at370_3 (?_))))
  refine gw_call2 at370_4 e (by omega) (Nat.le_of_ble_eq_true rfl) (fun o M1 q => ?_)
  obtain ⟨T1, c1, J1, rfl, ⟨v, rfl, hv, ⟨o1, o2⟩, hR⟩ | ⟨E, rfl, fx, hR⟩⟩ := q
  · show gw _ _ _ _ _ (gi v :: _) _ _
    refine gw_i2l at370_7 hv (gw_lw at370_8 o1 o2 (by decide) (by decide) (by decide) (gw_goto at370_9 (gw_const at370_15 (gw_ri at370_16 am_r370.2.1 ?_))))
    exact ⟨T1, c1, J1, Or.inl ⟨v, hR, rfl, rfl⟩⟩
  · have e1 := hE E T1 c1 J1 hR
    subst e1
    refine ⟨fx, ?_⟩
    rw [gm_exc]
    refine gw_as3 at370_12 rfl (gw_const at370_13 (gw_ri at370_14 am_r370.2.1 ?_))
    exact ⟨T1, c1, J1, Or.inr ⟨1, hR, rfl, rfl⟩⟩
set_option maxHeartbeats 1000000 in
theorem w_passes {g H : Nat} {T : gT} {c J : gC} {R : (Int ⊕ Nat) → gT → gC → gC → Prop} {p0 : Int} (e : gE g 155 H [.ref 500000, gi p0] (gm T c J) (gP R)) (hE : ∀ E T1 c1 J1, R (.inr E) T1 c1 J1 → E = 2) : gE g 371 (H + 1) [.ref 500000, gi p0, .ref 500002] (gm T c J) (gW (fun E => 1) R) := by
  refine gE_mk am_r371 rfl (Or.inl rfl) (fun d hd => ?_)
  show gw d g 371 0 [.ref 500000, gi p0, .ref 500002, am_U] [] _ _
  refine gw_al2 at371_0 (gw_const at371_1 (gw_al0 at371_2 (gw_il1 at371_3 (?_))))
  refine gw_call2 at371_4 e (by omega) (Nat.le_of_ble_eq_true rfl) (fun o M1 q => ?_)
  obtain ⟨T1, c1, J1, rfl, ⟨v, rfl, hv, ⟨o1, o2⟩, hR⟩ | ⟨E, rfl, fx, hR⟩⟩ := q
  · show gw _ _ _ _ _ (gi v :: _) _ _
    refine gw_i2l at371_7 hv (gw_lw at371_8 o1 o2 (by decide) (by decide) (by decide) (gw_goto at371_9 (gw_const at371_15 (gw_ri at371_16 am_r371.2.1 ?_))))
    exact ⟨T1, c1, J1, Or.inl ⟨v, hR, rfl, rfl⟩⟩
  · have e1 := hE E T1 c1 J1 hR
    subst e1
    refine ⟨fx, ?_⟩
    rw [gm_exc]
    refine gw_as3 at371_12 rfl (gw_const at371_13 (gw_ri at371_14 am_r371.2.1 ?_))
    exact ⟨T1, c1, J1, Or.inr ⟨2, hR, rfl, rfl⟩⟩
set_option maxHeartbeats 1000000 in
theorem w_untouched {g H : Nat} {T : gT} {c J : gC} {R : (Int ⊕ Nat) → gT → gC → gC → Prop} {p0 : Int} (e : gE g 156 H [.ref 500000, gi p0] (gm T c J) (gP R)) (hE : ∀ E T1 c1 J1, R (.inr E) T1 c1 J1 → E = 1) : gE g 372 (H + 1) [.ref 500000, gi p0, .ref 500002] (gm T c J) (gW (fun E => 1) R) := by
  refine gE_mk am_r372 rfl (Or.inl rfl) (fun d hd => ?_)
  show gw d g 372 0 [.ref 500000, gi p0, .ref 500002, am_U] [] _ _
  refine gw_al2 at372_0 (gw_const at372_1 (gw_al0 at372_2 (gw_il1 at372_3 (?_))))
  refine gw_call2 at372_4 e (by omega) (Nat.le_of_ble_eq_true rfl) (fun o M1 q => ?_)
  obtain ⟨T1, c1, J1, rfl, ⟨v, rfl, hv, ⟨o1, o2⟩, hR⟩ | ⟨E, rfl, fx, hR⟩⟩ := q
  · show gw _ _ _ _ _ (gi v :: _) _ _
    refine gw_i2l at372_7 hv (gw_lw at372_8 o1 o2 (by decide) (by decide) (by decide) (gw_goto at372_9 (gw_const at372_15 (gw_ri at372_16 am_r372.2.1 ?_))))
    exact ⟨T1, c1, J1, Or.inl ⟨v, hR, rfl, rfl⟩⟩
  · have e1 := hE E T1 c1 J1 hR
    subst e1
    refine ⟨fx, ?_⟩
    rw [gm_exc]
    refine gw_as3 at372_12 rfl (gw_const at372_13 (gw_ri at372_14 am_r372.2.1 ?_))
    exact ⟨T1, c1, J1, Or.inr ⟨1, hR, rfl, rfl⟩⟩
set_option maxHeartbeats 1000000 in
theorem w_planTime {g H : Nat} {T : gT} {c J : gC} {R : (Int ⊕ Nat) → gT → gC → gC → Prop} {p0 p1 : Int} (e : gE g 128 H [.ref 500000, gi p0, gi p1] (gm T c J) (gP R)) (hE : ∀ E T1 c1 J1, R (.inr E) T1 c1 J1 → E = 1 ∨ E = 0) : gE g 373 (H + 1) [.ref 500000, gi p0, gi p1, .ref 500002] (gm T c J) (gW (fun E => if E = 1 then 1 else 2) R) := by
  refine gE_mk am_r373 rfl (Or.inl rfl) (fun d hd => ?_)
  show gw d g 373 0 [.ref 500000, gi p0, gi p1, .ref 500002, am_U] [] _ _
  refine gw_al3 at373_0 (gw_const at373_1 (gw_al0 at373_2 (gw_il1 at373_3 (gw_il2 at373_4 (?_)))))
  refine gw_call3 at373_5 e (by omega) (Nat.le_of_ble_eq_true rfl) (fun o M1 q => ?_)
  obtain ⟨T1, c1, J1, rfl, ⟨v, rfl, hv, ⟨o1, o2⟩, hR⟩ | ⟨E, rfl, fx, hR⟩⟩ := q
  · show gw _ _ _ _ _ (gi v :: _) _ _
    refine gw_i2l at373_8 hv (gw_lw at373_9 o1 o2 (by decide) (by decide) (by decide) (gw_goto at373_10 (gw_const at373_21 (gw_ri at373_22 am_r373.2.1 ?_))))
    exact ⟨T1, c1, J1, Or.inl ⟨v, hR, rfl, rfl⟩⟩
  · rcases hE E T1 c1 J1 hR with e1 | e1 <;> subst e1
    · refine ⟨fx, ?_⟩
      rw [gm_exc]
      refine gw_as4 at373_13 rfl (gw_const at373_15 (gw_ri at373_16 am_r373.2.1 ?_))
      exact ⟨T1, c1, J1, Or.inr ⟨1, hR, rfl, rfl⟩⟩
    · refine ⟨fx, ?_⟩
      rw [gm_exc]
      refine gw_as4 at373_17 rfl (gw_const at373_19 (gw_ri at373_20 am_r373.2.1 ?_))
      exact ⟨T1, c1, J1, Or.inr ⟨0, hR, rfl, rfl⟩⟩
set_option maxHeartbeats 1000000 in
theorem w_undo {g H : Nat} {T : gT} {c J : gC} {R : (Int ⊕ Nat) → gT → gC → gC → Prop} (e : gE g 157 H [.ref 500000] (gm T c J) (gP R)) (hE : ∀ E T1 c1 J1, R (.inr E) T1 c1 J1 → E = 0) : gE g 374 (H + 1) [.ref 500000, .ref 500002] (gm T c J) (gW (fun E => 1) R) := by
  refine gE_mk am_r374 rfl (Or.inl rfl) (fun d hd => ?_)
  show gw d g 374 0 [.ref 500000, .ref 500002, am_U] [] _ _
  refine gw_al1 at374_0 (gw_const at374_1 (gw_al0 at374_2 (?_)))
  refine gw_call1 at374_3 e (by omega) (Nat.le_of_ble_eq_true rfl) (fun o M1 q => ?_)
  obtain ⟨T1, c1, J1, rfl, ⟨v, rfl, hv, ⟨o1, o2⟩, hR⟩ | ⟨E, rfl, fx, hR⟩⟩ := q
  · show gw _ _ _ _ _ (gi v :: _) _ _
    refine gw_i2l at374_6 hv (gw_lw at374_7 o1 o2 (by decide) (by decide) (by decide) (gw_goto at374_8 (gw_const at374_14 (gw_ri at374_15 am_r374.2.1 ?_))))
    exact ⟨T1, c1, J1, Or.inl ⟨v, hR, rfl, rfl⟩⟩
  · have e1 := hE E T1 c1 J1 hR
    subst e1
    refine ⟨fx, ?_⟩
    rw [gm_exc]
    refine gw_as2 at374_11 rfl (gw_const at374_12 (gw_ri at374_13 am_r374.2.1 ?_))
    exact ⟨T1, c1, J1, Or.inr ⟨0, hR, rfl, rfl⟩⟩
set_option maxHeartbeats 1000000 in
theorem w_outputByte {g H : Nat} {T : gT} {c J : gC} {R : (Int ⊕ Nat) → gT → gC → gC → Prop} {p0 : Int} (e : gE g 160 H [.ref 500000, gi p0] (gm T c J) (gP R)) (hE : ∀ E T1 c1 J1, R (.inr E) T1 c1 J1 → E = 2) : gE g 375 (H + 1) [.ref 500000, gi p0, .ref 500002] (gm T c J) (gW (fun E => 1) R) := by
  refine gE_mk am_r375 rfl (Or.inl rfl) (fun d hd => ?_)
  show gw d g 375 0 [.ref 500000, gi p0, .ref 500002, am_U] [] _ _
  refine gw_al2 at375_0 (gw_const at375_1 (gw_al0 at375_2 (gw_il1 at375_3 (?_))))
  refine gw_call2 at375_4 e (by omega) (Nat.le_of_ble_eq_true rfl) (fun o M1 q => ?_)
  obtain ⟨T1, c1, J1, rfl, ⟨v, rfl, hv, ⟨o1, o2⟩, hR⟩ | ⟨E, rfl, fx, hR⟩⟩ := q
  · show gw _ _ _ _ _ (gi v :: _) _ _
    refine gw_i2l at375_7 hv (gw_lw at375_8 o1 o2 (by decide) (by decide) (by decide) (gw_goto at375_9 (gw_const at375_15 (gw_ri at375_16 am_r375.2.1 ?_))))
    exact ⟨T1, c1, J1, Or.inl ⟨v, hR, rfl, rfl⟩⟩
  · have e1 := hE E T1 c1 J1 hR
    subst e1
    refine ⟨fx, ?_⟩
    rw [gm_exc]
    refine gw_as3 at375_12 rfl (gw_const at375_13 (gw_ri at375_14 am_r375.2.1 ?_))
    exact ⟨T1, c1, J1, Or.inr ⟨2, hR, rfl, rfl⟩⟩
set_option maxHeartbeats 1000000 in
theorem w_nearestDeepArc {g H : Nat} {T : gT} {c J : gC} {R : (Int ⊕ Nat) → gT → gC → gC → Prop} {p0 : Int} (e : gE g 137 H [.ref 500000, gi p0] (gm T c J) (gP R)) (hE : ∀ E T1 c1 J1, R (.inr E) T1 c1 J1 → E = 1) : gE g 376 (H + 1) [.ref 500000, gi p0, .ref 500002] (gm T c J) (gW (fun E => 1) R) := by
  refine gE_mk am_r376 rfl (Or.inl rfl) (fun d hd => ?_)
  show gw d g 376 0 [.ref 500000, gi p0, .ref 500002, am_U] [] _ _
  refine gw_al2 at376_0 (gw_const at376_1 (gw_al0 at376_2 (gw_il1 at376_3 (?_))))
  refine gw_call2 at376_4 e (by omega) (Nat.le_of_ble_eq_true rfl) (fun o M1 q => ?_)
  obtain ⟨T1, c1, J1, rfl, ⟨v, rfl, hv, ⟨o1, o2⟩, hR⟩ | ⟨E, rfl, fx, hR⟩⟩ := q
  · show gw _ _ _ _ _ (gi v :: _) _ _
    refine gw_i2l at376_7 hv (gw_lw at376_8 o1 o2 (by decide) (by decide) (by decide) (gw_goto at376_9 (gw_const at376_15 (gw_ri at376_16 am_r376.2.1 ?_))))
    exact ⟨T1, c1, J1, Or.inl ⟨v, hR, rfl, rfl⟩⟩
  · have e1 := hE E T1 c1 J1 hR
    subst e1
    refine ⟨fx, ?_⟩
    rw [gm_exc]
    refine gw_as3 at376_12 rfl (gw_const at376_13 (gw_ri at376_14 am_r376.2.1 ?_))
    exact ⟨T1, c1, J1, Or.inr ⟨1, hR, rfl, rfl⟩⟩
set_option maxHeartbeats 1000000 in
theorem w_cycleCost {g H : Nat} {T : gT} {c J : gC} {R : (Int ⊕ Nat) → gT → gC → gC → Prop} {p0 : Int} (e : gE g 118 H [.ref 500000, gi p0] (gm T c J) (gP R)) (hE : ∀ E T1 c1 J1, R (.inr E) T1 c1 J1 → E = 2) : gE g 377 (H + 1) [.ref 500000, gi p0, .ref 500002] (gm T c J) (gW (fun E => 1) R) := by
  refine gE_mk am_r377 rfl (Or.inl rfl) (fun d hd => ?_)
  show gw d g 377 0 [.ref 500000, gi p0, .ref 500002, am_U] [] _ _
  refine gw_al2 at377_0 (gw_const at377_1 (gw_al0 at377_2 (gw_il1 at377_3 (?_))))
  refine gw_call2 at377_4 e (by omega) (Nat.le_of_ble_eq_true rfl) (fun o M1 q => ?_)
  obtain ⟨T1, c1, J1, rfl, ⟨v, rfl, hv, ⟨o1, o2⟩, hR⟩ | ⟨E, rfl, fx, hR⟩⟩ := q
  · show gw _ _ _ _ _ (gi v :: _) _ _
    refine gw_i2l at377_7 hv (gw_lw at377_8 o1 o2 (by decide) (by decide) (by decide) (gw_goto at377_9 (gw_const at377_15 (gw_ri at377_16 am_r377.2.1 ?_))))
    exact ⟨T1, c1, J1, Or.inl ⟨v, hR, rfl, rfl⟩⟩
  · have e1 := hE E T1 c1 J1 hR
    subst e1
    refine ⟨fx, ?_⟩
    rw [gm_exc]
    refine gw_as3 at377_12 rfl (gw_const at377_13 (gw_ri at377_14 am_r377.2.1 ?_))
    exact ⟨T1, c1, J1, Or.inr ⟨2, hR, rfl, rfl⟩⟩
set_option maxHeartbeats 1000000 in
theorem w_eccentricity {g H : Nat} {T : gT} {c J : gC} {R : (Int ⊕ Nat) → gT → gC → gC → Prop} {p0 : Int} (e : gE g 119 H [.ref 500000, gi p0] (gm T c J) (gP R)) (hE : ∀ E T1 c1 J1, R (.inr E) T1 c1 J1 → E = 2) : gE g 378 (H + 1) [.ref 500000, gi p0, .ref 500002] (gm T c J) (gW (fun E => 1) R) := by
  refine gE_mk am_r378 rfl (Or.inl rfl) (fun d hd => ?_)
  show gw d g 378 0 [.ref 500000, gi p0, .ref 500002, am_U] [] _ _
  refine gw_al2 at378_0 (gw_const at378_1 (gw_al0 at378_2 (gw_il1 at378_3 (?_))))
  refine gw_call2 at378_4 e (by omega) (Nat.le_of_ble_eq_true rfl) (fun o M1 q => ?_)
  obtain ⟨T1, c1, J1, rfl, ⟨v, rfl, hv, ⟨o1, o2⟩, hR⟩ | ⟨E, rfl, fx, hR⟩⟩ := q
  · show gw _ _ _ _ _ (gi v :: _) _ _
    refine gw_i2l at378_7 hv (gw_lw at378_8 o1 o2 (by decide) (by decide) (by decide) (gw_goto at378_9 (gw_const at378_15 (gw_ri at378_16 am_r378.2.1 ?_))))
    exact ⟨T1, c1, J1, Or.inl ⟨v, hR, rfl, rfl⟩⟩
  · have e1 := hE E T1 c1 J1 hR
    subst e1
    refine ⟨fx, ?_⟩
    rw [gm_exc]
    refine gw_as3 at378_12 rfl (gw_const at378_13 (gw_ri at378_14 am_r378.2.1 ?_))
    exact ⟨T1, c1, J1, Or.inr ⟨2, hR, rfl, rfl⟩⟩
set_option maxHeartbeats 1000000 in
theorem w_isCritical {g H : Nat} {T : gT} {c J : gC} {R : (Int ⊕ Nat) → gT → gC → gC → Prop} {p0 : Int} (e : gE g 121 H [.ref 500000, gi p0] (gm T c J) (gP R)) (hE : ∀ E T1 c1 J1, R (.inr E) T1 c1 J1 → E = 2) (hb : ∀ v T1 c1 J1, R (.inl v) T1 c1 J1 → v = 0 ∨ v = 1) : gE g 379 (H + 1) [.ref 500000, gi p0, .ref 500002] (gm T c J) (gW (fun _ => 1) R) := by
  refine gE_mk am_r379 rfl (Or.inl rfl) (fun d hd => ?_)
  show gw d g 379 0 [.ref 500000, gi p0, .ref 500002, am_U] [] _ _
  refine gw_al2 at379_0 (gw_const at379_1 (gw_al0 at379_2 (gw_il1 at379_3 ?_)))
  refine gw_call2 at379_4 e (by omega) (Nat.le_of_ble_eq_true rfl) (fun o M1 q => ?_)
  obtain ⟨T1, c1, J1, rfl, ⟨v, rfl, hv, ⟨o1, o2⟩, hR⟩ | ⟨E, rfl, fx, hR⟩⟩ := q
  · show gw _ _ _ _ _ (gi v :: _) _ _
    refine gw_zeq at379_7 hv (fun q7 => ?_) (fun q7 => ?_)
    · refine gw_lconst (z := 0) at379_14 rfl (gw_lw at379_15 o1 o2 (by decide) (by decide) (by decide) (gw_goto at379_16 (gw_const at379_22 (gw_ri at379_23 am_r379.2.1 ?_))))
      exact ⟨T1, c1, J1, Or.inl ⟨0, by rw [← q7]; exact hR, rfl, rfl⟩⟩
    · refine gw_lconst (z := 1) at379_10 rfl (gw_goto at379_11 (gw_lw at379_15 o1 o2 (by decide) (by decide) (by decide) (gw_goto at379_16 (gw_const at379_22 (gw_ri at379_23 am_r379.2.1 ?_)))))
      have h1 : v = 1 := (hb v T1 c1 J1 hR).resolve_left q7
      exact ⟨T1, c1, J1, Or.inl ⟨1, by rw [← h1]; exact hR, rfl, rfl⟩⟩
  · have e1 := hE E T1 c1 J1 hR
    subst e1
    refine ⟨fx, ?_⟩
    rw [gm_exc]
    refine gw_as3 at379_19 rfl (gw_const at379_20 (gw_ri at379_21 am_r379.2.1 ?_))
    exact ⟨T1, c1, J1, Or.inr ⟨2, hR, rfl, rfl⟩⟩
set_option maxHeartbeats 1000000 in
theorem w_saltNeeded {g H : Nat} {T : gT} {c J : gC} {R : (Int ⊕ Nat) → gT → gC → gC → Prop} {p0 : Int} (e : gE g 129 H [.ref 500000, gi p0] (gm T c J) (gP R)) (hE : ∀ E T1 c1 J1, R (.inr E) T1 c1 J1 → E = 1) : gE g 380 (H + 1) [.ref 500000, gi p0, .ref 500002] (gm T c J) (gW (fun E => 1) R) := by
  refine gE_mk am_r380 rfl (Or.inl rfl) (fun d hd => ?_)
  show gw d g 380 0 [.ref 500000, gi p0, .ref 500002, am_U] [] _ _
  refine gw_al2 at380_0 (gw_const at380_1 (gw_al0 at380_2 (gw_il1 at380_3 (?_))))
  refine gw_call2 at380_4 e (by omega) (Nat.le_of_ble_eq_true rfl) (fun o M1 q => ?_)
  obtain ⟨T1, c1, J1, rfl, ⟨v, rfl, hv, ⟨o1, o2⟩, hR⟩ | ⟨E, rfl, fx, hR⟩⟩ := q
  · show gw _ _ _ _ _ (gi v :: _) _ _
    refine gw_i2l at380_7 hv (gw_lw at380_8 o1 o2 (by decide) (by decide) (by decide) (gw_goto at380_9 (gw_const at380_15 (gw_ri at380_16 am_r380.2.1 ?_))))
    exact ⟨T1, c1, J1, Or.inl ⟨v, hR, rfl, rfl⟩⟩
  · have e1 := hE E T1 c1 J1 hR
    subst e1
    refine ⟨fx, ?_⟩
    rw [gm_exc]
    refine gw_as3 at380_12 rfl (gw_const at380_13 (gw_ri at380_14 am_r380.2.1 ?_))
    exact ⟨T1, c1, J1, Or.inr ⟨1, hR, rfl, rfl⟩⟩
set_option maxHeartbeats 1000000 in
theorem w_planTurns {g H : Nat} {T : gT} {c J : gC} {R : (Int ⊕ Nat) → gT → gC → gC → Prop} {p0 p1 : Int} (e : gE g 127 H [.ref 500000, gi p0, gi p1] (gm T c J) (gP R)) (hE : ∀ E T1 c1 J1, R (.inr E) T1 c1 J1 → E = 1 ∨ E = 0) : gE g 381 (H + 1) [.ref 500000, gi p0, gi p1, .ref 500002] (gm T c J) (gW (fun E => if E = 1 then 1 else 2) R) := by
  refine gE_mk am_r381 rfl (Or.inl rfl) (fun d hd => ?_)
  show gw d g 381 0 [.ref 500000, gi p0, gi p1, .ref 500002, am_U] [] _ _
  refine gw_al3 at381_0 (gw_const at381_1 (gw_al0 at381_2 (gw_il1 at381_3 (gw_il2 at381_4 (?_)))))
  refine gw_call3 at381_5 e (by omega) (Nat.le_of_ble_eq_true rfl) (fun o M1 q => ?_)
  obtain ⟨T1, c1, J1, rfl, ⟨v, rfl, hv, ⟨o1, o2⟩, hR⟩ | ⟨E, rfl, fx, hR⟩⟩ := q
  · show gw _ _ _ _ _ (gi v :: _) _ _
    refine gw_i2l at381_8 hv (gw_lw at381_9 o1 o2 (by decide) (by decide) (by decide) (gw_goto at381_10 (gw_const at381_21 (gw_ri at381_22 am_r381.2.1 ?_))))
    exact ⟨T1, c1, J1, Or.inl ⟨v, hR, rfl, rfl⟩⟩
  · rcases hE E T1 c1 J1 hR with e1 | e1 <;> subst e1
    · refine ⟨fx, ?_⟩
      rw [gm_exc]
      refine gw_as4 at381_13 rfl (gw_const at381_15 (gw_ri at381_16 am_r381.2.1 ?_))
      exact ⟨T1, c1, J1, Or.inr ⟨1, hR, rfl, rfl⟩⟩
    · refine ⟨fx, ?_⟩
      rw [gm_exc]
      refine gw_as4 at381_17 rfl (gw_const at381_19 (gw_ri at381_20 am_r381.2.1 ?_))
      exact ⟨T1, c1, J1, Or.inr ⟨0, hR, rfl, rfl⟩⟩
set_option maxHeartbeats 1000000 in
theorem w_depthAfter {g H : Nat} {T : gT} {c J : gC} {R : (Int ⊕ Nat) → gT → gC → gC → Prop} {p0 p1 : Int} (e : gE g 138 H [.ref 500000, gi p0, gi p1] (gm T c J) (gP R)) (hE : ∀ E T1 c1 J1, R (.inr E) T1 c1 J1 → E = 2 ∨ E = 1) : gE g 382 (H + 1) [.ref 500000, gi p0, gi p1, .ref 500002] (gm T c J) (gW (fun E => if E = 2 then 1 else 2) R) := by
  refine gE_mk am_r382 rfl (Or.inl rfl) (fun d hd => ?_)
  show gw d g 382 0 [.ref 500000, gi p0, gi p1, .ref 500002, am_U] [] _ _
  refine gw_al3 at382_0 (gw_const at382_1 (gw_al0 at382_2 (gw_il1 at382_3 (gw_il2 at382_4 (?_)))))
  refine gw_call3 at382_5 e (by omega) (Nat.le_of_ble_eq_true rfl) (fun o M1 q => ?_)
  obtain ⟨T1, c1, J1, rfl, ⟨v, rfl, hv, ⟨o1, o2⟩, hR⟩ | ⟨E, rfl, fx, hR⟩⟩ := q
  · show gw _ _ _ _ _ (gi v :: _) _ _
    refine gw_i2l at382_8 hv (gw_lw at382_9 o1 o2 (by decide) (by decide) (by decide) (gw_goto at382_10 (gw_const at382_21 (gw_ri at382_22 am_r382.2.1 ?_))))
    exact ⟨T1, c1, J1, Or.inl ⟨v, hR, rfl, rfl⟩⟩
  · rcases hE E T1 c1 J1 hR with e1 | e1 <;> subst e1
    · refine ⟨fx, ?_⟩
      rw [gm_exc]
      refine gw_as4 at382_13 rfl (gw_const at382_15 (gw_ri at382_16 am_r382.2.1 ?_))
      exact ⟨T1, c1, J1, Or.inr ⟨2, hR, rfl, rfl⟩⟩
    · refine ⟨fx, ?_⟩
      rw [gm_exc]
      refine gw_as4 at382_17 rfl (gw_const at382_19 (gw_ri at382_20 am_r382.2.1 ?_))
      exact ⟨T1, c1, J1, Or.inr ⟨1, hR, rfl, rfl⟩⟩
set_option maxHeartbeats 1000000 in
theorem w_secondsToFirstDepth {g H : Nat} {T : gT} {c J : gC} {R : (Int ⊕ Nat) → gT → gC → gC → Prop} {p0 p1 : Int} (e : gE g 139 H [.ref 500000, gi p0, gi p1] (gm T c J) (gP R)) (hE : ∀ E T1 c1 J1, R (.inr E) T1 c1 J1 → E = 1) : gE g 383 (H + 1) [.ref 500000, gi p0, gi p1, .ref 500002] (gm T c J) (gW (fun E => 1) R) := by
  refine gE_mk am_r383 rfl (Or.inl rfl) (fun d hd => ?_)
  show gw d g 383 0 [.ref 500000, gi p0, gi p1, .ref 500002, am_U] [] _ _
  refine gw_al3 at383_0 (gw_const at383_1 (gw_al0 at383_2 (gw_il1 at383_3 (gw_il2 at383_4 (?_)))))
  refine gw_call3 at383_5 e (by omega) (Nat.le_of_ble_eq_true rfl) (fun o M1 q => ?_)
  obtain ⟨T1, c1, J1, rfl, ⟨v, rfl, hv, ⟨o1, o2⟩, hR⟩ | ⟨E, rfl, fx, hR⟩⟩ := q
  · show gw _ _ _ _ _ (gi v :: _) _ _
    refine gw_i2l at383_8 hv (gw_lw at383_9 o1 o2 (by decide) (by decide) (by decide) (gw_goto at383_10 (gw_const at383_17 (gw_ri at383_18 am_r383.2.1 ?_))))
    exact ⟨T1, c1, J1, Or.inl ⟨v, hR, rfl, rfl⟩⟩
  · have e1 := hE E T1 c1 J1 hR
    subst e1
    refine ⟨fx, ?_⟩
    rw [gm_exc]
    refine gw_as4 at383_13 rfl (gw_const at383_15 (gw_ri at383_16 am_r383.2.1 ?_))
    exact ⟨T1, c1, J1, Or.inr ⟨1, hR, rfl, rfl⟩⟩
set_option maxHeartbeats 1000000 in
theorem w_pathTime {g H : Nat} {T : gT} {c J : gC} {R : (Int ⊕ Nat) → gT → gC → gC → Prop} {p0 : Int} (e : gE g 148 H [.ref 500000, gi p0] (gm T c J) (gP R)) (hE : ∀ E T1 c1 J1, R (.inr E) T1 c1 J1 → E = 2 ∨ E = 3) : gE g 384 (H + 1) [.ref 500000, gi p0, .ref 500002] (gm T c J) (gW (fun E => if E = 2 then 1 else 2) R) := by
  refine gE_mk am_r384 rfl (Or.inl rfl) (fun d hd => ?_)
  show gw d g 384 0 [.ref 500000, gi p0, .ref 500002, am_U] [] _ _
  refine gw_al2 at384_0 (gw_const at384_1 (gw_al0 at384_2 (gw_il1 at384_3 (?_))))
  refine gw_call2 at384_4 e (by omega) (Nat.le_of_ble_eq_true rfl) (fun o M1 q => ?_)
  obtain ⟨T1, c1, J1, rfl, ⟨v, rfl, hv, ⟨o1, o2⟩, hR⟩ | ⟨E, rfl, fx, hR⟩⟩ := q
  · show gw _ _ _ _ _ (gi v :: _) _ _
    refine gw_i2l at384_7 hv (gw_lw at384_8 o1 o2 (by decide) (by decide) (by decide) (gw_goto at384_9 (gw_const at384_18 (gw_ri at384_19 am_r384.2.1 ?_))))
    exact ⟨T1, c1, J1, Or.inl ⟨v, hR, rfl, rfl⟩⟩
  · rcases hE E T1 c1 J1 hR with e1 | e1 <;> subst e1
    · refine ⟨fx, ?_⟩
      rw [gm_exc]
      refine gw_as3 at384_12 rfl (gw_const at384_13 (gw_ri at384_14 am_r384.2.1 ?_))
      exact ⟨T1, c1, J1, Or.inr ⟨2, hR, rfl, rfl⟩⟩
    · refine ⟨fx, ?_⟩
      rw [gm_exc]
      refine gw_as3 at384_15 rfl (gw_const at384_16 (gw_ri at384_17 am_r384.2.1 ?_))
      exact ⟨T1, c1, J1, Or.inr ⟨3, hR, rfl, rfl⟩⟩
set_option maxHeartbeats 1000000 in
theorem w_meanDepth {g H : Nat} {T : gT} {c J : gC} {R : (Int ⊕ Nat) → gT → gC → gC → Prop} {p0 : Int} (e : gE g 140 H [.ref 500000, gi p0] (gm T c J) (gP R)) (hE : ∀ E T1 c1 J1, R (.inr E) T1 c1 J1 → E = 1) : gE g 385 (H + 1) [.ref 500000, gi p0, .ref 500002] (gm T c J) (gW (fun E => 1) R) := by
  refine gE_mk am_r385 rfl (Or.inl rfl) (fun d hd => ?_)
  show gw d g 385 0 [.ref 500000, gi p0, .ref 500002, am_U] [] _ _
  refine gw_al2 at385_0 (gw_const at385_1 (gw_al0 at385_2 (gw_il1 at385_3 (?_))))
  refine gw_call2 at385_4 e (by omega) (Nat.le_of_ble_eq_true rfl) (fun o M1 q => ?_)
  obtain ⟨T1, c1, J1, rfl, ⟨v, rfl, hv, ⟨o1, o2⟩, hR⟩ | ⟨E, rfl, fx, hR⟩⟩ := q
  · show gw _ _ _ _ _ (gi v :: _) _ _
    refine gw_i2l at385_7 hv (gw_lw at385_8 o1 o2 (by decide) (by decide) (by decide) (gw_goto at385_9 (gw_const at385_15 (gw_ri at385_16 am_r385.2.1 ?_))))
    exact ⟨T1, c1, J1, Or.inl ⟨v, hR, rfl, rfl⟩⟩
  · have e1 := hE E T1 c1 J1 hR
    subst e1
    refine ⟨fx, ?_⟩
    rw [gm_exc]
    refine gw_as3 at385_12 rfl (gw_const at385_13 (gw_ri at385_14 am_r385.2.1 ?_))
    exact ⟨T1, c1, J1, Or.inr ⟨1, hR, rfl, rfl⟩⟩
set_option maxHeartbeats 1000000 in
theorem w_deepestArcAfter {g H : Nat} {T : gT} {c J : gC} {R : (Int ⊕ Nat) → gT → gC → gC → Prop} {p0 p1 : Int} (e : gE g 141 H [.ref 500000, gi p0, gi p1] (gm T c J) (gP R)) (hE : ∀ E T1 c1 J1, R (.inr E) T1 c1 J1 → E = 1) : gE g 386 (H + 1) [.ref 500000, gi p0, gi p1, .ref 500002] (gm T c J) (gW (fun E => 1) R) := by
  refine gE_mk am_r386 rfl (Or.inl rfl) (fun d hd => ?_)
  show gw d g 386 0 [.ref 500000, gi p0, gi p1, .ref 500002, am_U] [] _ _
  refine gw_al3 at386_0 (gw_const at386_1 (gw_al0 at386_2 (gw_il1 at386_3 (gw_il2 at386_4 (?_)))))
  refine gw_call3 at386_5 e (by omega) (Nat.le_of_ble_eq_true rfl) (fun o M1 q => ?_)
  obtain ⟨T1, c1, J1, rfl, ⟨v, rfl, hv, ⟨o1, o2⟩, hR⟩ | ⟨E, rfl, fx, hR⟩⟩ := q
  · show gw _ _ _ _ _ (gi v :: _) _ _
    refine gw_i2l at386_8 hv (gw_lw at386_9 o1 o2 (by decide) (by decide) (by decide) (gw_goto at386_10 (gw_const at386_17 (gw_ri at386_18 am_r386.2.1 ?_))))
    exact ⟨T1, c1, J1, Or.inl ⟨v, hR, rfl, rfl⟩⟩
  · have e1 := hE E T1 c1 J1 hR
    subst e1
    refine ⟨fx, ?_⟩
    rw [gm_exc]
    refine gw_as4 at386_13 rfl (gw_const at386_15 (gw_ri at386_16 am_r386.2.1 ?_))
    exact ⟨T1, c1, J1, Or.inr ⟨1, hR, rfl, rfl⟩⟩
