/-! the law's cases: calls that throw in two ways; sums -/
def RI2 (p : Prop) (X : Nat) (p' : Prop) (X' : Nat) (v : Int) (T : gT) (c J : gC) : (Int ⊕ Nat) → gT → gC → gC → Prop := fun r T1 c1 J1 => c1 = c ∧ J1 = J ∧ ((p ∧ p' ∧ r = .inl v ∧ T1 = T) ∨ (p ∧ ¬ p' ∧ r = .inr X' ∧ T1 = gTt T) ∨ (¬ p ∧ r = .inr X ∧ T1 = gTt T))
theorem opr1 {n L : Nat} {T : gT} {c J : gC} (h : IV n L T c) (hn : n < 900) {F HF X X' : Nat} {as : List Value} {p p' : Prop} {v : Int} (hv : p → p' → -2147483648 ≤ v ∧ v < 2147483648) (e : gE 5 F HF as (gm T c J) (gI2 p X p' X' v T c J)) : gE 5 F HF as (gm T c J) (gP (RI2 p X p' X' v T c J)) := by
  have fx := IV_fx h hn
  refine gE_mono e fun o M1 q => ?_
  rcases q with ⟨hp, hp', rfl, rfl⟩ | ⟨hp, hp', rfl, rfl⟩ | ⟨hp, rfl, rfl⟩
  · exact ⟨T, c, J, rfl, Or.inl ⟨v, rfl, hv hp hp', IV_out h, rfl, rfl, Or.inl ⟨hp, hp', rfl, rfl⟩⟩⟩
  · exact ⟨gTt T, c, J, rfl, Or.inr ⟨X', rfl, fx.1, rfl, rfl, Or.inr (Or.inl ⟨hp, hp', rfl, rfl⟩)⟩⟩
  · exact ⟨gTt T, c, J, rfl, Or.inr ⟨X, rfl, fx.1, rfl, rfl, Or.inr (Or.inr ⟨hp, rfl, rfl⟩)⟩⟩
theorem RI2_E {p p' : Prop} {X X' : Nat} {v : Int} {T : gT} {c J : gC} (Y : Nat) (T1 : gT) (c1 J1 : gC) (h : RI2 p X p' X' v T c J (.inr Y) T1 c1 J1) : Y = X ∨ Y = X' := by
  obtain ⟨-, -, ⟨-, -, e, -⟩ | ⟨-, -, e, -⟩ | ⟨-, e, -⟩⟩ := h
  · cases e
  · exact Or.inr (Sum.inr.inj e)
  · exact Or.inl (Sum.inr.inj e)
def gMI2 (p : Prop) (k : Int) (p' : Prop) (k' : Int) (v : Int) (T : gT) (c J : gC) : am_O → am_M → Prop := fun o M1 => (p ∧ p' ∧ o = .inl (some (gi v)) ∧ M1 = gm T (tw c 0) J) ∨ (p ∧ ¬ p' ∧ ∃ b, o = .inl (some (gi b)) ∧ M1 = gm T (tw c k') J) ∨ (¬ p ∧ ∃ b, o = .inl (some (gi b)) ∧ M1 = gm T (tw c k) J)
theorem opr2 {n L : Nat} {T : gT} {c J : gC} (h : IV n L T c) (hn : n < 900) {Y HM X X' : Nat} {as : List Value} {p p' : Prop} {v k k' : Int} (hv : p → p' → -2147483648 ≤ v ∧ v < 2147483648) (em : ∀ n' T' c' J', IV n' L T' c' → n' < 901 → SAM c c' → gE 5 Y HM as (gm T' c' J') (gMI2 p k p' k' v T' c' J')) : ∀ v' T1 c1 J1, RI2 p X p' X' v T c J (.inl v') T1 c1 J1 → SCP L c T1 c1 ∧ gE 5 Y HM as (gm T1 c1 (gu J1 500002 0 v')) (fun o M1 => ∃ T2 c2 J2, o = .inl (some (gi v')) ∧ M1 = gm T2 c2 J2 ∧ ESP (fun T c _ => IV (n + 1) L T c) 0 T2 c2 J2 ∧ J2 500002 0 = v' ∧ -2147483648 ≤ v' ∧ v' < 2147483648) := by
  intro v' T1 c1 J1 hR
  obtain ⟨rfl, rfl, ⟨hp, hp', e, rfl⟩ | ⟨-, -, e, -⟩ | ⟨-, e, -⟩⟩ := hR
  · have e1 : v' = v := Sum.inl.inj e
    subst e1
    refine ⟨⟨h.2, rfl⟩, gE_mono (em n _ _ _ h (by omega) SAM_rf) fun o M1 q => ?_⟩
    rcases q with ⟨-, -, rfl, rfl⟩ | ⟨-, hq, -⟩ | ⟨hq, -⟩
    · have i2 := IV_tw h (by omega) (z := 0) (by decide)
      exact ⟨_, _, _, rfl, rfl, ⟨⟨IV_MT h, IV_RG i2⟩, tw_0, IV_out h, IV_up i2 (by omega)⟩, gu_s, hv hp hp'⟩
    · exact absurd hp' hq
    · exact absurd hp hq
  · cases e
  · cases e
theorem opr3 {n L : Nat} {T : gT} {c J : gC} (h : IV n L T c) (hn : n < 900) {Y HM X X' : Nat} {as : List Value} {p p' : Prop} {v k k' : Int} {hm : Nat → Int} (hk : (hm X = k ∧ 1 ≤ k ∧ k ≤ 3) ∧ hm X' = k' ∧ 1 ≤ k' ∧ k' ≤ 3) (em : ∀ n' T' c' J', IV n' L T' c' → n' < 901 → SAM c c' → gE 5 Y HM as (gm T' c' J') (gMI2 p k p' k' v T' c' J')) : ∀ Y' T1 c1 J1, RI2 p X p' X' v T c J (.inr Y') T1 c1 J1 → (1 ≤ hm Y' ∧ hm Y' ≤ 3) ∧ SCP L c (gTe T1) (gz c1 (700000 + T1.2.1 7)) ∧ gE 5 Y HM as (gm (gTe T1) (gz c1 (700000 + T1.2.1 7)) (gz J1 (700000 + T1.2.1 7))) (fun o M1 => ∃ b T2 c2 J2, o = .inl (some (gi b)) ∧ M1 = gm T2 c2 J2 ∧ ESP (fun T c _ => IV (n + 1) L T c) (hm Y') T2 c2 J2) := by
  intro Y' T1 c1 J1 hR
  have i1 := IV_te h hn
  have fx := IV_fx h hn
  have sm : SAM c (gz c (700000 + T.2.1 7)) := SAM_gz (by omega)
  obtain ⟨rfl, rfl, ⟨-, -, e, -⟩ | ⟨hp, hp', e, rfl⟩ | ⟨hp, e, rfl⟩⟩ := hR
  · cases e
  · have e1 : Y' = X' := Sum.inr.inj e
    subst e1
    refine ⟨by rw [hk.2.1]; exact hk.2.2, ⟨i1.2, sm _ (Or.inr (by decide))⟩, gE_mono (em (n + 1) _ _ _ i1 (by omega) sm) fun o M1 q => ?_⟩
    rcases q with ⟨-, hq, -⟩ | ⟨-, -, b, rfl, rfl⟩ | ⟨hq, -⟩
    · exact absurd hq hp'
    · have i2 := IV_tw i1 (by omega) (z := k') (by omega)
      exact ⟨b, _, _, _, rfl, rfl, ⟨IV_MT i1, IV_RG i2⟩, by rw [hk.2.1]; exact tw_0, IV_out i1, i2⟩
    · exact absurd hp hq
  · have e1 : Y' = X := Sum.inr.inj e
    subst e1
    refine ⟨by rw [hk.1.1]; exact hk.1.2, ⟨i1.2, sm _ (Or.inr (by decide))⟩, gE_mono (em (n + 1) _ _ _ i1 (by omega) sm) fun o M1 q => ?_⟩
    rcases q with ⟨hq, -⟩ | ⟨hq, -⟩ | ⟨-, b, rfl, rfl⟩
    · exact absurd hq hp
    · exact absurd hq hp
    · have i2 := IV_tw i1 (by omega) (z := k) (by omega)
      exact ⟨b, _, _, _, rfl, rfl, ⟨IV_MT i1, IV_RG i2⟩, by rw [hk.1.1]; exact tw_0, IV_out i1, i2⟩
theorem LA_t {m : gC} (h : LA m 200000) {z : Int} : LA (tw m z) 200000 := by
  unfold LA at h ⊢
  rw [tw_k (by decide), mhA_tw]
  exact h
set_option maxHeartbeats 1000000 in
theorem op_35 {L : Nat} : OPC L 1830 := by
  intro n T c J i u5 u6 Q hn h hL hi hu hv hend
  have rg := IV_RG h
  have hz := rg 800000 (i + 1)
  have hp := rg 800000 (i + 2)
  have hr : (hA c 100014 (c 800000 (i + 1)) = true) → (0 ≤ (c 800000 (i + 2)) ∧ (c 800000 (i + 2)) ≤ 2000) → -2147483648 ≤ su c 100034 (c 800000 (i + 1)) (c 800000 (i + 2)) ∧ su c 100034 (c 800000 (i + 1)) (c 800000 (i + 2)) < 2147483648 := fun w w2 => by exact su_rg (IV_WR h).1 (hA_rg (IV_NR h) w) w2
  have em : ∀ n' T' c' J', IV n' L T' c' → n' < 901 → SAM c c' → gE 5 263 3 [.ref 500001, gi (c 800000 (i + 1)), gi (c 800000 (i + 2))] (gm T' c' J') (gMI2 (hA c 100014 (c 800000 (i + 1)) = true) 1 (0 ≤ (c 800000 (i + 2)) ∧ (c 800000 (i + 2)) ≤ 2000) 2 (su c 100034 (c 800000 (i + 1)) (c 800000 (i + 2))) T' c' J') := fun n' T' c' J' h' hn' sm => by
    have es : c' 200000 = c 200000 := sm _ (Or.inl (by decide))
    have nn := NN_b (IV_NN h) es
    have vv := VV_b (IV_SW h).2.1 es
    have hV := IV_NW h'
    have ww := (IV_WR h').2
    have la := PP_LA (IV_SW h').2.2.1
    refine gE_mono (m_x_secondsToDepth (IV_MT h') (IV_RG h') hV hz hp ww (by omega)) fun o M1 q => ?_
    rcases q with ⟨q1, q2, rfl, rfl⟩ | ⟨q1, q2, rfl, rfl⟩ | ⟨q1, rfl, rfl⟩
    · have w : hA c 100014 (c 800000 (i + 1)) = true := by rw [NN_hA nn]; exact q1
      have w2 : 0 ≤ (c 800000 (i + 2)) ∧ (c 800000 (i + 2)) ≤ 2000 := by have := inr_t.mp q2; omega
      refine Or.inl ⟨w, w2, congrArg (fun x => (Sum.inl (some (gi x)) : am_O)) (Eq.symm ?_), rfl⟩
      exact su_e (NW_t hV) (VV_t vv) (WW_t ww) ((mhA_tw _).trans q1) w2
    · have w : hA c 100014 (c 800000 (i + 1)) = true := by rw [NN_hA nn]; exact q1
      exact Or.inr (Or.inl ⟨w, fun x => inr_f.mp q2 (by omega), _, rfl, rfl⟩)
    · exact Or.inr (Or.inr ⟨by rw [NN_hA nn, q1]; decide, _, rfl, rfl⟩)
  exact lc_35 (E := fun T c _ => IV (n + 1) L T c) (by omega) (by omega) h.2 hL hi hu hv (w_secondsToDepth (opr1 h hn hr (c_x_secondsTo (IV_XT h) (IV_NT h) rg (IV_NR h) (IV_WT h).1 (IV_WT h).2 (IV_WR h).1 hz hp)) (fun E T1 c1 J1 q => RI2_E E T1 c1 J1 q)) (opr2 h hn hr em) (opr3 h hn ⟨⟨rfl, by decide, by decide⟩, rfl, by decide, by decide⟩ em) (fun z T2 c2 J2 k b q hk hb => hend T2 c2 J2 k b q.2.2.2 hk hb)
set_option maxHeartbeats 1000000 in
theorem op_59 {L : Nat} : OPC L 3050 := by
  intro n T c J i u5 u6 Q hn h hL hi hu hv hend
  have rg := IV_RG h
  have hz := rg 800000 (i + 1)
  have hp := rg 800000 (i + 2)
  have hr : (hA c 100014 (c 800000 (i + 1)) = true) → (0 ≤ (c 800000 (i + 2)) ∧ (c 800000 (i + 2)) ≤ 1000000) → -2147483648 ≤ sn c 100034 (c 800000 (i + 1)) (c 800000 (i + 2)) ∧ sn c 100034 (c 800000 (i + 1)) (c 800000 (i + 2)) < 2147483648 := fun w w2 => by have := sn_rg (IV_WR h).1 (c 800000 (i + 1)) (c 800000 (i + 2)); omega
  have em : ∀ n' T' c' J', IV n' L T' c' → n' < 901 → SAM c c' → gE 5 265 2 [.ref 500001, gi (c 800000 (i + 1)), gi (c 800000 (i + 2))] (gm T' c' J') (gMI2 (hA c 100014 (c 800000 (i + 1)) = true) 1 (0 ≤ (c 800000 (i + 2)) ∧ (c 800000 (i + 2)) ≤ 1000000) 2 (sn c 100034 (c 800000 (i + 1)) (c 800000 (i + 2))) T' c' J') := fun n' T' c' J' h' hn' sm => by
    have es : c' 200000 = c 200000 := sm _ (Or.inl (by decide))
    have nn := NN_b (IV_NN h) es
    have vv := VV_b (IV_SW h).2.1 es
    have hV := IV_NW h'
    have ww := (IV_WR h').2
    have la := PP_LA (IV_SW h').2.2.1
    refine gE_mono (m_x_depthAfter (IV_MT h') (IV_RG h') hV hz hp ww (by omega)) fun o M1 q => ?_
    rcases q with ⟨q1, q2, rfl, rfl⟩ | ⟨q1, q2, rfl, rfl⟩ | ⟨q1, rfl, rfl⟩
    · have w : hA c 100014 (c 800000 (i + 1)) = true := by rw [NN_hA nn]; exact q1
      have w2 : 0 ≤ (c 800000 (i + 2)) ∧ (c 800000 (i + 2)) ≤ 1000000 := by have := inr_t.mp q2; omega
      refine Or.inl ⟨w, w2, congrArg (fun x => (Sum.inl (some (gi x)) : am_O)) (Eq.symm ?_), rfl⟩
      exact VV_sn (k := 100014) (VV_t vv) (NW_t hV) ((mhA_tw _).trans q1) _
    · have w : hA c 100014 (c 800000 (i + 1)) = true := by rw [NN_hA nn]; exact q1
      exact Or.inr (Or.inl ⟨w, fun x => inr_f.mp q2 (by omega), _, rfl, rfl⟩)
    · exact Or.inr (Or.inr ⟨by rw [NN_hA nn, q1]; decide, _, rfl, rfl⟩)
  exact lc_59 (E := fun T c _ => IV (n + 1) L T c) (by omega) (by omega) h.2 hL hi hu hv (w_depthAfter (opr1 h hn hr (c_x_depthAfter (IV_XT h) (IV_NT h) rg (IV_NR h) (IV_WT h).1 (IV_WT h).2 (IV_WR h).1 hz hp)) (fun E T1 c1 J1 q => RI2_E E T1 c1 J1 q)) (opr2 h hn hr em) (opr3 h hn ⟨⟨rfl, by decide, by decide⟩, rfl, by decide, by decide⟩ em) (fun z T2 c2 J2 k b q hk hb => hend T2 c2 J2 k b q.2.2.2 hk hb)
set_option maxHeartbeats 1000000 in
theorem op_13 {L : Nat} : OPC L 826 := by
  intro n T c J i u5 u6 Q hn h hL hi hu hv hend
  have rg := IV_RG h
  have hz := rg 800000 (i + 1)
  have hp := rg 800000 (i + 2)
  have hr : (hA c 100014 (c 800000 (i + 1)) = true ∧ hA c 100014 (c 800000 (i + 2)) = true) → (en c 100014 (c 800000 (i + 1)) = bg c 100014 (c 800000 (i + 2))) → -2147483648 ≤ tkd c 100014 (c 800000 (i + 1)) (c 800000 (i + 2)) ∧ tkd c 100014 (c 800000 (i + 1)) (c 800000 (i + 2)) < 2147483648 := fun w w2 => by rw [NN_kd (IV_NN h) (IV_NW h) (by rw [← NN_hA (IV_NN h)]; exact w.1) (by rw [← NN_hA (IV_NN h)]; exact w.2)]; have := mkd_rg (c := c) (b := 200000) (a := (c 800000 (i + 1))) (e := (c 800000 (i + 2))); omega
  have em : ∀ n' T' c' J', IV n' L T' c' → n' < 901 → SAM c c' → gE 5 215 3 [.ref 500001, gi (c 800000 (i + 1)), gi (c 800000 (i + 2))] (gm T' c' J') (gMI2 (hA c 100014 (c 800000 (i + 1)) = true ∧ hA c 100014 (c 800000 (i + 2)) = true) 1 (en c 100014 (c 800000 (i + 1)) = bg c 100014 (c 800000 (i + 2))) 2 (tkd c 100014 (c 800000 (i + 1)) (c 800000 (i + 2))) T' c' J') := fun n' T' c' J' h' hn' sm => by
    have es : c' 200000 = c 200000 := sm _ (Or.inl (by decide))
    have nn := NN_b (IV_NN h) es
    have vv := VV_b (IV_SW h).2.1 es
    have hV := IV_NW h'
    have ww := (IV_WR h').2
    have la := PP_LA (IV_SW h').2.2.1
    refine gE_mono (m_x_turn (IV_MT h') (IV_RG h') hV hz hp) fun o M1 q => ?_
    rcases q with ⟨q1, q2, rfl, rfl⟩ | ⟨q1, q2, rfl, rfl⟩ | ⟨q1, rfl, rfl⟩
    · have w : hA c 100014 (c 800000 (i + 1)) = true ∧ hA c 100014 (c 800000 (i + 2)) = true := by rw [Bool.and_eq_true] at q1; rw [NN_hA nn, NN_hA nn]; exact q1
      have w2 : en c 100014 (c 800000 (i + 1)) = bg c 100014 (c 800000 (i + 2)) := by rw [Bool.and_eq_true] at q1 q2; rw [(NN_bg nn hV q1.1).2, (NN_bg nn hV q1.2).1]; exact (mfo_h q2.2).2
      refine Or.inl ⟨w, w2, congrArg (fun x => (Sum.inl (some (gi x)) : am_O)) (Eq.symm ?_), rfl⟩
      rw [Bool.and_eq_true] at q1; exact NN_kd nn hV q1.1 q1.2
    · have w : hA c 100014 (c 800000 (i + 1)) = true ∧ hA c 100014 (c 800000 (i + 2)) = true := by rw [Bool.and_eq_true] at q1; rw [NN_hA nn, NN_hA nn]; exact q1
      exact Or.inr (Or.inl ⟨w, fun x => by rw [Bool.and_eq_true] at q1; rw [(NN_bg nn hV q1.1).2, (NN_bg nn hV q1.2).1] at x; rw [q1.1, q1.2] at q2; unfold mfo at q2; rw [q1.2, decide_eq_true x] at q2; exact absurd q2 (by decide), _, rfl, rfl⟩)
    · exact Or.inr (Or.inr ⟨fun x => by rw [NN_hA nn, NN_hA nn] at x; rw [x.1, x.2] at q1; exact absurd q1 (by decide), _, rfl, rfl⟩)
  exact lc_13 (E := fun T c _ => IV (n + 1) L T c) (by omega) (by omega) h.2 hL hi hu hv (w_turn (opr1 h hn hr (c_x_turn (IV_XT h) (IV_NT h) rg (IV_NR h) (IV_WT h).1 (IV_WT h).2 (IV_WR h).1 hz hp)) (fun E T1 c1 J1 q => RI2_E E T1 c1 J1 q)) (opr2 h hn hr em) (opr3 h hn ⟨⟨rfl, by decide, by decide⟩, rfl, by decide, by decide⟩ em) (fun z T2 c2 J2 k b q hk hb => hend T2 c2 J2 k b q.2.2.2 hk hb)
set_option maxHeartbeats 1000000 in
theorem op_36 {L : Nat} : OPC L 1898 := by
  intro n T c J i u5 u6 Q hn h hL hi hu hv hend
  have rg := IV_RG h
  have hz := rg 800000 (i + 1)
  have hr : (hA c 100014 (c 800000 (i + 1)) = true) → (bg c 100014 (c 800000 (i + 1)) = c 100034 2) → -2147483648 ≤ scn c 100014 100034 (c 800000 (i + 1)) ∧ scn c 100014 100034 (c 800000 (i + 1)) < 2147483648 := fun w w2 => by have := scn_rg (IV_NR h) (IV_WR h).1 (c 800000 (i + 1)); omega
  have em : ∀ n' T' c' J', IV n' L T' c' → n' < 901 → SAM c c' → gE 5 272 5 [.ref 500001, gi (c 800000 (i + 1))] (gm T' c' J') (gMI2 (hA c 100014 (c 800000 (i + 1)) = true) 1 (bg c 100014 (c 800000 (i + 1)) = c 100034 2) 2 (scn c 100014 100034 (c 800000 (i + 1))) T' c' J') := fun n' T' c' J' h' hn' sm => by
    have es : c' 200000 = c 200000 := sm _ (Or.inl (by decide))
    have nn := NN_b (IV_NN h) es
    have vv := VV_b (IV_SW h).2.1 es
    have hV := IV_NW h'
    have ww := (IV_WR h').2
    have la := PP_LA (IV_SW h').2.2.1
    refine gE_mono (m_x_driveTime (IV_MT h') (IV_RG h') hV hz ww (by omega)) fun o M1 q => ?_
    rcases q with ⟨q1, q2, rfl, rfl⟩ | ⟨q1, q2, rfl, rfl⟩ | ⟨q1, rfl, rfl⟩
    · have w : hA c 100014 (c 800000 (i + 1)) = true := by rw [NN_hA nn]; exact q1
      have w2 : bg c 100014 (c 800000 (i + 1)) = c 100034 2 := by rw [(NN_bg nn hV q1).1, vv.1.1.2]; unfold mhe at q2; rw [q1, Bool.true_and] at q2; exact of_decide_eq_true q2
      refine Or.inl ⟨w, w2, congrArg (fun x => (Sum.inl (some (gi x)) : am_O)) (Eq.symm ?_), rfl⟩
      exact scn_e (NN_t nn) (NW_t hV) (VV_t vv) (LA_t la) ((mhA_tw _).trans q1)
    · have w : hA c 100014 (c 800000 (i + 1)) = true := by rw [NN_hA nn]; exact q1
      exact Or.inr (Or.inl ⟨w, fun x => by rw [(NN_bg nn hV q1).1, vv.1.1.2] at x; unfold mhe at q2; rw [q1, decide_eq_true x] at q2; exact absurd q2 (by decide), _, rfl, rfl⟩)
    · exact Or.inr (Or.inr ⟨by rw [NN_hA nn, q1]; decide, _, rfl, rfl⟩)
  exact lc_36 (E := fun T c _ => IV (n + 1) L T c) (by omega) (by omega) h.2 hL hi hu hv (w_driveTime (opr1 h hn hr (c_x_driveTime (IV_XT h) (IV_NT h) rg (IV_NR h) (IV_WT h).1 (IV_WT h).2 (IV_WR h).1 hz)) (fun E T1 c1 J1 q => RI2_E E T1 c1 J1 q)) (opr2 h hn hr em) (opr3 h hn ⟨⟨rfl, by decide, by decide⟩, rfl, by decide, by decide⟩ em) (fun z T2 c2 J2 k b q hk hb => hend T2 c2 J2 k b q.2.2.2 hk hb)
