/-! the law's cases: costs of routes -/
theorem mini_e {c c' : gC} {b : Nat} (e : c' b = c b) (x y : Int) : mini c' b x y = mini c b x y := by
  unfold mini mfo mhA mct mkd mxo myo men mbg mln
  rw [e]
theorem FWk_e {c c' m : gC} {b : Nat} {k : Int} (h : FWk c b k m) (hV : NW c b) (e : c' b = c b) : FWk c' b k m := ⟨h.1, h.2.1, fun x y hx hy => by rw [mini_e e]; exact h.2.2.1 x y hx hy, fun x y hx hy q => WLK_B (fun j _ => by rw [e]) hV (h.2.2.2 x y hx hy q)⟩
section
variable {n L : Nat} {T : gT} {c : gC}
theorem IV_SR (h : IV n L T c) : SR c := by
  obtain ⟨⟨G, Lo, R, Z, -, ⟨⟨-, -, ⟨a, -⟩, -⟩, -⟩, -⟩, -⟩ := h
  exact a
theorem IV_TBL (h : IV n L T c) : TBL c (rfr c) 200000 := by
  have hN := IV_NN h
  have hV := IV_NW h
  have hR := IV_NR h
  obtain ⟨⟨G, Lo, R, Z, -, -, ⟨g, r, -⟩, ⟨⟨-, -, -, ⟨f1, f2⟩, s0, s1⟩, -⟩, -⟩, -⟩ := h
  refine rfr_TBL hR hN hV fun e => ?_
  have r2 := r.2 (by rw [e]; exact s0)
  rw [e] at r2
  have gg := g _ s0 s1
  exact FT_TBL (FT_G r2 gg.1 hN gg.2.1.1 hV (NB_sy f2)) fun _ _ _ _ => rfl
theorem rfr_1 : rfr c 100026 1 = c 100014 0 := by
  unfold rfr
  split
  · assumption
  · exact gu_s
theorem IV_rfr (h : IV n L T c) (h2 : n ≤ 990) : IV n L T (rfr c) := by
  have hN := IV_NN h
  have hV := IV_NW h
  have hT := IV_TBL h
  have ok := rfr_ok (IV_RG h) (IV_SR h) (IV_NR h)
  obtain ⟨⟨G, Lo, R, Z, i⟩, s⟩ := h
  have i0 := i
  obtain ⟨⟨t, f⟩, ⟨⟨a1, -, ⟨a3, a4, a5⟩, -, -⟩, ⟨-, b2, -, b4⟩, -⟩, ⟨d1, d2, d3⟩, ⟨⟨-, -, -, ⟨f1, f2⟩, s0, s1⟩, -⟩, -⟩ := i
  have e : ∀ k : Nat, ¬ (100026 ≤ k ∧ k < 100029) → rfr c k = c k := fun k hk => funext fun j => ok.2.2 k (by omega) (by omega) (by omega) j
  have gg := d1 _ s0 s1
  have cr : CCR G Lo (rfr c) := by
    unfold CCR
    rw [rfr_1]
    exact ⟨Or.inr ⟨s0, s1⟩, fun _ => FT_G (TBL_FT hT) hN gg.1 hV gg.2.1.1 f2⟩
  refine ⟨⟨G, Lo, R, Z, INV_k i0 ⟨fun k hk => e k (by omega), by rw [e _ (by decide)], fun j _ _ _ => by rw [e _ (by decide)]⟩ ok.1 ok.2.1 (PR_o a4 fun k hk => e k (by omega)) (PQ_o a5 (PT_k t.2.2.1).1 fun k hk => e k (by omega)) (fun j j0 j1 => by rw [e _ (by decide)]; exact b2 j j0 j1) (by rw [e _ (by decide)]; exact b4) cr (CCP_o d3 fun k k0 k1 => e k (by omega)) (TGS_c t (e _ (by decide)) fun k hk j => by rw [e k (by omega)]) f (Nat.le_refl _) (by omega)⟩, s⟩
theorem IV_mll (h : IV n L T c) (h2 : n ≤ 990) : IV n L T (mll (tw c 0) 200000) ∧ mll (tw c 0) 200000 500001 0 = 0 := by
  have i1 := IV_tw h (by omega) (z := 0) (by decide)
  obtain ⟨p, l⟩ := mll_ok (IV_RG i1) (IV_NW i1)
  have q := IV_LQ i1
  have e : ∀ k : Nat, ¬ k = 200003 → mll (tw c 0) 200000 k = tw c 0 k := fun k hk => p.2 k hk
  exact ⟨IV_MLK i1 ⟨fun k hk _ => e k (by omega), fun j _ _ _ => by rw [e _ (by decide)], p.1, fun j j0 j1 => by rw [e _ (by decide)]; exact q.1 j j0 j1, by rw [e _ (by decide)]; exact q.2⟩ (by omega), by rw [e _ (by decide)]; exact tw_0⟩
/-- both tables, for what the class and the reference tell -/
theorem IV_TT (h : IV n L T c) {c' : gC} (hr : RG c') (es : c' 200000 = c 200000) : TT2 c (rfr c) (mll (tw c' 0) 200000) 200000 ∧ mll (tw c' 0) 200000 200000 = c 200000 := by
  have hV := IV_NW h
  have et : tw c' 0 200000 = c 200000 := by rw [tw_k (by decide)]; exact es
  have hV' : NW (tw c' 0) 200000 := NW_of hV et
  have f := mll_FW hV'
  exact ⟨⟨IV_NN h, hV, IV_TBL h, FWk_e f hV' et.symm, CL1_L (IV_SW h).2.2.2⟩, (mll_FM (tw_RG hr (by decide)) hV' (by decide)).2.2.trans et⟩
end
def RJ (p : Prop) (X : Nat) (v : Int) (T : gT) (c c' J : gC) : (Int ⊕ Nat) → gT → gC → gC → Prop := fun r T1 c1 J1 => J1 = J ∧ ((p ∧ r = .inl v ∧ T1 = T ∧ c1 = c') ∨ (¬ p ∧ r = .inr X ∧ T1 = gTt T ∧ c1 = c))
theorem opj1 {n L : Nat} {T : gT} {c c' J : gC} (h : IV n L T c) (hn : n < 900) {F HF X : Nat} {as : List Value} {p : Prop} {v : Int} (hv : p → -2147483648 ≤ v ∧ v < 2147483648) (e : gE 5 F HF as (gm T c J) (gJ p X (gi v) T c c' J)) : gE 5 F HF as (gm T c J) (gP (RJ p X v T c c' J)) := by
  have fx := IV_fx h hn
  refine gE_mono e fun o M1 q => ?_
  rcases q with ⟨hp, rfl, rfl⟩ | ⟨hp, rfl, rfl⟩
  · exact ⟨T, c', J, rfl, Or.inl ⟨v, rfl, hv hp, IV_out h, rfl, Or.inl ⟨hp, rfl, rfl, rfl⟩⟩⟩
  · exact ⟨gTt T, c, J, rfl, Or.inr ⟨X, rfl, fx.1, rfl, Or.inr ⟨hp, rfl, rfl, rfl⟩⟩⟩
theorem RJ_E {p : Prop} {X : Nat} {v : Int} {T : gT} {c c' J : gC} (Y : Nat) (T1 : gT) (c1 J1 : gC) (h : RJ p X v T c c' J (.inr Y) T1 c1 J1) : Y = X := by
  obtain ⟨-, ⟨-, e, -⟩ | ⟨-, e, -⟩⟩ := h
  · cases e
  · exact Sum.inr.inj e
def gMJ (p : Prop) (v k : Int) (T : gT) (c J : gC) : am_O → am_M → Prop := fun o M1 => (p ∧ o = .inl (some (gi v)) ∧ M1 = gm T (mll (tw c 0) 200000) J) ∨ (¬ p ∧ ∃ b, o = .inl (some (gi b)) ∧ M1 = gm T (tw c k) J)
theorem opj2 {n L : Nat} {T : gT} {c c' J : gC} (hn : n < 900) (h' : IV n L T c') (es : c' 200000 = c 200000) (e8 : c' 800000 = c 800000) {Y HM X : Nat} {as : List Value} {p : Prop} {v k : Int} (hv : p → -2147483648 ≤ v ∧ v < 2147483648) (em : ∀ n' T' c2 J', IV n' L T' c2 → n' < 901 → c2 200000 = c 200000 → gE 5 Y HM as (gm T' c2 J') (gMJ p v k T' c2 J')) : ∀ v' T1 c1 J1, RJ p X v T c c' J (.inl v') T1 c1 J1 → SCP L c T1 c1 ∧ gE 5 Y HM as (gm T1 c1 (gu J1 500002 0 v')) (fun o M1 => ∃ T2 c2 J2, o = .inl (some (gi v')) ∧ M1 = gm T2 c2 J2 ∧ ESP (fun T c _ => IV (n + 1) L T c) 0 T2 c2 J2 ∧ J2 500002 0 = v' ∧ -2147483648 ≤ v' ∧ v' < 2147483648) := by
  intro v' T1 c1 J1 hR
  obtain ⟨rfl, ⟨hp, e, rfl, rfl⟩ | ⟨-, e, -⟩⟩ := hR
  · have e1 : v' = v := Sum.inl.inj e
    subst e1
    refine ⟨⟨h'.2, e8⟩, gE_mono (em n _ _ _ h' (by omega) es) fun o M1 q => ?_⟩
    rcases q with ⟨-, rfl, rfl⟩ | ⟨hq, -⟩
    · have i2 := IV_mll h' (by omega)
      exact ⟨_, _, _, rfl, rfl, ⟨⟨IV_MT h', IV_RG i2.1⟩, i2.2, IV_out h', IV_up i2.1 (by omega)⟩, gu_s, hv hp⟩
    · exact absurd hp hq
  · cases e
theorem opj3 {n L : Nat} {T : gT} {c c' J : gC} (h : IV n L T c) (hn : n < 900) {Y HM X : Nat} {as : List Value} {p : Prop} {v k : Int} {hm : Nat → Int} (hk : hm X = k ∧ 1 ≤ k ∧ k ≤ 3) (em : ∀ n' T' c2 J', IV n' L T' c2 → n' < 901 → c2 200000 = c 200000 → gE 5 Y HM as (gm T' c2 J') (gMJ p v k T' c2 J')) : ∀ X' T1 c1 J1, RJ p X v T c c' J (.inr X') T1 c1 J1 → (1 ≤ hm X' ∧ hm X' ≤ 3) ∧ SCP L c (gTe T1) (gz c1 (700000 + T1.2.1 7)) ∧ gE 5 Y HM as (gm (gTe T1) (gz c1 (700000 + T1.2.1 7)) (gz J1 (700000 + T1.2.1 7))) (fun o M1 => ∃ b T2 c2 J2, o = .inl (some (gi b)) ∧ M1 = gm T2 c2 J2 ∧ ESP (fun T c _ => IV (n + 1) L T c) (hm X') T2 c2 J2) := by
  intro X' T1 c1 J1 hR
  obtain ⟨rfl, ⟨-, e, -⟩ | ⟨hp, e, rfl, rfl⟩⟩ := hR
  · cases e
  · have e1 : X' = X := Sum.inr.inj e
    subst e1
    have i1 := IV_te h hn
    have fx := IV_fx h hn
    have sm : SAM c1 (gz c1 (700000 + T.2.1 7)) := SAM_gz (by omega)
    refine ⟨by rw [hk.1]; exact hk.2, ⟨i1.2, sm _ (Or.inr (by decide))⟩, gE_mono (em (n + 1) _ _ _ i1 (by omega) (sm _ (Or.inl (by decide)))) fun o M1 q => ?_⟩
    rcases q with ⟨hq, -⟩ | ⟨-, b, rfl, rfl⟩
    · exact absurd hq hp
    · have i2 := IV_tw i1 (by omega) (z := k) (by omega)
      exact ⟨b, _, _, _, rfl, rfl, ⟨IV_MT i1, IV_RG i2⟩, by rw [hk.1]; exact tw_0, IV_out i1, i2⟩
theorem gJ2_gJ {p p' : Prop} {X F HF : Nat} {as : List Value} {v : Value} {T : gT} {c c' J : gC} (e : gE 5 F HF as (gm T c J) (gJ2 p X p' X v T c c' J)) : gE 5 F HF as (gm T c J) (gJ (p ∧ p') X v T c c' J) := gE_mono e fun o M1 q => by
  rcases q with ⟨a, b, d, f⟩ | ⟨a, b, d, f⟩ | ⟨a, d, f⟩
  · exact Or.inl ⟨⟨a, b⟩, d, f⟩
  · exact Or.inr ⟨fun w => b w.2, d, f⟩
  · exact Or.inr ⟨fun w => a w.1, d, f⟩
theorem knw_b {x : Int} (h : 0 ≤ x ∧ x ≤ 2000000000) : -2147483648 ≤ knw x ∧ knw x < 2147483648 := by
  unfold knw
  split <;> omega
theorem mtl_b {x : Int} (h : -2147483648 ≤ x) : -2147483648 ≤ mtl x ∧ mtl x < 2147483648 := by
  unfold mtl
  split <;> omega
theorem mln_e {c m : gC} {b : Nat} (e : m b = c b) {a : Int} : mln m b a = mln c b a := by unfold mln; rw [e]
theorem mbg_e {c m : gC} {b : Nat} (e : m b = c b) {a : Int} : mbg m b a = mbg c b a := by unfold mbg; rw [e]
set_option maxHeartbeats 1000000 in
theorem op_15 {L : Nat} : OPC L 950 := by
  intro n T c J i u5 u6 Q hn h hL hi hu hv hend
  have rg := IV_RG h
  have hz := rg 800000 (i + 1)
  have hp := rg 800000 (i + 2)
  have hRT := (IV_CT h).2.2.2.1
  have hS := IV_SR h
  have h' := IV_rfr h (by omega)
  have ok := rfr_ok rg hS (IV_NR h)
  have e2 : rfr c 200000 = c 200000 := funext fun j => ok.2.2 _ (by decide) (by decide) (by decide) j
  have e8 : rfr c 800000 = c 800000 := funext fun j => ok.2.2 _ (by decide) (by decide) (by decide) j
  have a1 : c 100014 1 = c 200000 0 := (IV_NN h).1.1.1
  have a9 := (IV_NW h).1.1
  have hr : (hA c 100014 (c 800000 (i + 1)) = true ∧ hA c 100014 (c 800000 (i + 2)) = true) → -2147483648 ≤ knw (cbh (rfr c) (c 800000 (i + 1)) (c 800000 (i + 2))) ∧ knw (cbh (rfr c) (c 800000 (i + 1)) (c 800000 (i + 2))) < 2147483648 := fun w => by rw [NN_hA (IV_NN h), NN_hA (IV_NN h)] at w; rw [route_k (IV_TT h rg rfl).1 (IV_TT h rg rfl).2 w.1 w.2]; have hh := mle_rg (mll_ok (b := 200000) (tw_RG rg (z := 0) (by decide)) (NW_t (IV_NW h))).2 (mhA_rg (IV_NW h) w.1) (mhA_rg (IV_NW h) w.2); exact mtl_b (by omega)
  have em : ∀ n' T' c2 J', IV n' L T' c2 → n' < 901 → c2 200000 = c 200000 → gE 5 218 5 [.ref 500001, gi (c 800000 (i + 1)), gi (c 800000 (i + 2))] (gm T' c2 J') (gMJ (hA c 100014 (c 800000 (i + 1)) = true ∧ hA c 100014 (c 800000 (i + 2)) = true) (knw (cbh (rfr c) (c 800000 (i + 1)) (c 800000 (i + 2)))) 1 T' c2 J') := fun n' T' c2 J' h2 hn' es => by
    have nn := NN_b (IV_NN h) es
    have hV := IV_NW h2
    obtain ⟨tt, hb⟩ := IV_TT h (IV_RG h2) es
    refine gE_mono (m_x_routeCost (IV_MT h2) (IV_RG h2) hV hz hp) fun o M1 q => ?_
    rcases q with ⟨q1, rfl, rfl⟩ | ⟨q1, rfl, rfl⟩
    · have w : hA c 100014 (c 800000 (i + 1)) = true ∧ hA c 100014 (c 800000 (i + 2)) = true := by rw [Bool.and_eq_true] at q1; rw [NN_hA nn, NN_hA nn]; exact q1
      refine Or.inl ⟨w, congrArg (fun x => (Sum.inl (some (gi x)) : am_O)) (Eq.symm ?_), rfl⟩
      rw [NN_hA (IV_NN h), NN_hA (IV_NN h)] at w; exact route_k tt hb w.1 w.2
    · exact Or.inr ⟨fun x => by rw [NN_hA nn, NN_hA nn] at x; rw [x.1, x.2] at q1; exact absurd q1 (by decide), _, rfl, rfl⟩
  exact lc_15 (E := fun T c _ => IV (n + 1) L T c) (by omega) (by omega) h.2 hL hi hu hv (w_routeCost (opj1 h hn hr (gJ2_gJ (c_x_routeCost (IV_XT h) (IV_NT h) rg (IV_NR h) (IV_WT h).1 (IV_WT h).2 (IV_WR h).1 hRT hS hz hp))) (fun E T1 c1 J1 q => RJ_E E T1 c1 J1 q)) (opj2 hn h' e2 e8 hr em) (opj3 h hn ⟨rfl, by decide, by decide⟩ em) (fun z T2 c2 J2 k b q hk hb => hend T2 c2 J2 k b q.2.2.2 hk hb)
set_option maxHeartbeats 1000000 in
theorem op_16 {L : Nat} : OPC L 1018 := by
  intro n T c J i u5 u6 Q hn h hL hi hu hv hend
  have rg := IV_RG h
  have hz := rg 800000 (i + 1)
  have hp := rg 800000 (i + 2)
  have hRT := (IV_CT h).2.2.2.1
  have hS := IV_SR h
  have h' := IV_rfr h (by omega)
  have ok := rfr_ok rg hS (IV_NR h)
  have e2 : rfr c 200000 = c 200000 := funext fun j => ok.2.2 _ (by decide) (by decide) (by decide) j
  have e8 : rfr c 800000 = c 800000 := funext fun j => ok.2.2 _ (by decide) (by decide) (by decide) j
  have a1 : c 100014 1 = c 200000 0 := (IV_NN h).1.1.1
  have a9 := (IV_NW h).1.1
  have hr : ((0 ≤ (c 800000 (i + 1)) ∧ (c 800000 (i + 1)) < c 100014 1) ∧ (0 ≤ (c 800000 (i + 2)) ∧ (c 800000 (i + 2)) < c 100014 1)) → -2147483648 ≤ knw (cbw (rfr c) (c 800000 (i + 1)) (c 800000 (i + 2))) ∧ knw (cbw (rfr c) (c 800000 (i + 1)) (c 800000 (i + 2))) < 2147483648 := fun w => by rw [path_k (IV_TT h rg rfl).1 (IV_TT h rg rfl).2 (by omega) (by omega)]; have hh := mcw_rg (f := (c 800000 (i + 1))) (t := (c 800000 (i + 2))) (NW_of (IV_NW h) (IV_TT h rg rfl).2) (mll_ok (b := 200000) (tw_RG rg (z := 0) (by decide)) (NW_t (IV_NW h))).2 (by omega); exact mtl_b (by omega)
  have em : ∀ n' T' c2 J', IV n' L T' c2 → n' < 901 → c2 200000 = c 200000 → gE 5 219 7 [.ref 500001, gi (c 800000 (i + 1)), gi (c 800000 (i + 2))] (gm T' c2 J') (gMJ ((0 ≤ (c 800000 (i + 1)) ∧ (c 800000 (i + 1)) < c 100014 1) ∧ (0 ≤ (c 800000 (i + 2)) ∧ (c 800000 (i + 2)) < c 100014 1)) (knw (cbw (rfr c) (c 800000 (i + 1)) (c 800000 (i + 2)))) 1 T' c2 J') := fun n' T' c2 J' h2 hn' es => by
    have nn := NN_b (IV_NN h) es
    have hV := IV_NW h2
    obtain ⟨tt, hb⟩ := IV_TT h (IV_RG h2) es
    refine gE_mono (m_x_pathCost (IV_MT h2) (IV_RG h2) hV hz hp) fun o M1 q => ?_
    rcases q with ⟨q1, rfl, rfl⟩ | ⟨q1, rfl, rfl⟩
    · have w : (0 ≤ (c 800000 (i + 1)) ∧ (c 800000 (i + 1)) < c 100014 1) ∧ (0 ≤ (c 800000 (i + 2)) ∧ (c 800000 (i + 2)) < c 100014 1) := by rw [Bool.and_eq_true] at q1; have x1 := inr_t.mp q1.1; have x2 := inr_t.mp q1.2; rw [es] at x1 x2; omega
      refine Or.inl ⟨w, congrArg (fun x => (Sum.inl (some (gi x)) : am_O)) (Eq.symm ?_), rfl⟩
      exact path_k tt hb (by omega) (by omega)
    · exact Or.inr ⟨fun x => by rw [show mno c2 200000 (c 800000 (i + 1)) = true from inr_t.mpr (by rw [es]; omega), show mno c2 200000 (c 800000 (i + 2)) = true from inr_t.mpr (by rw [es]; omega)] at q1; exact absurd q1 (by decide), _, rfl, rfl⟩
  exact lc_16 (E := fun T c _ => IV (n + 1) L T c) (by omega) (by omega) h.2 hL hi hu hv (w_pathCost (opj1 h hn hr (gJ2_gJ (c_x_pathCost (IV_XT h) (IV_NT h) rg (IV_NR h) (IV_WT h).1 (IV_WT h).2 (IV_WR h).1 hRT hS hz hp))) (fun E T1 c1 J1 q => RJ_E E T1 c1 J1 q)) (opj2 hn h' e2 e8 hr em) (opj3 h hn ⟨rfl, by decide, by decide⟩ em) (fun z T2 c2 J2 k b q hk hb => hend T2 c2 J2 k b q.2.2.2 hk hb)
set_option maxHeartbeats 1000000 in
theorem op_53 {L : Nat} : OPC L 2738 := by
  intro n T c J i u5 u6 Q hn h hL hi hu hv hend
  have rg := IV_RG h
  have hz := rg 800000 (i + 1)
  have hRT := (IV_CT h).2.2.2.1
  have hS := IV_SR h
  have h' := IV_rfr h (by omega)
  have ok := rfr_ok rg hS (IV_NR h)
  have e2 : rfr c 200000 = c 200000 := funext fun j => ok.2.2 _ (by decide) (by decide) (by decide) j
  have e8 : rfr c 800000 = c 800000 := funext fun j => ok.2.2 _ (by decide) (by decide) (by decide) j
  have a1 : c 100014 1 = c 200000 0 := (IV_NN h).1.1.1
  have a9 := (IV_NW h).1.1
  have hr : (hA c 100014 (c 800000 (i + 1)) = true) → -2147483648 ≤ knw (ln (rfr c) 100014 (c 800000 (i + 1)) + cbh (rfr c) (c 800000 (i + 1)) (24 + bg (rfr c) 100014 (c 800000 (i + 1)))) ∧ knw (ln (rfr c) 100014 (c 800000 (i + 1)) + cbh (rfr c) (c 800000 (i + 1)) (24 + bg (rfr c) 100014 (c 800000 (i + 1)))) < 2147483648 := fun w => by rw [NN_hA (IV_NN h)] at w; rw [cycle_k (IV_TT h rg rfl).1 (IV_TT h rg rfl).2 w]; have hq := NW_of (IV_NW h) (IV_TT h rg rfl).2; have ha := mhA_rg (IV_NW h) w; have h1 := mln_rg hq ha; have h2 := mtn_rg (b := 200000) (n := mbg (mll (tw c 0) 200000) 200000 (c 800000 (i + 1))) (mll_ok (b := 200000) (tw_RG rg (z := 0) (by decide)) (NW_t (IV_NW h))).2 ha; exact mtl_b (by omega)
  have em : ∀ n' T' c2 J', IV n' L T' c2 → n' < 901 → c2 200000 = c 200000 → gE 5 227 5 [.ref 500001, gi (c 800000 (i + 1))] (gm T' c2 J') (gMJ (hA c 100014 (c 800000 (i + 1)) = true) (knw (ln (rfr c) 100014 (c 800000 (i + 1)) + cbh (rfr c) (c 800000 (i + 1)) (24 + bg (rfr c) 100014 (c 800000 (i + 1))))) 1 T' c2 J') := fun n' T' c2 J' h2 hn' es => by
    have nn := NN_b (IV_NN h) es
    have hV := IV_NW h2
    obtain ⟨tt, hb⟩ := IV_TT h (IV_RG h2) es
    refine gE_mono (m_x_cycleCost (IV_MT h2) (IV_RG h2) hV hz) fun o M1 q => ?_
    rcases q with ⟨q1, rfl, rfl⟩ | ⟨q1, rfl, rfl⟩
    · have w : hA c 100014 (c 800000 (i + 1)) = true := by rw [NN_hA nn]; exact q1
      refine Or.inl ⟨w, congrArg (fun x => (Sum.inl (some (gi x)) : am_O)) (Eq.symm ?_), rfl⟩
      rw [NN_hA (IV_NN h)] at w; rw [cycle_k tt hb w, mln_e (hb.trans es.symm), mbg_e (hb.trans es.symm)]
    · exact Or.inr ⟨by rw [NN_hA nn, q1]; decide, _, rfl, rfl⟩
  exact lc_53 (E := fun T c _ => IV (n + 1) L T c) (by omega) (by omega) h.2 hL hi hu hv (w_cycleCost (opj1 h hn hr (c_x_cycle (IV_XT h) (IV_NT h) rg (IV_NR h) (IV_WT h).1 (IV_WT h).2 (IV_WR h).1 hRT hS hz)) (fun E T1 c1 J1 q => RJ_E E T1 c1 J1 q)) (opj2 hn h' e2 e8 hr em) (opj3 h hn ⟨rfl, by decide, by decide⟩ em) (fun z T2 c2 J2 k b q hk hb => hend T2 c2 J2 k b q.2.2.2 hk hb)
set_option maxHeartbeats 1000000 in
theorem op_54 {L : Nat} : OPC L 2794 := by
  intro n T c J i u5 u6 Q hn h hL hi hu hv hend
  have rg := IV_RG h
  have hz := rg 800000 (i + 1)
  have hRT := (IV_CT h).2.2.2.1
  have hS := IV_SR h
  have h' := IV_rfr h (by omega)
  have ok := rfr_ok rg hS (IV_NR h)
  have e2 : rfr c 200000 = c 200000 := funext fun j => ok.2.2 _ (by decide) (by decide) (by decide) j
  have e8 : rfr c 800000 = c 800000 := funext fun j => ok.2.2 _ (by decide) (by decide) (by decide) j
  have a1 : c 100014 1 = c 200000 0 := (IV_NN h).1.1.1
  have a9 := (IV_NW h).1.1
  have hr : (0 ≤ (c 800000 (i + 1)) ∧ (c 800000 (i + 1)) < c 100014 1) → -2147483648 ≤ knw (far (rfr c) (c 800000 (i + 1)) (rfr c 100014 1)) ∧ knw (far (rfr c) (c 800000 (i + 1)) (rfr c 100014 1)) < 2147483648 := fun w => by rw [ecc_k (IV_TT h rg rfl).1 (IV_TT h rg rfl).2 (by omega)]; exact mtl_b (by have := mfa_rg (n := (c 800000 (i + 1))) (NW_of (IV_NW h) (IV_TT h rg rfl).2) (mll_ok (b := 200000) (tw_RG rg (z := 0) (by decide)) (NW_t (IV_NW h))).2; omega)
  have em : ∀ n' T' c2 J', IV n' L T' c2 → n' < 901 → c2 200000 = c 200000 → gE 5 229 8 [.ref 500001, gi (c 800000 (i + 1))] (gm T' c2 J') (gMJ (0 ≤ (c 800000 (i + 1)) ∧ (c 800000 (i + 1)) < c 100014 1) (knw (far (rfr c) (c 800000 (i + 1)) (rfr c 100014 1))) 1 T' c2 J') := fun n' T' c2 J' h2 hn' es => by
    have nn := NN_b (IV_NN h) es
    have hV := IV_NW h2
    obtain ⟨tt, hb⟩ := IV_TT h (IV_RG h2) es
    refine gE_mono (m_x_eccentricity (IV_MT h2) (IV_RG h2) hV hz) fun o M1 q => ?_
    rcases q with ⟨q1, rfl, rfl⟩ | ⟨q1, rfl, rfl⟩
    · have w : 0 ≤ (c 800000 (i + 1)) ∧ (c 800000 (i + 1)) < c 100014 1 := by have x1 := inr_t.mp q1; rw [es] at x1; omega
      refine Or.inl ⟨w, congrArg (fun x => (Sum.inl (some (gi x)) : am_O)) (Eq.symm ?_), rfl⟩
      exact ecc_k tt hb (by omega)
    · exact Or.inr ⟨fun x => inr_f.mp q1 (by rw [es]; omega), _, rfl, rfl⟩
  exact lc_54 (E := fun T c _ => IV (n + 1) L T c) (by omega) (by omega) h.2 hL hi hu hv (w_eccentricity (opj1 h hn hr (c_x_ecc (IV_XT h) (IV_NT h) rg (IV_NR h) (IV_WT h).1 (IV_WT h).2 (IV_WR h).1 hRT hS hz)) (fun E T1 c1 J1 q => RJ_E E T1 c1 J1 q)) (opj2 hn h' e2 e8 hr em) (opj3 h hn ⟨rfl, by decide, by decide⟩ em) (fun z T2 c2 J2 k b q hk hb => hend T2 c2 J2 k b q.2.2.2 hk hb)
