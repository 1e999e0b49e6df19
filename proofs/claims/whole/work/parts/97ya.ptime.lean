/-! the law's case: the time of a path -/
theorem IV_LV {n L : Nat} {T : gT} {c : gC} (h : IV n L T c) : ∃ G Lo, LV G (700000 * (n : Int)) Lo c 100014 100034 c 200000 := by
  obtain ⟨⟨G, Lo, R, Z, -, -, -, ⟨a, -⟩, -⟩, -⟩ := h
  exact ⟨G, Lo, a⟩
/-- told, or thrown in one of two ways -/
def RK3 (p q : Prop) (X Y : Nat) (v : Int) (T : gT) (c c' c'' J : gC) : (Int ⊕ Nat) → gT → gC → gC → Prop := fun r T1 c1 J1 => J1 = J ∧ ((p ∧ q ∧ r = .inl v ∧ T1 = T ∧ c1 = c') ∨ (p ∧ ¬ q ∧ r = .inr X ∧ T1 = gTt T ∧ c1 = c'') ∨ (¬ p ∧ r = .inr Y ∧ T1 = gTt T ∧ c1 = c))
theorem RK3_E {p q : Prop} {X Y : Nat} {v : Int} {T : gT} {c c' c'' J : gC} (Z : Nat) (T1 : gT) (c1 J1 : gC) (h : RK3 p q X Y v T c c' c'' J (.inr Z) T1 c1 J1) : Z = Y ∨ Z = X := by
  obtain ⟨-, ⟨-, -, e, -⟩ | ⟨-, -, e, -⟩ | ⟨-, e, -⟩⟩ := h
  · cases e
  · exact Or.inr (Sum.inr.inj e)
  · exact Or.inl (Sum.inr.inj e)
theorem opk1 {n L : Nat} {T : gT} {c c' c'' J : gC} (h : IV n L T c) (hn : n < 900) {F HF X Y : Nat} {as : List Value} {p q : Prop} {v : Int} (hv : p → q → -2147483648 ≤ v ∧ v < 2147483648) (e : gE 5 F HF as (gm T c J) (fun o M1 => (p ∧ q ∧ o = .inl (some (gi v)) ∧ M1 = gm T c' J) ∨ (p ∧ ¬ q ∧ o = .inr X ∧ M1 = gm (gTt T) c'' J) ∨ (¬ p ∧ o = .inr Y ∧ M1 = gm (gTt T) c J))) : gE 5 F HF as (gm T c J) (gP (RK3 p q X Y v T c c' c'' J)) := by
  have fx := IV_fx h hn
  refine gE_mono e fun o M1 w => ?_
  rcases w with ⟨hp, hq, rfl, rfl⟩ | ⟨hp, hq, rfl, rfl⟩ | ⟨hp, rfl, rfl⟩
  · exact ⟨T, c', J, rfl, Or.inl ⟨v, rfl, hv hp hq, IV_out h, rfl, Or.inl ⟨hp, hq, rfl, rfl, rfl⟩⟩⟩
  · exact ⟨gTt T, c'', J, rfl, Or.inr ⟨X, rfl, fx.1, rfl, Or.inr (Or.inl ⟨hp, hq, rfl, rfl, rfl⟩)⟩⟩
  · exact ⟨gTt T, c, J, rfl, Or.inr ⟨Y, rfl, fx.1, rfl, Or.inr (Or.inr ⟨hp, rfl, rfl, rfl⟩)⟩⟩
def gMK (I : gC → Prop) (p q : Prop) (v kX kY : Int) (T : gT) (J : gC) : am_O → am_M → Prop := fun o M1 => ∃ b c3, o = .inl (some (gi b)) ∧ M1 = gm T c3 J ∧ I c3 ∧ ((p ∧ q ∧ b = v ∧ c3 500001 0 = 0) ∨ (p ∧ ¬ q ∧ c3 500001 0 = kX) ∨ (¬ p ∧ c3 500001 0 = kY))
theorem opk2 {n L : Nat} {T : gT} {c c' c'' J : gC} (hn : n < 900) {Y0 HM X Y : Nat} {as : List Value} {p q : Prop} (h : p → IV n L T c' ∧ c' 200000 = c 200000 ∧ c' 800000 = c 800000) {v kX kY : Int} (hv : p → q → -2147483648 ≤ v ∧ v < 2147483648) (em : ∀ n' T' c2 J', IV n' L T' c2 → n' < 901 → c2 200000 = c 200000 → gE 5 Y0 HM as (gm T' c2 J') (gMK (IV n' L T') p q v kX kY T' J')) : ∀ v' T1 c1 J1, RK3 p q X Y v T c c' c'' J (.inl v') T1 c1 J1 → SCP L c T1 c1 ∧ gE 5 Y0 HM as (gm T1 c1 (gu J1 500002 0 v')) (fun o M1 => ∃ T2 c2 J2, o = .inl (some (gi v')) ∧ M1 = gm T2 c2 J2 ∧ ESP (fun T c _ => IV (n + 1) L T c) 0 T2 c2 J2 ∧ J2 500002 0 = v' ∧ -2147483648 ≤ v' ∧ v' < 2147483648) := by
  intro v' T1 c1 J1 hR
  obtain ⟨rfl, ⟨hp, hq, e, rfl, rfl⟩ | ⟨-, -, e, -⟩ | ⟨-, e, -⟩⟩ := hR
  · have e1 : v' = v := Sum.inl.inj e
    subst e1
    obtain ⟨h', es, e8⟩ := h hp
    refine ⟨⟨h'.2, e8⟩, gE_mono (em n _ _ _ h' (by omega) es) fun o M1 w => ?_⟩
    obtain ⟨b, c3, rfl, rfl, i3, ⟨-, -, rfl, z0⟩ | ⟨-, w, -⟩ | ⟨w, -⟩⟩ := w
    · exact ⟨_, _, _, rfl, rfl, ⟨⟨IV_MT h', IV_RG i3⟩, z0, IV_out h', IV_up i3 (by omega)⟩, gu_s, hv hp hq⟩
    · exact absurd hq w
    · exact absurd hp w
  · cases e
  · cases e
theorem opk3 {n L : Nat} {T : gT} {c c' c'' J : gC} (h : IV n L T c) {Y0 HM X Y : Nat} {as : List Value} {p q : Prop} (h2 : p → IV n L T c'' ∧ c'' 200000 = c 200000 ∧ c'' 800000 = c 800000) (hn : n < 900) {v kX kY : Int} {hm : Nat → Int} (hkX : hm X = kX ∧ 1 ≤ kX ∧ kX ≤ 3) (hkY : hm Y = kY ∧ 1 ≤ kY ∧ kY ≤ 3) (em : ¬ (p ∧ q) → ∀ n' T' c2 J', IV n' L T' c2 → n' < 901 → c2 200000 = c 200000 → gE 5 Y0 HM as (gm T' c2 J') (gMK (IV n' L T') p q v kX kY T' J')) : ∀ X' T1 c1 J1, RK3 p q X Y v T c c' c'' J (.inr X') T1 c1 J1 → (1 ≤ hm X' ∧ hm X' ≤ 3) ∧ SCP L c (gTe T1) (gz c1 (700000 + T1.2.1 7)) ∧ gE 5 Y0 HM as (gm (gTe T1) (gz c1 (700000 + T1.2.1 7)) (gz J1 (700000 + T1.2.1 7))) (fun o M1 => ∃ b T2 c2 J2, o = .inl (some (gi b)) ∧ M1 = gm T2 c2 J2 ∧ ESP (fun T c _ => IV (n + 1) L T c) (hm X') T2 c2 J2) := by
  intro X' T1 c1 J1 hR
  have fx := IV_fx h hn
  obtain ⟨rfl, ⟨-, -, e, -⟩ | ⟨hp, hq, e, rfl, rfl⟩ | ⟨hp, e, rfl, rfl⟩⟩ := hR
  · cases e
  · have e1 : X' = X := Sum.inr.inj e
    subst e1
    obtain ⟨h'', es, e8⟩ := h2 hp
    have i1 := IV_te h'' hn
    have sm : SAM c1 (gz c1 (700000 + T.2.1 7)) := SAM_gz (by omega)
    refine ⟨by rw [hkX.1]; exact hkX.2, ⟨i1.2, (sm _ (Or.inr (by decide))).trans e8⟩, gE_mono (em (fun w => hq w.2) (n + 1) _ _ _ i1 (by omega) ((sm _ (Or.inl (by decide))).trans es)) fun o M1 w => ?_⟩
    obtain ⟨b, c3, rfl, rfl, i3, ⟨-, w, -⟩ | ⟨-, -, z0⟩ | ⟨w, -⟩⟩ := w
    · exact absurd w hq
    · exact ⟨b, _, _, _, rfl, rfl, ⟨IV_MT i1, IV_RG i3⟩, by rw [hkX.1]; exact z0, IV_out i1, i3⟩
    · exact absurd hp w
  · have e1 : X' = Y := Sum.inr.inj e
    subst e1
    have i1 := IV_te h hn
    have sm : SAM c1 (gz c1 (700000 + T.2.1 7)) := SAM_gz (by omega)
    refine ⟨by rw [hkY.1]; exact hkY.2, ⟨i1.2, sm _ (Or.inr (by decide))⟩, gE_mono (em (fun w => hp w.1) (n + 1) _ _ _ i1 (by omega) (sm _ (Or.inl (by decide)))) fun o M1 w => ?_⟩
    obtain ⟨b, c3, rfl, rfl, i3, ⟨w, -⟩ | ⟨w, -⟩ | ⟨-, z0⟩⟩ := w
    · exact absurd w hp
    · exact absurd w hp
    · exact ⟨b, _, _, _, rfl, rfl, ⟨IV_MT i1, IV_RG i3⟩, by rw [hkY.1]; exact z0, IV_out i1, i3⟩
set_option maxHeartbeats 1000000 in
theorem op_61 {L : Nat} : OPC L 3186 := by
  intro n T c J i u5 u6 Q hn h hL hi hu hv hend
  have rg := IV_RG h
  have hz := rg 800000 (i + 1)
  have hRT := (IV_CT h).2.2.2.1
  have hS := IV_SR h
  have ok := rfr_ok rg hS (IV_NR h)
  have ct := (IV_CT h).2.2.2.2.2.1
  have e34 : rfr c 100034 = c 100034 := funext fun j => ok.2.2 _ (by decide) (by decide) (by decide) j
  have ef : rfr c 100034 2 = c 200000 6 := by rw [e34]; exact (IV_SW h).2.1.1.1.2
  have hf6 := (IV_WR h).2.2.1.2
  have h1 := c_x_pathTime (g := 5) (J := J) (IV_XT h) (IV_NT h) rg (IV_NR h) (IV_WT h).1 (IV_WT h).2 (IV_WR h).1 hRT hS ct.1 ct.2 (by omega) hz
  rw [ef] at h1
  obtain ⟨iX, eX⟩ := IV_fpx h (by omega) (f := c 200000 6) (t := c 800000 (i + 1)) (by omega)
  have len := fpx_len (c := rfr c) (f := c 200000 6) (t := c 800000 (i + 1)) (i := 24) (by decide)
  have arc := (fpx_arc (c := rfr c) (f := c 200000 6) (t := c 800000 (i + 1)) (i := 24) (by decide) (by decide)).2
  have er : ∀ k : Nat, ¬ (100026 ≤ k ∧ k < 100029) → rfr c k = c k := fun k hk => funext fun j => ok.2.2 k (by omega) (by omega) (by omega) j
  generalize hz' : c 800000 (i + 1) = z at *
  generalize hx : fpx (rfr c) (c 200000 6) z 24 = x at *
  have ec : ∀ k : Nat, ¬ (100026 ≤ k ∧ k < 100030) → x.2.2 k = c k := fun k hk => (eX k (by omega) (by omega)).trans (er k (by omega))
  have rX := IV_RG iX
  have rW : RG (wcp x.2.2 100039 100034) := wcp_RG rX
  have kW : ∀ k : Nat, (k < 100039 ∨ 100044 ≤ k) → wcp x.2.2 100039 100034 k = x.2.2 k := fun k hk => funext fun j => wcp_k (by omega)
  have nW : NR (wcp x.2.2 100039 100034) 100014 := NR_k2 (IV_NR iX) fun k k0 k1 j => by rw [kW k (by omega)]
  have wW : WR (wcp x.2.2 100039 100034) 100039 (700000 * (n : Int)) := WEQ_WR (wcp_eq (by decide)) (IV_WR iX).1
  have D := drl_ok (s := false) (n := 100014) (w := 100039) (q := 100029) rW nW wW (by omega) (by decide) (x.2.2 100026 5) len.1 (by omega) (fun j j0 j1 => by rw [kW _ (by decide)]; exact arc j j0 j1)
  have kD : ∀ k : Nat, (k < 100039 ∨ 100044 ≤ k) → (drl (wcp x.2.2 100039 100034) 100014 100039 100029 false (x.2.2 100026 5)).2 k = x.2.2 k := fun k hk => funext fun j => by rw [D.2.2.1 k hk j, kW k hk]
  have i2 : IV n L T (drl (wcp x.2.2 100039 100034) 100014 100039 100029 false (x.2.2 100026 5)).2 := IV_sc iX (by omega) (fun k _ _ k2 => kD k (by omega)) (by rw [kD _ (by decide)]) D.1
  have hr : (0 ≤ z ∧ z < c 100014 1) → x.1 = z → -2147483648 ≤ (drl (wcp x.2.2 100039 100034) 100014 100039 100029 false (x.2.2 100026 5)).1 ∧ (drl (wcp x.2.2 100039 100034) 100014 100039 100029 false (x.2.2 100026 5)).1 < 2147483648 := fun _ _ => by omega
  have a1 : c 100014 1 = c 200000 0 := (IV_NN h).1.1.1
  have em : ∀ n' T' c2 J', IV n' L T' c2 → n' < 901 → c2 200000 = c 200000 → gE 5 286 8 [.ref 500001, gi z] (gm T' c2 J') (gMK (IV n' L T') (0 ≤ z ∧ z < c 100014 1) (x.1 = z) (drl (wcp x.2.2 100039 100034) 100014 100039 100029 false (x.2.2 100026 5)).1 2 1 T' J') := fun n' T' c2 J' h2 hn' es => by
    have r2 := IV_RG h2
    have hno : mno c2 200000 z = true ↔ 0 ≤ z ∧ z < c 100014 1 := by
      unfold mno
      rw [inr_t, es]
      omega
    have hcn : mcr c2 200000 z = true → mno c2 200000 z = true := fun w => by
      unfold mcr at w
      rw [Bool.and_eq_true] at w
      exact w.1
    have hgo : ∀ w : mno c2 200000 z = true, (mcr c2 200000 z = true ↔ x.1 = z) := fun w => by
      have w2 := hno.mp w
      obtain ⟨t2, ⟨t3, t4, t5⟩, t6, t7⟩ := pt_m h r2 es (z := z) (by omega)
      have po := IV_po h (z := z) (by omega)
      rw [t7, ← go_i t2 ccb_b.symm t4 t3 po.1 po.2.1, hx]
    refine gE_mono (m_x_pathTime (IV_MT h2) r2 (IV_NW h2) (IV_WR h2).2 (by omega) hz (fun w => (pt_m h r2 es (by have := hno.mp w; omega)).2.2.1) (fun w w2 => ?_)) fun o M1 q => ?_
    · have w3 := hno.mp (hcn w)
      have t := (pt_m h r2 es (z := z) (by omega)).2.2.2.mp w
      rw [es] at w2 ⊢
      exact t.resolve_left w2
    · rcases q with ⟨q1, q2, rfl, rfl⟩ | ⟨q1, q2, rfl, rfl⟩ | ⟨q1, rfl, rfl⟩
      · have w2 := hno.mp q1
        obtain ⟨t2, ⟨t3, t4, t5⟩, t6, t7⟩ := pt_m h r2 es (z := z) (by omega)
        have po := IV_po h (z := z) (by omega)
        have pv := pt_IV h2 hn' (z := z) (by rw [es]; omega) q2 (s := false)
        obtain ⟨G, Lo, lv⟩ := IV_LV h
        have e6 : pM c2 200002 6 = c 200000 6 := t5 6 (by decide) (by decide)
        have hwq : WEQ (wcp x.2.2 100039 100034) 100039 c 100034 := by
          have w := wcp_eq (c := x.2.2) (w := 100039) (v := 100034) (by decide)
          unfold WEQ at w ⊢
          rw [ec 100034 (by decide), ec (100034 + 1) (by decide), ec (100034 + 2) (by decide), ec (100034 + 3) (by decide), ec (100034 + 4) (by decide)] at w
          exact w
        have sw := (LV_cp lv (NEQ_o (c' := wcp x.2.2 100039 100034) fun k k0 k1 j => by rw [kW k (by omega), ec k (by omega)]) hwq t5).1.1
        have ge := go_e (s := false) (w := 100039) t2 ccb_b.symm ⟨⟨by decide, by decide⟩, by decide⟩ t4 t3 (by decide) sw po.2.1 (by rw [t5 0 (by decide) (by decide)]; exact po.2.2.1) (fun j j0 j1 => by rw [kW _ (by decide), e6, hx]) (by rw [e6]; exact t7.mp q2)
        rw [e6, hx] at ge
        have epM : pM c2 = gcp (mll (tw c2 0) 200000) 200000 200002 0 0 208 := rfl
        rw [← epM]
        exact ⟨(mgt (pM c2) 200002 z false).1, (mgt (pM c2) 200002 z false).2, rfl, rfl, pv.1, Or.inl ⟨w2, (hgo q1).mp q2, ge.2.2.1.symm, pv.2⟩⟩
      · exact ⟨_, _, rfl, rfl, IV_tw h2 (by omega) (by decide), Or.inr (Or.inl ⟨hno.mp q1, (fun w => by rw [(hgo q1).mpr w] at q2; cases q2), tw_0⟩)⟩
      · exact ⟨_, _, rfl, rfl, IV_tw h2 (by omega) (by decide), Or.inr (Or.inr ⟨(fun w => by rw [hno.mpr w] at q1; cases q1), tw_0⟩)⟩
  exact lc_61 (HW := 9) (HM := 8) (E := fun T c _ => IV (n + 1) L T c) (by omega) (by omega) h.2 hL hi hu hv (by rw [hz']; exact w_pathTime (opk1 h hn hr h1) (fun E T1 c1 J1 q => RK3_E E T1 c1 J1 q)) (by rw [hz']; exact opk2 hn (fun _ => ⟨i2, (kD _ (by decide)).trans (ec _ (by decide)), (kD _ (by decide)).trans (ec _ (by decide))⟩) hr em) (by rw [hz']; exact opk3 h (fun _ => ⟨iX, ec _ (by decide), ec _ (by decide)⟩) hn ⟨rfl, by decide, by decide⟩ ⟨rfl, by decide, by decide⟩ (fun _ => em)) (fun z T2 c2 J2 k b q hk hb => hend T2 c2 J2 k b q.2.2.2 hk hb)
