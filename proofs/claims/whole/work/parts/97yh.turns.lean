/-! the law's case: the turns of a plan -/
theorem LO_all {m : gC} {b : Nat} (hV : NW m b) (h : FWk m b 24 m) (h1 : L1 m b) {y : Int} (hy : 0 ≤ y) : LO m b y := by
  by_cases y24 : y < 24
  · cases hA : mhA m b y with
    | true => exact LO_arc hV h h1 hA
    | false =>
      refine ⟨h1, fun a ha h0 hlt => ?_⟩
      rw [mlt_a y24] at hlt
      have w := (WLK_h (h.2.2.2 a y (mhA_rg hV ha) ⟨hy, y24⟩ hlt)).2
      rw [hA] at w
      cases w
  · have := LO_node hV h h1 (n := y - 24) (by omega)
    rw [show 24 + (y - 24) = y by omega] at this
    exact this
theorem mlt_nd {m : gC} {b : Nat} {a d : Int} (h : 0 ≤ d) : mlt m b a (24 + d) = mtn m b a d := by
  unfold mlt
  rw [if_neg (by omega), show 24 + d - 24 = d by omega]
theorem legs {M : gC} {b : Nat} {z : Int} (f2 : NW M b) (f1 : FWk M b 24 M) (hL : LR M) (f3 : L1 M b) (hK : qK M b z ≤ 12) (hC : qC M b z < 1000000000) : ∀ i : Nat, (i : Int) < qK M b z → (I24 (qO M b z i) ∧ mhA M b (qO M b z i) = true) ∧ (i = 0 → mcf M b (M b 2) (-1) (qO M b z i) < 1000000000) ∧ (∀ k : Nat, i = k + 1 → ¬ qO M b z k = qO M b z i ∧ mcf M b (men M b (qO M b z k)) (qO M b z k) (qO M b z i) < 1000000000) ∧ ((i : Int) + 1 = qK M b z → ¬ men M b (qO M b z i) = M b 2 → 0 ≤ M b 2 → M b 2 < 10 → mcf M b (men M b (qO M b z i)) (qO M b z i) (24 + M b 2) < 1000000000) := by
  intro i hi
  have hPH := q_PHY f2 f1 hL f3 hK
  have P := POR_I hPH hC
  have arc : ∀ j : Nat, (j : Int) < qK M b z → I24 (qO M b z j) ∧ mhA M b (qO M b z j) = true := fun j hj => by
    have p := (P j hj).1.2
    obtain ⟨a1, a2, -⟩ := nb_sp p.1 p.2
    exact ⟨a1, (tb_req a1 a2).1⟩
  refine ⟨arc i hi, fun e => ?_, fun k e => ?_, fun e hd d0 d1 => ?_⟩
  · subst e
    exact (POR_0 hPH (by omega) hC).2.1
  · subst e
    have pk := P k (by omega)
    obtain ⟨s1, ⟨s2, s3⟩, -⟩ := POR_s hPH (C := qC M b z) (i := k) (by omega) pk
    have ne : ¬ qO M b z k = qO M b z (k + 1) := fun q => by
      have x := nb_inj pk.1.2.1 pk.1.2.2 s1.1.2.1 s1.1.2.2 q
      have y := pk.2.1
      rw [x] at y
      exact absurd (y.symm.trans s2) (by decide)
    have a1 := arc k (by omega)
    have a2 := arc (k + 1) hi
    have hm : mlt M b (qO M b z k) (qO M b z (k + 1)) = tE M (qO M b z k) (qO M b z (k + 1)) := mlt_a a2.1.2
    have s4 : tE M (qO M b z k) (qO M b z (k + 1)) < 1000000000 := s3
    have t0 := f1.1 _ _ a1.1 a2.1
    have t1 : ¬ tE M (qO M b z k) (qO M b z (k + 1)) = 0 := fun q => ne (FW_self f2 f1 f3 a1.2 a2.2 q)
    exact ⟨ne, by rw [mcf_mlt f2 f1 hL f3 a1.2 (Or.inl ⟨a2.1.1, a2.1.2, a2.2⟩) (by rw [hm]; omega) (by rw [hm]; exact s4), hm]; exact s4⟩
  · obtain ⟨⟨p1, p2⟩, p3, p4, p5⟩ := P i hi
    have z0 := (cnt_zero hPH.1.1 p1).1 (by omega)
    rw [z0, RW_0 hPH.1.1] at p5
    have h9 : mtn M b (qO M b z i) (M b 2) < 1000000000 := p5
    have a1 := arc i hi
    have n0 : ¬ mtn M b (qO M b z i) (M b 2) = 0 := fun q => hd ((mtn_0 f2 f1 hL f3 a1.2).1 q)
    have r := mtn_rg (b := b) (n := M b 2) hL a1.1
    rw [mcf_mlt f2 f1 hL f3 a1.2 (Or.inr ⟨by omega, by omega⟩) (by rw [mlt_nd d0]; omega) (by rw [mlt_nd d0]; exact h9), mlt_nd d0]
    exact h9
theorem TT2_mm {c mm M X : gC} {b : Nat} (h : TT2 c mm M b) (hX : NF mm X 100014) (e27 : X 100027 = mm 100027) (e28 : X 100028 = mm 100028) : TT2 c X M b := by
  obtain ⟨⟨s1, s2⟩, s3⟩ := h.tb
  refine ⟨h.nn, h.nw, ⟨⟨fun k k0 k1 j => (hX k k0 k1 j).trans (s1 k k0 k1 j), fun p t hp ht => ?_⟩, fun s hs => ?_⟩, h.fw, h.l1⟩
  · rw [show sE X p t = sE mm p t by unfold sE; rw [e27]]
    exact s2 p t hp ht
  · simp only [e28]
    exact s3 s hs
/-- told with what is known of it, or thrown -/
def RY (n L : Nat) (W : Int → gC → Prop) (PT : Prop) (PX : Nat → Prop) (c : gC) : (Int ⊕ Nat) → gT → gC → gC → Prop := fun r T1 c1 _ => (PT ∧ ∃ v, r = .inl v ∧ (-2147483648 ≤ v ∧ v < 2147483648) ∧ IT n L c T1 c1 ∧ W v c1) ∨ (∃ X, PX X ∧ r = .inr X ∧ ∃ T0, T1 = gTt T0 ∧ IT n L c T0 c1)
theorem RY_E {n L : Nat} {W : Int → gC → Prop} {PT : Prop} {PX : Nat → Prop} {c : gC} (Z : Nat) (T1 : gT) (c1 J1 : gC) (h : RY n L W PT PX c (.inr Z) T1 c1 J1) : PX Z := by
  rcases h with ⟨-, v, e, -⟩ | ⟨X, a, e, -⟩
  · cases e
  · rw [Sum.inr.inj e]; exact a
theorem opy1 {n L : Nat} {T : gT} {c J : gC} (hn : n < 900) {F HF : Nat} {as : List Value} {W : Int → gC → Prop} {PT : Prop} {PX : Nat → Prop} (e : gE 5 F HF as (gm T c J) (fun o M1 => ∃ T1 c1 J1, (PT ∧ ∃ v, (-2147483648 ≤ v ∧ v < 2147483648) ∧ o = .inl (some (gi v)) ∧ M1 = gm T1 c1 J1 ∧ IT n L c T1 c1 ∧ W v c1) ∨ (∃ X, PX X ∧ o = .inr X ∧ M1 = gm (gTt T1) c1 J1 ∧ IT n L c T1 c1))) : gE 5 F HF as (gm T c J) (gP (RY n L W PT PX c)) := by
  refine gE_mono e fun o M1 w => ?_
  obtain ⟨T1, c1, J1, ⟨hp, v, hv, rfl, rfl, hi, hw⟩ | ⟨X, hp, rfl, rfl, hi⟩⟩ := w
  · exact ⟨T1, c1, J1, rfl, Or.inl ⟨v, rfl, hv, IV_out hi.1, Or.inl ⟨hp, v, rfl, hv, hi, hw⟩⟩⟩
  · have fx := IV_fx hi.1 hn
    exact ⟨gTt T1, c1, J1, rfl, Or.inr ⟨X, rfl, fx.1, Or.inr ⟨X, hp, rfl, T1, rfl, hi⟩⟩⟩
theorem opy2 {n L : Nat} {c : gC} (hn : n < 900) {Y0 HM : Nat} {as : List Value} {W : Int → gC → Prop} {PT : Prop} {PX : Nat → Prop} (em : PT → ∀ v n' T' c2 J', IV n' L T' c2 → n' < 901 → c2 200000 = c 200000 → W v c2 → gE 5 Y0 HM as (gm T' c2 J') (fun o M1 => ∃ c3, o = .inl (some (gi v)) ∧ M1 = gm T' c3 J' ∧ IV n' L T' c3 ∧ c3 500001 0 = 0)) : ∀ v' T1 c1 J1, RY n L W PT PX c (.inl v') T1 c1 J1 → SCP L c T1 c1 ∧ gE 5 Y0 HM as (gm T1 c1 (gu J1 500002 0 v')) (fun o M1 => ∃ T2 c2 J2, o = .inl (some (gi v')) ∧ M1 = gm T2 c2 J2 ∧ ESP (fun T c _ => IV (n + 1) L T c) 0 T2 c2 J2 ∧ J2 500002 0 = v' ∧ -2147483648 ≤ v' ∧ v' < 2147483648) := by
  intro v' T1 c1 J1 hR
  rcases hR with ⟨hp, v, e, hv, ⟨h', es, e8⟩, hw⟩ | ⟨X, -, e, -⟩
  · have e1 : v' = v := Sum.inl.inj e
    subst e1
    refine ⟨⟨h'.2, e8⟩, gE_mono (em hp _ n _ _ _ h' (by omega) es hw) fun o M1 w => ?_⟩
    obtain ⟨c3, rfl, rfl, i3, z0⟩ := w
    exact ⟨_, _, _, rfl, rfl, ⟨⟨IV_MT h', IV_RG i3⟩, z0, IV_out h', IV_up i3 (by omega)⟩, gu_s, hv⟩
  · cases e
theorem opy3 {n L : Nat} {c : gC} (hn : n < 900) {Y0 HM : Nat} {as : List Value} {W : Int → gC → Prop} {PT : Prop} {PX : Nat → Prop} {hm : Nat → Int} (hk : ∀ X, PX X → 1 ≤ hm X ∧ hm X ≤ 3) (em : ∀ X n' T' c2 J', PX X → IV n' L T' c2 → n' < 901 → c2 200000 = c 200000 → gE 5 Y0 HM as (gm T' c2 J') (fun o M1 => ∃ b c3, o = .inl (some (gi b)) ∧ M1 = gm T' c3 J' ∧ IV n' L T' c3 ∧ c3 500001 0 = hm X)) : ∀ X' T1 c1 J1, RY n L W PT PX c (.inr X') T1 c1 J1 → (1 ≤ hm X' ∧ hm X' ≤ 3) ∧ SCP L c (gTe T1) (gz c1 (700000 + T1.2.1 7)) ∧ gE 5 Y0 HM as (gm (gTe T1) (gz c1 (700000 + T1.2.1 7)) (gz J1 (700000 + T1.2.1 7))) (fun o M1 => ∃ b T2 c2 J2, o = .inl (some (gi b)) ∧ M1 = gm T2 c2 J2 ∧ ESP (fun T c _ => IV (n + 1) L T c) (hm X') T2 c2 J2) := by
  intro X' T1 c1 J1 hR
  rcases hR with ⟨-, v, e, -⟩ | ⟨X, hp, e, T0, rfl, h', es, e8⟩
  · cases e
  · have e1 : X' = X := Sum.inr.inj e
    subst e1
    have fx := IV_fx h' hn
    have i1 := IV_te h' hn
    have sm : SAM c1 (gz c1 (700000 + T0.2.1 7)) := SAM_gz (by omega)
    refine ⟨hk _ hp, ⟨i1.2, (sm _ (Or.inr (by decide))).trans e8⟩, gE_mono (em _ (n + 1) _ _ _ hp i1 (by omega) ((sm _ (Or.inl (by decide))).trans es)) fun o M1 w => ?_⟩
    obtain ⟨b, c3, rfl, rfl, i3, z0⟩ := w
    exact ⟨b, _, _, _, rfl, rfl, ⟨IV_MT i1, IV_RG i3⟩, z0, IV_out i1, i3⟩
/-- the reference's memory behind the plan -/
theorem pl_M {n L : Nat} {T T' : gT} {c c2 : gC} {n' : Nat} (h : IV n L T c) (h2 : IV n' L T' c2) (hn : n' < 901) (es : c2 200000 = c 200000) {z : Int} (hK : qK (mll c 200000) 200000 z ≤ 12) : TT2 c (rfr c) (lpl (tw c2 0) 200000 z).2 200000 ∧ (lpl (tw c2 0) 200000 z).2 200000 = c 200000 ∧ LR (lpl (tw c2 0) 200000 z).2 ∧ RG (lpl (tw c2 0) 200000 z).2 ∧ qK (lpl (tw c2 0) 200000 z).2 200000 z = qK (mll c 200000) 200000 z ∧ qC (lpl (tw c2 0) 200000 z).2 200000 z = qC (mll c 200000) 200000 z ∧ (qC (mll c 200000) 200000 z < 1000000000 → ∀ i : Nat, (i : Int) < qK (mll c 200000) 200000 z → (lpl (tw c2 0) 200000 z).2 200007 (i : Int) = qO (lpl (tw c2 0) 200000 z).2 200000 z i) := by
  obtain ⟨p1, p2, p3, p4, p5, p6, p7, p8, p9⟩ := (pl_m h h2 hn es (z := z)).2 hK
  have rg := IV_RG h
  have hV := IV_NW h
  obtain ⟨tt, hb⟩ := IV_TT h (IV_RG h2) es
  have t2 : TT2 c (rfr c) (lpl (tw c2 0) 200000 z).2 200000 := TT2_M tt p6
  obtain ⟨f1, f2, f3⟩ := mll_FM rg hV (show ¬ 200000 = 200003 by decide)
  obtain ⟨g1, g2, g3⟩ := t2.fM p7
  have nb0 : NB (mll c 200000) 200000 (lpl (tw c2 0) 200000 z).2 200000 := fun j _ => by rw [f3, p7]
  obtain ⟨c1, c2'⟩ := qC_B (z := z) nb0 f2 g2 f1 g1 (mll_ok rg hV).2 (L1_o f3 tt.l1) hK
  exact ⟨t2, p7, p9, p8, (q_B nb0 f2 g2 f1 g1 z).1.symm, c1.symm, fun q i hi => by rw [p3 (by rw [p2]; exact q) i hi, c2' q i hi]⟩
