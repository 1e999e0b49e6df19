/-! the law's cases: plans -/
def IT (n L : Nat) (c : gC) (T1 : gT) (c1 : gC) : Prop := IV n L T1 c1 ∧ c1 200000 = c 200000 ∧ c1 800000 = c 800000
def RX (n L : Nat) (V : Int) (PT : Prop) (PX : Nat → Prop) (c : gC) : (Int ⊕ Nat) → gT → gC → gC → Prop := fun r T1 c1 _ => (PT ∧ r = .inl V ∧ IT n L c T1 c1) ∨ (∃ X, PX X ∧ r = .inr X ∧ ∃ T0, T1 = gTt T0 ∧ IT n L c T0 c1)
theorem RX_E {n L : Nat} {V : Int} {PT : Prop} {PX : Nat → Prop} {c : gC} (Z : Nat) (T1 : gT) (c1 J1 : gC) (h : RX n L V PT PX c (.inr Z) T1 c1 J1) : PX Z := by
  rcases h with ⟨-, e, -⟩ | ⟨X, a, e, -⟩
  · cases e
  · rw [Sum.inr.inj e]; exact a
theorem opx1 {n L : Nat} {T : gT} {c J : gC} (hn : n < 900) {F HF : Nat} {as : List Value} {V : Int} {PT : Prop} {PX : Nat → Prop} (hv : PT → -2147483648 ≤ V ∧ V < 2147483648) (e : gE 5 F HF as (gm T c J) (fun o M1 => ∃ T1 c1 J1, (PT ∧ o = .inl (some (gi V)) ∧ M1 = gm T1 c1 J1 ∧ IT n L c T1 c1) ∨ (∃ X, PX X ∧ o = .inr X ∧ M1 = gm (gTt T1) c1 J1 ∧ IT n L c T1 c1))) : gE 5 F HF as (gm T c J) (gP (RX n L V PT PX c)) := by
  refine gE_mono e fun o M1 w => ?_
  obtain ⟨T1, c1, J1, ⟨hp, rfl, rfl, hi⟩ | ⟨X, hp, rfl, rfl, hi⟩⟩ := w
  · exact ⟨T1, c1, J1, rfl, Or.inl ⟨V, rfl, hv hp, IV_out hi.1, Or.inl ⟨hp, rfl, hi⟩⟩⟩
  · have fx := IV_fx hi.1 hn
    exact ⟨gTt T1, c1, J1, rfl, Or.inr ⟨X, rfl, fx.1, Or.inr ⟨X, hp, rfl, T1, rfl, hi⟩⟩⟩
def gMX (I : gC → Prop) (hm : Nat → Int) (V : Int) (PT : Prop) (PX : Nat → Prop) (T : gT) (J : gC) : am_O → am_M → Prop := fun o M1 => ∃ b c3, o = .inl (some (gi b)) ∧ M1 = gm T c3 J ∧ I c3 ∧ ((PT ∧ b = V ∧ c3 500001 0 = 0) ∨ ∃ X, PX X ∧ c3 500001 0 = hm X)
theorem opx2 {n L : Nat} {c : gC} (hn : n < 900) {Y0 HM : Nat} {as : List Value} {V : Int} {PT : Prop} {PX : Nat → Prop} {hm : Nat → Int} (hv : PT → -2147483648 ≤ V ∧ V < 2147483648) (hex : ∀ X, PX X → ¬ PT) (em : ∀ n' T' c2 J', IV n' L T' c2 → n' < 901 → c2 200000 = c 200000 → gE 5 Y0 HM as (gm T' c2 J') (gMX (IV n' L T') hm V PT PX T' J')) : ∀ v' T1 c1 J1, RX n L V PT PX c (.inl v') T1 c1 J1 → SCP L c T1 c1 ∧ gE 5 Y0 HM as (gm T1 c1 (gu J1 500002 0 v')) (fun o M1 => ∃ T2 c2 J2, o = .inl (some (gi v')) ∧ M1 = gm T2 c2 J2 ∧ ESP (fun T c _ => IV (n + 1) L T c) 0 T2 c2 J2 ∧ J2 500002 0 = v' ∧ -2147483648 ≤ v' ∧ v' < 2147483648) := by
  intro v' T1 c1 J1 hR
  rcases hR with ⟨hp, e, h', es, e8⟩ | ⟨X, -, e, -⟩
  · have e1 : v' = V := Sum.inl.inj e
    subst e1
    refine ⟨⟨h'.2, e8⟩, gE_mono (em n _ _ _ h' (by omega) es) fun o M1 w => ?_⟩
    obtain ⟨b, c3, rfl, rfl, i3, ⟨-, rfl, z0⟩ | ⟨X, w, -⟩⟩ := w
    · exact ⟨_, _, _, rfl, rfl, ⟨⟨IV_MT h', IV_RG i3⟩, z0, IV_out h', IV_up i3 (by omega)⟩, gu_s, hv hp⟩
    · exact absurd hp (hex X w)
  · cases e
theorem opx3 {n L : Nat} {c : gC} (hn : n < 900) {Y0 HM : Nat} {as : List Value} {V : Int} {PT : Prop} {PX : Nat → Prop} {hm : Nat → Int} (hex : ∀ X, PX X → ¬ PT) (hun : ∀ X X', PX X → PX X' → X = X') (hk : ∀ X, PX X → 1 ≤ hm X ∧ hm X ≤ 3) (em : ∀ n' T' c2 J', IV n' L T' c2 → n' < 901 → c2 200000 = c 200000 → gE 5 Y0 HM as (gm T' c2 J') (gMX (IV n' L T') hm V PT PX T' J')) : ∀ X' T1 c1 J1, RX n L V PT PX c (.inr X') T1 c1 J1 → (1 ≤ hm X' ∧ hm X' ≤ 3) ∧ SCP L c (gTe T1) (gz c1 (700000 + T1.2.1 7)) ∧ gE 5 Y0 HM as (gm (gTe T1) (gz c1 (700000 + T1.2.1 7)) (gz J1 (700000 + T1.2.1 7))) (fun o M1 => ∃ b T2 c2 J2, o = .inl (some (gi b)) ∧ M1 = gm T2 c2 J2 ∧ ESP (fun T c _ => IV (n + 1) L T c) (hm X') T2 c2 J2) := by
  intro X' T1 c1 J1 hR
  rcases hR with ⟨-, e, -⟩ | ⟨X, hp, e, T0, rfl, h', es, e8⟩
  · cases e
  · have e1 : X' = X := Sum.inr.inj e
    subst e1
    have fx := IV_fx h' hn
    have i1 := IV_te h' hn
    have sm : SAM c1 (gz c1 (700000 + T0.2.1 7)) := SAM_gz (by omega)
    refine ⟨hk _ hp, ⟨i1.2, (sm _ (Or.inr (by decide))).trans e8⟩, gE_mono (em (n + 1) _ _ _ i1 (by omega) ((sm _ (Or.inl (by decide))).trans es)) fun o M1 w => ?_⟩
    obtain ⟨b, c3, rfl, rfl, i3, ⟨w, -⟩ | ⟨Y, w, z0⟩⟩ := w
    · exact absurd w (hex _ hp)
    · rw [hun _ _ w hp] at z0
      exact ⟨b, _, _, _, rfl, rfl, ⟨IV_MT i1, IV_RG i3⟩, z0, IV_out i1, i3⟩
theorem lor_k {m : gC} {b : Nat} {n K i : Int} : ∀ k : Nat, ¬ k = 200007 → (lor m b n K i).2 k = m k := by
  unfold lor
  refine itI_inv (fun x : (Int × Int) × gC => ∀ k : Nat, ¬ k = 200007 → x.2 k = m k) (fun k hk => funext fun j => gu_k hk) (fun j s hs k hk => ?_) _
  unfold los
  dsimp only
  rw [← hs k hk]
  exact funext fun j => gu_k hk
/-- the reference's plan -/
theorem pl_m {n L : Nat} {T T' : gT} {c c2 : gC} {n' : Nat} (h : IV n L T c) (h2 : IV n' L T' c2) (hn : n' < 901) (es : c2 200000 = c 200000) {z : Int} : mcb (mrq c2 200000 z) = qK (mll c 200000) 200000 z ∧ (qK (mll c 200000) 200000 z ≤ 12 → (0 < mcb (mrq c2 200000 z) → RO (lpt (tw c2 0) 200000 z) (mcb (mrq c2 200000 z))) ∧ (lpl (tw c2 0) 200000 z).1 = qC (mll c 200000) 200000 z ∧ ((lpl (tw c2 0) 200000 z).1 < 1000000000 → ∀ i : Nat, (i : Int) < qK (mll c 200000) 200000 z → (lpl (tw c2 0) 200000 z).2 200007 (i : Int) = qO (mll c 200000) 200000 z i) ∧ (IV n' L T' (lpl (tw c2 0) 200000 z).2 ∧ (lpl (tw c2 0) 200000 z).2 500001 0 = 0) ∧ (∀ j, 0 ≤ j → j < qK (mll c 200000) 200000 z → (lpl (tw c2 0) 200000 z).2 200005 j = nb (mrq c 200000 z) j) ∧ (lpl (tw c2 0) 200000 z).2 200003 = mll (tw c2 0) 200000 200003 ∧ (lpl (tw c2 0) 200000 z).2 200000 = c 200000 ∧ RG (lpl (tw c2 0) 200000 z).2 ∧ LR (lpl (tw c2 0) 200000 z).2) := by
  have rg := IV_RG h
  have hV := IV_NW h
  have hb : mll c 200000 200000 = c 200000 := (mll_FM rg hV (by decide)).2.2
  have r2 := IV_RG h2
  have et : tw c2 0 200000 = c 200000 := (tw_k (by decide)).trans es
  have hVt : NW (tw c2 0) 200000 := NW_of hV et
  have rt : RG (tw c2 0) := tw_RG r2 (by decide)
  have hL1 := CL1_L (IV_SW h).2.2.2
  have eK : mcb (mrq c2 200000 z) = qK (mll c 200000) 200000 z := by
    unfold qK
    rw [mcb_cnt, mrq_o hb, mrq_o es]
  have eq2 : mrq (tw c2 0) 200000 z = mrq c2 200000 z := mrq_o (tw_k (by decide)) z
  refine ⟨eK, fun hK => ?_⟩
  have lq := IV_LQ h2
  have hQ : LQ (tw c2 0) := fun i i0 i1 => by rw [tw_k (by decide)]; exact lq.1 i i0 i1
  have h12 : mcb (mrq (tw c2 0) 200000 z) ≤ 12 := by rw [eq2, eK]; exact hK
  have hbb : ((¬ 200000 = 200003 ∧ ¬ 200000 = 200005 ∧ ¬ 200000 = 500001) ∧ ¬ 200000 = 200006 ∧ ¬ 200000 = 200007) := by decide
  obtain ⟨m1, m2, m3⟩ := mod_plan rt hVt hQ hbb h12 (L1_o et hL1)
  have lok := lpl_ok (z := z) rt hVt hQ hbb h12 m1
  obtain ⟨p1, p2, p3, p4, p5, p6, p7⟩ := lok
  obtain ⟨f1, f2, f3⟩ := mll_FM rg hV (show ¬ 200000 = 200003 by decide)
  obtain ⟨f1', f2', f3'⟩ := mll_FM rt hVt (show ¬ 200000 = 200003 by decide)
  have nb0 : NB (mll c 200000) 200000 (mll (tw c2 0) 200000) 200000 := fun j _ => by rw [f3, f3', et]
  obtain ⟨c1, c2'⟩ := qC_B (z := z) nb0 f2 f2' f1 f1' (mll_ok rg hV).2 (L1_o hb hL1) hK
  rw [eq2, eK] at m3
  have m2' : (lpl (tw c2 0) 200000 z).1 = qC (mll c 200000) 200000 z := m2.trans c1.symm
  have t5 : ∀ j, ¬ j = 0 → tw c2 0 500001 j = c2 500001 j := fun j hj => by unfold tw; rw [gu_j hj]
  refine ⟨fun q => by rw [← eq2] at q ⊢; exact m1 q, m2', fun q i hi => by rw [m3 q i hi, ← c2' (by rw [← m2']; exact q) i hi], ⟨IV_MLK h2 ⟨fun k hk h5 => by rw [p3 k (by omega) (by omega) (by omega) (by omega) h5, tw_k h5], fun j j0 _ j9 => by rw [p4 j j9, t5 j j0], p1.2.2.2.2.2.2, p1.2.2.2.2.1, by rw [p4 7 (by decide), t5 7 (by decide)]; exact lq.2⟩ (by omega), by rw [p4 0 (by decide), tw_0]⟩, fun j j0 j1 => ?_, p7, ?_, p1.2.2.2.2.2.2, p1.2.2.2.1⟩
  · have hA0 : lpm (tw c2 0) 200000 z 200005 j = nb (mrq c 200000 z) j := by
      have hj : j < cnt (tb (mrq (mll (tw c2 0) 200000) 200000 z)) 24 := by
        rw [mrq_o f3', mrq_o et]
        unfold qK at j1
        rw [mrq_o hb] at j1
        exact j1
      have := (lnf_v (c := mll (tw c2 0) 200000) (q := mrq (mll (tw c2 0) 200000) 200000 z) (i := 24) (by decide) (by decide)).2 j j0 hj
      unfold lpm lnd
      rw [mrq_o f3', mrq_o et] at this ⊢
      exact this
    have e5 : (lpl (tw c2 0) 200000 z).2 200005 = lpm (tw c2 0) 200000 z 200005 := by
      have hq : lpt (tw c2 0) 200000 z 200005 = lpm (tw c2 0) 200000 z 200005 := by
        have hK0 := (q_PHY f2 f1 (mll_ok rg hV).2 (L1_o hb hL1) hK).1.1
        have := (lq3_rec (m := lpm (tw c2 0) 200000 z) (b := 200000) (n := qK (mll c 200000) 200000 z) hK0 (by decide)).1 200005 (by decide)
        unfold lpt
        rw [eq2, eK]
        exact this
      by_cases w : mcb (mrq (tw c2 0) 200000 z) = 0
      · rw [lpl_0 w]
      · by_cases w2 : lpc (lpt (tw c2 0) 200000 z) 200000 (mcb (mrq (tw c2 0) 200000 z)) < 1000000000
        · rw [lpl_1 w w2]
          exact (lor_k _ (by decide)).trans hq
        · rw [lpl_2 w w2]
          exact hq
    rw [e5]
    exact hA0
  · rw [p3 _ (by decide) (by decide) (by decide) (by decide) (by decide)]
    exact et
theorem bcn_k {n L : Nat} {T : gT} {c : gC} (h : IV n L T c) (z : Int) : bcn (mskI (fun a => hA c 100014 a && decide (cl c 100014 a ≤ z)) 24) = qK (mll c 200000) 200000 z := by
  have hV := IV_NW h
  have hb : mll c 200000 200000 = c 200000 := (mll_FM (IV_RG h) hV (by decide)).2.2
  rw [req_e (IV_NN h) hV, bcn_e req_rg]
  unfold qK
  rw [mrq_o hb]
theorem qC_b {n L : Nat} {T : gT} {c : gC} (h : IV n L T c) {z : Int} (hK : qK (mll c 200000) 200000 z ≤ 12) : (0 ≤ qC (mll c 200000) 200000 z ∧ qC (mll c 200000) 200000 z ≤ 1000000000) ∧ (qC (mll c 200000) 200000 z < 1000000000 → qC (mll c 200000) 200000 z ≤ 384300) ∧ 0 ≤ qK (mll c 200000) 200000 z := by
  have rg := IV_RG h
  have hV := IV_NW h
  obtain ⟨f1, f2, f3⟩ := mll_FM rg hV (show ¬ 200000 = 200003 by decide)
  have hPH := q_PHY f2 f1 (mll_ok rg hV).2 (L1_o f3 (CL1_L (IV_SW h).2.2.2)) hK
  have := PCO_rg hPH
  exact ⟨this.1, this.2, hPH.1.1.1⟩
theorem cso_k {c c1 : gC} {z : Int} (hz : 1 ≤ z ∧ z ≤ 3) (h : PLN c c1 z) : cso c1 z = mtl (qC (mll c 200000) 200000 z) ∧ szo c1 z = (if qC (mll c 200000) 200000 z < 1000000000 then qK (mll c 200000) 200000 z else 0) := by
  unfold cso szo mtl
  rw [if_pos hz, if_pos hz]
  by_cases q : qC (mll c 200000) 200000 z < 1000000000
  · rw [if_neg (by omega), if_pos q]
    exact ⟨(h.2.1 q).1, (h.2.1 q).2.1⟩
  · rw [if_pos (by omega), if_neg q]
    exact h.2.2 q
theorem mcp_k {n L : Nat} {T T' : gT} {c c2 : gC} {n' : Nat} (h : IV n L T c) (h2 : IV n' L T' c2) (hn : n' < 901) (es : c2 200000 = c 200000) {z : Int} : mcp c2 200000 z = true ↔ (1 ≤ z ∧ z ≤ 3) ∧ qK (mll c 200000) 200000 z ≤ 12 := by
  unfold mcp
  rw [(pl_m h h2 hn es).1, Bool.and_eq_true, inr_t, decide_eq_true_eq]
