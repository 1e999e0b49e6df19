/-! the law's case: the time of a plan -/
theorem IV_PR {n L : Nat} {T : gT} {c : gC} (h : IV n L T c) : PR c := by
  obtain ⟨⟨G, Lo, R, Z, -, ⟨⟨-, -, ⟨-, a, -⟩, -⟩, -⟩, -⟩, -⟩ := h
  exact a
/-- the class's memory behind a prediction -/
theorem ptr_m {n L : Nat} {T : gT} {c : gC} {z : Int} {s : Bool} (h : IV n L T c) (hn : n < 901) (hz : 1 ≤ z ∧ z ≤ 3) : IV n L T (ptr c z s).2 ∧ (∀ k : Nat, ¬ k = 100026 → ¬ k = 100029 → ¬ (100039 ≤ k ∧ k < 100044) → (ptr c z s).2 k = c k) ∧ (-2147483648 ≤ (ptr c z s).1 ∧ (ptr c z s).1 < 2147483648) := by
  have rg := IV_RG h
  have nr := IV_NR h
  have wr := (IV_WR h).1
  have pr := IV_PR h
  have sz : 0 ≤ szo c z ∧ szo c z ≤ 12 := by
    have := pr.1 (z - 1) (by omega) (by omega)
    unfold szo
    rw [if_pos hz]
    exact this
  obtain ⟨q1, q2, q3⟩ := ptl_ok (s := s) rg nr pr wr (by omega) hz sz.1 (Int.le_refl _)
  have q4 := ptl_26 (c := c) (z := z) (s := s) (j := 1) (by decide) (szo c z).toNat
  rw [Int.toNat_of_nonneg sz.1] at q4
  have nx : NR (ptl c z s (szo c z)).2 100014 := NF_NR (PO_NF q3) nr
  obtain ⟨p1, p2, p3⟩ := pdt_ok (z := c 100014 3) (s := s) q1 nx q2 (by omega)
  have p4 := pdt_26 (c := (ptl c z s (szo c z)).2) (z := c 100014 3) (s := s) (j := 1) (by decide)
  have t0 := wr.2.1
  have key : ∀ (v : Int) (x : gC), ptr c z s = (v, x) → RG x → (∀ k : Nat, ¬ k = 100026 → ¬ k = 100029 → ¬ (100039 ≤ k ∧ k < 100044) → x k = c k) → x 100026 1 = c 100026 1 → (-2147483648 ≤ v ∧ v < 2147483648) → IV n L T (ptr c z s).2 ∧ (∀ k : Nat, ¬ k = 100026 → ¬ k = 100029 → ¬ (100039 ≤ k ∧ k < 100044) → (ptr c z s).2 k = c k) ∧ (-2147483648 ≤ (ptr c z s).1 ∧ (ptr c z s).1 < 2147483648) := fun v x e hr hk h1 hv => by
    rw [e]
    exact ⟨IV_sc h (by omega) hk h1 hr, hk, hv⟩
  have k1 : ∀ k : Nat, ¬ k = 100026 → ¬ k = 100029 → ¬ (100039 ≤ k ∧ k < 100044) → (ptl c z s (szo c z)).2 k = c k := fun k a b d => funext fun j => q3 k b a (by omega) j
  have k2 : ∀ k : Nat, ¬ k = 100026 → ¬ k = 100029 → ¬ (100039 ≤ k ∧ k < 100044) → (pdt (ptl c z s (szo c z)).2 (c 100014 3) s).2 k = c k := fun k a b d => (funext fun j => p3 k b a (by omega) j).trans (k1 k a b d)
  cases h1 : (ptl c z s (szo c z)).1 with
  | false => exact key _ _ (ptr_0 h1) q1 k1 q4 (by decide)
  | true =>
    cases h2 : (pdt (ptl c z s (szo c z)).2 (c 100014 3) s).1 with
    | false => exact key _ _ (ptr_2 h1 h2) p1 k2 (p4.trans q4) (by decide)
    | true =>
      have w := p2.2.1
      exact key _ _ (ptr_1 h1 h2) p1 k2 (p4.trans q4) (by omega)
/-- both tell the same time -/
theorem ptr_e {c c1 M0 M1 : gC} {z B : Int} {s : Bool} {r : Int → Int} (tt : TT2 c c1 M0 200000) (hL0 : LR M0) (hN : NR c1 100014) (hz : 1 ≤ z ∧ z ≤ 3) (hB : B ≤ 900000000) (hNN : 0 ≤ szo c1 z ∧ szo c1 z ≤ 12) (hPT : ∀ i, 0 ≤ i → i ≤ szo c1 z → RG (ptl c1 z s i).2 ∧ WR (ptl c1 z s i).2 100039 (B + 700000 * i) ∧ PO c1 (ptl c1 z s i).2) (hPM : ∀ i, 0 ≤ i → i ≤ szo c1 z → PX M1 (pml r s M1 i).2) (e3 : M1 200003 = M0 200003) (nb : NB c 200000 M1 200002) (sw : SW (wcp c1 100039 100034) 100014 100039 M1 200002) (hr : ∀ j, 0 ≤ j → j < szo c1 z → paa c1 z j = r j ∧ mhA c 200000 (r j) = true) (hD : 0 ≤ c 200000 2 ∧ c 200000 2 < c 200000 0) : (ptr c1 z s).1 = (pmt r s M1 (szo c1 z)).1 := by
  have R := pt_rel tt hL0 hN hz hB hNN hPT hPM e3 nb sw hr (szo c1 z).toNat (by omega)
  rw [Int.toNat_of_nonneg hNN.1] at R
  obtain ⟨pt1, pt2, pt3⟩ := hPT (szo c1 z) hNN.1 (Int.le_refl _)
  obtain ⟨pm1, pm2, pm3, pm4⟩ := hPM (szo c1 z) hNN.1 (Int.le_refl _)
  have eD : c1 100014 3 = c 200000 2 := by rw [tt.tb.1.1 100014 (by decide) (by decide)]; exact tt.nn.1.2.1
  cases h1 : (ptl c1 z s (szo c1 z)).1 with
  | false => rw [ptr_0 h1, pmt_a (R.2 h1)]
  | true =>
    obtain ⟨r1, r2, r3⟩ := R.1 h1
    have hne : ¬ (pml r s M1 (szo c1 z)).1 = -1 := by omega
    have nby : NB c 200000 (pml r s M1 (szo c1 z)).2 200002 := fun j hj => (nb j hj).trans (pm2 j (by omega)).symm
    have y2 : (pml r s M1 (szo c1 z)).2 200002 2 = c 200000 2 := (nby 2 (by decide)).symm
    have y0 : (pml r s M1 (szo c1 z)).2 200002 0 = c 200000 0 := (nby 0 (by decide)).symm
    have nx : NR (ptl c1 z s (szo c1 z)).2 100014 := NF_NR (PO_NF pt3) hN
    have P := pd_e (s := s) (g := c 200000 2) tt hL0 pt3 pt1 nx pt2 (by omega) ((pm3 _ (by decide) (by decide) (by decide)).trans e3) nby pm1 r2 (by rw [y0]; exact hD)
    cases h2 : (pdt (ptl c1 z s (szo c1 z)).2 (c 200000 2) s).1 with
    | false =>
      rw [ptr_2 h1 (by rw [eD]; exact h2), pmt_c hne (by rw [y2, ← P.1]; exact h2)]
    | true =>
      obtain ⟨P1, P2, P3, P4⟩ := P.2 h2
      rw [ptr_1 h1 (by rw [eD]; exact h2), pmt_b hne (by rw [y2, ← P.1]; exact h2), eD, y2]
      dsimp only
      omega
theorem pmt_fin {r : Int → Int} {s : Bool} {m : gC} {K B : Int} (hp : PX m (pml r s m K).2) (hw : WW (pml r s m K).2 200002 B) (hB : B ≤ 1300000000) (hV : NW m 200002) (hL : LR m) (hG : GG2 m 200002) (hD : 0 ≤ m 200002 2 ∧ m 200002 2 < 10) : RG (pmt r s m K).2 ∧ (∀ k : Nat, ¬ k = 200002 → ¬ k = 200004 → ¬ k = 500001 → (pmt r s m K).2 k = m k) ∧ ∀ j, ¬ j = 7 → (pmt r s m K).2 500001 j = m 500001 j := by
  obtain ⟨y1, y2, y3, y4⟩ := hp
  by_cases e : (pml r s m K).1 = -1
  · rw [pmt_a e]; exact ⟨y1, y3, y4⟩
  · have e2 : (pml r s m K).2 200002 2 = m 200002 2 := y2 2 (by decide)
    cases hm : mcr (pml r s m K).2 200002 ((pml r s m K).2 200002 2) with
    | false => rw [pmt_c e hm]; exact ⟨y1, y3, y4⟩
    | true =>
      rw [pmt_b e hm]
      have gg := hG _ y2 (y3 _ (by decide) (by decide) (by decide)) hw.2.1.2 _ (show 0 ≤ (pml r s m K).2 200002 2 by rw [e2]; exact hD.1) (by rw [e2]; exact hD.2)
      have mo := mgt_ok (s := s) ⟨⟨by decide, by decide⟩, by decide⟩ y1 (NW_n y2 hV) (LR_M hL (y3 _ (by decide) (by decide) (by decide))) hw hB (by rw [e2]; exact hD) gg.1 (gg.2 hm)
      exact ⟨mo.1, fun k a b d => (mo.2.2.2.1 k a b d).trans (y3 k a b d), fun j hj => (mo.2.2.2.2.1 j hj).trans (y4 j hj)⟩
def PX4 (z K N : Int) : Nat → Prop := fun X => (X = 0 ∧ (1 ≤ z ∧ z ≤ 3) ∧ ¬ (K ≤ 12 ∧ 0 < N)) ∨ (X = 1 ∧ ¬ (1 ≤ z ∧ z ≤ 3))
theorem PX4_E {z K N : Int} (X : Nat) (h : PX4 z K N X) : X = 1 ∨ X = 0 := by
  unfold PX4 at h
  omega
theorem PX4_hm {z K N : Int} (X : Nat) (h : PX4 z K N X) : 1 ≤ (if X = 1 then (1 : Int) else 2) ∧ (if X = 1 then (1 : Int) else 2) ≤ 3 := by
  split <;> decide
/-- the reference's copy of the network -/
def qM (c : gC) (z : Int) : gC := gcp (lpl (tw c 0) 200000 z).2 200000 200002 0 0 208
theorem qM_ok {n L : Nat} {T T' : gT} {c c2 : gC} {n' : Nat} (h : IV n L T c) (h2 : IV n' L T' c2) (hn : n' < 901) (es : c2 200000 = c 200000) {z : Int} (hK : qK (mll c 200000) 200000 z ≤ 12) : RW8 (qM c2 z) 200002 c 200000 ∧ (RG (qM c2 z) ∧ LR (qM c2 z) ∧ NW (qM c2 z) 200002 ∧ WW (qM c2 z) 200002 (700000 * (n : Int))) ∧ GG2 (qM c2 z) 200002 ∧ ∀ k : Nat, ¬ k = 200002 → qM c2 z k = (lpl (tw c2 0) 200000 z).2 k := by
  obtain ⟨t, tb, tL, tR, tK, tC, t7⟩ := pl_M h h2 hn es hK
  obtain ⟨f1, f2, f3⟩ := t.fM tb
  have ek : ∀ k : Nat, ¬ k = 200002 → qM c2 z k = (lpl (tw c2 0) 200000 z).2 k := fun k hk => funext fun j => gcp_k hk
  have rw8 : RW8 (qM c2 z) 200002 c 200000 := fun j j0 j1 => by
    unfold qM
    rw [gcp_in j0 j1, tb]
  have hV := IV_NW h
  have hV1 : NW (qM c2 z) 200002 := NW_cp rw8 hV
  have nb : NB (lpl (tw c2 0) 200000 z).2 200000 (qM c2 z) 200002 := fun j hj => by rw [tb]; exact (rw8 j (by omega) (by omega)).symm
  have nb2 : NB c 200000 (qM c2 z) 200002 := fun j hj => (rw8 j (by omega) (by omega)).symm
  have g1 := FWk_B f1 f2 nb (ek 200003 (by decide))
  have gL : LR (qM c2 z) := LR_M tL (ek 200003 (by decide))
  refine ⟨rw8, ⟨RG_gcp tR, gL, hV1, WW_cp rw8 (IV_WR h).2⟩, GG2_ok hV1 g1 gL (L1_B nb f2 f3) (fun a ha => ?_), ek⟩
  exact NN_e (NN_NB (IV_NN h) hV NF_rf (NB_sy nb2)) hV1 ha
set_option maxHeartbeats 2000000 in
theorem op_47 {L : Nat} : OPC L 2472 := by
  intro n T c J i u5 u6 Q hn h hL hi hu hv hend
  have rg := IV_RG h
  have hz := rg 800000 (i + 1)
  have hs2 := rg 800000 (i + 2)
  have hRT := (IV_CT h).2.2.2.1
  have hS := IV_SR h
  have hD : -1 ≤ c 100014 3 ∧ c 100014 3 < 10 := by rw [(IV_NN h).1.2.1]; exact (IV_NW h).2.1.1
  have ok := rfr_ok rg hS (IV_NR h)
  have ct := (IV_CT h).2.2.2.2.2.1
  have a1 : c 100014 1 = c 200000 0 := (IV_NN h).1.1.1
  have v0 := (IV_NW h).1.1
  obtain ⟨R, Z, ⟨r1, r2, r3, r4, r5⟩, hsl⟩ := IV_sl (J := J) h hn
  generalize hss : decide (¬ c 800000 (i + 2) = 0) = s
  generalize hz' : c 800000 (i + 1) = z at *
  have h1 := c_x_planTime (g := 5) (J := J) (s := s) (IV_XT h) (IV_NT h) rg (IV_NR h) (IV_WT h).1 (IV_WT h).2 (IV_WR h).1 hRT hS r1 r2 r3 hD r4 r5 hz ct.1 ct.2 (by omega)
  rw [bcn_k h z] at h1
  have h1' : gE 5 128 8 [.ref 500000, gi z, gi (bi s)] (gm T c J) (fun o M1 => ∃ T1 c1 J1, (((1 ≤ z ∧ z ≤ 3) ∧ qK (mll c 200000) 200000 z ≤ 12 ∧ 0 < c 200000 0) ∧ ∃ v, (-2147483648 ≤ v ∧ v < 2147483648) ∧ o = .inl (some (gi v)) ∧ M1 = gm T1 c1 J1 ∧ IT n L c T1 c1 ∧ (∃ T0 d, IV n L T0 d ∧ PLN c d z ∧ (∀ k : Nat, ¬ (100044 ≤ k ∧ k ≤ 100051) → ¬ (400000 ≤ k ∧ k < 500000) → d k = rfr c k) ∧ ((cso d z = -1 ∧ v = -1) ∨ (¬ cso d z = -1 ∧ v = (ptr d z s).1)))) ∨ (∃ X, PX4 z (qK (mll c 200000) 200000 z) (c 200000 0) X ∧ o = .inr X ∧ M1 = gm (gTt T1) c1 J1 ∧ IT n L c T1 c1)) := gE_mono h1 fun o M1 q => by
    rcases q with ⟨a, b, T1, c1, J1, R1, Z1, hs, q⟩ | ⟨a, b, rfl, rfl⟩ | ⟨a, rfl, rfl⟩
    · obtain ⟨x1, x2, x3, x4, x5⟩ := hsl z T1 c1 J1 R1 Z1 a b hs
      have it := sl_it rg hS (IV_NR h) x1 x3
      rcases q with ⟨b0, rfl, rfl⟩ | ⟨b0, b1, rfl, rfl⟩ | ⟨b0, b1, rfl, rfl⟩
      · exact ⟨T1, c1, J1, Or.inr ⟨0, Or.inl ⟨rfl, a, fun w => by omega⟩, rfl, rfl, it⟩⟩
      · exact ⟨T1, c1, J1, Or.inl ⟨⟨a, b, by omega⟩, -1, by decide, rfl, rfl, it, T1, c1, x1, x2, x3, Or.inl ⟨b1, rfl⟩⟩⟩
      · have pm := ptr_m (s := s) x1 (by omega) a
        exact ⟨T1, _, J1, Or.inl ⟨⟨a, b, by omega⟩, _, pm.2.2, rfl, rfl, ⟨pm.1, (pm.2.1 _ (by decide) (by decide) (by decide)).trans it.2.1, (pm.2.1 _ (by decide) (by decide) (by decide)).trans it.2.2⟩, T1, c1, x1, x2, x3, Or.inr ⟨b1, rfl⟩⟩⟩
    · exact ⟨T, c, J, Or.inr ⟨0, Or.inl ⟨rfl, a, fun w => b w.1⟩, rfl, rfl, h, rfl, rfl⟩⟩
    · exact ⟨T, c, J, Or.inr ⟨1, Or.inr ⟨rfl, a⟩, rfl, rfl, h, rfl, rfl⟩⟩
  have hpre := fun {n' : Nat} {T' : gT} {c2 : gC} (h2 : IV n' L T' c2) (hn' : n' < 901) (es : c2 200000 = c 200000) (J' : gC) => m_x_planTimeB (g := 5) (J := J') (s := s) (IV_MT h2) (IV_RG h2) (IV_NW h2) (IV_LQ h2).1 hz (fun w => ((pl_m h h2 hn' es (z := z)).2 ((mcp_k h h2 hn' es).mp w).2).1) (IV_WR h2).2 (by omega) (fun w => (qM_ok h h2 hn' es ((mcp_k h h2 hn' es).mp w).2).2.2.1)
  have emT : ((1 ≤ z ∧ z ≤ 3) ∧ qK (mll c 200000) 200000 z ≤ 12 ∧ 0 < c 200000 0) → ∀ v n' T' c2 J', IV n' L T' c2 → n' < 901 → c2 200000 = c 200000 → (∃ T0 d, IV n L T0 d ∧ PLN c d z ∧ (∀ k : Nat, ¬ (100044 ≤ k ∧ k ≤ 100051) → ¬ (400000 ≤ k ∧ k < 500000) → d k = rfr c k) ∧ ((cso d z = -1 ∧ v = -1) ∨ (¬ cso d z = -1 ∧ v = (ptr d z s).1))) → gE 5 285 9 [.ref 500001, gi z, gi (bi s)] (gm T' c2 J') (fun o M1 => ∃ c3, o = .inl (some (gi v)) ∧ M1 = gm T' c3 J' ∧ IV n' L T' c3 ∧ c3 500001 0 = 0) := fun hpt v n' T' c2 J' h2 hn' es hw => by
    obtain ⟨T0, d, hd, hP, hF, hw⟩ := hw
    have mc := (mcp_k h h2 hn' es (z := z)).mpr ⟨hpt.1, hpt.2.1⟩
    have w2 := hpt.2.1
    obtain ⟨t, tb, tL, tR, tK, tC, t7⟩ := pl_M h h2 hn' es w2
    obtain ⟨p1, p2, p3, ⟨pI, p0⟩, -⟩ := (pl_m h h2 hn' es (z := z)).2 w2
    have eK := (pl_m h h2 hn' es (z := z)).1
    have eO := cso_k hpt.1 hP
    have qb := qC_b h w2
    obtain ⟨m1, ⟨m2, m3, m4, m5⟩, m6, m7⟩ := qM_ok h h2 hn' es w2
    refine gE_mono (hpre h2 hn' es J') fun o M1 q => ?_
    rw [eK] at q
    rcases q with ⟨q1, q2, q3⟩ | ⟨q1, q2, -⟩ | ⟨q1, -⟩
    · rcases q3 with ⟨q3, rfl, rfl⟩ | ⟨q3, rfl, rfl⟩
      · refine ⟨_, ?_, rfl, pI, p0⟩
        rw [p2] at q3
        rcases hw with ⟨-, rfl⟩ | ⟨w, -⟩
        · rfl
        · refine absurd ?_ w
          rw [eO.1]
          unfold mtl
          exact if_pos (by omega)
      · have hC := q3
        rw [p2] at hC
        have eqM : gcp (lpl (tw c2 0) 200000 z).2 200000 200002 0 0 208 = qM c2 z := rfl
        rw [eqM]
        have hvv : v = (ptr d z s).1 := by
          rcases hw with ⟨w, -⟩ | ⟨-, w⟩
          · rw [eO.1] at w
            unfold mtl at w
            rw [if_neg (by omega)] at w
            omega
          · exact w
        have szd : szo d z = qK (mll c 200000) 200000 z := by rw [eO.2, if_pos hC]
        have td : TT2 c d (lpl (tw c2 0) 200000 z).2 200000 := TT2_mm t (fun k k0 k1 j => by rw [hF k (by omega) (by omega)]) (hF _ (by decide) (by decide)) (hF _ (by decide) (by decide))
        have ed : d 200000 = c 200000 := (hF _ (by decide) (by decide)).trans (funext fun j => ok.2.2 _ (by decide) (by decide) (by decide) j)
        have arcs : ∀ j, 0 ≤ j → j < qK (mll c 200000) 200000 z → paa d z j = (lpl (tw c2 0) 200000 z).2 200007 j ∧ mhA c 200000 ((lpl (tw c2 0) 200000 z).2 200007 j) = true := fun j j0 j1 => by
          have x := (hP.2.1 hC).2.2 j.toNat (by omega)
          have x2 := p3 q3 j.toNat (by omega)
          have x3 := (hP.2.1 hC).2.1
          have x4 := (qO_b h w2 hC (i := j.toNat) (by omega)).2
          rw [Int.toNat_of_nonneg j0] at x x2
          unfold paa
          rw [if_pos ⟨hpt.1, j0, by rw [x3]; exact j1⟩, x, x2]
          exact ⟨rfl, x4⟩
        have hPM : ∀ i, 0 ≤ i → i ≤ szo d z → PX (qM c2 z) (pml (fun k => (lpl (tw c2 0) 200000 z).2 200007 k) s (qM c2 z) i).2 ∧ WW (pml (fun k => (lpl (tw c2 0) 200000 z).2 200007 k) s (qM c2 z) i).2 200002 (700000 * (n : Int) + 625000 * i) := fun i i0 i1 => by
          have x := pml_okB (s := s) (r := fun k => (lpl (tw c2 0) 200000 z).2 200007 k) (n := szo d z) m2 m4 m3 m5 (by omega) (by omega) (fun j j0 j1 => mhA_rg (IV_NW h) (arcs j j0 (by omega)).2) m6 i0 i1
          exact ⟨x.1, x.2.1⟩
        obtain ⟨G, Lo, lv⟩ := IV_LV hd
        have kW : ∀ k : Nat, (k < 100039 ∨ 100044 ≤ k) → wcp d 100039 100034 k = d k := fun k hk => funext fun j => wcp_k (by omega)
        have sw := (LV_cp lv (NEQ_o (c' := wcp d 100039 100034) fun k k0 k1 j => by rw [kW k (by omega)]) (wcp_eq (by decide)) (show RW8 (qM c2 z) 200002 d 200000 by rw [show RW8 (qM c2 z) 200002 d 200000 = RW8 (qM c2 z) 200002 c 200000 by unfold RW8; rw [ed]]; exact m1)).1.1
        have hDD : 0 ≤ c 200000 2 ∧ c 200000 2 < c 200000 0 := by
          rcases (IV_SW h).2.2.1.2 with w | w <;> omega
        have E := ptr_e (s := s) (r := fun k => (lpl (tw c2 0) 200000 z).2 200007 k) td tL (IV_NR hd) hpt.1 (B := 700000 * (n : Int)) (by omega) (by omega) (fun i i0 i1 => ptl_ok (s := s) (IV_RG hd) (IV_NR hd) (IV_PR hd) (IV_WR hd).1 (by omega) hpt.1 i0 i1) (fun i i0 i1 => (hPM i i0 i1).1) (m7 _ (by decide)) (fun j hj => (m1 j (by omega) (by omega)).symm) sw (fun j j0 j1 => arcs j j0 (by omega)) hDD
        rw [szd] at E hPM
        have x7 := pmt_7 (r := fun k => (lpl (tw c2 0) 200000 z).2 200007 k) (s := s) (m := qM c2 z) (by rw [m7 _ (by decide)]; exact (IV_LQ pI).2) (qK (mll c 200000) 200000 z).toNat
        rw [Int.toNat_of_nonneg qb.2.2] at x7
        obtain ⟨⟨y1, y2, y3, y4⟩, y5⟩ := hPM _ qb.2.2 (Int.le_refl _)
        have fin := pmt_fin ⟨y1, y2, y3, y4⟩ y5 (by omega) m4 m3 m6 (by rw [m1 2 (by decide) (by decide)]; omega)
        have lq := IV_LQ pI
        refine ⟨_, by rw [hvv, E], rfl, IV_MLK pI ⟨fun k hk h5 => by rw [fin.2.1 k (by omega) (by omega) h5, m7 k (by omega)], fun j _ j7 _ => by rw [fin.2.2 j j7, m7 _ (by decide)], fin.1, fun j j0 j1 => by rw [fin.2.1 _ (by decide) (by decide) (by decide), m7 _ (by decide)]; exact lq.1 j j0 j1, x7⟩ (by omega), by rw [fin.2.2 0 (by decide), m7 _ (by decide)]; exact p0⟩
    · rw [mc, es, decide_eq_true hpt.2.2] at q2; cases q2
    · rw [show inr z 1 3 = true from inr_t.mpr hpt.1] at q1; cases q1
  have emX : ∀ X n' T' c2 J', PX4 z (qK (mll c 200000) 200000 z) (c 200000 0) X → IV n' L T' c2 → n' < 901 → c2 200000 = c 200000 → gE 5 285 9 [.ref 500001, gi z, gi (bi s)] (gm T' c2 J') (fun o M1 => ∃ b c3, o = .inl (some (gi b)) ∧ M1 = gm T' c3 J' ∧ IV n' L T' c3 ∧ c3 500001 0 = (fun E => if E = 1 then (1 : Int) else 2) X) := fun X n' T' c2 J' hX h2 hn' es => by
    have mk := mcp_k h h2 hn' es (z := z)
    refine gE_mono (hpre h2 hn' es J') fun o M1 q => ?_
    unfold PX4 at hX
    rcases q with ⟨q1, q2, -⟩ | ⟨q1, q2, rfl, rfl⟩ | ⟨q1, rfl, rfl⟩
    · rw [Bool.and_eq_true, decide_eq_true_eq, es] at q2
      have := mk.mp q2.1
      omega
    · have := inr_t.mp q1
      have eX : X = 0 := by omega
      subst eX
      exact ⟨_, _, rfl, rfl, IV_tw h2 (by omega) (by decide), tw_0⟩
    · have := inr_f.mp q1
      have eX : X = 1 := by omega
      subst eX
      exact ⟨_, _, rfl, rfl, IV_tw h2 (by omega) (by decide), tw_0⟩
  exact lc_47 (p := s) hss.symm hs2 (HW := 9) (HM := 9) (E := fun T c _ => IV (n + 1) L T c) (hHW := by omega) (hHM := by omega) (hL := h.2) (hL2 := hL) (hi := hi) (hu := hu) (hv := hv) (h1 := by rw [hz']; exact w_planTime (opy1 hn h1') (fun E T1 c1 J1 q => PX4_E E (RY_E E T1 c1 J1 q))) (h2 := by rw [hz']; exact opy2 hn emT) (h3 := by rw [hz']; exact opy3 hn PX4_hm emX) (hend := fun z T2 c2 J2 k b q hk hb => hend T2 c2 J2 k b q.2.2.2 hk hb)
