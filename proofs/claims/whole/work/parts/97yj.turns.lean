/-! the law's case: the turns of a plan -/
theorem RQ_IV {n L : Nat} {T : gT} {M X : gC} (h : IV n L T M) (hn : n ≤ 999) (h0 : M 500001 0 = 0) (r1 : RG X) (r2 : ∀ k : Nat, ¬ k = 200004 → ¬ k = 500001 → X k = M k) (r3 : ∀ j, ¬ j = 7 → X 500001 j = M 500001 j) (h7 : 0 ≤ X 500001 7 ∧ X 500001 7 ≤ 24) : IV n L T X ∧ X 500001 0 = 0 := by
  have q := IV_LQ h
  refine ⟨IV_MLK h ⟨fun k hk h5 => r2 k (by omega) h5, fun j _ j7 _ => r3 j j7, r1, fun j j0 j1 => ?_, h7⟩ hn, by rw [r3 0 (by decide), h0]⟩
  rw [r2 _ (by decide) (by decide)]; exact q.1 j j0 j1
set_option maxHeartbeats 1000000 in
theorem op_58 {L : Nat} : OPC L 2982 := by
  intro n T c J i u5 u6 Q hn h hL hi hu hv hend
  have rg := IV_RG h
  have hz := rg 800000 (i + 1)
  have hy := rg 800000 (i + 2)
  have hRT := (IV_CT h).2.2.2.1
  have hS := IV_SR h
  have hD : -1 ≤ c 100014 3 ∧ c 100014 3 < 10 := by rw [(IV_NN h).1.2.1]; exact (IV_NW h).2.1.1
  have ok := rfr_ok rg hS (IV_NR h)
  obtain ⟨R, Z, ⟨r1, r2, r3, r4, r5⟩, hsl⟩ := IV_sl (J := J) h hn
  generalize hz' : c 800000 (i + 1) = z at *
  generalize hy' : c 800000 (i + 2) = y at *
  have h1 := c_x_planTurns (g := 5) (J := J) (IV_XT h) (IV_NT h) rg (IV_NR h) (IV_WT h).1 (IV_WT h).2 (IV_WR h).1 hRT hS r1 r2 r3 hD r4 r5 hz hy
  rw [bcn_k h z] at h1
  have h1' : gE 5 127 8 [.ref 500000, gi z, gi y] (gm T c J) (fun o M1 => ∃ T1 c1 J1, (((0 ≤ y ∧ y < 4) ∧ (1 ≤ z ∧ z ≤ 3) ∧ qK (mll c 200000) 200000 z ≤ 12) ∧ ∃ v, (-2147483648 ≤ v ∧ v < 2147483648) ∧ o = .inl (some (gi v)) ∧ M1 = gm T1 c1 J1 ∧ IT n L c T1 c1 ∧ ((PLN c c1 z ∧ ∀ k : Nat, ¬ (100044 ≤ k ∧ k ≤ 100051) → ¬ (400000 ≤ k ∧ k < 500000) → c1 k = rfr c k) ∧ v = (if cso c1 z = -1 then -1 else trn c1 z y))) ∨ (∃ X, PX5 z (qK (mll c 200000) 200000 z) y X ∧ o = .inr X ∧ M1 = gm (gTt T1) c1 J1 ∧ IT n L c T1 c1)) := gE_mono h1 fun o M1 q => by
    rcases q with ⟨k, ⟨a, b, T1, c1, J1, R1, Z1, hs, rfl, rfl⟩ | ⟨a, b, rfl, rfl⟩ | ⟨a, rfl, rfl⟩⟩ | ⟨k, rfl, rfl⟩
    · obtain ⟨x1, x2, x3, x4, x5⟩ := hsl z T1 c1 J1 R1 Z1 a b hs
      have qb := qC_b h b
      have sz := (cso_k a x2).2
      have tr := trn_rg (c := c1) (z := z) (k := y) (by rw [sz]; split <;> omega)
      exact ⟨T1, c1, J1, Or.inl ⟨⟨k, a, b⟩, _, by split <;> omega, rfl, rfl, sl_it rg hS (IV_NR h) x1 x3, ⟨x2, x3⟩, rfl⟩⟩
    · exact ⟨T, c, J, Or.inr ⟨0, Or.inl ⟨rfl, k, a, b⟩, rfl, rfl, h, rfl, rfl⟩⟩
    · exact ⟨T, c, J, Or.inr ⟨1, Or.inr ⟨rfl, fun w => a w.2⟩, rfl, rfl, h, rfl, rfl⟩⟩
    · exact ⟨T, c, J, Or.inr ⟨1, Or.inr ⟨rfl, fun w => k w.1⟩, rfl, rfl, h, rfl, rfl⟩⟩
  -- what the reference's plan gives
  have hpre : ∀ n' T' c2, IV n' L T' c2 → n' < 901 → c2 200000 = c 200000 → mcp c2 200000 z = true → ((∀ y, 0 ≤ y → y < 34 → LO (lpl (tw c2 0) 200000 z).2 200000 y) ∧ ((lpl (tw c2 0) 200000 z).1 < 1000000000 → (∀ j, 0 ≤ j → j < (mcb (mrq c2 200000 z)) → mcf (lpl (tw c2 0) 200000 z).2 200000 (pta (lpl (tw c2 0) 200000 z).2 200000 j) (ptb (lpl (tw c2 0) 200000 z).2 j) ((lpl (tw c2 0) 200000 z).2 200007 j) < 1000000000) ∧ (¬ pta (lpl (tw c2 0) 200000 z).2 200000 (mcb (mrq c2 200000 z)) = c2 200000 2 → 0 ≤ c2 200000 2 ∧ mcf (lpl (tw c2 0) 200000 z).2 200000 (pta (lpl (tw c2 0) 200000 z).2 200000 (mcb (mrq c2 200000 z))) (ptb (lpl (tw c2 0) 200000 z).2 (mcb (mrq c2 200000 z))) (24 + c2 200000 2) < 1000000000))) := fun n' T' c2 h2 hn' es w => by
    have w2 := ((mcp_k h h2 hn' es).mp w).2
    obtain ⟨t, tb, tL, tR, tK, tC, t7⟩ := pl_M h h2 hn' es w2
    obtain ⟨f1, f2, f3⟩ := t.fM tb
    have p2 := ((pl_m h h2 hn' es (z := z)).2 w2).2.1
    have eK := (pl_m h h2 hn' es (z := z)).1
    refine ⟨fun y y0 _ => LO_all f2 f1 f3 y0, fun q => ?_⟩
    have hC : qC (lpl (tw c2 0) 200000 z).2 200000 z < 1000000000 := by rw [tC, ← p2]; exact q
    obtain ⟨la, lh⟩ := legs_M f2 f1 tL f3 (by rw [tK]; exact w2) hC (fun i hi => t7 (by rw [← tC]; exact hC) i (by rw [← tK]; exact hi))
    rw [eK, ← tK]
    refine ⟨fun j j0 j1 => (la j j0 j1).2.2, fun nd => ?_⟩
    have e2 : c2 200000 2 = (lpl (tw c2 0) 200000 z).2 200000 2 := by rw [tb, es]
    have qb := (qC_b h w2).2.2
    by_cases k0 : qK (lpl (tw c2 0) 200000 z).2 200000 z = 0
    · exact absurd (show pta (lpl (tw c2 0) 200000 z).2 200000 (qK (lpl (tw c2 0) 200000 z).2 200000 z) = c2 200000 2 by rw [k0, e2]; exact if_pos rfl) nd
    · have hD2 : 0 ≤ c 200000 2 ∧ c 200000 2 < 10 := by
        have a := (la 0 (by decide) (by omega)).1
        rw [mhA_o tb] at a
        have := (NN_e (IV_NN h) (IV_NW h) a).1
        have := (IV_NW h).1.1
        rcases (IV_SW h).2.2.1.2 with w | w <;> omega
      have x3 := (lh (by omega)).2 (by rw [← e2]; exact nd) (by rw [tb]; exact hD2.1) (by rw [tb]; exact hD2.2)
      rw [es]
      rw [tb] at x3
      exact ⟨hD2.1, x3⟩
  have emT : ((0 ≤ y ∧ y < 4) ∧ (1 ≤ z ∧ z ≤ 3) ∧ qK (mll c 200000) 200000 z ≤ 12) → ∀ v n' T' c2 J', IV n' L T' c2 → n' < 901 → c2 200000 = c 200000 → ((PLN c c2 z ∧ ∀ k : Nat, ¬ (100044 ≤ k ∧ k ≤ 100051) → ¬ (400000 ≤ k ∧ k < 500000) → c2 k = rfr c k) ∧ v = (if cso c2 z = -1 then -1 else trn c2 z y)) → gE 5 248 9 [.ref 500001, gi z, gi y] (gm T' c2 J') (fun o M1 => ∃ c3, o = .inl (some (gi v)) ∧ M1 = gm T' c3 J' ∧ IV n' L T' c3 ∧ c3 500001 0 = 0) := fun hpt v n' T' c2 J' h2 hn' es hw => by
    obtain ⟨⟨hP, hF⟩, hv'⟩ := hw
    have mc := (mcp_k h h2 hn' es (z := z)).mpr hpt.2
    have w2 := hpt.2.2
    have hp := hpre n' T' c2 h2 hn' es mc
    obtain ⟨t, tb, tL, tR, tK, tC, t7⟩ := pl_M h h2 hn' es w2
    obtain ⟨p1, p2, p3, ⟨pI, p0⟩, -⟩ := (pl_m h h2 hn' es (z := z)).2 w2
    have eK := (pl_m h h2 hn' es (z := z)).1
    have eO := cso_k hpt.2.1 hP
    have qb := qC_b h w2
    refine gE_mono (m_x_planTurns (IV_MT h2) (IV_RG h2) (IV_NW h2) (IV_LQ h2).1 hz (fun _ => p1) hy (fun _ => hp.1) (fun _ q => (hp.2 q).1) (fun _ q => (hp.2 q).2)) fun o M1 q => ?_
    have tk : ∀ k : Nat, ¬ (100044 ≤ k ∧ k ≤ 100051) → ¬ (400000 ≤ k ∧ k < 500000) → c2 k = rfr c k := hF
    have t2 : TT2 c c2 (lpl (tw c2 0) 200000 z).2 200000 := TT2_mm t (fun k k0 k1 j => by rw [tk k (by omega) (by omega)]) (tk _ (by decide) (by decide)) (tk _ (by decide) (by decide))
    rw [eK] at q
    rcases q with ⟨q1, q2, q3⟩ | ⟨q1, q2, -⟩ | ⟨q1, -⟩
    · rcases q3 with ⟨q3, rfl, rfl⟩ | ⟨q3, q4, rfl, rfl⟩ | ⟨q3, q4, rfl, rfl⟩
      · refine ⟨_, ?_, rfl, pI, p0⟩
        rw [p2] at q3
        rw [hv', eO.1]
        unfold mtl
        rw [if_pos (show 1000000000 ≤ qC (mll c 200000) 200000 z by omega), if_pos rfl]
      · have hC := q3
        rw [p2] at hC
        have tm := trn_m (k := y) t2 tb tL tR (IV_NN h) (IV_SW h).2.2.1 hpt.2.1 (by rw [tK]; exact w2) (by rw [tC]; exact hC) (fun i hi => t7 hC i (by rw [← tK]; exact hi)) (by rw [eO.2, if_pos hC, tK]) (fun j j0 j1 => by
          rw [tK] at j1
          have x := (hP.2.1 hC).2.2 j.toNat (by omega)
          have x2 := p3 q3 j.toNat (by omega)
          have x3 := (hP.2.1 hC).2.1
          rw [Int.toNat_of_nonneg j0] at x x2
          unfold paa
          rw [if_pos ⟨hpt.2.1, j0, by rw [x3]; exact j1⟩, x, x2]) (by rw [tK]; exact qb.2.2)
        rw [tK] at tm
        have x7 := ptq_7 (M := (lpl (tw c2 0) 200000 z).2) (b := 200000) (kd := y) (IV_LQ pI).2 (qK (mll c 200000) 200000 z).toNat
        rw [Int.toNat_of_nonneg qb.2.2] at x7
        have iv := RQ_IV pI (by omega) p0 tm.1.1 tm.1.2.1 tm.1.2.2 x7
        refine ⟨_, ?_, rfl, iv.1, iv.2⟩
        rw [hv', eO.1]
        unfold mtl
        rw [if_neg (show ¬ 1000000000 ≤ qC (mll c 200000) 200000 z by omega), if_neg (by omega), tm.2.1 (by rw [q4, es])]
      · have hC := q3
        rw [p2] at hC
        have tm := trn_m (k := y) t2 tb tL tR (IV_NN h) (IV_SW h).2.2.1 hpt.2.1 (by rw [tK]; exact w2) (by rw [tC]; exact hC) (fun i hi => t7 hC i (by rw [← tK]; exact hi)) (by rw [eO.2, if_pos hC, tK]) (fun j j0 j1 => by
          rw [tK] at j1
          have x := (hP.2.1 hC).2.2 j.toNat (by omega)
          have x2 := p3 q3 j.toNat (by omega)
          have x3 := (hP.2.1 hC).2.1
          rw [Int.toNat_of_nonneg j0] at x x2
          unfold paa
          rw [if_pos ⟨hpt.2.1, j0, by rw [x3]; exact j1⟩, x, x2]) (by rw [tK]; exact qb.2.2)
        rw [tK] at tm
        obtain ⟨y1, y2, y3, y4, y5, y6⟩ := tm.2.2 (by rw [← es]; exact q4)
        rw [es]
        generalize hX : lrt (ptq (lpl (tw c2 0) 200000 z).2 200000 y (qK (mll c 200000) 200000 z)).2 200000 (pta (lpl (tw c2 0) 200000 z).2 200000 (qK (mll c 200000) 200000 z)) (ptb (lpl (tw c2 0) 200000 z).2 (qK (mll c 200000) 200000 z)) (24 + c 200000 2) 24 = X at *
        have x7 : 0 ≤ X.2 500001 7 ∧ X.2 500001 7 ≤ 24 := by
          have := (lrt_arr (M := (ptq (lpl (tw c2 0) 200000 z).2 200000 y (qK (mll c 200000) 200000 z)).2) (b := 200000) (n := pta (lpl (tw c2 0) 200000 z).2 200000 (qK (mll c 200000) 200000 z)) (l := ptb (lpl (tw c2 0) 200000 z).2 (qK (mll c 200000) 200000 z)) (z := 24 + c 200000 2) 24).1.2
          rw [show ((24 : Nat) : Int) = 24 from rfl, hX] at this
          exact this
        have iv := RQ_IV pI (by omega) p0 y4 y5 y6 x7
        refine ⟨_, ?_, rfl, iv.1, iv.2⟩
        rw [hv', eO.1]
        unfold mtl
        rw [if_neg (show ¬ 1000000000 ≤ qC (mll c 200000) 200000 z by omega), if_neg (by omega), y3]
    · rw [mc] at q2; cases q2
    · rw [show inr z 1 3 = true from inr_t.mpr hpt.2.1, show inr y 0 3 = true from inr_t.mpr (by omega)] at q1; cases q1
  have emX : ∀ X n' T' c2 J', PX5 z (qK (mll c 200000) 200000 z) y X → IV n' L T' c2 → n' < 901 → c2 200000 = c 200000 → gE 5 248 9 [.ref 500001, gi z, gi y] (gm T' c2 J') (fun o M1 => ∃ b c3, o = .inl (some (gi b)) ∧ M1 = gm T' c3 J' ∧ IV n' L T' c3 ∧ c3 500001 0 = (fun E => if E = 1 then (1 : Int) else 2) X) := fun X n' T' c2 J' hX h2 hn' es => by
    have mk := mcp_k h h2 hn' es (z := z)
    refine gE_mono (m_x_planTurns (IV_MT h2) (IV_RG h2) (IV_NW h2) (IV_LQ h2).1 hz (fun w => ((pl_m h h2 hn' es (z := z)).2 (mk.mp w).2).1) hy (fun w => (hpre n' T' c2 h2 hn' es w).1) (fun w q => ((hpre n' T' c2 h2 hn' es w).2 q).1) (fun w q => ((hpre n' T' c2 h2 hn' es w).2 q).2)) fun o M1 q => ?_
    unfold PX5 at hX
    rcases q with ⟨q1, q2, -⟩ | ⟨q1, q2, rfl, rfl⟩ | ⟨q1, rfl, rfl⟩
    · rw [Bool.and_eq_true, inr_t, inr_t] at q1
      have := mk.mp q2
      omega
    · rw [Bool.and_eq_true, inr_t, inr_t] at q1
      have eX : X = 0 := by omega
      subst eX
      exact ⟨_, _, rfl, rfl, IV_tw h2 (by omega) (by decide), tw_0⟩
    · have eX : X = 1 := by
        rcases hX with ⟨-, a, b, -⟩ | ⟨a, -⟩
        · rw [show inr z 1 3 = true from inr_t.mpr b, show inr y 0 3 = true from inr_t.mpr (by omega)] at q1; cases q1
        · exact a
      subst eX
      exact ⟨_, _, rfl, rfl, IV_tw h2 (by omega) (by decide), tw_0⟩
  exact lc_58 (HW := 9) (HM := 9) (E := fun T c _ => IV (n + 1) L T c) (by omega) (by omega) h.2 hL hi hu hv (by rw [hz', hy']; exact w_planTurns (opy1 hn h1') (fun E T1 c1 J1 q => PX5_E E (RY_E E T1 c1 J1 q))) (by rw [hz', hy']; exact opy2 hn emT) (by rw [hz', hy']; exact opy3 hn PX5_hm emX) (fun z T2 c2 J2 k b q hk hb => hend T2 c2 J2 k b q.2.2.2 hk hb)
