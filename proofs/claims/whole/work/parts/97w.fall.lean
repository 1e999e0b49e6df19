/-! the law's case: another fall -/
theorem fall_LV {n : Nat} {G : Int → gC} {Lo z : Int} {c d m c3 : gC} (hn : n ≤ 900) (h : LV G (700000 * (n : Int)) Lo c 100014 100034 c 200000) (hz : 0 ≤ z ∧ z ≤ 99) (rd : RG d) (rm : RG m) (d1 : NF c d 100014) (d2 : WF c d 100034) (em : m 200000 = c 200000) (e1 : NF d c3 100014) (e2 : WF (chr d 100034 z) c3 100034) (e3 : c3 200000 = gu (itI (sfl 200000) m 24) 200000 4 z 200000) : LV G (700000 * ((n + 1 : Nat) : Int)) Lo c3 100014 100034 c3 200000 := by
  have h0 := h
  obtain ⟨⟨a1, b1⟩, ⟨q1, q2⟩, ⟨f1, f2, f3⟩, g1⟩ := h
  have hS : SW d 100014 100034 m 200000 := SW_o a1 d1 d2 em
  obtain ⟨vv, na0⟩ := VV_chr hS.1.2 hS.2.1 z
  have wr : WR d 100034 (700000 * (n : Int)) := WEQ_WR (WEQ_o d2) f2
  have wm : WW m 200000 (700000 * (n : Int)) := WW_of f3 em
  have w1 := (chi_ok rd wr 24 (by decide) (by decide)).2
  have w2 := sfl_ok rm wm (i := 24) (by decide)
  have nf : NF d (chr d 100034 z) 100014 := fun k k0 k1 j => by
    unfold chr
    rw [gu_k (by omega), (chi_v (c := d) (w := 100034) (i := 24) (by decide) (by decide)).1 k (by omega) (by omega)]
  have na : NA c (gu (itI (sfl 200000) m 24) 200000 4 z) 200000 := fun j hj => by rw [na0 j hj, em]
  have k8 : ∀ j, j < 136 → ¬ j = 4 → gu (itI (sfl 200000) m 24) 200000 4 z 200000 j = c 200000 j := fun j hj h4 => by rw [gu_j h4, w2.2.2.2.1 j hj, em]
  have w1' : WR (chr d 100034 z) 100034 (700000 * (n : Int)) := by
    obtain ⟨x0, x1, x2, x3, x4, x5, x6, x7, x8, x9⟩ := w1
    have ek : ∀ k : Nat, ¬ k = 100034 → gu (itI (chf 100034) d 24) 100034 7 z k = itI (chf 100034) d 24 k := fun k hk => funext fun j => gu_k hk
    unfold WR chr
    rw [gu_j (by decide), gu_j (by decide), gu_j (by decide), gu_j (by decide), gu_j (by decide), gu_j (by decide), gu_s, ek (100034 + 1) (by decide), ek (100034 + 2) (by decide), ek (100034 + 3) (by decide), ek (100034 + 4) (by decide)]
    exact ⟨x0, x1, x2, x3, x4, x5, x6, hz, x8, x9⟩
  have w2' : WW (gu (itI (sfl 200000) m 24) 200000 4 z) 200000 (700000 * (n : Int)) := by
    obtain ⟨⟨x1, x2⟩, ⟨x3, x4⟩, ⟨x5, x6⟩, ⟨x7, x8⟩, x9, x10⟩ := w2.2.2.1
    unfold WW
    refine ⟨⟨x1, by rw [gu_s]; exact hz⟩, ⟨by rw [gu_j (by decide)]; exact x3, by rw [gu_j (by decide)]; exact x4⟩, ⟨by rw [gu_j (by decide)]; exact x5, by rw [gu_j (by decide)]; exact x6⟩, ⟨by rw [gu_j (by decide)]; exact x7, by rw [gu_j (by decide)]; exact x8⟩, fun i i0 i1 => ?_, fun i i0 i1 => ?_⟩
    · rw [gu_j (by omega)]; exact x9 i i0 i1
    · rw [gu_j (by omega), gu_j (by omega), gu_j (by omega)]; exact x10 i i0 i1
  have pp : PP (gu (itI (sfl 200000) m 24) 200000 4 z) 200000 := by
    have hV := a1.1.2
    have hp := a1.2.2.1
    refine ⟨?_, by rw [k8 0 (by decide) (by decide), k8 2 (by decide) (by decide), k8 6 (by decide) (by decide)]; exact hp.2⟩
    rw [k8 7 (by decide) (by decide), k8 6 (by decide) (by decide), mhA_n na hV]
    rcases hp.1 with q | q
    · exact Or.inl q
    · exact Or.inr ⟨q.1, by rw [men_n na (mhA_rg hV q.1)]; exact q.2⟩
  have hx : LV G (700000 * ((n + 1 : Nat) : Int)) Lo (chr d 100034 z) 100014 100034 (gu (itI (sfl 200000) m 24) 200000 4 z) 200000 := by
    refine LV_w h0 (fun k k0 k1 j => (nf k k0 k1 j).trans (d1 k k0 k1 j)) na ?_ vv pp (WR_mono w1' (by omega) (by omega)) (WW_mono w2' (by omega) (by omega))
    rw [gu_s, k8 8 (by decide) (by decide), k8 3 (by decide) (by decide)]
    exact ⟨hz, q1.2⟩
  refine LV_o (LV_cp hx (NEQ_o fun k k0 k1 j => rfl) (WEQ_o fun k k0 k1 j => rfl) (fun j _ _ => rfl)) (fun k k0 k1 j => ?_) e2 e3
  rw [e1 k k0 k1 j, nf k k0 k1 j]
def RFa (z : Int) (T : gT) (c J : gC) : (Int ⊕ Nat) → gT → gC → gC → Prop := fun r T1 c1 J1 => (((0 ≤ z ∧ z ≤ 99) ∧ r = .inl (c 100034 7)) ∧ ((z = c 100034 7 ∧ T1 = T ∧ c1 = c ∧ J1 = J) ∨ (¬ z = c 100034 7 ∧ ∃ d, KP T c J T1 d J1 ∧ c1 = chr d 100034 z))) ∨ (¬ (0 ≤ z ∧ z ≤ 99) ∧ r = .inr 1 ∧ T1 = gTt T ∧ c1 = c ∧ J1 = J)
theorem fall_c {n L : Nat} {T : gT} {c J : gC} (h : IV n L T c) (hn : n < 900) {z : Int} (hz : -2147483648 ≤ z ∧ z < 2147483648) : gE 5 151 6 [.ref 500000, gi z] (gm T c J) (gP (RFa z T c J)) := by
  have rg := IV_RG h
  have fx := IV_fx h hn
  have hout := IV_out h
  have hR := (IV_WR h).1
  have h7 := rg 100034 7
  refine gE_mono (c_x_setFall (IV_XT h) (IV_NT h) rg (IV_NR h) (IV_WT h).1 (IV_WT h).2 hR (IV_HR h) hz) fun o M1 q => ?_
  rcases q with ⟨a, rfl, rfl⟩ | ⟨a, b, rfl, rfl⟩ | ⟨a, b, T1, c1, J1, kp, rfl, rfl⟩
  · exact ⟨gTt T, c, J, rfl, Or.inr ⟨1, rfl, fx.1, Or.inr ⟨a, rfl, rfl, rfl, rfl⟩⟩⟩
  · exact ⟨T, c, J, rfl, Or.inl ⟨_, rfl, h7, hout, Or.inl ⟨⟨a, rfl⟩, Or.inl ⟨b, rfl, rfl, rfl⟩⟩⟩⟩
  · refine ⟨T1, _, J1, rfl, Or.inl ⟨_, rfl, h7, ?_, Or.inl ⟨⟨a, rfl⟩, Or.inr ⟨b, c1, kp, rfl⟩⟩⟩⟩
    rw [KP_T kp (by decide) (by decide)]
    exact hout
set_option maxHeartbeats 1000000 in
theorem op_41 {L : Nat} : OPC L 2222 := by
  intro n T c J i u5 u6 Q hn h hL hi hu hv hend
  have rg := IV_RG h
  have hz := rg 800000 (i + 1)
  have fx := IV_fx h hn
  have b13 := IV_13 h
  have hV := IV_NW h
  have w4 : c 100034 7 = c 200000 4 := (IV_SW h).2.1.1.2.2.2
  have ww := (IV_WR h).2
  have r7 := rg 100034 7
  refine lc_41 (HW := 7) (HM := 3) (E := fun T c _ => IV (n + 1) L T c) (by omega) (by omega) h.2 hL hi hu hv (w_setFall (fall_c h hn hz) (fun E T1 c1 J1 q => ?_)) (fun v T1 c1 J1 hR => ?_) (fun X T1 c1 J1 hR => ?_) (fun z T2 c2 J2 k b q hk hb => hend T2 c2 J2 k b q.2.2.2 hk hb)
  · rcases q with ⟨⟨-, e⟩, -⟩ | ⟨-, e, -⟩
    · cases e
    · exact Sum.inr.inj e
  · generalize c 800000 (i + 1) = z at *
    rcases hR with ⟨⟨hp, e⟩, hR⟩ | ⟨-, e, -⟩
    · have e1 : v = c 100034 7 := Sum.inl.inj e
      rcases hR with ⟨hz0, rfl, rfl, rfl⟩ | ⟨hz0, d, kp, rfl⟩
      · refine ⟨⟨h.2, rfl⟩, gE_mono (m_x_setFall (IV_MT h) rg hV ww (by omega) b13.2 hz) fun o M1 q => ?_⟩
        rcases q with ⟨q1, q2, rfl, rfl⟩ | ⟨q1, q2, -⟩ | ⟨q1, -⟩
        · have i2 := IV_tw h (by omega) (z := 0) (by decide)
          exact ⟨_, _, _, by rw [e1, w4], rfl, ⟨⟨IV_MT h, IV_RG i2⟩, tw_0, IV_out h, IV_up i2 (by omega)⟩, gu_s, by omega⟩
        · exact absurd (hz0.trans w4) q2
        · exact absurd hp (inr_f.mp q1)
      · have kc : ∀ k : Nat, (k < 300000 ∨ 400000 ≤ k) → ¬ k = 100052 → d k = c k := fun k hk h3 => KP_c kp hk h3
        have r0 : RG d := KP_RG kp (IV_HR h)
        have wr := KP_WR kp (IV_WR h).1
        have r1 : RG (chr d 100034 z) := by
          unfold chr
          exact RG_gu (chi_ok r0 wr 24 (by decide) (by decide)).1 hz
        have eg : ∀ k : Nat, k < 100034 ∨ 100039 ≤ k → chr d 100034 z k = d k := fun k hk => funext fun j => by
          unfold chr
          rw [gu_k (by omega), (chi_v (c := d) (w := 100034) (i := 24) (by decide) (by decide)).1 k (by omega) (by omega)]
        have e2 : chr d 100034 z 200000 = c 200000 := (eg _ (by decide)).trans (kc _ (by decide) (by decide))
        have e51 : chr d 100034 z 500001 = c 500001 := (eg _ (by decide)).trans (kc _ (by decide) (by decide))
        have e28 : chr d 100034 z 200008 = c 200008 := (eg _ (by decide)).trans (kc _ (by decide) (by decide))
        have s8 : T1.1 800000 = T.1 800000 := KP_T kp (by decide) (by decide)
        have out1 : (T1.1 500002).1 = 3 ∧ (T1.1 500002).2.1 = 1 := by rw [KP_T kp (by decide) (by decide)]; exact IV_out h
        refine ⟨⟨by rw [s8]; exact h.2, (eg _ (by decide)).trans (kc _ (by decide) (by decide))⟩, gE_mono (m_x_setFall (KP_MT kp (IV_MT h)) r1 (NW_of hV e2) (WW_of ww e2) (by omega) (by rw [e51]; exact b13.2) hz) fun o M1 q => ?_⟩
        rcases q with ⟨q1, q2, -⟩ | ⟨q1, q2, rfl, rfl⟩ | ⟨q1, -⟩
        · rw [e2, ← w4] at q2
          exact absurd q2 hz0
        · rw [e2]
          generalize hm : chr d 100034 z = m at *
          have t13 : tw m 0 500001 13 = c 500001 13 := by unfold tw; rw [gu_j (by decide), e51]
          have rr := rem_cg (m := c) (m' := tw m 0) ((tw_k (by decide)).trans e2) ((tw_k (by decide)).trans e28) t13
          have rk : ∀ k : Nat, ¬ k = 200008 → ¬ k = 500001 → rem (tw m 0) k = m k := fun k h1 h2 => (rem_o h1 h2).trans (tw_k h2)
          have er : rem (tw m 0) 200000 = c 200000 := (rk _ (by decide) (by decide)).trans e2
          have rrg : RG (rem (tw m 0)) := rem_RG (tw_RG r1 (by decide)) (by rw [t13]; exact b13.2)
          have so := sfl_ok rrg (WW_of ww er) (i := 24) (by decide)
          have k3 : ∀ k : Nat, ¬ k = 200000 → gu (itI (sfl 200000) (rem (tw m 0)) 24) 200000 4 z k = rem (tw m 0) k := fun k hk => funext fun j => by rw [gu_k hk, so.2.2.2.2 k hk]
          have r2 : RG (gu (itI (sfl 200000) (rem (tw m 0)) 24) 200000 4 z) := RG_gu so.1 hz
          have t0 : gu (itI (sfl 200000) (rem (tw m 0)) 24) 200000 4 z 500001 0 = 0 := by rw [k3 _ (by decide), rem_m (by decide)]; exact tw_0
          have lq := IV_LQ h
          have i2 : IV (n + 1) L T1 (gu (itI (sfl 200000) (rem (tw m 0)) 24) 200000 4 z) := by
            refine IV_kp h (by omega) kp (fun k a1 a2 a3 a4 => ?_) (fun j a1 a2 a3 a4 => ?_) ((k3 _ (by decide)).trans rr.1) (by rw [k3 _ (by decide)]; exact rr.2) (fun G Lo hl => fall_LV (d := d) (m := rem (tw m 0)) (by omega) hl hp r0 rrg (fun k a1 a2 j => ?_) (fun k a1 a2 j => ?_) er (fun k a1 a2 j => ?_) (fun k a1 a2 j => ?_) rfl) r2 (fun j j0 j1 => ?_) ?_
            · rw [k3 k a2, rk k (by omega) a4]
              exact eg k (by omega)
            · rw [k3 _ (by decide), rem_m a4]
              unfold tw
              rw [gu_j a1, e51]
            · rw [kc k (by omega) (by omega)]
            · rw [kc k (by omega) (by omega)]
            · rw [k3 k (by omega), rk k (by omega) (by omega), eg k (by omega)]
            · rw [k3 k (by omega), rk k (by omega) (by omega), hm]
            · rw [k3 _ (by decide), rk _ (by decide) (by decide), eg _ (by decide), kc _ (by decide) (by decide)]
              exact lq.1 j j0 j1
            · rw [k3 _ (by decide), rem_m (by decide)]
              unfold tw
              rw [gu_j (by decide), e51]
              exact lq.2
          exact ⟨_, _, _, by rw [e1, w4], rfl, ⟨⟨KP_MT kp (IV_MT h), r2⟩, t0, out1, i2⟩, gu_s, by omega⟩
        · exact absurd hp (inr_f.mp q1)
    · cases e
  · have i1 := IV_te h hn
    have sm : SAM c (gz c (700000 + T.2.1 7)) := SAM_gz (by omega)
    rcases hR with ⟨⟨-, e⟩, -⟩ | ⟨hp, e, rfl, rfl, rfl⟩
    · cases e
    · have e1 : X = 1 := Sum.inr.inj e
      subst e1
      refine ⟨⟨by decide, by decide⟩, ⟨i1.2, sm _ (Or.inr (by decide))⟩, gE_mono (m_x_setFall (IV_MT i1) (IV_RG i1) (IV_NW i1) (IV_WR i1).2 (by omega) (IV_13 i1).2 hz) fun o M1 q => ?_⟩
      rcases q with ⟨q1, -⟩ | ⟨q1, -⟩ | ⟨q1, rfl, rfl⟩
      · exact absurd (inr_t.mp q1) hp
      · exact absurd (inr_t.mp q1) hp
      · have i2 := IV_tw i1 (by omega) (z := 1) (by decide)
        exact ⟨0, _, _, _, rfl, rfl, ⟨IV_MT i1, IV_RG i2⟩, tw_0, IV_out i1, i2⟩
