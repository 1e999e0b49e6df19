/-! the law's case: driving -/
set_option maxHeartbeats 1000000 in
theorem op_37 {L : Nat} : OPC L 1954 := by
  intro n T c J i u5 u6 Q hn h hL hi hu hv hend
  have rg := IV_RG h
  have hz := rg 800000 (i + 1)
  have hs2 := rg 800000 (i + 2)
  have fx := IV_fx h hn
  have b13 := IV_13 h
  have hV := IV_NW h
  have nn := IV_NN h
  have vv := (IV_SW h).2.1
  have ww := (IV_WR h).2
  refine lc_37 (p := decide (¬ c 800000 (i + 2) = 0)) rfl hs2 (HW := 9) (HM := 6) (E := fun T c _ => IV (n + 1) L T c) (hHW := by omega) (hHM := by omega) (hL := h.2) (hL2 := hL) (hi := hi) (hu := hu) (hv := hv) (h1 := w_drive (drive_c h hn hz) (fun E T1 c1 J1 q => ?_)) (h2 := fun v T1 c1 J1 hR => ?_) (h3 := fun X T1 c1 J1 hR => ?_) (hend := fun z T2 c2 J2 k b q hk hb => hend T2 c2 J2 k b q.2.2.2 hk hb)
  · rcases q with ⟨-, -, d, -, e, -⟩ | ⟨-, -, e, -⟩ | ⟨-, e, -⟩
    · cases e
    · exact Or.inr (Sum.inr.inj e)
    · exact Or.inl (Sum.inr.inj e)
  · generalize decide (¬ c 800000 (i + 2) = 0) = s at *
    generalize c 800000 (i + 1) = z at *
    rcases hR with ⟨hp, hp2, d, kp, e, rfl⟩ | ⟨-, -, e, -⟩ | ⟨-, e, -⟩
    · have e1 : v = scn d 100014 100034 z := Sum.inl.inj e
      have hA0 : mhA c 200000 z = true := by rw [← NN_hA nn]; exact hp
      have hr := mhA_rg hV hA0
      have kc : ∀ k : Nat, (k < 300000 ∨ 400000 ≤ k) → ¬ k = 100052 → d k = c k := fun k hk h3 => KP_c kp hk h3
      have r0 : RG d := KP_RG kp (IV_HR h)
      have wr := KP_WR kp (IV_WR h).1
      have nr := KP_NR kp (IV_NR h)
      have b1 := scn_rg nr wr z
      have r1 : RG (drv d 100014 100034 z s) := drv_RG r0 nr wr (by omega) hr
      have eg : ∀ k : Nat, k < 100034 ∨ 100039 ≤ k → drv d 100014 100034 z s k = d k := fun k hk => funext fun j => drv_k hk
      have e2 : drv d 100014 100034 z s 200000 = c 200000 := (eg _ (by decide)).trans (kc _ (by decide) (by decide))
      have e51 : drv d 100014 100034 z s 500001 = c 500001 := (eg _ (by decide)).trans (kc _ (by decide) (by decide))
      have e28 : drv d 100014 100034 z s 200008 = c 200008 := (eg _ (by decide)).trans (kc _ (by decide) (by decide))
      have s8 : T1.1 800000 = T.1 800000 := KP_T kp (by decide) (by decide)
      have out1 : (T1.1 500002).1 = 3 ∧ (T1.1 500002).2.1 = 1 := by rw [KP_T kp (by decide) (by decide)]; exact IV_out h
      have hR2 : mhA (drv d 100014 100034 z s) 200000 z = true := by unfold mhA at hA0 ⊢; rw [e2]; exact hA0
      have hE2 : mhe (drv d 100014 100034 z s) z = true := by
        unfold mhe
        rw [hR2, Bool.true_and]
        have x1 := (NN_bg nn hV hA0).1
        have x2 : mbg (drv d 100014 100034 z s) 200000 z = mbg c 200000 z := mbg_e e2
        rw [x2, e2, ← x1, hp2, vv.1.1.2]
        exact decide_eq_true rfl
      refine ⟨⟨by rw [s8]; exact h.2, (eg _ (by decide)).trans (kc _ (by decide) (by decide))⟩, gE_mono (m_x_drive (KP_MT kp (IV_MT h)) r1 (NW_of hV e2) hz (WW_of ww e2) (by omega) (by rw [e51]; exact b13.2)) fun o M1 q => ?_⟩
      rcases q with ⟨q1, q2, rfl, rfl⟩ | ⟨q1, q2, -⟩ | ⟨q1, -⟩
      · have hSd : SW d 100014 100034 c 200000 := SW_o (IV_SW h) (fun k k0 k1 j => by rw [kc k (by omega) (by omega)]) (fun k k0 k1 j => by rw [kc k (by omega) (by omega)]) rfl
        generalize hm : drv d 100014 100034 z s = m at *
        have t13 : tw m 0 500001 13 = c 500001 13 := by unfold tw; rw [gu_j (by decide), e51]
        have rr := rem_cg (m := c) (m' := tw m 0) ((tw_k (by decide)).trans e2) ((tw_k (by decide)).trans e28) t13
        have rk : ∀ k : Nat, ¬ k = 200008 → ¬ k = 500001 → rem (tw m 0) k = m k := fun k h1 h2 => (rem_o h1 h2).trans (tw_k h2)
        have er : rem (tw m 0) 200000 = c 200000 := (rk _ (by decide) (by decide)).trans e2
        have k3 : ∀ k : Nat, ¬ k = 200000 → mgo (rem (tw m 0)) 200000 z s k = rem (tw m 0) k := fun k hk => mgo_k hk
        have rrg : RG (rem (tw m 0)) := rem_RG (tw_RG r1 (by decide)) (by rw [t13]; exact b13.2)
        have nwr := NW_of hV er
        have wwr := WW_of ww er
        have r2 : RG (mgo (rem (tw m 0)) 200000 z s) := mgo_RG rrg nwr wwr (by omega) hr
        have t0 : mgo (rem (tw m 0)) 200000 z s 500001 0 = 0 := by rw [k3 _ (by decide), rem_m (by decide)]; exact tw_0
        have lq := IV_LQ h
        have hq : 0 ≤ msq (mg0 (rem (tw m 0)) 200000 z) 200000 z := (msq_rg (NW_n mg0_NA nwr) hr).2.2.1
        have i2 : IV (n + 1) L T1 (mgo (rem (tw m 0)) 200000 z s) := by
          refine IV_kp h (by omega) kp (fun k a1 a2 a3 a4 => ?_) (fun j a1 a2 a3 a4 => ?_) ((k3 _ (by decide)).trans rr.1) (by rw [k3 _ (by decide)]; exact rr.2) (fun G Lo hl => drive_LV (d := d) (m := rem (tw m 0)) (a := z) (s := s) (by omega) hl hA0 (fun k a1 a2 j => ?_) (fun k a1 a2 j => ?_) er hq (fun k a1 a2 j => ?_) (fun k a1 a2 j => ?_) rfl) r2 (fun j j0 j1 => ?_) ?_
          · rw [k3 k a2, rk k (by omega) a4]
            exact eg k (by omega)
          · rw [k3 _ (by decide), rem_m a4]
            unfold tw
            rw [gu_j a1, e51]
          · rw [kc k (by omega) (by omega)]
          · rw [kc k (by omega) (by omega)]
          · rw [k3 k (by omega), rk k (by omega) (by omega), eg k (by omega)]
          · rw [k3 k (by omega), rk k (by omega) (by omega), hm]
          · rw [k3 _ (by decide), rk _ (by decide) (by decide), eg _ (by decide), kc _ (by decide) (by decide)]
            exact lq.1 j j0 j1
          · rw [k3 _ (by decide), rem_m (by decide)]
            unfold tw
            rw [gu_j (by decide), e51]
            exact lq.2
        have ev : scn d 100014 100034 z = mse (rem (tw m 0)) 200000 z := by
          have x := SW_o (m' := rem (tw m 0)) hSd (fun k _ _ _ => rfl) (fun k _ _ _ => rfl) er
          exact scn_e x.1.1 x.1.2 x.2.1 (PP_LA x.2.2.1) (by rw [← hA0]; unfold mhA; rw [er])
        exact ⟨_, _, _, by rw [e1, ev], rfl, ⟨⟨KP_MT kp (IV_MT h), r2⟩, t0, out1, i2⟩, gu_s, by omega⟩
      · rw [hE2] at q2; cases q2
      · rw [hR2] at q1; cases q1
    · cases e
    · cases e
  · have i1 := IV_te h hn
    have sm : SAM c (gz c (700000 + T.2.1 7)) := SAM_gz (by omega)
    have em := fun J' => m_x_drive (g := 5) (J := J') (s := decide (¬ c 800000 (i + 2) = 0)) (IV_MT i1) (IV_RG i1) (IV_NW i1) hz (IV_WR i1).2 (by omega) (IV_13 i1).2
    have es : gz c (700000 + T.2.1 7) 200000 = c 200000 := sm _ (Or.inl (by decide))
    have nn2 := NN_b nn es
    rcases hR with ⟨-, -, d, -, e, -⟩ | ⟨hp, hp2, e, rfl, rfl, rfl⟩ | ⟨hp, e, rfl, rfl, rfl⟩
    · cases e
    · have e1 : X = 0 := Sum.inr.inj e
      subst e1
      refine ⟨⟨by decide, by decide⟩, ⟨i1.2, sm _ (Or.inr (by decide))⟩, gE_mono (em _) fun o M1 q => ?_⟩
      rcases q with ⟨q1, q2, rfl, rfl⟩ | ⟨q1, q2, rfl, rfl⟩ | ⟨q1, rfl, rfl⟩
      · unfold mhe at q2
        rw [q1, Bool.true_and] at q2
        have x := of_decide_eq_true q2
        rw [← (NN_bg nn2 (IV_NW i1) q1).1, es, ← vv.1.1.2] at x
        exact absurd x hp2
      · have i2 := IV_tw i1 (by omega) (z := 2) (by decide)
        exact ⟨0, _, _, _, rfl, rfl, ⟨IV_MT i1, IV_RG i2⟩, tw_0, IV_out i1, i2⟩
      · rw [NN_hA nn2] at hp
        exact absurd (hp.symm.trans q1) (by decide)
    · have e1 : X = 2 := Sum.inr.inj e
      subst e1
      rw [NN_hA nn2] at hp
      refine ⟨⟨by decide, by decide⟩, ⟨i1.2, sm _ (Or.inr (by decide))⟩, gE_mono (em _) fun o M1 q => ?_⟩
      rcases q with ⟨q1, q2, rfl, rfl⟩ | ⟨q1, q2, rfl, rfl⟩ | ⟨q1, rfl, rfl⟩
      · exact absurd q1 hp
      · exact absurd q1 hp
      · have i2 := IV_tw i1 (by omega) (z := 1) (by decide)
        exact ⟨0, _, _, _, rfl, rfl, ⟨IV_MT i1, IV_RG i2⟩, tw_0, IV_out i1, i2⟩
