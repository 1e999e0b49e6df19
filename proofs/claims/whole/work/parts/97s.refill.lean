/-! the law's case: refilling -/
set_option maxHeartbeats 1000000 in
theorem op_40 {L : Nat} : OPC L 2178 := by
  intro n T c J i u5 u6 Q hn h hL hi hu hv hend
  have rg := IV_RG h
  have fx := IV_fx h hn
  have b13 := IV_13 h
  have hV := IV_NW h
  have nn := IV_NN h
  have b83 := IV_83 h
  have e14 : c 100014 4 = c 200000 3 := nn.1.2.2
  have e34 : c 100034 4 = c 200000 8 := (IV_SW h).2.1.1.2.1.2
  have eN : c 100014 1 = c 200000 0 := nn.1.1.1
  have e32 : c 100034 2 = c 200000 6 := (IV_SW h).2.1.1.1.2
  have e13 : c 100014 3 = c 200000 2 := nn.1.2.1
  have ww := (IV_WR h).2
  have c3r := hV.2.1.2
  have c8r := ww.2.2.1.2
  have n0 := hV.1.1
  refine lc_40 (HW := 7) (HM := 2) (E := fun T c _ => IV (n + 1) L T c) (by omega) (by omega) h.2 hL hi hu hv (w_refill (refill_c h hn) (fun E T1 c1 J1 q => ?_)) (fun v T1 c1 J1 hR => ?_) (fun X T1 c1 J1 hR => ?_) (fun z T2 c2 J2 k b q hk hb => hend T2 c2 J2 k b q.2.2.2 hk hb)
  · rcases q with ⟨⟨-, e⟩, -⟩ | ⟨-, e, -⟩
    · cases e
    · exact Sum.inr.inj e
  · rcases hR with ⟨⟨hp, e⟩, hR⟩ | ⟨-, e, -⟩
    · have e1 : v = c 100014 4 - c 100034 4 := Sum.inl.inj e
      have hp2 : 0 < c 200000 0 ∧ c 200000 6 = c 200000 2 := by omega
      rcases hR with ⟨hz0, rfl, rfl, rfl⟩ | ⟨hz0, d, kp, rfl⟩
      · refine ⟨⟨h.2, rfl⟩, gE_mono (m_x_refill (IV_MT h) rg hV ww (by omega) b13.2) fun o M1 q => ?_⟩
        rcases q with ⟨q1, rfl, rfl⟩ | ⟨q1, -⟩
        · have i2 := IV_tw h (by omega) (z := 0) (by decide)
          have ei : gu (tw c1 0) 200000 8 (c1 200000 3) = tw c1 0 := by
            rw [show c1 200000 3 = tw c1 0 200000 8 by rw [tw_k (by decide)]; omega]
            exact gu_id
          rw [if_neg (by omega), ei]
          exact ⟨_, _, _, by rw [e1, e14, e34], rfl, ⟨⟨IV_MT h, IV_RG i2⟩, tw_0, IV_out h, IV_up i2 (by omega)⟩, gu_s, by omega⟩
        · exact absurd hp2 (of_decide_eq_false q1)
      · have kc : ∀ k : Nat, (k < 300000 ∨ 400000 ≤ k) → ¬ k = 100052 → d k = c k := fun k hk h3 => KP_c kp hk h3
        have r0 : RG d := KP_RG kp (IV_HR h)
        have r1 : RG (gu d 100034 4 (c 100014 4)) := RG_gu r0 (by omega)
        have eg : ∀ k : Nat, ¬ k = 100034 → gu d 100034 4 (c 100014 4) k = d k := fun k hk => funext fun j => gu_k hk
        have e2 : gu d 100034 4 (c 100014 4) 200000 = c 200000 := (eg _ (by decide)).trans (kc _ (by decide) (by decide))
        have e51 : gu d 100034 4 (c 100014 4) 500001 = c 500001 := (eg _ (by decide)).trans (kc _ (by decide) (by decide))
        have e28 : gu d 100034 4 (c 100014 4) 200008 = c 200008 := (eg _ (by decide)).trans (kc _ (by decide) (by decide))
        have s8 : T1.1 800000 = T.1 800000 := KP_T kp (by decide) (by decide)
        have out1 : (T1.1 500002).1 = 3 ∧ (T1.1 500002).2.1 = 1 := by rw [KP_T kp (by decide) (by decide)]; exact IV_out h
        refine ⟨⟨by rw [s8]; exact h.2, (eg _ (by decide)).trans (kc _ (by decide) (by decide))⟩, gE_mono (m_x_refill (KP_MT kp (IV_MT h)) r1 (NW_of hV e2) (WW_of ww e2) (by omega) (by rw [e51]; exact b13.2)) fun o M1 q => ?_⟩
        rcases q with ⟨q1, rfl, rfl⟩ | ⟨q1, -⟩
        · rw [e2, if_pos (by omega)]
          have h34 : gu d 100034 4 (c 100014 4) 100034 4 = c 100014 4 := gu_s
          have h3j : ∀ j, ¬ j = 4 → gu d 100034 4 (c 100014 4) 100034 j = c 100034 j := fun j hj => by rw [gu_j hj, kc _ (by decide) (by decide)]
          generalize gu d 100034 4 (c 100014 4) = m at *
          have t13 : tw m 0 500001 13 = c 500001 13 := by unfold tw; rw [gu_j (by decide), e51]
          have rr := rem_cg (m := c) (m' := tw m 0) ((tw_k (by decide)).trans e2) ((tw_k (by decide)).trans e28) t13
          have rk : ∀ k : Nat, ¬ k = 200008 → ¬ k = 500001 → rem (tw m 0) k = m k := fun k h1 h2 => (rem_o h1 h2).trans (tw_k h2)
          have k3 : ∀ k : Nat, ¬ k = 200000 → gu (rem (tw m 0)) 200000 8 (c 200000 3) k = rem (tw m 0) k := fun k hk => funext fun j => gu_k hk
          have r2 : RG (gu (rem (tw m 0)) 200000 8 (c 200000 3)) := RG_gu (rem_RG (tw_RG r1 (by decide)) (by rw [t13]; exact b13.2)) (by omega)
          have t0 : gu (rem (tw m 0)) 200000 8 (c 200000 3) 500001 0 = 0 := by rw [k3 _ (by decide), rem_m (by decide)]; exact tw_0
          have lq := IV_LQ h
          have i2 : IV (n + 1) L T1 (gu (rem (tw m 0)) 200000 8 (c 200000 3)) := by
            refine IV_kp h (by omega) kp (fun k a1 a2 a3 a4 => ?_) (fun j a1 a2 a3 a4 => ?_) ((k3 _ (by decide)).trans rr.1) (by rw [k3 _ (by decide)]; exact rr.2) (fun G Lo hl => refill_LV (by omega) hl (fun k a1 a2 j => ?_) (fun k a1 a2 => ?_) (fun j hj => ?_) ?_ (fun j hj => ?_) ?_) r2 (fun j j0 j1 => ?_) ?_
            · rw [k3 k a2, rk k (by omega) a4]
              exact eg k (by omega)
            · rw [k3 _ (by decide), rem_m a4]
              unfold tw
              rw [gu_j a1, e51]
            · rw [k3 k (by omega), rk k (by omega) (by omega), eg k (by omega), kc k (by omega) (by omega)]
            · rw [k3 k (by omega), rk k (by omega) (by omega), eg k (by omega), kc k (by omega) (by omega)]
            · rw [k3 _ (by decide), rk _ (by decide) (by decide), h3j j hj]
            · rw [k3 _ (by decide), rk _ (by decide) (by decide), h34]
            · rw [gu_j hj, rk _ (by decide) (by decide), e2]
            · rw [gu_s]
            · rw [k3 _ (by decide), rk _ (by decide) (by decide), eg _ (by decide), kc _ (by decide) (by decide)]
              exact lq.1 j j0 j1
            · rw [k3 _ (by decide), rem_m (by decide)]
              unfold tw
              rw [gu_j (by decide), e51]
              exact lq.2
          exact ⟨_, _, _, by rw [e1, e14, e34], rfl, ⟨⟨KP_MT kp (IV_MT h), r2⟩, t0, out1, i2⟩, gu_s, by omega⟩
        · rw [e2] at q1
          exact absurd hp2 (of_decide_eq_false q1)
    · cases e
  · have i1 := IV_te h hn
    have sm : SAM c (gz c (700000 + T.2.1 7)) := SAM_gz (by omega)
    have em := fun J' => m_x_refill (g := 5) (J := J') (IV_MT i1) (IV_RG i1) (IV_NW i1) (IV_WR i1).2 (by omega) (IV_13 i1).2
    have es : gz c (700000 + T.2.1 7) 200000 = c 200000 := sm _ (Or.inl (by decide))
    rcases hR with ⟨⟨-, e⟩, -⟩ | ⟨hp, e, rfl, rfl, rfl⟩
    · cases e
    · have e1 : X = 0 := Sum.inr.inj e
      subst e1
      refine ⟨⟨by decide, by decide⟩, ⟨i1.2, sm _ (Or.inr (by decide))⟩, gE_mono (em _) fun o M1 q => ?_⟩
      rcases q with ⟨q1, rfl, rfl⟩ | ⟨q1, rfl, rfl⟩
      · rw [es] at q1
        have := of_decide_eq_true q1
        omega
      · have i2 := IV_tw i1 (by omega) (z := 1) (by decide)
        exact ⟨0, _, _, _, rfl, rfl, ⟨IV_MT i1, IV_RG i2⟩, tw_0, IV_out i1, i2⟩
