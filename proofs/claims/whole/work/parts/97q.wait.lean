/-! the law's case: waiting -/
set_option maxHeartbeats 1000000 in
theorem op_39 {L : Nat} : OPC L 2122 := by
  intro n T c J i u5 u6 Q hn h hL hi hu hv hend
  have rg := IV_RG h
  have hz := rg 800000 (i + 1)
  have fx := IV_fx h hn
  have b13 := IV_13 h
  have hV := IV_NW h
  have w5 : c 100034 1 = c 200000 5 := (IV_SW h).2.1.1.1.1
  have ww := (IV_WR h).2
  refine lc_39 (HW := 7) (HM := 2) (E := fun T c _ => IV (n + 1) L T c) (by omega) (by omega) h.2 hL hi hu hv (w_waitFor (wait_c h hn hz) (fun E T1 c1 J1 q => ?_)) (fun v T1 c1 J1 hR => ?_) (fun X T1 c1 J1 hR => ?_) (fun z T2 c2 J2 k b q hk hb => hend T2 c2 J2 k b q.2.2.2 hk hb)
  · rcases q with ⟨⟨-, -, e⟩, -⟩ | ⟨-, -, e, -⟩ | ⟨-, e, -⟩
    · cases e
    · exact Or.inr (Sum.inr.inj e)
    · exact Or.inl (Sum.inr.inj e)
  · generalize c 800000 (i + 1) = z at *
    rcases hR with ⟨⟨hp, hp2, e⟩, hR⟩ | ⟨-, -, e, -⟩ | ⟨-, e, -⟩
    · have e1 : v = c 100034 1 + z := Sum.inl.inj e
      have b5 := (IV_WR h).1.2.1
      rcases hR with ⟨rfl, rfl, rfl, rfl⟩ | ⟨hz0, d, kp, rfl⟩
      · refine ⟨⟨h.2, rfl⟩, gE_mono (m_x_waitFor (IV_MT h) rg hV hz ww (by omega) b13.2) fun o M1 q => ?_⟩
        rcases q with ⟨q1, q2, rfl, rfl⟩ | ⟨q1, q2, -⟩ | ⟨q1, -⟩
        · have i2 := IV_tw h (by omega) (z := 0) (by decide)
          have ei : gu (tw c1 0) 200000 5 (c1 200000 5 + 0) = tw c1 0 := by
            rw [Int.add_zero, show c1 200000 5 = tw c1 0 200000 5 by rw [tw_k (by decide)]]
            exact gu_id
          rw [if_neg (by decide), ei]
          exact ⟨_, _, _, by rw [e1, w5], rfl, ⟨⟨IV_MT h, IV_RG i2⟩, tw_0, IV_out h, IV_up i2 (by omega)⟩, gu_s, by omega⟩
        · rw [q1, Bool.true_and] at q2
          have := of_decide_eq_false q2
          omega
        · exact absurd hp (inr_f.mp q1)
      · have kc : ∀ k : Nat, (k < 300000 ∨ 400000 ≤ k) → ¬ k = 100052 → d k = c k := fun k hk h3 => KP_c kp hk h3
        have r0 : RG d := KP_RG kp (IV_HR h)
        have r1 : RG (gu d 100034 1 (c 100034 1 + z)) := RG_gu r0 (by omega)
        have eg : ∀ k : Nat, ¬ k = 100034 → gu d 100034 1 (c 100034 1 + z) k = d k := fun k hk => funext fun j => gu_k hk
        have e2 : gu d 100034 1 (c 100034 1 + z) 200000 = c 200000 := (eg _ (by decide)).trans (kc _ (by decide) (by decide))
        have e51 : gu d 100034 1 (c 100034 1 + z) 500001 = c 500001 := (eg _ (by decide)).trans (kc _ (by decide) (by decide))
        have e28 : gu d 100034 1 (c 100034 1 + z) 200008 = c 200008 := (eg _ (by decide)).trans (kc _ (by decide) (by decide))
        have s8 : T1.1 800000 = T.1 800000 := KP_T kp (by decide) (by decide)
        have out1 : (T1.1 500002).1 = 3 ∧ (T1.1 500002).2.1 = 1 := by rw [KP_T kp (by decide) (by decide)]; exact IV_out h
        refine ⟨⟨by rw [s8]; exact h.2, (eg _ (by decide)).trans (kc _ (by decide) (by decide))⟩, gE_mono (m_x_waitFor (KP_MT kp (IV_MT h)) r1 (NW_of hV e2) hz (WW_of ww e2) (by omega) (by rw [e51]; exact b13.2)) fun o M1 q => ?_⟩
        rcases q with ⟨q1, q2, rfl, rfl⟩ | ⟨q1, q2, -⟩ | ⟨q1, -⟩
        · rw [if_pos hz0, e2]
          generalize hd : gu d 100034 1 (c 100034 1 + z) = m at *
          have t13 : tw m 0 500001 13 = c 500001 13 := by unfold tw; rw [gu_j (by decide), e51]
          have rr := rem_cg (m := c) (m' := tw m 0) ((tw_k (by decide)).trans e2) ((tw_k (by decide)).trans e28) t13
          have rk : ∀ k : Nat, ¬ k = 200008 → ¬ k = 500001 → rem (tw m 0) k = m k := fun k h1 h2 => (rem_o h1 h2).trans (tw_k h2)
          have k3 : ∀ k : Nat, ¬ k = 200000 → gu (rem (tw m 0)) 200000 5 (c 200000 5 + z) k = rem (tw m 0) k := fun k hk => funext fun j => gu_k hk
          have r2 : RG (gu (rem (tw m 0)) 200000 5 (c 200000 5 + z)) := RG_gu (rem_RG (tw_RG r1 (by decide)) (by rw [t13]; exact b13.2)) (by omega)
          have t0 : gu (rem (tw m 0)) 200000 5 (c 200000 5 + z) 500001 0 = 0 := by rw [k3 _ (by decide), rem_m (by decide)]; exact tw_0
          have lq := IV_LQ h
          have i2 : IV (n + 1) L T1 (gu (rem (tw m 0)) 200000 5 (c 200000 5 + z)) := by
            refine IV_kp h (by omega) kp (fun k a1 a2 a3 a4 => ?_) (fun j a1 a2 a3 a4 => ?_) ((k3 _ (by decide)).trans rr.1) (by rw [k3 _ (by decide)]; exact rr.2) (fun G Lo hl => wait_LV (z := z) (by omega) hl hp (fun k a1 a2 j => ?_) (fun k a1 a2 => ?_) (fun j hj => ?_) ?_ (fun j hj => ?_) ?_) r2 (fun j j0 j1 => ?_) ?_
            · rw [k3 k a2, rk k (by omega) a4]
              exact eg k (by omega)
            · rw [k3 _ (by decide), rem_m a4]
              unfold tw
              rw [gu_j a1, e51]
            · rw [k3 k (by omega), rk k (by omega) (by omega), eg k (by omega), kc k (by omega) (by omega)]
            · rw [k3 k (by omega), rk k (by omega) (by omega), eg k (by omega), kc k (by omega) (by omega)]
            · rw [k3 _ (by decide), rk _ (by decide) (by decide), ← hd, gu_j hj, kc _ (by decide) (by decide)]
            · rw [k3 _ (by decide), rk _ (by decide) (by decide), ← hd, gu_s]
            · rw [gu_j hj, rk _ (by decide) (by decide), e2]
            · rw [gu_s]
            · rw [k3 _ (by decide), rk _ (by decide) (by decide), eg _ (by decide), kc _ (by decide) (by decide)]
              exact lq.1 j j0 j1
            · rw [k3 _ (by decide), rem_m (by decide)]
              unfold tw
              rw [gu_j (by decide), e51]
              exact lq.2
          exact ⟨_, _, _, by rw [e1, w5], rfl, ⟨⟨KP_MT kp (IV_MT h), r2⟩, t0, out1, i2⟩, gu_s, by omega⟩
        · rw [q1, Bool.true_and, e2] at q2
          have := of_decide_eq_false q2
          omega
        · exact absurd hp (inr_f.mp q1)
    · cases e
    · cases e
  · have i1 := IV_te h hn
    have sm : SAM c (gz c (700000 + T.2.1 7)) := SAM_gz (by omega)
    have em := fun J' => m_x_waitFor (g := 5) (J := J') (IV_MT i1) (IV_RG i1) (IV_NW i1) hz (IV_WR i1).2 (by omega) (IV_13 i1).2
    have es : gz c (700000 + T.2.1 7) 200000 = c 200000 := sm _ (Or.inl (by decide))
    rcases hR with ⟨⟨-, -, e⟩, -⟩ | ⟨hp, hp2, e, rfl, rfl, rfl⟩ | ⟨hp, e, rfl, rfl, rfl⟩
    · cases e
    · have e1 : X = 0 := Sum.inr.inj e
      subst e1
      refine ⟨⟨by decide, by decide⟩, ⟨i1.2, sm _ (Or.inr (by decide))⟩, gE_mono (em _) fun o M1 q => ?_⟩
      rcases q with ⟨q1, q2, rfl, rfl⟩ | ⟨q1, q2, rfl, rfl⟩ | ⟨q1, rfl, rfl⟩
      · rw [q1, Bool.true_and, es] at q2
        have := of_decide_eq_true q2
        omega
      · have i2 := IV_tw i1 (by omega) (z := 2) (by decide)
        exact ⟨0, _, _, _, rfl, rfl, ⟨IV_MT i1, IV_RG i2⟩, tw_0, IV_out i1, i2⟩
      · exact absurd hp (inr_f.mp q1)
    · have e1 : X = 1 := Sum.inr.inj e
      subst e1
      refine ⟨⟨by decide, by decide⟩, ⟨i1.2, sm _ (Or.inr (by decide))⟩, gE_mono (em _) fun o M1 q => ?_⟩
      rcases q with ⟨q1, q2, rfl, rfl⟩ | ⟨q1, q2, rfl, rfl⟩ | ⟨q1, rfl, rfl⟩
      · exact absurd (inr_t.mp q1) hp
      · exact absurd (inr_t.mp q1) hp
      · have i2 := IV_tw i1 (by omega) (z := 1) (by decide)
        exact ⟨0, _, _, _, rfl, rfl, ⟨IV_MT i1, IV_RG i2⟩, tw_0, IV_out i1, i2⟩
