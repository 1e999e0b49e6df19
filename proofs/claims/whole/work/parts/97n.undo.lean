/-! the law's case: undo -/
def RU (T : gT) (c J : gC) : (Int ⊕ Nat) → gT → gC → gC → Prop := fun r T1 c1 J1 => J1 = J ∧ ((¬ c 100052 2 = 0 ∧ r = .inl (c 100052 2 - 1) ∧ T1 = T ∧ c1 = hrs c (qp (hsj c))) ∨ (c 100052 2 = 0 ∧ r = .inr 0 ∧ T1 = gTt T ∧ c1 = c))
theorem undo_c {n L : Nat} {T : gT} {c J : gC} (h : IV n L T c) (hn : n < 900) : gE 5 157 6 [.ref 500000] (gm T c J) (gP (RU T c J)) := by
  have rg := IV_RG h
  have fx := IV_fx h hn
  have hout := IV_out h
  obtain ⟨m, hm⟩ := IV_HR h
  have b13 := IV_13 h
  obtain ⟨q1, q2, q3, q4, q5, q6, q7, q8, q9⟩ := hm
  have j1 : 0 ≤ hsj c ∧ hsj c < 10 := by unfold hsj; omega
  by_cases w : (hsj c).toNat < m
  · obtain ⟨r1, r2⟩ := q5 _ w
    refine gE_mono (c_x_undo (q := qp (hsj c)) (IV_XT h) q1 rg ⟨q7.1, q7.2.1⟩ ⟨q8.1, q8.2.1⟩ (IV_NT h) (IV_WT h).1 r1 r2 (by unfold qp; omega)) fun o M1 q => ?_
    rcases q with ⟨a, rfl, rfl⟩ | ⟨a, rfl, rfl⟩
    · exact ⟨gTt T, c, J, rfl, Or.inr ⟨0, rfl, fx.1, rfl, Or.inr ⟨a, rfl, rfl, rfl⟩⟩⟩
    · have e : hrs c (qp (hsj c)) 100052 2 = c 100052 2 - 1 := by unfold hrs; rw [gu_s]
      rw [e]
      exact ⟨T, _, J, rfl, Or.inl ⟨_, rfl, by omega, hout, rfl, Or.inl ⟨a, rfl, rfl, rfl⟩⟩⟩
  · have z : c 100052 2 = 0 := by
      have e : hsj c = (c 100052 1 + 10 - 1) % 10 := rfl
      by_cases w2 : c 100052 1 < c 100052 2
      · have := q9 w2; omega
      · omega
    refine gE_mono (c_x_undoN (IV_XT h) q1 rg ⟨q7.1, q7.2.1⟩ ⟨q8.1, q8.2.1⟩ (IV_NT h) (IV_WT h).1 (q6 _ (by have e : hsj c = (c 100052 1 + 10 - 1) % 10 := rfl; omega))) fun o M1 q => ?_
    obtain ⟨rfl, rfl⟩ := q
    exact ⟨gTt T, c, J, rfl, Or.inr ⟨0, rfl, fx.1, rfl, Or.inr ⟨z, rfl, rfl, rfl⟩⟩⟩
set_option maxHeartbeats 1000000 in
theorem op_48 {L : Nat} : OPC L 2556 := by
  intro n T c J i u5 u6 Q hn h hL hi hu hv hend
  have rg := IV_RG h
  have fx := IV_fx h hn
  have b13 := IV_13 h
  have hV := IV_NW h
  refine lc_48 (HW := 7) (HM := 2) (E := fun T c _ => IV (n + 1) L T c) (by omega) (by omega) h.2 hL hi hu hv (w_undo (undo_c h hn) (fun E T1 c1 J1 q => ?_)) (fun v T1 c1 J1 hR => ?_) (fun X T1 c1 J1 hR => ?_) (fun z T2 c2 J2 k b q hk hb => hend T2 c2 J2 k b q.2.2.2 hk hb)
  · obtain ⟨-, ⟨-, e, -⟩ | ⟨-, e, -⟩⟩ := q
    · cases e
    · exact Sum.inr.inj e
  · obtain ⟨rfl, ⟨hp, e, rfl, rfl⟩ | ⟨-, e, -⟩⟩ := hR
    · have e1 : v = c 100052 2 - 1 := Sum.inl.inj e
      subst e1
      have hk : ∀ k : Nat, (k < 100014 ∨ (100026 ≤ k ∧ k < 100034) ∨ 100039 ≤ k) → ¬ k = 100052 → hrs c (qp (hsj c)) k = c k := fun k hk h3 => funext fun j => by
        unfold hrs
        rw [gu_k h3, gu_k h3, wcp_k (by omega), ncp_k (by omega)]
      have j1 : 0 ≤ hsj c ∧ hsj c < 10 := by have := (IV_HR h); obtain ⟨m, hm⟩ := this; have := hm.2.2.2.2.2.2.1; unfold hsj; omega
      have r1 : RG (hrs c (qp (hsj c))) := by
        unfold hrs
        exact RG_gu (RG_gu (wcp_RG (ncp_RG rg)) (by omega)) (by omega)
      have e2 : hrs c (qp (hsj c)) 200000 = c 200000 := hk _ (by decide) (by decide)
      have e13 : hrs c (qp (hsj c)) 500001 = c 500001 := hk _ (by decide) (by decide)
      refine ⟨⟨h.2, hk _ (by decide) (by decide)⟩, gE_mono (m_x_undo (IV_MT h) r1 (NW_of hV e2) (by rw [e13]; exact b13.2)) fun o M1 q => ?_⟩
      rcases q with ⟨q1, rfl, rfl⟩ | ⟨q1, rfl, rfl⟩
      · have r2 : RG (und (tw (hrs c (qp (hsj c))) 0)) := by
          unfold und
          exact RG_gcp (RG_gu (tw_RG r1 (by decide)) (by unfold tw; rw [gu_j (by decide), e13]; omega))
        have t0 : und (tw (hrs c (qp (hsj c))) 0) 500001 0 = 0 := by
          unfold und
          rw [gcp_o (by decide), gu_j (by decide)]
          exact tw_0
        have i2 : IV n L T1 (und (tw (hrs c (qp (hsj c))) 0)) := by
          refine IV_undo h (by omega) hp (fun k k0 k1 => funext fun j => ?_) rfl (fun j j0 j1 => ?_) ?_ r2
          · unfold und
            rw [gcp_o k0, gu_k k1, tw_k k1]
          · unfold und tw
            rw [gcp_o (by decide), gu_j j1, gu_j j0, e13]
          · unfold und tw
            rw [gcp_o (by decide), gu_s, gu_j (by decide), e13]
        refine ⟨_, _, _, ?_, rfl, ⟨⟨IV_MT h, r2⟩, t0, IV_out h, IV_up i2 (by omega)⟩, gu_s, by omega⟩
        rw [e13, b13.1]
      · have := of_decide_eq_false q1
        rw [e13, b13.1] at this
        omega
    · cases e
  · obtain ⟨rfl, ⟨-, e, -⟩ | ⟨hp, e, rfl, rfl⟩⟩ := hR
    · cases e
    · have e1 : X = 0 := Sum.inr.inj e
      subst e1
      have i1 := IV_te h hn
      have sm : SAM c1 (gz c1 (700000 + T.2.1 7)) := SAM_gz (by omega)
      refine ⟨⟨by decide, by decide⟩, ⟨i1.2, sm _ (Or.inr (by decide))⟩, gE_mono (m_x_undo (IV_MT i1) (IV_RG i1) (IV_NW i1) (IV_13 i1).2) fun o M1 q => ?_⟩
      rcases q with ⟨q1, rfl, rfl⟩ | ⟨q1, rfl, rfl⟩
      · have q2 := of_decide_eq_true q1
        rw [show gz c1 (700000 + (gTt T).2.1 7) 500001 = c1 500001 from sm 500001 (Or.inl (by decide)), b13.1] at q2
        omega
      · have i2 := IV_tw i1 (by omega) (z := 1) (by decide)
        exact ⟨0, _, _, _, rfl, rfl, ⟨IV_MT i1, IV_RG i2⟩, tw_0, IV_out i1, i2⟩
