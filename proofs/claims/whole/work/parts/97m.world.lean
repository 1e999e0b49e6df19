/-! the law's cases: what changes the world, and is kept first -/
theorem IV_kp {n L : Nat} {T T1 : gT} {c c1 c3 J J1 : gC} (h : IV n L T c) (hn : n ≤ 900) (kp : KP T c J T1 c1 J1) (e : ∀ k : Nat, ¬ (100034 ≤ k ∧ k < 100039) → ¬ k = 200000 → ¬ (200002 ≤ k ∧ k < 200009) → ¬ k = 500001 → c3 k = c1 k) (e5 : ∀ j, ¬ j = 0 → ¬ j = 7 → ¬ j = 9 → ¬ j = 13 → c3 500001 j = c 500001 j) (e8 : c3 200008 = rem c 200008) (e13 : c3 500001 13 = rem c 500001 13) (hLV : ∀ G Lo, LV G (700000 * (n : Int)) Lo c 100014 100034 c 200000 → LV G (700000 * ((n + 1 : Nat) : Int)) Lo c3 100014 100034 c3 200000) (hr : RG c3) (hL : LQ c3) (h7 : 0 ≤ c3 500001 7 ∧ c3 500001 7 ≤ 24) : IV (n + 1) L T1 c3 := by
  obtain ⟨⟨G, Lo, R, Z, i⟩, s⟩ := h
  obtain ⟨⟨t, f⟩, ⟨⟨a1, ⟨a2, a0, a3⟩, ⟨a4, a5, a6⟩, a7, a8⟩, ⟨b1, b2, b3, b4⟩, b9, b5, b6⟩, ⟨d1, d2, d3⟩, ⟨f1, f2⟩, g1, g2, g3⟩ := i
  have kc : ∀ k : Nat, (k < 300000 ∨ 400000 ≤ k) → ¬ k = 100052 → c1 k = c k := fun k hk h3 => KP_c kp hk h3
  have tk := TGS_K t kp
  have fk := FRE_K f kp t.2.2.2.2
  have kT : T1.1 800000 = T.1 800000 := KP_T kp (by decide) (by decide)
  have ek : ∀ k : Nat, k < 100034 ∨ (100039 ≤ k ∧ k < 100052) ∨ (100053 ≤ k ∧ k < 200000) ∨ k = 200001 ∨ (200009 ≤ k ∧ k < 300000) ∨ (400000 ≤ k ∧ k < 500001) ∨ 500002 ≤ k → c3 k = c k := fun k hk => (e k (by omega) (by omega) (by omega) (by omega)).trans (kc k (by omega) (by omega))
  have e52 : c3 100052 = c1 100052 := e _ (by decide) (by decide) (by decide) (by decide)
  have hs : HS G (700000 * (n : Int)) Lo c1 (rem c) := by
    obtain ⟨c0, q, h0, h1, h2, h4, h5, -⟩ := kp
    rw [h2]
    exact HS_keep f2 f1 h0 (fun k hk => (h5 k hk).1) rfl rfl
  have hs3 : HS G (700000 * (n : Int)) Lo c3 c3 := HS_o hs (fun k k0 k1 => e k (by omega) (by omega) (by omega) (by omega)) e52 e8 e13
  refine ⟨⟨G, Lo, R, Z, ⟨TGS_c tk e52 (fun k hk j => by rw [e k (by omega) (by omega) (by omega) (by omega)]), FRE_n fk⟩, ⟨⟨hr, ⟨NR_k2 a2 fun k k0 k1 j => by rw [ek k (by omega)], ?_, ?_⟩, ⟨SR_o2 a4 (ek _ (by decide)) (ek _ (by decide)), PR_o a5 fun k hk => ek k (by omega), PQ_o a6 (PT_k t.2.2.1).1 fun k hk => ek k (by omega)⟩, fun k hk => ?_, TX_o a8 fun k hk => ek k (by omega)⟩, ⟨⟨hr, ?_, ?_⟩, hL, ?_, h7⟩, ?_, OUT_k b5 (ek _ (by decide)) (ek _ (by decide)) (ek _ (by decide)) (e5 25 (by decide) (by decide) (by decide) (by decide)), ?_⟩, ⟨d1, CCR_o d2 (by rw [ek _ (by decide)]) (ek _ (by decide)) (ek _ (by decide)), CCP_o d3 fun k k0 k1 => ek k (by omega)⟩, ⟨hLV G Lo f1, HS_mono hs3 (by omega) (by omega) (Int.le_refl _)⟩, ?_, g2, by omega⟩, ?_⟩
  · unfold BR; rw [ek 100000 (by decide)]; exact a0
  · unfold BR; rw [ek 100030 (by decide)]; exact a3
  · rw [ek 100033 (by decide)]; exact a7 k hk
  · rw [e5 15 (by decide) (by decide) (by decide) (by decide)]; exact b1.2.1
  · rw [ek 200009 (by decide)]; exact b1.2.2
  · rw [e5 25 (by decide) (by decide) (by decide) (by decide)]; exact b3
  · rw [ek 100000 (by decide), ek 100001 (by decide), ek 200009 (by decide), e5 15 (by decide) (by decide) (by decide) (by decide)]; exact b9
  · rw [ek 100032 (by decide), e5 21 (by decide) (by decide) (by decide) (by decide), e5 22 (by decide) (by decide) (by decide) (by decide)]; exact b6
  · rw [ek 500000 (by decide)]; exact g1
  · rw [kT]; exact s
/-- both sides take back -/
theorem IV_undo {n L : Nat} {T : gT} {c c3 : gC} (h : IV n L T c) (hn : n ≤ 900) (h2 : ¬ c 100052 2 = 0) (ec : ∀ k : Nat, ¬ k = 200000 → ¬ k = 500001 → c3 k = hrs c (qp (hsj c)) k) (em : c3 200000 = und (tw (hrs c (qp (hsj c))) 0) 200000) (e5 : ∀ j, ¬ j = 0 → ¬ j = 13 → c3 500001 j = c 500001 j) (e13 : c3 500001 13 = c 500001 13 - 1) (hr : RG c3) : IV n L T c3 := by
  obtain ⟨⟨G, Lo, R, Z, i⟩, s⟩ := h
  obtain ⟨⟨t, f⟩, ⟨⟨a1, ⟨a2, a0, a3⟩, ⟨a4, a5, a6⟩, a7, a8⟩, ⟨b1, b2, b3, b4⟩, b9, b5, b6⟩, ⟨d1, d2, d3⟩, ⟨f1, f2⟩, g1, g2, g3⟩ := i
  have j1 : 0 ≤ hsj c ∧ hsj c < 10 := by have := f2.1.2; unfold hsj; omega
  have q0 : 300000 ≤ qp (hsj c) ∧ qp (hsj c) + 18 ≤ 300180 := by unfold qp; omega
  have hk : ∀ k : Nat, (k < 100014 ∨ (100026 ≤ k ∧ k < 100034) ∨ 100039 ≤ k) → ¬ k = 100052 → hrs c (qp (hsj c)) k = c k := fun k hk h3 => funext fun j => by
    unfold hrs
    rw [gu_k h3, gu_k h3, wcp_k (by omega), ncp_k (by omega)]
  have ek : ∀ k : Nat, (k < 100014 ∨ (100026 ≤ k ∧ k < 100034) ∨ 100039 ≤ k) → ¬ k = 100052 → ¬ k = 200000 → ¬ k = 500001 → c3 k = c k := fun k h1 h2 h3 h4 => (ec k h3 h4).trans (hk k h1 h2)
  have m8 : tw (hrs c (qp (hsj c))) 0 200008 = c 200008 := (tw_k (by decide)).trans (hk _ (by decide) (by decide))
  have m13 : tw (hrs c (qp (hsj c))) 0 500001 13 = c 500001 13 := by
    unfold tw
    rw [gu_j (by decide), hk 500001 (by decide) (by decide)]
  obtain ⟨u1, u2⟩ := HS_undo (m' := tw (hrs c (qp (hsj c))) 0) f2 h2 m8 m13
  have u8 : und (tw (hrs c (qp (hsj c))) 0) 200008 = c 200008 := by
    rw [← m8]
    funext j
    unfold und
    rw [gcp_o (by decide), gu_k (by decide)]
  have u13 : und (tw (hrs c (qp (hsj c))) 0) 500001 13 = c 500001 13 - 1 := by
    unfold und
    rw [gcp_o (by decide), gu_s, m13]
  have e52 : c3 100052 = hrs c (qp (hsj c)) 100052 := ec _ (by decide) (by decide)
  have hc52 : hrs c (qp (hsj c)) 100052 1 = hsj c ∧ hrs c (qp (hsj c)) 100052 2 = c 100052 2 - 1 := ⟨by unfold hrs; rw [gu_j (by decide), gu_s], by unfold hrs; rw [gu_s]⟩
  have hH : HR T c3 := by
    obtain ⟨m, q1, q2, q3, q4, q5, q6, q7, q8, q9⟩ := t.2.2.2.2
    refine ⟨m, q1, q2, q3, q4, q5, q6, ?_, ?_, ?_⟩
    · rw [e52, hc52.1]; unfold hsj; by_cases w : c 100052 1 < c 100052 2 <;> omega
    · rw [e52, hc52.2]; omega
    · rw [e52, hc52.1, hc52.2]
      unfold hsj
      intro w
      by_cases w2 : c 100052 1 < c 100052 2
      · exact q9 w2
      · omega
  refine ⟨⟨G, Lo, R, Z, ⟨⟨t.1, t.2.1, t.2.2.1, LT_of t.2.2.2.1 (fun _ _ => rfl) (fun k hk j => by rw [ek k (by omega) (by omega) (by omega) (by omega)]), hH⟩, f⟩, ⟨⟨hr, ⟨NR_k2 a2 fun k k0 k1 j => by rw [ek k (by omega) (by omega) (by omega) (by omega)], ?_, ?_⟩, ⟨SR_o2 a4 (ek _ (by decide) (by decide) (by decide) (by decide)) (ek _ (by decide) (by decide) (by decide) (by decide)), PR_o a5 fun k hk => ek k (by omega) (by omega) (by omega) (by omega), PQ_o a6 (PT_k t.2.2.1).1 fun k hk => ek k (by omega) (by omega) (by omega) (by omega)⟩, fun k hk => ?_, TX_o a8 fun k hk => ek k (by omega) (by omega) (by omega) (by omega)⟩, ⟨⟨hr, ?_, ?_⟩, fun j j0 j1 => ?_, ?_, ?_⟩, ?_, OUT_k b5 (ek _ (by decide) (by decide) (by decide) (by decide)) (ek _ (by decide) (by decide) (by decide) (by decide)) (ek _ (by decide) (by decide) (by decide) (by decide)) (e5 25 (by decide) (by decide)), ?_⟩, ⟨d1, CCR_o d2 (by rw [ek _ (by decide) (by decide) (by decide) (by decide)]) (ek _ (by decide) (by decide) (by decide) (by decide)) (ek _ (by decide) (by decide) (by decide) (by decide)), CCP_o d3 fun k k0 k1 => ek k (by omega) (by omega) (by omega) (by omega)⟩, ⟨LV_o u2 (fun k k0 k1 j => by rw [ec k (by omega) (by omega)]) (fun k k0 k1 j => by rw [ec k (by omega) (by omega)]) em, HS_o u1 (fun k k0 k1 => ec k (by omega) (by omega)) e52 ((ek _ (by decide) (by decide) (by decide) (by decide)).trans u8.symm) (e13.trans u13.symm)⟩, ?_, g2, g3⟩, s⟩
  · unfold BR; rw [ek 100000 (by decide) (by decide) (by decide) (by decide)]; exact a0
  · unfold BR; rw [ek 100030 (by decide) (by decide) (by decide) (by decide)]; exact a3
  · rw [ek 100033 (by decide) (by decide) (by decide) (by decide)]; exact a7 k hk
  · rw [e5 15 (by decide) (by decide)]; exact b1.2.1
  · rw [ek 200009 (by decide) (by decide) (by decide) (by decide)]; exact b1.2.2
  · rw [ek 200006 (by decide) (by decide) (by decide) (by decide)]; exact b2 j j0 j1
  · rw [e5 25 (by decide) (by decide)]; exact b3
  · rw [e5 7 (by decide) (by decide)]; exact b4
  · rw [ek 100000 (by decide) (by decide) (by decide) (by decide), ek 100001 (by decide) (by decide) (by decide) (by decide), ek 200009 (by decide) (by decide) (by decide) (by decide), e5 15 (by decide) (by decide)]; exact b9
  · rw [ek 100032 (by decide) (by decide) (by decide) (by decide), e5 21 (by decide) (by decide), e5 22 (by decide) (by decide)]; exact b6
  · rw [ek 500000 (by decide) (by decide) (by decide) (by decide)]; exact g1
