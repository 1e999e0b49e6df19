/-! the law's cases: what is put in -/
theorem IV_io {n L : Nat} {T : gT} {c c' : gC} (h : IV n L T c) (hn : n ≤ 990) (e : ∀ k : Nat, ¬ k = 100000 → ¬ k = 100001 → ¬ k = 200009 → ¬ k = 500001 → c' k = c k) (e5 : ∀ j, ¬ j = 0 → ¬ j = 15 → c' 500001 j = c 500001 j) (hr : RG c') (hB : BR c' 100000) (hM : MIn c') (hI : c' 100000 1 = c' 500001 15 ∧ ∀ k, 0 ≤ k → k < c' 100000 1 → c' 100001 k = c' 200009 k ∧ -128 ≤ c' 100001 k ∧ c' 100001 k < 128) : IV n L T c' := by
  obtain ⟨⟨G, Lo, R, Z, i⟩, s⟩ := h
  obtain ⟨⟨t, f⟩, ⟨⟨a1, ⟨a2, -, a3⟩, ⟨a4, a5, a6⟩, a7, a8⟩, ⟨-, b2, b3, b4⟩, -, b5, b6⟩, ⟨d1, d2, d3⟩, ⟨f1, f2⟩, g1, g2⟩ := i
  have ek : ∀ k : Nat, k < 100000 ∨ (100002 ≤ k ∧ k < 200009) ∨ (200010 ≤ k ∧ k < 500001) ∨ 500002 ≤ k → c' k = c k := fun k hk => e k (by omega) (by omega) (by omega) (by omega)
  refine ⟨⟨G, Lo, R, Z, ⟨TGS_c t (ek _ (by decide)) (fun k hk j => by rw [ek k (by omega)]), f⟩, ⟨⟨hr, ⟨NR_k2 a2 fun k k0 k1 j => by rw [ek k (by omega)], hB, ?_⟩, ⟨SR_o2 a4 (ek _ (by decide)) (ek _ (by decide)), PR_o a5 fun k hk => ek k (by omega), PQ_o a6 (PT_k t.2.2.1).1 fun k hk => ek k (by omega)⟩, fun k hk => ?_, TX_o a8 fun k hk => ek k (by omega)⟩, ⟨hM, fun j j0 j1 => ?_, ?_, ?_⟩, hI, OUT_k b5 (ek _ (by decide)) (ek _ (by decide)) (ek _ (by decide)) (e5 25 (by decide) (by decide)), ?_⟩, ⟨d1, CCR_o d2 (by rw [ek _ (by decide)]) (ek _ (by decide)) (ek _ (by decide)), CCP_o d3 fun k k0 k1 => ek k (by omega)⟩, ⟨LV_o f1 (fun k k0 k1 j => by rw [ek k (by omega)]) (fun k k0 k1 j => by rw [ek k (by omega)]) (ek _ (by decide)), HS_o f2 (fun k k0 k1 => ek k (by omega)) (ek _ (by decide)) (ek _ (by decide)) (e5 13 (by decide) (by decide))⟩, ?_, g2⟩, s⟩
  · unfold BR; rw [ek 100030 (by decide)]; exact a3
  · rw [ek 100033 (by decide)]; exact a7 k hk
  · rw [ek 200006 (by decide)]; exact b2 j j0 j1
  · rw [e5 25 (by decide) (by decide)]; exact b3
  · rw [e5 7 (by decide) (by decide)]; exact b4
  · rw [ek 100032 (by decide), e5 21 (by decide) (by decide), e5 22 (by decide) (by decide)]; exact b6
  · rw [ek 500000 (by decide)]; exact g1
theorem IV_in {n L : Nat} {T : gT} {c : gC} (h : IV n L T c) : (BT T 100000 ∧ BR c 100000) ∧ MIn c ∧ c 100000 1 = c 500001 15 ∧ ∀ k, 0 ≤ k → k < c 100000 1 → c 100001 k = c 200009 k ∧ -128 ≤ c 100001 k ∧ c 100001 k < 128 := by
  have ct := IV_CT h
  obtain ⟨⟨G, Lo, R, Z, -, ⟨⟨-, ⟨-, a, -⟩, -⟩, ⟨b, -⟩, d, -⟩, -⟩, -⟩ := h
  exact ⟨⟨ct.1.2.2.2, a⟩, b, d⟩
def RT1 (z : Int) (T : gT) (c J : gC) : (Int ⊕ Nat) → gT → gC → gC → Prop := fun r T1 c1 J1 => J1 = J ∧ (((0 ≤ z ∧ z ≤ c 100000 1) ∧ r = .inl 0 ∧ T1 = T ∧ c1 = gu c 100000 1 z) ∨ (¬ (0 ≤ z ∧ z ≤ c 100000 1) ∧ r = .inr 1 ∧ T1 = gTt T ∧ c1 = c))
set_option maxHeartbeats 1000000 in
theorem op_1 {L : Nat} : OPC L 416 := by
  intro n T c J i u5 u6 Q hn h hL hi hu hv hend
  have rg := IV_RG h
  have hz := rg 800000 (i + 1)
  obtain ⟨⟨bt, br⟩, mi, io1, io2⟩ := IV_in h
  have fx := IV_fx h hn
  have h1 : gE 5 98 6 [.ref 500000, gi (c 800000 (i + 1))] (gm T c J) (gP0 (RT1 (c 800000 (i + 1)) T c J)) := gE_mono (c_x_truncate (IV_XT h) bt rg br hz) fun o M1 q => by
    rcases q with ⟨hp, rfl, rfl⟩ | ⟨hp, rfl, rfl⟩
    · exact ⟨T, _, J, rfl, Or.inl ⟨rfl, rfl, Or.inl ⟨hp, rfl, rfl, rfl⟩⟩⟩
    · exact ⟨gTt T, c, J, rfl, Or.inr ⟨1, rfl, fx.1, rfl, Or.inr ⟨hp, rfl, rfl, rfl⟩⟩⟩
  refine lc_1 (HW := 7) (HM := 2) (E := fun T c _ => IV (n + 1) L T c) (by omega) (by omega) h.2 hL hi hu hv (w_truncate h1 (fun E T1 c1 J1 q => ?_)) (fun T1 c1 J1 hR => ?_) (fun X T1 c1 J1 hR => ?_) (fun z T2 c2 J2 k b q hk hb => hend T2 c2 J2 k b q.2.2.2 hk hb)
  · obtain ⟨-, ⟨-, e, -⟩ | ⟨-, e, -⟩⟩ := q
    · cases e
    · exact Sum.inr.inj e
  · obtain ⟨rfl, ⟨hp, -, rfl, rfl⟩ | ⟨-, e, -⟩⟩ := hR
    · have r1 : RG (gu c 100000 1 (c 800000 (i + 1))) := RG_gu rg hz
      refine ⟨⟨h.2, funext fun j => gu_k (by decide)⟩, gE_mono (m_x_truncate (IV_MT h) r1 hz) fun o M1 q => ?_⟩
      obtain ⟨rfl, ⟨q1, rfl⟩ | ⟨q1, rfl⟩⟩ := q
      · have r2 : RG (gu (tw (gu c 100000 1 (c 800000 (i + 1))) 0) 500001 15 (c 800000 (i + 1))) := RG_gu (tw_RG r1 (by decide)) hz
        have b0 := br.2
        have e : ∀ k : Nat, ¬ k = 100000 → ¬ k = 500001 → gu (tw (gu c 100000 1 (c 800000 (i + 1))) 0) 500001 15 (c 800000 (i + 1)) k = c k := fun k k0 k1 => funext fun j => by rw [gu_k k1, tw_k k1, gu_k k0]
        have v0 : gu (tw (gu c 100000 1 (c 800000 (i + 1))) 0) 500001 15 (c 800000 (i + 1)) 100000 1 = c 800000 (i + 1) := by rw [gu_k (by decide), tw_k (by decide), gu_s]
        have v1 : gu (tw (gu c 100000 1 (c 800000 (i + 1))) 0) 500001 15 (c 800000 (i + 1)) 500001 15 = c 800000 (i + 1) := gu_s
        have e5 : ∀ j, ¬ j = 0 → ¬ j = 15 → gu (tw (gu c 100000 1 (c 800000 (i + 1))) 0) 500001 15 (c 800000 (i + 1)) 500001 j = c 500001 j := fun j j0 j1 => by
          rw [gu_j j1]
          unfold tw
          rw [gu_j j0, gu_k (by decide)]
        have t0 : gu (tw (gu c 100000 1 (c 800000 (i + 1))) 0) 500001 15 (c 800000 (i + 1)) 500001 0 = 0 := by rw [gu_j (by decide)]; exact tw_0
        have i2 : IV n L T1 (gu (tw (gu c 100000 1 (c 800000 (i + 1))) 0) 500001 15 (c 800000 (i + 1))) := by
          refine IV_io h (by omega) (fun k k0 _ _ k3 => e k k0 k3) e5 r2 (by unfold BR; rw [v0]; omega) ⟨r2, by rw [v1]; omega, fun k k0 k1 => by rw [e 200009 (by decide) (by decide)]; exact mi.2.2 k k0 k1⟩ ⟨by rw [v0, v1], fun k k0 k1 => ?_⟩
          rw [v0] at k1
          rw [e 100001 (by decide) (by decide), e 200009 (by decide) (by decide)]
          exact io2 k k0 (by omega)
        exact ⟨_, _, _, rfl, rfl, ⟨IV_MT h, r2⟩, t0, IV_out h, IV_up i2 (by omega)⟩
      · exact absurd (show 0 ≤ c 800000 (i + 1) ∧ c 800000 (i + 1) ≤ gu c 100000 1 (c 800000 (i + 1)) 500001 15 by rw [gu_k (by decide), ← io1]; exact hp) (inr_f.mp q1)
    · cases e
  · obtain ⟨rfl, ⟨-, e, -⟩ | ⟨hp, e, rfl, rfl⟩⟩ := hR
    · cases e
    · have e1 : X = 1 := Sum.inr.inj e
      subst e1
      have i1 := IV_te h hn
      have sm : SAM c1 (gz c1 (700000 + T.2.1 7)) := SAM_gz (by omega)
      refine ⟨⟨by decide, by decide⟩, ⟨i1.2, sm _ (Or.inr (by decide))⟩, gE_mono (m_x_truncate (IV_MT i1) (IV_RG i1) hz) fun o M1 q => ?_⟩
      obtain ⟨rfl, ⟨q1, rfl⟩ | ⟨q1, rfl⟩⟩ := q
      · have q2 := inr_t.mp q1
        rw [show gz c1 (700000 + T.2.1 7) 500001 = c1 500001 from sm 500001 (Or.inl (by decide)), ← io1] at q2
        exact absurd q2 hp
      · have i2 := IV_tw i1 (by omega) (z := 1) (by decide)
        exact ⟨_, _, _, rfl, rfl, ⟨IV_MT i1, IV_RG i2⟩, tw_0, IV_out i1, i2⟩
