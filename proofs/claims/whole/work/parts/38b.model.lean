/-! the reference: to a node, in public -/
set_option maxHeartbeats 1000000 in
theorem m_x_driveTo {g : Nat} {T : gT} {c J : gC} (hM : MT T 200000) (hc : RG c) (hV : NW c 200000) {B : Int} (hW : WW c 200000 B) (hB : B ≤ 900000000) (h13 : 0 ≤ c 500001 13 ∧ c 500001 13 ≤ 10) {n : Int} (hn : -2147483648 ≤ n ∧ n < 2147483648) {s : Bool} (hO : mno c 200000 n = true → LO (mll (rem (tw c 0)) 200000) 200000 (24 + n)) (hm : mcr c 200000 n = true → ¬ c 200000 6 = n → mcf (mll (rem (tw c 0)) 200000) 200000 (c 200000 6) (-1) (24 + n) < 1000000000) : gE g 275 8 [.ref 500001, gi n, gi (bi s)] (gm T c J) (fun o M1 => (mno c 200000 n = true ∧ mcr c 200000 n = true ∧ c 200000 6 = n ∧ o = .inl (some (gi 0)) ∧ M1 = gm T (tw c 0) J) ∨ (mno c 200000 n = true ∧ mcr c 200000 n = true ∧ ¬ c 200000 6 = n ∧ o = .inl (some (gi (mgt (mll (rem (tw c 0)) 200000) 200000 n s).1)) ∧ M1 = gm T (mgt (mll (rem (tw c 0)) 200000) 200000 n s).2 J) ∨ (mno c 200000 n = true ∧ mcr c 200000 n = false ∧ o = .inl (some (gi 0)) ∧ M1 = gm T (tw c 2) J) ∨ (mno c 200000 n = false ∧ o = .inl (some (gi 0)) ∧ M1 = gm T (tw c 1) J)) := by
  have t1 : RG (tw c 0) := tw_RG hc (by decide)
  have t0 : tw c 0 200000 = c 200000 := tw_k (by decide)
  have t2 : NW (tw c 0) 200000 := NW_of hV t0
  have v0 := hV.1.1
  have v1 := hV.1.2
  have tW : WW (tw c 0) 200000 B := WW_of hW t0
  have w1 := hW.1
  have w2 := hW.2.1
  have w3 := hW.2.2.1
  have t5 : tw c 0 200000 5 = c 200000 5 := by rw [t0]
  have e13 : tw c 0 500001 13 = c 500001 13 := gu_j (by decide)
  have r1 : RG (rem (tw c 0)) := rem_RG t1 (by rw [e13]; exact h13)
  have r0 : rem (tw c 0) 200000 = c 200000 := by rw [rem_o (by decide) (by decide), t0]
  have r2 : NW (rem (tw c 0)) 200000 := NW_of hV r0
  have rW : WW (rem (tw c 0)) 200000 B := WW_of hW r0
  obtain ⟨⟨g1, g2⟩, g3⟩ := mll_ok r1 r2
  have g0 : (mll (rem (tw c 0)) 200000) 200000 = c 200000 := by rw [g2 200000 (by decide), r0]
  have g4 : NW (mll (rem (tw c 0)) 200000) 200000 := NW_of hV g0
  have g5 : WW (mll (rem (tw c 0)) 200000) 200000 B := WW_of hW g0
  have s5 : ∀ j, tw c 0 200000 j = c 200000 j := fun j => by rw [t0]
  refine gE_mk am_r275 rfl (Or.inr ⟨_, rfl, (by first | exact MT_0 hM | exact MT_now hM | exact MT_bt hM | exact MT_bl hM | exact MT_r0 hM | exact MT_t0 hM | exact MT_l0 hM | exact MT_r1 hM | exact MT_t1 hM | exact MT_l1 hM | exact MT_r2 hM | exact MT_t2 hM | exact MT_l2 hM | exact MT_r3 hM | exact MT_t3 hM | exact MT_l3 hM | exact MT_r4 hM | exact MT_t4 hM | exact MT_l4 hM | exact MT_r5 hM | exact MT_t5 hM | exact MT_l5 hM | exact MT_r6 hM | exact MT_t6 hM | exact MT_l6 hM | exact MT_r7 hM | exact MT_t7 hM | exact MT_l7 hM | exact MT_r8 hM | exact MT_t8 hM | exact MT_l8 hM | exact MT_r9 hM | exact MT_t9 hM | exact MT_l9 hM | exact MT_r10 hM | exact MT_t10 hM | exact MT_l10 hM)⟩) (fun d hd => ?_)
  show gw d g 275 0 [.ref 500001, gi n, gi (bi s)] [] _ _
  refine gw_al0 at275_0 (gw_al0 at275_1 (gw_il1 at275_2 (gw_callP2 at275_3 (m_isNode hM hc hV (by omega)) (by omega) (Nat.le_of_ble_eq_true rfl) (gw_al0 at275_6 (gw_il1 at275_7 (gw_callP2 at275_8 (m_canReach hM hc hV hn) (by omega) (Nat.le_of_ble_eq_true rfl) ?_))))))
  refine gw_call3 at275_11 (m_pas2 hM hc (p := mno c 200000 n) (q := mcr c 200000 n)) (by omega) (Nat.le_of_ble_eq_true rfl) (fun o M1 q11 => ?_)
  rcases q11 with ⟨hp11, hq11, rfl, rfl⟩ | ⟨hp11, hq11, rfl, rfl⟩ | ⟨hp11, rfl, rfl⟩
  · show gw _ _ _ _ _ (gi _ :: _) _ _
    refine gw_zne at275_14 (by first | omega | exact bi_rg _ | exact hc _ _) (fun q14 => ?_) (fun q14 => absurd q14 (by decide))
    refine gw_al0 at275_19 (gw_gr at275_20 (by first | exact MT_0 hM | exact MT_now hM | exact MT_bt hM | exact MT_bl hM | exact MT_r0 hM | exact MT_t0 hM | exact MT_l0 hM | exact MT_r1 hM | exact MT_t1 hM | exact MT_l1 hM | exact MT_r2 hM | exact MT_t2 hM | exact MT_l2 hM | exact MT_r3 hM | exact MT_t3 hM | exact MT_l3 hM | exact MT_r4 hM | exact MT_t4 hM | exact MT_l4 hM | exact MT_r5 hM | exact MT_t5 hM | exact MT_l5 hM | exact MT_r6 hM | exact MT_t6 hM | exact MT_l6 hM | exact MT_r7 hM | exact MT_t7 hM | exact MT_l7 hM | exact MT_r8 hM | exact MT_t8 hM | exact MT_l8 hM | exact MT_r9 hM | exact MT_t9 hM | exact MT_l9 hM | exact MT_r10 hM | exact MT_t10 hM | exact MT_l10 hM) (by first | exact MT_0 hM | exact MT_now hM | exact MT_bt hM | exact MT_bl hM | exact MT_r0 hM | exact MT_t0 hM | exact MT_l0 hM | exact MT_r1 hM | exact MT_t1 hM | exact MT_l1 hM | exact MT_r2 hM | exact MT_t2 hM | exact MT_l2 hM | exact MT_r3 hM | exact MT_t3 hM | exact MT_l3 hM | exact MT_r4 hM | exact MT_t4 hM | exact MT_l4 hM | exact MT_r5 hM | exact MT_t5 hM | exact MT_l5 hM | exact MT_r6 hM | exact MT_t6 hM | exact MT_l6 hM | exact MT_r7 hM | exact MT_t7 hM | exact MT_l7 hM | exact MT_r8 hM | exact MT_t8 hM | exact MT_l8 hM | exact MT_r9 hM | exact MT_t9 hM | exact MT_l9 hM | exact MT_r10 hM | exact MT_t10 hM | exact MT_l10 hM) (gw_bip at275_23 (by decide) (gw_ia at275_25 (by first | exact Or.inl (by first | exact MT_0 hM | exact MT_now hM | exact MT_bt hM | exact MT_bl hM | exact MT_r0 hM | exact MT_t0 hM | exact MT_l0 hM | exact MT_r1 hM | exact MT_t1 hM | exact MT_l1 hM | exact MT_r2 hM | exact MT_t2 hM | exact MT_l2 hM | exact MT_r3 hM | exact MT_t3 hM | exact MT_l3 hM | exact MT_r4 hM | exact MT_t4 hM | exact MT_l4 hM | exact MT_r5 hM | exact MT_t5 hM | exact MT_l5 hM | exact MT_r6 hM | exact MT_t6 hM | exact MT_l6 hM | exact MT_r7 hM | exact MT_t7 hM | exact MT_l7 hM | exact MT_r8 hM | exact MT_t8 hM | exact MT_l8 hM | exact MT_r9 hM | exact MT_t9 hM | exact MT_l9 hM | exact MT_r10 hM | exact MT_t10 hM | exact MT_l10 hM) | exact Or.inr (by first | exact MT_0 hM | exact MT_now hM | exact MT_bt hM | exact MT_bl hM | exact MT_r0 hM | exact MT_t0 hM | exact MT_l0 hM | exact MT_r1 hM | exact MT_t1 hM | exact MT_l1 hM | exact MT_r2 hM | exact MT_t2 hM | exact MT_l2 hM | exact MT_r3 hM | exact MT_t3 hM | exact MT_l3 hM | exact MT_r4 hM | exact MT_t4 hM | exact MT_l4 hM | exact MT_r5 hM | exact MT_t5 hM | exact MT_l5 hM | exact MT_r6 hM | exact MT_t6 hM | exact MT_l6 hM | exact MT_r7 hM | exact MT_t7 hM | exact MT_l7 hM | exact MT_r8 hM | exact MT_t8 hM | exact MT_l8 hM | exact MT_r9 hM | exact MT_t9 hM | exact MT_l9 hM | exact MT_r10 hM | exact MT_t10 hM | exact MT_l10 hM)) (by first | exact MT_0 hM | exact MT_now hM | exact MT_bt hM | exact MT_bl hM | exact MT_r0 hM | exact MT_t0 hM | exact MT_l0 hM | exact MT_r1 hM | exact MT_t1 hM | exact MT_l1 hM | exact MT_r2 hM | exact MT_t2 hM | exact MT_l2 hM | exact MT_r3 hM | exact MT_t3 hM | exact MT_l3 hM | exact MT_r4 hM | exact MT_t4 hM | exact MT_l4 hM | exact MT_r5 hM | exact MT_t5 hM | exact MT_l5 hM | exact MT_r6 hM | exact MT_t6 hM | exact MT_l6 hM | exact MT_r7 hM | exact MT_t7 hM | exact MT_l7 hM | exact MT_r8 hM | exact MT_t8 hM | exact MT_l8 hM | exact MT_r9 hM | exact MT_t9 hM | exact MT_l9 hM | exact MT_r10 hM | exact MT_t10 hM | exact MT_l10 hM) (by first | omega | exact bi_rg _ | exact hc _ _) (by first | omega | exact bi_rg _ | exact hc _ _) (by omega) ?_)))
    rw [s5]
    refine gw_il1 at275_26 ?_
    refine gw_cne at275_27 (by first | omega | exact bi_rg _ | exact hc _ _) (by first | omega | exact bi_rg _ | exact hc _ _) (fun q27 => ?_) (fun q27 => ?_)
    · refine gw_al0 at275_32 ?_
      refine gw_call1 at275_33 (m_rem hM t1 (by rw [e13]; exact h13)) (by omega) (Nat.le_of_ble_eq_true rfl) (fun o M1 q33 => ?_)
      obtain ⟨rfl, rfl⟩ := q33
      show gw _ _ _ _ _ [] _ _
      refine gw_al0 at275_36 ?_
      refine gw_call1 at275_37 (m_layLeast hM r1 r2) (by omega) (Nat.le_of_ble_eq_true rfl) (fun o M1 q37 => ?_)
      obtain ⟨rfl, rfl⟩ := q37
      show gw _ _ _ _ _ [] _ _
      refine gw_al0 at275_40 (gw_il1 at275_41 (gw_il2 at275_42 ?_))
      refine gw_call3 at275_43 (m_goTo hM g1 g4 g3 g5 (by omega) (mno_rg hV hp11) (hO hp11) (fun h => by rw [g0] at h ⊢; exact hm hq11 h) (s := s)) (by omega) (Nat.le_of_ble_eq_true rfl) (fun o M1 q43 => ?_)
      obtain ⟨rfl, rfl⟩ := q43
      show gw _ _ _ _ _ (gi _ :: []) _ _
      refine gw_ri at275_46 am_r275.2.1 ?_
      exact Or.inr (Or.inl ⟨hp11, hq11, by omega, rfl, rfl⟩)
    · refine gw_const at275_30 (gw_ri at275_31 am_r275.2.1 ?_)
      exact Or.inl ⟨hp11, hq11, by omega, rfl, rfl⟩
  · show gw _ _ _ _ _ (gi _ :: _) _ _
    refine gw_zne at275_14 (by first | omega | exact bi_rg _ | exact hc _ _) (fun q14 => absurd q14 (by decide)) (fun q14 => ?_)
    refine gw_const at275_17 (gw_ri at275_18 am_r275.2.1 ?_)
    first | exact Or.inr (Or.inr (Or.inr ⟨hp11, rfl, rfl⟩)) | exact Or.inr (Or.inr (Or.inl ⟨hp11, hq11, rfl, rfl⟩))
  · show gw _ _ _ _ _ (gi _ :: _) _ _
    refine gw_zne at275_14 (by first | omega | exact bi_rg _ | exact hc _ _) (fun q14 => absurd q14 (by decide)) (fun q14 => ?_)
    refine gw_const at275_17 (gw_ri at275_18 am_r275.2.1 ?_)
    first | exact Or.inr (Or.inr (Or.inr ⟨hp11, rfl, rfl⟩)) | exact Or.inr (Or.inr (Or.inl ⟨hp11, hq11, rfl, rfl⟩))
theorem NW_cp {c m : gC} {b b' : Nat} (h : ∀ j : Int, 0 ≤ j → j < 208 → m b' j = c b j) (hV : NW c b) : NW m b' := by
  obtain ⟨⟨a1, a2⟩, ⟨a3, a4⟩, a5, a6, a7, a8⟩ := hV
  refine ⟨⟨by rw [h 0 (by omega) (by omega)]; exact a1, by rw [h 1 (by omega) (by omega)]; exact a2⟩, ⟨by rw [h 2 (by omega) (by omega)]; exact a3, by rw [h 3 (by omega) (by omega)]; exact a4⟩, fun i p q => by rw [h _ (by omega) (by omega)]; exact a5 i p q, fun i p q => by rw [h _ (by omega) (by omega)]; exact a6 i p q, fun i p q => by rw [h _ (by omega) (by omega), h _ (by omega) (by omega)]; exact a7 i p q, fun i p q => by rw [h _ (by omega) (by omega), h _ (by omega) (by omega), h _ (by omega) (by omega), h _ (by omega) (by omega)]; exact a8 i p q⟩
theorem WW_cp {c m : gC} {b b' : Nat} {B : Int} (h : ∀ j : Int, 0 ≤ j → j < 208 → m b' j = c b j) (hW : WW c b B) : WW m b' B := by
  obtain ⟨⟨b1, b2⟩, ⟨b3, b4⟩, ⟨b5, b6⟩, ⟨b7, b8⟩, b9, b10⟩ := hW
  refine ⟨⟨b1, by rw [h 4 (by omega) (by omega)]; exact b2⟩, ⟨by rw [h 5 (by omega) (by omega)]; exact b3, by rw [h 6 (by omega) (by omega)]; exact b4⟩, ⟨by rw [h 7 (by omega) (by omega)]; exact b5, by rw [h 8 (by omega) (by omega)]; exact b6⟩, ⟨by rw [h 9 (by omega) (by omega)]; exact b7, by rw [h 10 (by omega) (by omega)]; exact b8⟩, fun i p q => by rw [h _ (by omega) (by omega)]; exact b9 i p q, fun i p q => by rw [h _ (by omega) (by omega), h _ (by omega) (by omega), h _ (by omega) (by omega)]; exact b10 i p q⟩
theorem gcp_in {c : gC} {k q : Nat} {j : Int} (h0 : 0 ≤ j) (h1 : j < 208) : gcp c k q 0 0 208 q j = c k j := by
  unfold gcp
  rw [if_pos ⟨rfl, h0, by omega⟩]
  congr 1
  omega
theorem MT_to {T : gT} {b b' : Nat} (h : MT T b) (hb : b' = 200000 ∨ b' = 200001 ∨ b' = 200002) : MT (gTr T 500001 4 (b' + 1)) b' := by
  obtain ⟨h1, h2, h3, h4, h5⟩ := h
  have e : (gTr T 500001 4 (b' + 1)).1 500001 = ((T.1 500001).1, (T.1 500001).2.1, va_up (T.1 500001).2.2 4 (b' + 1)) := gTr_s
  have e2 : ∀ k, ¬ k = 500001 → (gTr T 500001 4 (b' + 1)).1 k = T.1 k := fun k hk => gTr_k hk
  refine ⟨by rw [e]; exact h1, ?_, by rw [e]; simp [va_up], hb, ?_⟩
  · rw [e]
    simpa [va_up] using h2
  · unfold MA at h5 ⊢
    rw [e2 200000 (by decide), e2 200001 (by decide), e2 200002 (by decide), e2 200003 (by decide), e2 200004 (by decide), e2 200005 (by decide), e2 200006 (by decide), e2 200007 (by decide), e2 200008 (by decide), e2 200009 (by decide), e2 200010 (by decide)]
    exact h5
theorem gTr_bk {T : gT} {k j x q : Nat} (h : (T.1 k).2.2 j = q) : gTr (gTr T k j x) k j q = T := by
  refine Prod.ext (funext fun k' => ?_) rfl
  by_cases e : k' = k
  · subst e
    rw [gTr_s, gTr_s]
    refine Prod.ext rfl (Prod.ext rfl (funext fun i => ?_))
    dsimp only [va_up]
    by_cases a : i = j
    · subst a; simp [h]
    · simp [a]
  · rw [gTr_k e, gTr_k e]
set_option maxHeartbeats 1000000 in
theorem m_x_pathTime {g : Nat} {T : gT} {c J : gC} (hM : MT T 200000) (hc : RG c) (hV : NW c 200000) {B : Int} (hW : WW c 200000 B) (hB : B ≤ 900000000) {n : Int} (hn : -2147483648 ≤ n ∧ n < 2147483648) (hO : mno c 200000 n = true → LO (gcp (mll (tw c 0) 200000) 200000 200002 0 0 208) 200002 (24 + n)) (hm : mcr c 200000 n = true → ¬ c 200000 6 = n → mcf (gcp (mll (tw c 0) 200000) 200000 200002 0 0 208) 200002 (c 200000 6) (-1) (24 + n) < 1000000000) : gE g 286 8 [.ref 500001, gi n] (gm T c J) (fun o M1 => (mno c 200000 n = true ∧ mcr c 200000 n = true ∧ o = .inl (some (gi (mgt (gcp (mll (tw c 0) 200000) 200000 200002 0 0 208) 200002 n false).1)) ∧ M1 = gm T (mgt (gcp (mll (tw c 0) 200000) 200000 200002 0 0 208) 200002 n false).2 J) ∨ (mno c 200000 n = true ∧ mcr c 200000 n = false ∧ o = .inl (some (gi 0)) ∧ M1 = gm T (tw c 2) J) ∨ (mno c 200000 n = false ∧ o = .inl (some (gi 0)) ∧ M1 = gm T (tw c 1) J)) := by
  have t1 : RG (tw c 0) := tw_RG hc (by decide)
  have t0 : tw c 0 200000 = c 200000 := tw_k (by decide)
  have t2 : NW (tw c 0) 200000 := NW_of hV t0
  have v0 := hV.1.1
  have v1 := hV.1.2
  have tW : WW (tw c 0) 200000 B := WW_of hW t0
  have w1 := hW.1
  have w2 := hW.2.1
  have w3 := hW.2.2.1
  have t5 : tw c 0 200000 5 = c 200000 5 := by rw [t0]
  obtain ⟨⟨g1, g2⟩, g3⟩ := mll_ok t1 t2
  have g0 : mll (tw c 0) 200000 200000 = c 200000 := by rw [g2 200000 (by decide), t0]
  have g4 : NW (mll (tw c 0) 200000) 200000 := NW_of hV g0
  have g5 : WW (mll (tw c 0) 200000) 200000 B := WW_of hW g0
  have hM2 := MT_to (b' := 200002) hM (Or.inr (Or.inr rfl))
  have k2 : RG (gcp (mll (tw c 0) 200000) 200000 200002 0 0 208) := RG_gcp g1
  have k3 : NW (gcp (mll (tw c 0) 200000) 200000 200002 0 0 208) 200002 := NW_cp (fun j a b => gcp_in a b) g4
  have k4 : WW (gcp (mll (tw c 0) 200000) 200000 200002 0 0 208) 200002 B := WW_cp (fun j a b => gcp_in a b) g5
  have k5 : LR (gcp (mll (tw c 0) 200000) 200000 200002 0 0 208) := fun i a b => by rw [gcp_o (by decide)]; exact g3 i a b
  have k6 : (gcp (mll (tw c 0) 200000) 200000 200002 0 0 208) 200002 6 = c 200000 6 := by rw [gcp_in (by decide) (by decide), g0]
  refine gE_mk am_r286 rfl (Or.inr ⟨_, rfl, (by first | exact MT_0 hM | exact MT_now hM | exact MT_bt hM | exact MT_bl hM | exact MT_r0 hM | exact MT_t0 hM | exact MT_l0 hM | exact MT_r1 hM | exact MT_t1 hM | exact MT_l1 hM | exact MT_r2 hM | exact MT_t2 hM | exact MT_l2 hM | exact MT_r3 hM | exact MT_t3 hM | exact MT_l3 hM | exact MT_r4 hM | exact MT_t4 hM | exact MT_l4 hM | exact MT_r5 hM | exact MT_t5 hM | exact MT_l5 hM | exact MT_r6 hM | exact MT_t6 hM | exact MT_l6 hM | exact MT_r7 hM | exact MT_t7 hM | exact MT_l7 hM | exact MT_r8 hM | exact MT_t8 hM | exact MT_l8 hM | exact MT_r9 hM | exact MT_t9 hM | exact MT_l9 hM | exact MT_r10 hM | exact MT_t10 hM | exact MT_l10 hM | exact MT_0 hM2 | exact MT_r0 hM2)⟩) (fun d hd => ?_)
  show gw d g 286 0 [.ref 500001, gi n, am_U] [] _ _
  refine gw_al0 at286_0 (gw_al0 at286_1 (gw_il1 at286_2 (gw_callP2 at286_3 (m_isNode hM hc hV (by omega)) (by omega) (Nat.le_of_ble_eq_true rfl) (gw_al0 at286_6 (gw_il1 at286_7 (gw_callP2 at286_8 (m_canReach hM hc hV hn) (by omega) (Nat.le_of_ble_eq_true rfl) ?_))))))
  refine gw_call3 at286_11 (m_pas2 hM hc (p := mno c 200000 n) (q := mcr c 200000 n)) (by omega) (Nat.le_of_ble_eq_true rfl) (fun o M1 q11 => ?_)
  rcases q11 with ⟨hp11, hq11, rfl, rfl⟩ | ⟨hp11, hq11, rfl, rfl⟩ | ⟨hp11, rfl, rfl⟩
  · show gw _ _ _ _ _ (gi _ :: _) _ _
    refine gw_zne at286_14 (by first | omega | exact bi_rg _ | exact k2 _ _) (fun q14 => ?_) (fun q14 => absurd q14 (by decide))
    refine gw_al0 at286_19 ?_
    refine gw_call1 at286_20 (m_layLeast hM t1 t2) (by omega) (Nat.le_of_ble_eq_true rfl) (fun o M1 q20 => ?_)
    obtain ⟨rfl, rfl⟩ := q20
    show gw _ _ _ _ _ _ _ _
    refine gw_const at286_23 (gw_is2 at286_24 (h := ?_))
    have lp25 : ∀ i : Int, 0 ≤ i → i ≤ 208 → gw d g 286 25 [.ref 500001, gi n, gi i] [] (gm T (gcp (mll (tw c 0) 200000) 200000 200002 0 0 i) J) (fun o M1 => (mno c 200000 n = true ∧ mcr c 200000 n = true ∧ o = .inl (some (gi (mgt (gcp (mll (tw c 0) 200000) 200000 200002 0 0 208) 200002 n false).1)) ∧ M1 = gm T (mgt (gcp (mll (tw c 0) 200000) 200000 200002 0 0 208) 200002 n false).2 J) ∨ (mno c 200000 n = true ∧ mcr c 200000 n = false ∧ o = .inl (some (gi 0)) ∧ M1 = gm T (tw c 2) J) ∨ (mno c 200000 n = false ∧ o = .inl (some (gi 0)) ∧ M1 = gm T (tw c 1) J)) := by
      refine ind_up 208 ?_
      intro i hi0 hi1 ih
      have k7 : RG (gcp (mll (tw c 0) 200000) 200000 200002 0 0 i) := RG_gcp g1
      have k8 : (gcp (mll (tw c 0) 200000) 200000 200002 0 0 i) 200000 i = (mll (tw c 0) 200000) 200000 i := gcp_o (by decide)
      refine gw_il2 at286_25 ?_
      refine gw_sip at286_26 (by decide) ?_
      refine gw_cge at286_29 (by first | omega | exact bi_rg _ | exact k2 _ _) (by first | omega | exact bi_rg _ | exact k2 _ _) (fun q29 => ?_) (fun q29 => ?_)
      · have e : i = 208 := by omega
        rw [e]
        refine gw_al0 at286_50 (gw_al0 at286_51 (gw_gr at286_52 (by first | exact MT_0 hM | exact MT_now hM | exact MT_bt hM | exact MT_bl hM | exact MT_r0 hM | exact MT_t0 hM | exact MT_l0 hM | exact MT_r1 hM | exact MT_t1 hM | exact MT_l1 hM | exact MT_r2 hM | exact MT_t2 hM | exact MT_l2 hM | exact MT_r3 hM | exact MT_t3 hM | exact MT_l3 hM | exact MT_r4 hM | exact MT_t4 hM | exact MT_l4 hM | exact MT_r5 hM | exact MT_t5 hM | exact MT_l5 hM | exact MT_r6 hM | exact MT_t6 hM | exact MT_l6 hM | exact MT_r7 hM | exact MT_t7 hM | exact MT_l7 hM | exact MT_r8 hM | exact MT_t8 hM | exact MT_l8 hM | exact MT_r9 hM | exact MT_t9 hM | exact MT_l9 hM | exact MT_r10 hM | exact MT_t10 hM | exact MT_l10 hM | exact MT_0 hM2 | exact MT_r0 hM2) (by first | exact MT_0 hM | exact MT_now hM | exact MT_bt hM | exact MT_bl hM | exact MT_r0 hM | exact MT_t0 hM | exact MT_l0 hM | exact MT_r1 hM | exact MT_t1 hM | exact MT_l1 hM | exact MT_r2 hM | exact MT_t2 hM | exact MT_l2 hM | exact MT_r3 hM | exact MT_t3 hM | exact MT_l3 hM | exact MT_r4 hM | exact MT_t4 hM | exact MT_l4 hM | exact MT_r5 hM | exact MT_t5 hM | exact MT_l5 hM | exact MT_r6 hM | exact MT_t6 hM | exact MT_l6 hM | exact MT_r7 hM | exact MT_t7 hM | exact MT_l7 hM | exact MT_r8 hM | exact MT_t8 hM | exact MT_l8 hM | exact MT_r9 hM | exact MT_t9 hM | exact MT_l9 hM | exact MT_r10 hM | exact MT_t10 hM | exact MT_l10 hM | exact MT_0 hM2 | exact MT_r0 hM2) (gw_pr at286_55 (by first | exact MT_0 hM | exact MT_now hM | exact MT_bt hM | exact MT_bl hM | exact MT_r0 hM | exact MT_t0 hM | exact MT_l0 hM | exact MT_r1 hM | exact MT_t1 hM | exact MT_l1 hM | exact MT_r2 hM | exact MT_t2 hM | exact MT_l2 hM | exact MT_r3 hM | exact MT_t3 hM | exact MT_l3 hM | exact MT_r4 hM | exact MT_t4 hM | exact MT_l4 hM | exact MT_r5 hM | exact MT_t5 hM | exact MT_l5 hM | exact MT_r6 hM | exact MT_t6 hM | exact MT_l6 hM | exact MT_r7 hM | exact MT_t7 hM | exact MT_l7 hM | exact MT_r8 hM | exact MT_t8 hM | exact MT_l8 hM | exact MT_r9 hM | exact MT_t9 hM | exact MT_l9 hM | exact MT_r10 hM | exact MT_t10 hM | exact MT_l10 hM | exact MT_0 hM2 | exact MT_r0 hM2) (gw_al0 at286_58 (gw_il1 at286_59 (gw_const at286_60 ?_))))))
        refine gw_call3 at286_61 (m_goTo hM2 k2 k3 k5 k4 (by omega) (mno_rg hV hp11) (hO hp11) (fun h => by rw [k6] at h ⊢; exact hm hq11 h) (s := false)) (by omega) (Nat.le_of_ble_eq_true rfl) (fun o M1 q61 => ?_)
        obtain ⟨rfl, rfl⟩ := q61
        show gw _ _ _ _ _ (gi _ :: []) _ _
        refine gw_is2 at286_64 (h := (gw_al0 at286_65 (gw_al0 at286_66 (gw_gr at286_67 (by first | exact MT_0 hM | exact MT_now hM | exact MT_bt hM | exact MT_bl hM | exact MT_r0 hM | exact MT_t0 hM | exact MT_l0 hM | exact MT_r1 hM | exact MT_t1 hM | exact MT_l1 hM | exact MT_r2 hM | exact MT_t2 hM | exact MT_l2 hM | exact MT_r3 hM | exact MT_t3 hM | exact MT_l3 hM | exact MT_r4 hM | exact MT_t4 hM | exact MT_l4 hM | exact MT_r5 hM | exact MT_t5 hM | exact MT_l5 hM | exact MT_r6 hM | exact MT_t6 hM | exact MT_l6 hM | exact MT_r7 hM | exact MT_t7 hM | exact MT_l7 hM | exact MT_r8 hM | exact MT_t8 hM | exact MT_l8 hM | exact MT_r9 hM | exact MT_t9 hM | exact MT_l9 hM | exact MT_r10 hM | exact MT_t10 hM | exact MT_l10 hM | exact MT_0 hM2 | exact MT_r0 hM2) (by first | exact MT_0 hM | exact MT_now hM | exact MT_bt hM | exact MT_bl hM | exact MT_r0 hM | exact MT_t0 hM | exact MT_l0 hM | exact MT_r1 hM | exact MT_t1 hM | exact MT_l1 hM | exact MT_r2 hM | exact MT_t2 hM | exact MT_l2 hM | exact MT_r3 hM | exact MT_t3 hM | exact MT_l3 hM | exact MT_r4 hM | exact MT_t4 hM | exact MT_l4 hM | exact MT_r5 hM | exact MT_t5 hM | exact MT_l5 hM | exact MT_r6 hM | exact MT_t6 hM | exact MT_l6 hM | exact MT_r7 hM | exact MT_t7 hM | exact MT_l7 hM | exact MT_r8 hM | exact MT_t8 hM | exact MT_l8 hM | exact MT_r9 hM | exact MT_t9 hM | exact MT_l9 hM | exact MT_r10 hM | exact MT_t10 hM | exact MT_l10 hM | exact MT_0 hM2 | exact MT_r0 hM2) (gw_pr at286_70 (by first | exact MT_0 hM | exact MT_now hM | exact MT_bt hM | exact MT_bl hM | exact MT_r0 hM | exact MT_t0 hM | exact MT_l0 hM | exact MT_r1 hM | exact MT_t1 hM | exact MT_l1 hM | exact MT_r2 hM | exact MT_t2 hM | exact MT_l2 hM | exact MT_r3 hM | exact MT_t3 hM | exact MT_l3 hM | exact MT_r4 hM | exact MT_t4 hM | exact MT_l4 hM | exact MT_r5 hM | exact MT_t5 hM | exact MT_l5 hM | exact MT_r6 hM | exact MT_t6 hM | exact MT_l6 hM | exact MT_r7 hM | exact MT_t7 hM | exact MT_l7 hM | exact MT_r8 hM | exact MT_t8 hM | exact MT_l8 hM | exact MT_r9 hM | exact MT_t9 hM | exact MT_l9 hM | exact MT_r10 hM | exact MT_t10 hM | exact MT_l10 hM | exact MT_0 hM2 | exact MT_r0 hM2) ?_)))))
        rw [gTr_bk (MT_now hM)]
        refine gw_il2 at286_73 (gw_ri at286_74 am_r286.2.1 ?_)
        exact Or.inl ⟨hp11, hq11, rfl, rfl⟩
      · refine gw_al0 at286_32 (gw_gr at286_33 (by first | exact MT_0 hM | exact MT_now hM | exact MT_bt hM | exact MT_bl hM | exact MT_r0 hM | exact MT_t0 hM | exact MT_l0 hM | exact MT_r1 hM | exact MT_t1 hM | exact MT_l1 hM | exact MT_r2 hM | exact MT_t2 hM | exact MT_l2 hM | exact MT_r3 hM | exact MT_t3 hM | exact MT_l3 hM | exact MT_r4 hM | exact MT_t4 hM | exact MT_l4 hM | exact MT_r5 hM | exact MT_t5 hM | exact MT_l5 hM | exact MT_r6 hM | exact MT_t6 hM | exact MT_l6 hM | exact MT_r7 hM | exact MT_t7 hM | exact MT_l7 hM | exact MT_r8 hM | exact MT_t8 hM | exact MT_l8 hM | exact MT_r9 hM | exact MT_t9 hM | exact MT_l9 hM | exact MT_r10 hM | exact MT_t10 hM | exact MT_l10 hM | exact MT_0 hM2 | exact MT_r0 hM2) (by first | exact MT_0 hM | exact MT_now hM | exact MT_bt hM | exact MT_bl hM | exact MT_r0 hM | exact MT_t0 hM | exact MT_l0 hM | exact MT_r1 hM | exact MT_t1 hM | exact MT_l1 hM | exact MT_r2 hM | exact MT_t2 hM | exact MT_l2 hM | exact MT_r3 hM | exact MT_t3 hM | exact MT_l3 hM | exact MT_r4 hM | exact MT_t4 hM | exact MT_l4 hM | exact MT_r5 hM | exact MT_t5 hM | exact MT_l5 hM | exact MT_r6 hM | exact MT_t6 hM | exact MT_l6 hM | exact MT_r7 hM | exact MT_t7 hM | exact MT_l7 hM | exact MT_r8 hM | exact MT_t8 hM | exact MT_l8 hM | exact MT_r9 hM | exact MT_t9 hM | exact MT_l9 hM | exact MT_r10 hM | exact MT_t10 hM | exact MT_l10 hM | exact MT_0 hM2 | exact MT_r0 hM2) (gw_il2 at286_36 (gw_al0 at286_37 (gw_gr at286_38 (by first | exact MT_0 hM | exact MT_now hM | exact MT_bt hM | exact MT_bl hM | exact MT_r0 hM | exact MT_t0 hM | exact MT_l0 hM | exact MT_r1 hM | exact MT_t1 hM | exact MT_l1 hM | exact MT_r2 hM | exact MT_t2 hM | exact MT_l2 hM | exact MT_r3 hM | exact MT_t3 hM | exact MT_l3 hM | exact MT_r4 hM | exact MT_t4 hM | exact MT_l4 hM | exact MT_r5 hM | exact MT_t5 hM | exact MT_l5 hM | exact MT_r6 hM | exact MT_t6 hM | exact MT_l6 hM | exact MT_r7 hM | exact MT_t7 hM | exact MT_l7 hM | exact MT_r8 hM | exact MT_t8 hM | exact MT_l8 hM | exact MT_r9 hM | exact MT_t9 hM | exact MT_l9 hM | exact MT_r10 hM | exact MT_t10 hM | exact MT_l10 hM | exact MT_0 hM2 | exact MT_r0 hM2) (by first | exact MT_0 hM | exact MT_now hM | exact MT_bt hM | exact MT_bl hM | exact MT_r0 hM | exact MT_t0 hM | exact MT_l0 hM | exact MT_r1 hM | exact MT_t1 hM | exact MT_l1 hM | exact MT_r2 hM | exact MT_t2 hM | exact MT_l2 hM | exact MT_r3 hM | exact MT_t3 hM | exact MT_l3 hM | exact MT_r4 hM | exact MT_t4 hM | exact MT_l4 hM | exact MT_r5 hM | exact MT_t5 hM | exact MT_l5 hM | exact MT_r6 hM | exact MT_t6 hM | exact MT_l6 hM | exact MT_r7 hM | exact MT_t7 hM | exact MT_l7 hM | exact MT_r8 hM | exact MT_t8 hM | exact MT_l8 hM | exact MT_r9 hM | exact MT_t9 hM | exact MT_l9 hM | exact MT_r10 hM | exact MT_t10 hM | exact MT_l10 hM | exact MT_0 hM2 | exact MT_r0 hM2) (gw_il2 at286_41 (gw_ia at286_42 (by first | exact Or.inl (by first | exact MT_0 hM | exact MT_now hM | exact MT_bt hM | exact MT_bl hM | exact MT_r0 hM | exact MT_t0 hM | exact MT_l0 hM | exact MT_r1 hM | exact MT_t1 hM | exact MT_l1 hM | exact MT_r2 hM | exact MT_t2 hM | exact MT_l2 hM | exact MT_r3 hM | exact MT_t3 hM | exact MT_l3 hM | exact MT_r4 hM | exact MT_t4 hM | exact MT_l4 hM | exact MT_r5 hM | exact MT_t5 hM | exact MT_l5 hM | exact MT_r6 hM | exact MT_t6 hM | exact MT_l6 hM | exact MT_r7 hM | exact MT_t7 hM | exact MT_l7 hM | exact MT_r8 hM | exact MT_t8 hM | exact MT_l8 hM | exact MT_r9 hM | exact MT_t9 hM | exact MT_l9 hM | exact MT_r10 hM | exact MT_t10 hM | exact MT_l10 hM | exact MT_0 hM2 | exact MT_r0 hM2) | exact Or.inr (by first | exact MT_0 hM | exact MT_now hM | exact MT_bt hM | exact MT_bl hM | exact MT_r0 hM | exact MT_t0 hM | exact MT_l0 hM | exact MT_r1 hM | exact MT_t1 hM | exact MT_l1 hM | exact MT_r2 hM | exact MT_t2 hM | exact MT_l2 hM | exact MT_r3 hM | exact MT_t3 hM | exact MT_l3 hM | exact MT_r4 hM | exact MT_t4 hM | exact MT_l4 hM | exact MT_r5 hM | exact MT_t5 hM | exact MT_l5 hM | exact MT_r6 hM | exact MT_t6 hM | exact MT_l6 hM | exact MT_r7 hM | exact MT_t7 hM | exact MT_l7 hM | exact MT_r8 hM | exact MT_t8 hM | exact MT_l8 hM | exact MT_r9 hM | exact MT_t9 hM | exact MT_l9 hM | exact MT_r10 hM | exact MT_t10 hM | exact MT_l10 hM | exact MT_0 hM2 | exact MT_r0 hM2)) (by first | exact MT_0 hM | exact MT_now hM | exact MT_bt hM | exact MT_bl hM | exact MT_r0 hM | exact MT_t0 hM | exact MT_l0 hM | exact MT_r1 hM | exact MT_t1 hM | exact MT_l1 hM | exact MT_r2 hM | exact MT_t2 hM | exact MT_l2 hM | exact MT_r3 hM | exact MT_t3 hM | exact MT_l3 hM | exact MT_r4 hM | exact MT_t4 hM | exact MT_l4 hM | exact MT_r5 hM | exact MT_t5 hM | exact MT_l5 hM | exact MT_r6 hM | exact MT_t6 hM | exact MT_l6 hM | exact MT_r7 hM | exact MT_t7 hM | exact MT_l7 hM | exact MT_r8 hM | exact MT_t8 hM | exact MT_l8 hM | exact MT_r9 hM | exact MT_t9 hM | exact MT_l9 hM | exact MT_r10 hM | exact MT_t10 hM | exact MT_l10 hM | exact MT_0 hM2 | exact MT_r0 hM2) (by first | omega | exact bi_rg _ | exact k2 _ _) (by first | omega | exact bi_rg _ | exact k2 _ _) (by omega) ?_))))))
        rw [k8]
        refine gw_iw at286_43 (by first | exact MT_0 hM | exact MT_now hM | exact MT_bt hM | exact MT_bl hM | exact MT_r0 hM | exact MT_t0 hM | exact MT_l0 hM | exact MT_r1 hM | exact MT_t1 hM | exact MT_l1 hM | exact MT_r2 hM | exact MT_t2 hM | exact MT_l2 hM | exact MT_r3 hM | exact MT_t3 hM | exact MT_l3 hM | exact MT_r4 hM | exact MT_t4 hM | exact MT_l4 hM | exact MT_r5 hM | exact MT_t5 hM | exact MT_l5 hM | exact MT_r6 hM | exact MT_t6 hM | exact MT_l6 hM | exact MT_r7 hM | exact MT_t7 hM | exact MT_l7 hM | exact MT_r8 hM | exact MT_t8 hM | exact MT_l8 hM | exact MT_r9 hM | exact MT_t9 hM | exact MT_l9 hM | exact MT_r10 hM | exact MT_t10 hM | exact MT_l10 hM | exact MT_0 hM2 | exact MT_r0 hM2) (by first | exact MT_0 hM | exact MT_now hM | exact MT_bt hM | exact MT_bl hM | exact MT_r0 hM | exact MT_t0 hM | exact MT_l0 hM | exact MT_r1 hM | exact MT_t1 hM | exact MT_l1 hM | exact MT_r2 hM | exact MT_t2 hM | exact MT_l2 hM | exact MT_r3 hM | exact MT_t3 hM | exact MT_l3 hM | exact MT_r4 hM | exact MT_t4 hM | exact MT_l4 hM | exact MT_r5 hM | exact MT_t5 hM | exact MT_l5 hM | exact MT_r6 hM | exact MT_t6 hM | exact MT_l6 hM | exact MT_r7 hM | exact MT_t7 hM | exact MT_l7 hM | exact MT_r8 hM | exact MT_t8 hM | exact MT_l8 hM | exact MT_r9 hM | exact MT_t9 hM | exact MT_l9 hM | exact MT_r10 hM | exact MT_t10 hM | exact MT_l10 hM | exact MT_0 hM2 | exact MT_r0 hM2) (by first | omega | exact bi_rg _ | exact k2 _ _) (by first | omega | exact bi_rg _ | exact k2 _ _) (by omega) (gw_inc2 at286_44 (h := (gw_goto at286_47 ?_)))
        have h8 := ih (i + 1) (by omega) (by omega)
        rw [← gcp_st (by decide) hi0, Int.zero_add] at h8
        exact h8
    have h9 := lp25 0 (by decide) (by decide)
    rw [gcp_0] at h9
    exact h9
  · show gw _ _ _ _ _ (gi _ :: _) _ _
    refine gw_zne at286_14 (by first | omega | exact bi_rg _ | exact k2 _ _) (fun q14 => absurd q14 (by decide)) (fun q14 => ?_)
    refine gw_const at286_17 (gw_ri at286_18 am_r286.2.1 ?_)
    first | exact Or.inr (Or.inr ⟨hp11, rfl, rfl⟩) | exact Or.inr (Or.inl ⟨hp11, hq11, rfl, rfl⟩)
  · show gw _ _ _ _ _ (gi _ :: _) _ _
    refine gw_zne at286_14 (by first | omega | exact bi_rg _ | exact k2 _ _) (fun q14 => absurd q14 (by decide)) (fun q14 => ?_)
    refine gw_const at286_17 (gw_ri at286_18 am_r286.2.1 ?_)
    first | exact Or.inr (Or.inr ⟨hp11, rfl, rfl⟩) | exact Or.inr (Or.inl ⟨hp11, hq11, rfl, rfl⟩)
