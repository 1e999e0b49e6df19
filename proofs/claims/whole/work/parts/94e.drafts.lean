/-! the parsers: what they write into the networks under way -/
theorem bya_b {m : gC} {b : Nat} {j z k : Int} (hb : ¬ b = 500001 ∧ ¬ b = 200009) : bya (gu m b j z) k = bya m k := by
  unfold bya
  rw [gu_k (fun w => hb.1 w.symm), gu_k (fun w => hb.2 w.symm)]
theorem mad_b {m : gC} {b : Nat} {j z : Int} (hb : ¬ b = 500001 ∧ ¬ b = 200009) : mad (gu m b j z) = gu (mad m) b j z := by
  have e1 : ∀ k, bya (gu m b j z) k = bya m k := fun k => bya_b hb
  have e2 : mbl (gu m b j z) = mbl m := funext fun k => by unfold mbl; rw [e1]
  have e3 : ∀ l u, mlr (gu m b j z) l u = mlr m l u := fun l u => funext fun k => by unfold mlr; rw [e1]
  have e4 : ∀ s e, mnv (gu m b j z) s e = mnv m s e := fun s e => by
    unfold mnv
    have : (fun i v => min 99999 (10 * v + bya (gu m b j z) (s + i) - 48)) = (fun i v => min 99999 (10 * v + bya m (s + i) - 48)) := funext fun i => funext fun v => by rw [e1]
    rw [this]
  have e5 : gu m b j z 500001 17 = m 500001 17 := gu_k (fun w => hb.1 w.symm)
  have cm : ∀ (x : gC) (i v : Int), gu (gu x b j z) 500001 i v = gu (gu x 500001 i v) b j z := fun x i v => gu_cm (fun w => hb.1 w.1)
  unfold mad mbn
  rw [e2, e5]
  generalize rn (mbl m) (m 500001 17) = s
  unfold mad1 mad0 mln2 mdn
  rw [e1, e3, e3, e4]
  split
  · rw [cm, cm, cm]
  · split
    · rw [cm, cm, cm, cm]
    · split
      · rw [cm, cm, cm, cm, cm]
      · rw [cm, cm, cm, cm, cm]
theorem TK_o {c m c' m' : gC} (h : TK c m) (h0 : c' 100000 = c 100000) (h1 : c' 100001 = c 100001) (h2 : c' 100032 = c 100032) (h3 : c' 100033 = c 100033) (h4 : m' 500001 = m 500001) : TK c' m' := by
  have e1 : ∀ a b, wmv c' a b = wmv c a b := fun a b => by unfold wmv; rw [h1]
  have e2 : ∀ v, kwd c' v = kwd c v := fun v => by unfold kwd; rw [h3]
  unfold TK
  rw [h2, h4, h0, e1, e2, h1]
  exact h
theorem INP_o {c m c' m' : gC} (h : INP c m) (h0 : c' 100000 = c 100000) (h1 : c' 100001 = c 100001) (h4 : m' 500001 16 = m 500001 16) (h5 : m' 200009 = m 200009) : INP c' m' := by
  unfold INP
  rw [h0, h1, h4, h5]
  exact h
theorem PZ_d {c m c' m' : gC} (h : PZ c m) (h1 : ∀ k : Nat, (k < 100002 ∨ 100014 ≤ k) → c' k = c k) (h2 : ∀ k : Nat, ¬ k = 200001 → m' k = m k) (hD : DN c' m') (hP : PN c') (hM : MP 200001 m') : PZ c' m' := by
  obtain ⟨⟨⟨t1, t2⟩, t3, t4⟩, t5, t6, ⟨⟨e1, e2⟩, e3, e4⟩, t7, t8⟩ := h
  refine ⟨⟨⟨TK_o t1 (h1 _ (by decide)) (h1 _ (by decide)) (h1 _ (by decide)) (h1 _ (by decide)) (h2 _ (by decide)), INP_o t2 (h1 _ (by decide)) (h1 _ (by decide)) (by rw [h2 _ (by decide)]) (h2 _ (by decide))⟩, fun i hi => by rw [h1 _ (by decide)]; exact t3 i hi, TX_o t4 fun k hk => h2 k (by omega)⟩, hD, ?_, ⟨⟨?_, ?_⟩, ?_, ?_⟩, hP, hM⟩
  · unfold STG
    rw [h1 _ (by decide), h2 _ (by decide)]
    exact t6
  · rw [h1 _ (by decide)]; exact e1
  · rw [h2 _ (by decide)]; exact e2
  · rw [h1 _ (by decide)]; exact e3
  · rw [h2 _ (by decide)]; exact e4
section
variable {c m : gC}
/-- a node more -/
theorem DN_nd (h : DN c m) (hV : NW m 200001) {n n' x y : Int} (hn : NMR n n') (h10 : m 200001 0 < 10) : DN (nda c 100002 n x y) (ndm 200001 n' x y m) := by
  obtain ⟨⟨d1, d0⟩, d2, d3, d4, d5, d6, d7, d8⟩ := h
  obtain ⟨⟨⟨a1, a2⟩, a3, a4⟩, a5, a6, a7, a8⟩ := d1
  have r0 := hV.1.1
  have r1 := hV.1.2
  have hc1 : c 100002 1 = m 200001 0 := a1
  unfold nda ndm
  rw [if_pos (by rw [hc1]; exact h10), hc1]
  generalize hN : m 200001 0 = N at *
  have mo : ∀ j, ¬ j = 0 → ¬ j = 22 + 3 * N → ¬ j = 22 + 3 * N + 1 → ¬ j = 22 + 3 * N + 2 → gu (gu (gu (gu m 200001 (22 + 3 * N) n') 200001 (22 + 3 * N + 1) x) 200001 (22 + 3 * N + 2) y) 200001 0 (N + 1) 200001 j = m 200001 j := fun j q1 q2 q3 q4 => by rw [gu_j q1, gu_j q4, gu_j q3, gu_j q2]
  have m0 : gu (gu (gu (gu m 200001 (22 + 3 * N) n') 200001 (22 + 3 * N + 1) x) 200001 (22 + 3 * N + 2) y) 200001 0 (N + 1) 200001 0 = N + 1 := gu_s
  have m1 : gu (gu (gu (gu m 200001 (22 + 3 * N) n') 200001 (22 + 3 * N + 1) x) 200001 (22 + 3 * N + 2) y) 200001 0 (N + 1) 200001 (22 + 3 * N) = n' := by rw [gu_j (by omega), gu_j (by omega), gu_j (by omega), gu_s]
  have m2 : gu (gu (gu (gu m 200001 (22 + 3 * N) n') 200001 (22 + 3 * N + 1) x) 200001 (22 + 3 * N + 2) y) 200001 0 (N + 1) 200001 (22 + 3 * N + 1) = x := by rw [gu_j (by omega), gu_j (by omega), gu_s]
  have m3 : gu (gu (gu (gu m 200001 (22 + 3 * N) n') 200001 (22 + 3 * N + 1) x) 200001 (22 + 3 * N + 2) y) 200001 0 (N + 1) 200001 (22 + 3 * N + 2) = y := by rw [gu_j (by omega), gu_s]
  have co : ∀ k : Nat, ¬ k = 100002 → ¬ k = 100002 + 1 → ¬ k = 100002 + 2 → ¬ k = 100002 + 3 → gu (gu (gu (gu c (100002 + 1) N n) (100002 + 2) N x) (100002 + 3) N y) 100002 1 (N + 1) k = c k := fun k q1 q2 q3 q4 => funext fun j => by rw [gu_k q1, gu_k q4, gu_k q3, gu_k q2]
  have c0 : ∀ j, ¬ j = 1 → gu (gu (gu (gu c (100002 + 1) N n) (100002 + 2) N x) (100002 + 3) N y) 100002 1 (N + 1) 100002 j = c 100002 j := fun j q => by rw [gu_j q, gu_k (by decide), gu_k (by decide), gu_k (by decide)]
  have c01 : gu (gu (gu (gu c (100002 + 1) N n) (100002 + 2) N x) (100002 + 3) N y) 100002 1 (N + 1) 100002 1 = N + 1 := gu_s
  have c1 : ∀ j, gu (gu (gu (gu c (100002 + 1) N n) (100002 + 2) N x) (100002 + 3) N y) 100002 1 (N + 1) (100002 + 1) j = if j = N then n else c (100002 + 1) j := fun j => by rw [gu_k (by decide), gu_k (by decide), gu_k (by decide), gu_v]
  have c2 : ∀ j, gu (gu (gu (gu c (100002 + 1) N n) (100002 + 2) N x) (100002 + 3) N y) 100002 1 (N + 1) (100002 + 2) j = if j = N then x else c (100002 + 2) j := fun j => by rw [gu_k (by decide), gu_k (by decide), gu_v, gu_k (by decide)]
  have c3 : ∀ j, gu (gu (gu (gu c (100002 + 1) N n) (100002 + 2) N x) (100002 + 3) N y) 100002 1 (N + 1) (100002 + 3) j = if j = N then y else c (100002 + 3) j := fun j => by rw [gu_k (by decide), gu_v, gu_k (by decide), gu_k (by decide)]
  generalize gu (gu (gu (gu c (100002 + 1) N n) (100002 + 2) N x) (100002 + 3) N y) 100002 1 (N + 1) = c' at *
  generalize gu (gu (gu (gu m 200001 (22 + 3 * N) n') 200001 (22 + 3 * N + 1) x) 200001 (22 + 3 * N + 2) y) 200001 0 (N + 1) = m' at *
  refine ⟨⟨⟨⟨⟨?_, ?_⟩, ?_, ?_⟩, fun k k0 k1 => ?_, fun r q0 q1 => ?_, fun i i0 i1 => ?_, fun i i0 i1 => ?_⟩, ?_⟩, fun k k0 k1 => ?_, fun r q0 q1 => ?_, fun r q0 q1 => ?_, ?_, ?_, fun k k0 k1 => ?_, fun r q0 q1 => ?_⟩
  · rw [c01, m0]
  · rw [c0 _ (by decide), mo _ (by decide) (by omega) (by omega) (by omega)]; exact a2
  · rw [c0 _ (by decide), mo _ (by decide) (by omega) (by omega) (by omega)]; exact a3
  · rw [c0 _ (by decide), mo _ (by decide) (by omega) (by omega) (by omega)]; exact a4
  · rw [m0] at k1
    rw [c2, c3]
    by_cases e : k = N
    · rw [e, if_pos rfl, if_pos rfl, m2, m3]; exact ⟨rfl, rfl⟩
    · rw [if_neg e, if_neg e, mo _ (by omega) (by omega) (by omega) (by omega), mo _ (by omega) (by omega) (by omega) (by omega)]
      exact a5 k k0 (by omega)
  · rw [mo 1 (by decide) (by omega) (by omega) (by omega)] at q1
    obtain ⟨⟨b1, b2⟩, ⟨b3, b4⟩, ⟨b5, b6⟩, b7, b8⟩ := a6 r q0 q1
    have hm : ∀ i, 0 ≤ i → i < 7 → m' 200001 (52 + 7 * r + i) = m 200001 (52 + 7 * r + i) := fun i i0 i1 => mo _ (by omega) (by omega) (by omega) (by omega)
    unfold NNr
    rw [m0, co _ (by decide) (by decide) (by decide) (by decide), co _ (by decide) (by decide) (by decide) (by decide), co _ (by decide) (by decide) (by decide) (by decide), co _ (by decide) (by decide) (by decide) (by decide), co _ (by decide) (by decide) (by decide) (by decide), c0 _ (by decide), hm 1 (by decide) (by decide), hm 2 (by decide) (by decide), hm 3 (by decide) (by decide), hm 4 (by decide) (by decide), hm 5 (by decide) (by decide), hm 6 (by decide) (by decide)]
    exact ⟨⟨b1, b2⟩, ⟨b3, b4⟩, ⟨b5, b6⟩, by omega, by omega⟩
  · rw [co _ (by decide) (by decide) (by decide) (by decide), mo _ (by omega) (by omega) (by omega) (by omega)]; exact a7 i i0 i1
  · rw [co _ (by decide) (by decide) (by decide) (by decide), mo _ (by omega) (by omega) (by omega) (by omega)]; exact a8 i i0 i1
  · rw [c0 _ (by decide), mo _ (by decide) (by omega) (by omega) (by omega)]; exact d0
  · rw [m0] at k1
    rw [c1]
    by_cases e : k = N
    · rw [e, if_pos rfl, m1]; exact hn
    · rw [if_neg e, mo _ (by omega) (by omega) (by omega) (by omega)]
      exact d2 k k0 (by omega)
  · rw [mo 1 (by decide) (by omega) (by omega) (by omega)] at q1
    rw [co _ (by decide) (by decide) (by decide) (by decide), mo _ (by omega) (by omega) (by omega) (by omega), mo _ (by omega) (by omega) (by omega) (by omega), mo _ (by omega) (by omega) (by omega) (by omega), mo _ (by omega) (by omega) (by omega) (by omega), mo _ (by omega) (by omega) (by omega) (by omega)]
    exact d3 r q0 q1
  · rw [mo 1 (by decide) (by omega) (by omega) (by omega)] at q0
    rw [c0 _ (by decide), mo _ (by omega) (by omega) (by omega) (by omega)]
    exact d4 r q0 q1
  · rw [mo 2 (by decide) (by omega) (by omega) (by omega), m0]
    rcases d5 with e | e
    · exact Or.inl e
    · exact Or.inr (by omega)
  · rw [mo 4 (by decide) (by omega) (by omega) (by omega)]
    exact d6
  · rw [m0] at k0
    rw [mo _ (by omega) (by omega) (by omega) (by omega)]
    exact d7 k (by omega) k1
  · rw [mo 1 (by decide) (by omega) (by omega) (by omega)] at q0
    rw [mo _ (by omega) (by omega) (by omega) (by omega)]
    exact d8 r q0 q1
/-- one cell of the settings, or of the snow -/
theorem DN_set (h : DN c m) {q : Nat} {i j v : Int} (hj : ¬ j = 0 ∧ ¬ j = 1) (hq : (q = 100002 + 10 ∧ (0 ≤ i ∧ i < 4) ∧ j = 11 + i) ∨ (q = 100002 + 11 ∧ (0 ≤ i ∧ i < 3) ∧ j = 15 + i) ∨ (q = 100002 ∧ i = 4 ∧ j = 3) ∨ (q = 100002 ∧ i = 5 ∧ j = 4 ∧ 0 ≤ v ∧ v ≤ 99) ∨ (q = 100002 ∧ i = 3 ∧ j = 2 ∧ 0 ≤ v ∧ v < m 200001 0) ∨ (q = 100002 + 9 ∧ (0 ≤ i ∧ i < m 200001 1 ∧ m 200001 1 ≤ 12) ∧ j = 52 + 7 * i + 6 ∧ 0 ≤ v ∧ v ≤ 999)) (hV : NW m 200001) : DN (gu c q i v) (gu m 200001 j v) := by
  obtain ⟨⟨d1, d0⟩, d2, d3, d4, d5, d6, d7, d8⟩ := h
  obtain ⟨⟨⟨a1, a2⟩, a3, a4⟩, a5, a6, a7, a8⟩ := d1
  have r0 := hV.1.1
  have r1 := hV.1.2
  have e0 : gu m 200001 j v 200001 0 = m 200001 0 := gu_j (by omega)
  have e1 : gu m 200001 j v 200001 1 = m 200001 1 := gu_j (by omega)
  refine ⟨⟨⟨⟨⟨?_, ?_⟩, ?_, ?_⟩, fun k k0 k1 => ?_, fun r q0 q1 => ?_, fun y y0 y1 => ?_, fun y y0 y1 => ?_⟩, ?_⟩, fun k k0 k1 => ?_, fun r q0 q1 => ?_, fun r q0 q1 => ?_, ?_, ?_, fun k k0 k1 => ?_, fun r q0 q1 => ?_⟩
  · rw [e0]
    rcases hq with ⟨hq, -, -⟩ | ⟨hq, -, -⟩ | ⟨hq, hi, -⟩ | ⟨hq, hi, -⟩ | ⟨hq, hi, -⟩ | ⟨hq, -, -⟩ <;> subst hq
    all_goals first | (rw [gu_k (by decide)]; exact a1) | (rw [gu_j (by omega)]; exact a1)
  · rw [e1]
    rcases hq with ⟨hq, -, -⟩ | ⟨hq, -, -⟩ | ⟨hq, hi, -⟩ | ⟨hq, hi, -⟩ | ⟨hq, hi, -⟩ | ⟨hq, -, -⟩ <;> subst hq
    all_goals first | (rw [gu_k (by decide)]; exact a2) | (rw [gu_j (by omega)]; exact a2)
  · rw [gu_v]
    rcases hq with ⟨hq, hi, hj2⟩ | ⟨hq, hi, hj2⟩ | ⟨hq, hi, hj2⟩ | ⟨hq, hi, hj2⟩ | ⟨hq, hi, hj2⟩ | ⟨hq, hi, hj2⟩ <;> subst hq
    · rw [gu_k (by decide), if_neg (by omega)]; exact a3
    · rw [gu_k (by decide), if_neg (by omega)]; exact a3
    · rw [gu_j (by omega), if_neg (by omega)]; exact a3
    · rw [gu_j (by omega), if_neg (by omega)]; exact a3
    · rw [hi, gu_s, if_pos (by omega)]
    · rw [gu_k (by decide), if_neg (by omega)]; exact a3
  · rw [gu_v]
    rcases hq with ⟨hq, hi, hj2⟩ | ⟨hq, hi, hj2⟩ | ⟨hq, hi, hj2⟩ | ⟨hq, hi, hj2⟩ | ⟨hq, hi, hj2⟩ | ⟨hq, hi, hj2⟩ <;> subst hq
    · rw [gu_k (by decide), if_neg (by omega)]; exact a4
    · rw [gu_k (by decide), if_neg (by omega)]; exact a4
    · rw [hi, gu_s, if_pos (by omega)]
    · rw [gu_j (by omega), if_neg (by omega)]; exact a4
    · rw [gu_j (by omega), if_neg (by omega)]; exact a4
    · rw [gu_k (by decide), if_neg (by omega)]; exact a4
  · rw [e0] at k1
    rw [gu_k (k' := 100002 + 2) (by omega), gu_k (k' := 100002 + 3) (by omega), gu_j (by omega), gu_j (by omega)]
    exact a5 k k0 k1
  · rw [e1] at q1
    obtain ⟨⟨b1, b2⟩, ⟨b3, b4⟩, ⟨b5, b6⟩, b7, b8⟩ := a6 r q0 q1
    have hm : ∀ y, 0 ≤ y → y < 6 → gu m 200001 j v 200001 (52 + 7 * r + y) = m 200001 (52 + 7 * r + y) := fun y y0 y1 => gu_j (by omega)
    have hk6 : gu c q i v 100002 6 = c 100002 6 := by
      rcases hq with ⟨hq, hi, hj2⟩ | ⟨hq, hi, hj2⟩ | ⟨hq, hi, hj2⟩ | ⟨hq, hi, hj2⟩ | ⟨hq, hi, hj2⟩ | ⟨hq, hi, hj2⟩ <;> subst hq
      all_goals first | exact gu_k (by decide) | exact gu_j (by omega)
    unfold NNr
    rw [e0, gu_k (k' := 100002 + 5) (by omega), gu_k (k' := 100002 + 6) (by omega), gu_k (k' := 100002 + 7) (by omega), gu_k (k' := 100002 + 8) (by omega), hk6, hm 1 (by decide) (by decide), hm 2 (by decide) (by decide), hm 3 (by decide) (by decide), hm 4 (by decide) (by decide), hm 5 (by decide) (by decide)]
    refine ⟨⟨b1, b2⟩, ⟨b3, b4⟩, ⟨?_, b6⟩, b7, b8⟩
    rcases hq with ⟨hq, hi, hj2⟩ | ⟨hq, hi, hj2⟩ | ⟨hq, hi, hj2⟩ | ⟨hq, hi, hj2⟩ | ⟨hq, hi, hj2⟩ | ⟨hq, hi, hj2⟩ <;> subst hq
    all_goals first
      | (rw [gu_k (by decide), gu_j (by omega)]; exact b5)
      | skip
    rw [gu_v, gu_v]
    by_cases e : r = i
    · rw [if_pos e, if_pos (by omega)]
    · rw [if_neg e, if_neg (by omega)]; exact b5
  · rw [gu_v]
    rcases hq with ⟨hq, hi, hj2⟩ | ⟨hq, hi, hj2⟩ | ⟨hq, hi, hj2⟩ | ⟨hq, hi, hj2⟩ | ⟨hq, hi, hj2⟩ | ⟨hq, hi, hj2⟩ <;> subst hq
    · rw [gu_v]
      by_cases e : y = i
      · rw [if_pos e, if_pos (by omega)]
      · rw [if_neg e, if_neg (by omega)]; exact a7 y y0 y1
    all_goals (rw [gu_k (by decide), if_neg (by omega)]; exact a7 y y0 y1)
  · rw [gu_v]
    rcases hq with ⟨hq, hi, hj2⟩ | ⟨hq, hi, hj2⟩ | ⟨hq, hi, hj2⟩ | ⟨hq, hi, hj2⟩ | ⟨hq, hi, hj2⟩ | ⟨hq, hi, hj2⟩ <;> subst hq
    · rw [gu_k (by decide), if_neg (by omega)]; exact a8 y y0 y1
    · rw [gu_v]
      by_cases e : y = i
      · rw [if_pos e, if_pos (by omega)]
      · rw [if_neg e, if_neg (by omega)]; exact a8 y y0 y1
    all_goals (rw [gu_k (by decide), if_neg (by omega)]; exact a8 y y0 y1)
  · rw [gu_v]
    rcases hq with ⟨hq, hi, hj2⟩ | ⟨hq, hi, hj2⟩ | ⟨hq, hi, hj2⟩ | ⟨hq, hi, hj2⟩ | ⟨hq, hi, hj2⟩ | ⟨hq, hi, hj2⟩ <;> subst hq
    · rw [gu_k (by decide), if_neg (by omega)]; exact d0
    · rw [gu_k (by decide), if_neg (by omega)]; exact d0
    · rw [gu_j (by omega), if_neg (by omega)]; exact d0
    · rw [hi, gu_s, if_pos (by omega)]
    · rw [gu_j (by omega), if_neg (by omega)]; exact d0
    · rw [gu_k (by decide), if_neg (by omega)]; exact d0
  · rw [e0] at k1
    rw [gu_k (by omega), gu_j (by omega)]
    exact d2 k k0 k1
  · rw [e1] at q1
    obtain ⟨x1, x2, x3, x4, x5⟩ := d3 r q0 q1
    rw [gu_k (by omega), gu_j (j' := 52 + 7 * r) (by omega), gu_j (j' := 52 + 7 * r + 3) (by omega), gu_j (j' := 52 + 7 * r + 4) (by omega), gu_j (j' := 52 + 7 * r + 5) (by omega), gu_v]
    refine ⟨x1, x2, x3, ?_, x5⟩
    split
    · rcases hq with ⟨hq, hi, hj2⟩ | ⟨hq, hi, hj2⟩ | ⟨hq, hi, hj2⟩ | ⟨hq, hi, hj2⟩ | ⟨hq, hi, hj2⟩ | ⟨hq, hi, hj2⟩ <;> omega
    · exact x4
  · rw [e1] at q0
    obtain ⟨x1, x2⟩ := d4 r q0 q1
    have hk6 : gu c q i v 100002 6 = c 100002 6 := by
      rcases hq with ⟨hq, hi, hj2⟩ | ⟨hq, hi, hj2⟩ | ⟨hq, hi, hj2⟩ | ⟨hq, hi, hj2⟩ | ⟨hq, hi, hj2⟩ | ⟨hq, hi, hj2⟩ <;> subst hq
      all_goals first | exact gu_k (by decide) | exact gu_j (by omega)
    rw [hk6, gu_j (by omega)]
    exact ⟨x1, x2⟩
  · rw [e0, gu_v]
    split
    · right
      rcases hq with ⟨hq, hi, hj2⟩ | ⟨hq, hi, hj2⟩ | ⟨hq, hi, hj2⟩ | ⟨hq, hi, hj2⟩ | ⟨hq, hi, hj2⟩ | ⟨hq, hi, hj2⟩ <;> omega
    · exact d5
  · rw [gu_v]
    split
    · rcases hq with ⟨hq, hi, hj2⟩ | ⟨hq, hi, hj2⟩ | ⟨hq, hi, hj2⟩ | ⟨hq, hi, hj2⟩ | ⟨hq, hi, hj2⟩ | ⟨hq, hi, hj2⟩ <;> omega
    · exact d6
  · rw [e0] at k0
    rw [gu_j (by omega)]
    exact d7 k k0 k1
  · rw [e1] at q0
    rw [gu_j (by omega)]
    exact d8 r q0 q1
end
