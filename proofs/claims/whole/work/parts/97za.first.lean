/-! what stands before the first call -/
theorem FN_v {c : gC} {k : Nat} (h : FN c k) : (c k 0 = 0 ∧ c k 1 = 0 ∧ c k 2 = 0 ∧ c k 3 = -1 ∧ c k 4 = 500 ∧ c k 5 = 0 ∧ c k 6 = 0) ∧ ((∀ j, c (k + 1) j = 0) ∧ (∀ j, c (k + 2) j = 0) ∧ (∀ j, c (k + 3) j = 0) ∧ (∀ j, c (k + 4) j = 0) ∧ (∀ j, c (k + 5) j = 0) ∧ (∀ j, c (k + 6) j = 0) ∧ (∀ j, c (k + 7) j = 0) ∧ (∀ j, c (k + 8) j = 0) ∧ ∀ j, c (k + 9) j = 0) := by
  have q := fun j (a : 0 ≤ j) (b : j ≤ 6) => h.1 j a b
  refine ⟨⟨?_, ?_, ?_, ?_, ?_, ?_, ?_⟩, h.2.1 1 (by decide) (by decide), h.2.1 2 (by decide) (by decide), h.2.1 3 (by decide) (by decide), h.2.1 4 (by decide) (by decide), h.2.1 5 (by decide) (by decide), h.2.1 6 (by decide) (by decide), h.2.1 7 (by decide) (by decide), h.2.1 8 (by decide) (by decide), h.2.1 9 (by decide) (by decide)⟩
  · exact q 0 (by decide) (by decide)
  · exact q 1 (by decide) (by decide)
  · exact q 2 (by decide) (by decide)
  · exact q 3 (by decide) (by decide)
  · exact q 4 (by decide) (by decide)
  · exact q 5 (by decide) (by decide)
  · exact q 6 (by decide) (by decide)
theorem FN_NR {c : gC} {k : Nat} (h : FN c k) : NR c k := by
  obtain ⟨⟨a0, a1, a2, a3, a4, a5, a6⟩, b1, b2, b3, b4, b5, b6, b7, b8, b9⟩ := FN_v h
  refine ⟨by omega, by omega, fun i _ _ => ?_, fun i _ _ => ?_, fun i _ _ => ?_, fun i _ _ => ?_⟩
  · rw [b2, b3]; decide
  · rw [b5, b6, b7, b8]; decide
  · rw [h.2.2.1 i]
    split
    · decide
    · split
      · decide
      · split <;> decide
  · rw [h.2.2.2 i]
    split
    · decide
    · split
      · decide
      · split <;> decide
theorem FW_WR {c : gC} {w : Nat} (h : FW c w 500) : WR c w 0 := by
  have q := fun j (a : 1 ≤ j) (b : j ≤ 7) => h.1 j a b
  have q1 := q 1 (by decide) (by decide)
  have q2 := q 2 (by decide) (by decide)
  have q3 := q 3 (by decide) (by decide)
  have q4 := q 4 (by decide) (by decide)
  have q5 := q 5 (by decide) (by decide)
  have q6 := q 6 (by decide) (by decide)
  have q7 := q 7 (by decide) (by decide)
  rw [if_neg (by decide), if_neg (by decide)] at q1 q5 q6 q7
  rw [if_pos (by decide)] at q2 q3
  rw [if_neg (by decide), if_pos rfl] at q4
  refine ⟨by decide, by omega, by omega, by omega, by omega, by omega, by omega, by omega, fun i _ _ => ?_, fun i _ _ => ?_⟩
  · rw [h.2 1 (by decide) (by decide)]; decide
  · rw [h.2 2 (by decide) (by decide), h.2 3 (by decide) (by decide), h.2 4 (by decide) (by decide)]; decide
theorem FW_v {c : gC} {w : Nat} (h : FW c w 500) : (c w 1 = 0 ∧ c w 2 = -1 ∧ c w 3 = -1 ∧ c w 4 = 500 ∧ c w 5 = 0 ∧ c w 6 = 0 ∧ c w 7 = 0) ∧ ∀ j, c (w + 1) j = 0 := by
  have q := fun j (a : 1 ≤ j) (b : j ≤ 7) => h.1 j a b
  have q1 := q 1 (by decide) (by decide)
  have q2 := q 2 (by decide) (by decide)
  have q3 := q 3 (by decide) (by decide)
  have q4 := q 4 (by decide) (by decide)
  have q5 := q 5 (by decide) (by decide)
  have q6 := q 6 (by decide) (by decide)
  have q7 := q 7 (by decide) (by decide)
  rw [if_neg (by decide), if_neg (by decide)] at q1 q5 q6 q7
  rw [if_pos (by decide)] at q2 q3
  rw [if_neg (by decide), if_pos rfl] at q4
  exact ⟨⟨q1, q2, q3, q4, q5, q6, q7⟩, h.2 1 (by decide) (by decide)⟩
theorem mclr_z {c : gC} {b : Nat} {j : Int} (h : 0 ≤ j ∧ j < 208) (h2 : j < 2 ∨ (3 < j ∧ j < 6) ∨ (8 < j ∧ j < 12) ∨ 17 < j) : mclr c b b j = 0 := by
  rw [mclr_v h, if_neg (by omega), if_neg (by omega), if_neg (by omega), if_neg (by omega), if_neg (by omega), if_neg (by omega), if_neg (by omega), if_neg (by omega), if_neg (by omega), if_neg (by omega), if_neg (by omega)]
set_option maxHeartbeats 1000000 in
theorem IV_first {L : Nat} {T : gT} {c z0 : gC} (hX : XT T) (hC : CT T) (hM : MT T 200000) (hO : (T.1 500002).1 = 3 ∧ (T.1 500002).2.1 = 1) (hP : PT T 100051 12) (hL : LT T c) (hH : HR T c) (hF : FRE 0 12 T) (hs : (T.1 800000).1 = 41 ∧ (T.1 800000).2.1 = L) (rg : RG c) (hTX : TX c) (hK : KWS c) (x10 : c 500000 10 = 0) (b0 : c 100000 1 = 0) (b1 : c 100030 1 = 0) (n2 : FN c 100002) (n14 : FN c 100014) (r1 : c 100026 1 = -1) (rz : ∀ i : Nat, 1 ≤ i → i ≤ 3 → ∀ j, c (100026 + i) j = 0) (e3 : c 100032 3 = 0) (e4 : c 100032 4 = -1) (w34 : FW c 100034 500) (p8 : c 100044 8 = 0) (pm : ∀ j, 0 ≤ j → j < 3 → c (100044 + 1) j = -1) (pz : ∀ i : Nat, 2 ≤ i → i ≤ 7 → ∀ j, c (100044 + i) j = 0) (h1 : c 100052 1 = 0) (h2 : c 100052 2 = 0) (m5 : ∀ j, ¬ j = 22 → c 500001 j = 0) (m22 : c 500001 22 = -1) (mn : ∀ j, 0 ≤ j → j < 208 → c 200000 j = mclr z0 200000 200000 j) (mz : ∀ i : Nat, 1 ≤ i → i < 11 → ∀ j, c (200000 + i) j = 0) : IV 0 L T c := by
  obtain ⟨⟨a0, a1, a2, a3, a4, a5, a6⟩, -⟩ := FN_v n14
  obtain ⟨⟨v1, v2, v3, v4, v5, v6, v7⟩, v8⟩ := FW_v w34
  have rw8 : RW8 c 200000 (mclr z0 200000) 200000 := mn
  have hV : NW c 200000 := NW_R mclr_NW rw8
  have g0 : ∀ j : Int, 0 ≤ j → j < 208 → (j < 2 ∨ (3 < j ∧ j < 6) ∨ (8 < j ∧ j < 12) ∨ 17 < j) → c 200000 j = 0 := fun j j0 j1 hj => (mn j j0 j1).trans (mclr_z ⟨j0, j1⟩ hj)
  have g : ∀ j : Int, 0 ≤ j → j < 208 → c 200000 j = _ := fun j j0 j1 => (mn j j0 j1).trans (mclr_v ⟨j0, j1⟩)
  have y0 := g0 0 (by decide) (by decide) (by decide)
  have y1 := g0 1 (by decide) (by decide) (by decide)
  have y2 : c 200000 2 = -1 := g 2 (by decide) (by decide)
  have y3 : c 200000 3 = 500 := g 3 (by decide) (by decide)
  have y4 := g0 4 (by decide) (by decide) (by decide)
  have y5 := g0 5 (by decide) (by decide) (by decide)
  have y6 : c 200000 6 = -1 := g 6 (by decide) (by decide)
  have y7 : c 200000 7 = -1 := g 7 (by decide) (by decide)
  have y8 : c 200000 8 = 500 := g 8 (by decide) (by decide)
  have y9 := g0 9 (by decide) (by decide) (by decide)
  have y10 := g0 10 (by decide) (by decide) (by decide)
  have y11 : c 200000 11 = 0 := g0 11 (by decide) (by decide) (by decide)
  have y12 : c 200000 12 = 2 := g 12 (by decide) (by decide)
  have y13 : c 200000 13 = 5 := g 13 (by decide) (by decide)
  have y14 : c 200000 14 = 20 := g 14 (by decide) (by decide)
  have y15 : c 200000 15 = 20 := g 15 (by decide) (by decide)
  have y16 : c 200000 16 = 10 := g 16 (by decide) (by decide)
  have y17 : c 200000 17 = 5 := g 17 (by decide) (by decide)
  have no : ∀ a, mhA c 200000 a = false := fun a => by
    unfold mhA
    rw [y1]
    unfold inr
    by_cases q : 0 ≤ a
    · rw [decide_eq_false (show ¬ a ≤ 2 * 0 - 1 by omega)]; simp
    · rw [decide_eq_false q]; simp
  have nn : NN c 100014 c 200000 := by
    refine ⟨⟨⟨by omega, by omega⟩, by omega, by omega⟩, fun n n0 n1 => by omega, fun r r0 r1 => by omega, fun i i0 i1 => ?_, fun i i0 i1 => ?_⟩
    · have q := n14.2.2.1
      rcases (show i = 0 ∨ i = 1 ∨ i = 2 ∨ i = 3 by omega) with e | e | e | e <;> subst e
      · rw [q 0]; exact y11.symm
      · rw [q 1]; exact y12.symm
      · rw [q 2]; exact y13.symm
      · rw [q 3]; exact y14.symm
    · have q := n14.2.2.2
      rcases (show i = 0 ∨ i = 1 ∨ i = 2 by omega) with e | e | e <;> subst e
      · rw [q 0]; exact y15.symm
      · rw [q 1]; exact y16.symm
      · rw [q 2]; exact y17.symm
  have cl : CL1 c 200000 := fun a ha => by rw [no] at ha; cases ha
  have sw : SW c 100014 100034 c 200000 := by
    refine ⟨⟨nn, hV⟩, ⟨⟨⟨by omega, by omega⟩, ⟨by omega, by omega⟩, ⟨by omega, by omega⟩, by omega⟩, fun i i0 i1 => ?_, fun a ha => by rw [no] at ha; cases ha⟩, ⟨Or.inl y7, Or.inr ⟨y0, y6, y2⟩⟩, cl⟩
    rw [v8, g0 _ (by omega) (by omega) (by omega)]
  have z : ∀ i : Nat, 1 ≤ i → i < 11 → ∀ j, c (200000 + i) j = 0 := mz
  have wr : WR c 100034 (700000 * ((0 : Nat) : Int)) := FW_WR w34
  have ww : WW c 200000 (700000 * ((0 : Nat) : Int)) := by
    refine ⟨⟨by decide, by omega⟩, ⟨?_, by omega⟩, ⟨by omega, by omega⟩, ⟨?_, ?_⟩, fun i i0 i1 => ?_, fun a a0 a1 => ?_⟩
    · rw [y5]; decide
    · rw [y9]; decide
    · rw [y10]; decide
    · rw [g0 _ (by omega) (by omega) (by omega)]; decide
    · rw [g0 _ (by omega) (by omega) (by omega), g0 _ (by omega) (by omega) (by omega), g0 _ (by omega) (by omega) (by omega)]; decide
  refine ⟨⟨fun _ => c, 0, 100051, 12, ⟨⟨⟨hX, hC, hM⟩, hO, hP, hL, hH⟩, hF⟩, ⟨⟨rg, ⟨FN_NR n2, ?_, ?_⟩, ⟨fun i i0 i1 => ?_, ⟨fun i i0 i1 => ?_, fun i i0 i1 => ?_⟩, ⟨by omega, fun i i0 i1 => ?_, fun i i0 i1 => ?_⟩⟩, hK, hTX⟩, ⟨⟨rg, ?_, fun k k0 k1 => ?_⟩, fun j j0 j1 => ?_, ?_, ?_⟩, ⟨?_, fun k k0 k1 => by omega⟩, ⟨?_, ?_, fun j j0 j1 => by omega⟩, ?_, ?_⟩, ⟨fun q q0 q1 => ⟨nn, ⟨hV, rg⟩, cl⟩, ⟨Or.inl r1, fun q => by omega⟩, fun y z0 z1 => ?_⟩, ⟨⟨⟨sw, ⟨fun n n0 n1 => by omega, fun r r0 r1 => by omega⟩⟩, ⟨⟨by omega, by omega⟩, ⟨fun n n0 n1 => ?_, fun r r0 r1 => ?_⟩⟩, ⟨FN_NR n14, wr, ww⟩, ⟨NEQ_o fun _ _ _ _ => rfl, fun _ _ => rfl⟩, by omega, by omega⟩, ⟨?_, by omega, by omega⟩, fun i i0 i1 => by omega⟩, x10, Int.le_refl _, Int.le_refl _⟩, hs⟩
  · unfold BR; omega
  · unfold BR; omega
  · have q1 := rz 1 (by decide) (by decide) i
    have q2 := rz 2 (by decide) (by decide) i
    rw [show 100026 + 1 = 100027 from rfl] at q1
    rw [show 100026 + 2 = 100028 from rfl] at q2
    omega
  · have q1 := pz 2 (by decide) (by decide) i
    rw [show 100044 + 2 = 100046 from rfl] at q1
    omega
  · have q1 := pz 4 (by decide) (by decide) i
    rw [show 100044 + 4 = 100048 from rfl] at q1
    omega
  · have q1 := pz 5 (by decide) (by decide) i
    have q2 := pz 6 (by decide) (by decide) i
    rw [show 100044 + 5 = 100049 from rfl] at q1
    rw [show 100044 + 6 = 100050 from rfl] at q2
    omega
  · have q1 := pz 7 (by decide) (by decide) i
    rw [show 100044 + 7 = 100051 from rfl] at q1
    omega
  · rw [m5 15 (by decide)]; decide
  · have q := z 9 (by decide) (by decide) k
    rw [show 200000 + 9 = 200009 from rfl] at q
    omega
  · have q := z 6 (by decide) (by decide) j
    rw [show 200000 + 6 = 200006 from rfl] at q
    omega
  · rw [m5 25 (by decide)]; decide
  · rw [m5 7 (by decide)]; decide
  · rw [b0, m5 15 (by decide)]
  · rw [b1, m5 25 (by decide)]
  · omega
  · rw [e3, m5 21 (by decide)]
  · rw [e4, m22]
  · have q := pm (y - 1) (by omega) (by omega)
    rw [show 100044 + 1 = 100045 from rfl] at q
    exact ⟨Or.inl q, fun w => by omega⟩
  · rw [g0 _ (by omega) (by omega) (by omega)]; decide
  · rw [g0 _ (by omega) (by omega) (by omega), g0 _ (by omega) (by omega) (by omega)]; decide
  · rw [m5 13 (by decide), h2]
