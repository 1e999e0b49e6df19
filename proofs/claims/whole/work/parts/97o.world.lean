/-! a changed world lives on -/
theorem LV_w {G : Int → gC} {B B' Lo : Int} {c c' m m' : gC} {n w b : Nat} (h : LV G B Lo c n w m b) (h1 : NF c c' n) (h2 : NA m m' b) (h4 : (0 ≤ m' b 4 ∧ m' b 4 ≤ 99) ∧ m' b 8 ≤ m' b 3) (hVV : VV c' w m' b) (hP : PP m' b) (hR : WR c' w B') (hW : WW m' b B') : LV G B' Lo c' n w m' b := by
  obtain ⟨⟨⟨⟨a1, a2⟩, -, -, a5⟩, b1⟩, ⟨-, d2⟩, ⟨e1, -, -⟩, ⟨f1, f2⟩, g1⟩ := h
  have s : c' n 0 = c n 0 := h1 n (Nat.le_refl _) (by omega) 0
  refine ⟨⟨⟨⟨NN_n a1 a2 h1 h2, NW_n h2 a2⟩, hVV, hP, CL1_n a5 a2 h2⟩, ⟨fun k k0 k1 => ?_, fun r r0 r1 => ?_⟩⟩, ⟨h4, NDb_v d2 fun j j0 j1 => h2 j (by omega)⟩, ⟨NR_k2 e1 h1, hR, hW⟩, ⟨?_, ?_⟩, ?_⟩
  · rw [h2 0 (by decide)] at k1
    have v0 := a2.1.1
    rw [h1 (n + 1) (by omega) (by omega), h2 _ (by omega)]; exact b1.1 k k0 k1
  · rw [h2 1 (by decide)] at r1
    have v0 := a2.1.2
    rw [h1 (n + 4) (by omega) (by omega), h2 _ (by omega), h2 _ (by omega), h2 _ (by omega)]; exact b1.2 r r0 r1
  · rw [s]; exact NEQ_tr f1 (NEQ_o h1)
  · rw [s]
    intro j hj
    rw [h2 j (by omega)]
    exact f2 j hj
  · rw [s]; exact g1
/-- what remembering writes depends on little -/
theorem rem_cg {m m' : gC} (e0 : m' 200000 = m 200000) (e8 : m' 200008 = m 200008) (e13 : m' 500001 13 = m 500001 13) : rem m' 200008 = rem m 200008 ∧ rem m' 500001 13 = rem m 500001 13 := by
  have r13 : rm1 m' 500001 13 = rm1 m 500001 13 := by
    unfold rm1
    rw [e13]
    split
    · rw [gu_s, gu_s]
    · exact e13
  have r8 : rm1 m' 200008 = rm1 m 200008 := by
    unfold rm1
    rw [e13]
    split
    · funext j
      rw [gu_k (by decide), gu_k (by decide)]
      unfold gsh
      rw [e8]
    · exact e8
  have r0 : rm1 m' 200000 = rm1 m 200000 := by rw [rm1_o (by decide) (by decide), rm1_o (by decide) (by decide), e0]
  refine ⟨funext fun j => ?_, ?_⟩
  · unfold rem
    rw [gu_k (by decide), gu_k (by decide)]
    unfold gcp
    rw [r13, r0, r8]
  · unfold rem
    rw [gu_s, gu_s, r13]
