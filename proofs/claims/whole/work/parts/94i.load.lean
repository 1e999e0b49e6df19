/-! whole texts: both parsers come to the same end -/
theorem mclr_0 {c : gC} {j : Int} (h : 0 ≤ j ∧ j < 208) (h2 : ¬ (j = 2 ∨ j = 3 ∨ j = 6 ∨ j = 7 ∨ j = 8 ∨ j = 12 ∨ j = 13 ∨ j = 14 ∨ j = 15 ∨ j = 16 ∨ j = 17)) : mclr c 200001 200001 j = 0 := by
  rw [mclr_v h, if_neg (by omega), if_neg (by omega), if_neg (by omega), if_neg (by omega), if_neg (by omega), if_neg (by omega), if_neg (by omega), if_neg (by omega), if_neg (by omega), if_neg (by omega), if_neg (by omega)]
section
variable {c m : gC}
theorem DN_0 {m' : gC} (hm : m' = mclr (ld0 m) 200001) : DN (gu (gu (gu (gu (nrs c 100002) 100032 3 0) 100032 4 (-1)) 100032 10 0) 100032 7 0) m' := by
  have v : ∀ j, 0 ≤ j → j < 208 → m' 200001 j = if j = 17 then 5 else if j = 16 then 10 else if j = 15 then 20 else if j = 14 then 20 else if j = 13 then 5 else if j = 12 then 2 else if j = 8 then 500 else if j = 7 then -1 else if j = 6 then -1 else if j = 3 then 500 else if j = 2 then -1 else 0 := fun j a b => by rw [hm]; exact mclr_v ⟨a, b⟩
  have z : ∀ j, 0 ≤ j → j < 208 → ¬ (j = 2 ∨ j = 3 ∨ j = 6 ∨ j = 7 ∨ j = 8 ∨ j = 12 ∨ j = 13 ∨ j = 14 ∨ j = 15 ∨ j = 16 ∨ j = 17) → m' 200001 j = 0 := fun j a b q => by rw [hm]; exact mclr_0 ⟨a, b⟩ q
  have e : ∀ k : Nat, ¬ k = 100032 → gu (gu (gu (gu (nrs c 100002) 100032 3 0) 100032 4 (-1)) 100032 10 0) 100032 7 0 k = nrs c 100002 k := fun k hk => funext fun j => by rw [gu_k hk, gu_k hk, gu_k hk, gu_k hk]
  have q0 := z 0 (by decide) (by decide) (by decide)
  have q1 := z 1 (by decide) (by decide) (by decide)
  have q2 := v 2 (by decide) (by decide)
  have q3 := v 3 (by decide) (by decide)
  have q4 := z 4 (by decide) (by decide) (by decide)
  refine ⟨⟨⟨⟨⟨?_, ?_⟩, ?_, ?_⟩, fun k k0 k1 => ?_, fun r r0 r1 => ?_, fun i i0 i1 => ?_, fun i i0 i1 => ?_⟩, ?_⟩, fun k k0 k1 => ?_, fun r r0 r1 => ?_, fun r r0 r1 => ⟨?_, ?_⟩, ?_, ?_, fun k k0 k1 => ?_, fun r r0 r1 => ?_⟩
  · rw [e _ (by decide), q0]; unfold nrs; simp (disch := decide) only [gu_k, gu_j, gu_s]
  · rw [e _ (by decide), q1]; unfold nrs; simp (disch := decide) only [gu_k, gu_j, gu_s]
  · rw [e _ (by decide), q2]; unfold nrs; simp (disch := decide) only [gu_k, gu_j, gu_s]; decide
  · rw [e _ (by decide), q3]; unfold nrs; simp (disch := decide) only [gu_k, gu_j, gu_s]; decide
  · rw [q0] at k1; omega
  · rw [q1] at r1; omega
  · rw [e _ (by decide)]
    rcases (show i = 0 ∨ i = 1 ∨ i = 2 ∨ i = 3 by omega) with w | w | w | w <;> subst w
    · have := z 11 (by decide) (by decide) (by decide)
      rw [show (11 : Int) + 0 = 11 from rfl, this]; unfold nrs; simp (disch := decide) only [gu_k, gu_j, gu_s]
    · have := v 12 (by decide) (by decide)
      rw [show (11 : Int) + 1 = 12 from rfl, this]; unfold nrs; simp (disch := decide) only [gu_k, gu_j, gu_s]; decide
    · have := v 13 (by decide) (by decide)
      rw [show (11 : Int) + 2 = 13 from rfl, this]; unfold nrs; simp (disch := decide) only [gu_k, gu_j, gu_s]; decide
    · have := v 14 (by decide) (by decide)
      rw [show (11 : Int) + 3 = 14 from rfl, this]; unfold nrs; simp (disch := decide) only [gu_k, gu_j, gu_s]; decide
  · rw [e _ (by decide)]
    rcases (show i = 0 ∨ i = 1 ∨ i = 2 by omega) with w | w | w <;> subst w
    · have := v 15 (by decide) (by decide)
      rw [show (15 : Int) + 0 = 15 from rfl, this]; unfold nrs; simp (disch := decide) only [gu_k, gu_j, gu_s]; decide
    · have := v 16 (by decide) (by decide)
      rw [show (15 : Int) + 1 = 16 from rfl, this]; unfold nrs; simp (disch := decide) only [gu_k, gu_j, gu_s]; decide
    · have := v 17 (by decide) (by decide)
      rw [show (15 : Int) + 2 = 17 from rfl, this]; unfold nrs; simp (disch := decide) only [gu_k, gu_j, gu_s]; decide
  · rw [e _ (by decide), q4]; unfold nrs; simp (disch := decide) only [gu_k, gu_j, gu_s]
  · rw [q0] at k1; omega
  · rw [q1] at r1; omega
  · rw [e _ (by decide)]
    have h6 : nrs c 100002 100002 6 = 0 := by unfold nrs; simp (disch := decide) only [gu_k, gu_j, gu_s]
    rw [q1] at r0
    have := tb_0 (n := r.toNat) (by omega)
    rw [show (r.toNat : Int) = r by omega] at this
    rw [h6, this]
  · rw [q1] at r0
    exact z _ (by omega) (by omega) (by omega)
  · rw [q2]; exact Or.inl (by decide)
  · rw [q4]; decide
  · rw [q0] at k0; exact z _ (by omega) (by omega) (by omega)
  · rw [q1] at r0; exact z _ (by omega) (by omega) (by omega)
theorem start_e (hc : RG c) (hB : BR c 100000) (hN : NR c 100002) (hM : MIn m) (hI : c 100000 1 = m 500001 15) (hb : ∀ k, 0 ≤ k → k < c 100000 1 → c 100001 k = m 200009 k ∧ -128 ≤ c 100001 k ∧ c 100001 k < 128) (hK : KWS c) (hT : TX m) : PZ (pr0 c) (ld1 m) := by
  obtain ⟨p1, p2⟩ := pr0_0 hc hB hN
  have pP := pr0_of hc hB hN
  have hD := DN_0 (c := c) (m := m) rfl
  unfold pr0 at pP ⊢
  unfold ld1
  generalize hx : gu (gu (gu (gu (nrs c 100002) 100032 3 0) 100032 4 (-1)) 100032 10 0) 100032 7 0 = x at *
  have hmi := ld0_MI hM
  have hld := ld0_f (c := m)
  have ex : ∀ k : Nat, ¬ k = 100032 → (k < 100002 ∨ 100014 ≤ k) → x k = c k := fun k h1 h2 => p2 k h1 h2
  have em : ∀ k : Nat, ¬ k = 500001 → ¬ k = 200001 → mclr (ld0 m) 200001 k = m k := fun k h1 h2 => by rw [mclr_k h2]; exact hld.2.2 k h1
  have e5 : mclr (ld0 m) 200001 500001 = ld0 m 500001 := mclr_k (by decide)
  have x3 : x 100032 3 = 0 := by rw [← hx, gu_j (by decide), gu_j (by decide), gu_j (by decide), gu_s]
  have x4 : x 100032 4 = -1 := by rw [← hx, gu_j (by decide), gu_j (by decide), gu_s]
  have x10 : x 100032 10 = 0 := by rw [← hx, gu_j (by decide), gu_s]
  have x7 : x 100032 7 = 0 := by rw [← hx, gu_s]
  have y21 : ld0 m 500001 21 = 0 := by unfold ld0; rw [gu_j (by decide), gu_j (by decide), gu_s]
  have y22 : ld0 m 500001 22 = -1 := by unfold ld0; rw [gu_j (by decide), gu_s]
  have y23 : ld0 m 500001 23 = 0 := by unfold ld0; rw [gu_s]
  have hinp : INP x (mclr (ld0 m) 200001) := by
    unfold INP
    rw [ex 100000 (by decide) (by decide), ex 100001 (by decide) (by decide), em 200009 (by decide) (by decide), e5, hld.1.1]
    exact ⟨hI, hB, hb⟩
  generalize hy : mclr (ld0 m) 200001 = y at *
  have hbb : 0 ≤ c 100000 1 := hB.1
  obtain ⟨a1, a2⟩ := adv_e hinp (by rw [x7, e5, hld.1.2]) (by omega) (by rw [x7, ex 100000 (by decide) (by decide)]; exact hbb)
  obtain ⟨b1, b2, b3⟩ := adv_ok p1.1
  obtain ⟨d1, d2, d3⟩ := mad_ok (b := 200001) hmi
  have hnw : NW y 200001 := by rw [← hy]; exact mclr_NW
  have eb : mad y 200001 = y 200001 := d3 _ (by decide)
  refine ⟨⟨⟨a1, a2⟩, fun i hi => ?_, ?_⟩, ?_, ?_, ⟨⟨?_, ?_⟩, ?_, ?_⟩, pP.1, d1, NW_of hnw eb⟩
  · rw [b2 _ (by decide), ex _ (by decide) (by decide)]; exact hK i hi
  · exact TX_o hT fun k hk => by rw [d3 k (by omega), em k (by omega) (by omega)]
  · obtain ⟨⟨d1, d0⟩, d2, d3, d4, d5, d6⟩ := hD
    refine ⟨⟨NN_o d1 hnw (fun i i0 i1 j => by rw [b2 i (by omega)]) eb, ?_⟩, ?_, ?_, ?_, ?_, ?_⟩
    · rw [b2 100002 (by decide), eb]; exact d0
    · rw [eb, b2 (100002 + 1) (by decide)]; exact d2
    · rw [eb, b2 (100002 + 4) (by decide)]; exact d3
    · rw [eb, b2 100002 (by decide)]; exact d4
    · rw [eb]; exact d5
    · rw [eb]; exact d6
  · unfold STG
    rw [b3 10 (by decide), mad_j (by decide), e5, x10, y23]
    exact ⟨⟨by decide, by decide⟩, ⟨by decide, by decide⟩, by decide⟩
  · rw [b3 3 (by decide)]; exact x3
  · rw [mad_j (by decide), e5]; exact y21
  · rw [b3 4 (by decide)]; exact x4
  · rw [mad_j (by decide), e5]; exact y22
theorem parse_e (hc : RG c) (hB : BR c 100000) (hN : NR c 100002) (hM : MIn m) (hI : c 100000 1 = m 500001 15) (hb : ∀ k, 0 ≤ k → k < c 100000 1 → c 100001 k = m 200009 k ∧ -128 ≤ c 100001 k ∧ c 100001 k < 128) (hK : KWS c) (hT : TX m) : RES (psl (pr0 c) 1201) (mlop 1201 200001 (ld1 m)) := by
  have h := start_e hc hB hN hM hI hb hK hT
  exact lop_e 1201 (true, pr0 c) (ld1 m) (Or.inl ⟨rfl, h⟩)
end
