/-! rows that agree in their 208 places -/
def RW8 (m' : gC) (b' : Nat) (m : gC) (b : Nat) : Prop := ∀ j : Int, 0 ≤ j → j < 208 → m' b' j = m b j
theorem RW8_tr {m m' m2 : gC} {b b' b2 : Nat} (h : RW8 m' b' m b) (h2 : RW8 m2 b2 m' b') : RW8 m2 b2 m b := fun j j0 j1 => (h2 j j0 j1).trans (h j j0 j1)
theorem RW8_sy {m m' : gC} {b b' : Nat} (h : RW8 m' b' m b) : RW8 m b m' b' := fun j j0 j1 => (h j j0 j1).symm
theorem RW8_gcp {m : gC} {k q : Nat} : RW8 (gcp m k q 0 0 208) q m k := fun j j0 j1 => gcp_in j0 j1
section
variable {c m m' : gC} {b b' : Nat}
theorem NW_R (hV : NW m b) (h : RW8 m' b' m b) : NW m' b' := by
  obtain ⟨⟨a1, a2⟩, ⟨a3, a4⟩, a5, a6, a7, a8⟩ := hV
  unfold NW
  rw [h 0 (by decide) (by decide), h 1 (by decide) (by decide), h 2 (by decide) (by decide), h 3 (by decide) (by decide)]
  refine ⟨⟨a1, a2⟩, ⟨a3, a4⟩, fun i i0 i1 => ?_, fun i i0 i1 => ?_, fun i i0 i1 => ?_, fun i i0 i1 => ?_⟩
  · rw [h _ (by omega) (by omega)]; exact a5 i i0 i1
  · rw [h _ (by omega) (by omega)]; exact a6 i i0 i1
  · rw [h _ (by omega) (by omega), h _ (by omega) (by omega)]; exact a7 i i0 i1
  · rw [h _ (by omega) (by omega), h _ (by omega) (by omega), h _ (by omega) (by omega), h _ (by omega) (by omega)]; exact a8 i i0 i1
theorem WW_R {B : Int} (hV : WW m b B) (h : RW8 m' b' m b) : WW m' b' B := by
  obtain ⟨⟨a1, a2⟩, ⟨a3, a4⟩, ⟨a5, a6⟩, ⟨a7, a8⟩, a9, a10⟩ := hV
  unfold WW
  rw [h 4 (by decide) (by decide), h 5 (by decide) (by decide), h 6 (by decide) (by decide), h 7 (by decide) (by decide), h 8 (by decide) (by decide), h 9 (by decide) (by decide), h 10 (by decide) (by decide)]
  refine ⟨⟨a1, a2⟩, ⟨a3, a4⟩, ⟨a5, a6⟩, ⟨a7, a8⟩, fun i i0 i1 => ?_, fun i i0 i1 => ?_⟩
  · rw [h _ (by omega) (by omega)]; exact a9 i i0 i1
  · rw [h _ (by omega) (by omega), h _ (by omega) (by omega), h _ (by omega) (by omega)]; exact a10 i i0 i1
theorem mhA_R (hV : NW m b) (h : RW8 m' b' m b) (a : Int) : mhA m' b' a = mhA m b a := by
  have v1 := hV.1.2
  unfold mhA
  rw [h 1 (by decide) (by decide)]
  cases q : inr a 0 (2 * m b 1 - 1) with
  | false => rw [Bool.false_and, Bool.false_and]
  | true =>
    have := inr_t.mp q
    rw [h _ (by omega) (by omega)]
theorem NN_R {k : Nat} (hN : NN c k m b) (hV : NW m b) (h : RW8 m' b' m b) : NN c k m' b' := by
  have v0 := hV.1.1
  have v1 := hV.1.2
  obtain ⟨⟨⟨a1, a2⟩, a3, a4⟩, b1, b2, b3, b4⟩ := hN
  refine ⟨?_, fun n n0 n1 => ?_, fun r r0 r1 => ?_, fun i i0 i1 => ?_, fun i i0 i1 => ?_⟩
  · rw [h 0 (by decide) (by decide), h 1 (by decide) (by decide), h 2 (by decide) (by decide), h 3 (by decide) (by decide)]
    exact ⟨⟨a1, a2⟩, a3, a4⟩
  · rw [h 0 (by decide) (by decide)] at n1
    rw [h _ (by omega) (by omega), h _ (by omega) (by omega)]; exact b1 n n0 n1
  · rw [h 1 (by decide) (by decide)] at r1
    have e := b2 r r0 r1
    unfold NNr at e ⊢
    rw [h _ (by omega) (by omega), h _ (by omega) (by omega), h _ (by omega) (by omega), h _ (by omega) (by omega), h _ (by omega) (by omega), h _ (by omega) (by omega), h 0 (by decide) (by decide)]
    exact e
  · rw [h _ (by omega) (by omega)]; exact b3 i i0 i1
  · rw [h _ (by omega) (by omega)]; exact b4 i i0 i1
theorem NMS_R {k : Nat} (hN : NMS c k m b) (hV : NW m b) (h : RW8 m' b' m b) : NMS c k m' b' := by
  have v0 := hV.1.1
  have v1 := hV.1.2
  refine ⟨fun n n0 n1 => ?_, fun r r0 r1 => ?_⟩
  · rw [h 0 (by decide) (by decide)] at n1
    rw [h _ (by omega) (by omega)]; exact hN.1 n n0 n1
  · rw [h 1 (by decide) (by decide)] at r1
    rw [h _ (by omega) (by omega), h _ (by omega) (by omega), h _ (by omega) (by omega)]; exact hN.2 r r0 r1
theorem VV_R {w : Nat} (hW : VV c w m b) (hV : NW m b) (h : RW8 m' b' m b) : VV c w m' b' := by
  obtain ⟨a1, a2, a3⟩ := hW
  refine ⟨?_, fun i i0 i1 => ?_, fun a ha => ?_⟩
  · rw [h 4 (by decide) (by decide), h 5 (by decide) (by decide), h 6 (by decide) (by decide), h 7 (by decide) (by decide), h 8 (by decide) (by decide), h 9 (by decide) (by decide), h 10 (by decide) (by decide)]
    exact a1
  · rw [h _ (by omega) (by omega)]; exact a2 i i0 i1
  · rw [mhA_R hV h] at ha
    have hr := mhA_rg hV ha
    rw [h _ (by omega) (by omega), h _ (by omega) (by omega), h _ (by omega) (by omega)]
    exact a3 a ha
theorem CL1_R (hL : CL1 m b) (hV : NW m b) (h : RW8 m' b' m b) : CL1 m' b' := fun a ha => by
  rw [mhA_R hV h] at ha
  have hr := mhA_rg hV ha
  have e := hL a ha
  unfold mcl mln at e ⊢
  rw [h _ (by omega) (by omega), h _ (by omega) (by omega)]
  exact e
theorem PP_R (hP : PP m b) (hV : NW m b) (h : RW8 m' b' m b) : PP m' b' := by
  unfold PP at hP ⊢
  rw [h 0 (by decide) (by decide), h 2 (by decide) (by decide), h 6 (by decide) (by decide), h 7 (by decide) (by decide), mhA_R hV h]
  refine ⟨?_, hP.2⟩
  rcases hP.1 with e | ⟨e, e2⟩
  · exact Or.inl e
  · refine Or.inr ⟨e, ?_⟩
    have hr := mhA_rg hV e
    rw [← e2]
    unfold men
    exact h _ (by split <;> omega) (by split <;> omega)
theorem SW_R {n w : Nat} (hS : SW c n w m b) (h : RW8 m' b' m b) : SW c n w m' b' := by
  obtain ⟨⟨a1, a2⟩, a3, a4, a5⟩ := hS
  exact ⟨⟨NN_R a1 a2 h, NW_R a2 h⟩, VV_R a3 a2 h, PP_R a4 a2 h, CL1_R a5 a2 h⟩
end
/-! both sides after a text that was read -/
theorem mhA_2 {m m' : gC} {b : Nat} (hV : NW m b) (h : ∀ j : Int, 0 ≤ j → j < 136 → (¬ j = 6) → (¬ j = 8) → m' b j = m b j) (a : Int) : mhA m' b a = mhA m b a := by
  have v1 := hV.1.2
  unfold mhA
  rw [h 1 (by decide) (by decide) (by decide) (by decide)]
  cases q : inr a 0 (2 * m b 1 - 1) with
  | false => rw [Bool.false_and, Bool.false_and]
  | true =>
    have := inr_t.mp q
    rw [h _ (by omega) (by omega) (by omega) (by omega)]
theorem begin_e {z m : gC} (hD : DNE z (mbeg1 200001 m)) (hV : NW m 200001) (hR : RG m) (hC : CLR m) : SW (beg (ncp z 100014 100002) 100014 100034) 100014 100034 (mbeg 200001 m) 200001 ∧ NMS (beg (ncp z 100014 100002) 100014 100034) 100014 (mbeg 200001 m) 200001 ∧ (0 ≤ mbeg 200001 m 200001 4 ∧ mbeg 200001 m 200001 4 ≤ 99) ∧ NDb (mbeg 200001 m) 200001 ∧ ∀ B : Int, 0 ≤ B → B ≤ 1500000000 → WR (beg (ncp z 100014 100002) 100014 100034) 100034 B ∧ WW (mbeg 200001 m) 200001 B := by
  obtain ⟨⟨a1, a2⟩, b1, b2, b3, b4, b5⟩ := hD
  have o1 := mbeg1_ok hR hV
  have V1 := o1.1.2
  have C1 : ∀ j : Int, ¬ j = 2 → mbeg1 200001 m 200001 j = m 200001 j := fun j hj => by
    unfold mbeg1
    split
    · exact gu_j hj
    · rfl
  have eD : mbeg 200001 m = itI (mbg3 200001) (mbeg2 200001 (mbeg1 200001 m)) 24 := rfl
  rw [eD]
  generalize hy : mbeg1 200001 m = y at *
  have o2 := mbeg2_ok o1.1.1 V1
  have V2 := o2.1.2
  have y2 : ∀ j : Int, ¬ j = 6 → ¬ j = 8 → mbeg2 200001 y 200001 j = y 200001 j := fun j h1 h2 => by unfold mbeg2; rw [gu_j h2, gu_j h1]
  have y6 : mbeg2 200001 y 200001 6 = y 200001 2 := by unfold mbeg2; rw [gu_j (by decide), gu_s]
  have y8 : mbeg2 200001 y 200001 8 = y 200001 3 := by unfold mbeg2; rw [gu_s]
  generalize hy2 : mbeg2 200001 y = x at *
  obtain ⟨v1, v2⟩ := mbg_v (b := 200001) (m := x)
  have o3 := mbgi_ok (b := 200001) (i := 24) o2.1.1 V2 (by decide)
  generalize hy3 : itI (mbg3 200001) x 24 = u at *
  have V3 := o3.1.2
  have lo : ∀ j : Int, 0 ≤ j → j < 136 → ¬ j = 6 → ¬ j = 8 → u 200001 j = y 200001 j := fun j j0 j1 h1 h2 => by rw [v1 j (Or.inl j1), y2 j h1 h2]
  have eA1 : ∀ a, mhA u 200001 a = mhA y 200001 a := mhA_2 V1 lo
  have hA2 : ∀ a, mhA x 200001 a = mhA y 200001 a := mhA_2 V1 fun j j0 j1 h1 h2 => y2 j h1 h2
  have w0 := V1.1.1
  have w1 := V1.1.2
  have E := ncp_eq (c := z) (k := 100014) (o := 100002) (Or.inr (by decide))
  have NNa := NEQ_NN E V1 a1
  have NMa := NEQ_NMS E V1 b1
  have e3 := E.1 3 (by decide) (by decide)
  have e4 := E.1 4 (by decide) (by decide)
  have e5 := E.1 5 (by decide) (by decide)
  generalize hz : ncp z 100014 100002 = d at *
  have kb : ∀ k : Nat, 100014 ≤ k → k < 100014 + 12 → ∀ j, beg d 100014 100034 k j = d k j := fun k k0 k1 j => congrFun (beg_k (Or.inl (by omega))) j
  obtain ⟨⟨g1, g2⟩, ⟨g3, g4⟩, ⟨g5, g6⟩, g7⟩ := beg_v (c := d) (n := 100014) (w := 100034)
  obtain ⟨f1, f2, f4⟩ := beg_124 (c := d) (n := 100014) (w := 100034)
  have NNu : NN (beg d 100014 100034) 100014 u 200001 := by
    obtain ⟨⟨⟨n1, n2⟩, n3, n4⟩, m1, m2, m3, m4⟩ := NNa
    refine ⟨?_, fun n n0 n1 => ?_, fun r r0 r1 => ?_, fun i i0 i1 => ?_, fun i i0 i1 => ?_⟩
    · rw [kb 100014 (by decide) (by decide), kb 100014 (by decide) (by decide), kb 100014 (by decide) (by decide), kb 100014 (by decide) (by decide), lo 0 (by decide) (by decide) (by decide) (by decide), lo 1 (by decide) (by decide) (by decide) (by decide), lo 2 (by decide) (by decide) (by decide) (by decide), lo 3 (by decide) (by decide) (by decide) (by decide)]
      exact ⟨⟨n1, n2⟩, n3, n4⟩
    · rw [lo 0 (by decide) (by decide) (by decide) (by decide)] at n1
      rw [kb (100014 + 2) (by decide) (by decide), kb (100014 + 3) (by decide) (by decide), lo _ (by omega) (by omega) (by omega) (by omega), lo _ (by omega) (by omega) (by omega) (by omega)]
      exact m1 n n0 n1
    · rw [lo 1 (by decide) (by decide) (by decide) (by decide)] at r1
      have e := m2 r r0 r1
      unfold NNr at e ⊢
      rw [kb (100014 + 5) (by decide) (by decide), kb (100014 + 6) (by decide) (by decide), kb (100014 + 7) (by decide) (by decide), kb (100014 + 8) (by decide) (by decide), kb (100014 + 9) (by decide) (by decide), kb 100014 (by decide) (by decide)]
      rw [lo (52 + 7 * r + 1) (by omega) (by omega) (by omega) (by omega), lo (52 + 7 * r + 2) (by omega) (by omega) (by omega) (by omega), lo (52 + 7 * r + 3) (by omega) (by omega) (by omega) (by omega), lo (52 + 7 * r + 4) (by omega) (by omega) (by omega) (by omega), lo (52 + 7 * r + 5) (by omega) (by omega) (by omega) (by omega), lo (52 + 7 * r + 6) (by omega) (by omega) (by omega) (by omega), lo 0 (by decide) (by decide) (by decide) (by decide)]
      exact e
    · rw [kb (100014 + 10) (by decide) (by decide), lo _ (by omega) (by omega) (by omega) (by omega)]; exact m3 i i0 i1
    · rw [kb (100014 + 11) (by decide) (by decide), lo _ (by omega) (by omega) (by omega) (by omega)]; exact m4 i i0 i1
  have CLu : CL1 u 200001 := fun a ha => by
    rw [eA1] at ha
    have hr := mhA_rg V1 ha
    have e := b2 a ha
    unfold mcl mln at e ⊢
    rw [lo _ (by omega) (by omega) (by omega) (by omega), lo _ (by omega) (by omega) (by omega) (by omega)]
    exact e
  obtain ⟨⟨⟨p5, p7⟩, p9, p10⟩, p18, p136⟩ := hC
  have u5 : u 200001 5 = 0 := by rw [lo 5 (by decide) (by decide) (by decide) (by decide), C1 5 (by decide)]; exact p5
  have u7 : u 200001 7 = -1 := by rw [lo 7 (by decide) (by decide) (by decide) (by decide), C1 7 (by decide)]; exact p7
  have u9 : u 200001 9 = 0 := by rw [lo 9 (by decide) (by decide) (by decide) (by decide), C1 9 (by decide)]; exact p9
  have u10 : u 200001 10 = 0 := by rw [lo 10 (by decide) (by decide) (by decide) (by decide), C1 10 (by decide)]; exact p10
  have u6 : u 200001 6 = y 200001 2 := by rw [v1 6 (Or.inl (by decide)), y6]
  have u8 : u 200001 8 = y 200001 3 := by rw [v1 8 (Or.inl (by decide)), y8]
  have u4 : u 200001 4 = y 200001 4 := lo 4 (by decide) (by decide) (by decide) (by decide)
  have u0 : u 200001 0 = y 200001 0 := lo 0 (by decide) (by decide) (by decide) (by decide)
  have u2 : u 200001 2 = y 200001 2 := lo 2 (by decide) (by decide) (by decide) (by decide)
  have VVu : VV (beg d 100014 100034) 100034 u 200001 := by
    refine ⟨⟨⟨?_, ?_⟩, ⟨?_, ?_⟩, ⟨?_, ?_⟩, ?_⟩, fun i i0 i1 => ?_, fun a ha => ?_⟩
    · rw [g1, u5]
    · rw [g2, u6, e3]; exact a1.1.2.1
    · rw [g3, u7]
    · rw [g4 (by decide), u8, e4]; exact a1.1.2.2
    · rw [g5, u9]
    · rw [g6, u10]
    · rw [g7 (by decide), u4, e5]; exact a2
    · rw [f1 i i0 i1, lo _ (by omega) (by omega) (by omega) (by omega), C1 _ (by omega), p18 i i0 i1]
    · have hr := mhA_rg V3 ha
      rw [eA1] at ha
      have q0 : ∀ j : Int, 136 ≤ j → j < 208 → x 200001 j = 0 := fun j j0 j1 => by rw [y2 j (by omega) (by omega), C1 j (by omega)]; exact p136 j j0 j1
      refine ⟨?_, ?_, ?_⟩
      · rw [f2 a hr.1 hr.2, v1 _ (Or.inr fun i i0 i1 => by omega), q0 _ (by omega) (by omega)]
      · have h1 := NN_hA NNa a
        rw [beg_3 hr.1 hr.2, if_pos (by rw [h1]; exact ha), v2 a hr.1 hr.2, if_pos (by rw [hA2]; exact ha), y2 _ (by omega) (by omega)]
        have hh := (NN_r NNa V1 ha).2.2
        exact hh.2.2.1.1
      · rw [f4 a hr.1 hr.2, v1 _ (Or.inr fun i i0 i1 => by omega), q0 _ (by omega) (by omega)]
  have PPu : PP u 200001 := by
    refine ⟨Or.inl u7, ?_⟩
    rw [u0, u6, u2]
    rcases b3 with e | e
    · exact Or.inl ⟨e.1, ⟨e.2.1, e.2.2⟩, e.2.1, e.2.2⟩
    · exact Or.inr ⟨e.1, e.2, e.2⟩
  refine ⟨⟨⟨NNu, V3⟩, VVu, PPu, CLu⟩, ⟨fun n n0 n1 => ?_, fun r r0 r1 => ?_⟩, ?_, NDb_v b5 fun j j0 j1 => lo j (by omega) j1 (by omega) (by omega), fun B B0 B1 => ⟨?_, ?_⟩⟩
  · rw [u0] at n1
    rw [kb (100014 + 1) (by decide) (by decide), lo _ (by omega) (by omega) (by omega) (by omega)]; exact NMa.1 n n0 n1
  · rw [lo 1 (by decide) (by decide) (by decide) (by decide)] at r1
    rw [kb (100014 + 4) (by decide) (by decide), lo _ (by omega) (by omega) (by omega) (by omega), lo _ (by omega) (by omega) (by omega) (by omega), lo _ (by omega) (by omega) (by omega) (by omega)]; exact NMa.2 r r0 r1
  · rw [u4]; exact b4
  · have V12 := V1.2.1
    have hcap := a1.1.2
    unfold WR
    rw [g1, g2, g3, g4 (by decide), g5, g6, g7 (by decide), e3, e4, e5, hcap.1, hcap.2, a2]
    refine ⟨⟨B0, B1⟩, ⟨by decide, B0⟩, V12.1, ⟨by decide, by decide⟩, V12.2, ⟨by decide, B0⟩, ⟨by decide, B0⟩, b4, fun i i0 i1 => ?_, fun i i0 i1 => ?_⟩
    · rw [f1 i i0 i1]; exact ⟨by decide, B0⟩
    · rw [f2 i i0 i1, f4 i i0 i1, beg_3 i0 i1]
      refine ⟨⟨by decide, B0⟩, ?_, ⟨by decide, by omega⟩⟩
      by_cases q : hA d 100014 i = true
      · rw [if_pos q]
        have ha : mhA y 200001 i = true := by rw [← NN_hA NNa i]; exact q
        have hr := NN_r NNa V1 ha
        have h6 := (NMa.2 _ hr.2.1.1 hr.2.1.2).2.1
        rw [hr.2.2.2.2.1.1]
        omega
      · rw [if_neg q]; decide
  · have V12 := V1.2.1
    unfold WW
    rw [u4, u5, u6, u7, u8, u9, u10]
    refine ⟨⟨⟨B0, B1⟩, b4⟩, ⟨⟨by decide, B0⟩, V12.1⟩, ⟨⟨by decide, by decide⟩, V12.2⟩, ⟨⟨by decide, B0⟩, by decide, B0⟩, fun i i0 i1 => ?_, fun i i0 i1 => ?_⟩
    · rw [lo _ (by omega) (by omega) (by omega) (by omega), C1 _ (by omega), p18 i i0 i1]; exact ⟨by decide, B0⟩
    · have q0 : ∀ j : Int, 136 ≤ j → j < 208 → x 200001 j = 0 := fun j j0 j1 => by rw [y2 j (by omega) (by omega), C1 j (by omega)]; exact p136 j j0 j1
      rw [v1 (136 + 3 * i + 1) (Or.inr fun k k0 k1 => by omega), v1 (136 + 3 * i + 2) (Or.inr fun k k0 k1 => by omega), q0 _ (by omega) (by omega), q0 _ (by omega) (by omega), v2 i i0 i1]
      refine ⟨?_, ⟨by decide, by omega⟩, by decide, B0⟩
      by_cases q : mhA x 200001 i = true
      · rw [if_pos q]
        have ha : mhA y 200001 i = true := by rw [← hA2]; exact q
        have hr := NN_r NNa V1 ha
        have h6 := (NMa.2 _ hr.2.1.1 hr.2.1.2).2.1
        rw [y2 _ (by omega) (by omega)]
        omega
      · rw [if_neg q, q0 _ (by omega) (by omega)]; decide
/-- a new network and its world stand at both sides -/
theorem load_SW {x z y : gC} (hx : DN x y) (hz : NF (prd x) z 100002) (hV : NW y 200001) (hR : RG y) (hC : CLR y) {v : Int} : SW (beg (ncp (gu z 100002 0 v) 100014 100002) 100014 100034) 100014 100034 (gcp (rem (mbeg 200001 y)) 200001 200000 0 0 208) 200000 ∧ NMS (beg (ncp (gu z 100002 0 v) 100014 100002) 100014 100034) 100014 (gcp (rem (mbeg 200001 y)) 200001 200000 0 0 208) 200000 ∧ (0 ≤ gcp (rem (mbeg 200001 y)) 200001 200000 0 0 208 200000 4 ∧ gcp (rem (mbeg 200001 y)) 200001 200000 0 0 208 200000 4 ≤ 99) ∧ NDb (gcp (rem (mbeg 200001 y)) 200001 200000 0 0 208) 200000 ∧ ∀ B : Int, 0 ≤ B → B ≤ 1500000000 → WR (beg (ncp (gu z 100002 0 v) 100014 100002) 100014 100034) 100034 B ∧ WW (gcp (rem (mbeg 200001 y)) 200001 200000 0 0 208) 200000 B := by
  have h1 := DN_end hx hV
  have o1 := mbeg1_ok hR hV
  have h2 : DNE (gu z 100002 0 v) (mbeg1 200001 y) := by
    obtain ⟨⟨a1, a2⟩, b1, b2, b3, b4, b5⟩ := h1
    have a1' := NN_o a1 o1.1.2 hz rfl
    refine ⟨⟨?_, ?_⟩, ?_, b2, b3, b4, b5⟩
    · unfold NN NNr at a1' ⊢
      simp (disch := decide) only [gu_j, gu_k]
      exact a1'
    · rw [gu_j (by decide), hz 100002 (by decide) (by decide)]; exact a2
    · have n1 := NMS_o b1 hz rfl
      unfold NMS at n1 ⊢
      simp (disch := decide) only [gu_k]
      exact n1
  obtain ⟨s1, s2, s3, s4, s5⟩ := begin_e h2 hV hR hC
  have e1 : rem (mbeg 200001 y) 200001 = mbeg 200001 y 200001 := rem_o (by decide) (by decide)
  have r1 : RW8 (gcp (rem (mbeg 200001 y)) 200001 200000 0 0 208) 200000 (mbeg 200001 y) 200001 := fun j j0 j1 => by rw [gcp_in j0 j1, e1]
  refine ⟨SW_R s1 r1, NMS_R s2 s1.1.2 r1, ?_, NDb_v s4 fun j j0 j1 => r1 j (by omega) (by omega), fun B B0 B1 => ⟨(s5 B B0 B1).1, WW_R (s5 B B0 B1).2 r1⟩⟩
  rw [r1 4 (by decide) (by decide)]
  exact s3
