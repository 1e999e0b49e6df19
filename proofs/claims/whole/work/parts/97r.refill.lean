/-! the law's case: refilling -/
theorem IV_83 {n L : Nat} {T : gT} {c : gC} (h : IV n L T c) : c 200000 8 ≤ c 200000 3 := by
  obtain ⟨⟨G, Lo, R, Z, -, -, -, ⟨⟨-, ⟨⟨-, a⟩, -⟩, -⟩, -⟩, -⟩, -⟩ := h
  exact a
def RFl (T : gT) (c J : gC) : (Int ⊕ Nat) → gT → gC → gC → Prop := fun r T1 c1 J1 => ((¬ (c 100014 1 = 0 ∨ ¬ c 100034 2 = c 100014 3) ∧ r = .inl (c 100014 4 - c 100034 4)) ∧ ((c 100014 4 - c 100034 4 ≤ 0 ∧ T1 = T ∧ c1 = c ∧ J1 = J) ∨ (¬ c 100014 4 - c 100034 4 ≤ 0 ∧ ∃ d, KP T c J T1 d J1 ∧ c1 = gu d 100034 4 (c 100014 4)))) ∨ ((c 100014 1 = 0 ∨ ¬ c 100034 2 = c 100014 3) ∧ r = .inr 0 ∧ T1 = gTt T ∧ c1 = c ∧ J1 = J)
theorem refill_c {n L : Nat} {T : gT} {c J : gC} (h : IV n L T c) (hn : n < 900) : gE 5 150 6 [.ref 500000] (gm T c J) (gP (RFl T c J)) := by
  have rg := IV_RG h
  have fx := IV_fx h hn
  have hout := IV_out h
  have hR := (IV_WR h).1
  have hcap : 0 ≤ c 100014 4 ∧ c 100014 4 ≤ 9999 := by rw [(IV_NN h).1.2.2]; exact (IV_NW h).2.1.2
  have b4 := hR.2.2.2.2.1
  refine gE_mono (c_x_refill (IV_XT h) (IV_NT h) rg (IV_NR h) (IV_WT h).1 (IV_WT h).2 hR (IV_HR h) hcap) fun o M1 q => ?_
  rcases q with ⟨a, rfl, rfl⟩ | ⟨a, b, rfl, rfl⟩ | ⟨a, b, T1, c1, J1, kp, rfl, rfl⟩
  · exact ⟨gTt T, c, J, rfl, Or.inr ⟨0, rfl, fx.1, Or.inr ⟨a, rfl, rfl, rfl, rfl⟩⟩⟩
  · exact ⟨T, c, J, rfl, Or.inl ⟨_, rfl, by omega, hout, Or.inl ⟨⟨a, rfl⟩, Or.inl ⟨b, rfl, rfl, rfl⟩⟩⟩⟩
  · refine ⟨T1, _, J1, rfl, Or.inl ⟨_, rfl, by omega, ?_, Or.inl ⟨⟨a, rfl⟩, Or.inr ⟨b, c1, kp, rfl⟩⟩⟩⟩
    rw [KP_T kp (by decide) (by decide)]
    exact hout
theorem refill_LV {n : Nat} {G : Int → gC} {Lo : Int} {c c3 : gC} (hn : n ≤ 900) (h : LV G (700000 * (n : Int)) Lo c 100014 100034 c 200000) (e1 : NF c c3 100014) (e2 : ∀ k : Nat, 100035 ≤ k → k < 100039 → c3 k = c k) (e3 : ∀ j, ¬ j = 4 → c3 100034 j = c 100034 j) (e4 : c3 100034 4 = c 100014 4) (e5 : ∀ j, ¬ j = 8 → c3 200000 j = c 200000 j) (e6 : c3 200000 8 = c 200000 3) : LV G (700000 * ((n + 1 : Nat) : Int)) Lo c3 100014 100034 c3 200000 := by
  have h0 := h
  obtain ⟨⟨⟨⟨a1, a2⟩, a3, a4, a5⟩, b1⟩, ⟨d1, d2⟩, ⟨f1, f2, f3⟩, g1⟩ := h
  have na : NA c c3 200000 := fun j hj => e5 j (by omega)
  have hA : ∀ a, mhA c3 200000 a = mhA c 200000 a := fun a => mhA_n na a2
  have cap := a1.1.2.2
  have capr := a2.2.1.2
  refine LV_w h0 e1 na (by rw [e5 4 (by decide), e6, e5 3 (by decide)]; exact ⟨d1.1, Int.le_refl _⟩) ⟨⟨⟨?_, ?_⟩, ⟨?_, ?_⟩, ⟨?_, ?_⟩, ?_⟩, fun i i0 i1 => ?_, fun a ha => ?_⟩ ⟨?_, ?_⟩ ?_ ?_
  · rw [e3 1 (by decide), e5 5 (by decide)]; exact a3.1.1.1
  · rw [e3 2 (by decide), e5 6 (by decide)]; exact a3.1.1.2
  · rw [e3 3 (by decide), e5 7 (by decide)]; exact a3.1.2.1.1
  · rw [e4, e6]; exact cap
  · rw [e3 5 (by decide), e5 9 (by decide)]; exact a3.1.2.2.1.1
  · rw [e3 6 (by decide), e5 10 (by decide)]; exact a3.1.2.2.1.2
  · rw [e3 7 (by decide), e5 4 (by decide)]; exact a3.1.2.2.2
  · rw [e2 (100034 + 1) (by decide) (by decide), e5 _ (by omega)]; exact a3.2.1 i i0 i1
  · rw [hA] at ha
    have hr := mhA_rg a2 ha
    rw [e2 (100034 + 2) (by decide) (by decide), e2 (100034 + 3) (by decide) (by decide), e2 (100034 + 4) (by decide) (by decide), e5 _ (by omega), e5 _ (by omega), e5 _ (by omega)]
    exact a3.2.2 a ha
  · rw [e5 7 (by decide), e5 6 (by decide), hA]
    rcases a4.1 with q | q
    · exact Or.inl q
    · exact Or.inr ⟨q.1, by rw [men_n na (mhA_rg a2 q.1)]; exact q.2⟩
  · rw [e5 0 (by decide), e5 2 (by decide), e5 6 (by decide)]; exact a4.2
  · have f2' := WR_mono f2 (show 700000 * (n : Int) ≤ 700000 * ((n + 1 : Nat) : Int) by omega) (by omega)
    obtain ⟨w0, w1, w2, w3, w4, w5, w6, w7, w8, w9⟩ := f2'
    unfold WR
    rw [e4, e3 1 (by decide), e3 2 (by decide), e3 3 (by decide), e3 5 (by decide), e3 6 (by decide), e3 7 (by decide), e2 (100034 + 1) (by decide) (by decide), e2 (100034 + 2) (by decide) (by decide), e2 (100034 + 3) (by decide) (by decide), e2 (100034 + 4) (by decide) (by decide), cap]
    exact ⟨w0, w1, w2, w3, capr, w5, w6, w7, w8, w9⟩
  · have f3' := WW_mono f3 (show 700000 * (n : Int) ≤ 700000 * ((n + 1 : Nat) : Int) by omega) (by omega)
    obtain ⟨⟨w1, w2⟩, ⟨w3, w4⟩, ⟨w5, w6⟩, ⟨w7, w8⟩, w9, w10⟩ := f3'
    unfold WW
    rw [e5 4 (by decide), e6, e5 5 (by decide), e5 6 (by decide), e5 7 (by decide), e5 9 (by decide), e5 10 (by decide)]
    refine ⟨⟨w1, w2⟩, ⟨w3, w4⟩, ⟨w5, capr⟩, ⟨w7, w8⟩, fun i i0 i1 => ?_, fun i i0 i1 => ?_⟩
    · rw [e5 _ (by omega)]; exact w9 i i0 i1
    · rw [e5 _ (by omega), e5 _ (by omega), e5 _ (by omega)]; exact w10 i i0 i1
