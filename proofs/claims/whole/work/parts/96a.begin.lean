/-! a text has been read: both sides take the new network and begin its world -/
theorem NEQ_tb {c c' : gC} {k o : Nat} (h : NEQ c' k c o) (r : Int) : tb (c' k 6) r = tb (c o 6) r := by rw [h.1 6 (by decide) (by decide)]
theorem NEQ_NN {c c' m : gC} {k o b : Nat} (h : NEQ c' k c o) (hV : NW m b) (hN : NN c o m b) : NN c' k m b := by
  obtain ⟨h0, h1, h2, h3, h4, h5, h6, h7, h8, h9, h10, h11⟩ := h
  obtain ⟨⟨⟨a1, a2⟩, a3, a4⟩, b1, b2, b3, b4⟩ := hN
  have v0 := hV.1.1
  have v1 := hV.1.2
  refine ⟨⟨⟨?_, ?_⟩, ?_, ?_⟩, fun n n0 n1 => ?_, fun r r0 r1 => ?_, fun i i0 i1 => ?_, fun i i0 i1 => ?_⟩
  · rw [h0 1 (by decide) (by decide)]; exact a1
  · rw [h0 2 (by decide) (by decide)]; exact a2
  · rw [h0 3 (by decide) (by decide)]; exact a3
  · rw [h0 4 (by decide) (by decide)]; exact a4
  · rw [h2 n n0 (by omega), h3 n n0 (by omega)]; exact b1 n n0 n1
  · have e := b2 r r0 r1
    unfold NNr at e ⊢
    rw [h5 r r0 (by omega), h6 r r0 (by omega), h7 r r0 (by omega), h8 r r0 (by omega), h9 r r0 (by omega), h0 6 (by decide) (by decide)]
    exact e
  · rw [h10 i i0 i1]; exact b3 i i0 i1
  · rw [h11 i i0 i1]; exact b4 i i0 i1
/-- names and the like, kept as long as the network is -/
def NMS (c : gC) (k : Nat) (m : gC) (b : Nat) : Prop := (∀ n, 0 ≤ n → n < m b 0 → NMR (c (k + 1) n) (m b (22 + 3 * n))) ∧ ∀ r, 0 ≤ r → r < m b 1 → NMR (c (k + 4) r) (m b (52 + 7 * r)) ∧ (0 ≤ m b (52 + 7 * r + 6) ∧ m b (52 + 7 * r + 6) ≤ 999) ∧ (m b (52 + 7 * r + 5) = 0 ∨ m b (52 + 7 * r + 5) = 1)
theorem NEQ_NMS {c c' m : gC} {k o b : Nat} (h : NEQ c' k c o) (hV : NW m b) (hN : NMS c o m b) : NMS c' k m b := by
  obtain ⟨h0, h1, h2, h3, h4, h5, h6, h7, h8, h9, h10, h11⟩ := h
  have v0 := hV.1.1
  have v1 := hV.1.2
  refine ⟨fun n n0 n1 => ?_, fun r r0 r1 => ?_⟩
  · rw [h1 n n0 (by omega)]; exact hN.1 n n0 n1
  · rw [h4 r r0 (by omega)]; exact hN.2 r r0 r1
theorem NMS_o {c c' m m' : gC} {k b : Nat} (h : NMS c k m b) (h1 : NF c c' k) (e : m' b = m b) : NMS c' k m' b := by
  refine ⟨fun n n0 n1 => ?_, fun r r0 r1 => ?_⟩
  · rw [e] at n1 ⊢
    rw [h1 (k + 1) (by omega) (by omega)]; exact h.1 n n0 n1
  · rw [e] at r1 ⊢
    rw [h1 (k + 4) (by omega) (by omega)]; exact h.2 r r0 r1
/-- names and snow within their bounds, in every place -/
def NDb (m : gC) (b : Nat) : Prop := (∀ n : Int, 0 ≤ n → n < 10 → 0 ≤ m b (22 + 3 * n) ∧ m b (22 + 3 * n) < 387420489) ∧ ∀ r : Int, 0 ≤ r → r < 12 → (0 ≤ m b (52 + 7 * r + 0) ∧ m b (52 + 7 * r + 0) < 387420489) ∧ (0 ≤ m b (52 + 7 * r + 6) ∧ m b (52 + 7 * r + 6) ≤ 999)
theorem NDb_ND {m : gC} (h : NDb m 200000) : ND m := h
theorem NDb_v {m m' : gC} {b b' : Nat} (h : NDb m b) (e : ∀ j : Int, 22 ≤ j → j < 136 → m' b' j = m b j) : NDb m' b' := by
  refine ⟨fun n n0 n1 => ?_, fun r r0 r1 => ?_⟩
  · rw [e _ (by omega) (by omega)]; exact h.1 n n0 n1
  · rw [e _ (by omega) (by omega), e _ (by omega) (by omega)]; exact h.2 r r0 r1
theorem DN_NDb {c m : gC} (h : DN c m) (hV : NW m 200001) : NDb m 200001 := by
  obtain ⟨-, b1, b2, b3, -, -, b6, b7⟩ := h
  refine ⟨fun n n0 n1 => ?_, fun r r0 r1 => ?_⟩
  · by_cases q : n < m 200001 0
    · have := (NMR_rg (b1 n n0 q)).2; omega
    · rw [b6 n (by omega) n1]; decide
  · rw [Int.add_zero]
    by_cases q : r < m 200001 1
    · have e := b2 r r0 q
      have := (NMR_rg e.1).2
      refine ⟨by omega, e.2.2.2.1⟩
    · rw [b7 r (by omega) r1, (b3 r (by omega) r1).2]; decide
theorem NN_b {c m m' : gC} {k b b' : Nat} (h : NN c k m b) (e : m' b' = m b) : NN c k m' b' := by
  unfold NN NNr at h ⊢
  rw [e]
  exact h
theorem VV_b {c m m' : gC} {w b b' : Nat} (h : VV c w m b) (e : m' b' = m b) : VV c w m' b' := by
  unfold VV mhA at h ⊢
  rw [e]
  exact h
theorem NMS_b {c m m' : gC} {k b b' : Nat} (h : NMS c k m b) (e : m' b' = m b) : NMS c k m' b' := by
  unfold NMS at h ⊢
  rw [e]
  exact h
theorem gcp_row {c : gC} {k q : Nat} (hc : ∀ j : Int, j < 0 ∨ 208 ≤ j → c q j = c k j) : gcp c k q 0 0 208 q = c k := by
  funext j
  unfold gcp
  by_cases e : 0 ≤ j ∧ j < 208
  · rw [if_pos ⟨rfl, e.1, by omega⟩]
    congr 1
    omega
  · rw [if_neg (by omega)]
    exact hc j (by omega)
/-- the world as it begins, of the class -/
theorem beg_w {c : gC} {n w : Nat} {j : Int} : beg c n w w j = beg0 c n w w j := by
  unfold beg
  exact bgi_k (by omega)
theorem beg_3 {c : gC} {n w : Nat} {a : Int} (h0 : 0 ≤ a) (h1 : a < 24) : beg c n w (w + 3) a = if hA c n a = true then c (n + 9) (a / 2) else 0 := by
  unfold beg
  have key := itI_inv3 (f := bgf c n w) (x := beg0 c n w) (fun (i : Int) (m : gC) => ∀ a, 0 ≤ a → a < i → m (w + 3) a = if hA c n a = true then c (n + 9) (a / 2) else 0) (N := 24) (fun a a0 a1 => by omega) (fun j s j0 j1 hs a a0 a1 => by
    unfold bgf
    by_cases e : a = j
    · rw [e, gu_s]
    · rw [gu_j e]; exact hs a a0 (by omega)) (k := 24) (by decide) (by decide)
  exact key a h0 h1
theorem beg_v {c : gC} {n w : Nat} : (beg c n w w 1 = 0 ∧ beg c n w w 2 = c n 3) ∧ (beg c n w w 3 = -1 ∧ (¬ n = w → beg c n w w 4 = c n 4)) ∧ (beg c n w w 5 = 0 ∧ beg c n w w 6 = 0) ∧ (¬ n = w → beg c n w w 7 = c n 5) := by
  rw [beg_w, beg_w, beg_w, beg_w, beg_w, beg_w, beg_w]
  unfold beg0
  refine ⟨⟨?_, ?_⟩, ⟨?_, fun h => ?_⟩, ⟨?_, ?_⟩, fun h => ?_⟩
  all_goals simp (disch := omega) only [gu_k, gu_j, gu_s, fl_k]
theorem beg_124 {c : gC} {n w : Nat} : (∀ i, 0 ≤ i → i < 4 → beg c n w (w + 1) i = 0) ∧ (∀ a, 0 ≤ a → a < 24 → beg c n w (w + 2) a = 0) ∧ ∀ a, 0 ≤ a → a < 24 → beg c n w (w + 4) a = 0 := by
  unfold beg
  refine ⟨fun i i0 i1 => ?_, fun i i0 i1 => ?_, fun i i0 i1 => ?_⟩
  · rw [bgi_k (by omega)]
    unfold beg0
    rw [fl_k (by omega), fl_k (by omega), fl_a (by omega)]
  · rw [bgi_k (by omega)]
    unfold beg0
    rw [fl_k (by omega), fl_a (by omega)]
  · rw [bgi_k (by omega)]
    unfold beg0
    rw [fl_a (by omega)]
theorem beg_k {c : gC} {n w k : Nat} (h : k < w ∨ w + 5 ≤ k) : beg c n w k = c k := by
  funext j
  unfold beg
  rw [bgi_k (by omega), beg0_k h]
/-- the world as it begins, of the reference -/
theorem mbg_v {b : Nat} {m : gC} : (∀ j : Int, j < 136 ∨ (∀ a, 0 ≤ a → a < 24 → ¬ j = 136 + 3 * a) → itI (mbg3 b) m 24 b j = m b j) ∧ ∀ a, 0 ≤ a → a < 24 → itI (mbg3 b) m 24 b (136 + 3 * a) = if mhA m b a = true then m b (52 + 7 * (a / 2) + 6) else m b (136 + 3 * a) := by
  have key := itI_inv3 (f := mbg3 b) (x := m) (fun (i : Int) (s : gC) => (∀ j : Int, j < 136 ∨ (∀ a, 0 ≤ a → a < 24 → ¬ j = 136 + 3 * a) → s b j = m b j) ∧ (∀ a, 0 ≤ a → a < i → s b (136 + 3 * a) = if mhA m b a = true then m b (52 + 7 * (a / 2) + 6) else m b (136 + 3 * a)) ∧ ∀ a, i ≤ a → s b (136 + 3 * a) = m b (136 + 3 * a)) (N := 24) ⟨fun _ _ => rfl, fun a a0 a1 => by omega, fun _ _ => rfl⟩ (fun i s i0 i1 hs => by
    obtain ⟨h1, h2, h3⟩ := hs
    have eA : mhA s b i = mhA m b i := by
      unfold mhA
      rw [h1 1 (Or.inl (by omega)), h1 (52 + 7 * (i / 2) + 5) (Or.inl (by omega))]
    have e6 : s b (52 + 7 * (i / 2) + 6) = m b (52 + 7 * (i / 2) + 6) := h1 _ (Or.inl (by omega))
    cases q : mhA m b i with
    | true =>
      rw [mbg3_t (by rw [eA]; exact q), e6]
      refine ⟨fun j hj => ?_, fun a a0 a1 => ?_, fun a a0 => ?_⟩
      · rw [gu_j (by rcases hj with hj | hj; · omega
                     · have := hj i i0 i1; omega)]
        exact h1 j hj
      · by_cases e : a = i
        · rw [e, q, if_pos rfl, show 136 + 3 * i + 0 = 136 + 3 * i by omega, gu_s]
        · rw [gu_j (by omega)]; exact h2 a a0 (by omega)
      · rw [gu_j (by omega)]; exact h3 a (by omega)
    | false =>
      rw [mbg3_f (by rw [eA]; exact q)]
      refine ⟨h1, fun a a0 a1 => ?_, fun a a0 => h3 a (by omega)⟩
      by_cases e : a = i
      · rw [e, q, if_neg (by decide)]; exact h3 i (Int.le_refl _)
      · exact h2 a a0 (by omega)) (k := 24) (by decide) (by decide)
  exact ⟨key.1, key.2.1⟩
/-- the network under way as it ends: its depot is set -/
def DNE (c m : gC) : Prop := (NN c 100002 m 200001 ∧ c 100002 5 = m 200001 4) ∧ NMS c 100002 m 200001 ∧ CL1 m 200001 ∧ ((0 < m 200001 0 ∧ 0 ≤ m 200001 2 ∧ m 200001 2 < m 200001 0) ∨ (m 200001 0 = 0 ∧ m 200001 2 = -1)) ∧ (0 ≤ m 200001 4 ∧ m 200001 4 ≤ 99) ∧ NDb m 200001
theorem DN_end {c m : gC} (h : DN c m) (hV : NW m 200001) : DNE (prd c) (mbeg1 200001 m) := by
  have nd := DN_NDb h hV
  obtain ⟨⟨a1, a2⟩, b1, b2, b3, b4, b5, -⟩ := h
  have a1' := a1
  obtain ⟨⟨⟨n1, n2⟩, n3, n4⟩, n5⟩ := a1
  have v0 := hV.1.1
  have nms : NMS c 100002 m 200001 := ⟨b1, fun r r0 r1 => ⟨(b2 r r0 r1).1, (b2 r r0 r1).2.2.2.1, (b2 r r0 r1).2.2.2.2⟩⟩
  have cl : CL1 m 200001 := fun a ha => by
    have hr := mhA_rg hV ha
    have h2 : 0 ≤ a / 2 ∧ a / 2 < m 200001 1 := by
      unfold mhA at ha
      rw [Bool.and_eq_true] at ha
      have := inr_t.mp ha.1
      omega
    have e := b2 _ h2.1 h2.2
    unfold mcl mln
    exact ⟨e.2.2.1, e.2.1⟩
  by_cases q : m 200001 2 = -1 ∧ 0 < m 200001 0
  · have e1 : prd c = gu c 100002 3 0 := if_pos (by rw [n3, n1]; exact q)
    have e2 : mbeg1 200001 m = gu m 200001 2 0 := if_pos q
    rw [e1, e2]
    have g : ∀ j : Int, ¬ j = 2 → gu m 200001 2 0 200001 j = m 200001 j := fun j hj => gu_j hj
    have gk : ∀ k : Nat, ¬ k = 100002 → gu c 100002 3 0 k = c k := fun k hk => funext fun j => gu_k hk
    have gj : ∀ j : Int, ¬ j = 3 → gu c 100002 3 0 100002 j = c 100002 j := fun j hj => gu_j hj
    refine ⟨⟨⟨⟨⟨?_, ?_⟩, ?_, ?_⟩, fun n n0 n1 => ?_, fun r r0 r1 => ?_, fun i i0 i1 => ?_, fun i i0 i1 => ?_⟩, ?_⟩, ⟨fun n n0 n1 => ?_, fun r r0 r1 => ?_⟩, fun a ha => ?_, Or.inl ?_, ?_, NDb_v nd fun j j0 j1 => g j (by omega)⟩
    · rw [gj _ (by decide), g 0 (by decide)]; exact n1
    · rw [gj _ (by decide), g 1 (by decide)]; exact n2
    · rw [gu_s, gu_s]
    · rw [gj _ (by decide), g 3 (by decide)]; exact n4
    · rw [g 0 (by decide)] at n1
      rw [gk _ (by decide), gk _ (by decide), g _ (by omega), g _ (by omega)]
      exact a1'.2.1 n n0 n1
    · rw [g 1 (by decide)] at r1
      have e := a1'.2.2.1 r r0 r1
      unfold NNr at e ⊢
      rw [gk _ (by decide), gk _ (by decide), gk _ (by decide), gk _ (by decide), gk _ (by decide), gj _ (by decide), g _ (by omega), g _ (by omega), g _ (by omega), g _ (by omega), g _ (by omega), g _ (by omega), g 0 (by decide)]
      exact e
    · rw [gk _ (by decide), g _ (by omega)]; exact a1'.2.2.2.1 i i0 i1
    · rw [gk _ (by decide), g _ (by omega)]; exact a1'.2.2.2.2 i i0 i1
    · rw [gj _ (by decide), g 4 (by decide)]; exact a2
    · rw [g 0 (by decide)] at n1
      rw [gk _ (by decide), g _ (by omega)]; exact b1 n n0 n1
    · rw [g 1 (by decide)] at r1
      rw [gk _ (by decide), g _ (by omega), g _ (by omega), g _ (by omega)]
      exact nms.2 r r0 r1
    · have eA : mhA (gu m 200001 2 0) 200001 a = mhA m 200001 a := by
        unfold mhA
        rw [g 1 (by decide)]
        by_cases x : 52 + 7 * (a / 2) + 5 = 2
        · have : inr a 0 (2 * m 200001 1 - 1) = false := by
            unfold inr
            rw [decide_eq_false (show ¬ 0 ≤ a by omega)]
            rfl
          rw [this, Bool.false_and, Bool.false_and]
        · rw [g _ x]
      rw [eA] at ha
      have e := cl a ha
      have hr := mhA_rg hV ha
      unfold mcl mln at e ⊢
      rw [g _ (by omega), g _ (by omega)]
      exact e
    · rw [g 0 (by decide), gu_s]
      have := q.2
      omega
    · rw [g 4 (by decide)]; exact b5
  · have e1 : prd c = c := if_neg (by rw [n3, n1]; exact q)
    have e2 : mbeg1 200001 m = m := if_neg q
    rw [e1, e2]
    refine ⟨⟨a1', a2⟩, nms, cl, ?_, b5, nd⟩
    rcases b4 with e | e
    · right
      omega
    · left
      omega
/-- the clear places of the draft -/
def CLR (m : gC) : Prop := ((m 200001 5 = 0 ∧ m 200001 7 = -1) ∧ m 200001 9 = 0 ∧ m 200001 10 = 0) ∧ (∀ i, 0 ≤ i → i < 4 → m 200001 (18 + i) = 0) ∧ ∀ j, 136 ≤ j → j < 208 → m 200001 j = 0
theorem CLR_ld {m : gC} (h : MIn m) : CLR (mlop 1201 200001 (ld1 m)) := by
  have hX := (MX_lo (n := 1201) (b := 200001) (by decide) (MX_rf (ld1_MP h))).2.1
  have e : ld1 m 200001 = mclr (ld0 m) 200001 200001 := by
    unfold ld1
    exact (mad_ok (b := 200001) (ld0_MI h)).2.2 _ (by decide)
  have v : ∀ j : Int, 0 ≤ j ∧ j < 208 → ld1 m 200001 j = mclr (ld0 m) 200001 200001 j := fun j hj => by rw [e]
  refine ⟨⟨⟨?_, ?_⟩, ?_, ?_⟩, fun i i0 i1 => ?_, fun j j0 j1 => ?_⟩
  · rw [hX 5 (by omega), v 5 (by omega), mclr_v (by omega)]; rfl
  · rw [hX 7 (by omega), v 7 (by omega), mclr_v (by omega)]; rfl
  · rw [hX 9 (by omega), v 9 (by omega), mclr_v (by omega)]; rfl
  · rw [hX 10 (by omega), v 10 (by omega), mclr_v (by omega)]; rfl
  · rw [hX (18 + i) (by omega), v (18 + i) (by omega)]
    exact mclr_0 (by omega) (by omega)
  · rw [hX j (by omega), v j (by omega)]
    exact mclr_0 (by omega) (by omega)
