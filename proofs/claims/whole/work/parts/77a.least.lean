/-! least costs: the class's tables -/
/-- the tables fit the network -/
def TBL (c m : gC) (b : Nat) : Prop := STP c m ∧ ∀ s, I24 s → (mhA c b s = true → RowOK c b s (fun j => m 100028 (s * 34 + j))) ∧ (mhA c b s = false → ∀ j, 0 ≤ j → j < 34 → m 100028 (s * 34 + j) = 100000000)
theorem rf2_s {c m : gC} {b : Nat} (h : NN c 100014 c b) (hV : NW c b) (hS : STP c m) (h0 : ∀ j, 0 ≤ j → j < 816 → m 100028 j = 100000000) {i : Int} (i0 : 0 ≤ i) (i1 : i ≤ 24) : (∀ k : Nat, ¬ k = 100028 → itI rf2 m i k = m k) ∧ (∀ s, I24 s → s < i → (mhA c b s = true → RowOK c b s (fun j => itI rf2 m i 100028 (s * 34 + j))) ∧ (mhA c b s = false → ∀ j, 0 ≤ j → j < 34 → itI rf2 m i 100028 (s * 34 + j) = 100000000)) ∧ ∀ j, i * 34 ≤ j → j < 816 → itI rf2 m i 100028 j = 100000000 := by
  refine itI_inv3 (fun i (x : gC) => (∀ k : Nat, ¬ k = 100028 → x k = m k) ∧ (∀ s, I24 s → s < i → (mhA c b s = true → RowOK c b s (fun j => x 100028 (s * 34 + j))) ∧ (mhA c b s = false → ∀ j, 0 ≤ j → j < 34 → x 100028 (s * 34 + j) = 100000000)) ∧ ∀ j, i * 34 ≤ j → j < 816 → x 100028 j = 100000000) (N := i) ⟨fun _ _ => rfl, fun s hs a => by unfold I24 at hs; omega, fun j a d => h0 j (by omega) d⟩ (fun k x k0 k1 hx => ?_) i0 (Int.le_refl _)
  obtain ⟨x1, x2, x3⟩ := hx
  have hk : I24 k := ⟨k0, by omega⟩
  have hNF : NF c x 100014 := fun y a d j => by rw [x1 y (by omega)]; exact hS.1 y a d j
  have hSx : STP c x := ⟨hNF, fun p t hp ht => by unfold sE; rw [x1 100027 (by decide)]; exact hS.2 p t hp ht⟩
  unfold rf2
  cases q : mhA c b k with
  | false =>
    rw [if_neg (by rw [NF_hA hNF, NN_hA h, q]; decide)]
    refine ⟨x1, fun s hs a => ?_, fun j a d => x3 j (by omega) d⟩
    by_cases e : s = k
    · subst e
      exact ⟨fun y => absurd (q.symm.trans y) (by decide), fun _ j j0 j1 => x3 _ (by omega) (by omega)⟩
    · exact x2 s hs (by omega)
  | true =>
    rw [if_pos (by rw [NF_hA hNF, NN_hA h, q])]
    obtain ⟨r1, r2, r3⟩ := row_ok h hV hSx q (fun j j0 j1 => x3 _ (by omega) (by omega))
    refine ⟨fun y hy => (r1 y hy).trans (x1 y hy), fun s hs a => ?_, fun j a d => (r2 j (by omega)).trans (x3 j (by omega) d)⟩
    by_cases e : s = k
    · subst e
      exact ⟨fun _ => r3, fun y => absurd (q.symm.trans y) (by decide)⟩
    · obtain ⟨z1, z2⟩ := x2 s hs (by omega)
      have hsame : ∀ j, 0 ≤ j → j < 34 → fnd (djk x k) k 100028 (s * 34 + j) = x 100028 (s * 34 + j) := fun j j0 j1 => r2 _ (by omega)
      refine ⟨fun y => ?_, fun y j j0 j1 => (hsame j j0 j1).trans (z2 y j j0 j1)⟩
      obtain ⟨w1, w2⟩ := z1 y
      refine ⟨fun t ht => ?_, fun n n0 n1 => ⟨fun a a0 a1 => ?_, ?_⟩⟩
      · dsimp only
        rw [hsame t ht.1 (by have := ht.2; omega)]
        exact w1 t ht
      · dsimp only
        have ha := mhA_rg hV a0
        rw [hsame _ (by omega) (by omega), hsame _ (by omega) (by omega)]
        exact (w2 n n0 n1).1 a a0 a1
      · dsimp only
        rw [hsame _ (by omega) (by omega)]
        rcases (w2 n n0 n1).2 with w | ⟨a, a0, a1, a2⟩
        · exact Or.inl w
        · have ha := mhA_rg hV a0
          exact Or.inr ⟨a, a0, a1, by rw [hsame _ (by omega) (by omega)]; exact a2⟩
/-- REFRESHED, the tables fit -/
theorem rfr_TBL {c : gC} {b : Nat} (hN : NR c 100014) (h : NN c 100014 c b) (hV : NW c b) (hf : c 100026 1 = c 100014 0 → TBL c c b) : TBL c (rfr c) b := by
  unfold rfr
  by_cases e : c 100026 1 = c 100014 0
  · rw [if_pos e]; exact hf e
  · rw [if_neg e]
    have f0 : ∀ k : Nat, ¬ k = 100027 → ¬ k = 100028 → rfi c k = c k := fun k a d => funext fun j => by
      unfold rfi
      rw [fl_k d, fl_k a]
    obtain ⟨s1, s2⟩ := rf1_s hN (i := 24) (by decide) (by decide)
    have hS : STP c (itI rf1 (rfi c) 24) := ⟨fun x a d y => by rw [s1 x (by omega), f0 x (by omega) (by omega)], fun p t hp ht => by
      rw [s2 p t hp ht]
      by_cases q : hA c 100014 t = true
      · rw [if_pos ⟨ht.2, q⟩, if_pos q]
      · rw [if_neg (fun x => q x.2), if_neg q]⟩
    obtain ⟨r1, r2, r3⟩ := rf2_s h hV hS (fun j j0 j1 => by
      rw [s1 100028 (by decide)]
      unfold rfi
      exact fl_a ⟨j0, j1⟩) (i := 24) (by decide) (by decide)
    have e28 : ∀ j z, gu (itI rf2 (itI rf1 (rfi c) 24) 24) 100026 1 z 100028 j = itI rf2 (itI rf1 (rfi c) 24) 24 100028 j := fun j z => gu_k (by decide)
    refine ⟨⟨fun x a d y => ?_, fun p t hp ht => ?_⟩, fun s hs => ?_⟩
    · rw [gu_k (by omega), r1 x (by omega)]
      exact hS.1 x a d y
    · unfold sE
      rw [gu_k (by decide), r1 100027 (by decide)]
      exact hS.2 p t hp ht
    · simp only [e28]
      exact r2 s hs hs.2
