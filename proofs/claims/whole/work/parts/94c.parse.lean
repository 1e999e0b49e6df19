/-! the parsers, piece by piece: what they agree on -/
def KWS (c : gC) : Prop := ∀ i : Nat, i < 9 → c 100033 (i : Int) = wv (fun j => txb i j - 96) (am_tlen.getD i 0)
def STG (c m : gC) : Prop := (tb (c 100032 10) 3 = tb (m 500001 23) 0 ∧ tb (c 100032 10) 4 = tb (m 500001 23) 1) ∧ (tb (c 100032 10) 5 = tb (m 500001 23) 2 ∧ tb (c 100032 10) 6 = tb (m 500001 23) 3) ∧ tb (c 100032 10) 8 = tb (m 500001 23) 4
/-- the networks under way -/
def DN (c m : gC) : Prop := (NN c 100002 m 200001 ∧ c 100002 5 = m 200001 4) ∧ (∀ n, 0 ≤ n → n < m 200001 0 → NMR (c (100002 + 1) n) (m 200001 (22 + 3 * n))) ∧ (∀ r, 0 ≤ r → r < m 200001 1 → NMR (c (100002 + 4) r) (m 200001 (52 + 7 * r)) ∧ 1 ≤ m 200001 (52 + 7 * r + 3) ∧ 1 ≤ m 200001 (52 + 7 * r + 4) ∧ (0 ≤ m 200001 (52 + 7 * r + 6) ∧ m 200001 (52 + 7 * r + 6) ≤ 999) ∧ (m 200001 (52 + 7 * r + 5) = 0 ∨ m 200001 (52 + 7 * r + 5) = 1)) ∧ (∀ r, m 200001 1 ≤ r → r < 12 → tb (c 100002 6) r = false ∧ m 200001 (52 + 7 * r + 6) = 0) ∧ (m 200001 2 = -1 ∨ (0 ≤ m 200001 2 ∧ m 200001 2 < m 200001 0)) ∧ (0 ≤ m 200001 4 ∧ m 200001 4 ≤ 99) ∧ (∀ n, m 200001 0 ≤ n → n < 10 → m 200001 (22 + 3 * n) = 0) ∧ ∀ r, m 200001 1 ≤ r → r < 12 → m 200001 (52 + 7 * r) = 0
def PZ (c m : gC) : Prop := ((TK c m ∧ INP c m) ∧ (KWS c ∧ TX m)) ∧ DN c m ∧ STG c m ∧ ((c 100032 3 = 0 ∧ m 500001 21 = 0) ∧ (c 100032 4 = -1 ∧ m 500001 22 = -1)) ∧ PN c ∧ MP 200001 m
def BAD (c m : gC) : Prop := mgd m = false ∧ c 100032 3 = m 500001 21 ∧ c 100032 4 = m 500001 22
def RES (x : Bool × gC) (m : gC) : Prop := (x.1 = true ∧ PZ x.2 m) ∨ (x.1 = false ∧ BAD x.2 m)
/-- what is bad stays as bad as it is -/
def KB (m m' : gC) : Prop := mgd m = false → mgd m' = false ∧ m' 500001 21 = m 500001 21 ∧ m' 500001 22 = m 500001 22
theorem BAD_k {c m m' : gC} (h : BAD c m) (h2 : KB m m') : BAD c m' := by
  obtain ⟨a, b, d⟩ := h2 h.1
  exact ⟨a, by rw [b]; exact h.2.1, by rw [d]; exact h.2.2⟩
theorem KB_rf {m : gC} : KB m m := fun h => ⟨h, rfl, rfl⟩
theorem KB_tr {m n o : gC} (h : KB m n) (h2 : KB n o) : KB m o := fun q => by
  obtain ⟨a1, a2, a3⟩ := h q
  obtain ⟨b1, b2, b3⟩ := h2 a1
  exact ⟨b1, b2.trans a2, b3.trans a3⟩
theorem KB_mon {m : gC} : KB m (mon m) := fun q => by rw [mon_f q]; exact ⟨q, rfl, rfl⟩
theorem KB_fi {m : gC} {p : Bool} {z : Int} : KB m (mfi p m z) := fun q => by rw [mfi_0 q]; exact ⟨q, rfl, rfl⟩
theorem KB_b {m : gC} {b : Nat} {j z : Int} (hb : ¬ b = 500001) : KB m (gu m b j z) := fun q => by
  have e : ∀ j', gu m b j z 500001 j' = m 500001 j' := fun j' => gu_k (fun w => hb w.symm)
  refine ⟨?_, e _, e _⟩
  unfold mgd at q ⊢
  rw [e]; exact q
theorem KB_fl {m : gC} {z : Int} : KB m (mfl m z) := fun q => by
  have e : mfl m z = m := by
    unfold mgd at q
    unfold mfl
    rw [if_neg (of_decide_eq_false q)]
  rw [e]; exact ⟨q, rfl, rfl⟩
theorem KB_nu {m : gC} {l u : Int} : KB m (mnu l u m).2 := KB_tr (KB_tr (KB_fi (p := decide (¬ m 500001 19 = 2)) (z := 1)) KB_fi) KB_mon
theorem KB_nh {m : gC} : KB m (mnh m).2 := KB_fi
theorem KB_nd1 {m : gC} {b : Nat} {o f : Int} : KB m (mnd1 b o f m).2 := KB_tr (KB_tr (KB_fi (p := decide (f = -1)) (z := 4)) KB_fi) KB_mon
theorem KB_nd {m : gC} {b : Nat} {o : Int} : KB m (mnd b o m).2 := KB_tr KB_nh KB_nd1
theorem KB_23 {m : gC} {z : Int} : KB m (gu m 500001 23 z) := fun q => by
  refine ⟨?_, gu_j (by decide), gu_j (by decide)⟩
  unfold mgd at q ⊢
  rw [gu_j (by decide)]; exact q
theorem KB_nc {m : gC} {k : Int} : KB m (mnc2 k m) := by
  unfold mnc2 mnc3
  split
  · exact KB_tr KB_fl (KB_tr KB_23 KB_mon)
  · exact KB_tr KB_23 KB_mon
theorem mtx_bad {m : gC} {n l : Nat} (h : mgd m = false) : mtx m n l = false := by
  unfold mtx
  rw [h]; rfl
theorem KB_S {m : gC} : KB m (mprS m) := fun q => by
  unfold mprS
  rw [mtx_bad q, if_neg (by decide)]
  exact ⟨q, rfl, rfl⟩
theorem KB_st2 {m : gC} : KB m (mst2 m) := KB_tr KB_fi KB_mon
theorem PZ_g {c m : gC} (h : PZ c m) : mgd m = true := by
  unfold mgd
  rw [h.2.2.2.1.1.2]; rfl
theorem PZ_mi {c m : gC} (h : PZ c m) : MI m := h.2.2.2.2.2.1.1
/-- a fault at this place -/
theorem fai_e {c m : gC} (h : PZ c m) {z : Int} (hz : ¬ z = 0) : BAD (fai c z) (mfl m z) := by
  have e := h.2.2.2.1.1.2
  unfold fai mfl
  rw [if_pos e]
  refine ⟨?_, ?_, ?_⟩
  · unfold mgd; rw [gu_j (by decide), gu_s]; exact decide_eq_false hz
  · rw [gu_j (by decide), gu_s, gu_j (by decide), gu_s]
  · rw [gu_s, gu_s]; exact h.1.1.1.1.2.1
theorem fai_fi {c m : gC} (h : PZ c m) {z : Int} (hz : ¬ z = 0) {p : Bool} (hp : p = true) : BAD (fai c z) (mfi p m z) := by
  rw [mfi_2 (PZ_g h) hp]
  exact fai_e h hz
theorem mad_j {m : gC} {j : Int} (h : 20 < j) : mad m 500001 j = m 500001 j := by
  unfold mad mad1 mad0
  split
  · rw [gu_j (by omega), gu_j (by omega), gu_j (by omega)]
  · split
    · rw [gu_j (by omega), gu_j (by omega), gu_j (by omega), gu_j (by omega)]
    · split
      · rw [gu_j (by omega), gu_j (by omega), gu_j (by omega), gu_j (by omega), gu_j (by omega)]
      · rw [gu_j (by omega), gu_j (by omega), gu_j (by omega), gu_j (by omega), gu_j (by omega)]
/-- moving on -/
theorem adv_Z {c m : gC} (h : PZ c m) : PZ (adv c) (mad m) ∧ mon m = mad m := by
  refine ⟨?_, mon_t (PZ_g h)⟩
  have hm := PZ_mi h
  obtain ⟨⟨⟨h1, h2⟩, h3, h4⟩, h5, h6, ⟨⟨e1, e2⟩, e3, e4⟩, h7, h8⟩ := h
  obtain ⟨a1, a2, a3⟩ := adv_ok h7.1
  obtain ⟨b1, b2, b3⟩ := mad_ok (b := 200001) hm
  obtain ⟨p1, p2⟩ := h7.1.2.2
  have hb : mad m 200001 = m 200001 := b3 _ (by decide)
  refine ⟨⟨adv_e h2 h1.1.2.2 p1 p2, ?_, ?_⟩, ?_, ?_, ⟨⟨?_, ?_⟩, ?_, ?_⟩, (adv_PN h7).1, b1, ?_⟩
  · intro i hi; rw [a2 100033 (by decide)]; exact h3 i hi
  · exact TX_o h4 fun k hk => b3 k (by omega)
  · obtain ⟨⟨d1, d0⟩, d2, d3, d4, d5, d6⟩ := h5
    refine ⟨⟨NN_o d1 h8.2 (fun i i0 i1 j => by rw [a2 i (by omega)]) hb, ?_⟩, ?_, ?_, ?_, ?_, ?_⟩
    · rw [a2 100002 (by decide), hb]; exact d0
    · rw [hb, a2 (100002 + 1) (by decide)]; exact d2
    · rw [hb, a2 (100002 + 4) (by decide)]; exact d3
    · rw [hb, a2 100002 (by decide)]; exact d4
    · rw [hb]; exact d5
    · rw [hb]; exact d6
  · unfold STG
    rw [a3 10 (by decide), mad_j (by decide)]
    exact h6
  · rw [a3 3 (by decide)]; exact e1
  · rw [mad_j (by decide)]; exact e2
  · rw [a3 4 (by decide)]; exact e3
  · rw [mad_j (by decide)]; exact e4
  · exact NW_of h8.2 hb
/-! words -/
theorem kwd_sp {c : gC} (h : KWS c) {v : Int} : (∀ i : Nat, i < 9 → c 100033 (i : Int) = v → kwd c v = (i : Int)) ∧ (kwd c v = -1 ∨ ∃ i : Nat, i < 9 ∧ kwd c v = (i : Int) ∧ c 100033 (i : Int) = v) := by
  have key := itI_inv3 (f := fun i k => if c 100033 i = v then i else k) (x := -1) (fun n (k : Int) => (∀ i : Nat, (i : Int) < n → c 100033 (i : Int) = v → k = (i : Int)) ∧ (k = -1 ∨ ∃ i : Nat, (i : Int) < n ∧ k = (i : Int) ∧ c 100033 (i : Int) = v)) (N := 9) ⟨fun i hi => by omega, Or.inl rfl⟩ (fun j k j0 j1 hk => ?_) (k := 9) (by decide) (Int.le_refl _)
  · refine ⟨fun i hi => key.1 i (by omega), ?_⟩
    rcases key.2 with e | ⟨i, i1, i2⟩
    · exact Or.inl e
    · exact Or.inr ⟨i, by omega, i2⟩
  · obtain ⟨k1, k2⟩ := hk
    have hj : (j.toNat : Int) = j := by omega
    by_cases e : c 100033 j = v
    · rw [if_pos e]
      refine ⟨fun i hi hv => ?_, Or.inr ⟨j.toNat, by omega, hj.symm, by rw [hj]; exact e⟩⟩
      refine Classical.byContradiction fun hne => ?_
      have a1 := h i (by omega)
      have a2 := h j.toNat (by omega)
      rw [hj] at a2
      exact kw_df i (by omega) j.toNat (by omega) (by omega) (by rw [← a1, ← a2, hv, e])
    · rw [if_neg e]
      refine ⟨fun i hi hv => ?_, ?_⟩
      · by_cases q : (i : Int) = j
        · rw [q] at hv; exact absurd hv e
        · exact k1 i (by omega) hv
      · rcases k2 with k2 | ⟨i, i1, i2⟩
        · exact Or.inl k2
        · exact Or.inr ⟨i, by omega, i2⟩
/-- the letters of a word -/
theorem word_DG {c m : gC} (h : PZ c m) (hs : c 100032 5 = 1) (hl : c 100032 7 - c 100032 6 ≤ 6) : DG (fun j => c 100001 (c 100032 6 + j) - 96) (c 100032 7 - c 100032 6).toNat ∧ c 100032 8 = wv (fun j => c 100001 (c 100032 6 + j) - 96) (c 100032 7 - c 100032 6).toNat := by
  rcases h.1.1.1.2.2 with ⟨-, t2, t3, t4, t5⟩ | ⟨e, -⟩ | ⟨e, -⟩ | ⟨e, -⟩
  · refine ⟨⟨by omega, fun j a b => ?_⟩, ?_⟩
    · have := t5 (c 100032 6 + j) (by omega) (by omega)
      dsimp only
      omega
    · have := wmv_wv (c := c) (s := c 100032 6) (c 100032 7 - c 100032 6).toNat (by omega)
      rw [show c 100032 6 + ((c 100032 7 - c 100032 6).toNat : Int) = c 100032 7 by omega] at this
      rw [t3, this]
  all_goals omega
theorem word_by {c m : gC} (h : PZ c m) {j : Int} (j0 : 0 ≤ j) (j1 : j < c 100032 7 - c 100032 6) : m 200009 (m 500001 18 + j) = c 100001 (c 100032 6 + j) := by
  have t := h.1.1.1
  rw [← t.1.2.1]
  exact ((h.1.1.2.2.2 _ (by have := t.2.1; omega) (by have := t.2.1; omega)).1).symm
theorem kw_e {c m : gC} (h : PZ c m) (hs : c 100032 5 = 1) {i : Nat} (hi : i < 9) : mtx m i (am_tlen.getD i 0) = decide (c 100032 9 = (i : Int)) := by
  have t := h.1.1.1
  have hk := h.1.2.1
  have kv := hk i hi
  have hgd := PZ_g h
  have hlen := tlen_kw i hi
  have h19 : m 500001 19 = 1 := by rw [← t.1.1]; exact hs
  have t9 : c 100032 9 = kwd c (c 100032 8) := by
    rcases t.2.2 with ⟨-, -, -, q, -⟩ | ⟨e, -⟩ | ⟨e, -⟩ | ⟨e, -⟩
    · exact q
    all_goals omega
  have heq : (c 100032 9 = (i : Int)) ↔ c 100033 (i : Int) = c 100032 8 := by
    obtain ⟨s1, s2⟩ := kwd_sp hk (v := c 100032 8)
    rw [t9]
    constructor
    · intro q
      rcases s2 with e | ⟨k, k1, k2, k3⟩
      · omega
      · have : k = i := by omega
        rw [← this]; exact k3
    · exact s1 i hi
  unfold mtx
  rw [hgd, decide_eq_true h19, ← t.1.2.1, ← t.1.2.2]
  simp only [Bool.true_and]
  by_cases e : c 100032 7 - c 100032 6 = ((am_tlen.getD i 0 : Nat) : Int)
  · rw [decide_eq_true e, Bool.true_and]
    have hl : c 100032 7 - c 100032 6 ≤ 6 := by omega
    obtain ⟨g1, g2⟩ := word_DG h hs hl
    have hn : (c 100032 7 - c 100032 6).toNat = am_tlen.getD i 0 := by omega
    rw [hn] at g1 g2
    have hch : ∀ j, 0 ≤ j → j < ((am_tlen.getD i 0 : Nat) : Int) → (m 200009 (c 100032 6 + j) = m (910000 + i) j ↔ c 100001 (c 100032 6 + j) = txb i j) := fun j j0 j1 => by
      have a1 := word_by h (j := j) j0 (by omega)
      rw [← t.1.2.1] at a1
      rw [a1, h.1.2.2 i (by omega) j j0 j1]
    by_cases q : c 100032 9 = (i : Int)
    · rw [decide_eq_true q]
      have q2 := heq.1 q
      rw [kv, g2] at q2
      obtain ⟨-, w⟩ := wv_inj _ _ (kw_DG hi).2 g1.2 q2
      refine decide_eq_true ?_
      rcases ff_spec (p := fun k => !decide (m 200009 (c 100032 6 + k) = m (910000 + i) k)) (N := ((am_tlen.getD i 0 : Nat) : Int)) (i := 0) (by decide) with ⟨f1, -⟩ | ⟨f1, f2, f3, -⟩
      · exact f1
      · exfalso
        have := (hch _ f1 f2).2 (by have := w _ f1 f2; omega)
        rw [decide_eq_true this] at f3
        cases f3
    · rw [decide_eq_false q]
      refine decide_eq_false fun w => q (heq.2 ?_)
      rw [kv, g2]
      refine wv_cg fun j j0 j1 => ?_
      rcases ff_spec (p := fun k => !decide (m 200009 (c 100032 6 + k) = m (910000 + i) k)) (N := ((am_tlen.getD i 0 : Nat) : Int)) (i := 0) (by decide) with ⟨-, f2⟩ | ⟨f1, -⟩
      · have := f2 j j0 j1
        simp only [Bool.not_eq_false', decide_eq_true_eq] at this
        have := (hch j j0 j1).1 this
        omega
      · rw [w] at f1; omega
  · rw [decide_eq_false e, Bool.false_and]
    refine (decide_eq_false fun q => ?_).symm
    have q2 := heq.1 q
    rw [kv] at q2
    have hp := wv_0 (d := fun j => txb i j - 96) (n := am_tlen.getD i 0) (fun j a b => by have := (kw_DG hi).2 j a b; dsimp only at this ⊢; omega)
    by_cases hl : c 100032 7 - c 100032 6 ≤ 6
    · obtain ⟨g1, g2⟩ := word_DG h hs hl
      rw [g2] at q2
      obtain ⟨w, -⟩ := wv_inj _ _ (kw_DG hi).2 g1.2 q2
      have := t.2.1
      omega
    · rcases t.2.2 with ⟨-, w2, w3, -, w5⟩ | ⟨e, -⟩ | ⟨e, -⟩ | ⟨e, -⟩
      · rcases wmv_rg (c := c) (e := c 100032 6) (i := c 100032 7) (by omega) w5 with w | w
        · omega
        · rw [w3, w.2] at q2; omega
      all_goals omega
theorem mkw2_e {c m : gC} (h : PZ c m) (hs : c 100032 5 = 1) : mkw2 m = decide (¬ c 100032 9 = -1) := by
  have t9 : c 100032 9 = kwd c (c 100032 8) := by
    rcases h.1.1.1.2.2 with ⟨-, -, -, q, -⟩ | ⟨e, -⟩ | ⟨e, -⟩ | ⟨e, -⟩
    · exact q
    all_goals omega
  have k0 := kw_e h hs (i := 0) (by decide)
  have k1 := kw_e h hs (i := 1) (by decide)
  have k2 := kw_e h hs (i := 2) (by decide)
  have k3 := kw_e h hs (i := 3) (by decide)
  have k4 := kw_e h hs (i := 4) (by decide)
  have k5 := kw_e h hs (i := 5) (by decide)
  have k6 := kw_e h hs (i := 6) (by decide)
  have k7 := kw_e h hs (i := 7) (by decide)
  have k8 := kw_e h hs (i := 8) (by decide)
  change mtx m 0 4 = _ at k0
  change mtx m 1 4 = _ at k1
  change mtx m 2 6 = _ at k2
  change mtx m 3 5 = _ at k3
  change mtx m 4 5 = _ at k4
  change mtx m 5 4 = _ at k5
  change mtx m 6 6 = _ at k6
  change mtx m 7 4 = _ at k7
  change mtx m 8 4 = _ at k8
  unfold mkw2
  rw [k0, k1, k2, k3, k4, k5, k6, k7, k8]
  rcases (kwd_sp h.1.2.1 (v := c 100032 8)).2 with e | ⟨i, i1, i2, -⟩
  · rw [← t9] at e
    rw [e]
    decide
  · rw [← t9] at i2
    rw [i2]
    rcases (show i = 0 ∨ i = 1 ∨ i = 2 ∨ i = 3 ∨ i = 4 ∨ i = 5 ∨ i = 6 ∨ i = 7 ∨ i = 8 by omega) with q | q | q | q | q | q | q | q | q <;> subst q <;> decide
