/-! tokens: the class's parser and the reference's -/
theorem runN_cg {p q : Int → Bool} : ∀ (n : Nat) (i : Int), (∀ j, i ≤ j → p j = q j) → runN p n i = runN q n i := by
  intro n
  induction n with
  | zero => intro i _; rfl
  | succ n ih =>
    intro i h
    show (if p i = true then runN p n (i + 1) else i) = if q i = true then runN q n (i + 1) else i
    rw [h i (Int.le_refl i), ih (i + 1) (fun j hj => h j (by omega))]
theorem rn_cg {p q : Int → Bool} {i : Int} (h : ∀ j, i ≤ j → p j = q j) : rn p i = rn q i := runN_cg 1200 i h
/-- the input is the same on both sides -/
def INP (c m : gC) : Prop := c 100000 1 = m 500001 16 ∧ (0 ≤ c 100000 1 ∧ c 100000 1 ≤ 1200) ∧ ∀ k, 0 ≤ k → k < c 100000 1 → c 100001 k = m 200009 k ∧ -128 ≤ c 100001 k ∧ c 100001 k < 128
theorem z255 : ∀ n : Nat, n < 256 → zand ((n : Int) - 128) 255 = if n < 128 then (n : Int) - 128 + 256 else (n : Int) - 128 := by decide +kernel
theorem z255_e {x : Int} (h : -128 ≤ x ∧ x < 128) : zand x 255 = if x < 0 then x + 256 else x := by
  have := z255 (x + 128).toNat (by omega)
  rw [show ((x + 128).toNat : Int) - 128 = x by omega] at this
  rw [this]
  split <;> split <;> omega
section
variable {c m : gC}
theorem bya_e (h : INP c m) {k : Int} (h0 : 0 ≤ k) : bya m k = if k < c 100000 1 then (if c 100001 k < 0 then c 100001 k + 256 else c 100001 k) else -1 := by
  unfold bya
  rw [← h.1]
  by_cases e : k < c 100000 1
  · obtain ⟨a, b⟩ := h.2.2 k h0 e
    rw [if_pos e, if_pos e, ← a, z255_e b]
  · rw [if_neg e, if_neg e]
theorem ibt_e (h : INP c m) {l u : Int} (hl : 0 ≤ l) (hu : u < 128) {k : Int} (h0 : 0 ≤ k) : ibt c l u k = mlr m l u k := by
  unfold ibt mlr inr
  rw [bya_e h h0]
  by_cases e : k < c 100000 1
  · obtain ⟨a, b⟩ := h.2.2 k h0 e
    rw [decide_eq_true e, if_pos e, Bool.true_and]
    by_cases q : c 100001 k < 0
    · rw [if_pos q, decide_eq_false (show ¬ l ≤ c 100001 k by omega), decide_eq_false (show ¬ c 100001 k + 256 ≤ u by omega)]
      simp
    · rw [if_neg q]
  · rw [decide_eq_false e, if_neg e, decide_eq_false (show ¬ l ≤ -1 by omega)]
    simp
theorem ibl_e (h : INP c m) {k : Int} (h0 : 0 ≤ k) : ibl c k = mbl m k := by
  unfold ibl mbl
  rw [bya_e h h0]
  by_cases e : k < c 100000 1
  · obtain ⟨a, b⟩ := h.2.2 k h0 e
    rw [decide_eq_true e, if_pos e, Bool.true_and]
    by_cases q : c 100001 k < 0
    · rw [if_pos q, decide_eq_false (show ¬ c 100001 k = 32 by omega), decide_eq_false (show ¬ c 100001 k = 10 by omega), decide_eq_false (show ¬ c 100001 k + 256 = 32 by omega), decide_eq_false (show ¬ c 100001 k + 256 = 10 by omega)]
    · rw [if_neg q]
  · rw [decide_eq_false e, if_neg e, decide_eq_false (show ¬ (-1 : Int) = 32 by omega), decide_eq_false (show ¬ (-1 : Int) = 10 by omega)]
    simp
/-- the token is the same on both sides -/
def TK (c m : gC) : Prop := (c 100032 5 = m 500001 19 ∧ c 100032 6 = m 500001 18 ∧ c 100032 7 = m 500001 17) ∧ (0 ≤ c 100032 6 ∧ c 100032 6 ≤ c 100032 7 ∧ c 100032 7 ≤ c 100000 1) ∧ ((c 100032 5 = 1 ∧ c 100032 6 < c 100032 7 ∧ c 100032 8 = wmv c (c 100032 6) (c 100032 7) ∧ c 100032 9 = kwd c (c 100032 8) ∧ ∀ k, c 100032 6 ≤ k → k < c 100032 7 → 97 ≤ c 100001 k ∧ c 100001 k ≤ 122) ∨ (c 100032 5 = 2 ∧ c 100032 9 = -1 ∧ 0 ≤ c 100032 8 ∧ m 500001 20 = min 99999 (c 100032 8)) ∨ (c 100032 5 = 3 ∧ c 100032 9 = -1 ∧ (c 100032 8 = 59 ↔ m 500001 20 = 59)) ∨ (c 100032 5 = 0 ∧ c 100032 9 = -1))
theorem ibt_wk {c' : gC} (h0 : c' 100000 = c 100000) (h1 : c' 100001 = c 100001) (l u i : Int) : ibt c' l u i = ibt c l u i := ibt_o h0 h1
theorem nmv_e (h : INP c m) {s e : Int} (hs : 0 ≤ s) (hse : s ≤ e) (hd : ∀ j, s ≤ j → j < e → j < c 100000 1 ∧ 48 ≤ c 100001 j ∧ c 100001 j ≤ 57) : mnv m s e = min 99999 (nmv c s e) ∧ 0 ≤ nmv c s e := by
  have key : ∀ k : Nat, s + (k : Int) ≤ e → mnv m s (s + (k : Int)) = min 99999 (nmv c s (s + (k : Int))) ∧ 0 ≤ nmv c s (s + (k : Int)) := by
    intro k
    induction k with
    | zero =>
      intro _
      rw [show s + ((0 : Nat) : Int) = s by omega]
      unfold mnv nmv
      rw [show s - s = (0 : Int) by omega, itI_0, itI_0]
      decide
    | succ k ih =>
      intro hk
      obtain ⟨i1, i2⟩ := ih (by omega)
      obtain ⟨d1, d2, d3⟩ := hd (s + (k : Int)) (by omega) (by omega)
      have hb := bya_e h (k := s + (k : Int)) (by omega)
      rw [if_pos d1, if_neg (by omega)] at hb
      rw [show s + ((k + 1 : Nat) : Int) = s + (k : Int) + 1 by omega, mnv_s (by omega), nmv_s (by omega), hb, i1]
      omega
  have := key (e - s).toNat (by omega)
  rwa [show s + ((e - s).toNat : Int) = e by omega] at this
/-- THE NEXT TOKEN -/
theorem adv_e (h : INP c m) (he : c 100032 7 = m 500001 17) (h0 : 0 ≤ c 100032 7) (h1 : c 100032 7 ≤ c 100000 1) : TK (adv c) (mad m) ∧ INP (adv c) (mad m) := by
  have hbl : mbn m (m 500001 17) = bln c (c 100032 7) := by
    unfold mbn bln
    rw [he]
    exact rn_cg fun j hj => (ibl_e h (by omega)).symm
  obtain ⟨r1, r2, r3, r4⟩ := rn_ok (p := ibl c) (N := c 100000 1) (i := c 100032 7) ibl_lt h0 h1 h.2.1.2
  unfold adv mad
  rw [hbl]
  change c 100032 7 ≤ bln c (c 100032 7) at r1
  change bln c (c 100032 7) ≤ c 100000 1 at r2
  generalize bln c (c 100032 7) = s at *
  have hs : 0 ≤ s := by omega
  have hbs := bya_e h hs
  have i1 := ibt_e h (l := 97) (u := 122) (by decide) (by decide) hs
  have i2 := ibt_e h (l := 48) (u := 57) (by decide) (by decide) hs
  have hI : ∀ c' m' : gC, c' 100000 = c 100000 → c' 100001 = c 100001 → m' 500001 16 = m 500001 16 → m' 200009 = m 200009 → INP c' m' := fun c' m' a1 a2 a3 a4 => by
    unfold INP
    rw [a1, a2, a3, a4]
    exact h
  by_cases e1 : c 100000 1 ≤ s
  · have e2 : bya m s = -1 := by rw [hbs, if_neg (by omega)]
    rw [ad1_e e1, mad1_e e2]
    refine ⟨⟨⟨?_, ?_, ?_⟩, ⟨?_, ?_, ?_⟩, Or.inr (Or.inr (Or.inr ⟨?_, ?_⟩))⟩, hI _ _ ?_ ?_ ?_ ?_⟩
    all_goals try unfold ad0
    all_goals try unfold mad0
    all_goals first
      | (funext j; rw [gu_k (by decide), gu_k (by decide), gu_k (by decide), gu_k (by decide)])
      | (funext j; rw [gu_k (by decide), gu_k (by decide), gu_k (by decide)])
      | (simp (disch := decide) only [gu_k, gu_j, gu_s]; done)
      | (simp (disch := decide) only [gu_k, gu_j, gu_s]; omega)
  · have e2 : ¬ bya m s = -1 := by rw [hbs, if_pos (by omega)]; obtain ⟨a, b⟩ := h.2.2 s hs (by omega); split <;> omega
    cases w1 : ibt c 97 122 s with
    | true =>
      rw [ad1_w e1 w1, mad1_w e2 (by rw [← i1]; exact w1)]
      have hwe : mln2 m s = wen c s := by
        unfold mln2 wen
        exact rn_cg fun j hj => (ibt_e h (by decide) (by decide) (by omega)).symm
      obtain ⟨t1, t2, t3, t4⟩ := rn_ok (p := ibt c 97 122) (N := c 100000 1) (i := s) ibt_lt hs r2 h.2.1.2
      change s ≤ wen c s at t1
      change wen c s ≤ c 100000 1 at t2
      change ibt c 97 122 (wen c s) = false at t3
      change ∀ j, s ≤ j → j < wen c s → ibt c 97 122 j = true at t4
      have t5 : s < wen c s := by
        refine Classical.byContradiction fun q => ?_
        rw [show wen c s = s by omega, w1] at t3
        cases t3
      have k1 : ∀ k : Nat, ¬ k = 100032 → tkw (ad0 c s) k = c k := fun k hk => by
        unfold tkw
        funext j
        rw [gu_k hk, gu_k hk, gu_k hk, gu_k hk, ad0_k hk]
      have hw7 : wen (ad0 c s) (ad0 c s 100032 7) = wen c s := by
        rw [ad0_7]
        unfold wen
        exact rn_cg fun j _ => ibt_o (ad0_k (by decide)) (ad0_k (by decide))
      have hwm : ∀ x : gC, x 100001 = c 100001 → ∀ a b, wmv x a b = wmv c a b := fun x hx a b => by unfold wmv; rw [hx]
      have hkw : ∀ x : gC, x 100033 = c 100033 → ∀ v, kwd x v = kwd c v := fun x hx v => by unfold kwd; rw [hx]
      have f6 : tkw (ad0 c s) 100032 6 = s := by unfold tkw; rw [gu_j (by decide), gu_j (by decide), gu_j (by decide), gu_j (by decide), ad0_6]
      have f7 : tkw (ad0 c s) 100032 7 = wen c s := by unfold tkw; rw [gu_j (by decide), gu_s, hw7]
      have f5 : tkw (ad0 c s) 100032 5 = 1 := by unfold tkw; rw [gu_j (by decide), gu_j (by decide), gu_j (by decide), gu_s]
      have f8 : tkw (ad0 c s) 100032 8 = wmv c s (wen c s) := by unfold tkw; rw [gu_j (by decide), gu_j (by decide), gu_s, hw7, ad0_7, hwm _ (ad0_k (by decide))]
      have f9 : tkw (ad0 c s) 100032 9 = kwd c (wmv c s (wen c s)) := by unfold tkw; rw [gu_s, hw7, ad0_7, hwm _ (ad0_k (by decide)), hkw _ (ad0_k (by decide))]
      refine ⟨⟨⟨?_, ?_, ?_⟩, ?_, Or.inl ⟨f5, ?_, ?_, ?_, ?_⟩⟩, hI _ _ (k1 _ (by decide)) (k1 _ (by decide)) ?_ ?_⟩
      · rw [f5, gu_s]
      · rw [f6]; unfold mad0; rw [gu_j (by decide), gu_j (by decide), gu_s]
      · rw [f7, hwe]; rw [gu_j (by decide), gu_s]
      · rw [f6, f7, k1 100000 (by decide)]; omega
      · rw [f6, f7]; exact t5
      · rw [f6, f7, f8, hwm _ (k1 _ (by decide))]
      · rw [f9, f8, hkw _ (k1 _ (by decide))]
      · rw [f6, f7, k1 100001 (by decide)]
        intro k ka kb
        exact (ibt_b (t4 k ka kb)).2
      · unfold mad0; rw [gu_j (by decide), gu_j (by decide), gu_j (by decide), gu_j (by decide)]
      · unfold mad0; funext j; rw [gu_k (by decide), gu_k (by decide), gu_k (by decide), gu_k (by decide)]
    | false =>
      cases w2 : ibt c 48 57 s with
      | true =>
        rw [ad1_n e1 w1 w2, mad1_n e2 (by rw [← i1]; exact w1) (by rw [← i2]; exact w2)]
        have hwe : mdn m s = nen c s := by
          unfold mdn nen
          exact rn_cg fun j hj => (ibt_e h (by decide) (by decide) (by omega)).symm
        obtain ⟨t1, t2, t3, t4⟩ := rn_ok (p := ibt c 48 57) (N := c 100000 1) (i := s) ibt_lt hs r2 h.2.1.2
        change s ≤ nen c s at t1
        change nen c s ≤ c 100000 1 at t2
        change ∀ j, s ≤ j → j < nen c s → ibt c 48 57 j = true at t4
        have k1 : ∀ k : Nat, ¬ k = 100032 → tkn (ad0 c s) k = c k := fun k hk => by
          unfold tkn
          funext j
          rw [gu_k hk, gu_k hk, gu_k hk, ad0_k hk]
        have hw7 : nen (ad0 c s) (ad0 c s 100032 7) = nen c s := by
          rw [ad0_7]
          unfold nen
          exact rn_cg fun j _ => ibt_o (ad0_k (by decide)) (ad0_k (by decide))
        have hnm : ∀ x : gC, x 100001 = c 100001 → ∀ a b, nmv x a b = nmv c a b := fun x hx a b => by unfold nmv; rw [hx]
        have f6 : tkn (ad0 c s) 100032 6 = s := by unfold tkn; rw [gu_j (by decide), gu_j (by decide), gu_j (by decide), ad0_6]
        have f7 : tkn (ad0 c s) 100032 7 = nen c s := by unfold tkn; rw [gu_s, hw7]
        have f5 : tkn (ad0 c s) 100032 5 = 2 := by unfold tkn; rw [gu_j (by decide), gu_j (by decide), gu_s]
        have f8 : tkn (ad0 c s) 100032 8 = nmv c s (nen c s) := by unfold tkn; rw [gu_j (by decide), gu_s, hw7, ad0_7, hnm _ (ad0_k (by decide))]
        have f9 : tkn (ad0 c s) 100032 9 = -1 := by unfold tkn; rw [gu_j (by decide), gu_j (by decide), gu_j (by decide), ad0_9]
        obtain ⟨v1, v2⟩ := nmv_e h hs t1 (fun j a b => ibt_b (t4 j a b))
        refine ⟨⟨⟨?_, ?_, ?_⟩, ?_, Or.inr (Or.inl ⟨f5, f9, ?_, ?_⟩)⟩, hI _ _ (k1 _ (by decide)) (k1 _ (by decide)) ?_ ?_⟩
        · rw [f5, gu_s]
        · rw [f6]; unfold mad0; rw [gu_j (by decide), gu_j (by decide), gu_j (by decide), gu_s]
        · rw [f7, hwe]; rw [gu_j (by decide), gu_s]
        · rw [f6, f7, k1 100000 (by decide)]; omega
        · rw [f8]; exact v2
        · rw [f8, hwe, gu_j (by decide), gu_j (by decide), gu_s, v1]
        · unfold mad0; rw [gu_j (by decide), gu_j (by decide), gu_j (by decide), gu_j (by decide), gu_j (by decide)]
        · unfold mad0; funext j; rw [gu_k (by decide), gu_k (by decide), gu_k (by decide), gu_k (by decide), gu_k (by decide)]
      | false =>
        rw [ad1_s e1 w1 w2, mad1_s e2 (by rw [← i1]; exact w1) (by rw [← i2]; exact w2)]
        obtain ⟨a, b⟩ := h.2.2 s hs (by omega)
        rw [if_pos (by omega)] at hbs
        refine ⟨⟨⟨?_, ?_, ?_⟩, ⟨?_, ?_, ?_⟩, Or.inr (Or.inr (Or.inl ⟨?_, ?_, ?_⟩))⟩, hI _ _ ?_ ?_ ?_ ?_⟩
        all_goals try unfold ad0
        all_goals try unfold mad0
        all_goals first
          | (funext j; rw [gu_k (by decide), gu_k (by decide), gu_k (by decide), gu_k (by decide), gu_k (by decide), gu_k (by decide)])
          | (funext j; rw [gu_k (by decide), gu_k (by decide), gu_k (by decide), gu_k (by decide), gu_k (by decide)])
          | (simp (disch := decide) only [gu_k, gu_j, gu_s]; done)
          | (simp (disch := decide) only [gu_k, gu_j, gu_s]; omega)
          | (simp (disch := decide) only [gu_k, gu_j, gu_s]; rw [hbs]; split <;> omega)
end
