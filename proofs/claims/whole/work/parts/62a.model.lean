/-! sets as numbers, once more; the last arc of a best route -/
theorem tb_z {q : Int} (hq : -2147483648 ≤ q ∧ q < 2147483648) (h : ∀ n : Nat, n < 32 → tb q (n : Int) = false) : q = 0 := by
  have h1 : (Int32.ofInt q).toInt = q := Int32.toInt_ofInt_of_le (by omega) (by omega)
  have h2 : (Int32.ofInt q).toBitVec = 0#32 := BitVec.eq_of_getLsbD_eq fun i hi => by
    rw [← tb_bit hi, h i hi]
    simp
  have h3 : (Int32.ofInt q).toBitVec.toInt = q := h1
  rw [h2] at h3
  rw [← h3]
  rfl
theorem tb_lt {q : Int} (hq : -2147483648 ≤ q ∧ q < 2147483648) (h : ∀ n : Nat, 24 ≤ n → n < 32 → tb q (n : Int) = false) : 0 ≤ q ∧ q < 16777216 := by
  have h1 : (Int32.ofInt q).toInt = q := Int32.toInt_ofInt_of_le (by omega) (by omega)
  have h2 : (Int32.ofInt q).toBitVec.toNat < 2 ^ 24 := by
    refine Nat.lt_pow_two_of_testBit _ fun i hi => ?_
    by_cases a : i < 32
    · have := h i hi a
      rw [tb_bit a] at this
      exact this
    · exact BitVec.getLsbD_of_ge _ _ (by omega)
  have h3 : (Int32.ofInt q).toBitVec.toInt = q := h1
  rw [BitVec.toInt_eq_toNat_cond] at h3
  split at h3 <;> omega
theorem mskI_lt (p : Int → Bool) : 0 ≤ mskI p 24 ∧ mskI p 24 < 16777216 := tb_lt (mskI_rg _ _) fun n h1 h2 => by
  rw [mskI_tb p (by decide) (by decide) (by omega) (by omega), decide_eq_false (by omega)]
  rfl
theorem tb_hi {q : Int} (hq : 0 ≤ q ∧ q < 16777216) {n : Nat} (h : 24 ≤ n) (h2 : n < 32) : tb q (n : Int) = false := by
  unfold tb
  rw [zshr_of (by omega) h2]
  have h3 : q / 2 ^ n = 0 := by
    refine Int.ediv_eq_zero_of_lt hq.1 (Int.lt_of_lt_of_le hq.2 ?_)
    rcases (show n = 24 ∨ n = 25 ∨ n = 26 ∨ n = 27 ∨ n = 28 ∨ n = 29 ∨ n = 30 ∨ n = 31 by omega) with e | e | e | e | e | e | e | e <;> subst e <;> decide
  rw [h3]
  rfl
theorem tb_ex {q : Int} (hq : 0 ≤ q ∧ q < 16777216) (h : ¬ q = 0) : ∃ e : Int, (0 ≤ e ∧ e < 24) ∧ tb q e = true := by
  refine Classical.byContradiction fun hn => h (tb_z (by omega) fun n h2 => ?_)
  by_cases a : n < 24
  · cases e : tb q (n : Int) with
    | false => rfl
    | true => exact absurd ⟨(n : Int), ⟨by omega, by omega⟩, e⟩ hn
  · exact tb_hi hq (by omega) h2
theorem tb_clr {q x e : Int} (hx : 0 ≤ x ∧ x < 32) (he : 0 ≤ e ∧ e < 32) : tb (clr q x) e = (tb q e && !decide (x = e)) := by
  have e1 : (e : Int) = ((e.toNat : Nat) : Int) := by omega
  have e2 : (x : Int) = ((x.toNat : Nat) : Int) := by omega
  have hn : e.toNat < 32 := by omega
  have h3 : tb (zshl 1 x) e = decide (x = e) := tb_1 hx he
  rw [e1] at h3 ⊢
  unfold clr
  rw [tb_bit hn] at h3 ⊢
  rw [tb_bit hn]
  unfold zand zxor
  rw [Int32.ofInt_toInt, Int32.toBitVec_and, BitVec.getLsbD_and, Int32.ofInt_toInt, Int32.toBitVec_xor, BitVec.getLsbD_xor, h3]
  have h4 : (Int32.ofInt (-1)).toBitVec.getLsbD e.toNat = true := by
    have : ∀ n : Nat, n < 32 → (Int32.ofInt (-1)).toBitVec.getLsbD n = true := by decide
    exact this _ hn
  rw [h4]
  simp
theorem clr_rg2 {q x : Int} (hq : 0 ≤ q ∧ q < 16777216) : 0 ≤ clr q x ∧ clr q x < 16777216 := by
  have := zand_rg (a := q) (b := zxor (zshl 1 x) (-1)) (by omega)
  unfold clr
  omega
/-- a set without the first i of a row -/
def clrs (r : Int → Int) (q i : Int) : Int := itI (fun k s => clr s (r k)) q i
theorem clrs_ok {r : Int → Int} {q N : Int} (hq : 0 ≤ q ∧ q < 16777216) (hr : ∀ k, 0 ≤ k → k < N → 0 ≤ r k ∧ r k < 24) {i : Int} (h0 : 0 ≤ i) (h1 : i ≤ N) : (0 ≤ clrs r q i ∧ clrs r q i < 16777216) ∧ (∀ e, 0 ≤ e → e < 24 → tb (clrs r q i) e = true → tb q e = true) ∧ ∀ k, 0 ≤ k → k < i → tb (clrs r q i) (r k) = false := by
  refine itI_inv3 (fun i (s : Int) => (0 ≤ s ∧ s < 16777216) ∧ (∀ e, 0 ≤ e → e < 24 → tb s e = true → tb q e = true) ∧ ∀ k, 0 ≤ k → k < i → tb s (r k) = false) (N := N) ⟨hq, fun _ _ _ h => h, fun k a b => by omega⟩ (fun j s j0 j1 hs => ?_) h0 h1
  obtain ⟨s1, s2, s3⟩ := hs
  have hj := hr j j0 j1
  refine ⟨clr_rg2 s1, fun e a b h => ?_, fun k a b => ?_⟩
  · rw [tb_clr (by omega) (by omega), Bool.and_eq_true] at h
    exact s2 e a b h.1
  · have hk := hr k a (by omega)
    rw [tb_clr (by omega) (by omega)]
    by_cases e : j = k
    · rw [e]; simp
    · rw [s3 k a (by omega)]; rfl
theorem lrt_la {c : gC} {b : Nat} {n l z : Int} (hc : RG c) (hV : NW c b) (hL : LR c) (hz : 0 ≤ z) (hO : LO c b z) (hn : -2147483648 ≤ n ∧ n < 2147483648) (hl : -1 ≤ l ∧ l < 24) (hm : mcf c b n l z < 1000000000) : ∀ k : Nat, k ≤ 24 → ((lrt c b n l z k).1.2.2 = mcf c b n l z) ∨ ((1 ≤ (lrt c b n l z k).2 500001 7 ∧ (lrt c b n l z k).2 200004 ((lrt c b n l z k).2 500001 7 - 1) = (lrt c b n l z k).1.2.1) ∧ ((lrt c b n l z k).1.2.2 = mlt c b (lrt c b n l z k).1.2.1 z ∧ mhA c b (lrt c b n l z k).1.2.1 = true)) := by
  intro k
  induction k with
  | zero => intro _; exact Or.inl rfl
  | succ k ih =>
    intro hk
    have ih := ih (by omega)
    obtain ⟨y1, y2, y3, y4, y5, y6, y7⟩ := lrt_ok hc hV hL hz hO hn hl hm (i := (k : Int)) (by omega) (by omega)
    have e9 : lrt c b n l z ((k + 1 : Nat) : Int) = lrs c b z (k : Int) (lrt c b n l z (k : Int)) := by
      rw [show ((k + 1 : Nat) : Int) = (k : Int) + 1 by omega]
      unfold lrt
      rw [itI_s _ _ (by omega)]
    rw [e9]
    by_cases hs : 0 < (lrt c b n l z (k : Int)).1.2.2
    · obtain ⟨z1, z2, z3⟩ := y1 hs
      obtain ⟨e1, e2, e3⟩ := fe_ok hV z1
      rw [lrs_t hs]
      refine Or.inr ⟨⟨?_, ?_⟩, rfl, (fep_b e2).1⟩
      · dsimp only; rw [gu_s]; omega
      · dsimp only
        rw [gu_s, gu_k (by decide), show (lrt c b n l z (k : Int)).2 500001 7 + 1 - 1 = (lrt c b n l z (k : Int)).2 500001 7 by omega, gu_s]
    · rw [lrs_f hs]
      exact ih
/-- the last arc of a route to an arc is that arc -/
theorem lrt_end {c : gC} {b : Nat} {n l z : Int} (hc : RG c) (hV : NW c b) (hL : LR c) (hz : 0 ≤ z ∧ z < 24) (hO : LO c b z) (hn : -2147483648 ≤ n ∧ n < 2147483648) (hl : -1 ≤ l ∧ l < 24) (hm : mcf c b n l z < 1000000000) (h1 : ∀ x, mhA c b x = true → mle c x z = 0 → x = z) : 1 ≤ (lrt c b n l z 24).2 500001 7 ∧ (lrt c b n l z 24).2 200004 ((lrt c b n l z 24).2 500001 7 - 1) = z := by
  obtain ⟨y1, y2, y3, y4, y5, y6, y7⟩ := lrt_ok hc hV hL hz.1 hO hn hl hm (i := 24) (by decide) (by decide)
  have hp := mcf_pos (n := n) (l := l) hV hL hz.1 hO
  have hs : ¬ 0 < (lrt c b n l z 24).1.2.2 := fun hs => by
    obtain ⟨⟨e, he⟩, z2, z3⟩ := y1 hs
    have f := fep_b he
    have hr := mhA_rg hV f.1
    have g1 : 1 ≤ mnc c b (lrt c b n l z 24).1.2.1 e := by
      have u1 := hO.1 _ f.1
      have u2 := mct_rg (a := (lrt c b n l z 24).1.2.1) (e := e) hV
      unfold mnc; split <;> omega
    have := cnt_lt (n := 24) (e := e) (f := fun e => mhA c b e && decide (mlt c b e z < (lrt c b n l z 24).1.2.2)) (f' := fun e => false) hr.1 hr.2 (fun e he => by cases he) (by simp only [Bool.and_eq_true, decide_eq_true_eq]; exact ⟨f.1, by omega⟩) rfl
    have := (cnt_rg (f := fun _ => false) (n := 24) (by decide)).1
    omega
  have hla := lrt_la hc hV hL hz.1 hO hn hl hm 24 (by decide)
  rw [show ((24 : Nat) : Int) = 24 from rfl] at hla
  rcases hla with h | ⟨⟨h2, h3⟩, h4, h5⟩
  · rw [h] at hs
    exact absurd hp hs
  · refine ⟨h2, h3.trans (h1 _ h5 ?_)⟩
    have : mlt c b (lrt c b n l z 24).1.2.1 z = 0 := by
      rw [← h4]
      have := y2.2
      omega
    unfold mlt at this
    rw [if_pos hz.2] at this
    exact this
/-- the cheapest of the set's arcs, the first of them -/
def gbf (c : gC) (b : Nat) (n l q k s : Int) : Int := if tb q k = true ∧ (s = -1 ∨ mcf c b n l k < mcf c b n l s) then k else s
def gbt (c : gC) (b : Nat) (n l q : Int) : Int := itI (gbf c b n l q) (-1) 24
theorem gbf_a {c : gC} {b : Nat} {n l q k s : Int} (h : tb q k = false) : gbf c b n l q k s = s := if_neg fun x => by rw [h] at x; exact absurd x.1 (by decide)
theorem gbf_b {c : gC} {b : Nat} {n l q k s : Int} (h : tb q k = true) (h2 : s = -1 ∨ mcf c b n l k < mcf c b n l s) : gbf c b n l q k s = k := if_pos ⟨h, h2⟩
theorem gbf_d {c : gC} {b : Nat} {n l q k s : Int} (h : ¬ (s = -1 ∨ mcf c b n l k < mcf c b n l s)) : gbf c b n l q k s = s := if_neg fun x => h x.2
theorem gbf_ok {c : gC} {b : Nat} {n l q i : Int} (h0 : 0 ≤ i) : (-1 ≤ itI (gbf c b n l q) (-1) i ∧ itI (gbf c b n l q) (-1) i < i) ∧ (¬ itI (gbf c b n l q) (-1) i = -1 → tb q (itI (gbf c b n l q) (-1) i) = true) ∧ (itI (gbf c b n l q) (-1) i = -1 → ∀ j, 0 ≤ j → j < i → tb q j = false) := by
  refine itI_inv3 (fun k (s : Int) => (-1 ≤ s ∧ s < k) ∧ (¬ s = -1 → tb q s = true) ∧ (s = -1 → ∀ j, 0 ≤ j → j < k → tb q j = false)) (N := i) ⟨by decide, fun h => absurd rfl h, fun _ j a b => by omega⟩ (fun k s k0 k1 hs => ?_) h0 (Int.le_refl _)
  obtain ⟨s1, s2, s3⟩ := hs
  unfold gbf
  split
  · rename_i h
    exact ⟨by omega, fun _ => h.1, fun e => by omega⟩
  · rename_i h
    refine ⟨by omega, s2, fun e j a b => ?_⟩
    by_cases e2 : j = k
    · rw [e2]
      cases e3 : tb q k with
      | false => rfl
      | true => exact absurd ⟨e3, Or.inl e⟩ h
    · exact s3 e j a (by omega)
theorem gbt_ok {c : gC} {b : Nat} {n l q : Int} (hq : 0 ≤ q ∧ q < 16777216) (h : ¬ q = 0) : (0 ≤ gbt c b n l q ∧ gbt c b n l q < 24) ∧ tb q (gbt c b n l q) = true := by
  have h1 := gbf_ok (c := c) (b := b) (n := n) (l := l) (q := q) (i := 24) (by decide)
  obtain ⟨e, e1, e2⟩ := tb_ex hq h
  change (-1 ≤ gbt c b n l q ∧ gbt c b n l q < 24) ∧ (¬ gbt c b n l q = -1 → tb q (gbt c b n l q) = true) ∧ (gbt c b n l q = -1 → ∀ j, 0 ≤ j → j < 24 → tb q j = false) at h1
  have h2 : ¬ gbt c b n l q = -1 := fun x => by
    have := h1.2.2 x e e1.1 e1.2
    rw [e2] at this; cases this
  exact ⟨by omega, h1.2.1 h2⟩
