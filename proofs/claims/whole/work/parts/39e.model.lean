/-! the reference: a best plan -/
def LQ (c : gC) : Prop := ∀ i, 0 ≤ i → i < 49152 → 0 ≤ c 200006 i ∧ c 200006 i ≤ 1000000000
def lpi (m : gC) (b : Nat) (all s l : Int) : Int := if s = all then (if men m b (m 200005 l) = m b 2 then 0 else mtn m b (m 200005 l) (m b 2)) else 1000000000
def lpf (m : gC) (s l x best : Int) : Int := if tb s x = true then best else min best (mrb m s l x)
def lpx (m : gC) (b : Nat) (all s l i : Int) : Int := itI (lpf m s l) (lpi m b all s l) i
def lq1 (b : Nat) (n all s l : Int) (m : gC) : gC := if tb s l = true then gu m 200006 (12 * s + l) (min 1000000000 (lpx m b all s l n)) else m
def lq2 (b : Nat) (n all s i : Int) (m : gC) : gC := itI (lq1 b n all s) m i
def lq3 (b : Nat) (n all i : Int) (m : gC) : gC := itI (fun j m => lq2 b n all (all - j) n m) m i
def lpc (m : gC) (b : Nat) (i : Int) : Int := itI (fun f s => min s (mst m b (m 200005 f) + mro2 m (zshl 1 f) f)) 1000000000 i
theorem lq1_t {b : Nat} {n all s l : Int} {m : gC} (h : tb s l = true) : lq1 b n all s l m = gu m 200006 (12 * s + l) (min 1000000000 (lpx m b all s l n)) := if_pos h
theorem lq1_f {b : Nat} {n all s l : Int} {m : gC} (h : tb s l = false) : lq1 b n all s l m = m := if_neg (by rw [h]; exact Bool.false_ne_true)
theorem lpf_t {m : gC} {s l x k : Int} (h : tb s x = true) : lpf m s l x k = k := if_pos h
theorem lpf_f {m : gC} {s l x k : Int} (h : tb s x = false) : lpf m s l x k = min k (mrb m s l x) := if_neg (by rw [h]; exact Bool.false_ne_true)
theorem lpi_rg {m : gC} {b : Nat} {n all s l : Int} (h : PS m b n) (hl : 0 ≤ l ∧ l < n) : 0 ≤ lpi m b all s l ∧ lpi m b all s l ≤ 1000000000 := by
  unfold lpi
  split
  · split
    · omega
    · exact mtn_rg h.2.2.2.1 (h.2.2.1 l hl.1 hl.2)
  · omega
theorem lpx_rg {m : gC} {b : Nat} {n all s l i : Int} (h : PS m b n) (hs : 0 ≤ s ∧ s < 4096) (hl : 0 ≤ l ∧ l < n) (hi : i ≤ n) : 0 ≤ lpx m b all s l i ∧ lpx m b all s l i ≤ 1000000000 := by
  refine itI_inv2 (fun k : Int => 0 ≤ k ∧ k ≤ 1000000000) (N := n) (lpi_rg h hl) (fun x k x0 x1 hk => ?_) hi
  have := mrb_rg h hs hl ⟨x0, x1⟩
  unfold lpf
  split <;> omega
/-- only the table of rests changes -/
def PQ2 (m m' : gC) : Prop := ∀ k : Nat, ¬ k = 200006 → m' k = m k
theorem lq2_ok {m : gC} {b : Nat} {n all s : Int} (hb : ¬ b = 200006) (h : PS m b n) (hs : 0 ≤ s ∧ s < 4096) {i : Int} (hi : i ≤ n) : PS (lq2 b n all s i m) b n ∧ PQ2 m (lq2 b n all s i m) := by
  refine itI_inv2 (fun m' => PS m' b n ∧ PQ2 m m') (N := n) ⟨h, fun _ _ => rfl⟩ (fun l m' l0 l1 hm => ?_) hi
  cases e : tb s l with
  | false => rw [lq1_f e]; exact hm
  | true =>
    rw [lq1_t e]
    have := lpx_rg (all := all) hm.1 hs ⟨l0, l1⟩ (Int.le_refl n)
    exact ⟨PS_gu hm.1 hb (by omega), fun k hk => by rw [← hm.2 k hk]; funext j; exact gu_k hk⟩
theorem lq3_ok {m : gC} {b : Nat} {n all : Int} (hb : ¬ b = 200006) (h : PS m b n) (ha : all < 4096) {i : Int} (hi : i ≤ all) : PS (lq3 b n all i m) b n ∧ PQ2 m (lq3 b n all i m) := by
  refine itI_inv2 (fun m' => PS m' b n ∧ PQ2 m m') (N := all) ⟨h, fun _ _ => rfl⟩ (fun j m' j0 j1 hm => ?_) hi
  obtain ⟨p1, p2⟩ := lq2_ok (all := all) (s := all - j) (i := n) hb hm.1 (by omega) (Int.le_refl n)
  exact ⟨p1, fun k hk => by rw [p2 k hk, hm.2 k hk]⟩
theorem mst_rg {c : gC} {b : Nat} {n j : Int} (h : PS c b n) (hj : 0 ≤ j ∧ j < n) : 0 ≤ mst c b (c 200005 j) ∧ mst c b (c 200005 j) ≤ 1000000000 := mcf_rg h.2.2.2.2.2.1 h.2.2.2.1 (h.2.2.1 j hj.1 hj.2).1
theorem lpc_rg {m : gC} {b : Nat} {n i : Int} (h : PS m b n) (hi : i ≤ n) : 0 ≤ lpc m b i ∧ lpc m b i ≤ 1000000000 := by
  have hn := h.1
  refine itI_inv2 (fun k : Int => 0 ≤ k ∧ k ≤ 1000000000) (N := n) (by decide) (fun f k f0 f1 hk => ?_) hi
  have h1 := mst_rg h ⟨f0, f1⟩
  have h2 := mro2_rg h (shl_1 (show 0 ≤ f ∧ f < 12 by omega)) (show 0 ≤ f ∧ f < 12 by omega)
  try dsimp only
  omega
theorem lpc_att {m : gC} {b : Nat} {i : Int} (h0 : 0 ≤ i) (h : lpc m b i < 1000000000) : ∃ f, (0 ≤ f ∧ f < i) ∧ lof m b (lpc m b i) f = true := by
  have key : ∀ k : Nat, lpc m b (k : Int) < 1000000000 → ∃ f, (0 ≤ f ∧ f < (k : Int)) ∧ mst m b (m 200005 f) + mro2 m (zshl 1 f) f = lpc m b (k : Int) := by
    intro k
    induction k with
    | zero => intro h; exact absurd h (by show ¬ (1000000000 : Int) < 1000000000; omega)
    | succ k ih =>
      intro h
      have e : lpc m b ((k + 1 : Nat) : Int) = min (lpc m b (k : Int)) (mst m b (m 200005 (k : Int)) + mro2 m (zshl 1 (k : Int)) (k : Int)) := by
        unfold lpc
        rw [show ((k + 1 : Nat) : Int) = (k : Int) + 1 by omega, itI_s _ _ (by omega)]
      rw [e] at h ⊢
      by_cases a : mst m b (m 200005 (k : Int)) + mro2 m (zshl 1 (k : Int)) (k : Int) < lpc m b (k : Int)
      · exact ⟨(k : Int), ⟨by omega, by omega⟩, by omega⟩
      · obtain ⟨f, f1, f2⟩ := ih (by omega)
        exact ⟨f, ⟨f1.1, by omega⟩, by omega⟩
  have := key i.toNat
  rw [show ((i.toNat : Nat) : Int) = i by omega] at this
  obtain ⟨f, f1, f2⟩ := this h
  exact ⟨f, f1, decide_eq_true f2⟩
/-- before the table: the arcs that are needed; n of them -/
def lpm (c : gC) (b : Nat) (z : Int) : gC := lnd (mll c b) b z
theorem lpm_ok {c : gC} {b : Nat} {z : Int} (hc : RG c) (hV : NW c b) (hQ : LQ c) (hb : ¬ b = 200003 ∧ ¬ b = 200005 ∧ ¬ b = 500001) (h12 : mcb (mrq c b z) ≤ 12) : PS (lpm c b z) b (mcb (mrq c b z)) ∧ (∀ k : Nat, ¬ k = 200003 → ¬ k = 200005 → ¬ k = 500001 → lpm c b z k = c k) ∧ (∀ j, ¬ j = 9 → lpm c b z 500001 j = c 500001 j) ∧ ∀ j, 0 ≤ j → j < mcb (mrq c b z) → tb (mrq c b z) (lpm c b z 200005 j) = true := by
  obtain ⟨⟨g1, g2⟩, g3⟩ := mll_ok hc hV
  have gq : mrq (mll c b) b z = mrq c b z := mrq_o (g2 b hb.1) z
  obtain ⟨n1, n2, n3, n4, n5⟩ := lnd_i (q := mrq c b z) g1 (i := 24) (by decide) (by decide)
  have e : lpm c b z = itI (lnf (mrq c b z)) (gu (mll c b) 500001 9 0) 24 := by unfold lpm lnd; rw [gq]
  rw [← e] at n1 n2 n3 n4 n5
  have hn := cnt_rg (f := tb (mrq c b z)) (n := 24) (by decide)
  rw [mcb_cnt] at h12 ⊢
  refine ⟨⟨⟨hn.1, h12⟩, n2, fun j p q => (n3 j p q).1, fun i p q => by rw [n4 200003 (by decide) (by decide)]; exact g3 i p q, fun i p q => by rw [n4 200006 (by decide) (by decide), g2 200006 (by decide)]; exact hQ i p q, NW_of hV (by rw [n4 b hb.2.1 hb.2.2, g2 b hb.1]), n1⟩, fun k p q r => by rw [n4 k q r, g2 k p], fun j p => by rw [n5 j p, g2 500001 (by decide)], fun j p q => (n3 j p q).2⟩
/-- the table of rests for it -/
def lpt (c : gC) (b : Nat) (z : Int) : gC := lq3 b (mcb (mrq c b z)) (zshl 1 (mcb (mrq c b z)) - 1) (zshl 1 (mcb (mrq c b z)) - 1) (lpm c b z)
/-- a plan's cost, and what laying it out leaves -/
def lpl (c : gC) (b : Nat) (z : Int) : Int × gC := if mcb (mrq c b z) = 0 then (0, lpm c b z) else if lpc (lpt c b z) b (mcb (mrq c b z)) < 1000000000 then (lpc (lpt c b z) b (mcb (mrq c b z)), (lor (lpt c b z) b (mcb (mrq c b z)) (lpc (lpt c b z) b (mcb (mrq c b z))) (mcb (mrq c b z) - 1)).2) else (lpc (lpt c b z) b (mcb (mrq c b z)), lpt c b z)
theorem lpl_0 {c : gC} {b : Nat} {z : Int} (h : mcb (mrq c b z) = 0) : lpl c b z = (0, lpm c b z) := if_pos h
theorem lpl_1 {c : gC} {b : Nat} {z : Int} (h : ¬ mcb (mrq c b z) = 0) (h2 : lpc (lpt c b z) b (mcb (mrq c b z)) < 1000000000) : lpl c b z = (lpc (lpt c b z) b (mcb (mrq c b z)), (lor (lpt c b z) b (mcb (mrq c b z)) (lpc (lpt c b z) b (mcb (mrq c b z))) (mcb (mrq c b z) - 1)).2) := by unfold lpl; rw [if_neg h, if_pos h2]
theorem lpl_2 {c : gC} {b : Nat} {z : Int} (h : ¬ mcb (mrq c b z) = 0) (h2 : ¬ lpc (lpt c b z) b (mcb (mrq c b z)) < 1000000000) : lpl c b z = (lpc (lpt c b z) b (mcb (mrq c b z)), lpt c b z) := by unfold lpl; rw [if_neg h, if_neg h2]
