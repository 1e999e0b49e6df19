/-! costs as they are told; the centre; turns along a route -/
theorem knw_cv {x : Int} (h : x < 1000000000 → x ≤ 60000) : knw (cv x) = mtl x := by
  unfold knw cv mtl
  by_cases e : x < 1000000000
  · have := h e
    rw [if_pos e, if_neg (by omega), if_neg (by omega)]
  · rw [if_neg e, if_pos (by decide), if_pos (by omega)]
section
variable {c m M : gC} {b : Nat}
theorem route_k (h : TT2 c m M b) (hb : M b = c b) {a z : Int} (ha : mhA c b a = true) (hz : mhA c b z = true) : knw (cbh m a z) = mtl (mle M a z) := by
  have hr := mhA_rg h.nw hz
  obtain ⟨c1, c2, c3⟩ := cbh_e h hb ha (g := z) (Or.inl ⟨hr.1, hr.2, hz⟩)
  rw [c1, knw_cv (fun x => by have := c2 x; omega)]
  unfold mlt
  rw [if_pos hr.2]
theorem path_k (h : TT2 c m M b) (hb : M b = c b) {n t : Int} (hn : 0 ≤ n ∧ n < 10) (ht : 0 ≤ t ∧ t < 10) : knw (cbw m n t) = mtl (mcw M b n t) := by
  obtain ⟨c1, c2⟩ := cbw_e h hb hn ht
  rw [c1, knw_cv (fun x => by have := c2 x; omega)]
theorem ecc_k (h : TT2 c m M b) (hb : M b = c b) {n : Int} (hn : 0 ≤ n ∧ n < 10) : knw (far m n (m 100014 1)) = mtl (mfa M b n) := by
  have e : m 100014 1 = c b 0 := by rw [h.tb.1.1 100014 (by omega) (by omega)]; exact h.nn.1.1.1
  obtain ⟨c1, c2⟩ := far_e h hb hn
  rw [e, c1, knw_cv (fun x => by have := c2 x; omega)]
theorem cycle_k (h : TT2 c m M b) (hb : M b = c b) {a : Int} (ha : mhA c b a = true) : knw (ln m 100014 a + cbh m a (24 + bg m 100014 a)) = mtl (mln M b a + mtn M b a (mbg M b a)) := by
  have hr := mhA_rg h.nw ha
  have hl := mln_rg h.nw hr
  have hg := mbg_rg h.nw hr
  rw [NF_ln h.tb.1.1, NF_bg h.tb.1.1, (NN_ln h.nn h.nw ha).1, (NN_bg h.nn h.nw ha).1, mln_o hb, mbg_o hb]
  obtain ⟨c1, c2, c3⟩ := cbh_e h hb ha (g := 24 + mbg c b a) (Or.inr ⟨by omega, by omega⟩)
  rw [mlt_n (by omega), show 24 + mbg c b a - 24 = mbg c b a by omega] at c1 c2 c3
  rw [c1]
  unfold knw cv mtl
  by_cases e : mtn M b a (mbg c b a) < 1000000000
  · have := c2 e
    rw [if_pos e, if_neg (by omega), if_neg (by omega)]
  · rw [if_neg e, if_pos (by omega), if_pos (by omega)]
theorem centre_k (h : TT2 c m M b) (hb : M b = c b) : (am1 100000000 (fun n => far m n (m 100014 1)) (m 100014 1)).1 = itI (cef M b) (-1) (c b 0) := by
  have e : m 100014 1 = c b 0 := by rw [h.tb.1.1 100014 (by omega) (by omega)]; exact h.nn.1.1.1
  have h0 := h.nw.1.1
  rw [e]
  have key : ∀ i : Nat, (i : Int) ≤ c b 0 → ((am1 100000000 (fun n => far m n (c b 0)) (i : Int)).1 = itI (cef M b) (-1) (i : Int)) ∧ ((itI (cef M b) (-1) (i : Int) = -1 ∧ (am1 100000000 (fun n => far m n (c b 0)) (i : Int)).2 = 100000000) ∨ (¬ itI (cef M b) (-1) (i : Int) = -1 ∧ mfa M b (itI (cef M b) (-1) (i : Int)) ≤ 27450 ∧ (am1 100000000 (fun n => far m n (c b 0)) (i : Int)).2 = mfa M b (itI (cef M b) (-1) (i : Int)))) := by
    intro i
    induction i with
    | zero => intro _; exact ⟨rfl, Or.inl ⟨rfl, rfl⟩⟩
    | succ i ih =>
      intro hi
      obtain ⟨i1, i2⟩ := ih (by omega)
      rw [show ((i + 1 : Nat) : Int) = (i : Int) + 1 by omega, itI_s _ _ (by omega)]
      obtain ⟨f1, f2⟩ := far_e h hb (n := (i : Int)) (by omega)
      generalize itI (cef M b) (-1) (i : Int) = x at *
      unfold cef
      by_cases e1 : mfa M b (i : Int) < 1000000000
      · have f3 := f2 e1
        have f4 : far m (i : Int) (c b 0) = mfa M b (i : Int) := f1.trans (if_pos e1)
        rcases i2 with ⟨j1, j2⟩ | ⟨j1, j2, j3⟩
        · rw [if_pos j1, if_pos e1, am1_lt (by omega) (by rw [f4, j2]; omega)]
          exact ⟨rfl, Or.inr ⟨by omega, f3, f4⟩⟩
        · rw [if_neg j1]
          by_cases e2 : mfa M b (i : Int) < mfa M b x
          · rw [if_pos e2, am1_lt (by omega) (by rw [f4, j3]; exact e2)]
            exact ⟨rfl, Or.inr ⟨by omega, f3, f4⟩⟩
          · rw [if_neg e2, am1_ge (by omega) (by rw [f4, j3]; exact e2)]
            exact ⟨i1, Or.inr ⟨j1, j2, j3⟩⟩
      · have f4 : far m (i : Int) (c b 0) = 100000000 := f1.trans (if_neg e1)
        rcases i2 with ⟨j1, j2⟩ | ⟨j1, j2, j3⟩
        · rw [if_pos j1, if_neg e1, am1_ge (by omega) (by rw [f4, j2]; omega)]
          exact ⟨i1, Or.inl ⟨j1, j2⟩⟩
        · rw [if_neg j1, if_neg (by omega), am1_ge (by omega) (by rw [f4, j3]; omega)]
          exact ⟨i1, Or.inr ⟨j1, j2, j3⟩⟩
  have := key (c b 0).toNat (by omega)
  rw [show ((c b 0).toNat : Int) = c b 0 by omega] at this
  exact this.1
/-- the turn into an arc counts -/
theorem ist_e (h : TT2 c m M b) (hb : M b = c b) {l a kd : Int} (hl : l = -1 ∨ mhA c b l = true) (ha : mhA c b a = true) : ist m l a kd = if ¬ l = -1 ∧ mkd M b l a = kd then 1 else 0 := by
  have hr := mhA_rg h.nw ha
  unfold ist
  rcases hl with e | e
  · rw [if_neg (by intro q; exact q.1.1 e), if_neg (by intro q; exact q.1 e)]
  · have := mhA_rg h.nw e
    rw [NF_tkd h.tb.1.1, NN_kd h.nn h.nw e ha, mkd_o hb]
    by_cases q : mkd c b l a = kd
    · rw [if_pos ⟨⟨by omega, by omega⟩, q⟩, if_pos ⟨by omega, q⟩]
    · rw [if_neg (fun z => q z.2), if_neg (fun z => q z.2)]
theorem tir_s {c : gC} {b : Nat} {l kd k : Int} (h : 0 ≤ k) : tir c b l kd (k + 1) = tif c b kd k (tir c b l kd k) := itI_s _ _ h
theorem tif_2 {c : gC} {b : Nat} {kd k : Int} {x : Int × Int} : (tif c b kd k x).2 = c 200004 k := rfl
/-- the turns of a route in terms of its states -/
theorem tir_st {n l z kd : Int} : ∀ k : Nat, (k : Int) ≤ (lrt M b n l z 24).2 500001 7 → (tir (lrt M b n l z 24).2 b l kd (k : Int)).2 = (lrt M b n l z (k : Int)).1.2.1 := by
  intro k
  cases k with
  | zero => intro _; rfl
  | succ k =>
    intro hk
    rw [show ((k + 1 : Nat) : Int) = (k : Int) + 1 by omega, tir_s (by omega)]
    obtain ⟨-, a2, -⟩ := lrt_arr (M := M) (b := b) (n := n) (l := l) (z := z) 24
    rw [show ((24 : Nat) : Int) = 24 from rfl] at a2
    have e := (a2 (k : Int) (by omega) (by omega)).1
    rw [tif_2]
    exact e
end
