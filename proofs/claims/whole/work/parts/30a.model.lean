/-! the reference (it lies at 500001, its arrays at 200000..200010; b: the network it looks at) -/
def MA (T : gT) : Prop := ((T.1 200000).1 = 1 ∧ (T.1 200000).2.1 = 208) ∧ ((T.1 200001).1 = 1 ∧ (T.1 200001).2.1 = 208) ∧ ((T.1 200002).1 = 1 ∧ (T.1 200002).2.1 = 208) ∧ ((T.1 200003).1 = 1 ∧ (T.1 200003).2.1 = 576) ∧ ((T.1 200004).1 = 1 ∧ (T.1 200004).2.1 = 25) ∧ ((T.1 200005).1 = 1 ∧ (T.1 200005).2.1 = 24) ∧ ((T.1 200006).1 = 1 ∧ (T.1 200006).2.1 = 49152) ∧ ((T.1 200007).1 = 1 ∧ (T.1 200007).2.1 = 12) ∧ ((T.1 200008).1 = 1 ∧ (T.1 200008).2.1 = 2080) ∧ ((T.1 200009).1 = 2 ∧ (T.1 200009).2.1 = 1200) ∧ (T.1 200010).1 = 2 ∧ (T.1 200010).2.1 = 1500
def MT (T : gT) (b : Nat) : Prop := (T.1 500001).1 = 19 ∧ ((T.1 500001).2.2 1 = 200000 + 1 ∧ (T.1 500001).2.2 2 = 200001 + 1 ∧ (T.1 500001).2.2 3 = 200002 + 1 ∧ (T.1 500001).2.2 5 = 200003 + 1 ∧ (T.1 500001).2.2 6 = 200004 + 1 ∧ (T.1 500001).2.2 8 = 200005 + 1 ∧ (T.1 500001).2.2 10 = 200006 + 1 ∧ (T.1 500001).2.2 11 = 200007 + 1 ∧ (T.1 500001).2.2 12 = 200008 + 1 ∧ (T.1 500001).2.2 14 = 200009 + 1 ∧ (T.1 500001).2.2 24 = 200010 + 1) ∧ (T.1 500001).2.2 4 = b + 1 ∧ (b = 200000 ∨ b = 200001 ∨ b = 200002) ∧ MA T
theorem MT_0 {T : gT} {b : Nat} (h : MT T b) : (T.1 500001).1 = 19 := h.1
theorem MT_now {T : gT} {b : Nat} (h : MT T b) : (T.1 500001).2.2 4 = b + 1 := h.2.2.1
theorem MT_b {T : gT} {b : Nat} (h : MT T b) : b = 200000 ∨ b = 200001 ∨ b = 200002 := h.2.2.2.1
theorem MT_r0 {T : gT} {b : Nat} (h : MT T b) : (T.1 500001).2.2 1 = 200000 + 1 := h.2.1.1
theorem MT_r1 {T : gT} {b : Nat} (h : MT T b) : (T.1 500001).2.2 2 = 200001 + 1 := h.2.1.2.1
theorem MT_r2 {T : gT} {b : Nat} (h : MT T b) : (T.1 500001).2.2 3 = 200002 + 1 := h.2.1.2.2.1
theorem MT_r3 {T : gT} {b : Nat} (h : MT T b) : (T.1 500001).2.2 5 = 200003 + 1 := h.2.1.2.2.2.1
theorem MT_r4 {T : gT} {b : Nat} (h : MT T b) : (T.1 500001).2.2 6 = 200004 + 1 := h.2.1.2.2.2.2.1
theorem MT_r5 {T : gT} {b : Nat} (h : MT T b) : (T.1 500001).2.2 8 = 200005 + 1 := h.2.1.2.2.2.2.2.1
theorem MT_r6 {T : gT} {b : Nat} (h : MT T b) : (T.1 500001).2.2 10 = 200006 + 1 := h.2.1.2.2.2.2.2.2.1
theorem MT_r7 {T : gT} {b : Nat} (h : MT T b) : (T.1 500001).2.2 11 = 200007 + 1 := h.2.1.2.2.2.2.2.2.2.1
theorem MT_r8 {T : gT} {b : Nat} (h : MT T b) : (T.1 500001).2.2 12 = 200008 + 1 := h.2.1.2.2.2.2.2.2.2.2.1
theorem MT_r9 {T : gT} {b : Nat} (h : MT T b) : (T.1 500001).2.2 14 = 200009 + 1 := h.2.1.2.2.2.2.2.2.2.2.2.1
theorem MT_r10 {T : gT} {b : Nat} (h : MT T b) : (T.1 500001).2.2 24 = 200010 + 1 := h.2.1.2.2.2.2.2.2.2.2.2.2
theorem MT_t0 {T : gT} {b : Nat} (h : MT T b) : (T.1 200000).1 = 1 := h.2.2.2.2.1.1
theorem MT_l0 {T : gT} {b : Nat} (h : MT T b) : (T.1 200000).2.1 = 208 := h.2.2.2.2.1.2
theorem MT_t1 {T : gT} {b : Nat} (h : MT T b) : (T.1 200001).1 = 1 := h.2.2.2.2.2.1.1
theorem MT_l1 {T : gT} {b : Nat} (h : MT T b) : (T.1 200001).2.1 = 208 := h.2.2.2.2.2.1.2
theorem MT_t2 {T : gT} {b : Nat} (h : MT T b) : (T.1 200002).1 = 1 := h.2.2.2.2.2.2.1.1
theorem MT_l2 {T : gT} {b : Nat} (h : MT T b) : (T.1 200002).2.1 = 208 := h.2.2.2.2.2.2.1.2
theorem MT_t3 {T : gT} {b : Nat} (h : MT T b) : (T.1 200003).1 = 1 := h.2.2.2.2.2.2.2.1.1
theorem MT_l3 {T : gT} {b : Nat} (h : MT T b) : (T.1 200003).2.1 = 576 := h.2.2.2.2.2.2.2.1.2
theorem MT_t4 {T : gT} {b : Nat} (h : MT T b) : (T.1 200004).1 = 1 := h.2.2.2.2.2.2.2.2.1.1
theorem MT_l4 {T : gT} {b : Nat} (h : MT T b) : (T.1 200004).2.1 = 25 := h.2.2.2.2.2.2.2.2.1.2
theorem MT_t5 {T : gT} {b : Nat} (h : MT T b) : (T.1 200005).1 = 1 := h.2.2.2.2.2.2.2.2.2.1.1
theorem MT_l5 {T : gT} {b : Nat} (h : MT T b) : (T.1 200005).2.1 = 24 := h.2.2.2.2.2.2.2.2.2.1.2
theorem MT_t6 {T : gT} {b : Nat} (h : MT T b) : (T.1 200006).1 = 1 := h.2.2.2.2.2.2.2.2.2.2.1.1
theorem MT_l6 {T : gT} {b : Nat} (h : MT T b) : (T.1 200006).2.1 = 49152 := h.2.2.2.2.2.2.2.2.2.2.1.2
theorem MT_t7 {T : gT} {b : Nat} (h : MT T b) : (T.1 200007).1 = 1 := h.2.2.2.2.2.2.2.2.2.2.2.1.1
theorem MT_l7 {T : gT} {b : Nat} (h : MT T b) : (T.1 200007).2.1 = 12 := h.2.2.2.2.2.2.2.2.2.2.2.1.2
theorem MT_t8 {T : gT} {b : Nat} (h : MT T b) : (T.1 200008).1 = 1 := h.2.2.2.2.2.2.2.2.2.2.2.2.1.1
theorem MT_l8 {T : gT} {b : Nat} (h : MT T b) : (T.1 200008).2.1 = 2080 := h.2.2.2.2.2.2.2.2.2.2.2.2.1.2
theorem MT_t9 {T : gT} {b : Nat} (h : MT T b) : (T.1 200009).1 = 2 := h.2.2.2.2.2.2.2.2.2.2.2.2.2.1.1
theorem MT_l9 {T : gT} {b : Nat} (h : MT T b) : (T.1 200009).2.1 = 1200 := h.2.2.2.2.2.2.2.2.2.2.2.2.2.1.2
theorem MT_t10 {T : gT} {b : Nat} (h : MT T b) : (T.1 200010).1 = 2 := h.2.2.2.2.2.2.2.2.2.2.2.2.2.2.1
theorem MT_l10 {T : gT} {b : Nat} (h : MT T b) : (T.1 200010).2.1 = 1500 := h.2.2.2.2.2.2.2.2.2.2.2.2.2.2.2
theorem MT_bt {T : gT} {b : Nat} (h : MT T b) : (T.1 b).1 = 1 := by
  rcases MT_b h with e | e | e <;> subst e
  · exact MT_t0 h
  · exact MT_t1 h
  · exact MT_t2 h
theorem MT_bl {T : gT} {b : Nat} (h : MT T b) : (T.1 b).2.1 = 208 := by
  rcases MT_b h with e | e | e <;> subst e
  · exact MT_l0 h
  · exact MT_l1 h
  · exact MT_l2 h
/-- the network's numbers -/
def NW (c : gC) (b : Nat) : Prop := ((0 ≤ c b 0 ∧ c b 0 ≤ 10) ∧ (0 ≤ c b 1 ∧ c b 1 ≤ 12)) ∧ ((-1 ≤ c b 2 ∧ c b 2 < 10) ∧ (0 ≤ c b 3 ∧ c b 3 ≤ 9999)) ∧ (∀ i : Int, 0 ≤ i → i < 4 → 0 ≤ c b (11 + i) ∧ c b (11 + i) ≤ 99) ∧ (∀ i : Int, 0 ≤ i → i < 3 → 0 ≤ c b (15 + i) ∧ c b (15 + i) ≤ 99) ∧ (∀ n : Int, 0 ≤ n → n < 10 → (0 ≤ c b (22 + 3 * n + 1) ∧ c b (22 + 3 * n + 1) ≤ 99) ∧ (0 ≤ c b (22 + 3 * n + 2) ∧ c b (22 + 3 * n + 2) ≤ 99)) ∧
  (∀ r : Int, 0 ≤ r → r < 12 → (0 ≤ c b (52 + 7 * r + 1) ∧ c b (52 + 7 * r + 1) < 10) ∧ (0 ≤ c b (52 + 7 * r + 2) ∧ c b (52 + 7 * r + 2) < 10) ∧ (0 ≤ c b (52 + 7 * r + 3) ∧ c b (52 + 7 * r + 3) ≤ 999) ∧ (0 ≤ c b (52 + 7 * r + 4) ∧ c b (52 + 7 * r + 4) ≤ 3))
/-- the plough's numbers -/
def WW (c : gC) (b : Nat) (B : Int) : Prop := ((0 ≤ B ∧ B ≤ 1500000000) ∧ (0 ≤ c b 4 ∧ c b 4 ≤ 99)) ∧ ((0 ≤ c b 5 ∧ c b 5 ≤ B) ∧ (-1 ≤ c b 6 ∧ c b 6 < 10)) ∧ ((-1 ≤ c b 7 ∧ c b 7 < 24) ∧ (0 ≤ c b 8 ∧ c b 8 ≤ 9999)) ∧ ((0 ≤ c b 9 ∧ c b 9 ≤ B) ∧ (0 ≤ c b 10 ∧ c b 10 ≤ B)) ∧ (∀ i : Int, 0 ≤ i → i < 4 → 0 ≤ c b (18 + i) ∧ c b (18 + i) ≤ B) ∧ ∀ a : Int, 0 ≤ a → a < 24 → (0 ≤ c b (136 + 3 * a) ∧ c b (136 + 3 * a) ≤ 2000) ∧ (0 ≤ c b (136 + 3 * a + 1) ∧ c b (136 + 3 * a + 1) ≤ B + 1800) ∧ (0 ≤ c b (136 + 3 * a + 2) ∧ c b (136 + 3 * a + 2) ≤ B)
theorem NW_of {c m : gC} {b b' : Nat} (h : NW c b) (e : m b' = c b) : NW m b' := by
  unfold NW at h ⊢
  rw [e]
  exact h
theorem WW_of {c m : gC} {b b' : Nat} {B : Int} (h : WW c b B) (e : m b' = c b) : WW m b' B := by
  unfold WW at h ⊢
  rw [e]
  exact h
/-- what is told of a call: thrown -/
def tw (c : gC) (z : Int) : gC := gu c 500001 0 z
theorem tw_k {c : gC} {z : Int} {k : Nat} (h : ¬ k = 500001) : tw c z k = c k := funext fun j => gu_k h
theorem tw_RG {c : gC} {z : Int} (h : RG c) (hz : -2147483648 ≤ z ∧ z < 2147483648) : RG (tw c z) := RG_gu h hz
def pc3 (p q r : Bool) : Int := if p = false then 1 else if q = false then 2 else if r = false then 3 else 0
def inr (v l h : Int) : Bool := decide (l ≤ v) && decide (v ≤ h)
theorem inr_t {v l h : Int} : inr v l h = true ↔ l ≤ v ∧ v ≤ h := by unfold inr; simp
theorem inr_f {v l h : Int} : inr v l h = false ↔ ¬ (l ≤ v ∧ v ≤ h) := by unfold inr; simp
def rof (c : gC) (b : Nat) (r f : Int) : Int := c b (52 + 7 * r + f)
def mhA (c : gC) (b : Nat) (a : Int) : Bool := inr a 0 (2 * c b 1 - 1) && (decide (a % 2 = 0) || decide (c b (52 + 7 * (a / 2) + 5) = 0))
def mbg (c : gC) (b : Nat) (a : Int) : Int := c b (52 + 7 * (a / 2) + (if a % 2 = 0 then 1 else 2))
def men (c : gC) (b : Nat) (a : Int) : Int := c b (52 + 7 * (a / 2) + (if a % 2 = 0 then 2 else 1))
def mln (c : gC) (b : Nat) (a : Int) : Int := c b (52 + 7 * (a / 2) + 3)
def mcl (c : gC) (b : Nat) (a : Int) : Int := c b (52 + 7 * (a / 2) + 4)
def mxo (c : gC) (b : Nat) (n : Int) : Int := c b (22 + 3 * n + 1)
def myo (c : gC) (b : Nat) (n : Int) : Int := c b (22 + 3 * n + 2)
def mkd (c : gC) (b : Nat) (a e : Int) : Int :=
  let dx := mxo c b (men c b a) - mxo c b (mbg c b a)
  let dy := myo c b (men c b a) - myo c b (mbg c b a)
  let ex := mxo c b (men c b e) - mxo c b (mbg c b e)
  let ey := myo c b (men c b e) - myo c b (mbg c b e)
  if 0 < dx * ey - dy * ex then 2 else if dx * ey - dy * ex < 0 then 1 else if 0 < dx * ex + dy * ey then 0 else 3
def mct (c : gC) (b : Nat) (a e : Int) : Int := c b (11 + mkd c b a e)
def mfo (c : gC) (b : Nat) (a e : Int) : Bool := mhA c b e && decide (men c b a = mbg c b e)
def mle (c : gC) (a e : Int) : Int := c 200003 (24 * a + e)
theorem mhA_rg {c : gC} {b : Nat} {a : Int} (hV : NW c b) (h : mhA c b a = true) : 0 ≤ a ∧ a < 24 := by
  have := hV.1.2
  unfold mhA inr at h
  simp only [Bool.and_eq_true, decide_eq_true_eq] at h
  omega
theorem mbg_rg {c : gC} {b : Nat} {a : Int} (hV : NW c b) (h : 0 ≤ a ∧ a < 24) : 0 ≤ mbg c b a ∧ mbg c b a < 10 := by
  have := hV.2.2.2.2.2 (a / 2) (by omega) (by omega)
  unfold mbg
  split <;> omega
theorem men_rg {c : gC} {b : Nat} {a : Int} (hV : NW c b) (h : 0 ≤ a ∧ a < 24) : 0 ≤ men c b a ∧ men c b a < 10 := by
  have := hV.2.2.2.2.2 (a / 2) (by omega) (by omega)
  unfold men
  split <;> omega
theorem mln_rg {c : gC} {b : Nat} {a : Int} (hV : NW c b) (h : 0 ≤ a ∧ a < 24) : 0 ≤ mln c b a ∧ mln c b a ≤ 999 := (hV.2.2.2.2.2 (a / 2) (by omega) (by omega)).2.2.1
theorem mcl_rg {c : gC} {b : Nat} {a : Int} (hV : NW c b) (h : 0 ≤ a ∧ a < 24) : 0 ≤ mcl c b a ∧ mcl c b a ≤ 3 := (hV.2.2.2.2.2 (a / 2) (by omega) (by omega)).2.2.2
theorem mkd_rg {c : gC} {b : Nat} {a e : Int} : 0 ≤ mkd c b a e ∧ mkd c b a e ≤ 3 := by
  unfold mkd
  dsimp only
  split
  · omega
  · split
    · omega
    · split <;> omega
theorem mct_rg {c : gC} {b : Nat} {a e : Int} (hV : NW c b) : 0 ≤ mct c b a e ∧ mct c b a e ≤ 99 := by
  have := mkd_rg (c := c) (b := b) (a := a) (e := e)
  exact hV.2.2.1 _ (by omega) (by omega)
set_option maxHeartbeats 1000000 in
theorem m_thrown {g : Nat} {T : gT} {c J : gC} {b : Nat} (hM : MT T b) (hc : RG c) : gE g 175 0 [.ref 500001] (gm T c J) (gR (gi (c 500001 0)) (gm T c J)) := by
  refine gE_mk am_r175 rfl (Or.inr ⟨_, rfl, (by first | exact MT_0 hM | exact MT_now hM | exact MT_bt hM | exact MT_bl hM | exact MT_r0 hM | exact MT_t0 hM | exact MT_l0 hM | exact MT_r1 hM | exact MT_t1 hM | exact MT_l1 hM | exact MT_r2 hM | exact MT_t2 hM | exact MT_l2 hM | exact MT_r3 hM | exact MT_t3 hM | exact MT_l3 hM | exact MT_r4 hM | exact MT_t4 hM | exact MT_l4 hM | exact MT_r5 hM | exact MT_t5 hM | exact MT_l5 hM | exact MT_r6 hM | exact MT_t6 hM | exact MT_l6 hM | exact MT_r7 hM | exact MT_t7 hM | exact MT_l7 hM | exact MT_r8 hM | exact MT_t8 hM | exact MT_l8 hM | exact MT_r9 hM | exact MT_t9 hM | exact MT_l9 hM | exact MT_r10 hM | exact MT_t10 hM | exact MT_l10 hM)⟩) (fun d hd => ?_)
  show gw d g 175 0 [.ref 500001] [] _ _
  refine gw_al0 at175_0 (gw_gf (j := 0) at175_1 (by first | exact MT_0 hM | exact MT_now hM | exact MT_bt hM | exact MT_bl hM | exact MT_r0 hM | exact MT_t0 hM | exact MT_l0 hM | exact MT_r1 hM | exact MT_t1 hM | exact MT_l1 hM | exact MT_r2 hM | exact MT_t2 hM | exact MT_l2 hM | exact MT_r3 hM | exact MT_t3 hM | exact MT_l3 hM | exact MT_r4 hM | exact MT_t4 hM | exact MT_l4 hM | exact MT_r5 hM | exact MT_t5 hM | exact MT_l5 hM | exact MT_r6 hM | exact MT_t6 hM | exact MT_l6 hM | exact MT_r7 hM | exact MT_t7 hM | exact MT_l7 hM | exact MT_r8 hM | exact MT_t8 hM | exact MT_l8 hM | exact MT_r9 hM | exact MT_t9 hM | exact MT_l9 hM | exact MT_r10 hM | exact MT_t10 hM | exact MT_l10 hM) rfl (gw_ri at175_4 am_r175.2.1 (gR_i ?_)))
  rfl
set_option maxHeartbeats 1000000 in
theorem m_in {g : Nat} {T : gT} {c J : gC} {v l h : Int} (hv : -9223372036854775808 ≤ v ∧ v < 9223372036854775808) (hl : -9223372036854775808 ≤ l ∧ l < 9223372036854775808) (hh : -9223372036854775808 ≤ h ∧ h < 9223372036854775808) : gE g 176 0 [gl v, gl l, gl h] (gm T c J) (gR (gi (bi (inr v l h))) (gm T c J)) := by
  refine gE_mk am_r176 rfl (Or.inl rfl) (fun d hd => ?_)
  show gw d g 176 0 [gl v, am_U, gl l, am_U, gl h, am_U] [] _ _
  refine gw_ll0 at176_0 (gw_ll2 at176_1 ?_)
  refine gw_lclt at176_2 at176_3 (by omega) (by omega) (fun q2 => ?_) (fun q2 => ?_)
  · refine gw_const at176_17 (gw_r0 at176_18 am_r176.2.1 (gR_b ?_))
    unfold inr; simp; omega
  · refine gw_ll0 at176_6 (gw_ll4 at176_7 ?_)
    refine gw_lcgt at176_9 at176_10 (by omega) (by omega) (fun q9 => ?_) (fun q9 => ?_)
    · refine gw_const at176_17 (gw_r0 at176_18 am_r176.2.1 (gR_b ?_))
      unfold inr; simp; omega
    · refine gw_const at176_13 (gw_goto at176_14 (gw_r1 at176_18 am_r176.2.1 (gR_b ?_)))
      unfold inr; simp; omega
set_option maxHeartbeats 1000000 in
theorem m_hasBit {g : Nat} {T : gT} {c J : gC} {s e : Int} : gE g 177 0 [gi s, gi e] (gm T c J) (gR (gi (bi (tb s e))) (gm T c J)) := by
  refine gE_mk am_r177 rfl (Or.inl rfl) (fun d hd => ?_)
  show gw d g 177 0 [gi s, gi e] [] _ _
  refine gw_il0 at177_0 (gw_il1 at177_1 (gw_ishr at177_2 (gw_const at177_3 (gw_and1 at177_4 (gw_const at177_5 ?_)))))
  refine gw_cne at177_6 (by first | omega | exact zrg _) (by first | omega | exact zrg _) (fun q6 => ?_) (fun q6 => ?_)
  · refine gw_const at177_13 (gw_r0 at177_14 am_r177.2.1 (gR_b ?_))
    unfold tb; simp; omega
  · refine gw_const at177_9 (gw_goto at177_10 (gw_r1 at177_14 am_r177.2.1 (gR_b ?_)))
    unfold tb; simp; omega
set_option maxHeartbeats 1000000 in
theorem m_pas3 {g : Nat} {T : gT} {c J : gC} {b : Nat} (hM : MT T b) (hc : RG c) {p q r : Bool} : gE g 178 0 [.ref 500001, gi (bi p), gi (bi q), gi (bi r)] (gm T c J) (fun o M1 => o = .inl (some (gi (bi (decide (pc3 p q r = 0))))) ∧ M1 = gm T (tw c (pc3 p q r)) J) := by
  refine gE_mk am_r178 rfl (Or.inr ⟨_, rfl, (by first | exact MT_0 hM | exact MT_now hM | exact MT_bt hM | exact MT_bl hM | exact MT_r0 hM | exact MT_t0 hM | exact MT_l0 hM | exact MT_r1 hM | exact MT_t1 hM | exact MT_l1 hM | exact MT_r2 hM | exact MT_t2 hM | exact MT_l2 hM | exact MT_r3 hM | exact MT_t3 hM | exact MT_l3 hM | exact MT_r4 hM | exact MT_t4 hM | exact MT_l4 hM | exact MT_r5 hM | exact MT_t5 hM | exact MT_l5 hM | exact MT_r6 hM | exact MT_t6 hM | exact MT_l6 hM | exact MT_r7 hM | exact MT_t7 hM | exact MT_l7 hM | exact MT_r8 hM | exact MT_t8 hM | exact MT_l8 hM | exact MT_r9 hM | exact MT_t9 hM | exact MT_l9 hM | exact MT_r10 hM | exact MT_t10 hM | exact MT_l10 hM)⟩) (fun d hd => ?_)
  show gw d g 178 0 [.ref 500001, gi (bi p), gi (bi q), gi (bi r)] [] _ _
  refine gw_al0 at178_0 (gw_il1 at178_1 ?_)
  refine gw_bne at178_2 (fun q2 => ?_) (fun q2 => ?_)
  · refine gw_il2 at178_9 ?_
    refine gw_bne at178_10 (fun q10 => ?_) (fun q10 => ?_)
    · refine gw_il3 at178_17 ?_
      refine gw_bne at178_18 (fun q18 => ?_) (fun q18 => ?_)
      · refine gw_const at178_25 (gw_pf (j := 0) at178_26 (by first | exact MT_0 hM | exact MT_now hM | exact MT_bt hM | exact MT_bl hM | exact MT_r0 hM | exact MT_t0 hM | exact MT_l0 hM | exact MT_r1 hM | exact MT_t1 hM | exact MT_l1 hM | exact MT_r2 hM | exact MT_t2 hM | exact MT_l2 hM | exact MT_r3 hM | exact MT_t3 hM | exact MT_l3 hM | exact MT_r4 hM | exact MT_t4 hM | exact MT_l4 hM | exact MT_r5 hM | exact MT_t5 hM | exact MT_l5 hM | exact MT_r6 hM | exact MT_t6 hM | exact MT_l6 hM | exact MT_r7 hM | exact MT_t7 hM | exact MT_l7 hM | exact MT_r8 hM | exact MT_t8 hM | exact MT_l8 hM | exact MT_r9 hM | exact MT_t9 hM | exact MT_l9 hM | exact MT_r10 hM | exact MT_t10 hM | exact MT_l10 hM) rfl (gw_al0 at178_29 (gw_gf (j := 0) at178_30 (by first | exact MT_0 hM | exact MT_now hM | exact MT_bt hM | exact MT_bl hM | exact MT_r0 hM | exact MT_t0 hM | exact MT_l0 hM | exact MT_r1 hM | exact MT_t1 hM | exact MT_l1 hM | exact MT_r2 hM | exact MT_t2 hM | exact MT_l2 hM | exact MT_r3 hM | exact MT_t3 hM | exact MT_l3 hM | exact MT_r4 hM | exact MT_t4 hM | exact MT_l4 hM | exact MT_r5 hM | exact MT_t5 hM | exact MT_l5 hM | exact MT_r6 hM | exact MT_t6 hM | exact MT_l6 hM | exact MT_r7 hM | exact MT_t7 hM | exact MT_l7 hM | exact MT_r8 hM | exact MT_t8 hM | exact MT_l8 hM | exact MT_r9 hM | exact MT_t9 hM | exact MT_l9 hM | exact MT_r10 hM | exact MT_t10 hM | exact MT_l10 hM) rfl ?_)))
        rw [gu_s]
        refine gw_zne at178_33 (by first | omega | exact bi_rg _) (fun q33 => ?_) (fun q33 => ?_)
        · refine gw_const at178_40 (gw_r0 at178_41 am_r178.2.1 ?_)
          simp_all [pc3, tw]
        · refine gw_const at178_36 (gw_goto at178_37 (gw_r1 at178_41 am_r178.2.1 ?_))
          simp_all [pc3, tw]
      · refine gw_const at178_21 (gw_goto at178_22 (gw_pf (j := 0) at178_26 (by first | exact MT_0 hM | exact MT_now hM | exact MT_bt hM | exact MT_bl hM | exact MT_r0 hM | exact MT_t0 hM | exact MT_l0 hM | exact MT_r1 hM | exact MT_t1 hM | exact MT_l1 hM | exact MT_r2 hM | exact MT_t2 hM | exact MT_l2 hM | exact MT_r3 hM | exact MT_t3 hM | exact MT_l3 hM | exact MT_r4 hM | exact MT_t4 hM | exact MT_l4 hM | exact MT_r5 hM | exact MT_t5 hM | exact MT_l5 hM | exact MT_r6 hM | exact MT_t6 hM | exact MT_l6 hM | exact MT_r7 hM | exact MT_t7 hM | exact MT_l7 hM | exact MT_r8 hM | exact MT_t8 hM | exact MT_l8 hM | exact MT_r9 hM | exact MT_t9 hM | exact MT_l9 hM | exact MT_r10 hM | exact MT_t10 hM | exact MT_l10 hM) rfl (gw_al0 at178_29 (gw_gf (j := 0) at178_30 (by first | exact MT_0 hM | exact MT_now hM | exact MT_bt hM | exact MT_bl hM | exact MT_r0 hM | exact MT_t0 hM | exact MT_l0 hM | exact MT_r1 hM | exact MT_t1 hM | exact MT_l1 hM | exact MT_r2 hM | exact MT_t2 hM | exact MT_l2 hM | exact MT_r3 hM | exact MT_t3 hM | exact MT_l3 hM | exact MT_r4 hM | exact MT_t4 hM | exact MT_l4 hM | exact MT_r5 hM | exact MT_t5 hM | exact MT_l5 hM | exact MT_r6 hM | exact MT_t6 hM | exact MT_l6 hM | exact MT_r7 hM | exact MT_t7 hM | exact MT_l7 hM | exact MT_r8 hM | exact MT_t8 hM | exact MT_l8 hM | exact MT_r9 hM | exact MT_t9 hM | exact MT_l9 hM | exact MT_r10 hM | exact MT_t10 hM | exact MT_l10 hM) rfl ?_))))
        rw [gu_s]
        refine gw_zne at178_33 (by first | omega | exact bi_rg _) (fun q33 => ?_) (fun q33 => ?_)
        · refine gw_const at178_40 (gw_r0 at178_41 am_r178.2.1 ?_)
          simp_all [pc3, tw]
        · refine gw_const at178_36 (gw_goto at178_37 (gw_r1 at178_41 am_r178.2.1 ?_))
          simp_all [pc3, tw]
    · refine gw_const at178_13 (gw_goto at178_14 (gw_pf (j := 0) at178_26 (by first | exact MT_0 hM | exact MT_now hM | exact MT_bt hM | exact MT_bl hM | exact MT_r0 hM | exact MT_t0 hM | exact MT_l0 hM | exact MT_r1 hM | exact MT_t1 hM | exact MT_l1 hM | exact MT_r2 hM | exact MT_t2 hM | exact MT_l2 hM | exact MT_r3 hM | exact MT_t3 hM | exact MT_l3 hM | exact MT_r4 hM | exact MT_t4 hM | exact MT_l4 hM | exact MT_r5 hM | exact MT_t5 hM | exact MT_l5 hM | exact MT_r6 hM | exact MT_t6 hM | exact MT_l6 hM | exact MT_r7 hM | exact MT_t7 hM | exact MT_l7 hM | exact MT_r8 hM | exact MT_t8 hM | exact MT_l8 hM | exact MT_r9 hM | exact MT_t9 hM | exact MT_l9 hM | exact MT_r10 hM | exact MT_t10 hM | exact MT_l10 hM) rfl (gw_al0 at178_29 (gw_gf (j := 0) at178_30 (by first | exact MT_0 hM | exact MT_now hM | exact MT_bt hM | exact MT_bl hM | exact MT_r0 hM | exact MT_t0 hM | exact MT_l0 hM | exact MT_r1 hM | exact MT_t1 hM | exact MT_l1 hM | exact MT_r2 hM | exact MT_t2 hM | exact MT_l2 hM | exact MT_r3 hM | exact MT_t3 hM | exact MT_l3 hM | exact MT_r4 hM | exact MT_t4 hM | exact MT_l4 hM | exact MT_r5 hM | exact MT_t5 hM | exact MT_l5 hM | exact MT_r6 hM | exact MT_t6 hM | exact MT_l6 hM | exact MT_r7 hM | exact MT_t7 hM | exact MT_l7 hM | exact MT_r8 hM | exact MT_t8 hM | exact MT_l8 hM | exact MT_r9 hM | exact MT_t9 hM | exact MT_l9 hM | exact MT_r10 hM | exact MT_t10 hM | exact MT_l10 hM) rfl ?_))))
      rw [gu_s]
      refine gw_zne at178_33 (by first | omega | exact bi_rg _) (fun q33 => ?_) (fun q33 => ?_)
      · refine gw_const at178_40 (gw_r0 at178_41 am_r178.2.1 ?_)
        simp_all [pc3, tw]
      · refine gw_const at178_36 (gw_goto at178_37 (gw_r1 at178_41 am_r178.2.1 ?_))
        simp_all [pc3, tw]
  · refine gw_const at178_5 (gw_goto at178_6 (gw_pf (j := 0) at178_26 (by first | exact MT_0 hM | exact MT_now hM | exact MT_bt hM | exact MT_bl hM | exact MT_r0 hM | exact MT_t0 hM | exact MT_l0 hM | exact MT_r1 hM | exact MT_t1 hM | exact MT_l1 hM | exact MT_r2 hM | exact MT_t2 hM | exact MT_l2 hM | exact MT_r3 hM | exact MT_t3 hM | exact MT_l3 hM | exact MT_r4 hM | exact MT_t4 hM | exact MT_l4 hM | exact MT_r5 hM | exact MT_t5 hM | exact MT_l5 hM | exact MT_r6 hM | exact MT_t6 hM | exact MT_l6 hM | exact MT_r7 hM | exact MT_t7 hM | exact MT_l7 hM | exact MT_r8 hM | exact MT_t8 hM | exact MT_l8 hM | exact MT_r9 hM | exact MT_t9 hM | exact MT_l9 hM | exact MT_r10 hM | exact MT_t10 hM | exact MT_l10 hM) rfl (gw_al0 at178_29 (gw_gf (j := 0) at178_30 (by first | exact MT_0 hM | exact MT_now hM | exact MT_bt hM | exact MT_bl hM | exact MT_r0 hM | exact MT_t0 hM | exact MT_l0 hM | exact MT_r1 hM | exact MT_t1 hM | exact MT_l1 hM | exact MT_r2 hM | exact MT_t2 hM | exact MT_l2 hM | exact MT_r3 hM | exact MT_t3 hM | exact MT_l3 hM | exact MT_r4 hM | exact MT_t4 hM | exact MT_l4 hM | exact MT_r5 hM | exact MT_t5 hM | exact MT_l5 hM | exact MT_r6 hM | exact MT_t6 hM | exact MT_l6 hM | exact MT_r7 hM | exact MT_t7 hM | exact MT_l7 hM | exact MT_r8 hM | exact MT_t8 hM | exact MT_l8 hM | exact MT_r9 hM | exact MT_t9 hM | exact MT_l9 hM | exact MT_r10 hM | exact MT_t10 hM | exact MT_l10 hM) rfl ?_))))
    rw [gu_s]
    refine gw_zne at178_33 (by first | omega | exact bi_rg _) (fun q33 => ?_) (fun q33 => ?_)
    · refine gw_const at178_40 (gw_r0 at178_41 am_r178.2.1 ?_)
      simp_all [pc3, tw]
    · refine gw_const at178_36 (gw_goto at178_37 (gw_r1 at178_41 am_r178.2.1 ?_))
      simp_all [pc3, tw]
