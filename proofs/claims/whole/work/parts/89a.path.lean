/-! a best route, arc by arc, is the same on both sides -/
theorem TT2.fM {c m M : gC} {b : Nat} (h : TT2 c m M b) (hb : M b = c b) : FWk M b 24 M ∧ NW M b ∧ L1 M b := ⟨FWk_o hb h.fw, NW_of h.nw hb, L1_o hb h.l1⟩
theorem I24_A {m : gC} {b : Nat} (hV : NW m b) {a : Int} (ha : mhA m b a = true) : I24 a := mhA_rg hV ha
theorem mini_aa {m : gC} {b : Nat} {a : Int} (ha : mhA m b a = true) : mini m b a a = 0 := by
  unfold mini
  rw [if_neg (by rw [ha]; simp), if_pos rfl]
section
variable {m : gC} {b : Nat}
theorem tE_aa (hV : NW m b) (h : FWk m b 24 m) {a : Int} (ha : mhA m b a = true) : tE m a a = 0 := by
  have h1 := h.1 a a (I24_A hV ha) (I24_A hV ha)
  have h2 := h.2.2.1 a a (I24_A hV ha) (I24_A hV ha)
  rw [mini_aa ha] at h2
  omega
theorem tE_fo (hV : NW m b) (h : FWk m b 24 m) {a e : Int} (ha : mhA m b a = true) (he : mfo m b a e = true) : tE m a e ≤ mct m b a e + mln m b e := by
  have h1 := (mfo_h he).1
  have h2 := h.2.2.1 a e (I24_A hV ha) (I24_A hV h1)
  have q3 := mct_rg (a := a) (e := e) hV
  have q4 := mln_rg hV (mhA_rg hV h1)
  unfold mini at h2
  rw [if_neg (by rw [ha, h1]; simp)] at h2
  by_cases e1 : a = e
  · rw [if_pos e1] at h2; omega
  · rw [if_neg e1, if_pos he] at h2; omega
theorem mtn_le (hL : LR m) {a n : Int} (ha : I24 a) : 0 ≤ mtn m b a n ∧ mtn m b a n ≤ 1000000000 := mtn_rg hL ha
theorem mtn_0 (hV : NW m b) (h : FWk m b 24 m) (hL : LR m) (h1 : L1 m b) {a n : Int} (ha : mhA m b a = true) : mtn m b a n = 0 ↔ men m b a = n := by
  have hr := I24_A hV ha
  have h0 := (mtn_le (b := b) (n := n) hL hr).1
  constructor
  · intro q
    rcases (mtn_sp (c := m) (b := b) (a := a) (n := n)).2 with e | ⟨e, e1, e2, e3, e4⟩
    · omega
    · have e5 : tE m a e = 0 := by rw [q] at e4; exact e4.symm
      rw [FW_self hV h h1 ha e2 e5]
      exact e3
  · intro q
    have e1 : mtn m b a n ≤ tE m a a := (mtn_sp (c := m) (b := b) (a := a) (n := n)).1 a hr ha q
    rw [tE_aa hV h ha] at e1
    omega
theorem mlt_a {a g : Int} (hg : g < 24) : mlt m b a g = tE m a g := by unfold mlt; rw [if_pos hg]; rfl
theorem mlt_n {a g : Int} (hg : ¬ g < 24) : mlt m b a g = mtn m b a (g - 24) := by unfold mlt; rw [if_neg hg]
/-- what is left is no more than a step and what is left behind it -/
theorem mlt_tri (hV : NW m b) (h : FWk m b 24 m) (hL : LR m) {a e g : Int} (ha : mhA m b a = true) (he : mfo m b a e = true) (hg : GL m b g) : mlt m b a g ≤ mct m b a e + mln m b e + mlt m b e g := by
  have h1 := (mfo_h he).1
  have h2 := tE_fo hV h ha he
  have hra := I24_A hV ha
  have hre := I24_A hV h1
  rcases hg with ⟨g0, g1, g2⟩ | ⟨g0, g1⟩
  · rw [mlt_a g1, mlt_a g1]
    have := h.2.1 a g e hra ⟨g0, g1⟩ hre.1 hre.2
    omega
  · rw [mlt_n (by omega), mlt_n (by omega)]
    have q3 := mct_rg (a := a) (e := e) hV
    have q4 := mln_rg hV hre
    rcases (mtn_sp (c := m) (b := b) (a := e) (n := g - 24)).2 with x | ⟨x, x1, x2, x3, x4⟩
    · have := (mtn_le (b := b) (n := g - 24) hL hra).2
      omega
    · have x5 : mtn m b e (g - 24) = tE m e x := x4
      have x6 : mtn m b a (g - 24) ≤ tE m a x := (mtn_sp (c := m) (b := b) (a := a) (n := g - 24)).1 x x1 x2 x3
      have := h.2.1 a x e hra x1 hre.1 hre.2
      omega
theorem mnc_l {l e : Int} (hl : ¬ l = -1) : mnc m b l e = mct m b l e + mln m b e := by
  unfold mnc
  rw [if_neg hl]
  omega
theorem LO_GL (hV : NW m b) (h : FWk m b 24 m) (h1 : L1 m b) {g : Int} (hg : GL m b g) : LO m b g := by
  rcases hg with ⟨g0, g1, g2⟩ | ⟨g0, g1⟩
  · exact LO_arc hV h h1 g2
  · have := LO_node hV h h1 (n := g - 24) (by omega)
    rwa [show 24 + (g - 24) = g by omega] at this
theorem mfo_of {a e : Int} (he : mhA m b e = true) (h : mbg m b e = men m b a) : mfo m b a e = true := by
  unfold mfo
  rw [he, h, decide_eq_true rfl]
  rfl
/-- behind an arc, the cheapest route of one arc at least is what is left -/
theorem mcf_mlt (hV : NW m b) (h : FWk m b 24 m) (hL : LR m) (h1 : L1 m b) {a g : Int} (ha : mhA m b a = true) (hg : GL m b g) (h0 : 0 < mlt m b a g) (h2 : mlt m b a g < 1000000000) : mcf m b (men m b a) a g = mlt m b a g := by
  have hr := I24_A hV ha
  obtain ⟨e, he⟩ := (LO_GL hV h h1 hg).2 a ha h0 h2
  obtain ⟨e1, e2, e3⟩ := fep_b he
  dsimp only at e2 e3
  have q1 := (mcf_sp (c := m) (b := b) (n := men m b a) (l := a) (g := g)).1 e (I24_A hV e1) e1 e2
  rcases (mcf_sp (c := m) (b := b) (n := men m b a) (l := a) (g := g)).2 with x | ⟨x, x1, x2, x3, x4⟩
  · omega
  · have q2 := mlt_tri hV h hL ha (mfo_of x2 x3) hg
    rw [mnc_l (by unfold I24 at hr; omega)] at x4
    omega
/-- nothing is left: the arc ends there -/
theorem mlt_00 (hV : NW m b) (h : FWk m b 24 m) (hL : LR m) (h1 : L1 m b) {a t : Int} (ha : mhA m b a = true) (ht0 : 0 ≤ t) : 0 < mlt m b a (24 + t) ↔ ¬ men m b a = t := by
  by_cases ht : 24 + t < 24
  · exfalso
    omega
  · rw [mlt_n ht, show 24 + t - 24 = t by omega]
    have := (mtn_le (b := b) (n := t) hL (I24_A hV ha)).1
    rw [← mtn_0 hV h hL h1 ha]
    omega
end
/-- the place from which a route goes on -/
def plc (l n : Int) : Int := if l = -1 then 24 + n else l
theorem BG_p {c : gC} {b : Nat} {p n l : Int} (hV : NW c b) (h : BG c b p n l) : p = plc l n := by
  unfold plc
  rcases h with ⟨a1, a2, -, -⟩ | ⟨a1, a2, -⟩
  · rw [if_pos a2]; exact a1
  · have := mhA_rg hV a2
    rw [if_neg (by omega)]; exact a1
theorem fpx_0 {c : gC} {f t : Int} : fpx c f t 0 = (f, 24 + f, gu c 100026 5 0) := rfl
theorem fpx_s {c : gC} {f t i : Int} (h : 0 ≤ i) : fpx c f t (i + 1) = fps c t i (fpx c f t i) := itI_s _ _ h
theorem lrt_0 {c : gC} {b : Nat} {n l z : Int} : lrt c b n l z 0 = ((n, l, mcf c b n l z), gu c 500001 7 0) := rfl
theorem lrt_s {c : gC} {b : Nat} {n l z i : Int} (h : 0 ≤ i) : lrt c b n l z (i + 1) = lrs c b z i (lrt c b n l z i) := itI_s _ _ h
/-- what holds of the state of a route under way -/
def RST (c M : gC) (b : Nat) (g : Int) (y : Int × Int × Int) : Prop := BG c b (plc y.2.1 y.1) y.1 y.2.1 ∧ (0 ≤ y.2.2 ∧ y.2.2 < 1000000000) ∧ (0 < y.2.2 → mcf M b y.1 y.2.1 g = y.2.2)
section
variable {c m M : gC} {b : Nat}
theorem rst_st (h : TT2 c m M b) (hb : M b = c b) {g : Int} (hg : GL c b g) {y : Int × Int × Int} (hy : RST c M b g y) (h0 : 0 < y.2.2) : (fst1 m (plc y.2.1 y.1) g).1 = fe M b g y ∧ mhA c b (fe M b g y) = true ∧ mnc M b y.2.1 (fe M b g y) + mlt M b (fe M b g y) g = y.2.2 ∧ mbg M b (fe M b g y) = y.1 := by
  obtain ⟨y1, y2, y3⟩ := hy
  have y4 := y3 h0
  have q := fst_e h hb y1 hg (by omega)
  rw [y4] at q
  have q1 := (fe_ok (c := M) (b := b) (z := g) (x := y) (NW_of h.nw hb) (by
    have := mcf_att (c := M) (b := b) (n := y.1) (l := y.2.1) (z := g) (by omega)
    rw [y4] at this
    exact this)).2.1
  obtain ⟨e1, e2, e3⟩ := fep_b q1
  exact ⟨q.1, by rw [← mhA_o hb]; exact e1, e3, e2⟩
theorem GL_o {c m : gC} {b : Nat} {g : Int} (e : m b = c b) (h : GL c b g) : GL m b g := by
  unfold GL
  rw [mhA_o e]
  exact h
theorem GL_0 {c : gC} {b : Nat} {g : Int} (h : GL c b g) : 0 ≤ g ∧ g < 34 := by rcases h with ⟨a, b, -⟩ | ⟨a, b⟩ <;> omega
theorem rst_n (h : TT2 c m M b) (hb : M b = c b) (hL : LR M) {g : Int} (hg : GL c b g) {y : Int × Int × Int} (hy : RST c M b g y) (h0 : 0 < y.2.2) : RST c M b g (men M b (fe M b g y), fe M b g y, mlt M b (fe M b g y) g) := by
  obtain ⟨q1, q2, q3, q4⟩ := rst_st h hb hg hy h0
  obtain ⟨f1, f2, f3⟩ := h.fM hb
  have hr := mhA_rg h.nw q2
  have q5 := mnc_rg (l := y.2.1) f2 hr
  have q6 := mlt_rg (b := b) (g := g) hL hr (GL_0 hg).1
  have q7 := hy.2.1.2
  refine ⟨?_, ⟨q6.1, by dsimp only; omega⟩, fun e => ?_⟩
  · refine Or.inr ⟨?_, q2, men_o hb _ ▸ rfl⟩
    unfold plc
    rw [if_neg (by dsimp only; omega)]
  · exact mcf_mlt f2 f1 hL f3 (by rw [mhA_o hb]; exact q2) (GL_o hb hg) e (by omega)
theorem rst_0 (h : TT2 c m M b) (hb : M b = c b) (hL : LR M) {p n l g : Int} (hB : BG c b p n l) (hg : GL c b g) (hm : mcf M b n l g < 1000000000) : RST c M b g (n, l, mcf M b n l g) := ⟨by
  have e := BG_p h.nw hB
  dsimp only
  rw [← e]; exact hB, ⟨(mcf_rg (NW_of h.nw hb) hL (GL_0 hg).1).1, hm⟩, fun _ => rfl⟩
/-- ALONG A ROUTE -/
theorem rst_ok (h : TT2 c m M b) (hb : M b = c b) (hL : LR M) {p n l g : Int} (hB : BG c b p n l) (hg : GL c b g) (hm : mcf M b n l g < 1000000000) : ∀ k : Nat, RST c M b g (lrt M b n l g (k : Int)).1 := by
  intro k
  induction k with
  | zero => exact rst_0 h hb hL hB hg hm
  | succ k ih =>
    rw [show ((k + 1 : Nat) : Int) = (k : Int) + 1 by omega, lrt_s (by omega)]
    by_cases e : 0 < (lrt M b n l g (k : Int)).1.2.2
    · rw [lrs_t e]
      exact rst_n h hb hL hg ih e
    · rw [lrs_f e]
      exact ih
end
/-- the array of a route holds the arcs of its states -/
theorem lrt_arr {M : gC} {b : Nat} {n l z : Int} : ∀ k : Nat, ((0 < (lrt M b n l z (k : Int)).1.2.2 → (lrt M b n l z (k : Int)).2 500001 7 = (k : Int)) ∧ (0 ≤ (lrt M b n l z (k : Int)).2 500001 7 ∧ (lrt M b n l z (k : Int)).2 500001 7 ≤ (k : Int))) ∧ (∀ j, 0 ≤ j → j < (lrt M b n l z (k : Int)).2 500001 7 → (lrt M b n l z (k : Int)).2 200004 j = (lrt M b n l z (j + 1)).1.2.1 ∧ 0 < (lrt M b n l z j).1.2.2) ∧ ∀ j, (lrt M b n l z (k : Int)).2 500001 7 ≤ j → j ≤ (k : Int) → (lrt M b n l z j).1 = (lrt M b n l z (k : Int)).1 := by
  intro k
  induction k with
  | zero =>
    rw [show ((0 : Nat) : Int) = 0 from rfl, lrt_0]
    dsimp only
    rw [gu_s]
    refine ⟨⟨fun _ => rfl, by omega, by omega⟩, fun j a b => by omega, fun j a b => ?_⟩
    rw [show j = 0 by omega, lrt_0]
  | succ k ih =>
    obtain ⟨⟨i1, i2⟩, i3, i4⟩ := ih
    rw [show ((k + 1 : Nat) : Int) = (k : Int) + 1 by omega]
    by_cases e : 0 < (lrt M b n l z (k : Int)).1.2.2
    · have e2 := i1 e
      have e3 : lrt M b n l z ((k : Int) + 1) = _ := (lrt_s (by omega)).trans (lrs_t e)
      have e4 : (lrt M b n l z ((k : Int) + 1)).2 500001 7 = (k : Int) + 1 := by
        rw [e3]; dsimp only; rw [gu_s, e2]
      rw [e4]
      refine ⟨⟨fun _ => rfl, by omega, by omega⟩, fun j a b => ?_, fun j a b => by rw [show j = (k : Int) + 1 by omega]⟩
      by_cases e5 : j = (k : Int)
      · refine ⟨?_, by rw [e5]; exact e⟩
        rw [e5, e3]
        dsimp only
        rw [gu_k (by decide), e2, gu_s]
      · obtain ⟨r1, r2⟩ := i3 j a (by omega)
        refine ⟨?_, r2⟩
        rw [← r1, e3]
        dsimp only
        rw [gu_k (by decide), e2, gu_j e5]
    · have e3 : lrt M b n l z ((k : Int) + 1) = lrt M b n l z (k : Int) := (lrt_s (by omega)).trans (lrs_f e)
      rw [e3]
      refine ⟨⟨fun q => absurd q e, by omega, by omega⟩, i3, fun j a b => ?_⟩
      by_cases e5 : j ≤ (k : Int)
      · exact i4 j a e5
      · rw [show j = (k : Int) + 1 by omega, e3]
