/-! the greedy tour is the same on both sides -/
section
variable {c m M : gC} {b : Nat}
theorem mcf_tri (h : TT2 c m M b) (hb : M b = c b) {n l x e : Int} (hx : mhA c b x = true) (he : mfo M b x e = true) (hm : mcf M b n l x < 1000000000) : mcf M b n l e ≤ mcf M b n l x + mnc M b x e := by
  obtain ⟨f1, f2, f3⟩ := h.fM hb
  have hx2 : mhA M b x = true := by rw [mhA_o hb]; exact hx
  have hrx := I24_A f2 hx2
  have he2 := (mfo_h he).1
  have hre := I24_A f2 he2
  rcases (mcf_sp (c := M) (b := b) (n := n) (l := l) (g := x)).2 with y | ⟨y, y1, y2, y3, y4⟩
  · omega
  · have z1 := (mcf_sp (c := M) (b := b) (n := n) (l := l) (g := e)).1 y y1 y2 y3
    rw [mlt_a hrx.2] at y4
    rw [mlt_a hre.2] at z1
    have z2 := f1.2.1 y e x y1 hre hrx.1 hrx.2
    have z3 := tE_fo f2 f1 hx2 he
    rw [mnc_l (by unfold I24 at hrx; omega)]
    omega
theorem rst_pre (h : TT2 c m M b) (hb : M b = c b) (hL : LR M) {p n l g : Int} (hB : BG c b p n l) (hg : GL c b g) (hm : mcf M b n l g < 1000000000) : ∀ k : Nat, mhA c b (lrt M b n l g ((k : Int) + 1)).1.2.1 = true ∧ (lrt M b n l g ((k : Int) + 1)).1.2.2 = mlt M b (lrt M b n l g ((k : Int) + 1)).1.2.1 g ∧ mcf M b n l (lrt M b n l g ((k : Int) + 1)).1.2.1 + (lrt M b n l g ((k : Int) + 1)).1.2.2 ≤ mcf M b n l g ∧ (lrt M b n l g ((k : Int) + 1)).1.1 = men M b (lrt M b n l g ((k : Int) + 1)).1.2.1 := by
  obtain ⟨f1, f2, f3⟩ := h.fM hb
  have hO := LO_GL f2 f1 f3 (GL_o hb hg)
  intro k
  induction k with
  | zero =>
    have r0 := rst_0 h hb hL hB hg hm
    have p0 : 0 < mcf M b n l g := mcf_pos f2 hL (GL_0 hg).1 hO
    obtain ⟨s1, s2, s3, s4⟩ := rst_st h hb hg r0 p0
    have e : lrt M b n l g (((0 : Nat) : Int) + 1) = lrs M b g 0 (lrt M b n l g 0) := lrt_s (by decide)
    rw [e, lrt_0, lrs_t p0]
    dsimp only at s3 s4 ⊢
    have s5 : mhA M b (fe M b g (n, l, mcf M b n l g)) = true := by rw [mhA_o hb]; exact s2
    have hr := I24_A f2 s5
    have q := (mcf_sp (c := M) (b := b) (n := n) (l := l) (g := fe M b g (n, l, mcf M b n l g))).1 _ hr s5 s4
    rw [mlt_a hr.2, tE_aa f2 f1 s5] at q
    exact ⟨s2, rfl, by omega, rfl⟩
  | succ k ih =>
    obtain ⟨i1, i2, i3, i4⟩ := ih
    have hr := rst_ok h hb hL hB hg hm (k + 1)
    rw [show ((k + 1 : Nat) : Int) = (k : Int) + 1 by omega] at hr ⊢
    rw [lrt_s (by omega)]
    generalize lrt M b n l g ((k : Int) + 1) = Y at *
    by_cases e : 0 < Y.1.2.2
    · obtain ⟨s1, s2, s3, s4⟩ := rst_st h hb hg hr e
      rw [lrs_t e]
      try dsimp only
      have s5 : mhA M b (fe M b g Y.1) = true := by rw [mhA_o hb]; exact s2
      have q := mcf_tri h hb (n := n) (l := l) i1 (mfo_of s5 (s4.trans i4)) (by omega)
      exact ⟨s2, rfl, by omega, rfl⟩
    · rw [lrs_f e]
      exact ⟨i1, i2, i3, i4⟩
/-- the arcs of a route to an arc are nearer than it, but for the last -/
theorem rt_near (h : TT2 c m M b) (hb : M b = c b) (hL : LR M) {p n l g : Int} (hB : BG c b p n l) (g1 : mhA c b g = true) (hm : mcf M b n l g < 1000000000) {j : Int} (j0 : 0 ≤ j) (j1 : j < (lrt M b n l g 24).2 500001 7) : (lrt M b n l g 24).2 200004 j = g ∨ mcf M b n l ((lrt M b n l g 24).2 200004 j) < mcf M b n l g := by
  have hr := mhA_rg h.nw g1
  obtain ⟨f1, f2, f3⟩ := h.fM hb
  obtain ⟨-, a2, -⟩ := lrt_arr (M := M) (b := b) (n := n) (l := l) (z := g) 24
  rw [show ((24 : Nat) : Int) = 24 from rfl] at a2
  have e1 := (a2 j j0 j1).1
  obtain ⟨q1, q2, q3, -⟩ := rst_pre h hb hL hB (g := g) (Or.inl ⟨hr.1, hr.2, g1⟩) hm j.toNat
  rw [show (j.toNat : Int) = j by omega] at q1 q2 q3
  rw [e1]
  generalize (lrt M b n l g (j + 1)).1 = y at *
  have hy := mhA_rg h.nw q1
  have n0 := (mlt_rg (b := b) (g := g) hL hy hr.1).1
  by_cases e : y.2.2 = 0
  · left
    rw [e, mlt_a hr.2] at q2
    exact FW_self f2 f1 f3 (by rw [mhA_o hb]; exact q1) (by rw [mhA_o hb]; exact g1) q2.symm
  · right
    omega
end
theorem clrs_e {r : Int → Int} {q e N : Int} (hq : 0 ≤ q ∧ q < 16777216) (he : I24 e) (hr : ∀ k, 0 ≤ k → k < N → I24 (r k) ∧ (r k = e ∨ tb q (r k) = false)) (hx : ∃ k, 0 ≤ k ∧ k < N ∧ r k = e) : clrs r q N = clr q e := by
  obtain ⟨x, x0, x1, x2⟩ := hx
  have key := itI_inv3 (f := fun k s => clr s (r k)) (x := q) (fun k (s : Int) => (s = q ∧ k ≤ x) ∨ s = clr q e) (N := N) (Or.inl ⟨rfl, x0⟩) (fun j s j0 j1 h => ?_) (k := N) (by omega) (Int.le_refl _)
  · rcases key with k | k
    · omega
    · exact k
  · obtain ⟨r1, r2⟩ := hr j j0 j1
    try dsimp only
    unfold I24 at he r1
    have h2 := clr_rg2 (q := q) (x := e) hq
    rcases h with ⟨h1, h3⟩ | h1
    · rw [h1]
      by_cases e1 : j = x
      · right; rw [e1, x2]
      · rcases r2 with r2 | r2
        · right; rw [r2]
        · left; rw [clr_no hq r1 r2]; exact ⟨rfl, by omega⟩
    · right
      rw [h1]
      refine clr_no h2 r1 ?_
      rw [tb_clr (by omega) (by omega)]
      rcases r2 with r2 | r2
      · rw [r2]; simp
      · rw [r2]; rfl
/-- the reference's nearest arc of a set -/
theorem gbt_min {c : gC} {b : Nat} {n l q : Int} : ¬ gbt c b n l q = -1 → (∀ k, I24 k → tb q k = true → mcf c b n l (gbt c b n l q) ≤ mcf c b n l k) ∧ ∀ k, I24 k → k < gbt c b n l q → tb q k = true → mcf c b n l (gbt c b n l q) < mcf c b n l k := by
  have key := itI_inv3 (f := gbf c b n l q) (x := -1) (fun i (s : Int) => s < i ∧ ((s = -1 ∧ ∀ k, 0 ≤ k → k < i → tb q k = false) ∨ (¬ s = -1 ∧ (∀ k, 0 ≤ k → k < i → tb q k = true → mcf c b n l s ≤ mcf c b n l k) ∧ ∀ k, 0 ≤ k → k < s → tb q k = true → mcf c b n l s < mcf c b n l k))) (N := 24) ⟨by decide, Or.inl ⟨rfl, fun k a d => by omega⟩⟩ (fun j s j0 j1 h => ?_) (k := 24) (by decide) (Int.le_refl _)
  · intro e
    obtain ⟨k1, k2⟩ := key
    rcases k2 with k2 | k2
    · exact absurd k2.1 e
    · exact ⟨fun k hk => k2.2.1 k hk.1 hk.2, fun k hk => k2.2.2 k hk.1⟩
  · obtain ⟨h1, h2⟩ := h
    cases e : tb q j with
    | false =>
      rw [gbf_a e]
      refine ⟨by omega, ?_⟩
      rcases h2 with h2 | h2
      · refine Or.inl ⟨h2.1, fun k a d => ?_⟩
        by_cases z : k = j
        · rw [z]; exact e
        · exact h2.2 k a (by omega)
      · refine Or.inr ⟨h2.1, fun k a d f => ?_, h2.2.2⟩
        by_cases z : k = j
        · rw [z, e] at f; cases f
        · exact h2.2.1 k a (by omega) f
    | true =>
      by_cases e2 : s = -1 ∨ mcf c b n l j < mcf c b n l s
      · rw [gbf_b e e2]
        refine ⟨by omega, Or.inr ⟨by omega, fun k a d f => ?_, fun k a d f => ?_⟩⟩
        · by_cases z : k = j
          · rw [z]; omega
          · rcases h2 with h2 | h2
            · rw [h2.2 k a (by omega)] at f; cases f
            · have := h2.2.1 k a (by omega) f
              rcases e2 with e2 | e2 <;> omega
        · rcases h2 with h2 | h2
          · rw [h2.2 k a d] at f; cases f
          · have := h2.2.1 k a d f
            rcases e2 with e2 | e2 <;> omega
      · rw [gbf_d e2]
        rcases h2 with h2 | h2
        · exact absurd (Or.inl h2.1) e2
        · refine ⟨by omega, Or.inr ⟨h2.1, fun k a d f => ?_, h2.2.2⟩⟩
          by_cases z : k = j
          · rw [z]; omega
          · exact h2.2.1 k a (by omega) f
section
variable {c m M : gC} {b : Nat}
theorem near_e (h : TT2 c m M b) (hb : M b = c b) {p n l q : Int} (hB : BG c b p n l) (hq0 : 0 ≤ q ∧ q < 16777216) (hq1 : ¬ q = 0) (hq : ∀ a, I24 a → tb q a = true → mhA c b a = true) : (mcf M b n l (gbt M b n l q) < 1000000000 → (nea m p q).1 = gbt M b n l q) ∧ (1000000000 ≤ mcf M b n l (gbt M b n l q) → (nea m p q).1 = -1) := by
  obtain ⟨g1, g2⟩ := gbt_ok (c := M) (b := b) (n := n) (l := l) hq0 hq1
  obtain ⟨m1, m2⟩ := gbt_min (c := M) (b := b) (n := n) (l := l) (q := q) (by omega)
  have cf : ∀ a, I24 a → tb q a = true → cfr m p a = cv (mcf M b n l a) ∧ (mcf M b n l a < 1000000000 → mcf M b n l a ≤ 27450) := fun a ha hs => cfr_e h hb hB (g := a) (Or.inl ⟨ha.1, ha.2, hq a ha hs⟩)
  have hG := cf _ g1 g2
  generalize gbt M b n l q = G at *
  rcases am1_spec (B := 100000000) (f := fun a => if tb q a = true then cfr m p a else 100000000) (n := 24) (by decide) with ⟨h1, h2⟩ | ⟨h1, h2, h3, h4, h5, h6⟩
  · have e1 : (nea m p q).1 = -1 := by unfold nea; rw [h1]
    rw [e1]
    refine ⟨fun x => ?_, fun _ => rfl⟩
    have := h2 G g1.1 g1.2
    rw [g2, if_pos rfl, hG.1] at this
    unfold cv at this
    rw [if_pos x] at this
    have := hG.2 x
    omega
  · have e0 : nea m p q = am1 100000000 (fun a => if tb q a = true then cfr m p a else 100000000) 24 := rfl
    rw [← e0] at h1 h2 h3 h4 h5 h6
    generalize (nea m p q).1 = x at *
    have hx : tb q x = true := by
      cases e : tb q x with
      | true => rfl
      | false => rw [e, if_neg (by decide)] at h4; omega
    have hxI : I24 x := ⟨h1, h2⟩
    have cx := cf x hxI hx
    rw [hx, if_pos rfl, cx.1] at h4
    have x1 : mcf M b n l x < 1000000000 := by
      unfold cv at h4
      by_cases e : mcf M b n l x < 1000000000
      · exact e
      · rw [if_neg e] at h4; omega
    have x2 := cx.2 x1
    have y1 := m1 x hxI hx
    refine ⟨fun y2 => ?_, fun y2 => by omega⟩
    have a1 : ¬ x < G := fun q1 => by
      have := m2 x hxI q1 hx
      have := h5 G g1.1 g1.2
      rw [hx, g2, if_pos rfl, if_pos rfl, cx.1, hG.1] at this
      unfold cv at this
      rw [if_pos x1, if_pos y2] at this
      omega
    have a2 : ¬ G < x := fun q1 => by
      have := h6 G g1.1 q1
      rw [hx, g2, if_pos rfl, if_pos rfl, cx.1, hG.1] at this
      unfold cv at this
      rw [if_pos x1, if_pos y2] at this
      omega
    omega
end
