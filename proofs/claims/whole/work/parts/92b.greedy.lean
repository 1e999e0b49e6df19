/-! the greedy tour, arc by arc -/
theorem itI_l {α : Type} {f : α → α} {x : α} {i : Int} (h : 0 ≤ i) : itI (fun _ => f) x (i + 1) = itI (fun _ => f) (f x) i := by
  have key : ∀ k : Nat, itI (fun _ => f) x ((k : Int) + 1) = itI (fun _ => f) (f x) (k : Int) := by
    intro k
    induction k with
    | zero => rw [show ((0 : Nat) : Int) = 0 from rfl, itI_s _ _ (by decide), itI_0, itI_0]
    | succ k ih => rw [show ((k + 1 : Nat) : Int) = (k : Int) + 1 by omega, itI_s _ _ (by omega), ih, itI_s _ _ (by omega)]
  have := key i.toNat
  rwa [show (i.toNat : Int) = i by omega] at this
theorem itI_id {α : Type} {f : α → α} {x : α} (hf : f x = x) (i : Int) : itI (fun _ => f) x i = x := by
  refine itI_inv (fun y => y = x) rfl (fun j s hs => ?_) i
  rw [hs]
  exact hf
theorem TT2_M {c m M M' : gC} {b : Nat} (h : TT2 c m M b) (e3 : M' 200003 = M 200003) : TT2 c m M' b := by
  have e : ∀ x y, tE M' x y = tE M x y := fun x y => by unfold tE; rw [e3]
  refine ⟨h.nn, h.nw, h.tb, ?_, h.l1⟩
  have f := h.fw
  unfold FWk tN at f ⊢
  simp only [e]
  exact f
theorem LR_M {M M' : gC} (h : LR M) (e3 : M' 200003 = M 200003) : LR M' := fun i a b => by rw [e3]; exact h i a b
theorem grs_b {c : gC} {x : Bool × Int × Int × Int} (h : x.1 = true) : grs c x = x := if_pos (Or.inl h)
theorem DP_e {c m M : gC} {b : Nat} (h : TT2 c m M b) (hb : M b = c b) : m 100014 3 = M b 2 := by
  rw [h.tb.1.1 100014 (by omega) (by omega), hb]
  exact h.nn.1.2.1
theorem mcf_ge {m : gC} {b : Nat} (hV : NW m b) (h : FWk m b 24 m) (hL : LR m) {a g : Int} (ha : mhA m b a = true) (hg : GL m b g) : mlt m b a g ≤ mcf m b (men m b a) a g := by
  have hr := I24_A hV ha
  have h1 := mlt_rg (b := b) hL hr (GL_0 hg).1
  rcases (mcf_sp (c := m) (b := b) (n := men m b a) (l := a) (g := g)).2 with x | ⟨x, x1, x2, x3, x4⟩
  · omega
  · have q2 := mlt_tri hV h hL ha (mfo_of x2 x3) hg
    rw [mnc_l (by unfold I24 at hr; omega)] at x4
    omega
/-- going home -/
theorem home_e {c m M : gC} {b : Nat} (h : TT2 c m M b) (hb : M b = c b) (hL : LR M) {l s D : Int} (hl : mhA c b l = true) (hD : 0 ≤ D ∧ D < 10) (hs : 0 ≤ s ∧ s ≤ 658800) : (if men M b l = D then s else mtl (s + mcf M b (men M b l) l (24 + D))) = if 100000000 ≤ s + cbh m l (24 + D) then -1 else s + cbh m l (24 + D) := by
  obtain ⟨f1, f2, f3⟩ := h.fM hb
  have hl2 : mhA M b l = true := by rw [mhA_o hb]; exact hl
  have hg : GL c b (24 + D) := Or.inr ⟨by omega, by omega⟩
  obtain ⟨c1, c2, c3⟩ := cbh_e h hb hl hg
  have z := mlt_00 f2 f1 hL f3 (t := D) hl2 hD.1
  have hge := mcf_ge f2 f1 hL hl2 (GL_o hb hg)
  rw [c1]
  by_cases e : men M b l = D
  · have e0 : mlt M b l (24 + D) = 0 := by
      have : ¬ 0 < mlt M b l (24 + D) := fun q => (z.1 q) e
      omega
    rw [if_pos e, e0, show cv 0 = 0 from rfl, Int.add_zero, if_neg (by omega)]
  · rw [if_neg e]
    by_cases e2 : mlt M b l (24 + D) < 1000000000
    · rw [mcf_mlt f2 f1 hL f3 hl2 (GL_o hb hg) (z.2 e) e2]
      have := c2 e2
      unfold mtl cv
      rw [if_pos e2, if_neg (by omega), if_neg (by omega)]
    · unfold mtl cv
      rw [if_neg e2, if_pos (by omega), if_pos (by omega)]
theorem qf_clr {q e : Int} (hq : 0 ≤ q ∧ q < 16777216) (he : I24 e) (h : tb q e = true) : cnt (qf (clr q e)) 24 + 1 ≤ cnt (qf q) 24 := by
  unfold I24 at he
  refine cnt_lt (n := 24) (e := e) he.1 he.2 (fun x hx => ?_) ?_ ?_
  · unfold qf at hx ⊢
    rw [Bool.and_eq_true] at hx ⊢
    have hx1 := of_decide_eq_true hx.1
    have hx2 := hx.2
    rw [tb_clr (by omega) (by omega), Bool.and_eq_true] at hx2
    exact ⟨hx.1, hx2.1⟩
  · unfold qf
    rw [decide_eq_true he, h]
    rfl
  · unfold qf
    rw [tb_clr (by omega) (by omega)]
    simp
def grE (m : gC) (x : Bool × Int × Int × Int) : Int := if x.1 = true then -1 else if 100000000 ≤ x.2.2.2 + cbh m x.2.2.1 (24 + m 100014 3) then -1 else x.2.2.2 + cbh m x.2.2.1 (24 + m 100014 3)
theorem grE_f {m : gC} {x : Bool × Int × Int × Int} (h : x.1 = false) : grE m x = if 100000000 ≤ x.2.2.2 + cbh m x.2.2.1 (24 + m 100014 3) then -1 else x.2.2.2 + cbh m x.2.2.1 (24 + m 100014 3) := if_neg (by rw [h]; decide)
theorem grE_t {m : gC} {x : Bool × Int × Int × Int} (h : x.1 = true) : grE m x = -1 := if_pos h
theorem grr_e {c mm : gC} : ∀ (n : Nat) (m : gC) (p x l s q i : Int), TT2 c mm m 200000 → m 200000 = c 200000 → LR m → RG m → BG c 200000 p x l → (0 ≤ q ∧ q < 16777216) → (∀ a, I24 a → tb q a = true → mhA c 200000 a = true) → (q = 0 → mhA c 200000 l = true) → (0 ≤ c 200000 2 ∧ c 200000 2 < 10) → cnt (qf q) 24 ≤ i → i < (n : Int) → (0 ≤ s ∧ s + 27450 * i ≤ 658800) → (grr n x l s q m).1 = grE mm (itI (fun _ => grs mm) (false, q, p, s) i) := by
  intro n
  induction n with
  | zero =>
    intro m p x l s q i _ _ _ _ _ _ _ _ _ hc hi _
    have := (cnt_rg (f := qf q) (n := 24) (by decide)).1
    omega
  | succ n ih =>
    intro m p x l s q i h hb hL hc hB hq0 hq hl hD hn hi hs
    have hn0 := (cnt_rg (f := qf q) (n := 24) (by decide)).1
    have hp := BG_p h.nw hB
    by_cases e : q = 0
    · rw [grr_0 e, itI_id (grs_z e)]
      have hl2 := hl e
      have hlr := mhA_rg h.nw hl2
      have hx : x = men m 200000 l := by
        rcases hB with ⟨a1, a2, -, -⟩ | ⟨a1, a2, a3⟩
        · omega
        · rw [men_o hb]; exact a3.symm
      have hp2 : p = l := by rw [hp]; unfold plc; rw [if_neg (by omega)]
      have e2 := DP_e h hb
      rw [grE_f rfl]
      show (if x = m 200000 2 then s else mtl (s + mcf m 200000 x l (24 + m 200000 2))) = if 100000000 ≤ s + cbh mm p (24 + mm 100014 3) then -1 else s + cbh mm p (24 + mm 100014 3)
      rw [e2, hp2, hx, hb]
      exact home_e (s := s) (D := c 200000 2) h hb hL hl2 hD (by omega)
    · obtain ⟨g1, g2⟩ := gbt_ok (c := m) (b := 200000) (n := x) (l := l) hq0 e
      obtain ⟨n1, n2⟩ := near_e h hb hB hq0 e hq
      have gA := hq _ g1 g2
      have hcl := qf_clr hq0 g1 g2
      have hcn := (cnt_rg (f := qf (clr q (gbt m 200000 x l q))) (n := 24) (by decide)).1
      have hcf := cfr_e h hb hB (g := gbt m 200000 x l q) (Or.inl ⟨g1.1, g1.2, gA⟩)
      have hi2 : i = (i - 1) + 1 := by omega
      rw [hi2, itI_l (by omega)]
      by_cases e2 : 1000000000 ≤ mcf m 200000 x l (gbt m 200000 x l q)
      · have e4 : grs mm (false, q, p, s) = (true, q, p, s) := grs_e (c := mm) (x := (false, q, p, s)) rfl e (n2 e2)
        have e5 : grs mm (true, q, p, s) = (true, q, p, s) := grs_b (c := mm) (x := (true, q, p, s)) rfl
        rw [grr_1 e e2, e4, itI_id e5]
        exact (grE_t rfl).symm
      · have e3 : mcf m 200000 x l (gbt m 200000 x l q) < 1000000000 := by omega
        have n3 := n1 e3
        obtain ⟨f1, f2, f3⟩ := h.fM hb
        have hgO : GL m 200000 (gbt m 200000 x l q) := Or.inl ⟨g1.1, g1.2, by rw [mhA_o hb]; exact gA⟩
        have hO := LO_GL f2 f1 f3 hgO
        have hx : -2147483648 ≤ x ∧ x < 2147483648 := by
          rcases hB with ⟨-, -, a3, a4⟩ | ⟨-, a2, a3⟩
          · omega
          · have := men_rg h.nw (mhA_rg h.nw a2); omega
        have hlr : -1 ≤ l ∧ l < 24 := by
          rcases hB with ⟨-, a3, -⟩ | ⟨-, a2, -⟩
          · omega
          · have := mhA_rg h.nw a2; omega
        obtain ⟨y1, y2, y3, y4, y5⟩ := lrt_24 hc f2 hL (by omega) hO hx hlr e3
        have hend := lrt_end hc f2 hL g1 hO hx hlr e3 (fun z z1 z2 => FW_self f2 f1 f3 z1 (by rw [mhA_o hb]; exact gA) z2)
        have hgt : gtq (lrt m 200000 x l (gbt m 200000 x l q) 24).2 q = clr q (gbt m 200000 x l q) := by
          unfold gtq
          refine clrs_e hq0 g1 (fun k k0 k1 => ?_) ⟨_, by omega, by omega, hend.2⟩
          obtain ⟨z1, z2, z3⟩ := y5 k k0 k1
          refine ⟨⟨z2, z3⟩, ?_⟩
          rcases rt_near h hb hL hB gA e3 k0 k1 with w | w
          · exact Or.inl w
          · right
            cases w2 : tb q ((lrt m 200000 x l (gbt m 200000 x l q) 24).2 200004 k) with
            | false => rfl
            | true =>
              have := (gbt_min (c := m) (b := 200000) (n := x) (l := l) (q := q) (by omega)).1 _ ⟨z2, z3⟩ w2
              omega
        have hcv : cv (mcf m 200000 x l (gbt m 200000 x l q)) = mcf m 200000 x l (gbt m 200000 x l q) := if_pos e3
        have e4 : grs mm (false, q, p, s) = (false, clr q (nea mm p q).1, (nea mm p q).1, s + cfr mm p (nea mm p q).1) := grs_n (c := mm) (x := (false, q, p, s)) rfl e (by show ¬ (nea mm p q).1 = -1; rw [n3]; omega)
        rw [grr_2 e e2, e4, hgt, n3, hcf.1, hcv]
        have hm0 := (mcf_rg (n := x) (l := l) (g := gbt m 200000 x l q) f2 hL (by omega)).1
        have hme := hcf.2 e3
        have hclr := clr_rg2 (q := q) (x := gbt m 200000 x l q) hq0
        exact ih _ _ _ _ _ _ _ (TT2_M h (y2 200003 (by decide) (by decide))) ((y2 200000 (by decide) (by decide)).trans hb) (LR_M hL (y2 200003 (by decide) (by decide))) y1 (Or.inr ⟨rfl, gA, by rw [men_o hb]⟩) hclr (fun a ha w => by
          unfold I24 at ha
          rw [tb_clr (by omega) (by omega), Bool.and_eq_true] at w
          exact hq a ha w.1) (fun _ => gA) hD (by omega) (by omega) (by omega)
/-- THE GREEDY TOUR -/
theorem greedy_e {c mm M : gC} (h : TT2 c mm M 200000) (hb : M 200000 = c 200000) (hL : LR M) (hc : RG M) (hp : PP c 200000) {z : Int} : grc mm (mrq c 200000 z) = (grr 25 (c 200000 2) (-1) 0 (mrq c 200000 z) M).1 := by
  have hq := req_rg (m := c) (b := 200000) (z := z)
  by_cases e : mrq c 200000 z = 0
  · rw [grr_0 e, grc_0 (by unfold grx; rw [itI_id (grs_z e)]) e, hb]
    try dsimp only
    rw [if_pos rfl]
  · obtain ⟨a, a1, a2⟩ := tb_ex hq e
    have a3 := (tb_req a1 a2).1
    have hD : 0 ≤ c 200000 2 ∧ c 200000 2 < 10 := by
      have := (NN_e h.nn h.nw a3).2
      have := h.nw.1.1
      rcases hp.2 with q | q <;> omega
    have e2 := DP_e h hb
    rw [hb] at e2
    have k := grr_e 25 M (24 + c 200000 2) (c 200000 2) (-1) 0 (mrq c 200000 z) 24 h hb hL hc (Or.inl ⟨rfl, rfl, hD⟩) hq (fun x hx q => (tb_req hx q).1) (fun q => absurd q e) hD (cnt_rg (f := qf (mrq c 200000 z)) (n := 24) (by decide)).2 (by decide) (by decide)
    rw [k]
    unfold grE grc grx
    rw [e2]
    split
    · rfl
    · first | rfl | (rw [if_neg e])
