/-! the class's path and the reference's route are one -/
section
variable {c m M : gC} {b : Nat}
theorem en_T (h : TT2 c m M b) (hb : M b = c b) {a : Int} (ha : mhA c b a = true) : en m 100014 a = men M b a := by
  rw [NF_en h.tb.1.1 a, (NN_bg h.nn h.nw ha).2, men_o hb]
/-- no route: the class finds none -/
theorem fpx_no (h : TT2 c m M b) (hb : M b = c b) {f t : Int} (hf : 0 ≤ f ∧ f < 10) (ht : 0 ≤ t ∧ t < 10) (hft : ¬ f = t) (hm : ¬ mcf M b f (-1) (24 + t) < 1000000000) : (∀ k : Nat, k ≤ 24 → (fpx m f t (k : Int)) = (f, 24 + f, gu m 100026 5 0)) ∧ ¬ (fpx m f t 24).1 = t := by
  have c1 := (cfr_e h hb (p := 24 + f) (n := f) (l := -1) (g := 24 + t) (Or.inl ⟨rfl, rfl, hf⟩) (Or.inr ⟨by omega, by omega⟩)).1
  unfold cv at c1
  rw [if_neg hm] at c1
  have c2 : (fst1 m (24 + f) (24 + t)).1 = -1 := by
    unfold cfr fst1 at c1
    unfold fst1
    rcases am1_spec (B := 100000000) (f := fun a => stp m (24 + f) a + cbh m a (24 + t)) (n := 24) (by decide) with ⟨h1, h2⟩ | ⟨h1, h2, h3, h4, h5, h6⟩
    · rw [h1]
    · rw [h3] at c1; omega
  have key : ∀ k : Nat, k ≤ 24 → (fpx m f t (k : Int)) = (f, 24 + f, gu m 100026 5 0) := by
    intro k
    induction k with
    | zero => intro _; exact fpx_0
    | succ k ih =>
      intro hk
      rw [show ((k + 1 : Nat) : Int) = (k : Int) + 1 by omega, fpx_s (by omega), ih (by omega)]
      exact fps_e (c := m) (t := t) (i := (k : Int)) (x := (f, 24 + f, gu m 100026 5 0)) hft c2
  refine ⟨key, ?_⟩
  have := key 24 (by decide)
  rw [show ((24 : Nat) : Int) = 24 from rfl] at this
  rw [this]
  exact hft
def PTH (t : Int) (X : Int × Int × gC) (Y : (Int × Int × Int) × gC) : Prop := (X.1 = Y.1.1 ∧ X.2.1 = plc Y.1.2.1 Y.1.1) ∧ (0 < Y.1.2.2 ↔ ¬ X.1 = t) ∧ X.2.2 100026 5 = Y.2 500001 7 ∧ ∀ j, 0 ≤ j → j < Y.2 500001 7 → X.2.2 100029 j = Y.2 200004 j
theorem pth_ok (h : TT2 c m M b) (hb : M b = c b) (hL : LR M) {f t : Int} (hf : 0 ≤ f ∧ f < 10) (ht : 0 ≤ t ∧ t < 10) (hft : ¬ f = t) (hm : mcf M b f (-1) (24 + t) < 1000000000) : ∀ k : Nat, k ≤ 24 → PTH t (fpx m f t (k : Int)) (lrt M b f (-1) (24 + t) (k : Int)) := by
  have hB : BG c b (24 + f) f (-1) := Or.inl ⟨rfl, rfl, hf⟩
  have hg : GL c b (24 + t) := Or.inr ⟨by omega, by omega⟩
  obtain ⟨f1, f2, f3⟩ := h.fM hb
  intro k
  induction k with
  | zero =>
    intro _
    rw [show ((0 : Nat) : Int) = 0 from rfl, fpx_0, lrt_0]
    refine ⟨⟨rfl, rfl⟩, ?_, ?_, fun j a b => ?_⟩
    · have := mcf_pos (n := f) (l := -1) f2 hL (by omega) (LO_GL f2 f1 f3 (GL_o hb hg))
      dsimp only
      exact ⟨fun _ => hft, fun _ => this⟩
    · dsimp only; rw [gu_s, gu_s]
    · dsimp only at b; rw [gu_s] at b; omega
  | succ k ih =>
    intro hk
    obtain ⟨⟨i1, i2⟩, i3, i4, i5⟩ := ih (by omega)
    have hr := rst_ok h hb hL hB hg hm k
    have ha := lrt_arr (M := M) (b := b) (n := f) (l := -1) (z := 24 + t) k
    rw [show ((k + 1 : Nat) : Int) = (k : Int) + 1 by omega, fpx_s (by omega), lrt_s (by omega)]
    generalize fpx m f t (k : Int) = X at *
    generalize lrt M b f (-1) (24 + t) (k : Int) = Y at *
    by_cases e : 0 < Y.1.2.2
    · obtain ⟨s1, s2, s3, s4⟩ := rst_st h hb hg hr e
      have s5 := mhA_rg h.nw s2
      rw [← i2] at s1
      rw [lrs_t e, fps_n (i3.1 e) (by omega), s1]
      have s6 := en_T h hb s2
      have s7 := ha.1.1 e
      refine ⟨⟨s6, ?_⟩, ?_, ?_, fun j a d => ?_⟩
      · unfold plc; dsimp only; rw [if_neg (by omega)]
      · dsimp only
        rw [s6]
        exact mlt_00 f2 f1 hL f3 (by rw [mhA_o hb]; exact s2) ht.1
      · dsimp only
        rw [gu_s, gu_s, s7]
      · dsimp only at d ⊢
        rw [gu_s] at d
        rw [gu_k (k := 100026) (by decide), gu_k (k := 500001) (by decide), s7]
        by_cases e1 : j = (k : Int)
        · rw [e1, gu_s, gu_s]
        · rw [gu_j e1, gu_j e1]
          exact i5 j a (by omega)
    · have e1 : X.1 = t := Classical.byContradiction fun q => e (i3.2 q)
      rw [lrs_f e, fps_t e1]
      exact ⟨⟨i1, i2⟩, i3, i4, i5⟩
/-- after 24 steps the route is there -/
theorem lrt_fin (hc : RG M) (hV : NW M b) (hL : LR M) {n l z : Int} (hz : 0 ≤ z) (hO : LO M b z) (hn : -2147483648 ≤ n ∧ n < 2147483648) (hl : -1 ≤ l ∧ l < 24) (hm : mcf M b n l z < 1000000000) : (lrt M b n l z 24).1.2.2 = 0 := by
  obtain ⟨r1, r2, r3, r4, r5, r6, r7⟩ := lrt_ok hc hV hL hz hO hn hl hm (i := 24) (by decide) (by decide)
  refine Classical.byContradiction fun q => ?_
  obtain ⟨⟨e, e1⟩, e2, e3⟩ := r1 (by omega)
  obtain ⟨p1, p2, p3⟩ := fep_b e1
  have p4 := mhA_rg hV p1
  have p5 := hO.1 e p1
  have p6 := mct_rg (a := (lrt M b n l z 24).1.2.1) (e := e) hV
  have p7 : 1 ≤ mnc M b (lrt M b n l z 24).1.2.1 e := by unfold mnc; split <;> omega
  have := cnt_lt (n := 24) (e := e) (f := fun x => mhA M b x && decide (mlt M b x z < (lrt M b n l z 24).1.2.2)) (f' := fun _ => false) p4.1 p4.2 (fun x hx => absurd hx (by decide)) (by simp only [Bool.and_eq_true, decide_eq_true_eq]; exact ⟨p1, by omega⟩) rfl
  have := (cnt_rg (f := fun _ => false) (n := 24) (by decide)).1
  omega
/-- THE PATH: there is one on both sides, and it is the same -/
theorem path_e (h : TT2 c m M b) (hb : M b = c b) (hL : LR M) (hc : RG M) {f t : Int} (hf : 0 ≤ f ∧ f < 10) (ht : 0 ≤ t ∧ t < 10) (hft : ¬ f = t) (hm : mcf M b f (-1) (24 + t) < 1000000000) : (fpx m f t 24).1 = t ∧ (fpx m f t 24).2.2 100026 5 = (lrt M b f (-1) (24 + t) 24).2 500001 7 ∧ (∀ j, 0 ≤ j → j < (lrt M b f (-1) (24 + t) 24).2 500001 7 → (fpx m f t 24).2.2 100029 j = (lrt M b f (-1) (24 + t) 24).2 200004 j) ∧ 0 < (lrt M b f (-1) (24 + t) 24).2 500001 7 := by
  obtain ⟨f1, f2, f3⟩ := h.fM hb
  have hg : GL c b (24 + t) := Or.inr ⟨by omega, by omega⟩
  have hO := LO_GL f2 f1 f3 (GL_o hb hg)
  have e0 := lrt_fin hc f2 hL (n := f) (l := -1) (by omega) hO (by omega) (by decide) hm
  obtain ⟨-, p2, p3, p4⟩ := pth_ok h hb hL hf ht hft hm 24 (by decide)
  rw [show ((24 : Nat) : Int) = 24 from rfl] at p2 p3 p4
  refine ⟨Classical.byContradiction fun q => ?_, p3, p4, ?_⟩
  · have := p2.2 q
    omega
  · obtain ⟨⟨-, a1⟩, a2, a3⟩ := lrt_arr (M := M) (b := b) (n := f) (l := -1) (z := 24 + t) 24
    rw [show ((24 : Nat) : Int) = 24 from rfl] at a1 a2 a3
    refine Classical.byContradiction fun q => ?_
    have := a3 0 (by omega) (by decide)
    rw [lrt_0] at this
    have h2 : (lrt M b f (-1) (24 + t) 24).1.2.2 = mcf M b f (-1) (24 + t) := by rw [← this]
    have := mcf_pos (n := f) (l := -1) f2 hL (by omega) hO
    omega
end
