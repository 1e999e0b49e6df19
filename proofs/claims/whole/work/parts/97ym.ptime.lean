/-! the law's case: the time of a plan; both predictions -/
theorem drl_t {c : gC} {n w q : Nat} {s : Bool} : ∀ i : Nat, (drl c n w q s (i : Int)).2 w 1 = c w 1 + (drl c n w q s (i : Int)).1 := by
  intro i
  induction i with
  | zero => exact (Int.add_zero _).symm
  | succ i ih =>
    rw [show ((i + 1 : Nat) : Int) = (i : Int) + 1 from rfl, drl_s (by omega)]
    dsimp only
    rw [drv_w.1, ih, Int.add_assoc]
theorem drl_kk {c : gC} {n w q k : Nat} {s : Bool} (hk : k < w ∨ w + 5 ≤ k) : ∀ i : Nat, (drl c n w q s (i : Int)).2 k = c k := by
  intro i
  induction i with
  | zero => rfl
  | succ i ih =>
    rw [show ((i + 1 : Nat) : Int) = (i : Int) + 1 from rfl, drl_s (by omega)]
    dsimp only
    exact (funext fun j => drv_k hk).trans ih
theorem gol_kk {b k : Nat} {r : Int → Int} {s : Bool} {m : gC} (hk : ¬ k = b) : ∀ i : Nat, (gol b r s m (i : Int)).2 k = m k := by
  intro i
  induction i with
  | zero => rfl
  | succ i ih =>
    rw [show ((i + 1 : Nat) : Int) = (i : Int) + 1 from rfl, gol_s (by omega)]
    dsimp only
    exact (mgo_k hk).trans ih
theorem mgt_7u {c : gC} {b : Nat} {n : Int} {s : Bool} (hb : ¬ 500001 = b) (h7 : 0 ≤ c 500001 7 ∧ c 500001 7 ≤ 24) : 0 ≤ (mgt c b n s).2 500001 7 ∧ (mgt c b n s).2 500001 7 ≤ 24 := by
  by_cases e : c b 6 = n
  · rw [mgt_e e]; exact h7
  · have r := (lrt_arr (M := c) (b := b) (n := c b 6) (l := -1) (z := 24 + n) 24).1.2
    rw [show ((24 : Nat) : Int) = 24 from rfl] at r
    have hR : (lrt c b (c b 6) (-1) (24 + n) 24).2 = rtm c b n := rfl
    rw [hR] at r
    rw [mgt_n e]
    have g := gol_kk (r := fun k => rtm c b n 200004 k) (s := s) (m := rtm c b n) hb (rtm c b n 500001 7).toNat
    rw [Int.toNat_of_nonneg r.1] at g
    rw [g]
    exact r
theorem pml_7 {r : Int → Int} {s : Bool} {m : gC} (h7 : 0 ≤ m 500001 7 ∧ m 500001 7 ≤ 24) : ∀ i : Nat, 0 ≤ (pml r s m (i : Int)).2 500001 7 ∧ (pml r s m (i : Int)).2 500001 7 ≤ 24 := by
  intro i
  induction i with
  | zero => exact h7
  | succ i ih =>
    rw [show ((i + 1 : Nat) : Int) = (i : Int) + 1 from rfl, pml_s (by omega)]
    generalize pml r s m (i : Int) = x at *
    by_cases e : x.1 = -1
    · rw [qmf_e e]; exact ih
    · cases e2 : mcr x.2 200002 (mbg x.2 200002 (r (i : Int))) with
      | false => rw [qmf_n e e2]; exact ih
      | true =>
        rw [qmf_y e e2]
        dsimp only
        rw [mgo_k (by decide)]
        exact mgt_7u (by decide) ih
theorem pmt_7 {r : Int → Int} {s : Bool} {m : gC} (h7 : 0 ≤ m 500001 7 ∧ m 500001 7 ≤ 24) (i : Nat) : 0 ≤ (pmt r s m (i : Int)).2 500001 7 ∧ (pmt r s m (i : Int)).2 500001 7 ≤ 24 := by
  have p := pml_7 (r := r) (s := s) h7 i
  by_cases e : (pml r s m (i : Int)).1 = -1
  · rw [pmt_a e]; exact p
  · cases e2 : mcr (pml r s m (i : Int)).2 200002 ((pml r s m (i : Int)).2 200002 2) with
    | false => rw [pmt_c e e2]; exact p
    | true => rw [pmt_b e e2]; exact mgt_7u (by decide) p
theorem pdt_26 {c : gC} {z : Int} {s : Bool} {j : Int} (hj : ¬ j = 5) : (pdt c z s).2 100026 j = c 100026 j := by
  have f := fpx_26 (c := c) (f := c 100039 2) (t := z) 24 hj
  rw [show ((24 : Nat) : Int) = 24 from rfl] at f
  have g6 := fpx_len (c := c) (f := c 100039 2) (t := z) (i := 24) (by omega)
  by_cases e : (fpx c (c 100039 2) z 24).1 = z
  · rw [pdt_t e]
    have d := drl_kk (c := (fpx c (c 100039 2) z 24).2.2) (n := 100014) (w := 100039) (q := 100029) (k := 100026) (s := s) (by decide) ((fpx c (c 100039 2) z 24).2.2 100026 5).toNat
    rw [Int.toNat_of_nonneg g6.1] at d
    dsimp only
    rw [d]
    exact f
  · rw [pdt_f e]
    exact f
theorem ptl_26 {c : gC} {z : Int} {s : Bool} {j : Int} (hj : ¬ j = 5) : ∀ i : Nat, (ptl c z s (i : Int)).2 100026 j = c 100026 j := by
  intro i
  induction i with
  | zero => exact wcp_k (c := c) (w := 100039) (v := 100034) (x := 100026) (j := j) (by decide)
  | succ i ih =>
    have e : ptl c z s ((i + 1 : Nat) : Int) = ptf c z s (i : Int) (ptl c z s (i : Int)) := by
      unfold ptl
      rw [show ((i + 1 : Nat) : Int) = (i : Int) + 1 from rfl, itI_s _ _ (by omega)]
    rw [e]
    generalize ptl c z s (i : Int) = x at *
    cases h : x.1 with
    | false => rw [ptf_0 h]; exact ih
    | true =>
      cases h2 : (pdt x.2 (bg c 100014 (paa c z (i : Int))) s).1 with
      | false => rw [ptf_2 h h2]; exact (pdt_26 hj).trans ih
      | true =>
        rw [ptf_1 h h2]
        dsimp only
        rw [drv_k (by decide)]
        exact (pdt_26 hj).trans ih
/-- one trip of both predictions -/
theorem pd_e {c c1 M0 x y : gC} {g B : Int} {s : Bool} (tt : TT2 c c1 M0 200000) (hL0 : LR M0) (hp : PO c1 x) (rx : RG x) (nx : NR x 100014) (wx : WR x 100039 B) (hB : B ≤ 1200000000) (e3 : y 200003 = M0 200003) (nb : NB c 200000 y 200002) (ry : RG y) (sw : SW x 100014 100039 y 200002) (hg : 0 ≤ g ∧ g < y 200002 0) : (pdt x g s).1 = mcr y 200002 g ∧ ((pdt x g s).1 = true → SW (pdt x g s).2 100014 100039 (mgt y 200002 g s).2 200002 ∧ (pdt x g s).2 100039 1 = x 100039 1 + (mgt y 200002 g s).1 ∧ NA y (mgt y 200002 g s).2 200002 ∧ 0 ≤ (mgt y 200002 g s).1) := by
  have hVy := sw.1.2
  have t2 : TT2 (ccb c y 200002) x y 200002 := TT2_mk tt (by decide) (PO_NF hp) (funext fun j => hp _ (by decide) (by decide) (by decide) j) (funext fun j => hp _ (by decide) (by decide) (by decide) j) e3 nb hVy
  have hbb : y 200002 = ccb c y 200002 200002 := ccb_b.symm
  have hL : LR y := LR_M hL0 e3
  obtain ⟨f1, f2, f3⟩ := t2.fM hbb
  have ef : x 100039 2 = y 200002 6 := sw.2.1.1.1.2
  have hN10 := hVy.1.1
  have hf : 0 ≤ y 200002 6 ∧ y 200002 6 < y 200002 0 := by
    rcases sw.2.2.1.2 with q | q <;> omega
  have gi1 := go_i t2 hbb hL ry (f := y 200002 6) (t := g) (by omega) (by omega)
  have mi := mcr_e f2 f1 hL f3 (fun a ha => (NN_e sw.1.1 f2 ha).2.2) hf hg
  have fo := fpx_ok (c := x) nx rx (f := y 200002 6) (t := g) (i := 24) (by omega) (by omega)
  have fl := fpx_len (c := x) (f := y 200002 6) (t := g) (i := 24) (by omega)
  have fa := (fpx_arc (c := x) (f := y 200002 6) (t := g) (i := 24) (by omega) (by omega)).2
  by_cases e : (fpx x (y 200002 6) g 24).1 = g
  · have e' : (fpx x (x 100039 2) g 24).1 = g := by rw [ef]; exact e
    have hm := gi1.mp e
    rw [pdt_t e', ef]
    dsimp only
    have swX : SW (fpx x (y 200002 6) g 24).2.2 100014 100039 y 200002 := SW_o sw (NF_of fo.2.1) (fun k k0 k1 j => fo.2.1 k (by omega) (by omega) j) rfl
    have ge := go_e (s := s) (w := 100039) (X := (fpx x (y 200002 6) g 24).2.2) t2 hbb ⟨⟨by decide, by decide⟩, by decide⟩ hL ry (by decide) swX (by omega) (by omega) (fun _ _ _ => rfl) hm
    have dt := drl_t (c := (fpx x (y 200002 6) g 24).2.2) (n := 100014) (w := 100039) (q := 100029) (s := s) ((fpx x (y 200002 6) g 24).2.2 100026 5).toNat
    rw [Int.toNat_of_nonneg fl.1] at dt
    have D := drl_ok (s := s) (q := 100029) fo.1 (NF_NR (NF_of fo.2.1) nx) (WR_arg wx fun k a b j => fo.2.1 k (by omega) (by omega) j) (by omega) (by omega) _ fl.1 (by omega) fa
    refine ⟨(mi.mpr hm).symm, fun _ => ⟨ge.2.1, ?_, ge.2.2.2.1, by rw [← ge.2.2.1]; exact D.2.2.2.1⟩⟩
    rw [dt, ge.2.2.1, fo.2.1 100039 (by decide) (by decide)]
  · have e' : ¬ (fpx x (x 100039 2) g 24).1 = g := by rw [ef]; exact e
    rw [pdt_f e']
    refine ⟨?_, fun q => by cases q⟩
    cases h : mcr y 200002 g with
    | false => rfl
    | true => exact absurd (gi1.mpr (mi.mp h)) e
def REL (T0 : Int) (x : Bool × gC) (y : Int × gC) : Prop := (x.1 = true → 0 ≤ y.1 ∧ SW x.2 100014 100039 y.2 200002 ∧ y.1 = x.2 100039 1 - T0) ∧ (x.1 = false → y.1 = -1)
theorem pt_rel {c c1 M0 M1 : gC} {z B N : Int} {s : Bool} {r : Int → Int} (tt : TT2 c c1 M0 200000) (hL0 : LR M0) (hN : NR c1 100014) (hz : 1 ≤ z ∧ z ≤ 3) (hB : B ≤ 900000000) (hNN : 0 ≤ N ∧ N ≤ 12) (hPT : ∀ i, 0 ≤ i → i ≤ N → RG (ptl c1 z s i).2 ∧ WR (ptl c1 z s i).2 100039 (B + 700000 * i) ∧ PO c1 (ptl c1 z s i).2) (hPM : ∀ i, 0 ≤ i → i ≤ N → PX M1 (pml r s M1 i).2) (e3 : M1 200003 = M0 200003) (nb : NB c 200000 M1 200002) (sw : SW (wcp c1 100039 100034) 100014 100039 M1 200002) (hr : ∀ j, 0 ≤ j → j < N → paa c1 z j = r j ∧ mhA c 200000 (r j) = true) : ∀ i : Nat, (i : Int) ≤ N → REL (c1 100034 1) (ptl c1 z s (i : Int)) (pml r s M1 (i : Int)) := by
  intro i
  induction i with
  | zero =>
    intro _
    refine ⟨fun _ => ⟨Int.le_refl _, sw, ?_⟩, fun q => by cases q⟩
    have w := (wcp_eq (c := c1) (w := 100039) (v := 100034) (by decide)).1 1 (by decide) (by decide)
    show (0 : Int) = wcp c1 100039 100034 100039 1 - c1 100034 1
    omega
  | succ i ih =>
    intro hi
    have h := ih (by omega)
    obtain ⟨pt1, pt2, pt3⟩ := hPT (i : Int) (by omega) (by omega)
    obtain ⟨pm1, pm2, pm3, pm4⟩ := hPM (i : Int) (by omega) (by omega)
    obtain ⟨r1, r2⟩ := hr (i : Int) (by omega) (by omega)
    have e : ptl c1 z s ((i + 1 : Nat) : Int) = ptf c1 z s (i : Int) (ptl c1 z s (i : Int)) := by
      unfold ptl
      rw [show ((i + 1 : Nat) : Int) = (i : Int) + 1 from rfl, itI_s _ _ (by omega)]
    rw [e, show ((i + 1 : Nat) : Int) = (i : Int) + 1 from rfl, pml_s (by omega)]
    generalize ptl c1 z s (i : Int) = x at *
    generalize pml r s M1 (i : Int) = y at *
    cases hx : x.1 with
    | false =>
      rw [ptf_0 hx, qmf_e (h.2 hx)]
      exact h
    | true =>
      obtain ⟨h1, h2, h3⟩ := h.1 hx
      have hne : ¬ y.1 = -1 := by omega
      have hV := tt.nw
      have nby : NB c 200000 y.2 200002 := fun j hj => (nb j hj).trans (pm2 j (by omega)).symm
      have ha := mhA_rg hV r2
      have eg : bg c1 100014 (paa c1 z (i : Int)) = mbg y.2 200002 (r (i : Int)) := by
        rw [r1, NF_bg tt.tb.1.1, (NN_bg tt.nn hV r2).1, mbg_B nby ha]
      have hbg : 0 ≤ mbg y.2 200002 (r (i : Int)) ∧ mbg y.2 200002 (r (i : Int)) < y.2 200002 0 := by
        have := (NN_e tt.nn hV r2).1
        rw [← mbg_B nby ha, ← nby 0 (by decide)]
        exact this
      have nx : NR x.2 100014 := NF_NR (PO_NF pt3) hN
      have P := pd_e (s := s) tt hL0 pt3 pt1 nx pt2 (by omega) ((pm3 _ (by decide) (by decide) (by decide)).trans e3) nby pm1 h2 hbg
      have po := pdt_ok (z := mbg y.2 200002 (r (i : Int))) (s := s) pt1 nx pt2 (by omega)
      cases h4 : (pdt x.2 (mbg y.2 200002 (r (i : Int))) s).1 with
      | false =>
        rw [ptf_2 hx (by rw [eg]; exact h4), qmf_n hne (by rw [← P.1]; exact h4)]
        exact ⟨(fun q => by cases q), fun _ => rfl⟩
      | true =>
        obtain ⟨P1, P2, P3, P4⟩ := P.2 h4
        rw [ptf_1 hx (by rw [eg]; exact h4), qmf_y hne (by rw [← P.1]; exact h4), eg, r1]
        have ay : mhA y.2 200002 (r (i : Int)) = true := by rw [← mhA_B nby hV]; exact r2
        have am : mhA (mgt y.2 200002 (mbg y.2 200002 (r (i : Int))) s).2 200002 (r (i : Int)) = true := by rw [mhA_n P3 h2.1.2]; exact ay
        have sd := SW_drv P1 (Or.inl (by decide)) am s
        have sc := scn_rg (n := 100014) (w := 100039) (NF_NR (fun k k0 k1 j => po.2.2 k (by omega) (by omega) (by omega) j) nx) po.2.1 (r (i : Int))
        refine ⟨fun _ => ⟨?_, sd.1, ?_⟩, fun q => by cases q⟩
        · dsimp only
          rw [← sd.2]
          omega
        · dsimp only
          rw [← sd.2, drv_w.1, P2, h3]
          omega
