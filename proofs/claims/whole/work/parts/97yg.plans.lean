/-! the law's cases: the cost and the arcs of a plan -/
theorem sl_it {n L : Nat} {T1 : gT} {c c1 : gC} (hr : RG c) (hS : SR c) (hN : NR c 100014) (h1 : IV n L T1 c1) (hk : ∀ k : Nat, ¬ (100044 ≤ k ∧ k ≤ 100051) → ¬ (400000 ≤ k ∧ k < 500000) → c1 k = rfr c k) : IT n L c T1 c1 := by
  have ok := rfr_ok hr hS hN
  exact ⟨h1, (hk _ (by decide) (by decide)).trans (funext fun j => ok.2.2 _ (by decide) (by decide) (by decide) j), (hk _ (by decide) (by decide)).trans (funext fun j => ok.2.2 _ (by decide) (by decide) (by decide) j)⟩
def PX2 (z K : Int) : Nat → Prop := fun X => (X = 0 ∧ (1 ≤ z ∧ z ≤ 3) ∧ ¬ K ≤ 12) ∨ (X = 1 ∧ ¬ (1 ≤ z ∧ z ≤ 3))
theorem PX2_un {z K : Int} (X X' : Nat) (h : PX2 z K X) (h' : PX2 z K X') : X = X' := by
  unfold PX2 at h h'
  omega
theorem PX2_ex {z K : Int} (X : Nat) (h : PX2 z K X) : ¬ ((1 ≤ z ∧ z ≤ 3) ∧ K ≤ 12) := by
  unfold PX2 at h
  omega
theorem PX2_E {z K : Int} (X : Nat) (h : PX2 z K X) : X = 1 ∨ X = 0 := by
  unfold PX2 at h
  omega
theorem PX2_hm {z K : Int} (X : Nat) (h : PX2 z K X) : 1 ≤ (if X = 1 then (1 : Int) else 2) ∧ (if X = 1 then (1 : Int) else 2) ≤ 3 := by
  split <;> decide
set_option maxHeartbeats 1000000 in
theorem op_22 {L : Nat} : OPC L 1347 := by
  intro n T c J i u5 u6 Q hn h hL hi hu hv hend
  have rg := IV_RG h
  have hz := rg 800000 (i + 1)
  have hRT := (IV_CT h).2.2.2.1
  have hS := IV_SR h
  have hD : -1 ≤ c 100014 3 ∧ c 100014 3 < 10 := by rw [(IV_NN h).1.2.1]; exact (IV_NW h).2.1.1
  obtain ⟨R, Z, ⟨r1, r2, r3, r4, r5⟩, hsl⟩ := IV_sl (J := J) h hn
  generalize hz' : c 800000 (i + 1) = z at *
  have h1 := c_x_planCost (g := 5) (J := J) (IV_XT h) (IV_NT h) rg (IV_NR h) (IV_WT h).1 (IV_WT h).2 (IV_WR h).1 hRT hS r1 r2 r3 hD r4 r5 hz
  rw [bcn_k h z] at h1
  have hr : ((1 ≤ z ∧ z ≤ 3) ∧ qK (mll c 200000) 200000 z ≤ 12) → -2147483648 ≤ mtl (qC (mll c 200000) 200000 z) ∧ mtl (qC (mll c 200000) 200000 z) < 2147483648 := fun w => by
    have := qC_b h w.2
    unfold mtl
    split <;> omega
  have h1' : gE 5 123 8 [.ref 500000, gi z] (gm T c J) (fun o M1 => ∃ T1 c1 J1, (((1 ≤ z ∧ z ≤ 3) ∧ qK (mll c 200000) 200000 z ≤ 12) ∧ o = .inl (some (gi (mtl (qC (mll c 200000) 200000 z)))) ∧ M1 = gm T1 c1 J1 ∧ IT n L c T1 c1) ∨ (∃ X, PX2 z (qK (mll c 200000) 200000 z) X ∧ o = .inr X ∧ M1 = gm (gTt T1) c1 J1 ∧ IT n L c T1 c1)) := gE_mono h1 fun o M1 q => by
    rcases q with ⟨a, b, T1, c1, J1, R1, Z1, hs, rfl, rfl⟩ | ⟨a, b, rfl, rfl⟩ | ⟨a, rfl, rfl⟩
    · obtain ⟨x1, x2, x3, x4, x5⟩ := hsl z T1 c1 J1 R1 Z1 a b hs
      exact ⟨T1, c1, J1, Or.inl ⟨⟨a, b⟩, by rw [(cso_k a x2).1], rfl, sl_it rg hS (IV_NR h) x1 x3⟩⟩
    · exact ⟨T, c, J, Or.inr ⟨0, Or.inl ⟨rfl, a, b⟩, rfl, rfl, h, rfl, rfl⟩⟩
    · exact ⟨T, c, J, Or.inr ⟨1, Or.inr ⟨rfl, a⟩, rfl, rfl, h, rfl, rfl⟩⟩
  have em : ∀ n' T' c2 J', IV n' L T' c2 → n' < 901 → c2 200000 = c 200000 → gE 5 243 9 [.ref 500001, gi z] (gm T' c2 J') (gMX (IV n' L T') (fun E => if E = 1 then 1 else 2) (mtl (qC (mll c 200000) 200000 z)) ((1 ≤ z ∧ z ≤ 3) ∧ qK (mll c 200000) 200000 z ≤ 12) (PX2 z (qK (mll c 200000) 200000 z)) T' J') := fun n' T' c2 J' h2 hn' es => by
    have mc := mcp_k h h2 hn' es (z := z)
    refine gE_mono (m_x_planCost (IV_MT h2) (IV_RG h2) (IV_NW h2) (IV_LQ h2).1 hz (fun w => ((pl_m h h2 hn' es).2 (mc.mp w).2).1)) fun o M1 q => ?_
    rcases q with ⟨q1, q2, rfl, rfl⟩ | ⟨q1, q2, rfl, rfl⟩ | ⟨q1, rfl, rfl⟩
    · have w := mc.mp q2
      have p := (pl_m h h2 hn' es).2 w.2
      exact ⟨_, _, rfl, rfl, p.2.2.2.1.1, Or.inl ⟨w, by rw [p.2.1], p.2.2.2.1.2⟩⟩
    · have w1 := inr_t.mp q1
      exact ⟨_, _, rfl, rfl, IV_tw h2 (by omega) (by decide), Or.inr ⟨0, Or.inl ⟨rfl, w1, fun w => by rw [mc.mpr ⟨w1, w⟩] at q2; cases q2⟩, tw_0⟩⟩
    · have w1 := inr_f.mp q1
      exact ⟨_, _, rfl, rfl, IV_tw h2 (by omega) (by decide), Or.inr ⟨1, Or.inr ⟨rfl, w1⟩, tw_0⟩⟩
  exact lc_22 (HW := 9) (HM := 9) (E := fun T c _ => IV (n + 1) L T c) (by omega) (by omega) h.2 hL hi hu hv (by rw [hz']; exact w_planCost (opx1 hn hr h1') (fun E T1 c1 J1 q => PX2_E E (RX_E E T1 c1 J1 q))) (by rw [hz']; exact opx2 hn hr PX2_ex em) (by rw [hz']; exact opx3 hn PX2_ex PX2_un PX2_hm em) (fun z T2 c2 J2 k b q hk hb => hend T2 c2 J2 k b q.2.2.2 hk hb)
/-- what is taken from the costs, arc by arc or item by item -/
theorem itm_e {q x : Int} {f : Int → Int} : ∀ n : Nat, n ≤ 24 → itI (fun i a => if tb q i = true then a - f i else a) x (n : Int) = itI (fun j a => a - f (nb q j)) x (cnt (tb q) (n : Int)) := by
  intro n
  induction n with
  | zero => intro _; rfl
  | succ k ih =>
    intro hk
    have c0 := (cnt_rg (f := tb q) (n := (k : Int)) (by omega)).1
    rw [show ((k + 1 : Nat) : Int) = (k : Int) + 1 from rfl, itI_s _ _ (by omega), ih (by omega), cnt_s (by omega)]
    by_cases w : tb q (k : Int) = true
    · rw [if_pos w, if_pos w, itI_s _ _ c0, nb_of ⟨by omega, by omega⟩ w]
    · rw [if_neg w, if_neg w]
theorem qO_b {n L : Nat} {T : gT} {c : gC} (h : IV n L T c) {z : Int} (hK : qK (mll c 200000) 200000 z ≤ 12) (hC : qC (mll c 200000) 200000 z < 1000000000) {i : Nat} (hi : (i : Int) < qK (mll c 200000) 200000 z) : I24 (qO (mll c 200000) 200000 z i) ∧ mhA c 200000 (qO (mll c 200000) 200000 z i) = true := by
  have rg := IV_RG h
  have hV := IV_NW h
  obtain ⟨f1, f2, f3⟩ := mll_FM rg hV (show ¬ 200000 = 200003 by decide)
  have hPH := q_PHY f2 f1 (mll_ok rg hV).2 (L1_o f3 (CL1_L (IV_SW h).2.2.2)) hK
  have p := (POR_I hPH hC i hi).1.2
  obtain ⟨a1, a2, -⟩ := nb_sp p.1 p.2
  exact ⟨a1, by rw [← mhA_o f3]; exact (tb_req a1 a2).1⟩
def PX3 (z K C y : Int) : Nat → Prop := fun X => (X = 0 ∧ (1 ≤ z ∧ z ≤ 3) ∧ ¬ K ≤ 12) ∨ (X = 1 ∧ ¬ (1 ≤ z ∧ z ≤ 3)) ∨ (X = 3 ∧ ((1 ≤ z ∧ z ≤ 3) ∧ K ≤ 12) ∧ ¬ (C < 1000000000 ∧ 0 ≤ y ∧ y < K))
theorem PX3_un {z K C y : Int} (X X' : Nat) (h : PX3 z K C y X) (h' : PX3 z K C y X') : X = X' := by
  unfold PX3 at h h'
  omega
theorem PX3_ex {z K C y : Int} (X : Nat) (h : PX3 z K C y X) : ¬ (((1 ≤ z ∧ z ≤ 3) ∧ K ≤ 12) ∧ (C < 1000000000 ∧ 0 ≤ y ∧ y < K)) := by
  unfold PX3 at h
  omega
theorem PX3_E {z K C y : Int} (X : Nat) (h : PX3 z K C y X) : X = 1 ∨ X = 0 ∨ X = 3 := by
  unfold PX3 at h
  omega
theorem PX3_hm {z K C y : Int} (X : Nat) (h : PX3 z K C y X) : 1 ≤ (if X = 1 then (1 : Int) else if X = 0 then 2 else 3) ∧ (if X = 1 then (1 : Int) else if X = 0 then 2 else 3) ≤ 3 := by
  split
  · decide
  · split <;> decide
set_option maxHeartbeats 1000000 in
theorem op_23 {L : Nat} : OPC L 1403 := by
  intro n T c J i u5 u6 Q hn h hL hi hu hv hend
  have rg := IV_RG h
  have hz := rg 800000 (i + 1)
  have hy := rg 800000 (i + 2)
  have hRT := (IV_CT h).2.2.2.1
  have hS := IV_SR h
  have hD : -1 ≤ c 100014 3 ∧ c 100014 3 < 10 := by rw [(IV_NN h).1.2.1]; exact (IV_NW h).2.1.1
  obtain ⟨R, Z, ⟨r1, r2, r3, r4, r5⟩, hsl⟩ := IV_sl (J := J) h hn
  generalize hz' : c 800000 (i + 1) = z at *
  generalize hy' : c 800000 (i + 2) = y at *
  have h1 := c_x_planArc (g := 5) (J := J) (IV_XT h) (IV_NT h) rg (IV_NR h) (IV_WT h).1 (IV_WT h).2 (IV_WR h).1 hRT hS r1 r2 r3 hD r4 r5 hz hy
  rw [bcn_k h z] at h1
  have hr : (((1 ≤ z ∧ z ≤ 3) ∧ qK (mll c 200000) 200000 z ≤ 12) ∧ (qC (mll c 200000) 200000 z < 1000000000 ∧ 0 ≤ y ∧ y < qK (mll c 200000) 200000 z)) → -2147483648 ≤ qO (mll c 200000) 200000 z y.toNat ∧ qO (mll c 200000) 200000 z y.toNat < 2147483648 := fun w => by
    have := (qO_b h w.1.2 w.2.1 (i := y.toNat) (by omega)).1
    unfold I24 at this
    omega
  have h1' : gE 5 124 8 [.ref 500000, gi z, gi y] (gm T c J) (fun o M1 => ∃ T1 c1 J1, ((((1 ≤ z ∧ z ≤ 3) ∧ qK (mll c 200000) 200000 z ≤ 12) ∧ (qC (mll c 200000) 200000 z < 1000000000 ∧ 0 ≤ y ∧ y < qK (mll c 200000) 200000 z)) ∧ o = .inl (some (gi (qO (mll c 200000) 200000 z y.toNat))) ∧ M1 = gm T1 c1 J1 ∧ IT n L c T1 c1) ∨ (∃ X, PX3 z (qK (mll c 200000) 200000 z) (qC (mll c 200000) 200000 z) y X ∧ o = .inr X ∧ M1 = gm (gTt T1) c1 J1 ∧ IT n L c T1 c1)) := gE_mono h1 fun o M1 q => by
    rcases q with ⟨a, b, T1, c1, J1, R1, Z1, hs, q⟩ | ⟨a, b, rfl, rfl⟩ | ⟨a, rfl, rfl⟩
    · obtain ⟨x1, x2, x3, x4, x5⟩ := hsl z T1 c1 J1 R1 Z1 a b hs
      have sz := (cso_k a x2).2
      rw [sz] at q
      rcases q with ⟨b0, b1, rfl, rfl⟩ | ⟨b0, rfl, rfl⟩
      · have hC : qC (mll c 200000) 200000 z < 1000000000 := Classical.byContradiction fun w => by
          rw [if_neg w] at b1
          omega
        rw [if_pos hC] at b1
        have := (x2.2.1 hC).2.2 y.toNat (by omega)
        have e2 := (x2.2.1 hC).2.1
        refine ⟨T1, c1, J1, Or.inl ⟨⟨⟨a, b⟩, hC, b0, b1⟩, ?_, rfl, sl_it rg hS (IV_NR h) x1 x3⟩⟩
        unfold paa
        rw [if_pos ⟨a, b0, by rw [e2]; exact b1⟩, ← this, Int.toNat_of_nonneg b0]
      · refine ⟨T1, c1, J1, Or.inr ⟨3, Or.inr (Or.inr ⟨rfl, ⟨a, b⟩, fun w => b0 ?_⟩), rfl, rfl, sl_it rg hS (IV_NR h) x1 x3⟩⟩
        rw [if_pos w.1]
        exact w.2
    · exact ⟨T, c, J, Or.inr ⟨0, Or.inl ⟨rfl, a, b⟩, rfl, rfl, h, rfl, rfl⟩⟩
    · exact ⟨T, c, J, Or.inr ⟨1, Or.inr (Or.inl ⟨rfl, a⟩), rfl, rfl, h, rfl, rfl⟩⟩
  have em : ∀ n' T' c2 J', IV n' L T' c2 → n' < 901 → c2 200000 = c 200000 → gE 5 244 9 [.ref 500001, gi z, gi y] (gm T' c2 J') (gMX (IV n' L T') (fun E => if E = 1 then 1 else if E = 0 then 2 else 3) (qO (mll c 200000) 200000 z y.toNat) (((1 ≤ z ∧ z ≤ 3) ∧ qK (mll c 200000) 200000 z ≤ 12) ∧ (qC (mll c 200000) 200000 z < 1000000000 ∧ 0 ≤ y ∧ y < qK (mll c 200000) 200000 z)) (PX3 z (qK (mll c 200000) 200000 z) (qC (mll c 200000) 200000 z) y) T' J') := fun n' T' c2 J' h2 hn' es => by
    have mc := mcp_k h h2 hn' es (z := z)
    have eK := (pl_m h h2 hn' es (z := z)).1
    refine gE_mono (m_x_planArc (IV_MT h2) (IV_RG h2) (IV_NW h2) (IV_LQ h2).1 hz (fun w => ((pl_m h h2 hn' es).2 (mc.mp w).2).1) hy) fun o M1 q => ?_
    rcases q with ⟨q1, q2, q3⟩ | ⟨q1, q2, rfl, rfl⟩ | ⟨q1, rfl, rfl⟩
    · have w := mc.mp q2
      have p := (pl_m h h2 hn' es).2 w.2
      rw [eK, p.2.1] at q3
      rcases q3 with ⟨q3, rfl, rfl⟩ | ⟨q3, rfl, rfl⟩
      · rw [Bool.and_eq_true, decide_eq_true_eq, inr_t] at q3
        refine ⟨_, _, rfl, rfl, IV_tw p.2.2.2.1.1 (by omega) (by decide), Or.inl ⟨⟨w, q3.1, by omega, by omega⟩, ?_, tw_0⟩⟩
        have := p.2.2.1 (by rw [p.2.1]; exact q3.1) y.toNat (by omega)
        rw [Int.toNat_of_nonneg (by omega)] at this
        exact this
      · refine ⟨_, _, rfl, rfl, IV_tw p.2.2.2.1.1 (by omega) (by decide), Or.inr ⟨3, Or.inr (Or.inr ⟨rfl, w, fun x => ?_⟩), tw_0⟩⟩
        rw [decide_eq_true x.1, Bool.true_and] at q3
        have := inr_f.mp q3
        omega
    · have w1 := inr_t.mp q1
      exact ⟨_, _, rfl, rfl, IV_tw h2 (by omega) (by decide), Or.inr ⟨0, Or.inl ⟨rfl, w1, fun w => by rw [mc.mpr ⟨w1, w⟩] at q2; cases q2⟩, tw_0⟩⟩
    · have w1 := inr_f.mp q1
      exact ⟨_, _, rfl, rfl, IV_tw h2 (by omega) (by decide), Or.inr ⟨1, Or.inr (Or.inl ⟨rfl, w1⟩), tw_0⟩⟩
  exact lc_23 (HW := 9) (HM := 9) (E := fun T c _ => IV (n + 1) L T c) (by omega) (by omega) h.2 hL hi hu hv (by rw [hz', hy']; exact w_planArc (opx1 hn hr h1') (fun E T1 c1 J1 q => PX3_E E (RX_E E T1 c1 J1 q))) (by rw [hz', hy']; exact opx2 hn hr PX3_ex em) (by rw [hz', hy']; exact opx3 hn PX3_ex PX3_un PX3_hm em) (fun z T2 c2 J2 k b q hk hb => hend T2 c2 J2 k b q.2.2.2 hk hb)
/-- what the plan costs more than its arcs -/
def ovh (c : gC) (z : Int) : Int := itI (fun j a => a - mln c 200000 (nb (mrq c 200000 z) j)) (qC (mll c 200000) 200000 z) (qK (mll c 200000) 200000 z)
theorem ovh_rg {n L : Nat} {T : gT} {c : gC} (h : IV n L T c) {z : Int} (hK : qK (mll c 200000) 200000 z ≤ 12) : ∀ k : Nat, (k : Int) ≤ qK (mll c 200000) 200000 z → qC (mll c 200000) 200000 z - 1000 * (k : Int) ≤ itI (fun j a => a - mln c 200000 (nb (mrq c 200000 z) j)) (qC (mll c 200000) 200000 z) (k : Int) ∧ itI (fun j a => a - mln c 200000 (nb (mrq c 200000 z) j)) (qC (mll c 200000) 200000 z) (k : Int) ≤ qC (mll c 200000) 200000 z := by
  have hV := IV_NW h
  have hb : mll c 200000 200000 = c 200000 := (mll_FM (IV_RG h) hV (by decide)).2.2
  intro k
  induction k with
  | zero => intro _; rw [show ((0 : Nat) : Int) = 0 from rfl, itI_0]; omega
  | succ k ih =>
    intro hk
    have i1 := ih (by omega)
    have hj : (k : Int) < cnt (tb (mrq c 200000 z)) 24 := by
      unfold qK at hk
      rw [mrq_o hb] at hk
      omega
    obtain ⟨a1, a2, -⟩ := nb_sp (q := mrq c 200000 z) (j := (k : Int)) (by omega) hj
    have := mln_rg hV a1
    rw [show ((k + 1 : Nat) : Int) = (k : Int) + 1 from rfl, itI_s _ _ (by omega)]
    try dsimp only
    omega
theorem ovh_c {n L : Nat} {T T1 : gT} {c c1 : gC} (h : IV n L T c) (h1 : IV n L T1 c1) (es : c1 200000 = c 200000) {z : Int} (hz : 1 ≤ z ∧ z ≤ 3) (hp : PLN c c1 z) : (if cso c1 z = -1 then -1 else itI (pvf c1 (mskI (fun a => hA c1 100014 a && decide (cl c1 100014 a ≤ z)) 24)) (cso c1 z) 24) = if qC (mll c 200000) 200000 z < 1000000000 then ovh c z else -1 := by
  have hV := IV_NW h
  have hb : mll c 200000 200000 = c 200000 := (mll_FM (IV_RG h) hV (by decide)).2.2
  have b := qC_b h hp.1
  rw [(cso_k hz hp).1]
  unfold mtl
  by_cases q : qC (mll c 200000) 200000 z < 1000000000
  · rw [if_neg (show ¬ 1000000000 ≤ qC (mll c 200000) 200000 z by omega), if_neg (by omega), if_pos q]
    have eq1 : mskI (fun a => hA c1 100014 a && decide (cl c1 100014 a ≤ z)) 24 = mrq c 200000 z := by
      rw [req_e (IV_NN h1) (IV_NW h1), mrq_o es]
    rw [eq1]
    have e1 : itI (pvf c1 (mrq c 200000 z)) (qC (mll c 200000) 200000 z) 24 = itI (fun i a => if tb (mrq c 200000 z) i = true then a - mln c 200000 i else a) (qC (mll c 200000) 200000 z) 24 := by
      refine itI_congr fun e e0 e1 => funext fun s => ?_
      unfold pvf
      by_cases w : tb (mrq c 200000 z) e = true
      · rw [if_pos w, if_pos w]
        have ha := (tb_req ⟨e0, e1⟩ w).1
        have ha1 : mhA c1 200000 e = true := by rw [mhA_o es]; exact ha
        rw [(NN_ln (IV_NN h1) (IV_NW h1) ha1).1, mln_e es]
      · rw [if_neg w, if_neg w]
    have e2 := itm_e (q := mrq c 200000 z) (x := qC (mll c 200000) 200000 z) (f := fun a => mln c 200000 a) 24 (Nat.le_refl _)
    rw [show ((24 : Nat) : Int) = 24 from rfl] at e2
    rw [e1, e2]
    unfold ovh qK
    rw [mrq_o hb]
  · rw [if_pos (show 1000000000 ≤ qC (mll c 200000) 200000 z by omega), if_pos rfl, if_neg q]
theorem ovh_m {n L : Nat} {T : gT} {c M : gC} (h : IV n L T c) {z : Int} (hK : qK (mll c 200000) 200000 z ≤ 12) (hM : M 200000 = c 200000) (h5 : ∀ j, 0 ≤ j → j < qK (mll c 200000) 200000 z → M 200005 j = nb (mrq c 200000 z) j) : mtl (itI (fun j k => if k < 1000000000 then k - mln M 200000 (M 200005 j) else k) (qC (mll c 200000) 200000 z) (qK (mll c 200000) 200000 z)) = if qC (mll c 200000) 200000 z < 1000000000 then ovh c z else -1 := by
  have b := qC_b h hK
  have key : ∀ k : Nat, (k : Int) ≤ qK (mll c 200000) 200000 z → itI (fun j k => if k < 1000000000 then k - mln M 200000 (M 200005 j) else k) (qC (mll c 200000) 200000 z) (k : Int) = if qC (mll c 200000) 200000 z < 1000000000 then itI (fun j a => a - mln c 200000 (nb (mrq c 200000 z) j)) (qC (mll c 200000) 200000 z) (k : Int) else qC (mll c 200000) 200000 z := by
    intro k
    induction k with
    | zero =>
      intro _
      rw [show ((0 : Nat) : Int) = 0 from rfl, itI_0, itI_0]
      exact (ite_self _).symm
    | succ k ih =>
      intro hk
      have r := ovh_rg h hK k (by omega)
      rw [show ((k + 1 : Nat) : Int) = (k : Int) + 1 from rfl, itI_s _ _ (by omega), ih (by omega)]
      try dsimp only
      by_cases q : qC (mll c 200000) 200000 z < 1000000000
      · rw [if_pos q, if_pos (by omega), if_pos q, itI_s _ _ (by omega), h5 _ (by omega) (by omega), mln_e hM]
      · rw [if_neg q, if_neg q, if_neg q]
  have k2 := key (qK (mll c 200000) 200000 z).toNat (by omega)
  have r2 := ovh_rg h hK (qK (mll c 200000) 200000 z).toNat (by omega)
  rw [Int.toNat_of_nonneg b.2.2] at k2 r2
  rw [k2]
  unfold mtl
  by_cases q : qC (mll c 200000) 200000 z < 1000000000
  · rw [if_pos q, if_pos q, if_neg (by omega)]
    rfl
  · rw [if_neg q, if_neg q, if_pos (by omega)]
set_option maxHeartbeats 1000000 in
theorem op_25 {L : Nat} : OPC L 1527 := by
  intro n T c J i u5 u6 Q hn h hL hi hu hv hend
  have rg := IV_RG h
  have hz := rg 800000 (i + 1)
  have hRT := (IV_CT h).2.2.2.1
  have hS := IV_SR h
  have hD : -1 ≤ c 100014 3 ∧ c 100014 3 < 10 := by rw [(IV_NN h).1.2.1]; exact (IV_NW h).2.1.1
  obtain ⟨R, Z, ⟨r1, r2, r3, r4, r5⟩, hsl⟩ := IV_sl (J := J) h hn
  generalize hz' : c 800000 (i + 1) = z at *
  have h1 := c_x_overhead (g := 5) (J := J) (IV_XT h) (IV_NT h) rg (IV_NR h) (IV_WT h).1 (IV_WT h).2 (IV_WR h).1 hRT hS r1 r2 r3 hD r4 r5 hz
  rw [bcn_k h z] at h1
  have hr : ((1 ≤ z ∧ z ≤ 3) ∧ qK (mll c 200000) 200000 z ≤ 12) → -2147483648 ≤ (if qC (mll c 200000) 200000 z < 1000000000 then ovh c z else -1) ∧ (if qC (mll c 200000) 200000 z < 1000000000 then ovh c z else -1) < 2147483648 := fun w => by
    have b := qC_b h w.2
    have r2 := ovh_rg h w.2 (qK (mll c 200000) 200000 z).toNat (by omega)
    rw [Int.toNat_of_nonneg b.2.2] at r2
    unfold ovh
    split <;> omega
  have h1' : gE 5 126 8 [.ref 500000, gi z] (gm T c J) (fun o M1 => ∃ T1 c1 J1, (((1 ≤ z ∧ z ≤ 3) ∧ qK (mll c 200000) 200000 z ≤ 12) ∧ o = .inl (some (gi (if qC (mll c 200000) 200000 z < 1000000000 then ovh c z else -1))) ∧ M1 = gm T1 c1 J1 ∧ IT n L c T1 c1) ∨ (∃ X, PX2 z (qK (mll c 200000) 200000 z) X ∧ o = .inr X ∧ M1 = gm (gTt T1) c1 J1 ∧ IT n L c T1 c1)) := gE_mono h1 fun o M1 q => by
    rcases q with ⟨a, b, T1, c1, J1, R1, Z1, hs, rfl, rfl⟩ | ⟨a, b, rfl, rfl⟩ | ⟨a, rfl, rfl⟩
    · obtain ⟨x1, x2, x3, x4, x5⟩ := hsl z T1 c1 J1 R1 Z1 a b hs
      have it := sl_it rg hS (IV_NR h) x1 x3
      exact ⟨T1, c1, J1, Or.inl ⟨⟨a, b⟩, by rw [ovh_c h x1 it.2.1 a x2], rfl, it⟩⟩
    · exact ⟨T, c, J, Or.inr ⟨0, Or.inl ⟨rfl, a, b⟩, rfl, rfl, h, rfl, rfl⟩⟩
    · exact ⟨T, c, J, Or.inr ⟨1, Or.inr ⟨rfl, a⟩, rfl, rfl, h, rfl, rfl⟩⟩
  have em : ∀ n' T' c2 J', IV n' L T' c2 → n' < 901 → c2 200000 = c 200000 → gE 5 245 9 [.ref 500001, gi z] (gm T' c2 J') (gMX (IV n' L T') (fun E => if E = 1 then 1 else 2) (if qC (mll c 200000) 200000 z < 1000000000 then ovh c z else -1) ((1 ≤ z ∧ z ≤ 3) ∧ qK (mll c 200000) 200000 z ≤ 12) (PX2 z (qK (mll c 200000) 200000 z)) T' J') := fun n' T' c2 J' h2 hn' es => by
    have mc := mcp_k h h2 hn' es (z := z)
    have eK := (pl_m h h2 hn' es (z := z)).1
    refine gE_mono (m_x_planOverhead (IV_MT h2) (IV_RG h2) (IV_NW h2) (IV_LQ h2).1 hz (fun w => ((pl_m h h2 hn' es).2 (mc.mp w).2).1)) fun o M1 q => ?_
    rcases q with ⟨q1, q2, rfl, rfl⟩ | ⟨q1, q2, rfl, rfl⟩ | ⟨q1, rfl, rfl⟩
    · have w := mc.mp q2
      have p := (pl_m h h2 hn' es).2 w.2
      exact ⟨_, _, rfl, rfl, p.2.2.2.1.1, Or.inl ⟨w, by rw [eK, p.2.1]; exact ovh_m h w.2 p.2.2.2.2.2.2.1 p.2.2.2.2.1, p.2.2.2.1.2⟩⟩
    · have w1 := inr_t.mp q1
      exact ⟨_, _, rfl, rfl, IV_tw h2 (by omega) (by decide), Or.inr ⟨0, Or.inl ⟨rfl, w1, fun w => by rw [mc.mpr ⟨w1, w⟩] at q2; cases q2⟩, tw_0⟩⟩
    · have w1 := inr_f.mp q1
      exact ⟨_, _, rfl, rfl, IV_tw h2 (by omega) (by decide), Or.inr ⟨1, Or.inr ⟨rfl, w1⟩, tw_0⟩⟩
  exact lc_25 (HW := 9) (HM := 9) (E := fun T c _ => IV (n + 1) L T c) (by omega) (by omega) h.2 hL hi hu hv (by rw [hz']; exact w_planOverhead (opx1 hn hr h1') (fun E T1 c1 J1 q => PX2_E E (RX_E E T1 c1 J1 q))) (by rw [hz']; exact opx2 hn hr PX2_ex em) (by rw [hz']; exact opx3 hn PX2_ex PX2_un PX2_hm em) (fun z T2 c2 J2 k b q hk hb => hend T2 c2 J2 k b q.2.2.2 hk hb)
