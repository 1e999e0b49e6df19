/-! the law's case: the turns of a plan -/
theorem legs_M {M : gC} {b : Nat} {z : Int} (f2 : NW M b) (f1 : FWk M b 24 M) (hL : LR M) (f3 : L1 M b) (hK : qK M b z ≤ 12) (hC : qC M b z < 1000000000) (h7 : ∀ i : Nat, (i : Int) < qK M b z → M 200007 (i : Int) = qO M b z i) : (∀ j, 0 ≤ j → j < qK M b z → mhA M b (M 200007 j) = true ∧ (1 ≤ j → ¬ M 200007 (j - 1) = M 200007 j) ∧ mcf M b (pta M b j) (ptb M j) (M 200007 j) < 1000000000) ∧ (0 < qK M b z → (pta M b (qK M b z) = men M b (M 200007 (qK M b z - 1)) ∧ ptb M (qK M b z) = M 200007 (qK M b z - 1)) ∧ (¬ pta M b (qK M b z) = M b 2 → 0 ≤ M b 2 → M b 2 < 10 → mcf M b (pta M b (qK M b z)) (ptb M (qK M b z)) (24 + M b 2) < 1000000000)) := by
  have lg := legs f2 f1 hL f3 hK hC
  refine ⟨fun j j0 j1 => ?_, fun k0 => ?_⟩
  · obtain ⟨i, rfl⟩ : ∃ i : Nat, j = (i : Int) := ⟨j.toNat, by omega⟩
    obtain ⟨l1, l2, l3, l4⟩ := lg i j1
    cases i with
    | zero =>
      refine ⟨by rw [h7 0 j1]; exact l1.2, fun w => absurd w (by omega), ?_⟩
      rw [h7 0 j1]
      exact l2 rfl
    | succ k =>
      have l5 := l3 k rfl
      rw [h7 (k + 1) j1]
      have e1 : ((k + 1 : Nat) : Int) - 1 = (k : Int) := by omega
      unfold pta ptb
      rw [if_neg (by omega), if_neg (by omega), e1, h7 k (by omega)]
      exact ⟨l1.2, fun _ => l5.1, l5.2⟩
  · obtain ⟨l1, l2, l3, l4⟩ := lg (qK M b z - 1).toNat (by omega)
    have e1 : (((qK M b z - 1).toNat : Nat) : Int) = qK M b z - 1 := by omega
    have e7 := h7 (qK M b z - 1).toNat (by omega)
    rw [e1] at e7 l4
    rw [← e7] at l4
    have x1 : pta M b (qK M b z) = men M b (M 200007 (qK M b z - 1)) := if_neg (by omega)
    have x2 : ptb M (qK M b z) = M 200007 (qK M b z - 1) := if_neg (by omega)
    rw [x1, x2]
    exact ⟨⟨rfl, rfl⟩, fun q d0 d1 => l4 (by omega) q d0 d1⟩
theorem ptq_7 {M : gC} {b : Nat} {kd : Int} (h : 0 ≤ M 500001 7 ∧ M 500001 7 ≤ 24) : ∀ i : Nat, 0 ≤ (ptq M b kd (i : Int)).2 500001 7 ∧ (ptq M b kd (i : Int)).2 500001 7 ≤ 24 := by
  intro i
  cases i with
  | zero => exact h
  | succ i =>
    rw [show ((i + 1 : Nat) : Int) = (i : Int) + 1 from rfl, ptq_s (by omega)]
    unfold pts
    dsimp only
    have h9 := (lrt_arr (M := (ptq M b kd (i : Int)).2) (b := b) (n := pta M b (i : Int)) (l := ptb M (i : Int)) (z := M 200007 (i : Int)) 24).1.2
    rw [show ((24 : Nat) : Int) = 24 from rfl] at h9
    exact h9
theorem tso_rg {c : gC} {z k : Int} {x : Int × Int} {i : Int} : x.1 ≤ (tso c z k i x).1 ∧ (tso c z k i x).1 ≤ x.1 + 24 := by
  unfold tso
  have := itI_inv3 (f := fun _ => tsf c k (paa c z i)) (x := x) (fun j (y : Int × Int) => x.1 ≤ y.1 ∧ y.1 ≤ x.1 + j) (N := 24) ⟨Int.le_refl _, by omega⟩ (fun j y j0 j1 hy => by
    unfold tsf ist
    split
    · omega
    · dsimp only
      split <;> omega) (k := 24) (by decide) (Int.le_refl _)
  exact this
theorem trn_rg {c : gC} {z k : Int} (h : 0 ≤ szo c z ∧ szo c z ≤ 12) : 0 ≤ trn c z k ∧ trn c z k ≤ 400 := by
  have h1 := itI_inv3 (f := tso c z k) (x := ((0, -1) : Int × Int)) (fun j (y : Int × Int) => 0 ≤ y.1 ∧ y.1 ≤ 24 * j) (N := szo c z) ⟨Int.le_refl _, Int.le_refl _⟩ (fun j y j0 j1 hy => by
    have := tso_rg (c := c) (z := z) (k := k) (x := y) (i := j)
    omega) (k := szo c z) h.1 (Int.le_refl _)
  unfold trn
  generalize itI (tso c z k) (0, -1) (szo c z) = x at *
  have h2 := itI_inv3 (f := fun _ => tsb c k) (x := x) (fun j (y : Int × Int) => x.1 ≤ y.1 ∧ y.1 ≤ x.1 + j) (N := 24) ⟨Int.le_refl _, by omega⟩ (fun j y j0 j1 hy => by
    unfold tsb ist
    split
    · omega
    · dsimp only
      split <;> omega) (k := 24) (by decide) (Int.le_refl _)
  try dsimp only at h1 h2
  omega
def PX5 (z K k : Int) : Nat → Prop := fun X => (X = 0 ∧ (0 ≤ k ∧ k < 4) ∧ (1 ≤ z ∧ z ≤ 3) ∧ ¬ K ≤ 12) ∨ (X = 1 ∧ ¬ ((0 ≤ k ∧ k < 4) ∧ (1 ≤ z ∧ z ≤ 3)))
theorem PX5_E {z K k : Int} (X : Nat) (h : PX5 z K k X) : X = 1 ∨ X = 0 := by
  unfold PX5 at h
  omega
theorem PX5_hm {z K k : Int} (X : Nat) (h : PX5 z K k X) : 1 ≤ (if X = 1 then (1 : Int) else 2) ∧ (if X = 1 then (1 : Int) else 2) ≤ 3 := by
  split <;> decide
/-- the turns are the same -/
theorem trn_m {c c2 M : gC} {z k : Int} (t : TT2 c c2 M 200000) (hb : M 200000 = c 200000) (hL : LR M) (hc : RG M) (hN : NN c 100014 c 200000) (hP : PP c 200000) (hz : 1 ≤ z ∧ z ≤ 3) (hK : qK M 200000 z ≤ 12) (hC : qC M 200000 z < 1000000000) (h7 : ∀ i : Nat, (i : Int) < qK M 200000 z → M 200007 (i : Int) = qO M 200000 z i) (hs : szo c2 z = qK M 200000 z) (hpa : ∀ j, 0 ≤ j → j < qK M 200000 z → paa c2 z j = M 200007 j) (h0 : 0 ≤ qK M 200000 z) : RQ M (ptq M 200000 k (qK M 200000 z)).2 ∧ (pta M 200000 (qK M 200000 z) = c 200000 2 → trn c2 z k = (ptq M 200000 k (qK M 200000 z)).1) ∧ (¬ pta M 200000 (qK M 200000 z) = c 200000 2 → (0 ≤ c 200000 2 ∧ c 200000 2 < 10) ∧ mcf M 200000 (pta M 200000 (qK M 200000 z)) (ptb M (qK M 200000 z)) (24 + c 200000 2) < 1000000000 ∧ trn c2 z k = (ptq M 200000 k (qK M 200000 z)).1 + (tir (lrt (ptq M 200000 k (qK M 200000 z)).2 200000 (pta M 200000 (qK M 200000 z)) (ptb M (qK M 200000 z)) (24 + c 200000 2) 24).2 200000 (ptb M (qK M 200000 z)) k ((lrt (ptq M 200000 k (qK M 200000 z)).2 200000 (pta M 200000 (qK M 200000 z)) (ptb M (qK M 200000 z)) (24 + c 200000 2) 24).2 500001 7)).1 ∧ RG (lrt (ptq M 200000 k (qK M 200000 z)).2 200000 (pta M 200000 (qK M 200000 z)) (ptb M (qK M 200000 z)) (24 + c 200000 2) 24).2 ∧ (∀ y : Nat, ¬ y = 200004 → ¬ y = 500001 → (lrt (ptq M 200000 k (qK M 200000 z)).2 200000 (pta M 200000 (qK M 200000 z)) (ptb M (qK M 200000 z)) (24 + c 200000 2) 24).2 y = M y) ∧ (∀ j, ¬ j = 7 → (lrt (ptq M 200000 k (qK M 200000 z)).2 200000 (pta M 200000 (qK M 200000 z)) (ptb M (qK M 200000 z)) (24 + c 200000 2) 24).2 500001 j = M 500001 j)) := by
  obtain ⟨f1, f2, f3⟩ := t.fM hb
  obtain ⟨la, lh⟩ := legs_M f2 f1 hL f3 hK hC h7
  by_cases k0 : qK M 200000 z = 0
  · rw [k0]
    refine ⟨⟨hc, fun _ _ _ => rfl, fun _ _ => rfl⟩, fun _ => ?_, fun q => absurd (show M 200000 2 = c 200000 2 by rw [hb]) q⟩
    have e1 : itI (fun _ => tsb c2 k) ((0, -1) : Int × Int) ((24 : Nat) : Int) = (0, -1) := itI_ic (N := 24) (fun j _ _ => by unfold tsb; exact if_pos (Or.inl rfl)) 24 (by decide)
    rw [show ((24 : Nat) : Int) = 24 from rfl] at e1
    unfold trn
    rw [hs, k0, show itI (tso c2 z k) ((0, -1) : Int × Int) 0 = (0, -1) from rfl, e1]
    rfl
  · have kp : 0 < qK M 200000 z := by omega
    have hV := t.nw
    have hD : 0 ≤ c 200000 2 ∧ c 200000 2 < 10 := by
      have a := (la 0 (by decide) kp).1
      rw [mhA_o hb] at a
      have := (NN_e hN hV a).1
      have := hV.1.1
      rcases hP.2 with w | w <;> omega
    have hDM : 0 ≤ M 200000 2 ∧ M 200000 2 < 10 := by rw [hb]; exact hD
    have T := tour_e (kd := k) t hb ⟨⟨by decide, by decide⟩, by decide⟩ hL hc hDM (N := qK M 200000 z) (z := z) ⟨h0, hK⟩ (fun j j0 j1 => by
      obtain ⟨a1, a2, a3⟩ := la j j0 j1
      exact ⟨by rw [← mhA_o hb]; exact a1, hpa j j0 j1, a2, a3⟩) (qK M 200000 z).toNat (by omega)
    rw [Int.toNat_of_nonneg h0] at T
    obtain ⟨T1, T2⟩ := T
    obtain ⟨⟨x1, x2⟩, x3⟩ := lh kp
    have aL := (la (qK M 200000 z - 1) (by omega) (by omega)).1
    have aLc : mhA c 200000 (M 200007 (qK M 200000 z - 1)) = true := by rw [← mhA_o hb]; exact aL
    have eD : c2 100014 3 = M 200000 2 := DP_e t hb
    have tr : trn c2 z k = (itI (fun _ => tsb c2 k) ((ptq M 200000 k (qK M 200000 z)).1, ptb M (qK M 200000 z)) 24).1 := by
      unfold trn
      rw [hs, T1]
    refine ⟨T2, fun q => ?_, fun q => ?_⟩
    · have e1 : itI (fun _ => tsb c2 k) ((ptq M 200000 k (qK M 200000 z)).1, ptb M (qK M 200000 z)) ((24 : Nat) : Int) = ((ptq M 200000 k (qK M 200000 z)).1, ptb M (qK M 200000 z)) := itI_ic (N := 24) (fun j _ _ => by
        unfold tsb
        refine if_pos (Or.inr ?_)
        dsimp only
        rw [x2, en_T t hb aLc, eD, ← x1, q, hb]) 24 (by decide)
      rw [show ((24 : Nat) : Int) = 24 from rfl] at e1
      rw [tr, e1]
    · have hm := x3 (by rw [hb]; exact q) hDM.1 hDM.2
      have hm2 : mcf M 200000 (pta M 200000 (qK M 200000 z)) (ptb M (qK M 200000 z)) (24 + c 200000 2) < 1000000000 := by rw [← hb]; exact hm
      generalize hX : (ptq M 200000 k (qK M 200000 z)) = X at *
      obtain ⟨r1, r2, r3⟩ := T2
      have e3 : X.2 200003 = M 200003 := r2 200003 (by decide) (by decide)
      have eb : X.2 200000 = M 200000 := r2 200000 (by decide) (by decide)
      have hXt := TT2_M t e3
      have hXb : X.2 200000 = c 200000 := eb.trans hb
      have hXL := LR_M hL e3
      obtain ⟨g1, g2, g3⟩ := hXt.fM hXb
      have hmX : mcf X.2 200000 (men X.2 200000 (M 200007 (qK M 200000 z - 1))) (M 200007 (qK M 200000 z - 1)) (24 + X.2 200000 2) < 1000000000 := by
        rw [mcf_o eb e3, men_o eb, eb, ← x1, ← x2]
        exact hm
      have ld := legD_e (kd := k) hXt hXb ⟨by decide, by decide⟩ hXL r1 aLc (by rw [eb]; exact hDM) (by rw [men_o eb, eb, ← x1, hb]; exact q) hmX X.1
      have hr := mhA_rg hV aLc
      have hme := men_rg hV hr
      have hO : LO X.2 200000 (24 + X.2 200000 2) := LO_node g2 g1 g3 (by rw [eb]; exact hDM.1)
      have hr2 : -2147483648 ≤ men X.2 200000 (M 200007 (qK M 200000 z - 1)) ∧ men X.2 200000 (M 200007 (qK M 200000 z - 1)) < 2147483648 := by rw [men_o hXb]; omega
      obtain ⟨y1, y2, y3, y4, y5⟩ := lrt_24 r1 g2 hXL (by rw [eb]; omega) hO hr2 (by omega) hmX
      have ea : men X.2 200000 (M 200007 (qK M 200000 z - 1)) = pta M 200000 (qK M 200000 z) := by rw [men_o eb, x1]
      have ed : X.2 200000 2 = c 200000 2 := by rw [hXb]
      rw [ea, ed, ← x2] at ld y1 y2 y3
      refine ⟨hD, hm2, ?_, y1, fun y ya yb => (y2 y ya yb).trans (r2 y ya yb), fun j hj => (y3 j hj).trans (r3 j hj)⟩
      rw [tr]
      exact ld
