/-! the same network: the same plans -/
section
variable {E E' : Int → Int} {L L' : Int → Int → Int} {H H' : Int → Int} {K : Int}
theorem RV_cg (hL : ∀ l x, 0 ≤ l → l < K → 0 ≤ x → x < K → L l x = L' l x) (hH : ∀ l, 0 ≤ l → l < K → H l = H' l) : ∀ (n : Nat) (s l : Int), 0 ≤ l → l < K → RV L H K n s l = RV L' H' K n s l := by
  intro n
  induction n with
  | zero => intro s l l0 l1; exact hH l l0 l1
  | succ n ih =>
    intro s l l0 l1
    show itI _ _ K = itI _ _ K
    refine itI_congr fun x x0 x1 => funext fun a => ?_
    show (if tb s x = true then min a (min 1000000000 (L l x + RV L H K n (clr s x) x)) else a) = _
    rw [hL l x l0 l1 x0 x1, ih (clr s x) x x0 x1]
theorem RW_cg (hL : ∀ l x, 0 ≤ l → l < K → 0 ≤ x → x < K → L l x = L' l x) (hH : ∀ l, 0 ≤ l → l < K → H l = H' l) {s l : Int} (l0 : 0 ≤ l) (l1 : l < K) : RW L H K s l = RW L' H' K s l := RV_cg hL hH _ s l l0 l1
theorem PCO_cg (hE : ∀ l, 0 ≤ l → l < K → E l = E' l) (hL : ∀ l x, 0 ≤ l → l < K → 0 ≤ x → x < K → L l x = L' l x) (hH : ∀ l, 0 ≤ l → l < K → H l = H' l) : PCO E L H K = PCO E' L' H' K := by
  unfold PCO
  split
  · rfl
  · refine itI_congr fun x x0 x1 => funext fun a => ?_
    rw [hE x x0 x1, RW_cg hL hH x0 x1]
theorem POR_cg (hE : ∀ l, 0 ≤ l → l < K → E l = E' l) (hL : ∀ l x, 0 ≤ l → l < K → 0 ≤ x → x < K → L l x = L' l x) (hH : ∀ l, 0 ≤ l → l < K → H l = H' l) (h : PHY E L H K) (hC : PCO E L H K < 1000000000) : ∀ i : Nat, (i : Int) < K → POR E L H K (PCO E L H K) i = POR E' L' H' K (PCO E L H K) i := by
  intro i
  induction i with
  | zero =>
    intro _
    have e : ff (PY0 E L H K (PCO E L H K)) K 0 = ff (PY0 E' L' H' K (PCO E L H K)) K 0 := ff_congr fun j j0 j1 => by
      unfold PY0
      rw [hE j j0 j1, RW_cg hL hH j0 j1]
    show (clr (zshl 1 K - 1) (ff (PY0 E L H K (PCO E L H K)) K 0), ff (PY0 E L H K (PCO E L H K)) K 0) = _
    rw [e]
    rfl
  | succ i ih =>
    intro hi
    have h1 := ih (by omega)
    have h2 := POR_I h hC i (by omega)
    have e : ff (PY L H K (POR E L H K (PCO E L H K) i).1 (POR E L H K (PCO E L H K) i).2) K 0 = ff (PY L' H' K (POR E' L' H' K (PCO E L H K) i).1 (POR E' L' H' K (PCO E L H K) i).2) K 0 := by
      rw [← h1]
      refine ff_congr fun j j0 j1 => ?_
      unfold PY
      rw [hL _ j h2.1.2.1 h2.1.2.2 j0 j1, RW_cg hL hH j0 j1, RW_cg hL hH h2.1.2.1 h2.1.2.2]
    show (clr (POR E L H K (PCO E L H K) i).1 (ff (PY L H K (POR E L H K (PCO E L H K) i).1 (POR E L H K (PCO E L H K) i).2) K 0), ff (PY L H K (POR E L H K (PCO E L H K) i).1 (POR E L H K (PCO E L H K) i).2) K 0) = _
    rw [e, h1]
    rfl
end
section
variable {M G : gC} {b b' : Nat}
theorem mrq_B (h : NB M b G b') (hV : NW M b) (z : Int) : mrq M b z = mrq G b' z := by
  unfold mrq
  refine mskI_congr fun a a0 a1 => ?_
  rw [mhA_B h hV, mcl_B h (show I24 a from ⟨a0, a1⟩)]
theorem q_B (h : NB M b G b') (hV : NW M b) (hV' : NW G b') (w : FWk M b 24 M) (w' : FWk G b' 24 G) (z : Int) : qK M b z = qK G b' z ∧ (∀ l, 0 ≤ l → l < qK M b z → qE M b z l = qE G b' z l) ∧ (∀ l x, 0 ≤ l → l < qK M b z → 0 ≤ x → x < qK M b z → qL M b z l x = qL G b' z l x) ∧ ∀ l, 0 ≤ l → l < qK M b z → qH M b z l = qH G b' z l := by
  have e := mrq_B h hV z
  have hA : ∀ j, 0 ≤ j → j < qK M b z → mhA M b (nb (mrq M b z) j) = true := fun j j0 j1 => by
    obtain ⟨a1, a2, -⟩ := nb_sp j0 j1
    exact (tb_req a1 a2).1
  have e2 : M b 2 = G b' 2 := h 2 (by omega)
  refine ⟨by unfold qK; rw [e], fun l l0 l1 => ?_, fun l x l0 l1 x0 x1 => ?_, fun l l0 l1 => ?_⟩
  · unfold qE
    rw [mcf_B h hV hV' w w' (hA l l0 l1), e, e2]
  · have := tE_B h hV hV' w w' (hA l l0 l1) (hA x x0 x1)
    unfold qL
    rw [← e]
    exact this
  · unfold qH
    rw [mtn_B h hV hV' w w' (hA l l0 l1), e, e2]
/-- the plan's cost, and its order where there is one -/
theorem qC_B (h : NB M b G b') (hV : NW M b) (hV' : NW G b') (w : FWk M b 24 M) (w' : FWk G b' 24 G) (hL : LR M) (h1 : L1 M b) {z : Int} (hK : qK M b z ≤ 12) : qC M b z = qC G b' z ∧ (qC M b z < 1000000000 → ∀ i : Nat, (i : Int) < qK M b z → qO M b z i = qO G b' z i) := by
  obtain ⟨k1, k2, k3, k4⟩ := q_B h hV hV' w w' z
  have e1 : qC M b z = qC G b' z := by
    unfold qC
    rw [← k1]
    exact PCO_cg k2 k3 k4
  refine ⟨e1, fun hC i hi => ?_⟩
  have hP := q_PHY hV w hL h1 hK
  have e3 := POR_cg k2 k3 k4 hP hC i hi
  unfold qO qP
  rw [← e1, ← k1, ← mrq_B h hV z]
  unfold qC at e3 ⊢
  rw [e3]
end
