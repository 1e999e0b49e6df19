/-! the class: along a path -/
theorem fpx_arc {c : gC} {f t i : Int} (h0 : 0 ≤ i) (hi : i ≤ 24) : ((fpx c f t i).2.2 100026 5 ≤ i) ∧ ∀ j : Int, 0 ≤ j → j < (fpx c f t i).2.2 100026 5 → 0 ≤ (fpx c f t i).2.2 100029 j ∧ (fpx c f t i).2.2 100029 j < 24 := by
  have key := itI_inv3 (f := fps c t) (x := (f, 24 + f, gu c 100026 5 0)) (fun k (x : Int × Int × gC) => x.2.2 100026 5 ≤ k ∧ (∀ j : Int, 0 ≤ j → j < x.2.2 100026 5 → 0 ≤ x.2.2 100029 j ∧ x.2.2 100029 j < 24) ∧ (x.2.2 100026 5 < k → x.1 = t ∨ (fst1 c x.2.1 (24 + t)).1 = -1)) (N := i) ⟨?_, fun j a b => ?_, fun a => ?_⟩ (fun k x h0 h1 h => ?_) h0 (Int.le_refl _)
  · exact ⟨key.1, key.2.1⟩
  · dsimp only; rw [gu_s]; omega
  · dsimp only at b; rw [gu_s] at b; omega
  · dsimp only at a; rw [gu_s] at a; omega
  · try dsimp only at h ⊢
    have hr := fst1_rg c x.2.1 (24 + t)
    by_cases e1 : x.1 = t
    · rw [fps_t e1]
      exact ⟨by omega, h.2.1, fun _ => Or.inl e1⟩
    · by_cases e2 : (fst1 c x.2.1 (24 + t)).1 = -1
      · rw [fps_e e1 e2]
        exact ⟨by omega, h.2.1, fun _ => Or.inr e2⟩
      · rw [fps_n e1 e2]
        have hk : x.2.2 100026 5 = k := by
          by_cases e3 : x.2.2 100026 5 < k
          · rcases h.2.2 e3 with e | e
            · exact absurd e e1
            · exact absurd e e2
          · omega
        dsimp only
        rw [gu_s]
        refine ⟨by omega, fun j a b => ?_, fun e => by omega⟩
        rw [gu_k (by decide)]
        by_cases e4 : j = k
        · subst e4
          rw [gu_s]; omega
        · rw [gu_j e4]
          exact h.2.1 j a (by omega)
/-- the prediction's drive to a node: whether it can be reached, and what it leaves -/
def pdt (c : gC) (z : Int) (s : Bool) : Bool × gC := if (fpx c (c 100039 2) z 24).1 = z then (true, (drl (fpx c (c 100039 2) z 24).2.2 100014 100039 100029 s ((fpx c (c 100039 2) z 24).2.2 100026 5)).2) else (false, (fpx c (c 100039 2) z 24).2.2)
theorem pdt_t {c : gC} {z : Int} {s : Bool} (h : (fpx c (c 100039 2) z 24).1 = z) : pdt c z s = (true, (drl (fpx c (c 100039 2) z 24).2.2 100014 100039 100029 s ((fpx c (c 100039 2) z 24).2.2 100026 5)).2) := if_pos h
theorem pdt_f {c : gC} {z : Int} {s : Bool} (h : ¬ (fpx c (c 100039 2) z 24).1 = z) : pdt c z s = (false, (fpx c (c 100039 2) z 24).2.2) := if_neg h
theorem NF_of {c m : gC} (h : RF c m) : NF c m 100014 := fun i a b j => h i (by omega) (by omega) j
theorem pdt_ok {c : gC} {z : Int} {s : Bool} {B : Int} (hc : RG c) (hN : NR c 100014) (hR : WR c 100039 B) (hB : B ≤ 1200000000) : RG (pdt c z s).2 ∧ WR (pdt c z s).2 100039 (B + 600000) ∧ ∀ k : Nat, ¬ k = 100029 → ¬ k = 100026 → (k < 100039 ∨ 100044 ≤ k) → ∀ j, (pdt c z s).2 k j = c k j := by
  have hw := hR.2.2.1
  have hb := hR.1
  obtain ⟨g1, g2, g3, g4⟩ := fpx_ok (c := c) hN hc (f := c 100039 2) (t := z) (i := 24) (by omega) (by omega)
  have g5 := fpx_arc (c := c) (f := c 100039 2) (t := z) (i := 24) (by omega) (by omega)
  have g6 := fpx_len (c := c) (f := c 100039 2) (t := z) (i := 24) (by omega)
  have g7 : WR (fpx c (c 100039 2) z 24).2.2 100039 B := WR_arg hR fun k a b j => g2 k (by omega) (by omega) j
  by_cases e : (fpx c (c 100039 2) z 24).1 = z
  · rw [pdt_t e]
    obtain ⟨d1, d2, d3, -, -⟩ := drl_ok (s := s) (q := 100029) g1 (NF_NR (NF_of g2) hN) g7 (by omega) (by omega) _ g6.1 (by omega) g5.2
    exact ⟨d1, WR_mono d2 (by omega) (by omega), fun k a b e j => by rw [d3 k e]; exact g2 k a b j⟩
  · rw [pdt_f e]
    exact ⟨g1, WR_mono g7 (by omega) (by omega), fun k a b _ j => g2 k a b j⟩
set_option maxHeartbeats 1000000 in
theorem c_predict {g : Nat} {T : gT} {c J : gC} (hX : XT T) (hRT : RT T) (hT : NT T 100014) (hc : RG c) (hS : SR c) (hN : NR c 100014) (hW9 : WT T 100039) (hwp : (T.1 100039).2.2 0 = 100014 + 1) {B : Int} (hR : WR c 100039 B) (hB : B ≤ 1200000000) {z : Int} (hz : -1000 ≤ z ∧ z < 1000) {s : Bool} : gE g 174 5 [.ref 500000, gi z, gi (bi s)] (gm T c J) (fun o M1 => o = .inl (some (gi (bi (pdt c z s).1))) ∧ M1 = gm T (pdt c z s).2 J) := by
  have hw := hR.2.2.1
  have hb1 := hR.1
  obtain ⟨g1, g2, g3, g4⟩ := fpx_ok (c := c) hN hc (f := c 100039 2) (t := z) (i := 24) (by omega) (by omega)
  have g5 := fpx_arc (c := c) (f := c 100039 2) (t := z) (i := 24) (by omega) (by omega)
  have g6 := fpx_len (c := c) (f := c 100039 2) (t := z) (i := 24) (by omega)
  have g7 : WR (fpx c (c 100039 2) z 24).2.2 100039 B := WR_arg hR fun k a b j => g2 k (by omega) (by omega) j
  refine gE_mk am_r174 rfl (Or.inr ⟨_, rfl, (by first | exact XT_0 hX | exact XT_r4 hX | exact XT_r5 hX | exact XT_r6 hX | exact XT_r7 hX | exact WT_0 hW9 | exact RT_0 hRT | exact RT_r4 hRT | exact RT_t4 hRT | exact RT_l4 hRT)⟩) (fun d hd => ?_)
  show gw d g 174 0 [.ref 500000, gi z, gi (bi s)] [] _ _
  refine gw_al0 at174_0 (gw_gr at174_1 (by first | exact XT_0 hX | exact XT_r4 hX | exact XT_r5 hX | exact XT_r6 hX | exact XT_r7 hX | exact WT_0 hW9 | exact RT_0 hRT | exact RT_r4 hRT | exact RT_t4 hRT | exact RT_l4 hRT) (by first | exact XT_0 hX | exact XT_r4 hX | exact XT_r5 hX | exact XT_r6 hX | exact XT_r7 hX | exact WT_0 hW9 | exact RT_0 hRT | exact RT_r4 hRT | exact RT_t4 hRT | exact RT_l4 hRT) (gw_al0 at174_4 (gw_gr at174_5 (by first | exact XT_0 hX | exact XT_r4 hX | exact XT_r5 hX | exact XT_r6 hX | exact XT_r7 hX | exact WT_0 hW9 | exact RT_0 hRT | exact RT_r4 hRT | exact RT_t4 hRT | exact RT_l4 hRT) (by first | exact XT_0 hX | exact XT_r4 hX | exact XT_r5 hX | exact XT_r6 hX | exact XT_r7 hX | exact WT_0 hW9 | exact RT_0 hRT | exact RT_r4 hRT | exact RT_t4 hRT | exact RT_l4 hRT) (gw_gf (j := 2) at174_8 (by first | exact XT_0 hX | exact XT_r4 hX | exact XT_r5 hX | exact XT_r6 hX | exact XT_r7 hX | exact WT_0 hW9 | exact RT_0 hRT | exact RT_r4 hRT | exact RT_t4 hRT | exact RT_l4 hRT) rfl (gw_il1 at174_11 ?_)))))
  refine gw_call3 at174_12 (c_findPath hRT hc hS hT hN (by omega) (by omega)) (by omega) (Nat.le_of_ble_eq_true rfl) (fun o M1 q12 => ?_)
  obtain ⟨rfl, rfl⟩ := q12
  show gw _ _ _ _ _ (gi _ :: []) _ _
  refine gw_bne at174_15 (fun q15 => ?_) (fun q15 => ?_)
  · refine gw_al0 at174_20 (gw_gr at174_21 (by first | exact XT_0 hX | exact XT_r4 hX | exact XT_r5 hX | exact XT_r6 hX | exact XT_r7 hX | exact WT_0 hW9 | exact RT_0 hRT | exact RT_r4 hRT | exact RT_t4 hRT | exact RT_l4 hRT) (by first | exact XT_0 hX | exact XT_r4 hX | exact XT_r5 hX | exact XT_r6 hX | exact XT_r7 hX | exact WT_0 hW9 | exact RT_0 hRT | exact RT_r4 hRT | exact RT_t4 hRT | exact RT_l4 hRT) (gw_al0 at174_24 (gw_gr at174_25 (by first | exact XT_0 hX | exact XT_r4 hX | exact XT_r5 hX | exact XT_r6 hX | exact XT_r7 hX | exact WT_0 hW9 | exact RT_0 hRT | exact RT_r4 hRT | exact RT_t4 hRT | exact RT_l4 hRT) (by first | exact XT_0 hX | exact XT_r4 hX | exact XT_r5 hX | exact XT_r6 hX | exact XT_r7 hX | exact WT_0 hW9 | exact RT_0 hRT | exact RT_r4 hRT | exact RT_t4 hRT | exact RT_l4 hRT) (gw_gr at174_28 (by first | exact XT_0 hX | exact XT_r4 hX | exact XT_r5 hX | exact XT_r6 hX | exact XT_r7 hX | exact WT_0 hW9 | exact RT_0 hRT | exact RT_r4 hRT | exact RT_t4 hRT | exact RT_l4 hRT) (by first | exact XT_0 hX | exact XT_r4 hX | exact XT_r5 hX | exact XT_r6 hX | exact XT_r7 hX | exact WT_0 hW9 | exact RT_0 hRT | exact RT_r4 hRT | exact RT_t4 hRT | exact RT_l4 hRT) (gw_al0 at174_31 (gw_gr at174_32 (by first | exact XT_0 hX | exact XT_r4 hX | exact XT_r5 hX | exact XT_r6 hX | exact XT_r7 hX | exact WT_0 hW9 | exact RT_0 hRT | exact RT_r4 hRT | exact RT_t4 hRT | exact RT_l4 hRT) (by first | exact XT_0 hX | exact XT_r4 hX | exact XT_r5 hX | exact XT_r6 hX | exact XT_r7 hX | exact WT_0 hW9 | exact RT_0 hRT | exact RT_r4 hRT | exact RT_t4 hRT | exact RT_l4 hRT) (gw_gf (j := 5) at174_35 (by first | exact XT_0 hX | exact XT_r4 hX | exact XT_r5 hX | exact XT_r6 hX | exact XT_r7 hX | exact WT_0 hW9 | exact RT_0 hRT | exact RT_r4 hRT | exact RT_t4 hRT | exact RT_l4 hRT) rfl (gw_il2 at174_38 ?_))))))))
    refine gw_call4 at174_39 (c_driveAlong hT (NF_NR (NF_of g2) hN) hW9 hwp g1 g7 (by omega) (RT_t4 hRT) (RT_l4 hRT) (by omega) (by omega) (by omega) g5.2) (by omega) (Nat.le_of_ble_eq_true rfl) (fun o M1 q39 => ?_)
    obtain ⟨rfl, rfl⟩ := q39
    show gw _ _ _ _ _ (gi _ :: []) _ _
    refine gw_popi at174_42 (gw_const at174_43 (gw_r1 at174_44 am_r174.2.1 ?_))
    rw [pdt_t (of_decide_eq_true q15)]
    exact ⟨rfl, rfl⟩
  · refine gw_const at174_18 (gw_r0 at174_19 am_r174.2.1 ?_)
    rw [pdt_f (of_decide_eq_false q15)]
    exact ⟨rfl, rfl⟩
