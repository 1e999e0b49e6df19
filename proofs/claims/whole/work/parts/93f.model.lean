/-! the reference's plan is the pure one -/
theorem PCO_lpc {E : Int → Int} {L : Int → Int → Int} {H : Int → Int} {K : Int} (hK : 0 ≤ K ∧ K ≤ 12) (h0 : ¬ K = 0) : itI (fun f s => min s (E f + RW L H K (clr (zshl 1 K - 1) f) f)) 1000000000 K = PCO E L H K := by
  unfold PCO
  rw [if_neg h0]
  have := itI_ind (f := fun f s => min s (E f + RW L H K (clr (zshl 1 K - 1) f) f)) (x := 1000000000) (g := fun x a => if tb (zshl 1 K - 1) x = true then min a (min 1000000000 (E x + RW L H K (clr (zshl 1 K - 1) x) x)) else a) (y := 1000000000) (fun _ (s t : Int) => s = t ∧ s ≤ 1000000000) (N := K) ⟨rfl, by decide⟩ (fun j s t j0 j1 i => ?_) (k := K) hK.1 (Int.le_refl _)
  · exact this.1
  · obtain ⟨i1, i2⟩ := i
    rw [all_tb hK j0 (by omega), decide_eq_true j1, if_pos rfl]
    omega
section
variable {c : gC} {b : Nat} {z : Int}
theorem q_o {M G : gC} (eb : G b = M b) (e3 : G 200003 = M 200003) : qK G b z = qK M b z ∧ qE G b z = qE M b z ∧ qL G b z = qL M b z ∧ qH G b z = qH M b z := by
  have e := mrq_o eb z
  refine ⟨by unfold qK; rw [e], funext fun j => ?_, funext fun i => funext fun j => ?_, funext fun j => ?_⟩
  · unfold qE; rw [e, eb, mcf_o eb e3]
  · unfold qL; rw [e, mle_o e3]
  · unfold qH; rw [e, eb, mtn_o eb e3]
theorem qC_o {M G : gC} (eb : G b = M b) (e3 : G 200003 = M 200003) : qC G b z = qC M b z ∧ qP G b z = qP M b z ∧ qO G b z = qO M b z := by
  obtain ⟨q1, q2, q3, q4⟩ := q_o (z := z) eb e3
  have h1 : qC G b z = qC M b z := by unfold qC; rw [q1, q2, q3, q4]
  have h2 : qP G b z = qP M b z := by funext i; unfold qP; rw [q1, q2, q3, q4, h1]
  exact ⟨h1, h2, by funext i; unfold qO; rw [h2, mrq_o eb]⟩
theorem mod_plan (hc : RG c) (hV : NW c b) (hQ : LQ c) (hb : (¬ b = 200003 ∧ ¬ b = 200005 ∧ ¬ b = 500001) ∧ ¬ b = 200006 ∧ ¬ b = 200007) (h12 : mcb (mrq c b z) ≤ 12) (hL1 : L1 c b) : (0 < mcb (mrq c b z) → RO (lpt c b z) (mcb (mrq c b z))) ∧ (lpl c b z).1 = qC (mll c b) b z ∧ ((lpl c b z).1 < 1000000000 → ∀ i : Nat, (i : Int) < mcb (mrq c b z) → (lpl c b z).2 200007 (i : Int) = qO (mll c b) b z i) := by
  obtain ⟨w1, w2, w3⟩ := mll_FM hc hV hb.1.1
  have wl := (mll_ok (b := b) hc hV).2
  have wL1 := L1_o w3 hL1
  have hKm : mcb (mrq c b z) = qK (mll c b) b z := by unfold qK; rw [mcb_cnt, mrq_o w3]
  obtain ⟨p1, p2, p3, p4⟩ := lpm_ok (z := z) hc hV hQ hb.1 h12
  have hPH := q_PHY w2 w1 wl wL1 (z := z) (by rw [← hKm]; exact h12)
  have hK0 := hPH.1.1
  -- the items
  have hA0 : ∀ j, 0 ≤ j → j < qK (mll c b) b z → lpm c b z 200005 j = nb (mrq (mll c b) b z) j := fun j j0 j1 => by
    have := (lnf_v (c := mll c b) (q := mrq (mll c b) b z) (i := 24) (by decide) (by decide)).2 j j0 j1
    unfold lpm lnd
    exact this
  have e30 : lpm c b z 200003 = mll c b 200003 := by
    have := (lnd_i (c := mll c b) (q := mrq (mll c b) b z) (mll_ok (b := b) hc hV).1.1 (i := 24) (by decide) (by decide)).2.2.2.1 200003 (by decide) (by decide)
    exact this
  have eb0 : lpm c b z b = c b := p2 b hb.1.1 hb.1.2.1 hb.1.2.2
  obtain ⟨r1, r2⟩ := lq3_rec (m := lpm c b z) (b := b) (n := qK (mll c b) b z) hK0 hb.2.1
  have eG : lpt c b z = lq3 b (qK (mll c b) b z) (zshl 1 (qK (mll c b) b z) - 1) (zshl 1 (qK (mll c b) b z) - 1) (lpm c b z) := by unfold lpt; rw [hKm]
  rw [← eG] at r1 r2
  have eG3 : lpt c b z 200003 = mll c b 200003 := (r1 200003 (by decide)).trans e30
  have eGb : lpt c b z b = mll c b b := (r1 b hb.2.1).trans (eb0.trans w3.symm)
  have eGA : ∀ j, 0 ≤ j → j < qK (mll c b) b z → lpt c b z 200005 j = nb (mrq (mll c b) b z) j := fun j j0 j1 => by rw [r1 200005 (by decide)]; exact hA0 j j0 j1
  have hAA : ∀ j, 0 ≤ j → j < qK (mll c b) b z → mhA (mll c b) b (nb (mrq (mll c b) b z) j) = true := fun j j0 j1 => by
    obtain ⟨a1, a2, -⟩ := nb_sp j0 j1
    exact (tb_req a1 a2).1
  have tab := mod_tab hPH.1 (G := lpt c b z) (b := b) (fun l l0 l1 => ?_) (fun l x l0 l1 x0 x1 => ?_) r2
  rotate_left
  · rw [eGA l l0 l1, men_o eGb, mtn_o eGb eG3, eGb]
    unfold qH
    by_cases e : men (mll c b) b (nb (mrq (mll c b) b z) l) = (mll c b) b 2
    · rw [if_pos e]
      exact ((mtn_0 w2 w1 wl wL1 (hAA l l0 l1)).2 e).symm
    · rw [if_neg e]
  · rw [eGA l l0 l1, eGA x x0 x1, mle_o eG3]
    rfl
  have tab2 : ∀ s l, SK (qK (mll c b) b z) s → 0 ≤ l → l < qK (mll c b) b z → tb s l = false → mro2 (lpt c b z) (cmp (qK (mll c b) b z) s) l = RW (qL (mll c b) b z) (qH (mll c b) b z) (qK (mll c b) b z) s l := fun s l hs l0 l1 hl => tab (s.toNat + 1) s l hs (by unfold SK at hs; omega) l0 l1 hl
  have mrbE : ∀ s l y, SK (qK (mll c b) b z) s → 0 ≤ l → l < qK (mll c b) b z → 0 ≤ y → y < qK (mll c b) b z → mrb (lpt c b z) (cmp (qK (mll c b) b z) s) l y = min 1000000000 (qL (mll c b) b z l y + RW (qL (mll c b) b z) (qH (mll c b) b z) (qK (mll c b) b z) (clr s y) y) := fun s l y hs l0 l1 y0 y1 => by
    unfold mrb
    rw [eGA l l0 l1, eGA y y0 y1, mle_o eG3, cmp_clr hK0 ⟨y0, y1⟩, tab2 (clr s y) y (SK_clr hK0 hs ⟨y0, y1⟩) y0 y1 (by rw [tb_clr (by omega) (by omega), decide_eq_true rfl]; simp)]
    rfl
  have hRO : RO (lpt c b z) (qK (mll c b) b z) := fun s l hs hbits hl htl hex hlt => by
    have hS : SK (qK (mll c b) b z) s := SK_of hK0 (by omega) hbits
    have hcc := cmp_cmp hK0 hS
    have hcl : tb (cmp (qK (mll c b) b z) s) l = false := by rw [tb_cmp hK0 hl.1 (by omega), htl]; simp
    have t1 := tab2 _ l (SK_cmp (s := s) hK0) hl.1 hl.2 hcl
    rw [hcc] at t1
    obtain ⟨e, e1, e2⟩ := hex
    have hne : ¬ cmp (qK (mll c b) b z) s = 0 := fun q => by
      have h1 := tb_cmp (s := s) (e := e) hK0 e1.1 (by omega)
      have h2 := tb_0 (n := e.toNat) (by omega)
      rw [show (e.toNat : Int) = e by omega] at h2
      rw [q, h2, decide_eq_true e1.2, e2] at h1
      cases h1
    obtain ⟨y, y1, y2⟩ := PY_ex hPH.1 (SK_cmp (s := s) hK0) hne (by rw [← t1]; exact hlt)
    unfold PY at y2
    rw [Bool.and_eq_true] at y2
    have y3 := of_decide_eq_true y2.2
    have y4 := y2.1
    rw [tb_cmp hK0 y1.1 (by omega), Bool.and_eq_true] at y4
    have m1 := mrbE _ l y (SK_cmp (s := s) hK0) hl.1 hl.2 y1.1 y1.2
    rw [hcc] at m1
    refine ⟨y, y1, ?_, by rw [m1, y3, t1]⟩
    cases w : tb s y with
    | false => rfl
    | true => rw [w] at y4; exact absurd y4.2 (by decide)
  have fstE : ∀ f, 0 ≤ f → f < qK (mll c b) b z → mst (lpt c b z) b (lpt c b z 200005 f) + mro2 (lpt c b z) (zshl 1 f) f = qE (mll c b) b z f + RW (qL (mll c b) b z) (qH (mll c b) b z) (qK (mll c b) b z) (clr (zshl 1 (qK (mll c b) b z) - 1) f) f := fun f f0 f1 => by
    unfold mst
    rw [eGA f f0 f1, mcf_o eGb eG3, eGb, ← cmp_1 hK0 ⟨f0, f1⟩, tab2 _ f (SK_clr hK0 (SK_all hK0) ⟨f0, f1⟩) f0 f1 (by rw [tb_clr (by omega) (by omega), decide_eq_true rfl]; simp)]
    rfl
  have costE : ¬ qK (mll c b) b z = 0 → lpc (lpt c b z) b (qK (mll c b) b z) = qC (mll c b) b z := fun h0 => by
    have := PCO_lpc (E := qE (mll c b) b z) (L := qL (mll c b) b z) (H := qH (mll c b) b z) hK0 h0
    unfold qC
    rw [← this]
    unfold lpc
    refine itI_c2 fun f f0 f1 s => ?_
    rw [fstE f f0 f1]
  refine ⟨fun _ => by rw [hKm]; exact hRO, ?_, ?_⟩
  · by_cases e : mcb (mrq c b z) = 0
    · rw [lpl_0 e]
      unfold qC PCO
      rw [if_pos (by rw [← hKm]; exact e)]
    · have hcst := costE (by rw [← hKm]; exact e)
      rw [← hKm] at hcst
      by_cases e2 : lpc (lpt c b z) b (mcb (mrq c b z)) < 1000000000
      · rw [lpl_1 e e2]; exact hcst
      · rw [lpl_2 e e2]; exact hcst
  · intro hlt i hi
    have e : ¬ mcb (mrq c b z) = 0 := by omega
    have hcst := costE (by rw [← hKm]; exact e)
    have e2 : lpc (lpt c b z) b (mcb (mrq c b z)) < 1000000000 := by
      refine Classical.byContradiction fun q => ?_
      rw [lpl_2 e q] at hlt
      exact q hlt
    rw [lpl_1 e e2]
    show (lor (lpt c b z) b (mcb (mrq c b z)) (lpc (lpt c b z) b (mcb (mrq c b z))) (mcb (mrq c b z) - 1)).2 200007 (i : Int) = qO (mll c b) b z i
    rw [hKm] at e2 hi e ⊢
    rw [hcst] at e2 ⊢
    have key : ∀ k : Nat, (k : Int) < qK (mll c b) b z → (lor (lpt c b z) b (qK (mll c b) b z) (qC (mll c b) b z) (k : Int)).1 = (cmp (qK (mll c b) b z) (qP (mll c b) b z k).1, (qP (mll c b) b z k).2) ∧ ∀ j : Nat, j ≤ k → (lor (lpt c b z) b (qK (mll c b) b z) (qC (mll c b) b z) (k : Int)).2 200007 (j : Int) = qO (mll c b) b z j := by
      intro k
      induction k with
      | zero =>
        intro _
        obtain ⟨a1, -, -⟩ := ff_ex (PY0_ex hPH e e2)
        have hf : lof0 (lpt c b z) b (qK (mll c b) b z) (qC (mll c b) b z) = ff (PY0 (qE (mll c b) b z) (qL (mll c b) b z) (qH (mll c b) b z) (qK (mll c b) b z) (qC (mll c b) b z)) (qK (mll c b) b z) 0 := by
          unfold lof0
          refine ff_congr fun f f0 f1 => ?_
          unfold lof PY0
          rw [fstE f f0 f1]
        have hp2 : (qP (mll c b) b z 0).2 = ff (PY0 (qE (mll c b) b z) (qL (mll c b) b z) (qH (mll c b) b z) (qK (mll c b) b z) (qC (mll c b) b z)) (qK (mll c b) b z) 0 := rfl
        have hp1 : (qP (mll c b) b z 0).1 = clr (zshl 1 (qK (mll c b) b z) - 1) (qP (mll c b) b z 0).2 := rfl
        rw [← hp2] at hf
        change 0 ≤ (qP (mll c b) b z 0).2 ∧ (qP (mll c b) b z 0).2 < qK (mll c b) b z at a1
        refine ⟨?_, fun j hj => ?_⟩
        · show (zshl 1 (lof0 (lpt c b z) b (qK (mll c b) b z) (qC (mll c b) b z)), lof0 (lpt c b z) b (qK (mll c b) b z) (qC (mll c b) b z)) = _
          rw [hf, hp1, cmp_1 hK0 a1]
        · rw [show j = 0 by omega]
          show gu (lpt c b z) 200007 0 (lpt c b z 200005 (lof0 (lpt c b z) b (qK (mll c b) b z) (qC (mll c b) b z))) 200007 0 = _
          rw [gu_s, hf, eGA _ a1.1 a1.2]
          rfl
      | succ k ih =>
        intro hk
        obtain ⟨i1, i2⟩ := ih (by omega)
        have hI := POR_I hPH e2 k (by omega)
        change POI _ _ _ _ (qP (mll c b) b z k) at hI
        obtain ⟨⟨j1, j2⟩, j3, j4, j5⟩ := hI
        have hne : ¬ (qP (mll c b) b z k).1 = 0 := fun q => by
          have := (cnt_zero hK0 j1).2 q
          omega
        have hstep : lor (lpt c b z) b (qK (mll c b) b z) (qC (mll c b) b z) ((k : Int) + 1) = los (lpt c b z) (qK (mll c b) b z) (k : Int) (lor (lpt c b z) b (qK (mll c b) b z) (qC (mll c b) b z) (k : Int)) := itI_s _ _ (by omega)
        have hp2 : (qP (mll c b) b z (k + 1)).2 = ff (PY (qL (mll c b) b z) (qH (mll c b) b z) (qK (mll c b) b z) (qP (mll c b) b z k).1 (qP (mll c b) b z k).2) (qK (mll c b) b z) 0 := rfl
        have hp1 : (qP (mll c b) b z (k + 1)).1 = clr (qP (mll c b) b z k).1 (qP (mll c b) b z (k + 1)).2 := rfl
        obtain ⟨a1, -, -⟩ := ff_ex (PY_ex hPH.1 j1 hne j5)
        rw [← hp2] at a1
        have hy : loy0 (lpt c b z) (qK (mll c b) b z) (cmp (qK (mll c b) b z) (qP (mll c b) b z k).1) (qP (mll c b) b z k).2 = (qP (mll c b) b z (k + 1)).2 := by
          rw [hp2]
          unfold loy0
          refine ff_congr fun y y0 y1 => ?_
          unfold loy PY
          rw [mrbE _ _ y j1 j2.1 j2.2 y0 y1, tab2 _ _ j1 j2.1 j2.2 j3, tb_cmp hK0 y0 (by omega), decide_eq_true y1]
          simp
        rw [show ((k + 1 : Nat) : Int) = (k : Int) + 1 by omega, hstep]
        unfold los
        rw [i1]
        dsimp only
        rw [hy]
        refine ⟨?_, fun j hj => ?_⟩
        · rw [hp1, cmp_clr hK0 a1]
        · by_cases e5 : j = k + 1
          · rw [e5, show ((k + 1 : Nat) : Int) = (k : Int) + 1 by omega, gu_s, eGA _ a1.1 a1.2]
            rfl
          · rw [gu_j (by omega)]
            exact i2 j (by omega)
    have h9 := key (qK (mll c b) b z - 1).toNat (by omega)
    rw [show ((qK (mll c b) b z - 1).toNat : Int) = qK (mll c b) b z - 1 by omega] at h9
    exact h9.2 i (by omega)
end
