/-! the class's plan is the pure one -/
theorem nxt_ff {c : gC} {R : Nat} {l s : Int} (hK : 0 < c 100044 8) (h : ∃ e, (0 ≤ e ∧ e < c 100044 8) ∧ (tb s e && decide (ctr c R l e s = bst c R l s)) = true) : nxt c R l s = ff (fun x => tb s x && decide (ctr c R l x s = bst c R l s)) (c 100044 8) 0 := by
  obtain ⟨a1, a2, a3⟩ := ff_ex h
  generalize hF : ff (fun x => tb s x && decide (ctr c R l x s = bst c R l s)) (c 100044 8) 0 = F at *
  have key := itI_inv3 (f := nxf c R l s) (x := 0) (fun k (y : Int) => y = if F < k then F else k) (N := c 100044 8 - 1) (by show (0 : Int) = _; split <;> omega) (fun j y j0 j1 hy => ?_) (k := c 100044 8 - 1) (by omega) (Int.le_refl _)
  · unfold nxt
    rw [key]
    split <;> omega
  · unfold nxf
    by_cases e : F < j
    · rw [if_pos e] at hy
      rw [if_neg (by omega), if_pos (by omega)]
      exact hy
    · rw [if_neg e] at hy
      by_cases e2 : F = j
      · rw [e2] at a2
        rw [Bool.and_eq_true] at a2
        rw [if_neg (fun q => q.2 ⟨a2.1, of_decide_eq_true a2.2⟩), if_pos (by omega)]
        omega
      · have := a3 j j0 (by omega)
        rw [if_pos ⟨hy, fun q => by rw [q.1, decide_eq_true q.2] at this; cases this⟩, if_neg (by omega)]
section
variable {c m M : gC} {b : Nat} {z : Int}
theorem cls_plan (h : TT2 c m M b) (hb : M b = c b) (hL : LR M) (hK : qK M b z ≤ 12) (hD : 0 < qK M b z → 0 ≤ M b 2 ∧ M b 2 < 10) {S : gC} {R : Nat} (hR : R = 100051 ∨ 400000 ≤ R ∧ R < 500000) (s8 : S 100044 8 = qK M b z) (sA : ∀ j, 0 ≤ j → j < qK M b z → S 100049 j = nb (mrq M b z) j ∧ S 100050 j = cfr m (24 + M b 2) (nb (mrq M b z) j)) (s28 : ∀ j, S 100028 j = m 100028 j) (s3 : S 100014 3 = M b 2) : slk (fil S R) R = cv (qC M b z) ∧ (qC M b z < 1000000000 → ∀ (p : Int) (i : Nat), (i : Int) < qK M b z → cho (fil S R) R p 100048 (p + (i : Int)) = qO M b z i) ∧ ∀ p j, (j < p ∨ p + qK M b z ≤ j) → cho (fil S R) R p 100048 j = S 100048 j := by
  obtain ⟨f1, f2, f3⟩ := h.fM hb
  have hPH := q_PHY f2 f1 hL f3 hK
  have hK0 := hPH.1.1
  have hAA : ∀ j, 0 ≤ j → j < qK M b z → mhA c b (nb (mrq M b z) j) = true := fun j j0 j1 => by
    obtain ⟨a1, a2, -⟩ := nb_sp j0 j1
    rw [← mhA_o hb]
    exact (tb_req a1 a2).1
  obtain ⟨t1, t2⟩ := fil_rec (c := S) hR (by rw [s8]; exact hK0)
  rw [s8] at t2
  have F8 : fil S R 100044 8 = qK M b z := (t1 100044 (by omega) 8).trans s8
  have F3 : fil S R 100014 3 = M b 2 := (t1 100014 (by omega) 3).trans s3
  have FA : ∀ j, 0 ≤ j → j < qK M b z → fil S R 100049 j = nb (mrq M b z) j := fun j j0 j1 => (t1 100049 (by omega) j).trans (sA j j0 j1).1
  have FE : ∀ j, 0 ≤ j → j < qK M b z → fil S R 100050 j = cfr m (24 + M b 2) (nb (mrq M b z) j) := fun j j0 j1 => (t1 100050 (by omega) j).trans (sA j j0 j1).2
  have Fc : ∀ a p, cbh (fil S R) a p = cbh m a p := fun a p => cbh_cg (fun j => (t1 100028 (by omega) j).trans (s28 j)) a p
  have tab := cls_tab hPH.1 (F := fil S R) (R := R) (A := nb (mrq M b z)) (D := M b 2) F8 F3 FA (fun l l0 l1 => ?_) (fun l x l0 l1 x0 x1 hx => ?_) t2
  rotate_left
  · have hd := hD (by omega)
    rw [Fc, (cbh_e h hb (hAA l l0 l1) (g := 24 + M b 2) (Or.inr ⟨by omega, by omega⟩)).1, mlt_n (by omega), show 24 + M b 2 - 24 = M b 2 by omega]
    rfl
  · have hxr := mhA_rg h.nw (hAA x x0 x1)
    rw [Fc, (cbh_e h hb (hAA l l0 l1) (g := nb (mrq M b z) x) (Or.inl ⟨hxr.1, hxr.2, hAA x x0 x1⟩)).1, mlt_a hxr.2]
    rfl
  have tab2 : ∀ s l, SK (qK M b z) s → 0 ≤ l → l < qK M b z → tb s l = false → fil S R R (s * qK M b z + l) = cv (RW (qL M b z) (qH M b z) (qK M b z) s l) := fun s l hs l0 l1 hl => tab (s.toNat + 1) s l hs (by unfold SK at hs; omega) l0 l1 hl
  have small : ∀ s l, SK (qK M b z) s → 0 ≤ l → l < qK M b z → (0 ≤ RW (qL M b z) (qH M b z) (qK M b z) s l) ∧ (RW (qL M b z) (qH M b z) (qK M b z) s l < 1000000000 → RW (qL M b z) (qH M b z) (qK M b z) s l ≤ 27450 * 13) := fun s l hs l0 l1 => by
    have h3 := RW_r hPH.1 hs l0 l1
    have h4 := (cnt_rg (f := tb s) (n := qK M b z) hK0.1).2
    exact ⟨h3.1.1, fun q => by have := h3.2 q; omega⟩
  -- the way through a place
  have ctrE : ∀ l x s, -1 ≤ l → l < qK M b z → 0 ≤ x → x < qK M b z → SK (qK M b z) s → tb s x = true → ¬ l = x → ctr (fil S R) R l x s = cv (if l = -1 then qE M b z x else qL M b z l x) + cv (RW (qL M b z) (qH M b z) (qK M b z) (clr s x) x) := fun l x s l0 l1 x0 x1 hs hx hlx => by
    have hxr := mhA_rg h.nw (hAA x x0 x1)
    unfold ctr
    rw [F8, tab2 (clr s x) x (SK_clr hK0 hs ⟨x0, x1⟩) x0 x1 (by rw [tb_clr (by omega) (by omega), decide_eq_true rfl]; simp)]
    by_cases e : l = -1
    · have hd := hD (by omega)
      rw [if_pos e, if_pos e, FE x x0 x1, (cfr_e h hb (p := 24 + M b 2) (n := M b 2) (l := -1) (Or.inl ⟨rfl, rfl, hd⟩) (Or.inl ⟨hxr.1, hxr.2, hAA x x0 x1⟩)).1]
      rfl
    · rw [if_neg e, if_neg e, FA l (by omega) l1, FA x x0 x1, Fc, (cbh_e h hb (hAA l (by omega) l1) (g := nb (mrq M b z) x) (Or.inl ⟨hxr.1, hxr.2, hAA x x0 x1⟩)).1, mlt_a hxr.2]
      rfl
  have sumE : ∀ a r, FIN a → (0 ≤ r ∧ (r < 1000000000 → r ≤ 27450 * 13)) → 0 ≤ a + r ∧ (a + r < 1000000000 → cv a + cv r = a + r ∧ a + r ≤ 27450 * 14) ∧ (¬ a + r < 1000000000 → 100000000 ≤ cv a + cv r) := fun a r ha hr => by
    obtain ⟨⟨a1, a2⟩, a3⟩ := ha
    obtain ⟨r1, r2⟩ := hr
    unfold cv
    refine ⟨by omega, fun q => ?_, fun q => ?_⟩
    · have := a3 (by omega)
      have := r2 (by omega)
      rw [if_pos (by omega), if_pos (by omega)]
      exact ⟨rfl, by omega⟩
    · by_cases q1 : a < 1000000000
      · have := a3 q1
        rw [if_pos q1]
        by_cases q2 : r < 1000000000
        · have := r2 q2; omega
        · rw [if_neg q2]; omega
      · rw [if_neg q1]
        by_cases q2 : r < 1000000000
        · rw [if_pos q2]; omega
        · rw [if_neg q2]; omega
  have bst0 : ¬ qK M b z = 0 → bst (fil S R) R (-1) (zshl 1 (qK M b z) - 1) = cv (qC M b z) := fun h0 => by
    have hne : ¬ zshl 1 (qK M b z) - 1 = 0 := fun q => by
      have h1 := all_tb (e := 0) hK0 (by decide) (by decide)
      rw [q, decide_eq_true (by omega)] at h1
      have h2 := tb_0 (n := 0) (by decide)
      rw [show ((0 : Nat) : Int) = 0 from rfl, h1] at h2
      cases h2
    unfold bst qC PCO
    rw [if_neg hne, F8, if_neg h0]
    have := acc_e (s := zshl 1 (qK M b z) - 1) (B := 27450 * 14) (K := qK M b z) (fc := fun x => ctr (fil S R) R (-1) x (zshl 1 (qK M b z) - 1)) (fm := fun x => qE M b z x + RW (qL M b z) (qH M b z) (qK M b z) (clr (zshl 1 (qK M b z) - 1) x) x) (by decide) hK0.1 (fun x x0 x1 hx => ?_)
    · exact this.1
    · have e := ctrE (-1) x _ (by decide) (by omega) x0 x1 (SK_all hK0) hx (by omega)
      rw [if_pos rfl] at e
      try dsimp only
      rw [e]
      exact sumE _ _ (hPH.2 x x0 x1) (small _ _ (SK_clr hK0 (SK_all hK0) ⟨x0, x1⟩) x0 x1)
  have bstS : ∀ s l, SK (qK M b z) s → ¬ s = 0 → 0 ≤ l → l < qK M b z → tb s l = false → bst (fil S R) R l s = cv (RW (qL M b z) (qH M b z) (qK M b z) s l) := fun s l hs h0 l0 l1 hl => by
    rw [← tab2 s l hs l0 l1 hl]
    exact (t2 s l hs l0 l1 hl).symm
  refine ⟨?_, fun hC p => ?_, fun p j hj => ?_⟩
  · unfold slk
    rw [F8]
    by_cases e : qK M b z = 0
    · rw [if_pos e]
      unfold qC PCO
      rw [if_pos e]
      rfl
    · rw [if_neg e]
      exact bst0 e
  · have key : ∀ k : Nat, (k : Int) < qK M b z → ((chx (fil S R) R p ((k : Int) + 1)).1 = (qP M b z k).1 ∧ (chx (fil S R) R p ((k : Int) + 1)).2.1 = (qP M b z k).2) ∧ ∀ j : Nat, j ≤ k → (chx (fil S R) R p ((k : Int) + 1)).2.2 100048 (p + (j : Int)) = qO M b z j := by
      intro k
      induction k with
      | zero =>
        intro hk
        have h0 : ¬ qK M b z = 0 := by omega
        obtain ⟨y, y1, y2⟩ := PY0_ex hPH h0 hC
        have conv : ∀ x, 0 ≤ x → x < qK M b z → (tb (zshl 1 (qK M b z) - 1) x && decide (ctr (fil S R) R (-1) x (zshl 1 (qK M b z) - 1) = bst (fil S R) R (-1) (zshl 1 (qK M b z) - 1))) = PY0 (qE M b z) (qL M b z) (qH M b z) (qK M b z) (qC M b z) x := fun x x0 x1 => by
          have ha := all_tb hK0 x0 (show x < 32 by omega)
          rw [decide_eq_true x1] at ha
          have e := ctrE (-1) x _ (by decide) (by omega) x0 x1 (SK_all hK0) ha (by omega)
          rw [if_pos rfl] at e
          have hs := sumE _ _ (hPH.2 x x0 x1) (small _ _ (SK_clr hK0 (SK_all hK0) ⟨x0, x1⟩) x0 x1)
          have hcv : cv (qC M b z) = qC M b z := if_pos hC
          have hcs := (PCO_rg hPH).2 hC
          change qC M b z ≤ 384300 at hcs
          rw [ha, Bool.true_and, bst0 h0, hcv, e]
          unfold PY0
          by_cases q : qE M b z x + RW (qL M b z) (qH M b z) (qK M b z) (clr (zshl 1 (qK M b z) - 1) x) x < 1000000000
          · rw [(hs.2.1 q).1]
          · have := hs.2.2 q
            rw [decide_eq_false (by omega), decide_eq_false (by omega)]
        have hn : nxt (fil S R) R (-1) (zshl 1 (qK M b z) - 1) = (qP M b z 0).2 := by
          have := nxt_ff (c := fil S R) (R := R) (l := -1) (s := zshl 1 (qK M b z) - 1) (by rw [F8]; omega) ⟨y, by rw [F8]; exact y1, by rw [conv y y1.1 y1.2]; exact y2⟩
          rw [this, F8]
          exact ff_congr fun x x0 x1 => conv x x0 x1
        obtain ⟨a1, -, -⟩ := ff_ex (PY0_ex hPH h0 hC)
        change 0 ≤ (qP M b z 0).2 ∧ (qP M b z 0).2 < qK M b z at a1
        have hstep : chx (fil S R) R p (((0 : Nat) : Int) + 1) = chs (fil S R) R p 0 (zshl 1 (fil S R 100044 8) - 1, -1, fil S R) := itI_s _ _ (by decide)
        rw [hstep]
        unfold chs
        dsimp only
        rw [F8, hn]
        refine ⟨⟨rfl, rfl⟩, fun j hj => ?_⟩
        rw [show j = 0 by omega, show p + ((0 : Nat) : Int) = p + 0 by omega, gu_s, FA _ a1.1 a1.2]
        rfl
      | succ k ih =>
        intro hk
        obtain ⟨⟨i1, i2⟩, i3⟩ := ih (by omega)
        have hI := POR_I hPH hC k (by omega)
        change POI _ _ _ _ (qP M b z k) at hI
        obtain ⟨⟨j1, j2⟩, j3, j4, j5⟩ := hI
        have hne : ¬ (qP M b z k).1 = 0 := fun q => by
          have := (cnt_zero hK0 j1).2 q
          omega
        obtain ⟨y, y1, y2⟩ := PY_ex hPH.1 j1 hne j5
        have conv : ∀ x, 0 ≤ x → x < qK M b z → (tb (qP M b z k).1 x && decide (ctr (fil S R) R (qP M b z k).2 x (qP M b z k).1 = bst (fil S R) R (qP M b z k).2 (qP M b z k).1)) = PY (qL M b z) (qH M b z) (qK M b z) (qP M b z k).1 (qP M b z k).2 x := fun x x0 x1 => by
          unfold PY
          cases ha : tb (qP M b z k).1 x with
          | false => rfl
          | true =>
            have hlx : ¬ (qP M b z k).2 = x := fun q => by rw [← q, j3] at ha; cases ha
            have e := ctrE (qP M b z k).2 x _ (by omega) j2.2 x0 x1 j1 ha hlx
            rw [if_neg (by omega)] at e
            have hs := sumE _ _ (hPH.1.2.2 (qP M b z k).2 x j2.1 j2.2 x0 x1) (small _ _ (SK_clr hK0 j1 ⟨x0, x1⟩) x0 x1)
            have hcv : cv (RW (qL M b z) (qH M b z) (qK M b z) (qP M b z k).1 (qP M b z k).2) = RW (qL M b z) (qH M b z) (qK M b z) (qP M b z k).1 (qP M b z k).2 := if_pos j5
            have hcs := (small _ _ j1 j2.1 j2.2).2 j5
            rw [Bool.true_and, Bool.true_and, bstS _ _ j1 hne j2.1 j2.2 j3, hcv, e]
            by_cases q : qL M b z (qP M b z k).2 x + RW (qL M b z) (qH M b z) (qK M b z) (clr (qP M b z k).1 x) x < 1000000000
            · rw [(hs.2.1 q).1, show min 1000000000 (qL M b z (qP M b z k).2 x + RW (qL M b z) (qH M b z) (qK M b z) (clr (qP M b z k).1 x) x) = qL M b z (qP M b z k).2 x + RW (qL M b z) (qH M b z) (qK M b z) (clr (qP M b z k).1 x) x by omega]
            · have := hs.2.2 q
              rw [decide_eq_false (by omega), decide_eq_false (by omega)]
        have hn : nxt (fil S R) R (qP M b z k).2 (qP M b z k).1 = (qP M b z (k + 1)).2 := by
          have := nxt_ff (c := fil S R) (R := R) (l := (qP M b z k).2) (s := (qP M b z k).1) (by rw [F8]; omega) ⟨y, by rw [F8]; exact y1, by rw [conv y y1.1 y1.2]; exact y2⟩
          rw [this, F8]
          exact ff_congr fun x x0 x1 => conv x x0 x1
        obtain ⟨a1, -, -⟩ := ff_ex (PY_ex hPH.1 j1 hne j5)
        change 0 ≤ (qP M b z (k + 1)).2 ∧ (qP M b z (k + 1)).2 < qK M b z at a1
        have hstep : chx (fil S R) R p ((k : Int) + 1 + 1) = chs (fil S R) R p ((k : Int) + 1) (chx (fil S R) R p ((k : Int) + 1)) := itI_s _ _ (by omega)
        rw [show ((k + 1 : Nat) : Int) = (k : Int) + 1 by omega, hstep]
        unfold chs
        rw [i1, i2, hn]
        refine ⟨⟨rfl, rfl⟩, fun j hj => ?_⟩
        dsimp only
        by_cases e5 : j = k + 1
        · rw [e5, show p + ((k + 1 : Nat) : Int) = p + ((k : Int) + 1) by omega, gu_s, FA _ a1.1 a1.2]
          rfl
        · rw [gu_j (by omega)]
          exact i3 j (by omega)
    intro i hi
    have h9 := key (qK M b z - 1).toNat (by omega)
    rw [show ((qK M b z - 1).toNat : Int) + 1 = qK M b z by omega] at h9
    unfold cho
    rw [F8]
    exact h9.2 i (by omega)
  · unfold cho chx
    rw [F8]
    refine itI_inv2 (fun x : Int × Int × gC => x.2.2 100048 j = S 100048 j) (N := qK M b z) (t1 100048 (by omega) j) (fun k x k0 k1 hx => ?_) (Int.le_refl _)
    unfold chs
    dsimp only
    rw [gu_j (by omega)]
    exact hx
end
