/-! writing a network: the whole text, of both sides -/
section
variable {c m : gC}
theorem wse_l (hT : TX c) (hm : FRp 100030 c m) (N : Nat) (hN : c 100014 1 = (N : Int)) (hz : 0 < N → 0 ≤ c 100014 3 ∧ c 100014 3 < c 100014 1) : wse 100014 100030 m = pl 100030 ((tl 3 ++ wRow (c (100014 + 10)) 4) ++ (if 0 < N then tl 14 ++ LI (lg (c (100014 + 1) (c 100014 3))) 6 ++ tl 11 else []) ++ (tl 15 ++ LI (dg (c 100014 4)) 4 ++ tl 16) ++ wRow (c (100014 + 11)) 3) m := by
  have T : ∀ x : gC, FRp 100030 c x → TX x := fun x hx => TX_p (by decide) hT hx
  have g0 : wse0 100014 100030 m = pl 100030 (tl 3 ++ wRow (c (100014 + 10)) 4) m := by
    unfold wse0
    have f1 := FRp_pl (tl 3) m hm
    rw [txt_l (T _ hm) (by decide : 3 < 20)]
    have h1 := wrw_l (k := 100030) (q := 100014 + 10) (by decide) hT f1 (by decide) 4
    rw [pl_app]
    exact h1
  have F0 : FRp 100030 c (wse0 100014 100030 m) := by rw [g0]; exact FRp_pl _ _ hm
  have e0 : wse0 100014 100030 m 100014 1 = (N : Int) := by rw [F0 100014 (by decide) (by decide), hN]
  have g1 : wse1 100014 100030 m = pl 100030 ((tl 3 ++ wRow (c (100014 + 10)) 4) ++ (if 0 < N then tl 14 ++ LI (lg (c (100014 + 1) (c 100014 3))) 6 ++ tl 11 else [])) m := by
    by_cases q : 0 < N
    · rw [wse1_t (by rw [e0]; omega), if_pos q]
      have f1 := FRp_pl (tl 14) _ F0
      rw [txt_l (n := 14) (T _ F0) (by decide)]
      rw [W1_l (q := 100014) (by decide) f1 (hz q)]
      have f2 := FRp_pl (LI (lg (c (100014 + 1) (c 100014 3))) 6) _ f1
      rw [txt_l (n := 11) (T _ f2) (by decide), g0, ← pl_app, ← pl_app, ← pl_app]
      congr 1
      try simp
    · rw [wse1_f (by rw [e0]; omega), if_neg q, g0, List.append_nil]
  have F1 : FRp 100030 c (wse1 100014 100030 m) := by rw [g1]; exact FRp_pl _ _ hm
  have g2 : wse2 100014 100030 m = pl 100030 ((tl 3 ++ wRow (c (100014 + 10)) 4) ++ (if 0 < N then tl 14 ++ LI (lg (c (100014 + 1) (c 100014 3))) 6 ++ tl 11 else []) ++ (tl 15 ++ LI (dg (c 100014 4)) 4 ++ tl 16)) m := by
    unfold wse2
    have f1 := FRp_pl (tl 15) _ F1
    rw [txt_l (n := 15) (T _ F1) (by decide)]
    rw [P1_l (q := 100014) (by decide) f1]
    have f2 := FRp_pl (LI (dg (c 100014 4)) 4) _ f1
    rw [txt_l (n := 16) (T _ f2) (by decide), g1, ← pl_app, ← pl_app, ← pl_app]
    congr 1
    try simp
  have F2 : FRp 100030 c (wse2 100014 100030 m) := by rw [g2]; exact FRp_pl _ _ hm
  unfold wse
  have h1 := wrw_l (k := 100030) (q := 100014 + 11) (by decide) hT F2 (by decide) 3
  rw [g2, ← pl_app] at h1
  rw [g2]
  exact h1
/-- the class's text -/
def wCls (c : gC) (N R : Nat) : List Int := wAll N R (c (100014 + 1)) (c (100014 + 2)) (c (100014 + 3)) (c (100014 + 4)) (fun r => c (100014 + 1) (c (100014 + 5) r)) (fun r => c (100014 + 1) (c (100014 + 6) r)) (c (100014 + 7)) (c (100014 + 8)) (c (100014 + 9)) (c (100014 + 10)) (c (100014 + 11)) (fun r => tb (c 100014 6) r) (c 100014 3) (c 100014 4) (c 100034 7)
theorem wnt_l (hT : TX c) (N R : Nat) (hN : c 100014 1 = (N : Int)) (hR : c 100014 2 = (R : Int)) (hz : 0 < N → 0 ≤ c 100014 3 ∧ c 100014 3 < c 100014 1) (hft : ∀ r : Int, 0 ≤ r → r < (R : Int) → (0 ≤ c (100014 + 5) r ∧ c (100014 + 5) r < c 100014 1) ∧ 0 ≤ c (100014 + 6) r ∧ c (100014 + 6) r < c 100014 1) : wnt c = pl 100030 (wCls c N R) (gu c 100030 1 0) := by
  have T : ∀ x : gC, FRp 100030 c x → TX x := fun x hx => TX_p (by decide) hT hx
  have F0 : FRp 100030 c (gu c 100030 1 0) := fun x h1 h2 => by funext j; exact gu_k h1
  unfold wnt
  rw [wno_l hT F0 N hN]
  have F1 := FRp_pl (LI (wNode (c (100014 + 1)) (c (100014 + 2)) (c (100014 + 3))) N) _ F0
  rw [wro_l hT F1 R hR hft]
  have F2 := FRp_pl (LI (wRoad (c (100014 + 4)) (fun r => c (100014 + 1) (c (100014 + 5) r)) (fun r => c (100014 + 1) (c (100014 + 6) r)) (c (100014 + 7)) (c (100014 + 8)) (fun r => tb (c 100014 6) r)) R) _ F1
  rw [wse_l hT F2 N hN hz]
  have F3 := FRp_pl ((tl 3 ++ wRow (c (100014 + 10)) 4) ++ (if 0 < N then tl 14 ++ LI (lg (c (100014 + 1) (c 100014 3))) 6 ++ tl 11 else []) ++ (tl 15 ++ LI (dg (c 100014 4)) 4 ++ tl 16) ++ wRow (c (100014 + 11)) 3) _ F2
  rw [wsn_l hT F3 R hR]
  have F4 := FRp_pl (LI (wSnow (c (100014 + 4)) (c (100014 + 9))) R) _ F3
  rw [txt_l (n := 18) (T _ F4) (by decide)]
  have F5 := FRp_pl (tl 18) _ F4
  rw [P1_l (q := 100034) (by decide) F5]
  have F6 := FRp_pl (LI (dg (c 100034 7)) 4) _ F5
  rw [txt_l (n := 11) (T _ F6) (by decide), ← pl_app, ← pl_app, ← pl_app, ← pl_app, ← pl_app, ← pl_app]
  congr 1
  unfold wCls wAll
  rw [tl_14, tl_15, tl_16, tl_18, tl_11]
  by_cases q : 0 < N
  · rw [if_pos q, if_pos q]; unfold wRow; simp
  · rw [if_neg q, if_neg q]; unfold wRow; simp
/-- the reference's text -/
theorem mns_l (hT : TX c) (hm : FRq c m) {n : Nat} (hn : n < 20) {a : Int} (k : Nat) : mwns n (am_tlen.getD n 0 : Nat) a (k : Int) m = ql (tl n ++ wRow (fun i => c 200000 (a + i)) k) m := by
  unfold mwns
  rw [mwt_l (TX_q hT hm) hn]
  have F1 := FRq_ql (tl n) m hm
  have h1 := itI_ql (c := c) (f := mwnf m a) (l := fun i => 32 :: LI (dg (c 200000 (a + i))) 4) (N := (k : Int)) (fun i m' i0 i1 hm' => by
    unfold mwnf
    rw [mwn_l, hm.1 200000 (by decide) (by decide)]) F1 k (Int.le_refl _)
  rw [h1, ql_app]
  unfold wRow
  rw [ql_app]
  rfl
theorem mno_l (hT : TX c) (hm : FRq c m) (n : Int) : mwno n m = ql (wNode (fun n => c 200000 (22 + 3 * n)) (fun n => c 200000 (22 + 3 * n + 1)) (fun n => c 200000 (22 + 3 * n + 2)) n) m := by
  unfold mwno mwnn
  have e : mwt m 0 4 = ql (tl 0) m := mwt_l (TX_q hT hm) (by decide : 0 < 20)
  have F1 := FRq_ql (tl 0) m hm
  rw [e, mwm_l, mwn_l, mwn_l]
  unfold wNode
  rw [ql_app, ql_app, ql_app, ql_app]
  have e2 : ql (tl 0) m 200000 (22 + 3 * n) = c 200000 (22 + 3 * n) := by rw [F1.1 200000 (by decide) (by decide)]
  have e3 : mxo m 200000 n = c 200000 (22 + 3 * n + 1) := by show m 200000 _ = _; rw [hm.1 200000 (by decide) (by decide)]
  have e4 : myo m 200000 n = c 200000 (22 + 3 * n + 2) := by show m 200000 _ = _; rw [hm.1 200000 (by decide) (by decide)]
  rw [e2, e3, e4]
  rfl
theorem mso_l (hT : TX c) (hm : FRq c m) (r : Int) : mwso r m = ql (wSnow (fun r => c 200000 (52 + 7 * r)) (fun r => c 200000 (52 + 7 * r + 6)) r) m := by
  unfold mwso wSnow
  have e : mwt m 7 4 = ql (tl 7) m := mwt_l (TX_q hT hm) (by decide : 7 < 20)
  rw [e, mwm_l, mwn_l, hm.1 200000 (by decide) (by decide), Int.add_zero]
  by_cases q : c 200000 (52 + 7 * r + 6) = 0
  · rw [if_pos q, if_pos q]; rfl
  · rw [if_neg q, if_neg q, ql_app, ql_app, ql_app]; rfl
theorem mro_l (hT : TX c) (hm : FRq c m) (r : Int) : mwro r m = ql (wRoad (fun r => c 200000 (52 + 7 * r)) (fun r => c 200000 (22 + 3 * c 200000 (52 + 7 * r + 1))) (fun r => c 200000 (22 + 3 * c 200000 (52 + 7 * r + 2))) (fun r => c 200000 (52 + 7 * r + 3)) (fun r => c 200000 (52 + 7 * r + 4)) (fun r => decide (c 200000 (52 + 7 * r + 5) = 1)) r) m := by
  have e : mwt m 1 4 = ql (tl 1) m := mwt_l (TX_q hT hm) (by decide : 1 < 20)
  have key : mwr1 r m = ql (tl 1 ++ (32 :: LI (lg (c 200000 (52 + 7 * r))) 6) ++ (32 :: LI (lg (c 200000 (22 + 3 * c 200000 (52 + 7 * r + 1)))) 6) ++ (32 :: LI (lg (c 200000 (22 + 3 * c 200000 (52 + 7 * r + 2)))) 6) ++ (32 :: LI (dg (c 200000 (52 + 7 * r + 3))) 4) ++ (32 :: LI (dg (c 200000 (52 + 7 * r + 4))) 4)) m := by
    unfold mwr1 mwnn
    have F1 := FRq_ql (tl 1) m hm
    rw [e, hm.1 200000 (by decide) (by decide), Int.add_zero, mwm_l (m := ql (tl 1) m)]
    have F2 := FRq_ql (32 :: LI (lg (c 200000 (52 + 7 * r))) 6) _ F1
    rw [F2.1 200000 (by decide) (by decide), mwm_l (m := ql (32 :: LI (lg (c 200000 (52 + 7 * r))) 6) (ql (tl 1) m))]
    have F3 := FRq_ql (32 :: LI (lg (c 200000 (22 + 3 * c 200000 (52 + 7 * r + 1)))) 6) _ F2
    rw [F3.1 200000 (by decide) (by decide), mwm_l (m := ql (32 :: LI (lg (c 200000 (22 + 3 * c 200000 (52 + 7 * r + 1)))) 6) (ql (32 :: LI (lg (c 200000 (52 + 7 * r))) 6) (ql (tl 1) m)))]
    rw [mwn_l, mwn_l, ← ql_app, ← ql_app, ← ql_app, ← ql_app, ← ql_app]
    congr 1
    simp
  unfold mwro
  have F := FRq_ql (tl 1 ++ (32 :: LI (lg (c 200000 (52 + 7 * r))) 6) ++ (32 :: LI (lg (c 200000 (22 + 3 * c 200000 (52 + 7 * r + 1)))) 6) ++ (32 :: LI (lg (c 200000 (22 + 3 * c 200000 (52 + 7 * r + 2)))) 6) ++ (32 :: LI (dg (c 200000 (52 + 7 * r + 3))) 4) ++ (32 :: LI (dg (c 200000 (52 + 7 * r + 4))) 4)) m hm
  rw [key, hm.1 200000 (by decide) (by decide)]
  unfold mwr2 wRoad
  by_cases q : c 200000 (52 + 7 * r + 5) = 1
  · rw [if_pos (decide_eq_true q), if_pos (decide_eq_true q)]
    have e2 : mwt (ql (tl 1 ++ (32 :: LI (lg (c 200000 (52 + 7 * r))) 6) ++ (32 :: LI (lg (c 200000 (22 + 3 * c 200000 (52 + 7 * r + 1)))) 6) ++ (32 :: LI (lg (c 200000 (22 + 3 * c 200000 (52 + 7 * r + 2)))) 6) ++ (32 :: LI (dg (c 200000 (52 + 7 * r + 3))) 4) ++ (32 :: LI (dg (c 200000 (52 + 7 * r + 4))) 4)) m) 19 7 = ql (tl 19) _ := mwt_l (TX_q hT F) (by decide : 19 < 20)
    rw [e2, ← ql_app]
    show ql [59] _ = _
    rw [← ql_app]
  · rw [if_neg (by rw [decide_eq_false q]; decide), if_neg (show ¬ decide (c 200000 (52 + 7 * r + 5) = 1) = true by rw [decide_eq_false q]; decide), List.append_nil]
    show ql [59] _ = _
    rw [← ql_app]
def wMod (c : gC) (N R : Nat) : List Int := wAll N R (fun n => c 200000 (22 + 3 * n)) (fun n => c 200000 (22 + 3 * n + 1)) (fun n => c 200000 (22 + 3 * n + 2)) (fun r => c 200000 (52 + 7 * r)) (fun r => c 200000 (22 + 3 * c 200000 (52 + 7 * r + 1))) (fun r => c 200000 (22 + 3 * c 200000 (52 + 7 * r + 2))) (fun r => c 200000 (52 + 7 * r + 3)) (fun r => c 200000 (52 + 7 * r + 4)) (fun r => c 200000 (52 + 7 * r + 6)) (fun i => c 200000 (11 + i)) (fun i => c 200000 (15 + i)) (fun r => decide (c 200000 (52 + 7 * r + 5) = 1)) (c 200000 2) (c 200000 3) (c 200000 4)
theorem mwN_l (hT : TX c) (N R : Nat) (hN : c 200000 0 = (N : Int)) (hR : c 200000 1 = (R : Int)) : mwN c = ql (wMod c N R) (mwN0 c) := by
  have e0 : ∀ x : Nat, ¬ x = 500001 → mwN0 c x = c x := fun x hx => by
    funext j
    unfold mwN0
    rw [gu_k hx, tw_k hx]
  have hT0 : TX (mwN0 c) := TX_o hT fun k hk => e0 k (by omega)
  have F0 : FRq (mwN0 c) (mwN0 c) := FRq_rf
  have en : mwN0 c 200000 = c 200000 := e0 _ (by decide)
  unfold mwN
  have a1 : mwN1 (mwN0 c) = ql (LI (wNode (fun n => c 200000 (22 + 3 * n)) (fun n => c 200000 (22 + 3 * n + 1)) (fun n => c 200000 (22 + 3 * n + 2))) N) (mwN0 c) := by
    unfold mwN1
    rw [en, hN]
    refine itI_ql (c := mwN0 c) (N := (N : Int)) (fun i m' _ _ h => ?_) F0 N (Int.le_refl _)
    rw [mno_l hT0 h, en]
  rw [a1]
  have F1 := FRq_ql (LI (wNode (fun n => c 200000 (22 + 3 * n)) (fun n => c 200000 (22 + 3 * n + 1)) (fun n => c 200000 (22 + 3 * n + 2))) N) _ F0
  generalize e1 : LI (wNode (fun n => c 200000 (22 + 3 * n)) (fun n => c 200000 (22 + 3 * n + 1)) (fun n => c 200000 (22 + 3 * n + 2))) N = l1 at F1 ⊢
  have a2 : mwN2 (ql l1 (mwN0 c)) = ql (LI (wRoad (fun r => c 200000 (52 + 7 * r)) (fun r => c 200000 (22 + 3 * c 200000 (52 + 7 * r + 1))) (fun r => c 200000 (22 + 3 * c 200000 (52 + 7 * r + 2))) (fun r => c 200000 (52 + 7 * r + 3)) (fun r => c 200000 (52 + 7 * r + 4)) (fun r => decide (c 200000 (52 + 7 * r + 5) = 1))) R) (ql l1 (mwN0 c)) := by
    unfold mwN2
    rw [F1.1 200000 (by decide) (by decide), en, hR]
    refine itI_ql (c := mwN0 c) (N := (R : Int)) (fun i m' _ _ h => ?_) F1 R (Int.le_refl _)
    rw [mro_l hT0 h, en]
  rw [a2]
  have F2 := FRq_ql (LI (wRoad (fun r => c 200000 (52 + 7 * r)) (fun r => c 200000 (22 + 3 * c 200000 (52 + 7 * r + 1))) (fun r => c 200000 (22 + 3 * c 200000 (52 + 7 * r + 2))) (fun r => c 200000 (52 + 7 * r + 3)) (fun r => c 200000 (52 + 7 * r + 4)) (fun r => decide (c 200000 (52 + 7 * r + 5) = 1))) R) _ F1
  generalize e2 : LI (wRoad (fun r => c 200000 (52 + 7 * r)) (fun r => c 200000 (22 + 3 * c 200000 (52 + 7 * r + 1))) (fun r => c 200000 (22 + 3 * c 200000 (52 + 7 * r + 2))) (fun r => c 200000 (52 + 7 * r + 3)) (fun r => c 200000 (52 + 7 * r + 4)) (fun r => decide (c 200000 (52 + 7 * r + 5) = 1))) R = l2 at F2 ⊢
  have a3 : mwN3 (ql l2 (ql l1 (mwN0 c))) = ql (tl 3 ++ wRow (fun i => c 200000 (11 + i)) 4) (ql l2 (ql l1 (mwN0 c))) := by
    unfold mwN3
    have h := mns_l hT0 F2 (n := 3) (by decide) (a := 11) 4
    rw [en] at h
    exact h
  rw [a3]
  have F3 := FRq_ql (tl 3 ++ wRow (fun i => c 200000 (11 + i)) 4) _ F2
  generalize e3 : tl 3 ++ wRow (fun i => c 200000 (11 + i)) 4 = l3 at F3 ⊢
  have a4 : mwN4 (ql l3 (ql l2 (ql l1 (mwN0 c)))) = ql (if 0 < N then tl 4 ++ (32 :: LI (lg (c 200000 (22 + 3 * c 200000 2))) 6) ++ [59] else []) (ql l3 (ql l2 (ql l1 (mwN0 c)))) := by
    unfold mwN4 mwnn
    rw [F3.1 200000 (by decide) (by decide), en, hN]
    by_cases q : 0 < N
    · rw [if_pos (by omega), if_pos q, mwm_l]
      have e : mwt (ql l3 (ql l2 (ql l1 (mwN0 c)))) 4 5 = ql (tl 4) _ := mwt_l (TX_q hT0 F3) (by decide : 4 < 20)
      rw [e]
      have F := FRq_ql (tl 4) _ F3
      rw [F.1 200000 (by decide) (by decide), en, ql_app, ql_app]
      rfl
    · rw [if_neg (by omega), if_neg q]; rfl
  rw [a4]
  have F4 := FRq_ql (if 0 < N then tl 4 ++ (32 :: LI (lg (c 200000 (22 + 3 * c 200000 2))) 6) ++ [59] else []) _ F3
  generalize e4 : (if 0 < N then tl 4 ++ (32 :: LI (lg (c 200000 (22 + 3 * c 200000 2))) 6) ++ [59] else []) = l4 at F4 ⊢
  have a5 : mwN5 (ql l4 (ql l3 (ql l2 (ql l1 (mwN0 c))))) = ql (tl 5 ++ wRow (fun i => c 200000 (3 + i)) 1) (ql l4 (ql l3 (ql l2 (ql l1 (mwN0 c))))) := by
    unfold mwN5
    have h := mns_l hT0 F4 (n := 5) (by decide) (a := 3) 1
    rw [en] at h
    exact h
  rw [a5]
  have F5 := FRq_ql (tl 5 ++ wRow (fun i => c 200000 (3 + i)) 1) _ F4
  have e5 : tl 5 ++ wRow (fun i => c 200000 (3 + i)) 1 = tl 5 ++ (32 :: LI (dg (c 200000 3)) 4) ++ [59] := by
    unfold wRow
    rw [show LI (fun i => 32 :: LI (dg ((fun i => c 200000 (3 + i)) i)) 4) 1 = [] ++ (32 :: LI (dg (c 200000 (3 + ((0 : Nat) : Int)))) 4) from rfl, show 3 + ((0 : Nat) : Int) = 3 from rfl]
    simp
  rw [e5] at F5 ⊢
  generalize e5 : tl 5 ++ (32 :: LI (dg (c 200000 3)) 4) ++ [59] = l5 at F5 ⊢
  have a6 : mwN6 (ql l5 (ql l4 (ql l3 (ql l2 (ql l1 (mwN0 c)))))) = ql (tl 6 ++ wRow (fun i => c 200000 (15 + i)) 3) (ql l5 (ql l4 (ql l3 (ql l2 (ql l1 (mwN0 c)))))) := by
    unfold mwN6
    have h := mns_l hT0 F5 (n := 6) (by decide) (a := 15) 3
    rw [en] at h
    exact h
  rw [a6]
  have F6 := FRq_ql (tl 6 ++ wRow (fun i => c 200000 (15 + i)) 3) _ F5
  generalize e6 : tl 6 ++ wRow (fun i => c 200000 (15 + i)) 3 = l6 at F6 ⊢
  have a7 : mwN7 (ql l6 (ql l5 (ql l4 (ql l3 (ql l2 (ql l1 (mwN0 c))))))) = ql (LI (wSnow (fun r => c 200000 (52 + 7 * r)) (fun r => c 200000 (52 + 7 * r + 6))) R) (ql l6 (ql l5 (ql l4 (ql l3 (ql l2 (ql l1 (mwN0 c))))))) := by
    unfold mwN7
    rw [F6.1 200000 (by decide) (by decide), en, hR]
    refine itI_ql (c := mwN0 c) (N := (R : Int)) (fun i m' _ _ h => ?_) F6 R (Int.le_refl _)
    rw [mso_l hT0 h, en]
  rw [a7]
  have F7 := FRq_ql (LI (wSnow (fun r => c 200000 (52 + 7 * r)) (fun r => c 200000 (52 + 7 * r + 6))) R) _ F6
  generalize e7 : LI (wSnow (fun r => c 200000 (52 + 7 * r)) (fun r => c 200000 (52 + 7 * r + 6))) R = l7 at F7 ⊢
  have a8 : mwN8 (ql l7 (ql l6 (ql l5 (ql l4 (ql l3 (ql l2 (ql l1 (mwN0 c)))))))) = ql (tl 8 ++ (32 :: LI (dg (c 200000 4)) 4) ++ [59]) (ql l7 (ql l6 (ql l5 (ql l4 (ql l3 (ql l2 (ql l1 (mwN0 c)))))))) := by
    unfold mwN8
    have h := mns_l hT0 F7 (n := 8) (by decide) (a := 4) 1
    rw [en] at h
    have e8 : tl 8 ++ wRow (fun i => c 200000 (4 + i)) 1 = tl 8 ++ (32 :: LI (dg (c 200000 4)) 4) ++ [59] := by
      unfold wRow
      rw [show LI (fun i => 32 :: LI (dg ((fun i => c 200000 (4 + i)) i)) 4) 1 = [] ++ (32 :: LI (dg (c 200000 (4 + ((0 : Nat) : Int)))) 4) from rfl, show 4 + ((0 : Nat) : Int) = 4 from rfl]
      simp
    rw [e8] at h
    exact h
  rw [a8, ← ql_app, ← ql_app, ← ql_app, ← ql_app, ← ql_app, ← ql_app, ← ql_app]
  congr 1
  unfold wMod wAll
  rw [e1, e2, e3, e4, e5, e6, e7]
  simp
end
