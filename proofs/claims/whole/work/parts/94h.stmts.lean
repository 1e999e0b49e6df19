/-! the parsers: settings, statements, whole texts -/
section
variable {c m : gC}
theorem kw_a (h : PZ c m) {i : Nat} (hi : i < 9) : mtx m i (am_tlen.getD i 0) = decide (c 100032 9 = (i : Int)) := by
  have t := h.1.1.1
  by_cases e : c 100032 5 = 1
  · exact kw_e h e hi
  · have e9 : c 100032 9 = -1 := by
      rcases t.2.2 with ⟨q, -⟩ | ⟨-, q, -⟩ | ⟨-, q, -⟩ | ⟨-, q⟩
      · exact absurd q e
      all_goals exact q
    rw [e9, decide_eq_false (by omega)]
    unfold mtx
    rw [← t.1.1, decide_eq_false e]
    simp
theorem kw_rg (h : PZ c m) : c 100032 9 = -1 ∨ ∃ i : Nat, i < 9 ∧ c 100032 9 = (i : Int) := by
  rcases h.1.1.1.2.2 with ⟨-, -, -, q, -⟩ | ⟨-, q, -⟩ | ⟨-, q, -⟩ | ⟨-, q⟩
  · rcases (kwd_sp h.1.2.1 (v := c 100032 8)).2 with e | ⟨i, i1, i2, -⟩
    · exact Or.inl (q.trans e)
    · exact Or.inr ⟨i, i1, q.trans i2⟩
  all_goals exact Or.inl q
theorem TK_10 (h : TK c m) {s s' : Int} : TK (gu c 100032 10 s) (gu m 500001 23 s') := by
  have e1 : ∀ a b, wmv (gu c 100032 10 s) a b = wmv c a b := fun a b => by
    unfold wmv
    have : gu c 100032 10 s 100001 = c 100001 := funext fun j => gu_k (by decide)
    rw [this]
  have e2 : ∀ v, kwd (gu c 100032 10 s) v = kwd c v := fun v => by
    unfold kwd
    have : gu c 100032 10 s 100033 = c 100033 := funext fun j => gu_k (by decide)
    rw [this]
  have f : ∀ j, ¬ j = 10 → gu c 100032 10 s 100032 j = c 100032 j := fun j q => gu_j q
  have g : ∀ j, ¬ j = 23 → gu m 500001 23 s' 500001 j = m 500001 j := fun j q => gu_j q
  have k0 : gu c 100032 10 s 100000 = c 100000 := funext fun j => gu_k (by decide)
  have k1 : gu c 100032 10 s 100001 = c 100001 := funext fun j => gu_k (by decide)
  unfold TK
  rw [e1, e2, f 5 (by decide), f 6 (by decide), f 7 (by decide), f 8 (by decide), f 9 (by decide), g 19 (by decide), g 18 (by decide), g 17 (by decide), g 20 (by decide), k0, k1]
  exact h
/-- a setting is said once -/
theorem once_e (h : PZ c m) {z k : Int} (hz : (z = 3 ∧ k = 0) ∨ (z = 4 ∧ k = 1) ∨ (z = 5 ∧ k = 2) ∨ (z = 6 ∧ k = 3) ∨ (z = 8 ∧ k = 4)) : (tb (c 100032 10) z = true ∧ BAD (fai c 3) (mnc2 k m)) ∨ (tb (c 100032 10) z = false ∧ PZ (adv (gu c 100032 10 (zor (c 100032 10) (zshl 1 z)))) (mnc2 k m)) := by
  have hs : tb (m 500001 23) k = tb (c 100032 10) z := by
    obtain ⟨⟨s1, s2⟩, ⟨s3, s4⟩, s5⟩ := h.2.2.1
    rcases hz with ⟨q, q'⟩ | ⟨q, q'⟩ | ⟨q, q'⟩ | ⟨q, q'⟩ | ⟨q, q'⟩ <;> rw [q, q']
    · exact s1.symm
    · exact s2.symm
    · exact s3.symm
    · exact s4.symm
    · exact s5.symm
  unfold mnc2 mnc3
  rw [hs]
  cases e : tb (c 100032 10) z with
  | true =>
    rw [if_pos rfl]
    exact Or.inl ⟨rfl, BAD_k (fai_e h (z := 3) (by decide)) (KB_tr KB_23 KB_mon)⟩
  | false =>
    rw [if_neg (by decide)]
    refine Or.inr ⟨rfl, ?_⟩
    obtain ⟨⟨⟨t1, t2⟩, t3, t4⟩, t5, t6, ⟨⟨e1, e2⟩, e3, e4⟩, t7, t8⟩ := h
    have hm : MS 200001 m (gu m 500001 23 (zor (m 500001 23) (zshl 1 k))) := MS_p (by decide) (MS_rf t8) (by decide) (zrg _)
    have hcp : ∀ k' : Nat, ¬ k' = 100032 → gu c 100032 10 (zor (c 100032 10) (zshl 1 z)) k' = c k' := fun k' hk => funext fun j => gu_k hk
    have hmp : ∀ k' : Nat, ¬ k' = 500001 → gu m 500001 23 (zor (m 500001 23) (zshl 1 k)) k' = m k' := fun k' hk => funext fun j => gu_k hk
    have hZ : PZ (gu c 100032 10 (zor (c 100032 10) (zshl 1 z))) (gu m 500001 23 (zor (m 500001 23) (zshl 1 k))) := by
      refine ⟨⟨⟨TK_10 t1, INP_o t2 (hcp _ (by decide)) (hcp _ (by decide)) (gu_j (by decide)) (hmp _ (by decide))⟩, fun i hi => by rw [hcp _ (by decide)]; exact t3 i hi, TX_o t4 fun k' hk => hmp k' (by omega)⟩, ?_, ?_, ⟨⟨?_, ?_⟩, ?_, ?_⟩, PN_p t7 (by decide) (zrg _), hm.1⟩
      · obtain ⟨⟨d1, d0⟩, d2, d3, d4, d5, d6⟩ := t5
        refine ⟨⟨NN_o d1 t8.2 (fun i i0 i1 j => by rw [hcp i (by omega)]) (hmp _ (by decide)), ?_⟩, ?_, ?_, ?_, ?_, ?_⟩
        · rw [hcp _ (by decide), hmp _ (by decide)]; exact d0
        · rw [hmp _ (by decide), hcp _ (by decide)]; exact d2
        · rw [hmp _ (by decide), hcp _ (by decide)]; exact d3
        · rw [hmp _ (by decide), hcp _ (by decide)]; exact d4
        · rw [hmp _ (by decide)]; exact d5
        · rw [hmp _ (by decide)]; exact d6
      · obtain ⟨⟨s1, s2⟩, ⟨s3, s4⟩, s5⟩ := t6
        unfold STG
        rw [gu_s, gu_s]
        rcases hz with ⟨q, q'⟩ | ⟨q, q'⟩ | ⟨q, q'⟩ | ⟨q, q'⟩ | ⟨q, q'⟩ <;> subst q <;> subst q'
        all_goals
          rw [tb_ors (by decide) (by decide), tb_ors (by decide) (by decide), tb_ors (by decide) (by decide), tb_ors (by decide) (by decide), tb_ors (by decide) (by decide), tb_ors (by decide) (by decide), tb_ors (by decide) (by decide), tb_ors (by decide) (by decide), tb_ors (by decide) (by decide), tb_ors (by decide) (by decide), s1, s2, s3, s4, s5]
          exact ⟨⟨rfl, rfl⟩, ⟨rfl, rfl⟩, rfl⟩
      · rw [gu_j (by decide)]; exact e1
      · rw [gu_j (by decide)]; exact e2
      · rw [gu_j (by decide)]; exact e3
      · rw [gu_j (by decide)]; exact e4
    obtain ⟨y1, y2⟩ := adv_Z hZ
    rw [y2]
    exact y1
theorem KB_pm {b : Nat} {a i : Int} (hb : ¬ b = 500001) : KB m (mpmf b a i m) := KB_tr KB_nu (KB_b hb)
theorem rrw_e (h : PZ c m) {q : Nat} {a n : Int} (hq : (q = 100002 + 10 ∧ a = 11 ∧ n = 4) ∨ (q = 100002 + 11 ∧ a = 15 ∧ n = 3)) : RES (rrw c q n) (mpms 200001 a n m) := by
  unfold rrw mpms
  refine itI_ind (f := rrf q) (x := (true, c)) (g := mpmf 200001 a) (y := m) (fun _ x t => RES x t) (N := n) (Or.inl ⟨rfl, h⟩) (fun i x t i0 i1 hx => ?_) (by omega) (Int.le_refl _)
  rcases hx with ⟨x1, x2⟩ | ⟨x1, x2⟩
  · rcases inu_e x2 (l := 0) (u := 99) (by decide) (by decide) with ⟨e1, e2⟩ | ⟨e1, e2, e3, e4⟩
    · rw [rrf_2 x1 e1]
      exact Or.inr ⟨rfl, BAD_k e2 (KB_tr KB_mon (KB_b (by decide)))⟩
    · rw [rrf_1 x1 (by rw [e1])]
      have hS := set_Z x2 (q := q) (i := i) (j := a + i) (v := x.2 100032 8) (by omega) (by
        rcases hq with ⟨w1, w2, w3⟩ | ⟨w1, w2, w3⟩
        · exact Or.inl ⟨w1, ⟨i0, by omega⟩, by omega⟩
        · exact Or.inr (Or.inl ⟨w1, ⟨i0, by omega⟩, by omega⟩)) ⟨fun _ => by omega, fun _ => e3.2⟩
      obtain ⟨y1, -⟩ := adv_Z hS
      obtain ⟨v1, v2⟩ := adv_Z x2
      have hnu : mpmf 200001 a i t = mad (gu t 200001 (a + i) (x.2 100032 8)) := by
        unfold mpmf mnu mnu3
        rw [e2, v2, if_pos (show mgd (mad t) = true from PZ_g v1), e4, mad_b (by decide)]
      rw [hnu]
      exact Or.inl ⟨rfl, y1⟩
  · rw [rrf_0 x1]
    exact Or.inr ⟨x1, BAD_k x2 (KB_pm (by decide))⟩
theorem rfi2_e {x : Bool × gC} {m' : gC} (h : RES x m') : RES (rfi2 x.1 x.2) (mst2 m') := by
  rcases h with ⟨a, b⟩ | ⟨a, b⟩
  · unfold rfi2
    rw [if_pos a]
    exact ren_e b
  · unfold rfi2
    rw [if_neg (by rw [a]; decide)]
    exact Or.inr ⟨rfl, BAD_k b KB_st2⟩
theorem KB_ms {b : Nat} {a n : Int} (hb : ¬ b = 500001) : KB m (mpms b a n m) := by
  unfold mpms
  exact itI_inv (fun t => KB m t) KB_rf (fun j s hs => KB_tr hs (KB_pm hb)) n
/-- A SETTING -/
theorem rse_e (h : PZ c m) {z : Int} (hz : z = 3 ∨ z = 4 ∨ z = 5 ∨ z = 6 ∨ z = 8) : RES (rse z c) (mst2 (if z = 3 then mpms 200001 11 4 (mnc2 0 m) else if z = 4 then mdpp 200001 (mnc2 1 m) else if z = 5 then msl 200001 (mnc2 2 m) else if z = 6 then mpms 200001 15 3 (mnc2 3 m) else mpms 200001 4 1 (mnc2 4 m))) := by
  unfold rse
  rcases hz with q | q | q | q | q <;> subst q
  · rw [if_pos (by decide : (3 : Int) = 3)]
    rcases once_e h (z := 3) (k := 0) (by decide) with ⟨a, b⟩ | ⟨a, b⟩
    · rw [if_pos a]; exact RES_bad b (KB_ms (by decide))
    · rw [if_neg (by rw [a]; decide), rse1_3]
      exact rfi2_e (rrw_e b (Or.inl ⟨rfl, rfl, rfl⟩))
  · rw [if_neg (by decide : ¬ (4 : Int) = 3), if_pos (by decide : (4 : Int) = 4)]
    rcases once_e h (z := 4) (k := 1) (by decide) with ⟨a, b⟩ | ⟨a, b⟩
    · rw [if_pos a]; exact RES_bad b (KB_tr KB_nd (KB_b (by decide)))
    · rw [if_neg (by rw [a]; decide), rse1_4]
      generalize adv (gu c 100032 10 (zor (c 100032 10) (zshl 1 4))) = x at *
      generalize mnc2 1 m = y at *
      unfold mdpp
      rcases nod_e b with ⟨n1, n2⟩ | ⟨n1, n2, n3, n4⟩
      · rw [n1, show decide (¬ (-1 : Int) = -1) = false from rfl]
        refine Or.inr ⟨rfl, ?_⟩
        show BAD (gu (rkn x).2 100002 3 (-1)) _
        have : BAD (gu (rkn x).2 100002 3 (-1)) (mnd 200001 (-1) y).2 := ⟨n2.1, by rw [gu_k (by decide)]; exact n2.2.1, by rw [gu_k (by decide)]; exact n2.2.2⟩
        exact BAD_k this (KB_tr (KB_b (by decide)) KB_st2)
      · rw [n2, n3, n4, decide_eq_true (by omega : ¬ (rkn x).1 = -1)]
        generalize (rkn x).1 = v at *
        obtain ⟨w1, -⟩ := adv_Z b
        have b1 := mad_n b
        show RES (ren (gu (adv x) 100002 3 v)) _
        exact ren_e (set_Z w1 (by decide) (Or.inr (Or.inr (Or.inr (Or.inr (Or.inl ⟨rfl, rfl, rfl, by rw [b1]; exact n1⟩))))) ⟨fun e => absurd e (by decide), fun e => absurd e (by decide)⟩)
  · rw [if_neg (by decide : ¬ (5 : Int) = 3), if_neg (by decide : ¬ (5 : Int) = 4), if_pos (by decide : (5 : Int) = 5)]
    rcases once_e h (z := 5) (k := 2) (by decide) with ⟨a, b⟩ | ⟨a, b⟩
    · rw [if_pos a]; exact RES_bad b (KB_tr KB_nu (KB_b (by decide)))
    · rw [if_neg (by rw [a]; decide), rse1_5]
      generalize adv (gu c 100032 10 (zor (c 100032 10) (zshl 1 5))) = x at *
      generalize mnc2 2 m = y at *
      unfold msl
      rcases num_e b (l := 0) (u := 9999) (by decide) (by decide) with ⟨n1, n2⟩ | ⟨n1, n2, n3, n4⟩
      · rw [n1, show decide (¬ (-1 : Int) = -1) = false from rfl]
        refine Or.inr ⟨rfl, ?_⟩
        show BAD (gu (rnu x 0 9999).2 100002 4 (-1)) _
        have : BAD (gu (rnu x 0 9999).2 100002 4 (-1)) (mnu 0 9999 y).2 := ⟨n2.1, by rw [gu_k (by decide)]; exact n2.2.1, by rw [gu_k (by decide)]; exact n2.2.2⟩
        exact BAD_k this (KB_tr (KB_b (by decide)) KB_st2)
      · rw [n2, n3, n4, decide_eq_true (by omega : ¬ (rnu x 0 9999).1 = -1)]
        generalize (rnu x 0 9999).1 = v at *
        obtain ⟨w1, -⟩ := adv_Z b
        show RES (ren (gu (adv x) 100002 4 v)) _
        exact ren_e (set_Z w1 (by decide) (Or.inr (Or.inr (Or.inl ⟨rfl, rfl, rfl⟩))) ⟨fun _ => n1, fun e => absurd e (by decide)⟩)
  · rw [if_neg (by decide : ¬ (6 : Int) = 3), if_neg (by decide : ¬ (6 : Int) = 4), if_neg (by decide : ¬ (6 : Int) = 5), if_pos (by decide : (6 : Int) = 6)]
    rcases once_e h (z := 6) (k := 3) (by decide) with ⟨a, b⟩ | ⟨a, b⟩
    · rw [if_pos a]; exact RES_bad b (KB_ms (by decide))
    · rw [if_neg (by rw [a]; decide), rse1_6]
      exact rfi2_e (rrw_e b (Or.inr ⟨rfl, rfl, rfl⟩))
  · rw [if_neg (by decide : ¬ (8 : Int) = 3), if_neg (by decide : ¬ (8 : Int) = 4), if_neg (by decide : ¬ (8 : Int) = 5), if_neg (by decide : ¬ (8 : Int) = 6)]
    rcases once_e h (z := 8) (k := 4) (by decide) with ⟨a, b⟩ | ⟨a, b⟩
    · rw [if_pos a]; exact RES_bad b (KB_ms (by decide))
    · rw [if_neg (by rw [a]; decide), rse1_8 (Or.inr (by decide))]
      generalize adv (gu c 100032 10 (zor (c 100032 10) (zshl 1 8))) = x at *
      generalize mnc2 4 m = y at *
      have hms : mpms 200001 4 1 y = gu (mnu 0 99 y).2 200001 4 (mnu 0 99 y).1 := rfl
      rw [hms]
      rcases num_e b (l := 0) (u := 99) (by decide) (by decide) with ⟨n1, n2⟩ | ⟨n1, n2, n3, n4⟩
      · rw [n1, show decide (¬ (-1 : Int) = -1) = false from rfl]
        refine Or.inr ⟨rfl, ?_⟩
        show BAD (gu (rnu x 0 99).2 100002 5 (-1)) _
        have : BAD (gu (rnu x 0 99).2 100002 5 (-1)) (mnu 0 99 y).2 := ⟨n2.1, by rw [gu_k (by decide)]; exact n2.2.1, by rw [gu_k (by decide)]; exact n2.2.2⟩
        exact BAD_k this (KB_tr (KB_b (by decide)) KB_st2)
      · rw [n2, n3, n4, decide_eq_true (by omega : ¬ (rnu x 0 99).1 = -1)]
        generalize (rnu x 0 99).1 = v at *
        obtain ⟨w1, -⟩ := adv_Z b
        show RES (ren (gu (adv x) 100002 5 v)) _
        exact ren_e (set_Z w1 (by decide) (Or.inr (Or.inr (Or.inr (Or.inl ⟨rfl, rfl, rfl, n1⟩)))) ⟨fun e => absurd e (by decide), fun e => absurd e (by decide)⟩)
/-- A STATEMENT -/
theorem stm_e (h : PZ c m) : RES (rstm c) (mstt 200001 m) := by
  have k0 := kw_a h (i := 0) (by decide)
  have k1 := kw_a h (i := 1) (by decide)
  have k3 := kw_a h (i := 3) (by decide)
  have k4 := kw_a h (i := 4) (by decide)
  have k5 := kw_a h (i := 5) (by decide)
  have k6 := kw_a h (i := 6) (by decide)
  have k7 := kw_a h (i := 7) (by decide)
  have k8 := kw_a h (i := 8) (by decide)
  change mtx m 0 4 = _ at k0
  change mtx m 1 4 = _ at k1
  change mtx m 3 5 = _ at k3
  change mtx m 4 5 = _ at k4
  change mtx m 5 4 = _ at k5
  change mtx m 6 6 = _ at k6
  change mtx m 7 4 = _ at k7
  change mtx m 8 4 = _ at k8
  have fl : RES (false, fai c 1) (mst2 (mfl m 1)) := Or.inr ⟨rfl, BAD_k (fai_e h (by decide)) KB_st2⟩
  have no : ∀ i : Nat, ¬ c 100032 9 = (i : Int) → decide (c 100032 9 = (i : Int)) = false := fun i w => decide_eq_false w
  have ye : ∀ i : Nat, c 100032 9 = (i : Int) → decide (c 100032 9 = (i : Int)) = true := fun i w => decide_eq_true w
  unfold mstt rstm
  rcases kw_rg h with e | ⟨i, i1, e⟩
  · rw [if_neg (by omega), if_neg (by omega), if_neg (by omega), if_pos (Or.inl e)]
    rw [mst1_8 (k0.trans (no 0 (by omega))) (k1.trans (no 1 (by omega))) (k3.trans (no 3 (by omega))) (k4.trans (no 4 (by omega))) (k5.trans (no 5 (by omega))) (k6.trans (no 6 (by omega))) (k7.trans (no 7 (by omega))) (k8.trans (no 8 (by omega)))]
    exact fl
  · rcases (show i = 0 ∨ i = 1 ∨ i = 2 ∨ i = 3 ∨ i = 4 ∨ i = 5 ∨ i = 6 ∨ i = 7 ∨ i = 8 by omega) with q | q | q | q | q | q | q | q | q
    · rw [if_pos (by omega), mst1_0 (k0.trans (ye 0 (by omega)))]
      exact rno_e h
    · rw [if_neg (by omega), if_pos (by omega), mst1_1 (k0.trans (no 0 (by omega))) (k1.trans (ye 1 (by omega)))]
      exact rro_e h
    · rw [if_neg (by omega), if_neg (by omega), if_neg (by omega), if_pos (Or.inr (by omega))]
      rw [mst1_8 (k0.trans (no 0 (by omega))) (k1.trans (no 1 (by omega))) (k3.trans (no 3 (by omega))) (k4.trans (no 4 (by omega))) (k5.trans (no 5 (by omega))) (k6.trans (no 6 (by omega))) (k7.trans (no 7 (by omega))) (k8.trans (no 8 (by omega)))]
      exact fl
    · have e2 : c 100032 9 = 3 := by omega
      rw [if_neg (by omega), if_neg (by omega), if_neg (by omega), if_neg (by omega), mst1_2 (k0.trans (no 0 (by omega))) (k1.trans (no 1 (by omega))) (k3.trans (ye 3 (by omega))), e2]
      have := rse_e h (z := 3) (Or.inl rfl)
      rw [if_pos rfl] at this
      exact this
    · have e2 : c 100032 9 = 4 := by omega
      rw [if_neg (by omega), if_neg (by omega), if_neg (by omega), if_neg (by omega), mst1_3 (k0.trans (no 0 (by omega))) (k1.trans (no 1 (by omega))) (k3.trans (no 3 (by omega))) (k4.trans (ye 4 (by omega))), e2]
      have := rse_e h (z := 4) (Or.inr (Or.inl rfl))
      rw [if_neg (by decide), if_pos rfl] at this
      exact this
    · have e2 : c 100032 9 = 5 := by omega
      rw [if_neg (by omega), if_neg (by omega), if_neg (by omega), if_neg (by omega), mst1_4 (k0.trans (no 0 (by omega))) (k1.trans (no 1 (by omega))) (k3.trans (no 3 (by omega))) (k4.trans (no 4 (by omega))) (k5.trans (ye 5 (by omega))), e2]
      have := rse_e h (z := 5) (Or.inr (Or.inr (Or.inl rfl)))
      rw [if_neg (by decide), if_neg (by decide), if_pos rfl] at this
      exact this
    · have e2 : c 100032 9 = 6 := by omega
      rw [if_neg (by omega), if_neg (by omega), if_neg (by omega), if_neg (by omega), mst1_5 (k0.trans (no 0 (by omega))) (k1.trans (no 1 (by omega))) (k3.trans (no 3 (by omega))) (k4.trans (no 4 (by omega))) (k5.trans (no 5 (by omega))) (k6.trans (ye 6 (by omega))), e2]
      have := rse_e h (z := 6) (Or.inr (Or.inr (Or.inr (Or.inl rfl))))
      rw [if_neg (by decide), if_neg (by decide), if_neg (by decide), if_pos rfl] at this
      exact this
    · rw [if_neg (by omega), if_neg (by omega), if_pos (by omega), mst1_6 (k0.trans (no 0 (by omega))) (k1.trans (no 1 (by omega))) (k3.trans (no 3 (by omega))) (k4.trans (no 4 (by omega))) (k5.trans (no 5 (by omega))) (k6.trans (no 6 (by omega))) (k7.trans (ye 7 (by omega)))]
      exact rsn_e h
    · have e2 : c 100032 9 = 8 := by omega
      rw [if_neg (by omega), if_neg (by omega), if_neg (by omega), if_neg (by omega), mst1_7 (k0.trans (no 0 (by omega))) (k1.trans (no 1 (by omega))) (k3.trans (no 3 (by omega))) (k4.trans (no 4 (by omega))) (k5.trans (no 5 (by omega))) (k6.trans (no 6 (by omega))) (k7.trans (no 7 (by omega))) (k8.trans (ye 8 (by omega))), e2]
      have := rse_e h (z := 8) (Or.inr (Or.inr (Or.inr (Or.inr rfl))))
      rw [if_neg (by decide), if_neg (by decide), if_neg (by decide), if_neg (by decide)] at this
      exact this
end
/-- ALL STATEMENTS -/
theorem lop_e : ∀ (n : Nat) (x : Bool × gC) (m : gC), RES x m → RES (itI (fun _ => psf) x (n : Int)) (mlop n 200001 m) := by
  intro n
  induction n with
  | zero => intro x m h; exact h
  | succ n ih =>
    intro x m h
    rw [show ((n + 1 : Nat) : Int) = (n : Int) + 1 by omega, itI_l (by omega)]
    rcases h with ⟨x1, x2⟩ | ⟨x1, x2⟩
    · have t := x2.1.1.1.1.1
      by_cases e : x.2 100032 5 = 0
      · have hm : mlop (n + 1) 200001 m = m := mlop_f (by rw [← t, e]; simp)
        rw [psf_e e, itI_id (psf_e e), hm]
        exact Or.inl ⟨x1, x2⟩
      · rw [psf_s x1 e, mlop_t (PZ_g x2) (by rw [← t]; exact e)]
        exact ih _ _ (stm_e x2)
    · have hm : mlop (n + 1) 200001 m = m := mlop_f (by rw [x2.1]; rfl)
      rw [psf_0 x1, itI_id (psf_0 x1), hm]
      exact Or.inr ⟨x1, x2⟩
