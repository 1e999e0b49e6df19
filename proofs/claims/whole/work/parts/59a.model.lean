/-! the reference: statements written, the network written -/
set_option maxHeartbeats 1000000 in
theorem m_writeNode {g : Nat} {T : gT} {c J : gC} (hM : MT T 200000) (hc : RG c) (hA : 0 ≤ c 500001 25 ∧ c 500001 25 + 22 ≤ 1500) (hL : LT T c) (hN : ND c) (hV : NW c 200000) {n : Int} (hn : 0 ≤ n ∧ n < 10) : gE g 327 5 [.ref 500001, gi n] (gm T c J) (fun o M1 => o = .inl none ∧ M1 = gm T (mwno n c) J) := by
  have v1 := mwt_ok (n := 0) (l := 4) (by decide) hc (by omega)
  have w1 := v1
  have d1 := WK_25 w1
  have e1 := WK_n w1
  have v2 := mwm_ok (v := mwt c 0 4 200000 (22 + 3 * n)) w1.1 (by omega)
  have w2 := WK_tr w1 v2
  have d2 := WK_25 w2
  have e2 := WK_n w2
  have v3 := mwn_ok (v := mxo c 200000 n) w2.1 (by omega)
  have w3 := WK_tr w2 v3
  have d3 := WK_25 w3
  have e3 := WK_n w3
  have v4 := mwn_ok (v := myo c 200000 n) w3.1 (by omega)
  have w4 := WK_tr w3 v4
  have d4 := WK_25 w4
  have e4 := WK_n w4
  have b1 : 0 ≤ mxo c 200000 n ∧ mxo c 200000 n ≤ 99 := (hV.2.2.2.2.1 n hn.1 hn.2).1
  have b2 : 0 ≤ myo c 200000 n ∧ myo c 200000 n ≤ 99 := (hV.2.2.2.2.1 n hn.1 hn.2).2
  refine gE_mk am_r327 rfl (Or.inr ⟨_, rfl, (by first | exact MT_0 hM | exact MT_now hM | exact MT_bt hM | exact MT_bl hM | exact MT_r0 hM | exact MT_t0 hM | exact MT_l0 hM | exact MT_r1 hM | exact MT_t1 hM | exact MT_l1 hM | exact MT_r2 hM | exact MT_t2 hM | exact MT_l2 hM | exact MT_r3 hM | exact MT_t3 hM | exact MT_l3 hM | exact MT_r4 hM | exact MT_t4 hM | exact MT_l4 hM | exact MT_r5 hM | exact MT_t5 hM | exact MT_l5 hM | exact MT_r6 hM | exact MT_t6 hM | exact MT_l6 hM | exact MT_r7 hM | exact MT_t7 hM | exact MT_l7 hM | exact MT_r8 hM | exact MT_t8 hM | exact MT_l8 hM | exact MT_r9 hM | exact MT_t9 hM | exact MT_l9 hM | exact MT_r10 hM | exact MT_t10 hM | exact MT_l10 hM)⟩) (fun d hd => ?_)
  show gw d g 327 0 [.ref 500001, gi n] [] _ _
  refine gw_al0 at327_0 (gw_ldcsw (q := 900000) at327_1 rfl ?_)
  refine gw_call2 at327_4 (m_writeText (n := 0) (l := 4) hM hc (by omega) hL (by decide) rfl) (by omega) (Nat.le_of_ble_eq_true rfl) (fun o M1 q4 => ?_)
  obtain ⟨rfl, rfl⟩ := q4
  show gw _ _ _ _ _ [] _ _
  refine gw_al0 at327_7 (gw_il1 at327_8 ?_)
  refine gw_call2 at327_9 (m_writeNodeName hM w1.1 (by omega) (ND_of hN e1) hn) (by omega) (Nat.le_of_ble_eq_true rfl) (fun o M1 q9 => ?_)
  obtain ⟨rfl, rfl⟩ := q9
  show gw _ _ _ _ _ [] _ _
  refine gw_al0 at327_12 (gw_al0 at327_13 (gw_il1 at327_14 (gw_callP2 at327_15 (m_xOf hM w2.1 (NW_of hV e2) hn) (by omega) (Nat.le_of_ble_eq_true rfl) ?_)))
  rw [mxo_o e2 n]
  refine gw_call2 at327_18 (m_writeNumber hM w2.1 (by omega) (by omega)) (by omega) (Nat.le_of_ble_eq_true rfl) (fun o M1 q18 => ?_)
  obtain ⟨rfl, rfl⟩ := q18
  show gw _ _ _ _ _ [] _ _
  refine gw_al0 at327_21 (gw_al0 at327_22 (gw_il1 at327_23 (gw_callP2 at327_24 (m_yOf hM w3.1 (NW_of hV e3) hn) (by omega) (Nat.le_of_ble_eq_true rfl) ?_)))
  rw [myo_o e3 n]
  refine gw_call2 at327_27 (m_writeNumber hM w3.1 (by omega) (by omega)) (by omega) (Nat.le_of_ble_eq_true rfl) (fun o M1 q27 => ?_)
  obtain ⟨rfl, rfl⟩ := q27
  show gw _ _ _ _ _ [] _ _
  refine gw_al0 at327_30 (gw_bip at327_31 (by decide) ?_)
  refine gw_call2 at327_33 (m_write hM w4.1 (by omega)) (by omega) (Nat.le_of_ble_eq_true rfl) (fun o M1 q33 => ?_)
  obtain ⟨rfl, rfl⟩ := q33
  show gw _ _ _ _ _ [] _ _
  refine gw_rv at327_36 am_r327.2.1 ⟨rfl, rfl⟩
  skip
set_option maxHeartbeats 1000000 in
theorem m_writeRoad {g : Nat} {T : gT} {c J : gC} (hM : MT T 200000) (hc : RG c) (hA : 0 ≤ c 500001 25 ∧ c 500001 25 + 43 ≤ 1500) (hL : LT T c) (hN : ND c) (hV : NW c 200000) {r : Int} (hr : 0 ≤ r ∧ r < 12) : gE g 328 5 [.ref 500001, gi r] (gm T c J) (fun o M1 => o = .inl none ∧ M1 = gm T (mwro r c) J) := by
  have v1 := mwt_ok (n := 1) (l := 4) (by decide) hc (by omega)
  have w1 := v1
  have d1 := WK_25 w1
  have e1 := WK_n w1
  have v2 := mwm_ok (v := c 200000 (52 + 7 * r + 0)) w1.1 (by omega)
  have w2 := WK_tr w1 v2
  have d2 := WK_25 w2
  have e2 := WK_n w2
  have v3 := mwm_ok (v := mwm (c 200000 (52 + 7 * r + 0)) (mwt c 1 4) 200000 (22 + 3 * c 200000 (52 + 7 * r + 1))) w2.1 (by omega)
  have w3 := WK_tr w2 v3
  have d3 := WK_25 w3
  have e3 := WK_n w3
  have v4 := mwm_ok (v := mwnn (c 200000 (52 + 7 * r + 1)) (mwm (c 200000 (52 + 7 * r + 0)) (mwt c 1 4)) 200000 (22 + 3 * c 200000 (52 + 7 * r + 2))) w3.1 (by omega)
  have w4 := WK_tr w3 v4
  have d4 := WK_25 w4
  have e4 := WK_n w4
  have v5 := mwn_ok (v := c 200000 (52 + 7 * r + 3)) w4.1 (by omega)
  have w5 := WK_tr w4 v5
  have d5 := WK_25 w5
  have e5 := WK_n w5
  have v6 := mwn_ok (v := c 200000 (52 + 7 * r + 4)) w5.1 (by omega)
  have w6 := WK_tr w5 v6
  have d6 := WK_25 w6
  have e6 := WK_n w6
  have b9 := hV.2.2.2.2.2 r hr.1 hr.2
  have n9 := hN.2 r hr.1 hr.2
  have e6b : mwr1 r c 200000 = c 200000 := e6
  have w6b : WK c (mwr1 r c) _ := w6
  have d6b := WK_25 w6b
  have v7 := mwt_ok (c := mwr1 r c) (n := 19) (l := 7) (by decide) w6b.1 (by omega)
  have w7 := WK_tr w6b v7
  have d7 := WK_25 w7
  refine gE_mk am_r328 rfl (Or.inr ⟨_, rfl, (by first | exact MT_0 hM | exact MT_now hM | exact MT_bt hM | exact MT_bl hM | exact MT_r0 hM | exact MT_t0 hM | exact MT_l0 hM | exact MT_r1 hM | exact MT_t1 hM | exact MT_l1 hM | exact MT_r2 hM | exact MT_t2 hM | exact MT_l2 hM | exact MT_r3 hM | exact MT_t3 hM | exact MT_l3 hM | exact MT_r4 hM | exact MT_t4 hM | exact MT_l4 hM | exact MT_r5 hM | exact MT_t5 hM | exact MT_l5 hM | exact MT_r6 hM | exact MT_t6 hM | exact MT_l6 hM | exact MT_r7 hM | exact MT_t7 hM | exact MT_l7 hM | exact MT_r8 hM | exact MT_t8 hM | exact MT_l8 hM | exact MT_r9 hM | exact MT_t9 hM | exact MT_l9 hM | exact MT_r10 hM | exact MT_t10 hM | exact MT_l10 hM)⟩) (fun d hd => ?_)
  show gw d g 328 0 [.ref 500001, gi r] [] _ _
  refine gw_al0 at328_0 (gw_ldcsw (q := 900001) at328_1 rfl ?_)
  refine gw_call2 at328_4 (m_writeText (n := 1) (l := 4) hM hc (by omega) hL (by decide) rfl) (by omega) (Nat.le_of_ble_eq_true rfl) (fun o M1 q4 => ?_)
  obtain ⟨rfl, rfl⟩ := q4
  show gw _ _ _ _ _ [] _ _
  refine gw_al0 at328_7 (gw_al0 at328_8 (gw_il1 at328_9 (gw_const at328_10 (gw_callP3 at328_11 (m_rof hM w1.1 hr (by decide)) (by omega) (Nat.le_of_ble_eq_true rfl) ?_))))
  change gw _ _ _ _ _ (gi (_) :: _) _ _
  rw [congrFun e1 _]
  refine gw_call2 at328_14 (m_writeName hM w1.1 (by omega) n9.1) (by omega) (Nat.le_of_ble_eq_true rfl) (fun o M1 q14 => ?_)
  obtain ⟨rfl, rfl⟩ := q14
  show gw _ _ _ _ _ [] _ _
  refine gw_al0 at328_17 (gw_al0 at328_18 (gw_il1 at328_19 (gw_const at328_20 (gw_callP3 at328_21 (m_rof hM w2.1 hr (by decide)) (by omega) (Nat.le_of_ble_eq_true rfl) ?_))))
  change gw _ _ _ _ _ (gi (_) :: _) _ _
  rw [congrFun e2 _]
  refine gw_call2 at328_24 (m_writeNodeName hM w2.1 (by omega) (ND_of hN e2) b9.1) (by omega) (Nat.le_of_ble_eq_true rfl) (fun o M1 q24 => ?_)
  obtain ⟨rfl, rfl⟩ := q24
  show gw _ _ _ _ _ [] _ _
  refine gw_al0 at328_27 (gw_al0 at328_28 (gw_il1 at328_29 (gw_const at328_30 (gw_callP3 at328_31 (m_rof hM w3.1 hr (by decide)) (by omega) (Nat.le_of_ble_eq_true rfl) ?_))))
  change gw _ _ _ _ _ (gi (_) :: _) _ _
  rw [congrFun e3 _]
  refine gw_call2 at328_34 (m_writeNodeName hM w3.1 (by omega) (ND_of hN e3) b9.2.1) (by omega) (Nat.le_of_ble_eq_true rfl) (fun o M1 q34 => ?_)
  obtain ⟨rfl, rfl⟩ := q34
  show gw _ _ _ _ _ [] _ _
  refine gw_al0 at328_37 (gw_al0 at328_38 (gw_il1 at328_39 (gw_const at328_40 (gw_callP3 at328_41 (m_rof hM w4.1 hr (by decide)) (by omega) (Nat.le_of_ble_eq_true rfl) ?_))))
  change gw _ _ _ _ _ (gi (_) :: _) _ _
  rw [congrFun e4 _]
  refine gw_call2 at328_44 (m_writeNumber hM w4.1 (by omega) (by omega)) (by omega) (Nat.le_of_ble_eq_true rfl) (fun o M1 q44 => ?_)
  obtain ⟨rfl, rfl⟩ := q44
  show gw _ _ _ _ _ [] _ _
  refine gw_al0 at328_47 (gw_al0 at328_48 (gw_il1 at328_49 (gw_const at328_50 (gw_callP3 at328_51 (m_rof hM w5.1 hr (by decide)) (by omega) (Nat.le_of_ble_eq_true rfl) ?_))))
  change gw _ _ _ _ _ (gi (_) :: _) _ _
  rw [congrFun e5 _]
  refine gw_call2 at328_54 (m_writeNumber hM w5.1 (by omega) (by omega)) (by omega) (Nat.le_of_ble_eq_true rfl) (fun o M1 q54 => ?_)
  obtain ⟨rfl, rfl⟩ := q54
  show gw _ _ _ _ _ [] _ _
  change gw _ _ _ _ _ _ (gm T (mwr1 r c) J) _
  refine gw_al0 at328_57 (gw_il1 at328_58 (gw_const at328_59 (gw_callP3 at328_60 (m_rof hM w6b.1 hr (by decide)) (by omega) (Nat.le_of_ble_eq_true rfl) ?_)))
  rw [e6b]
  refine gw_const at328_63 ?_
  refine gw_cne at328_64 (by first | omega | exact hc _ _ | exact w6.1 _ _) (by first | omega | exact hc _ _ | exact w6.1 _ _) (fun q64 => ?_) (fun q64 => ?_)
  · have fin : ∀ x : gC, RG x → 0 ≤ x 500001 25 ∧ x 500001 25 < 1500 → mwro r c = mput x 59 → gw d g 328 74 [.ref 500001, gi r] [] (gm T x J) (fun o M1 => o = .inl none ∧ M1 = gm T (mwro r c) J) := fun x h1 h2 h3 => by
      refine gw_al0 at328_74 (gw_bip at328_75 (by decide) (gw_call2 at328_77 (m_write hM h1 h2) (by omega) (Nat.le_of_ble_eq_true rfl) (fun oo M1 q77 => ?_)))
      obtain ⟨rfl, rfl⟩ := q77
      show gw _ _ _ _ _ [] _ _
      exact gw_rv at328_80 am_r328.2.1 ⟨rfl, by rw [h3]⟩
    first
    | exact fin (mwt (mwr1 r c) 19 7) w7.1 (by omega) (by unfold mwro mwr2; rw [if_pos (decide_eq_true (by omega))])
    | exact fin (mwr1 r c) w6b.1 (by omega) (by unfold mwro mwr2; rw [if_neg (by rw [decide_eq_false (by omega)]; decide)])
  · refine gw_al0 at328_67 (gw_ldcsw (q := 900019) at328_68 rfl ?_)
    refine gw_call2 at328_71 (m_writeText (n := 19) (l := 7) hM w6b.1 (by omega) (LT_of hL (fun _ _ => rfl) (fun k hk j => congrFun (w6b.2.2.1 k (by omega) (by omega)) j)) (by decide) rfl) (by omega) (Nat.le_of_ble_eq_true rfl) (fun o M1 q71 => ?_)
    obtain ⟨rfl, rfl⟩ := q71
    show gw _ _ _ _ _ [] _ _
    have fin : ∀ x : gC, RG x → 0 ≤ x 500001 25 ∧ x 500001 25 < 1500 → mwro r c = mput x 59 → gw d g 328 74 [.ref 500001, gi r] [] (gm T x J) (fun o M1 => o = .inl none ∧ M1 = gm T (mwro r c) J) := fun x h1 h2 h3 => by
      refine gw_al0 at328_74 (gw_bip at328_75 (by decide) (gw_call2 at328_77 (m_write hM h1 h2) (by omega) (Nat.le_of_ble_eq_true rfl) (fun oo M1 q77 => ?_)))
      obtain ⟨rfl, rfl⟩ := q77
      show gw _ _ _ _ _ [] _ _
      exact gw_rv at328_80 am_r328.2.1 ⟨rfl, by rw [h3]⟩
    first
    | exact fin (mwt (mwr1 r c) 19 7) w7.1 (by omega) (by unfold mwro mwr2; rw [if_pos (decide_eq_true (by omega))])
    | exact fin (mwr1 r c) w6b.1 (by omega) (by unfold mwro mwr2; rw [if_neg (by rw [decide_eq_false (by omega)]; decide)])
set_option maxHeartbeats 1000000 in
theorem m_writeSnow {g : Nat} {T : gT} {c J : gC} (hM : MT T 200000) (hc : RG c) (hA : 0 ≤ c 500001 25 ∧ c 500001 25 + 17 ≤ 1500) (hL : LT T c) (hN : ND c) {r : Int} (hr : 0 ≤ r ∧ r < 12) : gE g 329 5 [.ref 500001, gi r] (gm T c J) (fun o M1 => o = .inl none ∧ M1 = gm T (mwso r c) J) := by
  have v1 := mwt_ok (n := 7) (l := 4) (by decide) hc (by omega)
  have w1 := v1
  have d1 := WK_25 w1
  have e1 := WK_n w1
  have v2 := mwm_ok (v := c 200000 (52 + 7 * r + 0)) w1.1 (by omega)
  have w2 := WK_tr w1 v2
  have d2 := WK_25 w2
  have e2 := WK_n w2
  have v3 := mwn_ok (v := c 200000 (52 + 7 * r + 6)) w2.1 (by omega)
  have w3 := WK_tr w2 v3
  have d3 := WK_25 w3
  have e3 := WK_n w3
  have n9 := hN.2 r hr.1 hr.2
  refine gE_mk am_r329 rfl (Or.inr ⟨_, rfl, (by first | exact MT_0 hM | exact MT_now hM | exact MT_bt hM | exact MT_bl hM | exact MT_r0 hM | exact MT_t0 hM | exact MT_l0 hM | exact MT_r1 hM | exact MT_t1 hM | exact MT_l1 hM | exact MT_r2 hM | exact MT_t2 hM | exact MT_l2 hM | exact MT_r3 hM | exact MT_t3 hM | exact MT_l3 hM | exact MT_r4 hM | exact MT_t4 hM | exact MT_l4 hM | exact MT_r5 hM | exact MT_t5 hM | exact MT_l5 hM | exact MT_r6 hM | exact MT_t6 hM | exact MT_l6 hM | exact MT_r7 hM | exact MT_t7 hM | exact MT_l7 hM | exact MT_r8 hM | exact MT_t8 hM | exact MT_l8 hM | exact MT_r9 hM | exact MT_t9 hM | exact MT_l9 hM | exact MT_r10 hM | exact MT_t10 hM | exact MT_l10 hM)⟩) (fun d hd => ?_)
  show gw d g 329 0 [.ref 500001, gi r] [] _ _
  refine gw_al0 at329_0 (gw_il1 at329_1 (gw_bip at329_2 (by decide) (gw_callP3 at329_4 (m_rof hM hc hr (by decide)) (by omega) (Nat.le_of_ble_eq_true rfl) ?_)))
  refine gw_zne at329_7 (by first | omega | exact hc _ _) (fun q7 => ?_) (fun q7 => ?_)
  · refine gw_al0 at329_11 (gw_ldcsw (q := 900007) at329_12 rfl ?_)
    refine gw_call2 at329_15 (m_writeText (n := 7) (l := 4) hM hc (by omega) hL (by decide) rfl) (by omega) (Nat.le_of_ble_eq_true rfl) (fun o M1 q15 => ?_)
    obtain ⟨rfl, rfl⟩ := q15
    show gw _ _ _ _ _ [] _ _
    refine gw_al0 at329_18 (gw_al0 at329_19 (gw_il1 at329_20 (gw_const at329_21 (gw_callP3 at329_22 (m_rof hM w1.1 hr (by decide)) (by omega) (Nat.le_of_ble_eq_true rfl) ?_))))
    rw [congrFun e1 _]
    refine gw_call2 at329_25 (m_writeName hM w1.1 (by omega) n9.1) (by omega) (Nat.le_of_ble_eq_true rfl) (fun o M1 q25 => ?_)
    obtain ⟨rfl, rfl⟩ := q25
    show gw _ _ _ _ _ [] _ _
    refine gw_al0 at329_28 (gw_al0 at329_29 (gw_il1 at329_30 (gw_bip at329_31 (by decide) (gw_callP3 at329_33 (m_rof hM w2.1 hr (by decide)) (by omega) (Nat.le_of_ble_eq_true rfl) ?_))))
    rw [congrFun e2 _]
    refine gw_call2 at329_36 (m_writeNumber hM w2.1 (by omega) (by omega)) (by omega) (Nat.le_of_ble_eq_true rfl) (fun o M1 q36 => ?_)
    obtain ⟨rfl, rfl⟩ := q36
    show gw _ _ _ _ _ [] _ _
    refine gw_al0 at329_39 (gw_bip at329_40 (by decide) ?_)
    refine gw_call2 at329_42 (m_write hM w3.1 (by omega)) (by omega) (Nat.le_of_ble_eq_true rfl) (fun o M1 q42 => ?_)
    obtain ⟨rfl, rfl⟩ := q42
    show gw _ _ _ _ _ [] _ _
    refine gw_rv at329_45 am_r329.2.1 ⟨rfl, ?_⟩
    unfold mwso
    rw [if_neg (by omega)]
  · refine gw_rv at329_10 am_r329.2.1 ⟨rfl, ?_⟩
    unfold mwso
    rw [if_pos (by omega)]
