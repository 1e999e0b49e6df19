set_option maxHeartbeats 1000000 in
theorem c_x_pathTime {g : Nat} {T : gT} {c J : gC} (hX : XT T) (hT : NT T 100014) (hc : RG c) (hN : NR c 100014) (hW : WT T 100034) (hwn : (T.1 100034).2.2 0 = 100014 + 1) {B : Int} (hR : WR c 100034 B) (hRT : RT T) (hS : SR c) (hW9 : WT T 100039) (hwp : (T.1 100039).2.2 0 = 100014 + 1) (hB : B ≤ 1200000000) {z : Int} (hz : -2147483648 ≤ z ∧ z < 2147483648) : gE g 148 8 [.ref 500000, gi z] (gm T c J) (fun o M1 => ((0 ≤ z ∧ z < c 100014 1) ∧ (fpx (rfr c) (rfr c 100034 2) z 24).1 = z ∧ o = .inl (some (gi (drl (wcp (fpx (rfr c) (rfr c 100034 2) z 24).2.2 100039 100034) 100014 100039 100029 false ((fpx (rfr c) (rfr c 100034 2) z 24).2.2 100026 5)).1)) ∧ M1 = gm T (drl (wcp (fpx (rfr c) (rfr c 100034 2) z 24).2.2 100039 100034) 100014 100039 100029 false ((fpx (rfr c) (rfr c 100034 2) z 24).2.2 100026 5)).2 J) ∨ ((0 ≤ z ∧ z < c 100014 1) ∧ ¬ (fpx (rfr c) (rfr c 100034 2) z 24).1 = z ∧ o = .inr 3 ∧ M1 = gm (gTt T) (fpx (rfr c) (rfr c 100034 2) z 24).2.2 J) ∨ (¬ (0 ≤ z ∧ z < c 100014 1) ∧ o = .inr 2 ∧ M1 = gm (gTt T) c J)) := by
  have hn1 := hN.1
  obtain ⟨f1, f2, f3⟩ := rfr_ok hc hS hN
  have f4 : NR (rfr c) 100014 := NF_NR (fun i a b j => f3 i (by omega) (by omega) (by omega) j) hN
  have f5 : WR (rfr c) 100034 B := WR_arg hR (fun k a b j => f3 k (by omega) (by omega) (by omega) j)
  have fn1 := f4.1
  have hw2 := f5.2.2.1
  have hb1 := hR.1
  obtain ⟨g1, g2, g3, g4⟩ := fpx_ok (c := rfr c) f4 f1 (f := rfr c 100034 2) (t := z) (i := 24) (by omega) (by omega)
  have g5 := fpx_arc (c := rfr c) (f := rfr c 100034 2) (t := z) (i := 24) (by omega) (by omega)
  have g6 := fpx_len (c := rfr c) (f := rfr c 100034 2) (t := z) (i := 24) (by omega)
  have g7 : WR (fpx (rfr c) (rfr c 100034 2) z 24).2.2 100034 B := WR_arg f5 fun k a b j => g2 k (by omega) (by omega) j
  have g8 : NR (fpx (rfr c) (rfr c 100034 2) z 24).2.2 100014 := NF_NR (NF_of g2) f4
  have k1 : ∀ k : Nat, k < 100039 → ∀ j, wcp (fpx (rfr c) (rfr c 100034 2) z 24).2.2 100039 100034 k j = (fpx (rfr c) (rfr c 100034 2) z 24).2.2 k j := fun k hk j => wcp_k (by omega)
  have k2 : WR (wcp (fpx (rfr c) (rfr c 100034 2) z 24).2.2 100039 100034) 100039 B := WEQ_WR (wcp_eq (by omega)) g7
  have k3 : NR (wcp (fpx (rfr c) (rfr c 100034 2) z 24).2.2 100039 100034) 100014 := NF_NR (fun i a b j => k1 i (by omega) j) g8
  refine gE_mk am_r148 rfl (Or.inr ⟨_, rfl, (by first | exact XT_0 hX | exact XT_r4 hX | exact XT_r5 hX | exact XT_r6 hX | exact XT_r7 hX | exact XT_r9 hX | exact WT_0 hW | exact WT_0 hW9 | exact RT_0 hRT | exact RT_r4 hRT | exact RT_t4 hRT | exact RT_l4 hRT | exact x5_0 | exact x5_4 | exact XT_0 x1 | exact XT_r5 x1)⟩) (fun d hd => ?_)
  show gw d g 148 0 [.ref 500000, gi z, am_U] [] _ _
  refine gw_al0 at148_0 (gw_il1 at148_1 ?_)
  refine gw_call2 at148_2 (c_routesTo hX hT hc hN hW hwn hR hRT hS (by omega)) (by omega) (Nat.le_of_ble_eq_true rfl) (fun o M1 q2 => ?_)
  rcases q2 with ⟨p1, p2, rfl, rfl⟩ | ⟨p1, p2, rfl, rfl⟩ | ⟨p1, rfl, rfl⟩
  · show gw _ _ _ _ _ (.ref 100026 :: []) _ _
    refine gw_as2 at148_5 (h := (gw_al0 at148_6 (gw_gr at148_7 (by first | exact XT_0 hX | exact XT_r4 hX | exact XT_r5 hX | exact XT_r6 hX | exact XT_r7 hX | exact XT_r9 hX | exact WT_0 hW | exact WT_0 hW9 | exact RT_0 hRT | exact RT_r4 hRT | exact RT_t4 hRT | exact RT_l4 hRT | exact x5_0 | exact x5_4 | exact XT_0 x1 | exact XT_r5 x1) (by first | exact XT_0 hX | exact XT_r4 hX | exact XT_r5 hX | exact XT_r6 hX | exact XT_r7 hX | exact XT_r9 hX | exact WT_0 hW | exact WT_0 hW9 | exact RT_0 hRT | exact RT_r4 hRT | exact RT_t4 hRT | exact RT_l4 hRT | exact x5_0 | exact x5_4 | exact XT_0 x1 | exact XT_r5 x1) (gw_al0 at148_10 (gw_gr at148_11 (by first | exact XT_0 hX | exact XT_r4 hX | exact XT_r5 hX | exact XT_r6 hX | exact XT_r7 hX | exact XT_r9 hX | exact WT_0 hW | exact WT_0 hW9 | exact RT_0 hRT | exact RT_r4 hRT | exact RT_t4 hRT | exact RT_l4 hRT | exact x5_0 | exact x5_4 | exact XT_0 x1 | exact XT_r5 x1) (by first | exact XT_0 hX | exact XT_r4 hX | exact XT_r5 hX | exact XT_r6 hX | exact XT_r7 hX | exact XT_r9 hX | exact WT_0 hW | exact WT_0 hW9 | exact RT_0 hRT | exact RT_r4 hRT | exact RT_t4 hRT | exact RT_l4 hRT | exact x5_0 | exact x5_4 | exact XT_0 x1 | exact XT_r5 x1) ?_)))))
    refine gw_call2 at148_14 (c_wcopy hW9 hW (by omega)) (by omega) (Nat.le_of_ble_eq_true rfl) (fun o M1 q14 => ?_)
    obtain ⟨rfl, rfl⟩ := q14
    show gw _ _ _ _ _ [] _ _
    refine gw_al0 at148_17 (gw_gr at148_18 (by first | exact XT_0 hX | exact XT_r4 hX | exact XT_r5 hX | exact XT_r6 hX | exact XT_r7 hX | exact XT_r9 hX | exact WT_0 hW | exact WT_0 hW9 | exact RT_0 hRT | exact RT_r4 hRT | exact RT_t4 hRT | exact RT_l4 hRT | exact x5_0 | exact x5_4 | exact XT_0 x1 | exact XT_r5 x1) (by first | exact XT_0 hX | exact XT_r4 hX | exact XT_r5 hX | exact XT_r6 hX | exact XT_r7 hX | exact XT_r9 hX | exact WT_0 hW | exact WT_0 hW9 | exact RT_0 hRT | exact RT_r4 hRT | exact RT_t4 hRT | exact RT_l4 hRT | exact x5_0 | exact x5_4 | exact XT_0 x1 | exact XT_r5 x1) (gw_al2 at148_21 (gw_gr at148_22 (by first | exact XT_0 hX | exact XT_r4 hX | exact XT_r5 hX | exact XT_r6 hX | exact XT_r7 hX | exact XT_r9 hX | exact WT_0 hW | exact WT_0 hW9 | exact RT_0 hRT | exact RT_r4 hRT | exact RT_t4 hRT | exact RT_l4 hRT | exact x5_0 | exact x5_4 | exact XT_0 x1 | exact XT_r5 x1) (by first | exact XT_0 hX | exact XT_r4 hX | exact XT_r5 hX | exact XT_r6 hX | exact XT_r7 hX | exact XT_r9 hX | exact WT_0 hW | exact WT_0 hW9 | exact RT_0 hRT | exact RT_r4 hRT | exact RT_t4 hRT | exact RT_l4 hRT | exact x5_0 | exact x5_4 | exact XT_0 x1 | exact XT_r5 x1) (gw_al2 at148_25 (gw_gf (j := 5) at148_26 (by first | exact XT_0 hX | exact XT_r4 hX | exact XT_r5 hX | exact XT_r6 hX | exact XT_r7 hX | exact XT_r9 hX | exact WT_0 hW | exact WT_0 hW9 | exact RT_0 hRT | exact RT_r4 hRT | exact RT_t4 hRT | exact RT_l4 hRT | exact x5_0 | exact x5_4 | exact XT_0 x1 | exact XT_r5 x1) rfl ?_)))))
    rw [k1 _ (by omega)]
    refine gw_const at148_29 ?_
    refine gw_call4 at148_30 (c_driveAlong hT k3 hW9 hwp (wcp_RG g1) k2 (by omega) (RT_t4 hRT) (RT_l4 hRT) (by omega) (by omega) (s := false) g6 (fun j a b => by rw [k1 _ (by omega)]; exact g5.2 j a b)) (by omega) (Nat.le_of_ble_eq_true rfl) (fun o M1 q30 => ?_)
    obtain ⟨rfl, rfl⟩ := q30
    show gw _ _ _ _ _ (gi _ :: []) _ _
    refine gw_ri at148_33 am_r148.2.1 ?_
    exact Or.inl ⟨p1, p2, rfl, rfl⟩
  · refine gK_thr (am_h148 _ (by decide)) ?_
    exact Or.inr (Or.inl ⟨p1, p2, rfl, rfl⟩)
  · refine gK_thr (am_h148 _ (by decide)) ?_
    exact Or.inr (Or.inr ⟨p1, rfl, rfl⟩)
set_option maxHeartbeats 1000000 in
theorem c_x_driveTo {g : Nat} {T : gT} {c J : gC} (hX : XT T) (hT : NT T 100014) (hc : RG c) (hN : NR c 100014) (hW : WT T 100034) (hwn : (T.1 100034).2.2 0 = 100014 + 1) {B : Int} (hR : WR c 100034 B) (hRT : RT T) (hS : SR c) (hH : HR T c) (hB : B ≤ 1200000000) {z : Int} (hz : -2147483648 ≤ z ∧ z < 2147483648) {s : Bool} : gE g 147 8 [.ref 500000, gi z, gi (bi s)] (gm T c J) (fun o M1 => ((0 ≤ z ∧ z < c 100014 1) ∧ (fpx (rfr c) (rfr c 100034 2) z 24).1 = z ∧ (fpx (rfr c) (rfr c 100034 2) z 24).2.2 100026 5 = 0 ∧ o = .inl (some (gi 0)) ∧ M1 = gm T (fpx (rfr c) (rfr c 100034 2) z 24).2.2 J) ∨ ((0 ≤ z ∧ z < c 100014 1) ∧ (fpx (rfr c) (rfr c 100034 2) z 24).1 = z ∧ ¬ (fpx (rfr c) (rfr c 100034 2) z 24).2.2 100026 5 = 0 ∧ ∃ (T1 : gT) (c1 J1 : gC), KP T (fpx (rfr c) (rfr c 100034 2) z 24).2.2 J T1 c1 J1 ∧ o = .inl (some (gi (drl c1 100014 100034 100029 s ((fpx (rfr c) (rfr c 100034 2) z 24).2.2 100026 5)).1)) ∧ M1 = gm T1 (drl c1 100014 100034 100029 s ((fpx (rfr c) (rfr c 100034 2) z 24).2.2 100026 5)).2 J1) ∨ ((0 ≤ z ∧ z < c 100014 1) ∧ ¬ (fpx (rfr c) (rfr c 100034 2) z 24).1 = z ∧ o = .inr 3 ∧ M1 = gm (gTt T) (fpx (rfr c) (rfr c 100034 2) z 24).2.2 J) ∨ (¬ (0 ≤ z ∧ z < c 100014 1) ∧ o = .inr 2 ∧ M1 = gm (gTt T) c J)) := by
  have hn1 := hN.1
  obtain ⟨f1, f2, f3⟩ := rfr_ok hc hS hN
  have f4 : NR (rfr c) 100014 := NF_NR (fun i a b j => f3 i (by omega) (by omega) (by omega) j) hN
  have f5 : WR (rfr c) 100034 B := WR_arg hR (fun k a b j => f3 k (by omega) (by omega) (by omega) j)
  have fn1 := f4.1
  have hw2 := f5.2.2.1
  have hb1 := hR.1
  obtain ⟨g1, g2, g3, g4⟩ := fpx_ok (c := rfr c) f4 f1 (f := rfr c 100034 2) (t := z) (i := 24) (by omega) (by omega)
  have g5 := fpx_arc (c := rfr c) (f := rfr c 100034 2) (t := z) (i := 24) (by omega) (by omega)
  have g6 := fpx_len (c := rfr c) (f := rfr c 100034 2) (t := z) (i := 24) (by omega)
  have g7 : WR (fpx (rfr c) (rfr c 100034 2) z 24).2.2 100034 B := WR_arg f5 fun k a b j => g2 k (by omega) (by omega) j
  have g8 : NR (fpx (rfr c) (rfr c 100034 2) z 24).2.2 100014 := NF_NR (NF_of g2) f4
  have hH2 : HR T (fpx (rfr c) (rfr c 100034 2) z 24).2.2 := by
    obtain ⟨m, h⟩ := hH
    unfold HRm at h
    refine ⟨m, ?_⟩
    unfold HRm
    rw [g2 100052 (by omega) (by omega), g2 100052 (by omega) (by omega), f3 100052 (by omega) (by omega) (by omega), f3 100052 (by omega) (by omega) (by omega)]
    exact h
  refine gE_mk am_r147 rfl (Or.inr ⟨_, rfl, (by first | exact XT_0 hX | exact XT_r4 hX | exact XT_r5 hX | exact XT_r6 hX | exact XT_r7 hX | exact XT_r9 hX | exact WT_0 hW | exact WT_0 hW9 | exact RT_0 hRT | exact RT_r4 hRT | exact RT_t4 hRT | exact RT_l4 hRT | exact x5_0 | exact x5_4 | exact XT_0 x1 | exact XT_r5 x1)⟩) (fun d hd => ?_)
  show gw d g 147 0 [.ref 500000, gi z, gi (bi s), am_U] [] _ _
  refine gw_al0 at147_0 (gw_il1 at147_1 ?_)
  refine gw_call2 at147_2 (c_routesTo hX hT hc hN hW hwn hR hRT hS (by omega)) (by omega) (Nat.le_of_ble_eq_true rfl) (fun o M1 q2 => ?_)
  rcases q2 with ⟨p1, p2, rfl, rfl⟩ | ⟨p1, p2, rfl, rfl⟩ | ⟨p1, rfl, rfl⟩
  · show gw _ _ _ _ _ (.ref 100026 :: []) _ _
    refine gw_as3 at147_5 (h := (gw_al3 at147_6 (gw_gf (j := 5) at147_7 (by first | exact XT_0 hX | exact XT_r4 hX | exact XT_r5 hX | exact XT_r6 hX | exact XT_r7 hX | exact XT_r9 hX | exact WT_0 hW | exact WT_0 hW9 | exact RT_0 hRT | exact RT_r4 hRT | exact RT_t4 hRT | exact RT_l4 hRT | exact x5_0 | exact x5_4 | exact XT_0 x1 | exact XT_r5 x1) rfl ?_)))
    refine gw_zne at147_10 (by first | omega | exact hc _ _ | exact g1 _ _ | exact x4 _ _) (fun q10 => ?_) (fun q10 => ?_)
    · refine gw_al0 at147_15 (gw_gr at147_16 (by first | exact XT_0 hX | exact XT_r4 hX | exact XT_r5 hX | exact XT_r6 hX | exact XT_r7 hX | exact XT_r9 hX | exact WT_0 hW | exact WT_0 hW9 | exact RT_0 hRT | exact RT_r4 hRT | exact RT_t4 hRT | exact RT_l4 hRT | exact x5_0 | exact x5_4 | exact XT_0 x1 | exact XT_r5 x1) (by first | exact XT_0 hX | exact XT_r4 hX | exact XT_r5 hX | exact XT_r6 hX | exact XT_r7 hX | exact XT_r9 hX | exact WT_0 hW | exact WT_0 hW9 | exact RT_0 hRT | exact RT_r4 hRT | exact RT_t4 hRT | exact RT_l4 hRT | exact x5_0 | exact x5_4 | exact XT_0 x1 | exact XT_r5 x1) (gw_al0 at147_19 (gw_gr at147_20 (by first | exact XT_0 hX | exact XT_r4 hX | exact XT_r5 hX | exact XT_r6 hX | exact XT_r7 hX | exact XT_r9 hX | exact WT_0 hW | exact WT_0 hW9 | exact RT_0 hRT | exact RT_r4 hRT | exact RT_t4 hRT | exact RT_l4 hRT | exact x5_0 | exact x5_4 | exact XT_0 x1 | exact XT_r5 x1) (by first | exact XT_0 hX | exact XT_r4 hX | exact XT_r5 hX | exact XT_r6 hX | exact XT_r7 hX | exact XT_r9 hX | exact WT_0 hW | exact WT_0 hW9 | exact RT_0 hRT | exact RT_r4 hRT | exact RT_t4 hRT | exact RT_l4 hRT | exact x5_0 | exact x5_4 | exact XT_0 x1 | exact XT_r5 x1) (gw_al0 at147_23 (gw_gr at147_24 (by first | exact XT_0 hX | exact XT_r4 hX | exact XT_r5 hX | exact XT_r6 hX | exact XT_r7 hX | exact XT_r9 hX | exact WT_0 hW | exact WT_0 hW9 | exact RT_0 hRT | exact RT_r4 hRT | exact RT_t4 hRT | exact RT_l4 hRT | exact x5_0 | exact x5_4 | exact XT_0 x1 | exact XT_r5 x1) (by first | exact XT_0 hX | exact XT_r4 hX | exact XT_r5 hX | exact XT_r6 hX | exact XT_r7 hX | exact XT_r9 hX | exact WT_0 hW | exact WT_0 hW9 | exact RT_0 hRT | exact RT_r4 hRT | exact RT_t4 hRT | exact RT_l4 hRT | exact x5_0 | exact x5_4 | exact XT_0 x1 | exact XT_r5 x1) ?_)))))
      refine gw_call3 at147_27 (c_keep hH2 g1 hT hW) (by omega) (Nat.le_of_ble_eq_true rfl) (fun o M1 q27 => ?_)
      obtain ⟨rfl, T1, c1, J1, kp, rfl⟩ := q27
      have x1 := KP_XT kp hX
      have x2 := KP_NT kp hT
      have x3 := KP_WT kp hW
      have x4 := KP_RG kp hH2
      have x5 := KP_NR kp g8
      have x6 := KP_WR kp g7
      have x7 : c1 100026 = (fpx (rfr c) (rfr c 100034 2) z 24).2.2 100026 := KP_c kp (by omega) (by omega)
      have x8 : c1 100029 = (fpx (rfr c) (rfr c 100034 2) z 24).2.2 100029 := KP_c kp (by omega) (by omega)
      have x9 : (T1.1 100034).2.2 0 = 100014 + 1 := by rw [KP_T kp (by omega) (by omega)]; exact hwn
      have x5_0 : (T1.1 100026).1 = 15 := by rw [KP_T kp (by omega) (by omega)]; exact RT_0 hRT
      have x5_4 : (T1.1 100026).2.2 4 = 100029 + 1 := by rw [KP_T kp (by omega) (by omega)]; exact RT_r4 hRT
      have x5_t : (T1.1 100029).1 = 1 := by rw [KP_T kp (by omega) (by omega)]; exact RT_t4 hRT
      have x5_l : (T1.1 100029).2.1 = 24 := by rw [KP_T kp (by omega) (by omega)]; exact RT_l4 hRT
      show gw _ _ _ _ _ [] _ _
      refine gw_al0 at147_30 (gw_gr at147_31 (by first | exact XT_0 hX | exact XT_r4 hX | exact XT_r5 hX | exact XT_r6 hX | exact XT_r7 hX | exact XT_r9 hX | exact WT_0 hW | exact WT_0 hW9 | exact RT_0 hRT | exact RT_r4 hRT | exact RT_t4 hRT | exact RT_l4 hRT | exact x5_0 | exact x5_4 | exact XT_0 x1 | exact XT_r5 x1) (by first | exact XT_0 hX | exact XT_r4 hX | exact XT_r5 hX | exact XT_r6 hX | exact XT_r7 hX | exact XT_r9 hX | exact WT_0 hW | exact WT_0 hW9 | exact RT_0 hRT | exact RT_r4 hRT | exact RT_t4 hRT | exact RT_l4 hRT | exact x5_0 | exact x5_4 | exact XT_0 x1 | exact XT_r5 x1) (gw_al3 at147_34 (gw_gr at147_35 (by first | exact XT_0 hX | exact XT_r4 hX | exact XT_r5 hX | exact XT_r6 hX | exact XT_r7 hX | exact XT_r9 hX | exact WT_0 hW | exact WT_0 hW9 | exact RT_0 hRT | exact RT_r4 hRT | exact RT_t4 hRT | exact RT_l4 hRT | exact x5_0 | exact x5_4 | exact XT_0 x1 | exact XT_r5 x1) (by first | exact XT_0 hX | exact XT_r4 hX | exact XT_r5 hX | exact XT_r6 hX | exact XT_r7 hX | exact XT_r9 hX | exact WT_0 hW | exact WT_0 hW9 | exact RT_0 hRT | exact RT_r4 hRT | exact RT_t4 hRT | exact RT_l4 hRT | exact x5_0 | exact x5_4 | exact XT_0 x1 | exact XT_r5 x1) (gw_al3 at147_38 (gw_gf (j := 5) at147_39 (by first | exact XT_0 hX | exact XT_r4 hX | exact XT_r5 hX | exact XT_r6 hX | exact XT_r7 hX | exact XT_r9 hX | exact WT_0 hW | exact WT_0 hW9 | exact RT_0 hRT | exact RT_r4 hRT | exact RT_t4 hRT | exact RT_l4 hRT | exact x5_0 | exact x5_4 | exact XT_0 x1 | exact XT_r5 x1) rfl ?_)))))
      rw [x7]
      refine gw_il2 at147_42 ?_
      refine gw_call4 at147_43 (c_driveAlong x2 x5 x3 x9 x4 x6 (by omega) x5_t x5_l (by omega) (by omega) (s := s) g6 (fun j a b => by rw [x8]; exact g5.2 j a b)) (by omega) (Nat.le_of_ble_eq_true rfl) (fun o M1 q43 => ?_)
      obtain ⟨rfl, rfl⟩ := q43
      show gw _ _ _ _ _ (gi _ :: []) _ _
      refine gw_ri at147_46 am_r147.2.1 ?_
      exact Or.inr (Or.inl ⟨p1, p2, by omega, T1, c1, J1, kp, rfl, rfl⟩)
    · refine gw_const at147_13 (gw_ri at147_14 am_r147.2.1 ?_)
      exact Or.inl ⟨p1, p2, by omega, rfl, rfl⟩
  · refine gK_thr (am_h147 _ (by decide)) ?_
    exact Or.inr (Or.inr (Or.inl ⟨p1, p2, rfl, rfl⟩))
  · refine gK_thr (am_h147 _ (by decide)) ?_
    exact Or.inr (Or.inr (Or.inr ⟨p1, rfl, rfl⟩))
