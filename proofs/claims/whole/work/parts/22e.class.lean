/-! the class: plans are read -/
set_option maxHeartbeats 1000000 in
theorem c_x_planCost {g : Nat} {T : gT} {c J : gC} (hX : XT T) (hT : NT T 100014) (hc : RG c) (hN : NR c 100014) (hW : WT T 100034) (hwn : (T.1 100034).2.2 0 = 100014 + 1) {B : Int} (hR : WR c 100034 B) (hRT : RT T) (hS : SR c) {R Z : Nat} (hP : PT T R Z) (hAp : PR c) (hQ : PQ c R Z) (hD : -1 ≤ c 100014 3 ∧ c 100014 3 < 10) (hf : T.2.1 4 < 100000) (hf0 : (T.1 (4 * 100000 + T.2.1 4)).1 = 0) {z : Int} (hz : -2147483648 ≤ z ∧ z < 2147483648) : gE g 123 8 [.ref 500000, gi z] (gm T c J) (fun o M1 => ((1 ≤ z ∧ z ≤ 3) ∧ bcn (mskI (fun a => hA c 100014 a && decide (cl c 100014 a ≤ z)) 24) ≤ 12 ∧ ∃ (T1 : gT) (c1 J1 : gC) (R1 Z1 : Nat), slR T (rfr c) J R Z z T1 c1 J1 R1 Z1 ∧ o = .inl (some (gi (cso c1 z))) ∧ M1 = gm T1 c1 J1) ∨ ((1 ≤ z ∧ z ≤ 3) ∧ ¬ bcn (mskI (fun a => hA c 100014 a && decide (cl c 100014 a ≤ z)) 24) ≤ 12 ∧ o = .inr 0 ∧ M1 = gm (gTt T) c J) ∨ (¬ (1 ≤ z ∧ z ≤ 3) ∧ o = .inr 1 ∧ M1 = gm (gTt T) c J)) := by
  have hn1 := hN.1
  obtain ⟨f1, f2, f3⟩ := rfr_ok hc hS hN
  have f4 : NR (rfr c) 100014 := NF_NR (fun i a b j => f3 i (by omega) (by omega) (by omega) j) hN
  have f5 : WR (rfr c) 100034 B := WR_arg hR (fun k a b j => f3 k (by omega) (by omega) (by omega) j)
  have fn1 := f4.1
  have hk := (PT_k hP).1
  have f6 : PR (rfr c) := PR_cg (f3 100046 (by omega) (by omega) (by omega)) (f3 100048 (by omega) (by omega) (by omega)) hAp
  have f7 : PQ (rfr c) R Z := ⟨by rw [f3 100044 (by omega) (by omega) (by omega)]; exact hQ.1, fun i a b => by rw [f3 100049 (by omega) (by omega) (by omega), f3 100050 (by omega) (by omega) (by omega)]; exact hQ.2.1 i a b, fun i a b => by rw [f3 R (by omega) (by omega) (by omega)]; exact hQ.2.2 i a b⟩
  have f8 : -1 ≤ rfr c 100014 3 ∧ rfr c 100014 3 < 10 := by rw [f3 100014 (by omega) (by omega) (by omega)]; exact hD
  refine gE_mk am_r123 rfl (Or.inr ⟨_, rfl, (by first | exact XT_0 hX | exact XT_r4 hX | exact XT_r5 hX | exact XT_0 p7 | exact XT_r4 p7 | exact PT_0 p1 | exact NT_0 hT | exact WT_0 hW)⟩) (fun d hd => ?_)
  show gw d g 123 0 [.ref 500000, gi z] [] _ _
  refine gw_al0 at123_0 (gw_il1 at123_1 ?_)
  refine gw_call2 at123_2 (c_solved hX hT hc hN hW hwn hR hRT hS hP hAp hQ hD hf hf0 (by omega)) (by omega) (Nat.le_of_ble_eq_true rfl) (fun o M1 q2 => ?_)
  rcases q2 with ⟨s1, s2, T1, c1, J1, R1, Z1, s3, rfl, rfl⟩ | ⟨s1, s2, rfl, rfl⟩ | ⟨s1, rfl, rfl⟩
  · show gw _ _ _ _ _ (.ref 100044 :: _) _ _
    obtain ⟨p1, p2, p3, p4, p5, p6⟩ := slR_ok hP f1 f2 f6 f7 hf s3
    have p7 : XT T1 := by
      unfold XT at hX ⊢
      rw [p2 500000 (by omega) (by omega)]
      exact hX
    have p8 : RT T1 := by
      unfold RT at hRT ⊢
      rw [p2 100026 (by omega) (by omega), p2 100027 (by omega) (by omega), p2 100028 (by omega) (by omega), p2 100029 (by omega) (by omega)]
      exact hRT
    have p9 := szo_rg p4 z
    refine gw_il1 at123_5 (gw_callP2 at123_6 (c_costOf p1 p3 p4 (by omega)) (by omega) (Nat.le_of_ble_eq_true rfl) (gw_ri at123_9 am_r123.2.1 ?_))
    exact Or.inl ⟨s1, s2, T1, c1, J1, R1, Z1, s3, rfl, rfl⟩
  · refine gK_thr (am_h123 _ (by decide)) ?_
    exact Or.inr (Or.inl ⟨s1, s2, rfl, rfl⟩)
  · refine gK_thr (am_h123 _ (by decide)) ?_
    exact Or.inr (Or.inr ⟨s1, rfl, rfl⟩)
set_option maxHeartbeats 1000000 in
theorem c_x_driveTime {g : Nat} {T : gT} {c J : gC} (hX : XT T) (hT : NT T 100014) (hc : RG c) (hN : NR c 100014) (hW : WT T 100034) (hwn : (T.1 100034).2.2 0 = 100014 + 1) {B : Int} (hR : WR c 100034 B) {z : Int} (hz : -2147483648 ≤ z ∧ z < 2147483648) : gE g 145 8 [.ref 500000, gi z] (gm T c J) (fun o M1 => (hA c 100014 z = true ∧ bg c 100014 z = c 100034 2 ∧ o = .inl (some (gi (scn c 100014 100034 z))) ∧ M1 = gm T c J) ∨ (hA c 100014 z = true ∧ ¬ bg c 100014 z = c 100034 2 ∧ o = .inr 0 ∧ M1 = gm (gTt T) c J) ∨ (¬ hA c 100014 z = true ∧ o = .inr 2 ∧ M1 = gm (gTt T) c J)) := by
  refine gE_mk am_r145 rfl (Or.inr ⟨_, rfl, (by first | exact XT_0 hX | exact XT_r4 hX | exact XT_r5 hX | exact NT_0 hT | exact WT_0 hW | exact WT_r8 hW | exact WT_t8 hW | exact WT_l8 hW | exact WT_r9 hW | exact WT_t9 hW | exact WT_l9 hW | exact NT_r16 hT | exact NT_t16 hT | exact NT_l16 hT)⟩) (fun d hd => ?_)
  show gw d g 145 0 [.ref 500000, gi z] [] _ _
  refine gw_al0 at145_0 (gw_il1 at145_1 ?_)
  refine gw_call2 at145_2 (c_ckDriv hX hT hc hN hW (by omega)) (by omega) (Nat.le_of_ble_eq_true rfl) (fun o M1 q2 => ?_)
  rcases q2 with ⟨h1, h2, rfl, rfl⟩ | ⟨h1, h2, rfl, rfl⟩ | ⟨h1, rfl, rfl⟩
  · show gw _ _ _ _ _ [] _ _
    refine gw_al0 at145_5 (gw_gr at145_6 (by first | exact XT_0 hX | exact XT_r4 hX | exact XT_r5 hX | exact NT_0 hT | exact WT_0 hW | exact WT_r8 hW | exact WT_t8 hW | exact WT_l8 hW | exact WT_r9 hW | exact WT_t9 hW | exact WT_l9 hW | exact NT_r16 hT | exact NT_t16 hT | exact NT_l16 hT) (by first | exact XT_0 hX | exact XT_r4 hX | exact XT_r5 hX | exact NT_0 hT | exact WT_0 hW | exact WT_r8 hW | exact WT_t8 hW | exact WT_l8 hW | exact WT_r9 hW | exact WT_t9 hW | exact WT_l9 hW | exact NT_r16 hT | exact NT_t16 hT | exact NT_l16 hT) (gw_il1 at145_9 (gw_callP2 at145_10 (c_secondsFor hT hN hW hwn hc hR (by omega)) (by omega) (Nat.le_of_ble_eq_true rfl) (gw_ri at145_13 am_r145.2.1 ?_))))
    exact Or.inl ⟨h1, h2, rfl, rfl⟩
  · refine gK_thr (am_h145 _ (by decide)) ?_
    exact Or.inr (Or.inl ⟨h1, h2, rfl, rfl⟩)
  · refine gK_thr (am_h145 _ (by decide)) ?_
    exact Or.inr (Or.inr ⟨h1, rfl, rfl⟩)
set_option maxHeartbeats 1000000 in
theorem c_x_turn {g : Nat} {T : gT} {c J : gC} (hX : XT T) (hT : NT T 100014) (hc : RG c) (hN : NR c 100014) (hW : WT T 100034) (hwn : (T.1 100034).2.2 0 = 100014 + 1) {B : Int} (hR : WR c 100034 B) {z p : Int} (hz : -2147483648 ≤ z ∧ z < 2147483648) (hp : -2147483648 ≤ p ∧ p < 2147483648) : gE g 110 7 [.ref 500000, gi z, gi p] (gm T c J) (fun o M1 => ((hA c 100014 z = true ∧ hA c 100014 p = true) ∧ en c 100014 z = bg c 100014 p ∧ o = .inl (some (gi (tkd c 100014 z p))) ∧ M1 = gm T c J) ∨ ((hA c 100014 z = true ∧ hA c 100014 p = true) ∧ ¬ en c 100014 z = bg c 100014 p ∧ o = .inr 1 ∧ M1 = gm (gTt T) c J) ∨ (¬ (hA c 100014 z = true ∧ hA c 100014 p = true) ∧ o = .inr 2 ∧ M1 = gm (gTt T) c J)) := by
  have he := en_rg hN z
  have hb := bg_rg hN p
  refine gE_mk am_r110 rfl (Or.inr ⟨_, rfl, (by first | exact XT_0 hX | exact XT_r4 hX | exact XT_r5 hX | exact NT_0 hT | exact WT_0 hW | exact WT_r8 hW | exact WT_t8 hW | exact WT_l8 hW | exact WT_r9 hW | exact WT_t9 hW | exact WT_l9 hW | exact NT_r16 hT | exact NT_t16 hT | exact NT_l16 hT)⟩) (fun d hd => ?_)
  show gw d g 110 0 [.ref 500000, gi z, gi p] [] _ _
  refine gw_al0 at110_0 (gw_il1 at110_1 ?_)
  refine gw_call2 at110_2 (c_ckArc hX hT hc hN (by omega)) (by omega) (Nat.le_of_ble_eq_true rfl) (fun o M1 q2 => ?_)
  rcases q2 with ⟨hp2, rfl, rfl⟩ | ⟨hp2, rfl, rfl⟩
  · show gw _ _ _ _ _ [] _ _
    have hr2 := hA_rg hN hp2
    refine gw_al0 at110_5 (gw_il2 at110_6 ?_)
    refine gw_call2 at110_7 (c_ckArc hX hT hc hN (by omega)) (by omega) (Nat.le_of_ble_eq_true rfl) (fun o M1 q7 => ?_)
    rcases q7 with ⟨hp7, rfl, rfl⟩ | ⟨hp7, rfl, rfl⟩
    · show gw _ _ _ _ _ [] _ _
      have hr7 := hA_rg hN hp7
      refine gw_al0 at110_10 (gw_gr at110_11 (by first | exact XT_0 hX | exact XT_r4 hX | exact XT_r5 hX | exact NT_0 hT | exact WT_0 hW | exact WT_r8 hW | exact WT_t8 hW | exact WT_l8 hW | exact WT_r9 hW | exact WT_t9 hW | exact WT_l9 hW | exact NT_r16 hT | exact NT_t16 hT | exact NT_l16 hT) (by first | exact XT_0 hX | exact XT_r4 hX | exact XT_r5 hX | exact NT_0 hT | exact WT_0 hW | exact WT_r8 hW | exact WT_t8 hW | exact WT_l8 hW | exact WT_r9 hW | exact WT_t9 hW | exact WT_l9 hW | exact NT_r16 hT | exact NT_t16 hT | exact NT_l16 hT) (gw_il1 at110_14 (gw_callP2 at110_15 (c_endOf hT hc (by omega)) (by omega) (Nat.le_of_ble_eq_true rfl) (gw_al0 at110_18 (gw_gr at110_19 (by first | exact XT_0 hX | exact XT_r4 hX | exact XT_r5 hX | exact NT_0 hT | exact WT_0 hW | exact WT_r8 hW | exact WT_t8 hW | exact WT_l8 hW | exact WT_r9 hW | exact WT_t9 hW | exact WT_l9 hW | exact NT_r16 hT | exact NT_t16 hT | exact NT_l16 hT) (by first | exact XT_0 hX | exact XT_r4 hX | exact XT_r5 hX | exact NT_0 hT | exact WT_0 hW | exact WT_r8 hW | exact WT_t8 hW | exact WT_l8 hW | exact WT_r9 hW | exact WT_t9 hW | exact WT_l9 hW | exact NT_r16 hT | exact NT_t16 hT | exact NT_l16 hT) (gw_il2 at110_22 (gw_callP2 at110_23 (c_beginOf hT hc (by omega)) (by omega) (Nat.le_of_ble_eq_true rfl) ?_)))))))
      refine gw_ceq at110_26 (by first | omega | exact hc _ _) (by first | omega | exact hc _ _) (fun q26 => ?_) (fun q26 => ?_)
      · refine gw_al0 at110_37 (gw_gr at110_38 (by first | exact XT_0 hX | exact XT_r4 hX | exact XT_r5 hX | exact NT_0 hT | exact WT_0 hW | exact WT_r8 hW | exact WT_t8 hW | exact WT_l8 hW | exact WT_r9 hW | exact WT_t9 hW | exact WT_l9 hW | exact NT_r16 hT | exact NT_t16 hT | exact NT_l16 hT) (by first | exact XT_0 hX | exact XT_r4 hX | exact XT_r5 hX | exact NT_0 hT | exact WT_0 hW | exact WT_r8 hW | exact WT_t8 hW | exact WT_l8 hW | exact WT_r9 hW | exact WT_t9 hW | exact WT_l9 hW | exact NT_r16 hT | exact NT_t16 hT | exact NT_l16 hT) (gw_il1 at110_41 (gw_il2 at110_42 (gw_callP3 at110_43 (c_turnKind hT hc hN (by omega) (by omega)) (by omega) (Nat.le_of_ble_eq_true rfl) (gw_ri at110_46 am_r110.2.1 ?_)))))
        exact Or.inl ⟨⟨hp2, hp7⟩, by omega, rfl, rfl⟩
      · refine gw_thr at110_29 (by omega) (Nat.le_of_ble_eq_true rfl) ?_
        exact Or.inr (Or.inl ⟨⟨hp2, hp7⟩, by omega, rfl, rfl⟩)
    · refine gK_thr (am_h110 _ (by decide)) ?_
      exact Or.inr (Or.inr ⟨fun h => hp7 h.2, rfl, rfl⟩)
  · refine gK_thr (am_h110 _ (by decide)) ?_
    exact Or.inr (Or.inr ⟨fun h => hp2 h.1, rfl, rfl⟩)
