/-! the class: critical roads, turns of plans, untouched arcs -/
theorem NT_cg {T T' : gT} (e : ∀ k : Nat, 100014 ≤ k ∧ k ≤ 100043 → T'.1 k = T.1 k) (h : NT T 100014) : NT T' 100014 := by
  unfold NT at h ⊢
  simp only [e _ (show 100014 ≤ 100014 ∧ 100014 ≤ 100043 by omega), e _ (show 100014 ≤ 100014 + 1 ∧ 100014 + 1 ≤ 100043 by omega), e _ (show 100014 ≤ 100014 + 2 ∧ 100014 + 2 ≤ 100043 by omega), e _ (show 100014 ≤ 100014 + 3 ∧ 100014 + 3 ≤ 100043 by omega), e _ (show 100014 ≤ 100014 + 4 ∧ 100014 + 4 ≤ 100043 by omega), e _ (show 100014 ≤ 100014 + 5 ∧ 100014 + 5 ≤ 100043 by omega), e _ (show 100014 ≤ 100014 + 6 ∧ 100014 + 6 ≤ 100043 by omega), e _ (show 100014 ≤ 100014 + 7 ∧ 100014 + 7 ≤ 100043 by omega), e _ (show 100014 ≤ 100014 + 8 ∧ 100014 + 8 ≤ 100043 by omega), e _ (show 100014 ≤ 100014 + 9 ∧ 100014 + 9 ≤ 100043 by omega), e _ (show 100014 ≤ 100014 + 10 ∧ 100014 + 10 ≤ 100043 by omega), e _ (show 100014 ≤ 100014 + 11 ∧ 100014 + 11 ≤ 100043 by omega)]
  exact h
def utf (c : gC) (i s : Int) : Int := if 0 < c (100034 + 2) i then clr s i else s
theorem utf_rg {c : gC} {s : Int} (h : -2147483648 ≤ s ∧ s < 2147483648) (i : Int) : -2147483648 ≤ itI (utf c) s i ∧ itI (utf c) s i < 2147483648 := by
  refine itI_inv (fun s : Int => -2147483648 ≤ s ∧ s < 2147483648) h (fun j s hs => ?_) i
  unfold utf clr
  split
  · exact zrg _
  · exact hs
set_option maxHeartbeats 1000000 in
theorem c_x_critical {g : Nat} {T : gT} {c J : gC} (hX : XT T) (hT : NT T 100014) (hc : RG c) (hN : NR c 100014) (hW : WT T 100034) (hwn : (T.1 100034).2.2 0 = 100014 + 1) {B : Int} (hR : WR c 100034 B) {z : Int} (hz : -2147483648 ≤ z ∧ z < 2147483648) : gE g 121 6 [.ref 500000, gi z] (gm T c J) (fun o M1 => ((0 ≤ z ∧ z < c 100014 2) ∧ o = .inl (some (gi (bi (con c 100014 (-1) && !con c 100014 z)))) ∧ M1 = gm T c J) ∨ (¬ (0 ≤ z ∧ z < c 100014 2) ∧ o = .inr 2 ∧ M1 = gm (gTt T) c J)) := by
  have hn2 := hN.2.1
  refine gE_mk am_r121 rfl (Or.inr ⟨_, rfl, (by first | exact XT_0 hX | exact XT_r4 hX | exact XT_r5 hX | exact NT_0 hT | exact WT_0 hW | exact WT_r8 hW | exact WT_t8 hW | exact WT_l8 hW | exact WT_r9 hW | exact WT_t9 hW | exact WT_l9 hW | exact NT_r16 hT | exact NT_t16 hT | exact NT_l16 hT)⟩) (fun d hd => ?_)
  show gw d g 121 0 [.ref 500000, gi z] [] _ _
  refine gw_il1 at121_0 ?_
  refine gw_zlt at121_1 (by first | omega | exact hc _ _) (fun q1 => ?_) (fun q1 => ?_)
  · refine gw_thr at121_15 (by omega) (Nat.le_of_ble_eq_true rfl) ?_
    exact Or.inr ⟨by omega, rfl, rfl⟩
  · refine gw_il1 at121_4 (gw_al0 at121_5 (gw_gr at121_6 (by first | exact XT_0 hX | exact XT_r4 hX | exact XT_r5 hX | exact NT_0 hT | exact WT_0 hW | exact WT_r8 hW | exact WT_t8 hW | exact WT_l8 hW | exact WT_r9 hW | exact WT_t9 hW | exact WT_l9 hW | exact NT_r16 hT | exact NT_t16 hT | exact NT_l16 hT) (by first | exact XT_0 hX | exact XT_r4 hX | exact XT_r5 hX | exact NT_0 hT | exact WT_0 hW | exact WT_r8 hW | exact WT_t8 hW | exact WT_l8 hW | exact WT_r9 hW | exact WT_t9 hW | exact WT_l9 hW | exact NT_r16 hT | exact NT_t16 hT | exact NT_l16 hT) (gw_gf (j := 2) at121_9 (by first | exact XT_0 hX | exact XT_r4 hX | exact XT_r5 hX | exact NT_0 hT | exact WT_0 hW | exact WT_r8 hW | exact WT_t8 hW | exact WT_l8 hW | exact WT_r9 hW | exact WT_t9 hW | exact WT_l9 hW | exact NT_r16 hT | exact NT_t16 hT | exact NT_l16 hT) rfl ?_)))
    refine gw_clt at121_12 (by first | omega | exact hc _ _) (by first | omega | exact hc _ _) (fun q12 => ?_) (fun q12 => ?_)
    · refine gw_al0 at121_23 (gw_gr at121_24 (by first | exact XT_0 hX | exact XT_r4 hX | exact XT_r5 hX | exact NT_0 hT | exact WT_0 hW | exact WT_r8 hW | exact WT_t8 hW | exact WT_l8 hW | exact WT_r9 hW | exact WT_t9 hW | exact WT_l9 hW | exact NT_r16 hT | exact NT_t16 hT | exact NT_l16 hT) (by first | exact XT_0 hX | exact XT_r4 hX | exact XT_r5 hX | exact NT_0 hT | exact WT_0 hW | exact WT_r8 hW | exact WT_t8 hW | exact WT_l8 hW | exact WT_r9 hW | exact WT_t9 hW | exact WT_l9 hW | exact NT_r16 hT | exact NT_t16 hT | exact NT_l16 hT) (gw_const at121_27 (gw_callP2 at121_28 (c_isConnected hT hc hN (by omega)) (by omega) (Nat.le_of_ble_eq_true rfl) ?_)))
      refine gw_beq at121_31 (fun q31 => ?_) (fun q31 => ?_)
      · refine gw_const at121_49 (gw_r0 at121_50 am_r121.2.1 ?_)
        first | exact Or.inl ⟨by omega, by rw [q31, q42]; rfl, rfl⟩ | exact Or.inl ⟨by omega, by rw [q31]; rfl, rfl⟩
      · refine gw_al0 at121_34 (gw_gr at121_35 (by first | exact XT_0 hX | exact XT_r4 hX | exact XT_r5 hX | exact NT_0 hT | exact WT_0 hW | exact WT_r8 hW | exact WT_t8 hW | exact WT_l8 hW | exact WT_r9 hW | exact WT_t9 hW | exact WT_l9 hW | exact NT_r16 hT | exact NT_t16 hT | exact NT_l16 hT) (by first | exact XT_0 hX | exact XT_r4 hX | exact XT_r5 hX | exact NT_0 hT | exact WT_0 hW | exact WT_r8 hW | exact WT_t8 hW | exact WT_l8 hW | exact WT_r9 hW | exact WT_t9 hW | exact WT_l9 hW | exact NT_r16 hT | exact NT_t16 hT | exact NT_l16 hT) (gw_il1 at121_38 (gw_callP2 at121_39 (c_isConnected hT hc hN (by omega)) (by omega) (Nat.le_of_ble_eq_true rfl) ?_)))
        refine gw_bne at121_42 (fun q42 => ?_) (fun q42 => ?_)
        · refine gw_const at121_49 (gw_r0 at121_50 am_r121.2.1 ?_)
          first | exact Or.inl ⟨by omega, by rw [q31, q42]; rfl, rfl⟩ | exact Or.inl ⟨by omega, by rw [q31]; rfl, rfl⟩
        · refine gw_const at121_45 (gw_goto at121_46 (gw_r1 at121_50 am_r121.2.1 ?_))
          first | exact Or.inl ⟨by omega, by rw [q31, q42]; rfl, rfl⟩ | exact Or.inl ⟨by omega, by rw [q31]; rfl, rfl⟩
    · refine gw_thr at121_15 (by omega) (Nat.le_of_ble_eq_true rfl) ?_
      exact Or.inr ⟨by omega, rfl, rfl⟩
set_option maxHeartbeats 1000000 in
theorem c_x_planTurns {g : Nat} {T : gT} {c J : gC} (hX : XT T) (hT : NT T 100014) (hc : RG c) (hN : NR c 100014) (hW : WT T 100034) (hwn : (T.1 100034).2.2 0 = 100014 + 1) {B : Int} (hR : WR c 100034 B) (hRT : RT T) (hS : SR c) {R Z : Nat} (hP : PT T R Z) (hAp : PR c) (hQ : PQ c R Z) (hD : -1 ≤ c 100014 3 ∧ c 100014 3 < 10) (hf : T.2.1 4 < 100000) (hf0 : (T.1 (4 * 100000 + T.2.1 4)).1 = 0) {z : Int} (hz : -2147483648 ≤ z ∧ z < 2147483648) {k : Int} (hk9 : -2147483648 ≤ k ∧ k < 2147483648) : gE g 127 8 [.ref 500000, gi z, gi k] (gm T c J) (fun o M1 => ((0 ≤ k ∧ k < 4) ∧ (((1 ≤ z ∧ z ≤ 3) ∧ bcn (mskI (fun a => hA c 100014 a && decide (cl c 100014 a ≤ z)) 24) ≤ 12 ∧ ∃ (T1 : gT) (c1 J1 : gC) (R1 Z1 : Nat), slR T (rfr c) J R Z z T1 c1 J1 R1 Z1 ∧ o = .inl (some (gi (if cso c1 z = -1 then -1 else trn c1 z k))) ∧ M1 = gm T1 c1 J1) ∨ ((1 ≤ z ∧ z ≤ 3) ∧ ¬ bcn (mskI (fun a => hA c 100014 a && decide (cl c 100014 a ≤ z)) 24) ≤ 12 ∧ o = .inr 0 ∧ M1 = gm (gTt T) c J) ∨ (¬ (1 ≤ z ∧ z ≤ 3) ∧ o = .inr 1 ∧ M1 = gm (gTt T) c J))) ∨ (¬ (0 ≤ k ∧ k < 4) ∧ o = .inr 1 ∧ M1 = gm (gTt T) c J)) := by
  have hn1 := hN.1
  obtain ⟨f1, f2, f3⟩ := rfr_ok hc hS hN
  have f4 : NR (rfr c) 100014 := NF_NR (fun i a b j => f3 i (by omega) (by omega) (by omega) j) hN
  have f5 : WR (rfr c) 100034 B := WR_arg hR (fun k a b j => f3 k (by omega) (by omega) (by omega) j)
  have fn1 := f4.1
  have hk := (PT_k hP).1
  have f6 : PR (rfr c) := PR_cg (f3 100046 (by omega) (by omega) (by omega)) (f3 100048 (by omega) (by omega) (by omega)) hAp
  have f7 : PQ (rfr c) R Z := ⟨by rw [f3 100044 (by omega) (by omega) (by omega)]; exact hQ.1, fun i a b => by rw [f3 100049 (by omega) (by omega) (by omega), f3 100050 (by omega) (by omega) (by omega)]; exact hQ.2.1 i a b, fun i a b => by rw [f3 R (by omega) (by omega) (by omega)]; exact hQ.2.2 i a b⟩
  have f8 : -1 ≤ rfr c 100014 3 ∧ rfr c 100014 3 < 10 := by rw [f3 100014 (by omega) (by omega) (by omega)]; exact hD
  refine gE_mk am_r127 rfl (Or.inr ⟨_, rfl, (by first | exact XT_0 hX | exact XT_r4 hX | exact XT_r5 hX | exact XT_0 p7 | exact XT_r4 p7 | exact PT_0 p1 | exact NT_0 hT | exact WT_0 hW)⟩) (fun d hd => ?_)
  show gw d g 127 0 [.ref 500000, gi z, gi k, am_U] [] _ _
  refine gw_il2 at127_0 ?_
  refine gw_call1 at127_1 (c_ckKind (by omega)) (by omega) (Nat.le_of_ble_eq_true rfl) (fun o M1 q1 => ?_)
  rcases q1 with ⟨hp1, rfl, rfl⟩ | ⟨hp1, rfl, rfl⟩
  · show gw _ _ _ _ _ [] _ _
    refine gw_al0 at127_4 (gw_il1 at127_5 ?_)
    refine gw_call2 at127_6 (c_solved hX hT hc hN hW hwn hR hRT hS hP hAp hQ hD hf hf0 (by omega)) (by omega) (Nat.le_of_ble_eq_true rfl) (fun o M1 q6 => ?_)
    rcases q6 with ⟨s1, s2, T1, c1, J1, R1, Z1, s3, rfl, rfl⟩ | ⟨s1, s2, rfl, rfl⟩ | ⟨s1, rfl, rfl⟩
    · show gw _ _ _ _ _ (.ref 100044 :: _) _ _
      obtain ⟨p1, p2, p3, p4, p5, p6⟩ := slR_ok hP f1 f2 f6 f7 hf s3
      have p7 : XT T1 := by
        unfold XT at hX ⊢
        rw [p2 500000 (by omega) (by omega)]
        exact hX
      have p8 : RT T1 := by
        unfold RT at hRT ⊢
        rw [p2 100026 (by omega) (by omega), p2 100027 (by omega) (by omega), p2 100028 (by omega) (by omega), p2 100029 (by omega) (by omega)]
        exact hRT
      have p9 := szo_rg p4 z
      refine gw_as3 at127_9 (h := (gw_al3 at127_10 (gw_il1 at127_11 (gw_callP2 at127_12 (c_costOf p1 p3 p4 (by omega)) (by omega) (Nat.le_of_ble_eq_true rfl) (gw_const at127_15 ?_)))))
      refine gw_cne at127_16 (by first | omega | (unfold cso; split; exact p3 _ _; omega) | exact p3 _ _) (by first | omega | (unfold cso; split; exact p3 _ _; omega) | exact p3 _ _) (fun q16 => ?_) (fun q16 => ?_)
      · refine gw_al3 at127_21 (gw_il1 at127_22 (gw_il2 at127_23 (gw_callP3 at127_24 (c_turnsOf p1 p8 p3 (SR_cg (p6 100027 (by omega) (by omega)) (p6 100028 (by omega) (by omega)) f2) p4 (NT_cg (fun k hk => p2 k (by omega) (by omega)) hT) (NF_NR (fun i a b j => p6 i (by omega) (by omega) j) f4) (by rw [p6 100014 (by omega) (by omega)]; exact f8) (by omega) (by omega)) (by omega) (Nat.le_of_ble_eq_true rfl) (gw_ri at127_27 am_r127.2.1 ?_))))
        first | (refine Or.inl ⟨hp1, Or.inl ⟨s1, s2, T1, c1, J1, R1, Z1, s3, ?_, rfl⟩⟩; rw [if_pos (by assumption)]; done) | (refine Or.inl ⟨hp1, Or.inl ⟨s1, s2, T1, c1, J1, R1, Z1, s3, ?_, rfl⟩⟩; rw [if_neg (by assumption)]; done)
      · refine gw_const at127_19 (gw_ri at127_20 am_r127.2.1 ?_)
        first | (refine Or.inl ⟨hp1, Or.inl ⟨s1, s2, T1, c1, J1, R1, Z1, s3, ?_, rfl⟩⟩; rw [if_pos (by assumption)]; done) | (refine Or.inl ⟨hp1, Or.inl ⟨s1, s2, T1, c1, J1, R1, Z1, s3, ?_, rfl⟩⟩; rw [if_neg (by assumption)]; done)
    · refine gK_thr (am_h127 _ (by decide)) ?_
      exact Or.inl ⟨hp1, Or.inr (Or.inl ⟨s1, s2, rfl, rfl⟩)⟩
    · refine gK_thr (am_h127 _ (by decide)) ?_
      exact Or.inl ⟨hp1, Or.inr (Or.inr ⟨s1, rfl, rfl⟩)⟩
  · refine gK_thr (am_h127 _ (by decide)) ?_
    exact Or.inr ⟨hp1, rfl, rfl⟩
set_option maxHeartbeats 1000000 in
theorem c_x_untouched {g : Nat} {T : gT} {c J : gC} (hX : XT T) (hT : NT T 100014) (hc : RG c) (hN : NR c 100014) (hW : WT T 100034) (hwn : (T.1 100034).2.2 0 = 100014 + 1) {B : Int} (hR : WR c 100034 B) {z : Int} (hz : -2147483648 ≤ z ∧ z < 2147483648) : gE g 156 7 [.ref 500000, gi z] (gm T c J) (gI (1 ≤ z ∧ z ≤ 3) 1 (itI (utf c) (mskI (fun a => hA c 100014 a && decide (cl c 100014 a ≤ z)) 24) 24) T c J) := by
  refine gE_mk am_r156 rfl (Or.inr ⟨_, rfl, (by first | exact XT_0 hX | exact XT_r4 hX | exact XT_r5 hX | exact NT_0 hT | exact WT_0 hW | exact WT_r8 hW | exact WT_t8 hW | exact WT_l8 hW | exact WT_r9 hW | exact WT_t9 hW | exact WT_l9 hW | exact NT_r16 hT | exact NT_t16 hT | exact NT_l16 hT)⟩) (fun d hd => ?_)
  show gw d g 156 0 [.ref 500000, gi z, am_U, am_U] [] _ _
  refine gw_il1 at156_0 ?_
  refine gw_call1 at156_1 (c_ckClass (by omega)) (by omega) (Nat.le_of_ble_eq_true rfl) (fun o M1 q1 => ?_)
  rcases q1 with ⟨hp1, rfl, rfl⟩ | ⟨hp1, rfl, rfl⟩
  · show gw _ _ _ _ _ [] _ _
    refine gw_al0 at156_4 (gw_gr at156_5 (by first | exact XT_0 hX | exact XT_r4 hX | exact XT_r5 hX | exact NT_0 hT | exact WT_0 hW | exact WT_r8 hW | exact WT_t8 hW | exact WT_l8 hW | exact WT_r9 hW | exact WT_t9 hW | exact WT_l9 hW | exact NT_r16 hT | exact NT_t16 hT | exact NT_l16 hT) (by first | exact XT_0 hX | exact XT_r4 hX | exact XT_r5 hX | exact NT_0 hT | exact WT_0 hW | exact WT_r8 hW | exact WT_t8 hW | exact WT_l8 hW | exact WT_r9 hW | exact WT_t9 hW | exact WT_l9 hW | exact NT_r16 hT | exact NT_t16 hT | exact NT_l16 hT) (gw_il1 at156_8 (gw_callP2 at156_9 (c_arcsUpTo hT hc hN (by omega)) (by omega) (Nat.le_of_ble_eq_true rfl) (gw_is2 at156_12 (h := (gw_const at156_13 (gw_is3 at156_14 (h := ?_))))))))
    have lp15 : ∀ i : Int, 0 ≤ i → i ≤ 24 → ∀ s : Int, s = itI (utf c) (mskI (fun a => hA c 100014 a && decide (cl c 100014 a ≤ z)) 24) i → gw d g 156 15 [.ref 500000, gi z, gi s, gi i] [] (gm T c J) (gI (1 ≤ z ∧ z ≤ 3) 1 (itI (utf c) (mskI (fun a => hA c 100014 a && decide (cl c 100014 a ≤ z)) 24) 24) T c J) := by
      refine ind_up 24 ?_
      intro i hi0 hi1 ih s hs
      have hs2 : -2147483648 ≤ s ∧ s < 2147483648 := by rw [hs]; exact utf_rg (mskI_rg _ _) i
      refine gw_il3 at156_15 ?_
      refine gw_bip at156_16 (by decide) ?_
      refine gw_cge at156_18 (by first | omega | exact hc _ _ | exact zrg _) (by first | omega | exact hc _ _ | exact zrg _) (fun q18 => ?_) (fun q18 => ?_)
      · refine gw_il2 at156_47 (gw_ri at156_48 am_r156.2.1 ?_)
        refine Or.inl ⟨hp1, ?_, rfl⟩
        rw [hs, show i = 24 by omega]
      · refine gw_al0 at156_21 (gw_gr at156_22 (by first | exact XT_0 hX | exact XT_r4 hX | exact XT_r5 hX | exact NT_0 hT | exact WT_0 hW | exact WT_r8 hW | exact WT_t8 hW | exact WT_l8 hW | exact WT_r9 hW | exact WT_t9 hW | exact WT_l9 hW | exact NT_r16 hT | exact NT_t16 hT | exact NT_l16 hT) (by first | exact XT_0 hX | exact XT_r4 hX | exact XT_r5 hX | exact NT_0 hT | exact WT_0 hW | exact WT_r8 hW | exact WT_t8 hW | exact WT_l8 hW | exact WT_r9 hW | exact WT_t9 hW | exact WT_l9 hW | exact NT_r16 hT | exact NT_t16 hT | exact NT_l16 hT) (gw_gr at156_25 (by first | exact XT_0 hX | exact XT_r4 hX | exact XT_r5 hX | exact NT_0 hT | exact WT_0 hW | exact WT_r8 hW | exact WT_t8 hW | exact WT_l8 hW | exact WT_r9 hW | exact WT_t9 hW | exact WT_l9 hW | exact NT_r16 hT | exact NT_t16 hT | exact NT_l16 hT) (by first | exact XT_0 hX | exact XT_r4 hX | exact XT_r5 hX | exact NT_0 hT | exact WT_0 hW | exact WT_r8 hW | exact WT_t8 hW | exact WT_l8 hW | exact WT_r9 hW | exact WT_t9 hW | exact WT_l9 hW | exact NT_r16 hT | exact NT_t16 hT | exact NT_l16 hT) (gw_il3 at156_28 (gw_ia at156_29 (by first | exact Or.inl (by first | exact XT_0 hX | exact XT_r4 hX | exact XT_r5 hX | exact NT_0 hT | exact WT_0 hW | exact WT_r8 hW | exact WT_t8 hW | exact WT_l8 hW | exact WT_r9 hW | exact WT_t9 hW | exact WT_l9 hW | exact NT_r16 hT | exact NT_t16 hT | exact NT_l16 hT) | exact Or.inr (by first | exact XT_0 hX | exact XT_r4 hX | exact XT_r5 hX | exact NT_0 hT | exact WT_0 hW | exact WT_r8 hW | exact WT_t8 hW | exact WT_l8 hW | exact WT_r9 hW | exact WT_t9 hW | exact WT_l9 hW | exact NT_r16 hT | exact NT_t16 hT | exact NT_l16 hT)) (by first | exact XT_0 hX | exact XT_r4 hX | exact XT_r5 hX | exact NT_0 hT | exact WT_0 hW | exact WT_r8 hW | exact WT_t8 hW | exact WT_l8 hW | exact WT_r9 hW | exact WT_t9 hW | exact WT_l9 hW | exact NT_r16 hT | exact NT_t16 hT | exact NT_l16 hT) (by first | omega | exact hc _ _ | exact zrg _) (by first | omega | exact hc _ _ | exact zrg _) (by omega) ?_))))
        refine gw_zle at156_30 (by first | omega | exact hc _ _ | exact zrg _) (fun q30 => ?_) (fun q30 => ?_)
        · refine gw_inc3 at156_41 (h := (gw_goto at156_44 ?_))
          refine ih (i + 1) (by omega) (by omega) _ ?_
          rw [itI_s _ _ hi0, ← hs]
          unfold utf clr
          first | (rw [if_pos (by omega)]; done) | (rw [if_neg (by omega)]; done)
        · refine gw_il2 at156_33 (gw_const at156_34 (gw_il3 at156_35 (gw_ishl at156_36 (gw_const at156_37 (gw_ixor at156_38 (gw_iand at156_39 (gw_is2 at156_40 (h := (gw_inc3 at156_41 (h := (gw_goto at156_44 ?_)))))))))))
          refine ih (i + 1) (by omega) (by omega) _ ?_
          rw [itI_s _ _ hi0, ← hs]
          unfold utf clr
          first | (rw [if_pos (by omega)]; done) | (rw [if_neg (by omega)]; done)
    exact lp15 0 (by omega) (by omega) _ rfl
  · refine gK_thr (am_h156 _ (by decide)) ?_
    exact Or.inr ⟨hp1, rfl, rfl⟩
