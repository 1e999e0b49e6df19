/-! the class: arcs of plans, overhead, bytes appended -/
def pvf (c : gC) (s i a : Int) : Int := if tb s i = true then a - ln c 100014 i else a
def ap5 (c : gC) (a1 a2 a3 a4 a5 : Int) : gC := pin (pin (pin (pin (pin c 100000 a1) 100000 a2) 100000 a3) 100000 a4) 100000 a5
set_option maxHeartbeats 1000000 in
theorem c_x_planArc {g : Nat} {T : gT} {c J : gC} (hX : XT T) (hT : NT T 100014) (hc : RG c) (hN : NR c 100014) (hW : WT T 100034) (hwn : (T.1 100034).2.2 0 = 100014 + 1) {B : Int} (hR : WR c 100034 B) (hRT : RT T) (hS : SR c) {R Z : Nat} (hP : PT T R Z) (hAp : PR c) (hQ : PQ c R Z) (hD : -1 ≤ c 100014 3 ∧ c 100014 3 < 10) (hf : T.2.1 4 < 100000) (hf0 : (T.1 (4 * 100000 + T.2.1 4)).1 = 0) {z : Int} (hz : -2147483648 ≤ z ∧ z < 2147483648) {i : Int} (hi : -2147483648 ≤ i ∧ i < 2147483648) : gE g 124 8 [.ref 500000, gi z, gi i] (gm T c J) (fun o M1 => ((1 ≤ z ∧ z ≤ 3) ∧ bcn (mskI (fun a => hA c 100014 a && decide (cl c 100014 a ≤ z)) 24) ≤ 12 ∧ ∃ (T1 : gT) (c1 J1 : gC) (R1 Z1 : Nat), slR T (rfr c) J R Z z T1 c1 J1 R1 Z1 ∧ ((0 ≤ i ∧ i < szo c1 z ∧ o = .inl (some (gi (paa c1 z i))) ∧ M1 = gm T1 c1 J1) ∨ (¬ (0 ≤ i ∧ i < szo c1 z) ∧ o = .inr 3 ∧ M1 = gm (gTt T1) c1 J1))) ∨ ((1 ≤ z ∧ z ≤ 3) ∧ ¬ bcn (mskI (fun a => hA c 100014 a && decide (cl c 100014 a ≤ z)) 24) ≤ 12 ∧ o = .inr 0 ∧ M1 = gm (gTt T) c J) ∨ (¬ (1 ≤ z ∧ z ≤ 3) ∧ o = .inr 1 ∧ M1 = gm (gTt T) c J)) := by
  have hn1 := hN.1
  obtain ⟨f1, f2, f3⟩ := rfr_ok hc hS hN
  have f4 : NR (rfr c) 100014 := NF_NR (fun i a b j => f3 i (by omega) (by omega) (by omega) j) hN
  have f5 : WR (rfr c) 100034 B := WR_arg hR (fun k a b j => f3 k (by omega) (by omega) (by omega) j)
  have fn1 := f4.1
  have hk := (PT_k hP).1
  have f6 : PR (rfr c) := PR_cg (f3 100046 (by omega) (by omega) (by omega)) (f3 100048 (by omega) (by omega) (by omega)) hAp
  have f7 : PQ (rfr c) R Z := ⟨by rw [f3 100044 (by omega) (by omega) (by omega)]; exact hQ.1, fun i a b => by rw [f3 100049 (by omega) (by omega) (by omega), f3 100050 (by omega) (by omega) (by omega)]; exact hQ.2.1 i a b, fun i a b => by rw [f3 R (by omega) (by omega) (by omega)]; exact hQ.2.2 i a b⟩
  have f8 : -1 ≤ rfr c 100014 3 ∧ rfr c 100014 3 < 10 := by rw [f3 100014 (by omega) (by omega) (by omega)]; exact hD
  refine gE_mk am_r124 rfl (Or.inr ⟨_, rfl, (by first | exact XT_0 hX | exact XT_r4 hX | exact XT_r5 hX | exact XT_0 p7 | exact XT_r4 p7 | exact PT_0 p1 | exact NT_0 hT | exact WT_0 hW)⟩) (fun d hd => ?_)
  show gw d g 124 0 [.ref 500000, gi z, gi i, am_U] [] _ _
  refine gw_al0 at124_0 (gw_il1 at124_1 ?_)
  refine gw_call2 at124_2 (c_solved hX hT hc hN hW hwn hR hRT hS hP hAp hQ hD hf hf0 (by omega)) (by omega) (Nat.le_of_ble_eq_true rfl) (fun o M1 q2 => ?_)
  rcases q2 with ⟨s1, s2, T1, c1, J1, R1, Z1, s3, rfl, rfl⟩ | ⟨s1, s2, rfl, rfl⟩ | ⟨s1, rfl, rfl⟩
  · show gw _ _ _ _ _ (.ref 100044 :: _) _ _
    obtain ⟨p1, p2, p3, p4, p5, p6⟩ := slR_ok hP f1 f2 f6 f7 hf s3
    have p7 : XT T1 := by
      unfold XT at hX ⊢
      rw [p2 500000 (by omega) (by omega)]
      exact hX
    have p8 : RT T1 := by
      unfold RT at hRT ⊢
      rw [p2 100026 (by omega) (by omega), p2 100027 (by omega) (by omega), p2 100028 (by omega) (by omega), p2 100029 (by omega) (by omega)]
      exact hRT
    have p9 := szo_rg p4 z
    refine gw_as3 at124_5 (h := (gw_il2 at124_6 ?_))
    refine gw_zlt at124_7 (by first | omega | exact hc _ _ | exact bi_rg _ | exact zrg _) (fun q7 => ?_) (fun q7 => ?_)
    · refine gw_thr at124_19 (by omega) (Nat.le_of_ble_eq_true rfl) ?_
      exact Or.inl ⟨s1, s2, T1, c1, J1, R1, Z1, s3, Or.inr ⟨by omega, rfl, rfl⟩⟩
    · refine gw_il2 at124_10 (gw_al3 at124_11 (gw_il1 at124_12 (gw_callP2 at124_13 (c_sizeOf p1 p3 p4 (by omega)) (by omega) (Nat.le_of_ble_eq_true rfl) ?_)))
      refine gw_clt at124_16 (by first | omega | exact hc _ _ | exact bi_rg _ | exact zrg _) (by first | omega | exact hc _ _ | exact bi_rg _ | exact zrg _) (fun q16 => ?_) (fun q16 => ?_)
      · refine gw_al3 at124_27 (gw_il1 at124_28 (gw_il2 at124_29 (gw_callP3 at124_30 (c_arcAt p1 p3 p4 (by omega) (by omega)) (by omega) (Nat.le_of_ble_eq_true rfl) (gw_ri at124_33 am_r124.2.1 ?_))))
        exact Or.inl ⟨s1, s2, T1, c1, J1, R1, Z1, s3, Or.inl ⟨by omega, by omega, rfl, rfl⟩⟩
      · refine gw_thr at124_19 (by omega) (Nat.le_of_ble_eq_true rfl) ?_
        exact Or.inl ⟨s1, s2, T1, c1, J1, R1, Z1, s3, Or.inr ⟨by omega, rfl, rfl⟩⟩
  · refine gK_thr (am_h124 _ (by decide)) ?_
    exact Or.inr (Or.inl ⟨s1, s2, rfl, rfl⟩)
  · refine gK_thr (am_h124 _ (by decide)) ?_
    exact Or.inr (Or.inr ⟨s1, rfl, rfl⟩)
set_option maxHeartbeats 1000000 in
theorem c_x_overhead {g : Nat} {T : gT} {c J : gC} (hX : XT T) (hT : NT T 100014) (hc : RG c) (hN : NR c 100014) (hW : WT T 100034) (hwn : (T.1 100034).2.2 0 = 100014 + 1) {B : Int} (hR : WR c 100034 B) (hRT : RT T) (hS : SR c) {R Z : Nat} (hP : PT T R Z) (hAp : PR c) (hQ : PQ c R Z) (hD : -1 ≤ c 100014 3 ∧ c 100014 3 < 10) (hf : T.2.1 4 < 100000) (hf0 : (T.1 (4 * 100000 + T.2.1 4)).1 = 0) {z : Int} (hz : -2147483648 ≤ z ∧ z < 2147483648) : gE g 126 8 [.ref 500000, gi z] (gm T c J) (fun o M1 => ((1 ≤ z ∧ z ≤ 3) ∧ bcn (mskI (fun a => hA c 100014 a && decide (cl c 100014 a ≤ z)) 24) ≤ 12 ∧ ∃ (T1 : gT) (c1 J1 : gC) (R1 Z1 : Nat), slR T (rfr c) J R Z z T1 c1 J1 R1 Z1 ∧ o = .inl (some (gi (if cso c1 z = -1 then -1 else itI (pvf c1 (mskI (fun a => hA c1 100014 a && decide (cl c1 100014 a ≤ z)) 24)) (cso c1 z) 24))) ∧ M1 = gm T1 c1 J1) ∨ ((1 ≤ z ∧ z ≤ 3) ∧ ¬ bcn (mskI (fun a => hA c 100014 a && decide (cl c 100014 a ≤ z)) 24) ≤ 12 ∧ o = .inr 0 ∧ M1 = gm (gTt T) c J) ∨ (¬ (1 ≤ z ∧ z ≤ 3) ∧ o = .inr 1 ∧ M1 = gm (gTt T) c J)) := by
  have hn1 := hN.1
  obtain ⟨f1, f2, f3⟩ := rfr_ok hc hS hN
  have f4 : NR (rfr c) 100014 := NF_NR (fun i a b j => f3 i (by omega) (by omega) (by omega) j) hN
  have f5 : WR (rfr c) 100034 B := WR_arg hR (fun k a b j => f3 k (by omega) (by omega) (by omega) j)
  have fn1 := f4.1
  have hk := (PT_k hP).1
  have f6 : PR (rfr c) := PR_cg (f3 100046 (by omega) (by omega) (by omega)) (f3 100048 (by omega) (by omega) (by omega)) hAp
  have f7 : PQ (rfr c) R Z := ⟨by rw [f3 100044 (by omega) (by omega) (by omega)]; exact hQ.1, fun i a b => by rw [f3 100049 (by omega) (by omega) (by omega), f3 100050 (by omega) (by omega) (by omega)]; exact hQ.2.1 i a b, fun i a b => by rw [f3 R (by omega) (by omega) (by omega)]; exact hQ.2.2 i a b⟩
  have f8 : -1 ≤ rfr c 100014 3 ∧ rfr c 100014 3 < 10 := by rw [f3 100014 (by omega) (by omega) (by omega)]; exact hD
  refine gE_mk am_r126 rfl (Or.inr ⟨_, rfl, (by first | exact XT_0 hX | exact XT_0 p7 | exact XT_r4 p7 | exact PT_0 p1 | exact NT_0 p10)⟩) (fun d hd => ?_)
  show gw d g 126 0 [.ref 500000, gi z, am_U, am_U, am_U] [] _ _
  refine gw_al0 at126_0 (gw_il1 at126_1 ?_)
  refine gw_call2 at126_2 (c_solved hX hT hc hN hW hwn hR hRT hS hP hAp hQ hD hf hf0 (by omega)) (by omega) (Nat.le_of_ble_eq_true rfl) (fun o M1 q2 => ?_)
  rcases q2 with ⟨s1, s2, T1, c1, J1, R1, Z1, s3, rfl, rfl⟩ | ⟨s1, s2, rfl, rfl⟩ | ⟨s1, rfl, rfl⟩
  · show gw _ _ _ _ _ (.ref 100044 :: _) _ _
    obtain ⟨p1, p2, p3, p4, p5, p6⟩ := slR_ok hP f1 f2 f6 f7 hf s3
    have p7 : XT T1 := by
      unfold XT at hX ⊢
      rw [p2 500000 (by omega) (by omega)]
      exact hX
    have p8 : RT T1 := by
      unfold RT at hRT ⊢
      rw [p2 100026 (by omega) (by omega), p2 100027 (by omega) (by omega), p2 100028 (by omega) (by omega), p2 100029 (by omega) (by omega)]
      exact hRT
    have p9 := szo_rg p4 z
    have p10 : NT T1 100014 := NT_cg (fun k hk => p2 k (by omega) (by omega)) hT
    have p11 : NR c1 100014 := NF_NR (fun i a b j => p6 i (by omega) (by omega) j) f4
    refine gw_il1 at126_5 (gw_callP2 at126_6 (c_costOf p1 p3 p4 (by omega)) (by omega) (Nat.le_of_ble_eq_true rfl) (gw_is2 at126_9 (h := (gw_il2 at126_10 (gw_const at126_11 ?_)))))
    refine gw_cne at126_12 (by first | omega | (unfold cso; split; exact p3 _ _; omega) | exact p3 _ _) (by first | omega | (unfold cso; split; exact p3 _ _; omega) | exact p3 _ _) (fun q12 => ?_) (fun q12 => ?_)
    · refine gw_al0 at126_17 (gw_gr at126_18 (by first | exact XT_0 hX | exact XT_0 p7 | exact XT_r4 p7 | exact PT_0 p1 | exact NT_0 p10) (by first | exact XT_0 hX | exact XT_0 p7 | exact XT_r4 p7 | exact PT_0 p1 | exact NT_0 p10) (gw_il1 at126_21 (gw_callP2 at126_22 (c_arcsUpTo p10 p3 p11 (by omega)) (by omega) (Nat.le_of_ble_eq_true rfl) (gw_is3 at126_25 (h := (gw_const at126_26 (gw_is4 at126_27 (h := ?_))))))))
      have lp29 : ∀ i : Int, 0 ≤ i → i ≤ 24 → ∀ s : Int, s = itI (pvf c1 (mskI (fun a => hA c1 100014 a && decide (cl c1 100014 a ≤ z)) 24)) (cso c1 z) i → gw d g 126 29 [.ref 500000, gi z, gi s, gi (mskI (fun a => hA c1 100014 a && decide (cl c1 100014 a ≤ z)) 24), gi i] [] (gm T1 c1 J1) (fun o M1 => ((1 ≤ z ∧ z ≤ 3) ∧ bcn (mskI (fun a => hA c 100014 a && decide (cl c 100014 a ≤ z)) 24) ≤ 12 ∧ ∃ (T1 : gT) (c1 J1 : gC) (R1 Z1 : Nat), slR T (rfr c) J R Z z T1 c1 J1 R1 Z1 ∧ o = .inl (some (gi (if cso c1 z = -1 then -1 else itI (pvf c1 (mskI (fun a => hA c1 100014 a && decide (cl c1 100014 a ≤ z)) 24)) (cso c1 z) 24))) ∧ M1 = gm T1 c1 J1) ∨ ((1 ≤ z ∧ z ≤ 3) ∧ ¬ bcn (mskI (fun a => hA c 100014 a && decide (cl c 100014 a ≤ z)) 24) ≤ 12 ∧ o = .inr 0 ∧ M1 = gm (gTt T) c J) ∨ (¬ (1 ≤ z ∧ z ≤ 3) ∧ o = .inr 1 ∧ M1 = gm (gTt T) c J)) := by
        refine ind_up 24 ?_
        intro i hi0 hi1 ih s hs
        refine gw_il4 at126_29 ?_
        refine gw_bip at126_31 (by decide) ?_
        refine gw_cge at126_33 (by first | omega | (unfold cso; split; exact p3 _ _; omega) | exact p3 _ _) (by first | omega | (unfold cso; split; exact p3 _ _; omega) | exact p3 _ _) (fun q33 => ?_) (fun q33 => ?_)
        · refine gw_il2 at126_63 (gw_ri at126_64 am_r126.2.1 ?_)
          (refine Or.inl ⟨s1, s2, T1, c1, J1, R1, Z1, s3, ?_, rfl⟩; rw [if_neg (by assumption), hs, show i = 24 by omega]; done)
        · refine gw_il3 at126_36 (gw_il4 at126_37 (gw_callP2 at126_39 (c_contains) (by omega) (Nat.le_of_ble_eq_true rfl) ?_))
          refine gw_beq at126_42 (fun q42 => ?_) (fun q42 => ?_)
          · refine gw_inc4 at126_57 (h := (gw_goto at126_60 ?_))
            refine ih (i + 1) (by omega) (by omega) _ ?_
            rw [itI_s _ _ hi0, ← hs]
            unfold pvf
            first | (rw [if_pos (by assumption)]; done) | (rw [if_neg (by simp [*])]; done)
          · refine gw_il2 at126_45 (gw_al0 at126_46 (gw_gr at126_47 (by first | exact XT_0 hX | exact XT_0 p7 | exact XT_r4 p7 | exact PT_0 p1 | exact NT_0 p10) (by first | exact XT_0 hX | exact XT_0 p7 | exact XT_r4 p7 | exact PT_0 p1 | exact NT_0 p10) (gw_il4 at126_50 (gw_callP2 at126_52 (c_lengthOf p10 p3 (by omega)) (by omega) (Nat.le_of_ble_eq_true rfl) (gw_isub at126_55 (gw_is2 at126_56 (h := (gw_inc4 at126_57 (h := (gw_goto at126_60 ?_))))))))))
            refine ih (i + 1) (by omega) (by omega) _ ?_
            rw [itI_s _ _ hi0, ← hs]
            unfold pvf
            first | (rw [if_pos (by assumption)]; done) | (rw [if_neg (by simp [*])]; done)
      exact lp29 0 (by omega) (by omega) _ rfl
    · refine gw_const at126_15 (gw_ri at126_16 am_r126.2.1 ?_)
      (refine Or.inl ⟨s1, s2, T1, c1, J1, R1, Z1, s3, ?_, rfl⟩; rw [if_pos (by assumption)]; done)
  · refine gK_thr (am_h126 _ (by decide)) ?_
    exact Or.inr (Or.inl ⟨s1, s2, rfl, rfl⟩)
  · refine gK_thr (am_h126 _ (by decide)) ?_
    exact Or.inr (Or.inr ⟨s1, rfl, rfl⟩)
set_option maxHeartbeats 1000000 in
theorem c_x_append {g : Nat} {T : gT} {c J : gC} (hX : XT T) (hB : BT T 100000) (hc : RG c) (hR : BR c 100000) {a1 : Int} (ha1 : -2147483648 ≤ a1 ∧ a1 < 2147483648) {a2 : Int} (ha2 : -2147483648 ≤ a2 ∧ a2 < 2147483648) {a3 : Int} (ha3 : -2147483648 ≤ a3 ∧ a3 < 2147483648) {a4 : Int} (ha4 : -2147483648 ≤ a4 ∧ a4 < 2147483648) {a5 : Int} (ha5 : -2147483648 ≤ a5 ∧ a5 < 2147483648) : gE g 97 6 [.ref 500000, gi a1, gi a2, gi a3, gi a4, gi a5] (gm T c J) (fun o M1 => (c 100000 1 + 20 ≤ 1200 ∧ o = .inl (some (gi (ap5 c a1 a2 a3 a4 a5 100000 1))) ∧ M1 = gm T (ap5 c a1 a2 a3 a4 a5) J) ∨ (¬ c 100000 1 + 20 ≤ 1200 ∧ o = .inr 0 ∧ M1 = gm (gTt T) c J)) := by
  have hR1 := hR.1
  have hR2 := hR.2
  refine gE_mk am_r97 rfl (Or.inr ⟨_, rfl, (by first | exact XT_0 hX | exact XT_r0 hX | exact hB.1)⟩) (fun d hd => ?_)
  show gw d g 97 0 [.ref 500000, gi a1, gi a2, gi a3, gi a4, gi a5] [] _ _
  refine gw_al0 at97_0 (gw_gr at97_1 (by first | exact XT_0 hX | exact XT_r0 hX | exact hB.1) (by first | exact XT_0 hX | exact XT_r0 hX | exact hB.1) (gw_gf (j := 1) at97_4 (by first | exact XT_0 hX | exact XT_r0 hX | exact hB.1) rfl (gw_bip at97_7 (by decide) (gw_iadd at97_9 (gw_sip at97_10 (by decide) ?_)))))
  refine gw_cle at97_13 (by first | omega | exact hc _ _) (by first | omega | exact hc _ _) (fun q13 => ?_) (fun q13 => ?_)
  · refine gw_al0 at97_24 (gw_gr at97_25 (by first | exact XT_0 hX | exact XT_r0 hX | exact hB.1) (by first | exact XT_0 hX | exact XT_r0 hX | exact hB.1) (gw_il1 at97_28 ?_))
    refine gw_call2 at97_29 (c_putInt hB hc hR) (by omega) (Nat.le_of_ble_eq_true rfl) (fun o M1 q29 => ?_)
    obtain ⟨rfl, rfl⟩ := q29
    show gw _ _ _ _ _ [] _ _
    have o1 := pin_ok (k := 100000) (v := a1) hc hR
    refine gw_al0 at97_32 (gw_gr at97_33 (by first | exact XT_0 hX | exact XT_r0 hX | exact hB.1) (by first | exact XT_0 hX | exact XT_r0 hX | exact hB.1) (gw_il2 at97_36 ?_))
    refine gw_call2 at97_37 (c_putInt hB o1.1 o1.2.1) (by omega) (Nat.le_of_ble_eq_true rfl) (fun o M1 q37 => ?_)
    obtain ⟨rfl, rfl⟩ := q37
    show gw _ _ _ _ _ [] _ _
    have o2 := pin_ok (k := 100000) (v := a2) o1.1 o1.2.1
    refine gw_al0 at97_40 (gw_gr at97_41 (by first | exact XT_0 hX | exact XT_r0 hX | exact hB.1) (by first | exact XT_0 hX | exact XT_r0 hX | exact hB.1) (gw_il3 at97_44 ?_))
    refine gw_call2 at97_45 (c_putInt hB o2.1 o2.2.1) (by omega) (Nat.le_of_ble_eq_true rfl) (fun o M1 q45 => ?_)
    obtain ⟨rfl, rfl⟩ := q45
    show gw _ _ _ _ _ [] _ _
    have o3 := pin_ok (k := 100000) (v := a3) o2.1 o2.2.1
    refine gw_al0 at97_48 (gw_gr at97_49 (by first | exact XT_0 hX | exact XT_r0 hX | exact hB.1) (by first | exact XT_0 hX | exact XT_r0 hX | exact hB.1) (gw_il4 at97_52 ?_))
    refine gw_call2 at97_54 (c_putInt hB o3.1 o3.2.1) (by omega) (Nat.le_of_ble_eq_true rfl) (fun o M1 q54 => ?_)
    obtain ⟨rfl, rfl⟩ := q54
    show gw _ _ _ _ _ [] _ _
    have o4 := pin_ok (k := 100000) (v := a4) o3.1 o3.2.1
    refine gw_al0 at97_57 (gw_gr at97_58 (by first | exact XT_0 hX | exact XT_r0 hX | exact hB.1) (by first | exact XT_0 hX | exact XT_r0 hX | exact hB.1) (gw_il5 at97_61 ?_))
    refine gw_call2 at97_63 (c_putInt hB o4.1 o4.2.1) (by omega) (Nat.le_of_ble_eq_true rfl) (fun o M1 q63 => ?_)
    obtain ⟨rfl, rfl⟩ := q63
    show gw _ _ _ _ _ [] _ _
    have o5 := pin_ok (k := 100000) (v := a5) o4.1 o4.2.1
    refine gw_al0 at97_66 (gw_gr at97_67 (by first | exact XT_0 hX | exact XT_r0 hX | exact hB.1) (by first | exact XT_0 hX | exact XT_r0 hX | exact hB.1) (gw_gf (j := 1) at97_70 (by first | exact XT_0 hX | exact XT_r0 hX | exact hB.1) rfl (gw_ri at97_73 am_r97.2.1 ?_)))
    exact Or.inl ⟨by omega, rfl, rfl⟩
  · refine gw_thr at97_16 (by omega) (Nat.le_of_ble_eq_true rfl) ?_
    exact Or.inr ⟨by omega, rfl, rfl⟩
