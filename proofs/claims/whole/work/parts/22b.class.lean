/-! the class: what needs fresh routes -/
theorem rfr_ok {c : gC} (hc : RG c) (hS : SR c) (hN : NR c 100014) : RG (rfr c) ∧ SR (rfr c) ∧ ∀ k : Nat, ¬ k = 100026 → ¬ k = 100027 → ¬ k = 100028 → ∀ j, rfr c k j = c k j := by
  unfold rfr
  split
  · exact ⟨hc, hS, fun _ _ _ _ _ => rfl⟩
  · have o := rf2i_ok hc hN (i := 24) (by omega)
    refine ⟨RG_gu o.1 (hc _ _), SR_cg (fun j => gu_k (by omega)) (fun j => gu_k (by omega)) o.2.1, fun k a b e j => ?_⟩
    rw [gu_k a]
    exact o.2.2 k b e j
/-- v when p holds (the memory is c' then), else E is thrown -/
def gJ (p : Prop) (E : Nat) (v : Value) (T : gT) (c c' J : gC) : am_O → am_M → Prop := fun o M1 => (p ∧ o = .inl (some v) ∧ M1 = gm T c' J) ∨ (¬ p ∧ o = .inr E ∧ M1 = gm (gTt T) c J)
def gJ2 (p : Prop) (E : Nat) (p' : Prop) (E' : Nat) (v : Value) (T : gT) (c c' J : gC) : am_O → am_M → Prop := fun o M1 => (p ∧ p' ∧ o = .inl (some v) ∧ M1 = gm T c' J) ∨ (p ∧ ¬ p' ∧ o = .inr E' ∧ M1 = gm (gTt T) c J) ∨ (¬ p ∧ o = .inr E ∧ M1 = gm (gTt T) c J)
def knw (z : Int) : Int := if 100000000 ≤ z then -1 else z
set_option maxHeartbeats 1000000 in
theorem c_fresh {g : Nat} {T : gT} {c J : gC} (hX : XT T) (hT : NT T 100014) (hc : RG c) (hN : NR c 100014) (hRT : RT T) : gE g 171 4 [.ref 500000] (gm T c J) (fun o M1 => o = .inl (some (.ref 100026)) ∧ M1 = gm T (rfr c) J) := by
  refine gE_mk am_r171 rfl (Or.inr ⟨_, rfl, (by first | exact XT_0 hX | exact XT_r7 hX)⟩) (fun d hd => ?_)
  show gw d g 171 0 [.ref 500000] [] _ _
  refine gw_al0 at171_0 (gw_gr at171_1 (by first | exact XT_0 hX | exact XT_r7 hX) (by first | exact XT_0 hX | exact XT_r7 hX) ?_)
  refine gw_call1 at171_4 (c_refresh hRT hc hT hN) (by omega) (Nat.le_of_ble_eq_true rfl) (fun o M1 q4 => ?_)
  obtain ⟨rfl, rfl⟩ := q4
  show gw _ _ _ _ _ [] _ _
  refine gw_al0 at171_7 (gw_gr at171_8 (by first | exact XT_0 hX | exact XT_r7 hX) (by first | exact XT_0 hX | exact XT_r7 hX) (gw_rr at171_11 am_r171.2.1 ?_))
  exact ⟨rfl, rfl⟩
set_option maxHeartbeats 1000000 in
theorem c_x_routeCost {g : Nat} {T : gT} {c J : gC} (hX : XT T) (hT : NT T 100014) (hc : RG c) (hN : NR c 100014) (hW : WT T 100034) (hwn : (T.1 100034).2.2 0 = 100014 + 1) {B : Int} (hR : WR c 100034 B) (hRT : RT T) (hS : SR c) {z : Int} (hz : -2147483648 ≤ z ∧ z < 2147483648) {p : Int} (hp : -2147483648 ≤ p ∧ p < 2147483648) : gE g 112 7 [.ref 500000, gi z, gi p] (gm T c J) (gJ2 (hA c 100014 z = true) 2 (hA c 100014 p = true) 2 (gi (knw (cbh (rfr c) z p))) T c (rfr c) J) := by
  have hn1 := hN.1
  obtain ⟨f1, f2, f3⟩ := rfr_ok hc hS hN
  have f4 : NR (rfr c) 100014 := NF_NR (fun i a b j => f3 i (by omega) (by omega) (by omega) j) hN
  have f5 : WR (rfr c) 100034 B := WR_arg hR (fun k a b j => f3 k (by omega) (by omega) (by omega) j)
  have fn1 := f4.1
  refine gE_mk am_r112 rfl (Or.inr ⟨_, rfl, (by first | exact XT_0 hX | exact XT_r4 hX | exact XT_r5 hX | exact XT_r7 hX | exact NT_0 hT | exact WT_0 hW | exact RT_0 hRT | exact RT_r4 hRT | exact RT_t4 hRT | exact RT_l4 hRT)⟩) (fun d hd => ?_)
  show gw d g 112 0 [.ref 500000, gi z, gi p] [] _ _
  refine gw_al0 at112_0 (gw_il1 at112_1 ?_)
  refine gw_call2 at112_2 (c_ckArc hX hT hc hN (by omega)) (by omega) (Nat.le_of_ble_eq_true rfl) (fun o M1 q2 => ?_)
  rcases q2 with ⟨hp2, rfl, rfl⟩ | ⟨hp2, rfl, rfl⟩
  · show gw _ _ _ _ _ [] _ _
    have hr2 := hA_rg hN hp2
    refine gw_al0 at112_5 (gw_il2 at112_6 ?_)
    refine gw_call2 at112_7 (c_ckArc hX hT hc hN (by omega)) (by omega) (Nat.le_of_ble_eq_true rfl) (fun o M1 q7 => ?_)
    rcases q7 with ⟨hp7, rfl, rfl⟩ | ⟨hp7, rfl, rfl⟩
    · show gw _ _ _ _ _ [] _ _
      have hr7 := hA_rg hN hp7
      refine gw_al0 at112_10 ?_
      refine gw_call1 at112_11 (c_fresh hX hT hc hN hRT) (by omega) (Nat.le_of_ble_eq_true rfl) (fun o M1 q11 => ?_)
      obtain ⟨rfl, rfl⟩ := q11
      show gw _ _ _ _ _ (.ref 100026 :: []) _ _
      refine gw_il1 at112_14 (gw_il2 at112_15 (gw_callP3 at112_16 (c_costBehind hRT f1 (by omega) (by omega)) (by omega) (Nat.le_of_ble_eq_true rfl) (gw_callP1 at112_19 (c_known (by have := cbh_rg f2 z p; omega)) (by omega) (Nat.le_of_ble_eq_true rfl) (gw_ri at112_22 am_r112.2.1 ?_))))
      exact Or.inl ⟨hp2, hp7, rfl, rfl⟩
    · refine gK_thr (am_h112 _ (by decide)) ?_
      exact Or.inr (Or.inl ⟨hp2, hp7, rfl, rfl⟩)
  · refine gK_thr (am_h112 _ (by decide)) ?_
    exact Or.inr (Or.inr ⟨hp2, rfl, rfl⟩)
set_option maxHeartbeats 1000000 in
theorem c_x_pathCost {g : Nat} {T : gT} {c J : gC} (hX : XT T) (hT : NT T 100014) (hc : RG c) (hN : NR c 100014) (hW : WT T 100034) (hwn : (T.1 100034).2.2 0 = 100014 + 1) {B : Int} (hR : WR c 100034 B) (hRT : RT T) (hS : SR c) {z : Int} (hz : -2147483648 ≤ z ∧ z < 2147483648) {p : Int} (hp : -2147483648 ≤ p ∧ p < 2147483648) : gE g 113 7 [.ref 500000, gi z, gi p] (gm T c J) (gJ2 (0 ≤ z ∧ z < c 100014 1) 2 (0 ≤ p ∧ p < c 100014 1) 2 (gi (knw (cbw (rfr c) z p))) T c (rfr c) J) := by
  have hn1 := hN.1
  obtain ⟨f1, f2, f3⟩ := rfr_ok hc hS hN
  have f4 : NR (rfr c) 100014 := NF_NR (fun i a b j => f3 i (by omega) (by omega) (by omega) j) hN
  have f5 : WR (rfr c) 100034 B := WR_arg hR (fun k a b j => f3 k (by omega) (by omega) (by omega) j)
  have fn1 := f4.1
  refine gE_mk am_r113 rfl (Or.inr ⟨_, rfl, (by first | exact XT_0 hX | exact XT_r4 hX | exact XT_r5 hX | exact XT_r7 hX | exact NT_0 hT | exact WT_0 hW | exact RT_0 hRT | exact RT_r4 hRT | exact RT_t4 hRT | exact RT_l4 hRT)⟩) (fun d hd => ?_)
  show gw d g 113 0 [.ref 500000, gi z, gi p] [] _ _
  refine gw_al0 at113_0 (gw_il1 at113_1 ?_)
  refine gw_call2 at113_2 (c_ckNode hX hT hc hN (by omega)) (by omega) (Nat.le_of_ble_eq_true rfl) (fun o M1 q2 => ?_)
  rcases q2 with ⟨hp2, rfl, rfl⟩ | ⟨hp2, rfl, rfl⟩
  · show gw _ _ _ _ _ [] _ _
    refine gw_al0 at113_5 (gw_il2 at113_6 ?_)
    refine gw_call2 at113_7 (c_ckNode hX hT hc hN (by omega)) (by omega) (Nat.le_of_ble_eq_true rfl) (fun o M1 q7 => ?_)
    rcases q7 with ⟨hp7, rfl, rfl⟩ | ⟨hp7, rfl, rfl⟩
    · show gw _ _ _ _ _ [] _ _
      refine gw_al0 at113_10 ?_
      refine gw_call1 at113_11 (c_fresh hX hT hc hN hRT) (by omega) (Nat.le_of_ble_eq_true rfl) (fun o M1 q11 => ?_)
      obtain ⟨rfl, rfl⟩ := q11
      show gw _ _ _ _ _ (.ref 100026 :: []) _ _
      refine gw_il1 at113_14 (gw_il2 at113_15 (gw_callP3 at113_16 (c_costBetween hRT f1 f2 (by omega) (by omega)) (by omega) (Nat.le_of_ble_eq_true rfl) (gw_callP1 at113_19 (c_known (by have := cbw_rg f2 z p; omega)) (by omega) (Nat.le_of_ble_eq_true rfl) (gw_ri at113_22 am_r113.2.1 ?_))))
      exact Or.inl ⟨hp2, hp7, rfl, rfl⟩
    · refine gK_thr (am_h113 _ (by decide)) ?_
      exact Or.inr (Or.inl ⟨hp2, hp7, rfl, rfl⟩)
  · refine gK_thr (am_h113 _ (by decide)) ?_
    exact Or.inr (Or.inr ⟨hp2, rfl, rfl⟩)
set_option maxHeartbeats 1000000 in
theorem c_x_ecc {g : Nat} {T : gT} {c J : gC} (hX : XT T) (hT : NT T 100014) (hc : RG c) (hN : NR c 100014) (hW : WT T 100034) (hwn : (T.1 100034).2.2 0 = 100014 + 1) {B : Int} (hR : WR c 100034 B) (hRT : RT T) (hS : SR c) {z : Int} (hz : -2147483648 ≤ z ∧ z < 2147483648) : gE g 119 7 [.ref 500000, gi z] (gm T c J) (gJ (0 ≤ z ∧ z < c 100014 1) 2 (gi (knw (far (rfr c) z (rfr c 100014 1)))) T c (rfr c) J) := by
  have hn1 := hN.1
  obtain ⟨f1, f2, f3⟩ := rfr_ok hc hS hN
  have f4 : NR (rfr c) 100014 := NF_NR (fun i a b j => f3 i (by omega) (by omega) (by omega) j) hN
  have f5 : WR (rfr c) 100034 B := WR_arg hR (fun k a b j => f3 k (by omega) (by omega) (by omega) j)
  have fn1 := f4.1
  refine gE_mk am_r119 rfl (Or.inr ⟨_, rfl, (by first | exact XT_0 hX | exact XT_r4 hX | exact XT_r5 hX | exact XT_r7 hX | exact NT_0 hT | exact WT_0 hW | exact RT_0 hRT | exact RT_r4 hRT | exact RT_t4 hRT | exact RT_l4 hRT)⟩) (fun d hd => ?_)
  show gw d g 119 0 [.ref 500000, gi z] [] _ _
  refine gw_al0 at119_0 (gw_il1 at119_1 ?_)
  refine gw_call2 at119_2 (c_ckNode hX hT hc hN (by omega)) (by omega) (Nat.le_of_ble_eq_true rfl) (fun o M1 q2 => ?_)
  rcases q2 with ⟨hp2, rfl, rfl⟩ | ⟨hp2, rfl, rfl⟩
  · show gw _ _ _ _ _ [] _ _
    refine gw_al0 at119_5 ?_
    refine gw_call1 at119_6 (c_fresh hX hT hc hN hRT) (by omega) (Nat.le_of_ble_eq_true rfl) (fun o M1 q6 => ?_)
    obtain ⟨rfl, rfl⟩ := q6
    show gw _ _ _ _ _ (.ref 100026 :: []) _ _
    refine gw_il1 at119_9 (gw_callP2 at119_10 (c_farthestFrom hRT f1 f2 hT f4 (by omega)) (by omega) (Nat.le_of_ble_eq_true rfl) (gw_callP1 at119_13 (c_known (by have := far_rg f2 z (rfr c 100014 1); omega)) (by omega) (Nat.le_of_ble_eq_true rfl) (gw_ri at119_16 am_r119.2.1 ?_)))
    exact Or.inl ⟨hp2, rfl, rfl⟩
  · refine gK_thr (am_h119 _ (by decide)) ?_
    exact Or.inr ⟨hp2, rfl, rfl⟩
set_option maxHeartbeats 1000000 in
theorem c_x_cycle {g : Nat} {T : gT} {c J : gC} (hX : XT T) (hT : NT T 100014) (hc : RG c) (hN : NR c 100014) (hW : WT T 100034) (hwn : (T.1 100034).2.2 0 = 100014 + 1) {B : Int} (hR : WR c 100034 B) (hRT : RT T) (hS : SR c) {z : Int} (hz : -2147483648 ≤ z ∧ z < 2147483648) : gE g 118 7 [.ref 500000, gi z] (gm T c J) (gJ (hA c 100014 z = true) 2 (gi (knw (ln (rfr c) 100014 z + cbh (rfr c) z (24 + bg (rfr c) 100014 z)))) T c (rfr c) J) := by
  have hn1 := hN.1
  obtain ⟨f1, f2, f3⟩ := rfr_ok hc hS hN
  have f4 : NR (rfr c) 100014 := NF_NR (fun i a b j => f3 i (by omega) (by omega) (by omega) j) hN
  have f5 : WR (rfr c) 100034 B := WR_arg hR (fun k a b j => f3 k (by omega) (by omega) (by omega) j)
  have fn1 := f4.1
  refine gE_mk am_r118 rfl (Or.inr ⟨_, rfl, (by first | exact XT_0 hX | exact XT_r4 hX | exact XT_r5 hX | exact XT_r7 hX | exact NT_0 hT | exact WT_0 hW | exact RT_0 hRT | exact RT_r4 hRT | exact RT_t4 hRT | exact RT_l4 hRT)⟩) (fun d hd => ?_)
  show gw d g 118 0 [.ref 500000, gi z, am_U] [] _ _
  refine gw_al0 at118_0 (gw_il1 at118_1 ?_)
  refine gw_call2 at118_2 (c_ckArc hX hT hc hN (by omega)) (by omega) (Nat.le_of_ble_eq_true rfl) (fun o M1 q2 => ?_)
  rcases q2 with ⟨hp2, rfl, rfl⟩ | ⟨hp2, rfl, rfl⟩
  · show gw _ _ _ _ _ [] _ _
    have hr2 := hA_rg hN hp2
    refine gw_al0 at118_5 ?_
    refine gw_call1 at118_6 (c_fresh hX hT hc hN hRT) (by omega) (Nat.le_of_ble_eq_true rfl) (fun o M1 q6 => ?_)
    obtain ⟨rfl, rfl⟩ := q6
    show gw _ _ _ _ _ (.ref 100026 :: []) _ _
    refine gw_il1 at118_9 (gw_al0 at118_10 (gw_gr at118_11 (by first | exact XT_0 hX | exact XT_r4 hX | exact XT_r5 hX | exact XT_r7 hX | exact NT_0 hT | exact WT_0 hW | exact RT_0 hRT | exact RT_r4 hRT | exact RT_t4 hRT | exact RT_l4 hRT) (by first | exact XT_0 hX | exact XT_r4 hX | exact XT_r5 hX | exact XT_r7 hX | exact NT_0 hT | exact WT_0 hW | exact RT_0 hRT | exact RT_r4 hRT | exact RT_t4 hRT | exact RT_l4 hRT) (gw_il1 at118_14 (gw_callP2 at118_15 (c_beginOf hT f1 (by omega)) (by omega) (Nat.le_of_ble_eq_true rfl) ?_))))
    have hbg := bg_rg f4 z
    refine gw_callP1 at118_18 (c_placeOf) (by omega) (Nat.le_of_ble_eq_true rfl) (gw_callP3 at118_21 (c_costBehind hRT f1 (by omega) (by omega)) (by omega) (Nat.le_of_ble_eq_true rfl) (gw_is2 at118_24 (h := (gw_al0 at118_25 (gw_gr at118_26 (by first | exact XT_0 hX | exact XT_r4 hX | exact XT_r5 hX | exact XT_r7 hX | exact NT_0 hT | exact WT_0 hW | exact RT_0 hRT | exact RT_r4 hRT | exact RT_t4 hRT | exact RT_l4 hRT) (by first | exact XT_0 hX | exact XT_r4 hX | exact XT_r5 hX | exact XT_r7 hX | exact NT_0 hT | exact WT_0 hW | exact RT_0 hRT | exact RT_r4 hRT | exact RT_t4 hRT | exact RT_l4 hRT) (gw_il1 at118_29 (gw_callP2 at118_30 (c_lengthOf hT f1 (by omega)) (by omega) (Nat.le_of_ble_eq_true rfl) (gw_il2 at118_33 (gw_iadd at118_34 (gw_callP1 at118_35 (c_known (by have := cbh_rg f2 z (24 + bg (rfr c) 100014 z); have := ln_rg f4 z; omega)) (by omega) (Nat.le_of_ble_eq_true rfl) (gw_ri at118_38 am_r118.2.1 ?_)))))))))))
    exact Or.inl ⟨hp2, rfl, rfl⟩
  · refine gK_thr (am_h118 _ (by decide)) ?_
    exact Or.inr ⟨hp2, rfl, rfl⟩
set_option maxHeartbeats 1000000 in
theorem c_x_greedy {g : Nat} {T : gT} {c J : gC} (hX : XT T) (hT : NT T 100014) (hc : RG c) (hN : NR c 100014) (hW : WT T 100034) (hwn : (T.1 100034).2.2 0 = 100014 + 1) {B : Int} (hR : WR c 100034 B) (hRT : RT T) (hS : SR c) (hL : SL (rfr c)) (hD : -1 ≤ c 100014 3 ∧ c 100014 3 < 10) {z : Int} (hz : -2147483648 ≤ z ∧ z < 2147483648) : gE g 125 7 [.ref 500000, gi z] (gm T c J) (gJ (1 ≤ z ∧ z ≤ 3) 1 (gi (grc (rfr c) (mskI (fun a => hA (rfr c) 100014 a && decide (cl (rfr c) 100014 a ≤ z)) 24))) T c (rfr c) J) := by
  have hn1 := hN.1
  obtain ⟨f1, f2, f3⟩ := rfr_ok hc hS hN
  have f4 : NR (rfr c) 100014 := NF_NR (fun i a b j => f3 i (by omega) (by omega) (by omega) j) hN
  have f5 : WR (rfr c) 100034 B := WR_arg hR (fun k a b j => f3 k (by omega) (by omega) (by omega) j)
  have fn1 := f4.1
  refine gE_mk am_r125 rfl (Or.inr ⟨_, rfl, (by first | exact XT_0 hX | exact XT_r4 hX | exact XT_r5 hX | exact XT_r7 hX | exact NT_0 hT | exact WT_0 hW | exact RT_0 hRT | exact RT_r4 hRT | exact RT_t4 hRT | exact RT_l4 hRT)⟩) (fun d hd => ?_)
  show gw d g 125 0 [.ref 500000, gi z] [] _ _
  refine gw_il1 at125_0 ?_
  refine gw_call1 at125_1 (c_ckClass (by omega)) (by omega) (Nat.le_of_ble_eq_true rfl) (fun o M1 q1 => ?_)
  rcases q1 with ⟨hp1, rfl, rfl⟩ | ⟨hp1, rfl, rfl⟩
  · show gw _ _ _ _ _ [] _ _
    refine gw_al0 at125_4 ?_
    refine gw_call1 at125_5 (c_fresh hX hT hc hN hRT) (by omega) (Nat.le_of_ble_eq_true rfl) (fun o M1 q5 => ?_)
    obtain ⟨rfl, rfl⟩ := q5
    show gw _ _ _ _ _ (.ref 100026 :: []) _ _
    refine gw_al0 at125_8 (gw_gr at125_9 (by first | exact XT_0 hX | exact XT_r4 hX | exact XT_r5 hX | exact XT_r7 hX | exact NT_0 hT | exact WT_0 hW | exact RT_0 hRT | exact RT_r4 hRT | exact RT_t4 hRT | exact RT_l4 hRT) (by first | exact XT_0 hX | exact XT_r4 hX | exact XT_r5 hX | exact XT_r7 hX | exact NT_0 hT | exact WT_0 hW | exact RT_0 hRT | exact RT_r4 hRT | exact RT_t4 hRT | exact RT_l4 hRT) (gw_il1 at125_12 (gw_callP2 at125_13 (c_arcsUpTo hT f1 f4 (by omega)) (by omega) (Nat.le_of_ble_eq_true rfl) (gw_callP2 at125_16 (c_greedyCost hRT f1 f2 hL (by rw [f3 100014 (by omega) (by omega) (by omega)]; exact hD) hT f4 (mskI_rg _ _)) (by omega) (Nat.le_of_ble_eq_true rfl) (gw_ri at125_19 am_r125.2.1 ?_)))))
    exact Or.inl ⟨hp1, rfl, rfl⟩
  · refine gK_thr (am_h125 _ (by decide)) ?_
    exact Or.inr ⟨hp1, rfl, rfl⟩
set_option maxHeartbeats 1000000 in
theorem c_x_nearDeep {g : Nat} {T : gT} {c J : gC} (hX : XT T) (hT : NT T 100014) (hc : RG c) (hN : NR c 100014) (hW : WT T 100034) (hwn : (T.1 100034).2.2 0 = 100014 + 1) {B : Int} (hR : WR c 100034 B) (hRT : RT T) (hS : SR c) {z : Int} (hz : -2147483648 ≤ z ∧ z < 2147483648) : gE g 137 7 [.ref 500000, gi z] (gm T c J) (gJ (0 ≤ z ∧ z ≤ 2000) 1 (gi ((nea (rfr c) (if c 100034 3 = -1 then 24 + c 100034 2 else c 100034 3) (mskI (fun a => hA (rfr c) 100014 a && decide (z < sn (rfr c) 100034 a 0)) 24)).1)) T c (rfr c) J) := by
  have hn1 := hN.1
  obtain ⟨f1, f2, f3⟩ := rfr_ok hc hS hN
  have f4 : NR (rfr c) 100014 := NF_NR (fun i a b j => f3 i (by omega) (by omega) (by omega) j) hN
  have f5 : WR (rfr c) 100034 B := WR_arg hR (fun k a b j => f3 k (by omega) (by omega) (by omega) j)
  have fn1 := f4.1
  have hw2 := hR.2.2.1
  refine gE_mk am_r137 rfl (Or.inr ⟨_, rfl, (by first | exact XT_0 hX | exact XT_r4 hX | exact XT_r5 hX | exact XT_r7 hX | exact NT_0 hT | exact WT_0 hW | exact RT_0 hRT | exact RT_r4 hRT | exact RT_t4 hRT | exact RT_l4 hRT)⟩) (fun d hd => ?_)
  show gw d g 137 0 [.ref 500000, gi z, am_U] [] _ _
  refine gw_il1 at137_0 ?_
  refine gw_call1 at137_1 (c_ckDepth (by omega)) (by omega) (Nat.le_of_ble_eq_true rfl) (fun o M1 q1 => ?_)
  rcases q1 with ⟨hp1, rfl, rfl⟩ | ⟨hp1, rfl, rfl⟩
  · show gw _ _ _ _ _ [] _ _
    refine gw_al0 at137_4 (gw_gr at137_5 (by first | exact XT_0 hX | exact XT_r4 hX | exact XT_r5 hX | exact XT_r7 hX | exact NT_0 hT | exact WT_0 hW | exact RT_0 hRT | exact RT_r4 hRT | exact RT_t4 hRT | exact RT_l4 hRT) (by first | exact XT_0 hX | exact XT_r4 hX | exact XT_r5 hX | exact XT_r7 hX | exact NT_0 hT | exact WT_0 hW | exact RT_0 hRT | exact RT_r4 hRT | exact RT_t4 hRT | exact RT_l4 hRT) (gw_gf (j := 3) at137_8 (by first | exact XT_0 hX | exact XT_r4 hX | exact XT_r5 hX | exact XT_r7 hX | exact NT_0 hT | exact WT_0 hW | exact RT_0 hRT | exact RT_r4 hRT | exact RT_t4 hRT | exact RT_l4 hRT) rfl (gw_const at137_11 ?_)))
    refine gw_cne at137_12 (by first | omega | exact hc _ _ | exact f1 _ _ | exact zrg _) (by first | omega | exact hc _ _ | exact f1 _ _ | exact zrg _) (fun q12 => ?_) (fun q12 => ?_)
    · refine gw_al0 at137_28 (gw_gr at137_29 (by first | exact XT_0 hX | exact XT_r4 hX | exact XT_r5 hX | exact XT_r7 hX | exact NT_0 hT | exact WT_0 hW | exact RT_0 hRT | exact RT_r4 hRT | exact RT_t4 hRT | exact RT_l4 hRT) (by first | exact XT_0 hX | exact XT_r4 hX | exact XT_r5 hX | exact XT_r7 hX | exact NT_0 hT | exact WT_0 hW | exact RT_0 hRT | exact RT_r4 hRT | exact RT_t4 hRT | exact RT_l4 hRT) (gw_gf (j := 3) at137_32 (by first | exact XT_0 hX | exact XT_r4 hX | exact XT_r5 hX | exact XT_r7 hX | exact NT_0 hT | exact WT_0 hW | exact RT_0 hRT | exact RT_r4 hRT | exact RT_t4 hRT | exact RT_l4 hRT) rfl (gw_is2 at137_35 (h := (gw_al0 at137_36 ?_)))))
      refine gw_call1 at137_37 (c_fresh hX hT hc hN hRT) (by omega) (Nat.le_of_ble_eq_true rfl) (fun o M1 q37 => ?_)
      obtain ⟨rfl, rfl⟩ := q37
      show gw _ _ _ _ _ (.ref 100026 :: []) _ _
      refine gw_il2 at137_40 (gw_al0 at137_41 (gw_gr at137_42 (by first | exact XT_0 hX | exact XT_r4 hX | exact XT_r5 hX | exact XT_r7 hX | exact NT_0 hT | exact WT_0 hW | exact RT_0 hRT | exact RT_r4 hRT | exact RT_t4 hRT | exact RT_l4 hRT) (by first | exact XT_0 hX | exact XT_r4 hX | exact XT_r5 hX | exact XT_r7 hX | exact NT_0 hT | exact WT_0 hW | exact RT_0 hRT | exact RT_r4 hRT | exact RT_t4 hRT | exact RT_l4 hRT) (gw_il1 at137_45 (gw_callP2 at137_46 (c_deeperThan hT f4 hW hwn f1 f5 (by omega)) (by omega) (Nat.le_of_ble_eq_true rfl) (gw_callP3 at137_49 (c_nearestArc hRT f1 f2 (by first | omega | exact hc _ _) (mskI_rg _ _)) (by omega) (Nat.le_of_ble_eq_true rfl) (gw_ri at137_52 am_r137.2.1 ?_))))))
      first | (rw [if_pos (by omega)]; exact Or.inl ⟨hp1, rfl, rfl⟩) | (rw [if_neg (by omega)]; exact Or.inl ⟨hp1, rfl, rfl⟩)
    · refine gw_al0 at137_15 (gw_gr at137_16 (by first | exact XT_0 hX | exact XT_r4 hX | exact XT_r5 hX | exact XT_r7 hX | exact NT_0 hT | exact WT_0 hW | exact RT_0 hRT | exact RT_r4 hRT | exact RT_t4 hRT | exact RT_l4 hRT) (by first | exact XT_0 hX | exact XT_r4 hX | exact XT_r5 hX | exact XT_r7 hX | exact NT_0 hT | exact WT_0 hW | exact RT_0 hRT | exact RT_r4 hRT | exact RT_t4 hRT | exact RT_l4 hRT) (gw_gf (j := 2) at137_19 (by first | exact XT_0 hX | exact XT_r4 hX | exact XT_r5 hX | exact XT_r7 hX | exact NT_0 hT | exact WT_0 hW | exact RT_0 hRT | exact RT_r4 hRT | exact RT_t4 hRT | exact RT_l4 hRT) rfl (gw_callP1 at137_22 (c_placeOf) (by omega) (Nat.le_of_ble_eq_true rfl) (gw_goto at137_25 (gw_is2 at137_35 (h := (gw_al0 at137_36 ?_)))))))
      refine gw_call1 at137_37 (c_fresh hX hT hc hN hRT) (by omega) (Nat.le_of_ble_eq_true rfl) (fun o M1 q37 => ?_)
      obtain ⟨rfl, rfl⟩ := q37
      show gw _ _ _ _ _ (.ref 100026 :: []) _ _
      refine gw_il2 at137_40 (gw_al0 at137_41 (gw_gr at137_42 (by first | exact XT_0 hX | exact XT_r4 hX | exact XT_r5 hX | exact XT_r7 hX | exact NT_0 hT | exact WT_0 hW | exact RT_0 hRT | exact RT_r4 hRT | exact RT_t4 hRT | exact RT_l4 hRT) (by first | exact XT_0 hX | exact XT_r4 hX | exact XT_r5 hX | exact XT_r7 hX | exact NT_0 hT | exact WT_0 hW | exact RT_0 hRT | exact RT_r4 hRT | exact RT_t4 hRT | exact RT_l4 hRT) (gw_il1 at137_45 (gw_callP2 at137_46 (c_deeperThan hT f4 hW hwn f1 f5 (by omega)) (by omega) (Nat.le_of_ble_eq_true rfl) (gw_callP3 at137_49 (c_nearestArc hRT f1 f2 (by first | omega | exact hc _ _) (mskI_rg _ _)) (by omega) (Nat.le_of_ble_eq_true rfl) (gw_ri at137_52 am_r137.2.1 ?_))))))
      first | (rw [if_pos (by omega)]; exact Or.inl ⟨hp1, rfl, rfl⟩) | (rw [if_neg (by omega)]; exact Or.inl ⟨hp1, rfl, rfl⟩)
  · refine gK_thr (am_h137 _ (by decide)) ?_
    exact Or.inr ⟨hp1, rfl, rfl⟩
