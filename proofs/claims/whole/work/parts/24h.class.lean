/-! the class: the time of a plan -/
def ptf (c : gC) (z : Int) (s : Bool) (i : Int) (x : Bool × gC) : Bool × gC := if x.1 = true then (if (pdt x.2 (bg c 100014 (paa c z i)) s).1 = true then (true, drv (pdt x.2 (bg c 100014 (paa c z i)) s).2 100014 100039 (paa c z i) s) else (false, (pdt x.2 (bg c 100014 (paa c z i)) s).2)) else x
theorem ptf_0 {c : gC} {z i : Int} {s : Bool} {x : Bool × gC} (h : x.1 = false) : ptf c z s i x = x := if_neg (by rw [h]; exact Bool.false_ne_true)
theorem ptf_1 {c : gC} {z i : Int} {s : Bool} {x : Bool × gC} (h : x.1 = true) (h2 : (pdt x.2 (bg c 100014 (paa c z i)) s).1 = true) : ptf c z s i x = (true, drv (pdt x.2 (bg c 100014 (paa c z i)) s).2 100014 100039 (paa c z i) s) := by unfold ptf; rw [if_pos h, if_pos h2]
theorem ptf_2 {c : gC} {z i : Int} {s : Bool} {x : Bool × gC} (h : x.1 = true) (h2 : (pdt x.2 (bg c 100014 (paa c z i)) s).1 = false) : ptf c z s i x = (false, (pdt x.2 (bg c 100014 (paa c z i)) s).2) := by unfold ptf; rw [if_pos h, if_neg (by rw [h2]; exact Bool.false_ne_true)]
def ptl (c : gC) (z : Int) (s : Bool) (i : Int) : Bool × gC := itI (ptf c z s) (true, wcp c 100039 100034) i
/-- the time of a plan that is laid out (-1: it can't be driven), and what is left -/
def ptr (c : gC) (z : Int) (s : Bool) : Int × gC :=
  if (ptl c z s (szo c z)).1 = true then (if (pdt (ptl c z s (szo c z)).2 (c 100014 3) s).1 = true then ((pdt (ptl c z s (szo c z)).2 (c 100014 3) s).2 100039 1 - c 100034 1, (pdt (ptl c z s (szo c z)).2 (c 100014 3) s).2) else (-1, (pdt (ptl c z s (szo c z)).2 (c 100014 3) s).2)) else (-1, (ptl c z s (szo c z)).2)
theorem ptr_0 {c : gC} {z : Int} {s : Bool} (h : (ptl c z s (szo c z)).1 = false) : ptr c z s = (-1, (ptl c z s (szo c z)).2) := if_neg (by rw [h]; exact Bool.false_ne_true)
theorem ptr_1 {c : gC} {z : Int} {s : Bool} (h : (ptl c z s (szo c z)).1 = true) (h2 : (pdt (ptl c z s (szo c z)).2 (c 100014 3) s).1 = true) : ptr c z s = ((pdt (ptl c z s (szo c z)).2 (c 100014 3) s).2 100039 1 - c 100034 1, (pdt (ptl c z s (szo c z)).2 (c 100014 3) s).2) := by unfold ptr; rw [if_pos h, if_pos h2]
theorem ptr_2 {c : gC} {z : Int} {s : Bool} (h : (ptl c z s (szo c z)).1 = true) (h2 : (pdt (ptl c z s (szo c z)).2 (c 100014 3) s).1 = false) : ptr c z s = (-1, (pdt (ptl c z s (szo c z)).2 (c 100014 3) s).2) := by unfold ptr; rw [if_pos h, if_neg (by rw [h2]; exact Bool.false_ne_true)]
/-- what the prediction leaves alone -/
def PO (c m : gC) : Prop := ∀ k : Nat, ¬ k = 100029 → ¬ k = 100026 → (k < 100039 ∨ 100044 ≤ k) → ∀ j, m k j = c k j
theorem PO_NF {c m : gC} (h : PO c m) : NF c m 100014 := fun i a b j => h i (by omega) (by omega) (by omega) j
theorem ptl_ok {c : gC} {z : Int} {s : Bool} {B : Int} (hc : RG c) (hN : NR c 100014) (hA : PR c) (hR : WR c 100034 B) (hB : B ≤ 1100000000) (hz : 1 ≤ z ∧ z ≤ 3) {i : Int} (h0 : 0 ≤ i) (hi : i ≤ szo c z) : RG (ptl c z s i).2 ∧ WR (ptl c z s i).2 100039 (B + 700000 * i) ∧ PO c (ptl c z s i).2 := by
  have hsz := szo_rg hA z
  have hb := hR.1
  refine itI_inv3 (fun k (x : Bool × gC) => RG x.2 ∧ WR x.2 100039 (B + 700000 * k) ∧ PO c x.2) (N := i) ⟨wcp_RG hc, WR_mono (WEQ_WR (wcp_eq (by omega)) hR) (by omega) (by omega), fun k a b e j => wcp_k (by omega)⟩ (fun k x k0 k1 h => ?_) h0 (Int.le_refl _)
  obtain ⟨q1, q2, q3⟩ := h
  have hpa : 0 ≤ paa c z k ∧ paa c z k < 24 := by
    unfold paa
    unfold szo at hi
    rw [if_pos hz] at hi
    rw [if_pos ⟨hz, k0, by omega⟩]
    exact hA.2 _ (by omega) (by have := (hA.1 (z - 1) (by omega) (by omega)); omega)
  have hN2 := NF_NR (PO_NF q3) hN
  obtain ⟨d1, d2, d3⟩ := pdt_ok (z := bg c 100014 (paa c z k)) (s := s) q1 hN2 q2 (by omega)
  have d4 : PO c (pdt x.2 (bg c 100014 (paa c z k)) s).2 := fun k a b e j => by rw [d3 k a b e]; exact q3 k a b e j
  have hN3 := NF_NR (PO_NF d4) hN
  cases e : x.1 with
  | false => rw [ptf_0 e]; exact ⟨q1, WR_mono q2 (by omega) (by omega), q3⟩
  | true =>
    cases e2 : (pdt x.2 (bg c 100014 (paa c z k)) s).1 with
    | false => rw [ptf_2 e e2]; exact ⟨d1, WR_mono d2 (by omega) (by omega), d4⟩
    | true =>
      rw [ptf_1 e e2]
      refine ⟨drv_RG d1 hN3 d2 (by omega) hpa, WR_mono (drv_WR hN3 d2 (by omega) hpa) (by omega) (by omega), fun k a b e j => ?_⟩
      dsimp only
      rw [drv_k (by omega)]
      exact d4 k a b e j
set_option maxHeartbeats 1000000 in
theorem c_x_planTime {g : Nat} {T : gT} {c J : gC} (hX : XT T) (hT : NT T 100014) (hc : RG c) (hN : NR c 100014) (hW : WT T 100034) (hwn : (T.1 100034).2.2 0 = 100014 + 1) {B : Int} (hR : WR c 100034 B) (hRT : RT T) (hS : SR c) {R Z : Nat} (hP : PT T R Z) (hAp : PR c) (hQ : PQ c R Z) (hD : -1 ≤ c 100014 3 ∧ c 100014 3 < 10) (hf : T.2.1 4 < 100000) (hf0 : (T.1 (4 * 100000 + T.2.1 4)).1 = 0) {z : Int} (hz : -2147483648 ≤ z ∧ z < 2147483648) (hW9 : WT T 100039) (hwp : (T.1 100039).2.2 0 = 100014 + 1) (hB : B ≤ 1100000000) {s : Bool} : gE g 128 8 [.ref 500000, gi z, gi (bi s)] (gm T c J) (fun o M1 => ((1 ≤ z ∧ z ≤ 3) ∧ bcn (mskI (fun a => hA c 100014 a && decide (cl c 100014 a ≤ z)) 24) ≤ 12 ∧ ∃ (T1 : gT) (c1 J1 : gC) (R1 Z1 : Nat), slR T (rfr c) J R Z z T1 c1 J1 R1 Z1 ∧ ((c 100014 1 = 0 ∧ o = .inr 0 ∧ M1 = gm (gTt T1) c1 J1) ∨ (¬ c 100014 1 = 0 ∧ cso c1 z = -1 ∧ o = .inl (some (gi (-1))) ∧ M1 = gm T1 c1 J1) ∨ (¬ c 100014 1 = 0 ∧ ¬ cso c1 z = -1 ∧ o = .inl (some (gi (ptr c1 z s).1)) ∧ M1 = gm T1 (ptr c1 z s).2 J1))) ∨ ((1 ≤ z ∧ z ≤ 3) ∧ ¬ bcn (mskI (fun a => hA c 100014 a && decide (cl c 100014 a ≤ z)) 24) ≤ 12 ∧ o = .inr 0 ∧ M1 = gm (gTt T) c J) ∨ (¬ (1 ≤ z ∧ z ≤ 3) ∧ o = .inr 1 ∧ M1 = gm (gTt T) c J)) := by
  have hn1 := hN.1
  obtain ⟨f1, f2, f3⟩ := rfr_ok hc hS hN
  have f4 : NR (rfr c) 100014 := NF_NR (fun i a b j => f3 i (by omega) (by omega) (by omega) j) hN
  have f5 : WR (rfr c) 100034 B := WR_arg hR (fun k a b j => f3 k (by omega) (by omega) (by omega) j)
  have fn1 := f4.1
  have hk := (PT_k hP).1
  have f6 : PR (rfr c) := PR_cg (f3 100046 (by omega) (by omega) (by omega)) (f3 100048 (by omega) (by omega) (by omega)) hAp
  have f7 : PQ (rfr c) R Z := ⟨by rw [f3 100044 (by omega) (by omega) (by omega)]; exact hQ.1, fun i a b => by rw [f3 100049 (by omega) (by omega) (by omega), f3 100050 (by omega) (by omega) (by omega)]; exact hQ.2.1 i a b, fun i a b => by rw [f3 R (by omega) (by omega) (by omega)]; exact hQ.2.2 i a b⟩
  have f8 : -1 ≤ rfr c 100014 3 ∧ rfr c 100014 3 < 10 := by rw [f3 100014 (by omega) (by omega) (by omega)]; exact hD
  refine gE_mk am_r128 rfl (Or.inr ⟨_, rfl, (by first | exact XT_0 p7 | exact XT_r4 p7 | exact XT_r5 p7 | exact XT_r6 p7 | exact PT_0 p1 | exact NT_0 t1 | exact WT_0 t2 | exact WT_0 t3 | exact XT_0 hX)⟩) (fun d hd => ?_)
  show gw d g 128 0 [.ref 500000, gi z, gi (bi s), am_U, am_U, am_U] [] _ _
  refine gw_al0 at128_0 (gw_il1 at128_1 ?_)
  refine gw_call2 at128_2 (c_solved hX hT hc hN hW hwn hR hRT hS hP hAp hQ hD hf hf0 (by omega)) (by omega) (Nat.le_of_ble_eq_true rfl) (fun o M1 q2 => ?_)
  rcases q2 with ⟨s1, s2, T1, c1, J1, R1, Z1, s3, rfl, rfl⟩ | ⟨s1, s2, rfl, rfl⟩ | ⟨s1, rfl, rfl⟩
  · show gw _ _ _ _ _ (.ref 100044 :: _) _ _
    obtain ⟨p1, p2, p3, p4, p5, p6⟩ := slR_ok hP f1 f2 f6 f7 hf s3
    have p7 : XT T1 := by
      unfold XT at hX ⊢
      rw [p2 500000 (by omega) (by omega)]
      exact hX
    have p8 : RT T1 := by
      unfold RT at hRT ⊢
      rw [p2 100026 (by omega) (by omega), p2 100027 (by omega) (by omega), p2 100028 (by omega) (by omega), p2 100029 (by omega) (by omega)]
      exact hRT
    have p9 := szo_rg p4 z
    have u1 : c1 100014 = c 100014 := funext fun j => by rw [p6 100014 (by omega) (by omega), f3 100014 (by omega) (by omega) (by omega)]
    have t1 : NT T1 100014 := NT_cg (fun k hk => p2 k (by omega) (by omega)) hT
    have t2 : WT T1 100034 := WT_of hW fun k h1 h2 => p2 k (by omega) (by omega)
    have t3 : WT T1 100039 := WT_of hW9 fun k h1 h2 => p2 k (by omega) (by omega)
    have t4 : (T1.1 100039).2.2 0 = 100014 + 1 := by rw [p2 100039 (by omega) (by omega)]; exact hwp
    have t5 : NR c1 100014 := NF_NR (fun i a b j => p6 i (by omega) (by omega) j) f4
    have t6 : WR c1 100034 B := WR_arg f5 fun k a b j => p6 k (by omega) (by omega) j
    have t7 : SR c1 := SR_cg (p6 100027 (by omega) (by omega)) (p6 100028 (by omega) (by omega)) f2
    have t8 := t5.1
    have t9 := t6.2.1
    have t10 : -1 ≤ c1 100014 3 ∧ c1 100014 3 < 10 := by rw [u1]; exact hD
    refine gw_as3 at128_5 (h := (gw_al0 at128_6 (gw_gr at128_7 (by first | exact XT_0 p7 | exact XT_r4 p7 | exact XT_r5 p7 | exact XT_r6 p7 | exact PT_0 p1 | exact NT_0 t1 | exact WT_0 t2 | exact WT_0 t3 | exact XT_0 hX) (by first | exact XT_0 p7 | exact XT_r4 p7 | exact XT_r5 p7 | exact XT_r6 p7 | exact PT_0 p1 | exact NT_0 t1 | exact WT_0 t2 | exact WT_0 t3 | exact XT_0 hX) (gw_gf (j := 1) at128_10 (by first | exact XT_0 p7 | exact XT_r4 p7 | exact XT_r5 p7 | exact XT_r6 p7 | exact PT_0 p1 | exact NT_0 t1 | exact WT_0 t2 | exact WT_0 t3 | exact XT_0 hX) rfl ?_))))
    refine gw_zne at128_13 (by first | omega | (unfold cso; split; exact p3 _ _; omega) | exact p3 _ _ | exact v1 _ _ | exact w1 _ _ | exact y1 _ _) (fun q13 => ?_) (fun q13 => ?_)
    · refine gw_al3 at128_24 (gw_il1 at128_25 (gw_callP2 at128_26 (c_costOf p1 p3 p4 (by omega)) (by omega) (Nat.le_of_ble_eq_true rfl) (gw_const at128_29 ?_)))
      refine gw_cne at128_30 (by first | omega | (unfold cso; split; exact p3 _ _; omega) | exact p3 _ _ | exact v1 _ _ | exact w1 _ _ | exact y1 _ _) (by first | omega | (unfold cso; split; exact p3 _ _; omega) | exact p3 _ _ | exact v1 _ _ | exact w1 _ _ | exact y1 _ _) (fun q30 => ?_) (fun q30 => ?_)
      · refine gw_al0 at128_35 (gw_gr at128_36 (by first | exact XT_0 p7 | exact XT_r4 p7 | exact XT_r5 p7 | exact XT_r6 p7 | exact PT_0 p1 | exact NT_0 t1 | exact WT_0 t2 | exact WT_0 t3 | exact XT_0 hX) (by first | exact XT_0 p7 | exact XT_r4 p7 | exact XT_r5 p7 | exact XT_r6 p7 | exact PT_0 p1 | exact NT_0 t1 | exact WT_0 t2 | exact WT_0 t3 | exact XT_0 hX) (gw_al0 at128_39 (gw_gr at128_40 (by first | exact XT_0 p7 | exact XT_r4 p7 | exact XT_r5 p7 | exact XT_r6 p7 | exact PT_0 p1 | exact NT_0 t1 | exact WT_0 t2 | exact WT_0 t3 | exact XT_0 hX) (by first | exact XT_0 p7 | exact XT_r4 p7 | exact XT_r5 p7 | exact XT_r6 p7 | exact PT_0 p1 | exact NT_0 t1 | exact WT_0 t2 | exact WT_0 t3 | exact XT_0 hX) ?_)))
        refine gw_call2 at128_43 (c_wcopy t3 t2 (by omega)) (by omega) (Nat.le_of_ble_eq_true rfl) (fun o M1 q43 => ?_)
        obtain ⟨rfl, rfl⟩ := q43
        show gw _ _ _ _ _ [] _ _
        refine gw_const at128_46 (gw_is4 at128_47 (h := ?_))
        have lp49 : ∀ i : Int, 0 ≤ i → i ≤ 12 → i ≤ szo c1 z → (ptl c1 z s i).1 = true → ∀ u : Value, am_nl u = true → gw d g 128 49 [.ref 500000, gi z, gi (bi s), .ref 100044, gi i, u] [] (gm T1 (ptl c1 z s i).2 J1) (fun o M1 => ((1 ≤ z ∧ z ≤ 3) ∧ bcn (mskI (fun a => hA c 100014 a && decide (cl c 100014 a ≤ z)) 24) ≤ 12 ∧ ∃ (T1 : gT) (c1 J1 : gC) (R1 Z1 : Nat), slR T (rfr c) J R Z z T1 c1 J1 R1 Z1 ∧ ((c 100014 1 = 0 ∧ o = .inr 0 ∧ M1 = gm (gTt T1) c1 J1) ∨ (¬ c 100014 1 = 0 ∧ cso c1 z = -1 ∧ o = .inl (some (gi (-1))) ∧ M1 = gm T1 c1 J1) ∨ (¬ c 100014 1 = 0 ∧ ¬ cso c1 z = -1 ∧ o = .inl (some (gi (ptr c1 z s).1)) ∧ M1 = gm T1 (ptr c1 z s).2 J1))) ∨ ((1 ≤ z ∧ z ≤ 3) ∧ ¬ bcn (mskI (fun a => hA c 100014 a && decide (cl c 100014 a ≤ z)) 24) ≤ 12 ∧ o = .inr 0 ∧ M1 = gm (gTt T) c J) ∨ (¬ (1 ≤ z ∧ z ≤ 3) ∧ o = .inr 1 ∧ M1 = gm (gTt T) c J)) := by
          refine ind_up 12 ?_
          intro i hi0 hi1 ih hi2 hi3 u hu
          obtain ⟨v1, v2, v6⟩ := ptl_ok (s := s) p3 t5 p4 t6 (by omega) s1 hi0 hi2
          have v3 : PR (ptl c1 z s i).2 := PR_cg (v6 100046 (by omega) (by omega) (by omega)) (v6 100048 (by omega) (by omega) (by omega)) p4
          have v4 : NR (ptl c1 z s i).2 100014 := NF_NR (PO_NF v6) t5
          have v5 : SR (ptl c1 z s i).2 := SR_cg (v6 100027 (by omega) (by omega) (by omega)) (v6 100028 (by omega) (by omega) (by omega)) t7
          have b0 := hR.1
          have e1 : szo (ptl c1 z s i).2 z = szo c1 z := by unfold szo; rw [v6 100046 (by omega) (by omega) (by omega)]
          have e2 : paa (ptl c1 z s i).2 z i = paa c1 z i := by unfold paa; rw [v6 100046 (by omega) (by omega) (by omega), v6 100048 (by omega) (by omega) (by omega)]
          have e3 : bg (ptl c1 z s i).2 100014 (paa c1 z i) = bg c1 100014 (paa c1 z i) := NF_bg (PO_NF v6) _
          have e5 := paa_rg p4 z i
          have e6 := bg_rg t5 (paa c1 z i)
          have e7 : (ptl c1 z s i).2 100014 3 = c1 100014 3 := v6 100014 (by omega) (by omega) (by omega) 3
          have e8 : (ptl c1 z s i).2 100034 1 = c1 100034 1 := v6 100034 (by omega) (by omega) (by omega) 1
          obtain ⟨w1, w2, w3⟩ := pdt_ok (z := bg c1 100014 (paa c1 z i)) (s := s) v1 v4 v2 (by omega)
          obtain ⟨y1, y2, y3⟩ := pdt_ok (z := c1 100014 3) (s := s) v1 v4 v2 (by omega)
          have w4 : NR (pdt (ptl c1 z s i).2 (bg c1 100014 (paa c1 z i)) s).2 100014 := NF_NR (fun i a b j => w3 i (by omega) (by omega) (by omega) j) v4
          refine gw_il4 at128_49 ?_
          refine gw_al3 at128_51 (gw_il1 at128_52 (gw_callP2 at128_53 (c_sizeOf p1 v1 v3 (by omega)) (by omega) (Nat.le_of_ble_eq_true rfl) ?_))
          rw [e1]
          refine gw_cge at128_56 (by first | omega | (unfold cso; split; exact p3 _ _; omega) | exact p3 _ _ | exact v1 _ _ | exact w1 _ _ | exact y1 _ _) (by first | omega | (unfold cso; split; exact p3 _ _; omega) | exact p3 _ _ | exact v1 _ _ | exact w1 _ _ | exact y1 _ _) (fun q56 => ?_) (fun q56 => ?_)
          · refine gw_al0 at128_104 (gw_al0 at128_105 (gw_gr at128_106 (by first | exact XT_0 p7 | exact XT_r4 p7 | exact XT_r5 p7 | exact XT_r6 p7 | exact PT_0 p1 | exact NT_0 t1 | exact WT_0 t2 | exact WT_0 t3 | exact XT_0 hX) (by first | exact XT_0 p7 | exact XT_r4 p7 | exact XT_r5 p7 | exact XT_r6 p7 | exact PT_0 p1 | exact NT_0 t1 | exact WT_0 t2 | exact WT_0 t3 | exact XT_0 hX) (gw_gf (j := 3) at128_109 (by first | exact XT_0 p7 | exact XT_r4 p7 | exact XT_r5 p7 | exact XT_r6 p7 | exact PT_0 p1 | exact NT_0 t1 | exact WT_0 t2 | exact WT_0 t3 | exact XT_0 hX) rfl ?_)))
            rw [e7]
            refine gw_il2 at128_112 ?_
            refine gw_call3 at128_113 (c_predict p7 p8 t1 v1 v5 v4 t3 t4 v2 (by omega) (by omega)) (by omega) (Nat.le_of_ble_eq_true rfl) (fun o M1 q113 => ?_)
            obtain ⟨rfl, rfl⟩ := q113
            show gw _ _ _ _ _ (gi _ :: []) _ _
            refine gw_bne at128_116 (fun q116 => ?_) (fun q116 => ?_)
            · refine gw_al0 at128_121 (gw_gr at128_122 (by first | exact XT_0 p7 | exact XT_r4 p7 | exact XT_r5 p7 | exact XT_r6 p7 | exact PT_0 p1 | exact NT_0 t1 | exact WT_0 t2 | exact WT_0 t3 | exact XT_0 hX) (by first | exact XT_0 p7 | exact XT_r4 p7 | exact XT_r5 p7 | exact XT_r6 p7 | exact PT_0 p1 | exact NT_0 t1 | exact WT_0 t2 | exact WT_0 t3 | exact XT_0 hX) (gw_gf (j := 1) at128_125 (by first | exact XT_0 p7 | exact XT_r4 p7 | exact XT_r5 p7 | exact XT_r6 p7 | exact PT_0 p1 | exact NT_0 t1 | exact WT_0 t2 | exact WT_0 t3 | exact XT_0 hX) rfl (gw_al0 at128_128 (gw_gr at128_129 (by first | exact XT_0 p7 | exact XT_r4 p7 | exact XT_r5 p7 | exact XT_r6 p7 | exact PT_0 p1 | exact NT_0 t1 | exact WT_0 t2 | exact WT_0 t3 | exact XT_0 hX) (by first | exact XT_0 p7 | exact XT_r4 p7 | exact XT_r5 p7 | exact XT_r6 p7 | exact PT_0 p1 | exact NT_0 t1 | exact WT_0 t2 | exact WT_0 t3 | exact XT_0 hX) (gw_gf (j := 1) at128_132 (by first | exact XT_0 p7 | exact XT_r4 p7 | exact XT_r5 p7 | exact XT_r6 p7 | exact PT_0 p1 | exact NT_0 t1 | exact WT_0 t2 | exact WT_0 t3 | exact XT_0 hX) rfl ?_)))))
              rw [show (pdt (ptl c1 z s i).2 (c1 100014 3) s).2 100034 1 = c1 100034 1 by rw [y3 100034 (by omega) (by omega) (by omega)]; exact e8]
              refine gw_isub at128_135 (gw_ri at128_136 am_r128.2.1 ?_)
              refine Or.inl ⟨s1, s2, T1, c1, J1, R1, Z1, s3, Or.inr (Or.inr ⟨by rw [← u1]; omega, by assumption, ?_⟩)⟩
              have h5 : szo c1 z = i := by omega
              rw [ptr_1 (by rw [h5]; exact hi3) (by rw [h5]; exact q116), h5]
              exact ⟨rfl, rfl⟩
            · refine gw_const at128_119 (gw_ri at128_120 am_r128.2.1 ?_)
              refine Or.inl ⟨s1, s2, T1, c1, J1, R1, Z1, s3, Or.inr (Or.inr ⟨by rw [← u1]; omega, by assumption, ?_⟩)⟩
              have h5 : szo c1 z = i := by omega
              rw [ptr_2 (by rw [h5]; exact hi3) (by rw [h5]; exact q116), h5]
              exact ⟨rfl, rfl⟩
          · refine gw_al3 at128_59 (gw_il1 at128_60 (gw_il4 at128_61 (gw_callP3 at128_63 (c_arcAt p1 v1 v3 (by omega) (by omega)) (by omega) (Nat.le_of_ble_eq_true rfl) ?_)))
            rw [e2]
            have hpa : 0 ≤ paa c1 z i ∧ paa c1 z i < 24 := by
              have hi4 := hi2
              unfold paa
              unfold szo at q56 hi4
              rw [if_pos s1] at q56 hi4
              rw [if_pos ⟨s1, hi0, by omega⟩]
              exact p4.2 _ (by omega) (by have := (p4.1 (z - 1) (by omega) (by omega)); omega)
            refine gw_is5 at128_66 (h := (gw_al0 at128_68 (gw_al0 at128_69 (gw_gr at128_70 (by first | exact XT_0 p7 | exact XT_r4 p7 | exact XT_r5 p7 | exact XT_r6 p7 | exact PT_0 p1 | exact NT_0 t1 | exact WT_0 t2 | exact WT_0 t3 | exact XT_0 hX) (by first | exact XT_0 p7 | exact XT_r4 p7 | exact XT_r5 p7 | exact XT_r6 p7 | exact PT_0 p1 | exact NT_0 t1 | exact WT_0 t2 | exact WT_0 t3 | exact XT_0 hX) (gw_il5 at128_73 (gw_callP2 at128_75 (c_beginOf t1 v1 (by omega)) (by omega) (Nat.le_of_ble_eq_true rfl) ?_))))))
            rw [e3]
            refine gw_il2 at128_78 ?_
            refine gw_call3 at128_79 (c_predict p7 p8 t1 v1 v5 v4 t3 t4 v2 (by omega) (by omega)) (by omega) (Nat.le_of_ble_eq_true rfl) (fun o M1 q79 => ?_)
            obtain ⟨rfl, rfl⟩ := q79
            show gw _ _ _ _ _ (gi _ :: []) _ _
            refine gw_bne at128_82 (fun q82 => ?_) (fun q82 => ?_)
            · refine gw_al0 at128_87 (gw_gr at128_88 (by first | exact XT_0 p7 | exact XT_r4 p7 | exact XT_r5 p7 | exact XT_r6 p7 | exact PT_0 p1 | exact NT_0 t1 | exact WT_0 t2 | exact WT_0 t3 | exact XT_0 hX) (by first | exact XT_0 p7 | exact XT_r4 p7 | exact XT_r5 p7 | exact XT_r6 p7 | exact PT_0 p1 | exact NT_0 t1 | exact WT_0 t2 | exact WT_0 t3 | exact XT_0 hX) (gw_il5 at128_91 (gw_il2 at128_93 ?_)))
              refine gw_call3 at128_94 (c_driveArc t1 w4 t3 t4 w1 w2 (by omega) (by omega) hpa) (by omega) (Nat.le_of_ble_eq_true rfl) (fun o M1 q94 => ?_)
              obtain ⟨rfl, rfl⟩ := q94
              show gw _ _ _ _ _ (gi _ :: []) _ _
              refine gw_popi at128_97 (gw_inc4 at128_98 (h := (gw_goto at128_101 ?_)))
              have h8 := ih (i + 1) (by omega) (by omega) (by omega) ?_ (gi (paa c1 z i)) rfl
              · unfold ptl at h8
                rw [itI_s _ _ hi0] at h8
                rw [show ptf c1 z s i (itI (ptf c1 z s) (true, wcp c1 100039 100034) i) = _ from ptf_1 hi3 q82] at h8
                exact h8
              · unfold ptl
                rw [itI_s _ _ hi0, show ptf c1 z s i (itI (ptf c1 z s) (true, wcp c1 100039 100034) i) = _ from ptf_1 hi3 q82]
            · refine gw_const at128_85 (gw_ri at128_86 am_r128.2.1 ?_)
              refine Or.inl ⟨s1, s2, T1, c1, J1, R1, Z1, s3, Or.inr (Or.inr ⟨by rw [← u1]; omega, by assumption, ?_⟩)⟩
              have h7 : ptl c1 z s (i + 1) = (false, (pdt (ptl c1 z s i).2 (bg c1 100014 (paa c1 z i)) s).2) := by
                unfold ptl
                rw [itI_s _ _ hi0]
                exact ptf_2 hi3 q82
              have h6 : ptl c1 z s (szo c1 z) = (false, (pdt (ptl c1 z s i).2 (bg c1 100014 (paa c1 z i)) s).2) := by
                rw [← h7]
                unfold ptl at h7 ⊢
                exact itI_fx (by omega) (fun j hj => by rw [h7]; exact ptf_0 rfl) _ (by omega)
              rw [ptr_0 (by rw [h6]), h6]
              exact ⟨rfl, rfl⟩
        refine lp49 0 (by omega) (by omega) (by omega) rfl _ rfl
      · refine gw_const at128_33 (gw_ri at128_34 am_r128.2.1 ?_)
        exact Or.inl ⟨s1, s2, T1, c1, J1, R1, Z1, s3, Or.inr (Or.inl ⟨by rw [← u1]; omega, by assumption, rfl, rfl⟩)⟩
    · refine gw_thr at128_16 (by omega) (Nat.le_of_ble_eq_true rfl) ?_
      exact Or.inl ⟨s1, s2, T1, c1, J1, R1, Z1, s3, Or.inl ⟨by rw [← u1]; omega, rfl, rfl⟩⟩
  · refine gK_thr (am_h128 _ (by decide)) ?_
    exact Or.inr (Or.inl ⟨s1, s2, rfl, rfl⟩)
  · refine gK_thr (am_h128 _ (by decide)) ?_
    exact Or.inr (Or.inr ⟨s1, rfl, rfl⟩)
