/-! the class: undo -/
set_option maxHeartbeats 1000000 in
theorem c_x_undoN {g : Nat} {T : gT} {c J : gC} (hX : XT T) (hH : HT T) (hc : RG c) (hn : 0 ≤ c 100052 1 ∧ c 100052 1 < 10) (hm : 0 ≤ c 100052 2 ∧ c 100052 2 ≤ 10) (hT : NT T 100014) (hW : WT T 100034) (hr : (T.1 100053).2.2 ((c 100052 1 + 10 - 1) % 10).toNat = 0) : gE g 157 6 [.ref 500000] (gm T c J) (fun o M1 => o = .inr 0 ∧ M1 = gm (gTt T) c J) := by
  refine gE_mk am_r157 rfl (Or.inr ⟨_, rfl, (by first | exact XT_0 hX | exact XT_r4 hX | exact XT_r5 hX | exact XT_r9 hX | exact hH.1)⟩) (fun d hd => ?_)
  show gw d g 157 0 [.ref 500000] [] _ _
  refine gw_al0 at157_0 (gw_gr at157_1 (by first | exact XT_0 hX | exact XT_r4 hX | exact XT_r5 hX | exact XT_r9 hX | exact hH.1) (by first | exact XT_0 hX | exact XT_r4 hX | exact XT_r5 hX | exact XT_r9 hX | exact hH.1) (gw_al0 at157_4 (gw_gr at157_5 (by first | exact XT_0 hX | exact XT_r4 hX | exact XT_r5 hX | exact XT_r9 hX | exact hH.1) (by first | exact XT_0 hX | exact XT_r4 hX | exact XT_r5 hX | exact XT_r9 hX | exact hH.1) (gw_al0 at157_8 (gw_gr at157_9 (by first | exact XT_0 hX | exact XT_r4 hX | exact XT_r5 hX | exact XT_r9 hX | exact hH.1) (by first | exact XT_0 hX | exact XT_r4 hX | exact XT_r5 hX | exact XT_r9 hX | exact hH.1) ?_)))))
  refine gw_call3 at157_12 (c_restoreN hH hc hn hm hT hW hr) (by omega) (Nat.le_of_ble_eq_true rfl) (fun o M1 q12 => ?_)
  obtain ⟨rfl, rfl⟩ := q12
  show gw _ _ _ _ _ (gi (bi false) :: _) _ _
  refine gw_bne at157_15 (fun q15 => ?_) (fun q15 => ?_)
  · refine gw_al0 at157_26 (gw_gr at157_27 (by first | exact XT_0 hX | exact XT_r4 hX | exact XT_r5 hX | exact XT_r9 hX | exact hH.1) (by first | exact XT_0 hX | exact XT_r4 hX | exact XT_r5 hX | exact XT_r9 hX | exact hH.1) (gw_gf (j := 2) at157_30 (by first | exact XT_0 hX | exact XT_r4 hX | exact XT_r5 hX | exact XT_r9 hX | exact hH.1) rfl (gw_ri at157_33 am_r157.2.1 ?_)))
    exact absurd q15 (by decide)
  · refine gw_thr at157_18 (by omega) (Nat.le_of_ble_eq_true rfl) ?_
    exact ⟨rfl, rfl⟩
set_option maxHeartbeats 1000000 in
theorem c_x_undo {g : Nat} {T : gT} {c J : gC} (hX : XT T) (hH : HT T) (hc : RG c) (hn : 0 ≤ c 100052 1 ∧ c 100052 1 < 10) (hm : 0 ≤ c 100052 2 ∧ c 100052 2 ≤ 10) (hT : NT T 100014) (hW : WT T 100034) {q : Nat} (hr : (T.1 100053).2.2 ((c 100052 1 + 10 - 1) % 10).toNat = q + 1) (hZ : ZT T q) (hq : 300000 ≤ q ∧ q < 400000) : gE g 157 6 [.ref 500000] (gm T c J) (fun o M1 => (c 100052 2 = 0 ∧ o = .inr 0 ∧ M1 = gm (gTt T) c J) ∨ (¬ c 100052 2 = 0 ∧ o = .inl (some (gi (hrs c q 100052 2))) ∧ M1 = gm T (hrs c q) J)) := by
  refine gE_mk am_r157 rfl (Or.inr ⟨_, rfl, (by first | exact XT_0 hX | exact XT_r4 hX | exact XT_r5 hX | exact XT_r9 hX | exact hH.1)⟩) (fun d hd => ?_)
  show gw d g 157 0 [.ref 500000] [] _ _
  refine gw_al0 at157_0 (gw_gr at157_1 (by first | exact XT_0 hX | exact XT_r4 hX | exact XT_r5 hX | exact XT_r9 hX | exact hH.1) (by first | exact XT_0 hX | exact XT_r4 hX | exact XT_r5 hX | exact XT_r9 hX | exact hH.1) (gw_al0 at157_4 (gw_gr at157_5 (by first | exact XT_0 hX | exact XT_r4 hX | exact XT_r5 hX | exact XT_r9 hX | exact hH.1) (by first | exact XT_0 hX | exact XT_r4 hX | exact XT_r5 hX | exact XT_r9 hX | exact hH.1) (gw_al0 at157_8 (gw_gr at157_9 (by first | exact XT_0 hX | exact XT_r4 hX | exact XT_r5 hX | exact XT_r9 hX | exact hH.1) (by first | exact XT_0 hX | exact XT_r4 hX | exact XT_r5 hX | exact XT_r9 hX | exact hH.1) ?_)))))
  refine gw_call3 at157_12 (c_restore hH hc hn hm hT hW hr hZ hq) (by omega) (Nat.le_of_ble_eq_true rfl) (fun o M1 q12 => ?_)
  rcases q12 with ⟨h1, rfl, rfl⟩ | ⟨h1, rfl, rfl⟩
  · show gw _ _ _ _ _ (gi (bi false) :: _) _ _
    refine gw_bne at157_15 (fun q15 => ?_) (fun q15 => ?_)
    · refine gw_al0 at157_26 (gw_gr at157_27 (by first | exact XT_0 hX | exact XT_r4 hX | exact XT_r5 hX | exact XT_r9 hX | exact hH.1) (by first | exact XT_0 hX | exact XT_r4 hX | exact XT_r5 hX | exact XT_r9 hX | exact hH.1) (gw_gf (j := 2) at157_30 (by first | exact XT_0 hX | exact XT_r4 hX | exact XT_r5 hX | exact XT_r9 hX | exact hH.1) rfl (gw_ri at157_33 am_r157.2.1 ?_)))
      first | exact Or.inr ⟨h1, rfl, rfl⟩ | exact absurd q15 (by decide)
    · refine gw_thr at157_18 (by omega) (Nat.le_of_ble_eq_true rfl) ?_
      first | exact Or.inl ⟨h1, rfl, rfl⟩ | exact absurd q15 (by decide)
  · show gw _ _ _ _ _ (gi (bi true) :: _) _ _
    refine gw_bne at157_15 (fun q15 => ?_) (fun q15 => ?_)
    · refine gw_al0 at157_26 (gw_gr at157_27 (by first | exact XT_0 hX | exact XT_r4 hX | exact XT_r5 hX | exact XT_r9 hX | exact hH.1) (by first | exact XT_0 hX | exact XT_r4 hX | exact XT_r5 hX | exact XT_r9 hX | exact hH.1) (gw_gf (j := 2) at157_30 (by first | exact XT_0 hX | exact XT_r4 hX | exact XT_r5 hX | exact XT_r9 hX | exact hH.1) rfl (gw_ri at157_33 am_r157.2.1 ?_)))
      first | exact Or.inr ⟨h1, rfl, rfl⟩ | exact absurd q15 (by decide)
    · refine gw_thr at157_18 (by omega) (Nat.le_of_ble_eq_true rfl) ?_
      first | exact Or.inl ⟨h1, rfl, rfl⟩ | exact absurd q15 (by decide)
