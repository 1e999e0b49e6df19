/-! the reference: names -/
def mnh1 (c : gC) : gC := mfi (!(decide (c 500001 19 = 1) && decide (c 500001 17 - c 500001 18 ≤ 6)) || mkw2 c) c 1
def mnh2 (c : gC) : Int × gC := (if mgd c = true then mpk c else 0, c)
def mnh (c : gC) : Int × gC := mnh2 (mnh1 c)
theorem MS_nh {b : Nat} {c m : gC} (hb : ¬ b = 500001) (h : MS b c m) : MS b c (mnh m).2 := MS_fi hb h (by decide)
theorem mnh_rg {c : gC} (h : MJ c) : 0 ≤ (mnh c).1 ∧ (mnh c).1 < 387420489 := by
  unfold mnh mnh2 mnh1
  dsimp only
  split
  · rename_i e
    have e2 : mgd c = true := by
      revert e
      unfold mfi
      split
      · rename_i e3; intro; revert e3; cases mgd c <;> simp
      · exact id
    cases e3 : (!(decide (c 500001 19 = 1) && decide (c 500001 17 - c 500001 18 ≤ 6)) || mkw2 c) with
    | true =>
      rw [e3, mfi_2 e2 rfl] at e
      revert e
      unfold mfl mgd at *
      rw [if_pos (of_decide_eq_true e2), gu_j (by decide), gu_s]
      intro e; exact absurd e (by decide)
    | false =>
      rw [mfi_1 rfl]
      simp only [Bool.or_eq_false_iff, Bool.not_eq_false', Bool.and_eq_true, decide_eq_true_eq] at e3
      have := mpk_rg h e3.1.1 (i := 6) (by decide) (by decide)
      have hb6 : bw 6 = 387420489 := by decide
      rw [hb6] at this
      exact this
  · decide
set_option maxHeartbeats 1000000 in
theorem m_nh41 {d g : Nat} {T : gT} {c J : gC} (hd : 5 ≤ d) {b : Nat} (hM : MT T b) (h : MP b c) (hw : mgd c = true → c 500001 19 = 1) : gw d g 304 41 [.ref 500001] [] (gm T c J) (fun o M1 => o = .inl (some (gi (mnh2 c).1)) ∧ M1 = gm T (mnh2 c).2 J) := by
  refine gw_al0 at304_41 (gw_callP1 at304_42 (m_good hM h.1.1.1) (by omega) (Nat.le_of_ble_eq_true rfl) ?_)
  refine gw_beq at304_45 (fun q45 => ?_) (fun q45 => ?_)
  · refine gw_const at304_55 (gw_ri at304_56 am_r304.2.1 ?_)
    unfold mnh2
    rw [q45]
    exact ⟨rfl, rfl⟩
  · refine gw_al0 at304_48 (gw_callP1 at304_49 (m_packed hM h (hw q45)) (by omega) (Nat.le_of_ble_eq_true rfl) (gw_goto at304_52 (gw_ri at304_56 am_r304.2.1 ?_)))
    unfold mnh2
    rw [q45]
    exact ⟨rfl, rfl⟩
set_option maxHeartbeats 1000000 in
theorem m_nameHere {g : Nat} {T : gT} {c J : gC} {b : Nat} (hM : MT T b) (h : MP b c) (hb : ¬ b = 500001) (hL : LT T c) : gE g 304 6 [.ref 500001] (gm T c J) (fun o M1 => o = .inl (some (gi (mnh c).1)) ∧ M1 = gm T (mnh c).2 J) := by
  have h8 := (MS_fi (p := !(decide (c 500001 19 = 1) && decide (c 500001 17 - c 500001 18 ≤ 6)) || mkw2 c) (z := 1) hb (MS_rf h) (by decide)).1
  have hs9 := h.1.1.2.1
  have hs8 := h.1.2.1
  refine gE_mk am_r304 rfl (Or.inr ⟨_, rfl, (by first | exact MT_0 hM | exact MT_now hM | exact MT_bt hM | exact MT_bl hM | exact MT_r0 hM | exact MT_t0 hM | exact MT_l0 hM | exact MT_r1 hM | exact MT_t1 hM | exact MT_l1 hM | exact MT_r2 hM | exact MT_t2 hM | exact MT_l2 hM | exact MT_r3 hM | exact MT_t3 hM | exact MT_l3 hM | exact MT_r4 hM | exact MT_t4 hM | exact MT_l4 hM | exact MT_r5 hM | exact MT_t5 hM | exact MT_l5 hM | exact MT_r6 hM | exact MT_t6 hM | exact MT_l6 hM | exact MT_r7 hM | exact MT_t7 hM | exact MT_l7 hM | exact MT_r8 hM | exact MT_t8 hM | exact MT_l8 hM | exact MT_r9 hM | exact MT_t9 hM | exact MT_l9 hM | exact MT_r10 hM | exact MT_t10 hM | exact MT_l10 hM)⟩) (fun d hd => ?_)
  show gw d g 304 0 [.ref 500001] [] _ _
  refine gw_al0 at304_0 (gw_callP1 at304_1 (m_good hM h.1.1.1) (by omega) (Nat.le_of_ble_eq_true rfl) ?_)
  have hfl : mgd c = true → (mgd (mfl c 1) = true → mfl c 1 500001 19 = 1) := fun e e2 => by
    revert e2
    unfold mfl mgd at *
    rw [if_pos (of_decide_eq_true e), gu_j (by decide), gu_s]
    intro e2; exact absurd e2 (by decide)
  refine gw_beq at304_4 (fun q4 => ?_) (fun q4 => ?_)
  · unfold mnh
    first
    | (rw [show mnh1 c = c from mfi_0 q4]; exact m_nh41 (by omega) hM h (fun e => absurd e (by rw [q4]; decide)))
    | (rw [show mnh1 c = c from mfi_1 (by rw [q33, decide_eq_true (show c 500001 19 = 1 by omega), decide_eq_true (show c 500001 17 - c 500001 18 ≤ 6 by omega)]; rfl)]; exact m_nh41 (by omega) hM h (fun _ => by omega))
    | (have e9 : mnh1 c = mfl c 1 := mfi_2 q4 (by rw [decide_eq_false (show ¬ c 500001 19 = 1 by omega)]; rfl)
       rw [e9]; unfold mnh1 at e9; rw [e9] at h8; exact m_nh41 (by omega) hM h8 (hfl q4))
    | (have e9 : mnh1 c = mfl c 1 := mfi_2 q4 (by rw [decide_eq_false (show ¬ c 500001 17 - c 500001 18 ≤ 6 by omega)]; simp)
       rw [e9]; unfold mnh1 at e9; rw [e9] at h8; exact m_nh41 (by omega) hM h8 (hfl q4))
    | (have e9 : mnh1 c = mfl c 1 := mfi_2 q4 (by rw [q33]; simp)
       rw [e9]; unfold mnh1 at e9; rw [e9] at h8; exact m_nh41 (by omega) hM h8 (hfl q4))
  · refine gw_al0 at304_7 (gw_gf (j := 19) at304_8 (by first | exact MT_0 hM | exact MT_now hM | exact MT_bt hM | exact MT_bl hM | exact MT_r0 hM | exact MT_t0 hM | exact MT_l0 hM | exact MT_r1 hM | exact MT_t1 hM | exact MT_l1 hM | exact MT_r2 hM | exact MT_t2 hM | exact MT_l2 hM | exact MT_r3 hM | exact MT_t3 hM | exact MT_l3 hM | exact MT_r4 hM | exact MT_t4 hM | exact MT_l4 hM | exact MT_r5 hM | exact MT_t5 hM | exact MT_l5 hM | exact MT_r6 hM | exact MT_t6 hM | exact MT_l6 hM | exact MT_r7 hM | exact MT_t7 hM | exact MT_l7 hM | exact MT_r8 hM | exact MT_t8 hM | exact MT_l8 hM | exact MT_r9 hM | exact MT_t9 hM | exact MT_l9 hM | exact MT_r10 hM | exact MT_t10 hM | exact MT_l10 hM) rfl (gw_const at304_11 ?_))
    refine gw_cne at304_12 (by first | omega | exact h.1.1.1 _ _ | exact bi_rg _) (by first | omega | exact h.1.1.1 _ _ | exact bi_rg _) (fun q12 => ?_) (fun q12 => ?_)
    · refine gw_al0 at304_36 (gw_const at304_37 ?_)
      refine gw_call2 at304_38 (m_fail hM h.1.1.1) (by omega) (Nat.le_of_ble_eq_true rfl) (fun o M1 q38 => ?_)
      obtain ⟨rfl, rfl⟩ := q38
      show gw _ _ _ _ _ [] _ _
      unfold mnh
      first
      | (rw [show mnh1 c = c from mfi_0 q4]; exact m_nh41 (by omega) hM h (fun e => absurd e (by rw [q4]; decide)))
      | (rw [show mnh1 c = c from mfi_1 (by rw [q33, decide_eq_true (show c 500001 19 = 1 by omega), decide_eq_true (show c 500001 17 - c 500001 18 ≤ 6 by omega)]; rfl)]; exact m_nh41 (by omega) hM h (fun _ => by omega))
      | (have e9 : mnh1 c = mfl c 1 := mfi_2 q4 (by rw [decide_eq_false (show ¬ c 500001 19 = 1 by omega)]; rfl)
         rw [e9]; unfold mnh1 at e9; rw [e9] at h8; exact m_nh41 (by omega) hM h8 (hfl q4))
      | (have e9 : mnh1 c = mfl c 1 := mfi_2 q4 (by rw [decide_eq_false (show ¬ c 500001 17 - c 500001 18 ≤ 6 by omega)]; simp)
         rw [e9]; unfold mnh1 at e9; rw [e9] at h8; exact m_nh41 (by omega) hM h8 (hfl q4))
      | (have e9 : mnh1 c = mfl c 1 := mfi_2 q4 (by rw [q33]; simp)
         rw [e9]; unfold mnh1 at e9; rw [e9] at h8; exact m_nh41 (by omega) hM h8 (hfl q4))
    · refine gw_al0 at304_15 (gw_gf (j := 17) at304_16 (by first | exact MT_0 hM | exact MT_now hM | exact MT_bt hM | exact MT_bl hM | exact MT_r0 hM | exact MT_t0 hM | exact MT_l0 hM | exact MT_r1 hM | exact MT_t1 hM | exact MT_l1 hM | exact MT_r2 hM | exact MT_t2 hM | exact MT_l2 hM | exact MT_r3 hM | exact MT_t3 hM | exact MT_l3 hM | exact MT_r4 hM | exact MT_t4 hM | exact MT_l4 hM | exact MT_r5 hM | exact MT_t5 hM | exact MT_l5 hM | exact MT_r6 hM | exact MT_t6 hM | exact MT_l6 hM | exact MT_r7 hM | exact MT_t7 hM | exact MT_l7 hM | exact MT_r8 hM | exact MT_t8 hM | exact MT_l8 hM | exact MT_r9 hM | exact MT_t9 hM | exact MT_l9 hM | exact MT_r10 hM | exact MT_t10 hM | exact MT_l10 hM) rfl (gw_al0 at304_19 (gw_gf (j := 18) at304_20 (by first | exact MT_0 hM | exact MT_now hM | exact MT_bt hM | exact MT_bl hM | exact MT_r0 hM | exact MT_t0 hM | exact MT_l0 hM | exact MT_r1 hM | exact MT_t1 hM | exact MT_l1 hM | exact MT_r2 hM | exact MT_t2 hM | exact MT_l2 hM | exact MT_r3 hM | exact MT_t3 hM | exact MT_l3 hM | exact MT_r4 hM | exact MT_t4 hM | exact MT_l4 hM | exact MT_r5 hM | exact MT_t5 hM | exact MT_l5 hM | exact MT_r6 hM | exact MT_t6 hM | exact MT_l6 hM | exact MT_r7 hM | exact MT_t7 hM | exact MT_l7 hM | exact MT_r8 hM | exact MT_t8 hM | exact MT_l8 hM | exact MT_r9 hM | exact MT_t9 hM | exact MT_l9 hM | exact MT_r10 hM | exact MT_t10 hM | exact MT_l10 hM) rfl (gw_isub at304_23 (gw_bip at304_24 (by decide) ?_)))))
      refine gw_cgt at304_26 (by first | omega | exact h.1.1.1 _ _ | exact bi_rg _) (by first | omega | exact h.1.1.1 _ _ | exact bi_rg _) (fun q26 => ?_) (fun q26 => ?_)
      · refine gw_al0 at304_36 (gw_const at304_37 ?_)
        refine gw_call2 at304_38 (m_fail hM h.1.1.1) (by omega) (Nat.le_of_ble_eq_true rfl) (fun o M1 q38 => ?_)
        obtain ⟨rfl, rfl⟩ := q38
        show gw _ _ _ _ _ [] _ _
        unfold mnh
        first
        | (rw [show mnh1 c = c from mfi_0 q4]; exact m_nh41 (by omega) hM h (fun e => absurd e (by rw [q4]; decide)))
        | (rw [show mnh1 c = c from mfi_1 (by rw [q33, decide_eq_true (show c 500001 19 = 1 by omega), decide_eq_true (show c 500001 17 - c 500001 18 ≤ 6 by omega)]; rfl)]; exact m_nh41 (by omega) hM h (fun _ => by omega))
        | (have e9 : mnh1 c = mfl c 1 := mfi_2 q4 (by rw [decide_eq_false (show ¬ c 500001 19 = 1 by omega)]; rfl)
           rw [e9]; unfold mnh1 at e9; rw [e9] at h8; exact m_nh41 (by omega) hM h8 (hfl q4))
        | (have e9 : mnh1 c = mfl c 1 := mfi_2 q4 (by rw [decide_eq_false (show ¬ c 500001 17 - c 500001 18 ≤ 6 by omega)]; simp)
           rw [e9]; unfold mnh1 at e9; rw [e9] at h8; exact m_nh41 (by omega) hM h8 (hfl q4))
        | (have e9 : mnh1 c = mfl c 1 := mfi_2 q4 (by rw [q33]; simp)
           rw [e9]; unfold mnh1 at e9; rw [e9] at h8; exact m_nh41 (by omega) hM h8 (hfl q4))
      · refine gw_al0 at304_29 (gw_callP1 at304_30 (m_isKw hM h hL) (by omega) (Nat.le_of_ble_eq_true rfl) ?_)
        refine gw_beq at304_33 (fun q33 => ?_) (fun q33 => ?_)
        · unfold mnh
          first
          | (rw [show mnh1 c = c from mfi_0 q4]; exact m_nh41 (by omega) hM h (fun e => absurd e (by rw [q4]; decide)))
          | (rw [show mnh1 c = c from mfi_1 (by rw [q33, decide_eq_true (show c 500001 19 = 1 by omega), decide_eq_true (show c 500001 17 - c 500001 18 ≤ 6 by omega)]; rfl)]; exact m_nh41 (by omega) hM h (fun _ => by omega))
          | (have e9 : mnh1 c = mfl c 1 := mfi_2 q4 (by rw [decide_eq_false (show ¬ c 500001 19 = 1 by omega)]; rfl)
             rw [e9]; unfold mnh1 at e9; rw [e9] at h8; exact m_nh41 (by omega) hM h8 (hfl q4))
          | (have e9 : mnh1 c = mfl c 1 := mfi_2 q4 (by rw [decide_eq_false (show ¬ c 500001 17 - c 500001 18 ≤ 6 by omega)]; simp)
             rw [e9]; unfold mnh1 at e9; rw [e9] at h8; exact m_nh41 (by omega) hM h8 (hfl q4))
          | (have e9 : mnh1 c = mfl c 1 := mfi_2 q4 (by rw [q33]; simp)
             rw [e9]; unfold mnh1 at e9; rw [e9] at h8; exact m_nh41 (by omega) hM h8 (hfl q4))
        · refine gw_al0 at304_36 (gw_const at304_37 ?_)
          refine gw_call2 at304_38 (m_fail hM h.1.1.1) (by omega) (Nat.le_of_ble_eq_true rfl) (fun o M1 q38 => ?_)
          obtain ⟨rfl, rfl⟩ := q38
          show gw _ _ _ _ _ [] _ _
          unfold mnh
          first
          | (rw [show mnh1 c = c from mfi_0 q4]; exact m_nh41 (by omega) hM h (fun e => absurd e (by rw [q4]; decide)))
          | (rw [show mnh1 c = c from mfi_1 (by rw [q33, decide_eq_true (show c 500001 19 = 1 by omega), decide_eq_true (show c 500001 17 - c 500001 18 ≤ 6 by omega)]; rfl)]; exact m_nh41 (by omega) hM h (fun _ => by omega))
          | (have e9 : mnh1 c = mfl c 1 := mfi_2 q4 (by rw [decide_eq_false (show ¬ c 500001 19 = 1 by omega)]; rfl)
             rw [e9]; unfold mnh1 at e9; rw [e9] at h8; exact m_nh41 (by omega) hM h8 (hfl q4))
          | (have e9 : mnh1 c = mfl c 1 := mfi_2 q4 (by rw [decide_eq_false (show ¬ c 500001 17 - c 500001 18 ≤ 6 by omega)]; simp)
             rw [e9]; unfold mnh1 at e9; rw [e9] at h8; exact m_nh41 (by omega) hM h8 (hfl q4))
          | (have e9 : mnh1 c = mfl c 1 := mfi_2 q4 (by rw [q33]; simp)
             rw [e9]; unfold mnh1 at e9; rw [e9] at h8; exact m_nh41 (by omega) hM h8 (hfl q4))
