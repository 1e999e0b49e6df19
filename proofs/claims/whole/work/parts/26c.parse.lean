/-! parser: snow and nodes -/
def rsn2 (r : Int) (b : gC) : Bool × gC := if (rnu b 0 999).1 = -1 then (false, (rnu b 0 999).2) else ren (gu (rnu b 0 999).2 (100002 + 9) r (rnu b 0 999).1)
def rsn1 (a : gC) : Bool × gC := if inm a = false then (false, fai a 1) else if rnm a (a 100032 8) = -1 then (false, fai a 4) else rsn2 (rnm a (a 100032 8)) (adv a)
def rsn (c : gC) : Bool × gC := rsn1 (adv c)
def rno3 (n x : Int) (c : gC) : Bool × gC := if (inu c 0 99).1 = false then (false, (inu c 0 99).2) else if ¬ nat2 c x (c 100032 8) = -1 then (false, fai c 3) else ren (adv (nda c 100002 n x (c 100032 8)))
def rno2 (n : Int) (b : gC) : Bool × gC := if (rnu b 0 99).1 = -1 then (false, (rnu b 0 99).2) else rno3 n (rnu b 0 99).1 (rnu b 0 99).2
def rno1 (a : gC) : Bool × gC := if inm a = false then (false, fai a 1) else if ¬ nnm a (a 100032 8) = -1 then (false, fai a 3) else rno2 (a 100032 8) (adv a)
def rno (c : gC) : Bool × gC := if 10 ≤ c 100002 1 then (false, fai c 5) else rno1 (adv c)
theorem PN_9 {c : gC} {r z : Int} (h : PN c) (hz : -2147483648 ≤ z ∧ z < 2147483648) : PN (gu c (100002 + 9) r z) ∧ PFr c (gu c (100002 + 9) r z) := ⟨PN_n h (RG_gu h.1.1 hz) (NR_9 h.2) (PFr_gu PFr_rf (by omega)) (gu_k (by omega)), PFr_gu PFr_rf (by omega)⟩
theorem PN_10 {c : gC} {r z : Int} (h : PN c) (hz : 0 ≤ z ∧ z ≤ 99) : PN (gu c (100002 + 10) r z) ∧ PFr c (gu c (100002 + 10) r z) := ⟨PN_n h (RG_gu h.1.1 (by omega)) (NR_10 h.2 hz) (PFr_gu PFr_rf (by omega)) (gu_k (by omega)), PFr_gu PFr_rf (by omega)⟩
theorem PN_11 {c : gC} {r z : Int} (h : PN c) (hz : 0 ≤ z ∧ z ≤ 99) : PN (gu c (100002 + 11) r z) ∧ PFr c (gu c (100002 + 11) r z) := ⟨PN_n h (RG_gu h.1.1 (by omega)) (NR_11 h.2 hz) (PFr_gu PFr_rf (by omega)) (gu_k (by omega)), PFr_gu PFr_rf (by omega)⟩
theorem PN_0 {c : gC} {r z : Int} (h : PN c) (hr : ¬ r = 1) (hr2 : ¬ r = 2) (hz : -2147483648 ≤ z ∧ z < 2147483648) : PN (gu c 100002 r z) ∧ PFr c (gu c 100002 r z) := ⟨PN_n h (RG_gu h.1.1 hz) (NR_0 h.2 hr hr2) (PFr_gu PFr_rf (by omega)) (gu_k (by omega)), PFr_gu PFr_rf (by omega)⟩
theorem nda_PN {c : gC} {n x z : Int} (h : PN c) (hn : -2147483648 ≤ n ∧ n < 2147483648) (hx : 0 ≤ x ∧ x ≤ 99) (hz : 0 ≤ z ∧ z ≤ 99) : PN (nda c 100002 n x z) ∧ PFr c (nda c 100002 n x z) := ⟨PN_n h (nda_RG h.1.1 h.2 hn hx hz) (nda_NR h.2 hx hz) nda_PFr nda_p, nda_PFr⟩
theorem rda_PN {c : gC} {n f t l w : Int} {b : Bool} (h : PN c) (hn : -2147483648 ≤ n ∧ n < 2147483648) (hf : -1 ≤ f ∧ f < 10) (ht : -1 ≤ t ∧ t < 10) (hl : 0 ≤ l ∧ l ≤ 999) (hw : 0 ≤ w ∧ w ≤ 3) : PN (rda c 100002 n f t l w b) ∧ PFr c (rda c 100002 n f t l w b) := ⟨PN_n h (rda_RG h.1.1 h.2 hn hf ht hl hw) (rda_NR h.2 hf ht hl hw) rda_PFr rda_p, rda_PFr⟩
theorem ren_of {c m : gC} (hm : PN m ∧ PFr c m) : PN (ren m).2 ∧ PFr c (ren m).2 := ⟨(ren_PN hm.1).1, PFr_tr hm.2 (ren_PN hm.1).2⟩
theorem adv_of {c m : gC} (hm : PN m ∧ PFr c m) : PN (adv m) ∧ PFr c (adv m) := ⟨(adv_PN hm.1).1, PFr_tr hm.2 (adv_PN hm.1).2⟩
theorem fai_of {c m : gC} {z : Int} (hm : PN m ∧ PFr c m) (hz : -2147483648 ≤ z ∧ z < 2147483648) : PN (fai m z) ∧ PFr c (fai m z) := ⟨(fai_PN hm.1 hz).1, PFr_tr hm.2 (fai_PN hm.1 hz).2⟩
theorem inu_of {c m : gC} {l u : Int} (hm : PN m ∧ PFr c m) : PN (inu m l u).2 ∧ PFr c (inu m l u).2 := ⟨(inu_PN hm.1).1, PFr_tr hm.2 (inu_PN hm.1).2⟩
theorem rnu_of {c m : gC} {l u : Int} (hm : PN m ∧ PFr c m) : PN (rnu m l u).2 ∧ PFr c (rnu m l u).2 := ⟨(rnu_PN hm.1).1, PFr_tr hm.2 (rnu_PN hm.1).2⟩
theorem rkn_of {c m : gC} (hm : PN m ∧ PFr c m) : PN (rkn m).2 ∧ PFr c (rkn m).2 := ⟨(rkn_PN hm.1).1, PFr_tr hm.2 (rkn_PN hm.1).2⟩
theorem rsn2_of {c m : gC} {r : Int} (hm : PN m ∧ PFr c m) : PN (rsn2 r m).2 ∧ PFr c (rsn2 r m).2 := by
  have h2 := rnu_of (l := 0) (u := 999) hm
  have h3 := rnu_rg (l := 0) (h := 999) hm.1 (by decide) (by decide)
  unfold rsn2
  split
  · exact h2
  · have h4 := PN_9 (r := r) (z := (rnu m 0 999).1) h2.1 (by omega)
    exact ren_of ⟨h4.1, PFr_tr h2.2 h4.2⟩
theorem rsn_of {c m : gC} (hm : PN m ∧ PFr c m) : PN (rsn m).2 ∧ PFr c (rsn m).2 := by
  have h2 := adv_of hm
  unfold rsn rsn1
  split
  · exact fai_of h2 (by decide)
  · split
    · exact fai_of h2 (by decide)
    · exact rsn2_of (adv_of h2)
theorem rno3_of {c m : gC} {n x : Int} (hm : PN m ∧ PFr c m) (hn : -2147483648 ≤ n ∧ n < 2147483648) (hx : 0 ≤ x ∧ x ≤ 99) : PN (rno3 n x m).2 ∧ PFr c (rno3 n x m).2 := by
  unfold rno3
  split
  · exact inu_of hm
  · rename_i e
    have h2 := inu_t (c := m) (l := 0) (h := 99) (by revert e; cases (inu m 0 99).1 <;> simp)
    split
    · exact fai_of hm (by decide)
    · have h4 := nda_PN (n := n) (x := x) (z := m 100032 8) hm.1 hn hx h2.2.2
      exact ren_of (adv_of ⟨h4.1, PFr_tr hm.2 h4.2⟩)
theorem rno_of {c m : gC} (hm : PN m ∧ PFr c m) : PN (rno m).2 ∧ PFr c (rno m).2 := by
  have h2 := adv_of hm
  unfold rno rno1
  split
  · exact fai_of hm (by decide)
  · split
    · exact fai_of h2 (by decide)
    · split
      · exact fai_of h2 (by decide)
      · unfold rno2
        have h3 := adv_of h2
        have h5 := rnu_of (l := 0) (u := 99) h3
        have h6 := rnu_rg (l := 0) (h := 99) h3.1 (by decide) (by decide)
        split
        · exact h5
        · exact rno3_of h5 (h2.1.1.1 _ _) (by omega)
set_option maxHeartbeats 1000000 in
theorem c_rsn2 {d g : Nat} {T : gT} {c J : gC} (hd : 4 ≤ d) (hA : AT T) (h : PN c) {r : Int} (hr : 0 ≤ r ∧ r < 12) {u : Value} (hu : am_nl u = true) : gw d g 44 44 [.ref 100032, gi r, u] [] (gm T c J) (fun o M1 => o = .inl (some (gi (bi (rsn2 r c).1))) ∧ M1 = gm T (rsn2 r c).2 J) := by
  have h2 := rnu_PN (l := 0) (h := 999) h
  have h3 := rnu_rg (l := 0) (h := 999) h (by decide) (by decide)
  have h4 : ¬ (rnu c 0 999).1 = -1 → PN (gu (rnu c 0 999).2 (100002 + 9) r (rnu c 0 999).1) := fun e => (PN_9 h2.1 (by omega)).1
  refine gw_al0 at44_44 (gw_const at44_45 (gw_sip at44_46 (by decide) ?_))
  refine gw_call3 at44_49 (c_rnu hA h (l := 0) (u := 999) (by omega) (by omega)) (by omega) (Nat.le_of_ble_eq_true rfl) (fun o M1 q49 => ?_)
  obtain ⟨rfl, rfl⟩ := q49
  show gw _ _ _ _ _ (gi _ :: []) _ _
  refine gw_is2 at44_52 (h := (gw_il2 at44_53 (gw_const at44_54 ?_)))
  refine gw_cne at44_55 (by first | omega | exact h.1.1 _ _) (by first | omega | exact h.1.1 _ _) (fun q55 => ?_) (fun q55 => ?_)
  · refine gw_al0 at44_60 (gw_gr at44_61 (by first | exact AT_0 hA | exact AT_r0 hA | exact AT_r1 hA | exact AT_r2 hA | exact AT_t hA | exact AT_l hA | exact AT_b0 hA | exact AT_b1 hA | exact AT_b2 hA | exact AT_b3 hA | exact NT_0 (AT_n hA) | exact NT_r15 (AT_n hA) | exact NT_t15 (AT_n hA) | exact NT_l15 (AT_n hA) | exact NT_r16 (AT_n hA) | exact NT_t16 (AT_n hA) | exact NT_l16 (AT_n hA) | exact NT_r17 (AT_n hA) | exact NT_t17 (AT_n hA) | exact NT_l17 (AT_n hA)) (by first | exact AT_0 hA | exact AT_r0 hA | exact AT_r1 hA | exact AT_r2 hA | exact AT_t hA | exact AT_l hA | exact AT_b0 hA | exact AT_b1 hA | exact AT_b2 hA | exact AT_b3 hA | exact NT_0 (AT_n hA) | exact NT_r15 (AT_n hA) | exact NT_t15 (AT_n hA) | exact NT_l15 (AT_n hA) | exact NT_r16 (AT_n hA) | exact NT_t16 (AT_n hA) | exact NT_l16 (AT_n hA) | exact NT_r17 (AT_n hA) | exact NT_t17 (AT_n hA) | exact NT_l17 (AT_n hA)) (gw_gr at44_64 (by first | exact AT_0 hA | exact AT_r0 hA | exact AT_r1 hA | exact AT_r2 hA | exact AT_t hA | exact AT_l hA | exact AT_b0 hA | exact AT_b1 hA | exact AT_b2 hA | exact AT_b3 hA | exact NT_0 (AT_n hA) | exact NT_r15 (AT_n hA) | exact NT_t15 (AT_n hA) | exact NT_l15 (AT_n hA) | exact NT_r16 (AT_n hA) | exact NT_t16 (AT_n hA) | exact NT_l16 (AT_n hA) | exact NT_r17 (AT_n hA) | exact NT_t17 (AT_n hA) | exact NT_l17 (AT_n hA)) (by first | exact AT_0 hA | exact AT_r0 hA | exact AT_r1 hA | exact AT_r2 hA | exact AT_t hA | exact AT_l hA | exact AT_b0 hA | exact AT_b1 hA | exact AT_b2 hA | exact AT_b3 hA | exact NT_0 (AT_n hA) | exact NT_r15 (AT_n hA) | exact NT_t15 (AT_n hA) | exact NT_l15 (AT_n hA) | exact NT_r16 (AT_n hA) | exact NT_t16 (AT_n hA) | exact NT_l16 (AT_n hA) | exact NT_r17 (AT_n hA) | exact NT_t17 (AT_n hA) | exact NT_l17 (AT_n hA)) (gw_il1 at44_67 (gw_il2 at44_68 (gw_iw at44_69 (by first | exact AT_0 hA | exact AT_r0 hA | exact AT_r1 hA | exact AT_r2 hA | exact AT_t hA | exact AT_l hA | exact AT_b0 hA | exact AT_b1 hA | exact AT_b2 hA | exact AT_b3 hA | exact NT_0 (AT_n hA) | exact NT_r15 (AT_n hA) | exact NT_t15 (AT_n hA) | exact NT_l15 (AT_n hA) | exact NT_r16 (AT_n hA) | exact NT_t16 (AT_n hA) | exact NT_l16 (AT_n hA) | exact NT_r17 (AT_n hA) | exact NT_t17 (AT_n hA) | exact NT_l17 (AT_n hA)) (by first | exact AT_0 hA | exact AT_r0 hA | exact AT_r1 hA | exact AT_r2 hA | exact AT_t hA | exact AT_l hA | exact AT_b0 hA | exact AT_b1 hA | exact AT_b2 hA | exact AT_b3 hA | exact NT_0 (AT_n hA) | exact NT_r15 (AT_n hA) | exact NT_t15 (AT_n hA) | exact NT_l15 (AT_n hA) | exact NT_r16 (AT_n hA) | exact NT_t16 (AT_n hA) | exact NT_l16 (AT_n hA) | exact NT_r17 (AT_n hA) | exact NT_t17 (AT_n hA) | exact NT_l17 (AT_n hA)) (by first | omega | exact h.1.1 _ _) (by first | omega | exact h.1.1 _ _) (by omega) (gw_al0 at44_70 ?_))))))
    refine gw_call1 at44_71 (c_ren hA (h4 (by omega))) (by omega) (Nat.le_of_ble_eq_true rfl) (fun o M1 q71 => ?_)
    obtain ⟨rfl, rfl⟩ := q71
    show gw _ _ _ _ _ (gi _ :: []) _ _
    refine gw_rb at44_74 am_r44.2.1 ?_
    unfold rsn2
    rw [if_neg (by omega)]
    exact ⟨rfl, rfl⟩
  · refine gw_const at44_58 (gw_r0 at44_59 am_r44.2.1 ?_)
    unfold rsn2
    rw [if_pos (by omega)]
    exact ⟨rfl, rfl⟩
set_option maxHeartbeats 1000000 in
theorem c_rsn1 {d g : Nat} {T : gT} {c J : gC} (hd : 4 ≤ d) (hA : AT T) (h : PN c) {u1 u : Value} (hu1 : am_nl u1 = true) (hu : am_nl u = true) : gw d g 44 4 [.ref 100032, u1, u] [] (gm T c J) (fun o M1 => o = .inl (some (gi (bi (rsn1 c).1))) ∧ M1 = gm T (rsn1 c).2 J) := by
  have h2 := rnm_rg (v := c 100032 8) h.2
  refine gw_al0 at44_4 (gw_callP1 at44_5 (c_inm hA h) (by omega) (Nat.le_of_ble_eq_true rfl) ?_)
  refine gw_bne at44_8 (fun q8 => ?_) (fun q8 => ?_)
  · refine gw_al0 at44_17 (gw_gr at44_18 (by first | exact AT_0 hA | exact AT_r0 hA | exact AT_r1 hA | exact AT_r2 hA | exact AT_t hA | exact AT_l hA | exact AT_b0 hA | exact AT_b1 hA | exact AT_b2 hA | exact AT_b3 hA | exact NT_0 (AT_n hA) | exact NT_r15 (AT_n hA) | exact NT_t15 (AT_n hA) | exact NT_l15 (AT_n hA) | exact NT_r16 (AT_n hA) | exact NT_t16 (AT_n hA) | exact NT_l16 (AT_n hA) | exact NT_r17 (AT_n hA) | exact NT_t17 (AT_n hA) | exact NT_l17 (AT_n hA)) (by first | exact AT_0 hA | exact AT_r0 hA | exact AT_r1 hA | exact AT_r2 hA | exact AT_t hA | exact AT_l hA | exact AT_b0 hA | exact AT_b1 hA | exact AT_b2 hA | exact AT_b3 hA | exact NT_0 (AT_n hA) | exact NT_r15 (AT_n hA) | exact NT_t15 (AT_n hA) | exact NT_l15 (AT_n hA) | exact NT_r16 (AT_n hA) | exact NT_t16 (AT_n hA) | exact NT_l16 (AT_n hA) | exact NT_r17 (AT_n hA) | exact NT_t17 (AT_n hA) | exact NT_l17 (AT_n hA)) (gw_al0 at44_21 (gw_gf (j := 8) at44_22 (by first | exact AT_0 hA | exact AT_r0 hA | exact AT_r1 hA | exact AT_r2 hA | exact AT_t hA | exact AT_l hA | exact AT_b0 hA | exact AT_b1 hA | exact AT_b2 hA | exact AT_b3 hA | exact NT_0 (AT_n hA) | exact NT_r15 (AT_n hA) | exact NT_t15 (AT_n hA) | exact NT_l15 (AT_n hA) | exact NT_r16 (AT_n hA) | exact NT_t16 (AT_n hA) | exact NT_l16 (AT_n hA) | exact NT_r17 (AT_n hA) | exact NT_t17 (AT_n hA) | exact NT_l17 (AT_n hA)) rfl (gw_callP2 at44_25 (c_rnm hA h (h.1.1 _ _)) (by omega) (Nat.le_of_ble_eq_true rfl) (gw_is1 at44_28 (h := (gw_il1 at44_29 (gw_const at44_30 ?_))))))))
    refine gw_cne at44_31 (by first | omega | exact h.1.1 _ _) (by first | omega | exact h.1.1 _ _) (fun q31 => ?_) (fun q31 => ?_)
    · refine gw_al0 at44_40 ?_
      refine gw_call1 at44_41 (c_adv hA h) (by omega) (Nat.le_of_ble_eq_true rfl) (fun o M1 q41 => ?_)
      obtain ⟨rfl, rfl⟩ := q41
      show gw _ _ _ _ _ [] _ _
      rw [show rsn1 c = rsn2 (rnm c (c 100032 8)) (adv c) by unfold rsn1; rw [if_neg (by rw [q8]; decide), if_neg (by omega)]]
      exact c_rsn2 (by omega) hA (adv_PN h).1 (by omega) hu
    · refine gw_al0 at44_34 (gw_const at44_35 ?_)
      refine gw_call2 at44_36 (c_fai hA) (by omega) (Nat.le_of_ble_eq_true rfl) (fun o M1 q36 => ?_)
      obtain ⟨rfl, rfl⟩ := q36
      show gw _ _ _ _ _ (gi _ :: []) _ _
      refine gw_rb at44_39 am_r44.2.1 ?_
      unfold rsn1
      rw [if_neg (by rw [q8]; decide), if_pos (by omega)]
      exact ⟨rfl, rfl⟩
  · refine gw_al0 at44_11 (gw_const at44_12 ?_)
    refine gw_call2 at44_13 (c_fai hA) (by omega) (Nat.le_of_ble_eq_true rfl) (fun o M1 q13 => ?_)
    obtain ⟨rfl, rfl⟩ := q13
    show gw _ _ _ _ _ (gi _ :: []) _ _
    refine gw_rb at44_16 am_r44.2.1 ?_
    unfold rsn1
    rw [if_pos q8]
    exact ⟨rfl, rfl⟩
set_option maxHeartbeats 1000000 in
theorem c_rsn {g : Nat} {T : gT} {c J : gC} (hA : AT T) (h : PN c) : gE g 44 4 [.ref 100032] (gm T c J) (fun o M1 => o = .inl (some (gi (bi (rsn c).1))) ∧ M1 = gm T (rsn c).2 J) := by
  refine gE_mk am_r44 rfl (Or.inr ⟨_, rfl, (by first | exact AT_0 hA | exact AT_r0 hA | exact AT_r1 hA | exact AT_r2 hA | exact AT_t hA | exact AT_l hA | exact AT_b0 hA | exact AT_b1 hA | exact AT_b2 hA | exact AT_b3 hA | exact NT_0 (AT_n hA) | exact NT_r15 (AT_n hA) | exact NT_t15 (AT_n hA) | exact NT_l15 (AT_n hA) | exact NT_r16 (AT_n hA) | exact NT_t16 (AT_n hA) | exact NT_l16 (AT_n hA) | exact NT_r17 (AT_n hA) | exact NT_t17 (AT_n hA) | exact NT_l17 (AT_n hA))⟩) (fun d hd => ?_)
  show gw d g 44 0 [.ref 100032, am_U, am_U] [] _ _
  refine gw_al0 at44_0 ?_
  refine gw_call1 at44_1 (c_adv hA h) (by omega) (Nat.le_of_ble_eq_true rfl) (fun o M1 q1 => ?_)
  obtain ⟨rfl, rfl⟩ := q1
  show gw _ _ _ _ _ [] _ _
  exact c_rsn1 (by omega) hA (adv_PN h).1 rfl rfl
set_option maxHeartbeats 1000000 in
theorem c_rno3 {d g : Nat} {T : gT} {c J : gC} (hd : 4 ≤ d) (hA : AT T) (h : PN c) {n x : Int} (hn : -2147483648 ≤ n ∧ n < 2147483648) (hx : 0 ≤ x ∧ x ≤ 99) : gw d g 42 75 [.ref 100032, gi n, gi x] [] (gm T c J) (fun o M1 => o = .inl (some (gi (bi (rno3 n x c).1))) ∧ M1 = gm T (rno3 n x c).2 J) := by
  refine gw_al0 at42_75 (gw_const at42_76 (gw_bip at42_77 (by decide) ?_))
  refine gw_call3 at42_79 (c_inu hA h (l := 0) (u := 99) (by omega) (by omega)) (by omega) (Nat.le_of_ble_eq_true rfl) (fun o M1 q79 => ?_)
  obtain ⟨rfl, rfl⟩ := q79
  show gw _ _ _ _ _ (gi _ :: []) _ _
  refine gw_bne at42_82 (fun q82 => ?_) (fun q82 => ?_)
  · obtain ⟨e1, e2, e3⟩ := inu_t q82
    rw [e1]
    dsimp only
    have h4 := nda_PN (n := n) (x := x) (z := c 100032 8) h hn hx e3
    refine gw_al0 at42_87 (gw_gr at42_88 (by first | exact AT_0 hA | exact AT_r0 hA | exact AT_r1 hA | exact AT_r2 hA | exact AT_t hA | exact AT_l hA | exact AT_b0 hA | exact AT_b1 hA | exact AT_b2 hA | exact AT_b3 hA | exact NT_0 (AT_n hA) | exact NT_r15 (AT_n hA) | exact NT_t15 (AT_n hA) | exact NT_l15 (AT_n hA) | exact NT_r16 (AT_n hA) | exact NT_t16 (AT_n hA) | exact NT_l16 (AT_n hA) | exact NT_r17 (AT_n hA) | exact NT_t17 (AT_n hA) | exact NT_l17 (AT_n hA)) (by first | exact AT_0 hA | exact AT_r0 hA | exact AT_r1 hA | exact AT_r2 hA | exact AT_t hA | exact AT_l hA | exact AT_b0 hA | exact AT_b1 hA | exact AT_b2 hA | exact AT_b3 hA | exact NT_0 (AT_n hA) | exact NT_r15 (AT_n hA) | exact NT_t15 (AT_n hA) | exact NT_l15 (AT_n hA) | exact NT_r16 (AT_n hA) | exact NT_t16 (AT_n hA) | exact NT_l16 (AT_n hA) | exact NT_r17 (AT_n hA) | exact NT_t17 (AT_n hA) | exact NT_l17 (AT_n hA)) (gw_il2 at42_91 (gw_al0 at42_92 (gw_gf (j := 8) at42_93 (by first | exact AT_0 hA | exact AT_r0 hA | exact AT_r1 hA | exact AT_r2 hA | exact AT_t hA | exact AT_l hA | exact AT_b0 hA | exact AT_b1 hA | exact AT_b2 hA | exact AT_b3 hA | exact NT_0 (AT_n hA) | exact NT_r15 (AT_n hA) | exact NT_t15 (AT_n hA) | exact NT_l15 (AT_n hA) | exact NT_r16 (AT_n hA) | exact NT_t16 (AT_n hA) | exact NT_l16 (AT_n hA) | exact NT_r17 (AT_n hA) | exact NT_t17 (AT_n hA) | exact NT_l17 (AT_n hA)) rfl (gw_callP3 at42_96 (c_nat2 hA h (by omega) (h.1.1 _ _)) (by omega) (Nat.le_of_ble_eq_true rfl) (gw_const at42_99 ?_))))))
    refine gw_ceq at42_100 (by first | omega | exact h.1.1 _ _ | (have := nat2_rg (x := x) (z := c 100032 8) h.2; omega)) (by first | omega | exact h.1.1 _ _ | (have := nat2_rg (x := x) (z := c 100032 8) h.2; omega)) (fun q100 => ?_) (fun q100 => ?_)
    · refine gw_al0 at42_109 (gw_gr at42_110 (by first | exact AT_0 hA | exact AT_r0 hA | exact AT_r1 hA | exact AT_r2 hA | exact AT_t hA | exact AT_l hA | exact AT_b0 hA | exact AT_b1 hA | exact AT_b2 hA | exact AT_b3 hA | exact NT_0 (AT_n hA) | exact NT_r15 (AT_n hA) | exact NT_t15 (AT_n hA) | exact NT_l15 (AT_n hA) | exact NT_r16 (AT_n hA) | exact NT_t16 (AT_n hA) | exact NT_l16 (AT_n hA) | exact NT_r17 (AT_n hA) | exact NT_t17 (AT_n hA) | exact NT_l17 (AT_n hA)) (by first | exact AT_0 hA | exact AT_r0 hA | exact AT_r1 hA | exact AT_r2 hA | exact AT_t hA | exact AT_l hA | exact AT_b0 hA | exact AT_b1 hA | exact AT_b2 hA | exact AT_b3 hA | exact NT_0 (AT_n hA) | exact NT_r15 (AT_n hA) | exact NT_t15 (AT_n hA) | exact NT_l15 (AT_n hA) | exact NT_r16 (AT_n hA) | exact NT_t16 (AT_n hA) | exact NT_l16 (AT_n hA) | exact NT_r17 (AT_n hA) | exact NT_t17 (AT_n hA) | exact NT_l17 (AT_n hA)) (gw_il1 at42_113 (gw_il2 at42_114 (gw_al0 at42_115 (gw_gf (j := 8) at42_116 (by first | exact AT_0 hA | exact AT_r0 hA | exact AT_r1 hA | exact AT_r2 hA | exact AT_t hA | exact AT_l hA | exact AT_b0 hA | exact AT_b1 hA | exact AT_b2 hA | exact AT_b3 hA | exact NT_0 (AT_n hA) | exact NT_r15 (AT_n hA) | exact NT_t15 (AT_n hA) | exact NT_l15 (AT_n hA) | exact NT_r16 (AT_n hA) | exact NT_t16 (AT_n hA) | exact NT_l16 (AT_n hA) | exact NT_r17 (AT_n hA) | exact NT_t17 (AT_n hA) | exact NT_l17 (AT_n hA)) rfl ?_)))))
      refine gw_call4 at42_119 (c_addNode (AT_n hA) h.1.1 h.2 hn (by omega) (h.1.1 _ _)) (by omega) (Nat.le_of_ble_eq_true rfl) (fun o M1 q119 => ?_)
      obtain ⟨rfl, rfl⟩ := q119
      show gw _ _ _ _ _ [] _ _
      refine gw_al0 at42_122 ?_
      refine gw_call1 at42_123 (c_adv hA h4.1) (by omega) (Nat.le_of_ble_eq_true rfl) (fun o M1 q123 => ?_)
      obtain ⟨rfl, rfl⟩ := q123
      show gw _ _ _ _ _ [] _ _
      refine gw_al0 at42_126 ?_
      refine gw_call1 at42_127 (c_ren hA (adv_PN h4.1).1) (by omega) (Nat.le_of_ble_eq_true rfl) (fun o M1 q127 => ?_)
      obtain ⟨rfl, rfl⟩ := q127
      show gw _ _ _ _ _ (gi _ :: []) _ _
      refine gw_rb at42_130 am_r42.2.1 ?_
      unfold rno3
      rw [if_neg (by rw [q82]; decide), if_neg (by omega)]
      exact ⟨rfl, rfl⟩
    · refine gw_al0 at42_103 (gw_const at42_104 ?_)
      refine gw_call2 at42_105 (c_fai hA) (by omega) (Nat.le_of_ble_eq_true rfl) (fun o M1 q105 => ?_)
      obtain ⟨rfl, rfl⟩ := q105
      show gw _ _ _ _ _ (gi _ :: []) _ _
      refine gw_rb at42_108 am_r42.2.1 ?_
      unfold rno3
      rw [if_neg (by rw [q82]; decide), if_pos (by omega)]
      exact ⟨rfl, rfl⟩
  · refine gw_const at42_85 (gw_r0 at42_86 am_r42.2.1 ?_)
    unfold rno3
    rw [if_pos q82]
    exact ⟨rfl, rfl⟩
set_option maxHeartbeats 1000000 in
theorem c_rno2 {d g : Nat} {T : gT} {c J : gC} (hd : 4 ≤ d) (hA : AT T) (h : PN c) {n : Int} (hn : -2147483648 ≤ n ∧ n < 2147483648) {u : Value} (hu : am_nl u = true) : gw d g 42 62 [.ref 100032, gi n, u] [] (gm T c J) (fun o M1 => o = .inl (some (gi (bi (rno2 n c).1))) ∧ M1 = gm T (rno2 n c).2 J) := by
  have h2 := rnu_PN (l := 0) (h := 99) h
  have h3 := rnu_rg (l := 0) (h := 99) h (by decide) (by decide)
  refine gw_al0 at42_62 (gw_const at42_63 (gw_bip at42_64 (by decide) ?_))
  refine gw_call3 at42_66 (c_rnu hA h (l := 0) (u := 99) (by omega) (by omega)) (by omega) (Nat.le_of_ble_eq_true rfl) (fun o M1 q66 => ?_)
  obtain ⟨rfl, rfl⟩ := q66
  show gw _ _ _ _ _ (gi _ :: []) _ _
  refine gw_is2 at42_69 (h := (gw_il2 at42_70 (gw_const at42_71 ?_)))
  refine gw_ceq at42_72 (by first | omega | exact h.1.1 _ _) (by first | omega | exact h.1.1 _ _) (fun q72 => ?_) (fun q72 => ?_)
  · refine gw_const at42_85 (gw_r0 at42_86 am_r42.2.1 ?_)
    unfold rno2
    rw [if_pos (by omega)]
    exact ⟨rfl, rfl⟩
  · rw [show rno2 n c = rno3 n (rnu c 0 99).1 (rnu c 0 99).2 by unfold rno2; rw [if_neg (by omega)]]
    exact c_rno3 (by omega) hA h2.1 hn (by omega)
set_option maxHeartbeats 1000000 in
theorem c_rno1 {d g : Nat} {T : gT} {c J : gC} (hd : 4 ≤ d) (hA : AT T) (h : PN c) {u1 u : Value} (hu1 : am_nl u1 = true) (hu : am_nl u = true) : gw d g 42 22 [.ref 100032, u1, u] [] (gm T c J) (fun o M1 => o = .inl (some (gi (bi (rno1 c).1))) ∧ M1 = gm T (rno1 c).2 J) := by
  have h2 := nnm_rg (v := c 100032 8) h.2
  refine gw_al0 at42_22 (gw_gf (j := 8) at42_23 (by first | exact AT_0 hA | exact AT_r0 hA | exact AT_r1 hA | exact AT_r2 hA | exact AT_t hA | exact AT_l hA | exact AT_b0 hA | exact AT_b1 hA | exact AT_b2 hA | exact AT_b3 hA | exact NT_0 (AT_n hA) | exact NT_r15 (AT_n hA) | exact NT_t15 (AT_n hA) | exact NT_l15 (AT_n hA) | exact NT_r16 (AT_n hA) | exact NT_t16 (AT_n hA) | exact NT_l16 (AT_n hA) | exact NT_r17 (AT_n hA) | exact NT_t17 (AT_n hA) | exact NT_l17 (AT_n hA)) rfl (gw_is1 at42_26 (h := (gw_al0 at42_27 (gw_callP1 at42_28 (c_inm hA h) (by omega) (Nat.le_of_ble_eq_true rfl) ?_)))))
  refine gw_bne at42_31 (fun q31 => ?_) (fun q31 => ?_)
  · refine gw_al0 at42_40 (gw_gr at42_41 (by first | exact AT_0 hA | exact AT_r0 hA | exact AT_r1 hA | exact AT_r2 hA | exact AT_t hA | exact AT_l hA | exact AT_b0 hA | exact AT_b1 hA | exact AT_b2 hA | exact AT_b3 hA | exact NT_0 (AT_n hA) | exact NT_r15 (AT_n hA) | exact NT_t15 (AT_n hA) | exact NT_l15 (AT_n hA) | exact NT_r16 (AT_n hA) | exact NT_t16 (AT_n hA) | exact NT_l16 (AT_n hA) | exact NT_r17 (AT_n hA) | exact NT_t17 (AT_n hA) | exact NT_l17 (AT_n hA)) (by first | exact AT_0 hA | exact AT_r0 hA | exact AT_r1 hA | exact AT_r2 hA | exact AT_t hA | exact AT_l hA | exact AT_b0 hA | exact AT_b1 hA | exact AT_b2 hA | exact AT_b3 hA | exact NT_0 (AT_n hA) | exact NT_r15 (AT_n hA) | exact NT_t15 (AT_n hA) | exact NT_l15 (AT_n hA) | exact NT_r16 (AT_n hA) | exact NT_t16 (AT_n hA) | exact NT_l16 (AT_n hA) | exact NT_r17 (AT_n hA) | exact NT_t17 (AT_n hA) | exact NT_l17 (AT_n hA)) (gw_il1 at42_44 (gw_callP2 at42_45 (c_nnm hA h (h.1.1 _ _)) (by omega) (Nat.le_of_ble_eq_true rfl) (gw_const at42_48 ?_))))
    refine gw_ceq at42_49 (by first | omega | exact h.1.1 _ _) (by first | omega | exact h.1.1 _ _) (fun q49 => ?_) (fun q49 => ?_)
    · refine gw_al0 at42_58 ?_
      refine gw_call1 at42_59 (c_adv hA h) (by omega) (Nat.le_of_ble_eq_true rfl) (fun o M1 q59 => ?_)
      obtain ⟨rfl, rfl⟩ := q59
      show gw _ _ _ _ _ [] _ _
      rw [show rno1 c = rno2 (c 100032 8) (adv c) by unfold rno1; rw [if_neg (by rw [q31]; decide), if_neg (by omega)]]
      exact c_rno2 (by omega) hA (adv_PN h).1 (h.1.1 _ _) hu
    · refine gw_al0 at42_52 (gw_const at42_53 ?_)
      refine gw_call2 at42_54 (c_fai hA) (by omega) (Nat.le_of_ble_eq_true rfl) (fun o M1 q54 => ?_)
      obtain ⟨rfl, rfl⟩ := q54
      show gw _ _ _ _ _ (gi _ :: []) _ _
      refine gw_rb at42_57 am_r42.2.1 ?_
      unfold rno1
      rw [if_neg (by rw [q31]; decide), if_pos (by omega)]
      exact ⟨rfl, rfl⟩
  · refine gw_al0 at42_34 (gw_const at42_35 ?_)
    refine gw_call2 at42_36 (c_fai hA) (by omega) (Nat.le_of_ble_eq_true rfl) (fun o M1 q36 => ?_)
    obtain ⟨rfl, rfl⟩ := q36
    show gw _ _ _ _ _ (gi _ :: []) _ _
    refine gw_rb at42_39 am_r42.2.1 ?_
    unfold rno1
    rw [if_pos q31]
    exact ⟨rfl, rfl⟩
set_option maxHeartbeats 1000000 in
theorem c_rno {g : Nat} {T : gT} {c J : gC} (hA : AT T) (h : PN c) : gE g 42 4 [.ref 100032] (gm T c J) (fun o M1 => o = .inl (some (gi (bi (rno c).1))) ∧ M1 = gm T (rno c).2 J) := by
  refine gE_mk am_r42 rfl (Or.inr ⟨_, rfl, (by first | exact AT_0 hA | exact AT_r0 hA | exact AT_r1 hA | exact AT_r2 hA | exact AT_t hA | exact AT_l hA | exact AT_b0 hA | exact AT_b1 hA | exact AT_b2 hA | exact AT_b3 hA | exact NT_0 (AT_n hA) | exact NT_r15 (AT_n hA) | exact NT_t15 (AT_n hA) | exact NT_l15 (AT_n hA) | exact NT_r16 (AT_n hA) | exact NT_t16 (AT_n hA) | exact NT_l16 (AT_n hA) | exact NT_r17 (AT_n hA) | exact NT_t17 (AT_n hA) | exact NT_l17 (AT_n hA))⟩) (fun d hd => ?_)
  show gw d g 42 0 [.ref 100032, am_U, am_U] [] _ _
  refine gw_al0 at42_0 (gw_gr at42_1 (by first | exact AT_0 hA | exact AT_r0 hA | exact AT_r1 hA | exact AT_r2 hA | exact AT_t hA | exact AT_l hA | exact AT_b0 hA | exact AT_b1 hA | exact AT_b2 hA | exact AT_b3 hA | exact NT_0 (AT_n hA) | exact NT_r15 (AT_n hA) | exact NT_t15 (AT_n hA) | exact NT_l15 (AT_n hA) | exact NT_r16 (AT_n hA) | exact NT_t16 (AT_n hA) | exact NT_l16 (AT_n hA) | exact NT_r17 (AT_n hA) | exact NT_t17 (AT_n hA) | exact NT_l17 (AT_n hA)) (by first | exact AT_0 hA | exact AT_r0 hA | exact AT_r1 hA | exact AT_r2 hA | exact AT_t hA | exact AT_l hA | exact AT_b0 hA | exact AT_b1 hA | exact AT_b2 hA | exact AT_b3 hA | exact NT_0 (AT_n hA) | exact NT_r15 (AT_n hA) | exact NT_t15 (AT_n hA) | exact NT_l15 (AT_n hA) | exact NT_r16 (AT_n hA) | exact NT_t16 (AT_n hA) | exact NT_l16 (AT_n hA) | exact NT_r17 (AT_n hA) | exact NT_t17 (AT_n hA) | exact NT_l17 (AT_n hA)) (gw_gf (j := 1) at42_4 (by first | exact AT_0 hA | exact AT_r0 hA | exact AT_r1 hA | exact AT_r2 hA | exact AT_t hA | exact AT_l hA | exact AT_b0 hA | exact AT_b1 hA | exact AT_b2 hA | exact AT_b3 hA | exact NT_0 (AT_n hA) | exact NT_r15 (AT_n hA) | exact NT_t15 (AT_n hA) | exact NT_l15 (AT_n hA) | exact NT_r16 (AT_n hA) | exact NT_t16 (AT_n hA) | exact NT_l16 (AT_n hA) | exact NT_r17 (AT_n hA) | exact NT_t17 (AT_n hA) | exact NT_l17 (AT_n hA)) rfl (gw_bip at42_7 (by decide) ?_)))
  refine gw_clt at42_9 (by first | omega | exact h.1.1 _ _) (by first | omega | exact h.1.1 _ _) (fun q9 => ?_) (fun q9 => ?_)
  · refine gw_al0 at42_18 ?_
    refine gw_call1 at42_19 (c_adv hA h) (by omega) (Nat.le_of_ble_eq_true rfl) (fun o M1 q19 => ?_)
    obtain ⟨rfl, rfl⟩ := q19
    show gw _ _ _ _ _ [] _ _
    rw [show rno c = rno1 (adv c) by unfold rno; rw [if_neg (by omega)]]
    exact c_rno1 (by omega) hA (adv_PN h).1 rfl rfl
  · refine gw_al0 at42_12 (gw_const at42_13 ?_)
    refine gw_call2 at42_14 (c_fai hA) (by omega) (Nat.le_of_ble_eq_true rfl) (fun o M1 q14 => ?_)
    obtain ⟨rfl, rfl⟩ := q14
    show gw _ _ _ _ _ (gi _ :: []) _ _
    refine gw_rb at42_17 am_r42.2.1 ?_
    unfold rno
    rw [if_pos (by omega)]
    exact ⟨rfl, rfl⟩
