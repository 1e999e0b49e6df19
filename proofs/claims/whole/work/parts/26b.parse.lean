/-! parser: its statements -/
theorem gw_sw {d g y pc nx a b t : Nat} {dflt lo hi : Int} {offs : Array Int} {z : Int} {L r : List Value} {T : gT} {c J : gC} {Q : am_O → am_M → Prop} (hi' : am_at y pc nx (.tableswitch dflt lo hi offs) 0 a b) (hz : -2147483648 ≤ z ∧ z < 2147483648) (ht : (if z < lo ∨ hi < z then some ((pc : Int) + dflt).toNat else (offs[(z - lo).toNat]?).map fun o => ((pc : Int) + o).toNat) = some t) (h : gw d g y t L r (gm T c J) Q) : gw d g y pc L (gi z :: r) (gm T c J) Q := by
  have e : (Int32.ofInt z).toInt = z := Int32.toInt_ofInt_of_le (by omega) (by omega)
  refine gw_step hi' (by decide) (pc' := t) (L' := L) (st' := r) (M' := gm T c J) ?_ h
  unfold am_step
  dsimp only
  rw [e]
  by_cases h1 : z < lo ∨ hi < z
  · rw [if_pos h1] at ht ⊢
    rw [← Option.some.inj ht]
  · rw [if_neg h1] at ht ⊢
    cases h2 : offs[(z - lo).toNat]? with
    | none => rw [h2] at ht; cases ht
    | some o => rw [h2] at ht; rw [← Option.some.inj ht]
def nnm (c : gC) (v : Int) : Int := ff (fun i => decide (c (100002 + 1) i = v)) (c 100002 1) 0
def rnm (c : gC) (v : Int) : Int := ff (fun i => decide (c (100002 + 4) i = v)) (c 100002 2) 0
def nat2 (c : gC) (x z : Int) : Int := ff (fun i => decide (c (100002 + 2) i = x) && decide (c (100002 + 3) i = z)) (c 100002 1) 0
def inm (c : gC) : Bool := decide (c 100032 5 = 1 ∧ ¬ c 100032 8 = -1 ∧ c 100032 9 = -1)
theorem nnm_rg {c : gC} {v : Int} (hN : NR c 100002) : -1 ≤ nnm c v ∧ nnm c v < 10 := by
  have := ff_rg (p := fun i => decide (c (100002 + 1) i = v)) (N := c 100002 1) (i := 0) (by omega)
  have h := hN.1
  unfold nnm; omega
theorem rnm_rg {c : gC} {v : Int} (hN : NR c 100002) : -1 ≤ rnm c v ∧ rnm c v < 12 := by
  have := ff_rg (p := fun i => decide (c (100002 + 4) i = v)) (N := c 100002 2) (i := 0) (by omega)
  have h := hN.2.1
  unfold rnm; omega
theorem nat2_rg {c : gC} {x z : Int} (hN : NR c 100002) : -1 ≤ nat2 c x z ∧ nat2 c x z < 10 := by
  have := ff_rg (p := fun i => decide (c (100002 + 2) i = x) && decide (c (100002 + 3) i = z)) (N := c 100002 1) (i := 0) (by omega)
  have h := hN.1
  unfold nat2; omega
theorem c_nnm {g : Nat} {T : gT} {c J : gC} (hA : AT T) (h : PN c) {w : Int} (hw : -2147483648 ≤ w ∧ w < 2147483648) : gE g 15 0 [.ref 100002, gi w] (gm T c J) (gR (gi (nnm c w)) (gm T c J)) := c_nodeNamed (AT_n hA) h.1.1 h.2 hw
theorem c_rnm {g : Nat} {T : gT} {c J : gC} (hA : AT T) (h : PN c) {w : Int} (hw : -2147483648 ≤ w ∧ w < 2147483648) : gE g 17 0 [.ref 100002, gi w] (gm T c J) (gR (gi (rnm c w)) (gm T c J)) := c_roadNamed (AT_n hA) h.1.1 h.2 hw
theorem c_nat2 {g : Nat} {T : gT} {c J : gC} (hA : AT T) (h : PN c) {x z : Int} (hx : -2147483648 ≤ x ∧ x < 2147483648) (hz : -2147483648 ≤ z ∧ z < 2147483648) : gE g 16 0 [.ref 100002, gi x, gi z] (gm T c J) (gR (gi (nat2 c x z)) (gm T c J)) := c_nodeAt (AT_n hA) h.1.1 h.2 hx hz
theorem c_inm {g : Nat} {T : gT} {c J : gC} (hA : AT T) (h : PN c) : gE g 49 0 [.ref 100032] (gm T c J) (gR (gi (bi (inm c))) (gm T c J)) := c_isName hA h.1.1
theorem c_adv {g : Nat} {T : gT} {c J : gC} (hA : AT T) (h : PN c) : gE g 51 2 [.ref 100032] (gm T c J) (fun o M1 => o = .inl none ∧ M1 = gm T (adv c) J) := c_advance hA h.1.1 h.1.2.1 h.1.2.2
theorem c_fai {g : Nat} {T : gT} {c J : gC} (hA : AT T) {z : Int} : gE g 50 0 [.ref 100032, gi z] (gm T c J) (fun o M1 => o = .inl (some (gi (bi false))) ∧ M1 = gm T (fai c z) J) := c_fail hA
def ren (c : gC) : Bool × gC := if c 100032 5 = 3 ∧ c 100032 8 = 59 then (true, adv c) else (false, fai c 1)
def inu (c : gC) (l h : Int) : Bool × gC := if ¬ c 100032 5 = 2 then (false, fai c 1) else if c 100032 8 < l ∨ h < c 100032 8 then (false, fai c 2) else (true, c)
theorem inu_t {c : gC} {l h : Int} (e : (inu c l h).1 = true) : inu c l h = (true, c) ∧ c 100032 5 = 2 ∧ l ≤ c 100032 8 ∧ c 100032 8 ≤ h := by
  unfold inu at e ⊢
  by_cases a : c 100032 5 = 2
  · rw [if_neg (by omega)] at e ⊢
    by_cases b : c 100032 8 < l ∨ h < c 100032 8
    · rw [if_pos b] at e; cases e
    · rw [if_neg b]; exact ⟨rfl, a, by omega, by omega⟩
  · rw [if_pos a] at e; cases e
def rnu (c : gC) (l h : Int) : Int × gC := if (inu c l h).1 = true then (c 100032 8, adv c) else (-1, (inu c l h).2)
def rkn (c : gC) : Int × gC := if inm c = false then (-1, fai c 1) else if nnm c (c 100032 8) = -1 then (-1, fai c 4) else (nnm c (c 100032 8), adv c)
theorem inu_PN {c : gC} {l h : Int} (hc : PN c) : PN (inu c l h).2 ∧ PFr c (inu c l h).2 := by
  unfold inu
  split
  · exact fai_PN hc (by decide)
  · split
    · exact fai_PN hc (by decide)
    · exact ⟨hc, PFr_rf⟩
theorem rnu_PN {c : gC} {l h : Int} (hc : PN c) : PN (rnu c l h).2 ∧ PFr c (rnu c l h).2 := by
  unfold rnu
  split
  · exact adv_PN hc
  · exact inu_PN hc
theorem rnu_rg {c : gC} {l h : Int} (hc : PN c) (hl : -1 ≤ l) (hh : h ≤ 10000) : (rnu c l h).1 = -1 ∨ (l ≤ (rnu c l h).1 ∧ (rnu c l h).1 ≤ h) := by
  unfold rnu
  split
  · rename_i e
    exact Or.inr (inu_t e).2.2
  · exact Or.inl rfl
theorem rkn_PN {c : gC} (hc : PN c) : PN (rkn c).2 ∧ PFr c (rkn c).2 := by
  unfold rkn
  split
  · exact fai_PN hc (by decide)
  · split
    · exact fai_PN hc (by decide)
    · exact adv_PN hc
theorem rkn_rg {c : gC} (hc : PN c) : -1 ≤ (rkn c).1 ∧ (rkn c).1 < 10 := by
  have := nnm_rg (v := c 100032 8) hc.2
  unfold rkn
  split
  · dsimp only; omega
  · split
    · dsimp only; omega
    · exact this
theorem ren_PN {c : gC} (hc : PN c) : PN (ren c).2 ∧ PFr c (ren c).2 := by
  unfold ren
  split
  · exact adv_PN hc
  · exact fai_PN hc (by decide)
set_option maxHeartbeats 1000000 in
theorem c_ren {g : Nat} {T : gT} {c J : gC} (hA : AT T) (h : PN c) : gE g 45 3 [.ref 100032] (gm T c J) (fun o M1 => o = .inl (some (gi (bi (ren c).1))) ∧ M1 = gm T (ren c).2 J) := by
  refine gE_mk am_r45 rfl (Or.inr ⟨_, rfl, (by first | exact AT_0 hA | exact AT_r0 hA | exact AT_r1 hA | exact AT_r2 hA | exact AT_t hA | exact AT_l hA | exact AT_b0 hA | exact AT_b1 hA | exact AT_b2 hA | exact AT_b3 hA)⟩) (fun d hd => ?_)
  show gw d g 45 0 [.ref 100032] [] _ _
  refine gw_al0 at45_0 (gw_gf (j := 5) at45_1 (by first | exact AT_0 hA | exact AT_r0 hA | exact AT_r1 hA | exact AT_r2 hA | exact AT_t hA | exact AT_l hA | exact AT_b0 hA | exact AT_b1 hA | exact AT_b2 hA | exact AT_b3 hA) rfl (gw_const at45_4 ?_))
  refine gw_cne at45_5 (by first | omega | exact h.1.1 _ _) (by first | omega | exact h.1.1 _ _) (fun q5 => ?_) (fun q5 => ?_)
  · refine gw_al0 at45_17 (gw_const at45_18 ?_)
    refine gw_call2 at45_19 (c_fai hA) (by omega) (Nat.le_of_ble_eq_true rfl) (fun o M1 q19 => ?_)
    obtain ⟨rfl, rfl⟩ := q19
    show gw _ _ _ _ _ (gi _ :: []) _ _
    refine gw_rb at45_22 am_r45.2.1 ?_
    unfold ren
    first | rw [if_pos (by omega)] | rw [if_neg (by omega)]
    exact ⟨rfl, rfl⟩
  · refine gw_al0 at45_8 (gw_gf (j := 8) at45_9 (by first | exact AT_0 hA | exact AT_r0 hA | exact AT_r1 hA | exact AT_r2 hA | exact AT_t hA | exact AT_l hA | exact AT_b0 hA | exact AT_b1 hA | exact AT_b2 hA | exact AT_b3 hA) rfl (gw_bip at45_12 (by decide) ?_))
    refine gw_ceq at45_14 (by first | omega | exact h.1.1 _ _) (by first | omega | exact h.1.1 _ _) (fun q14 => ?_) (fun q14 => ?_)
    · refine gw_al0 at45_23 ?_
      refine gw_call1 at45_24 (c_adv hA h) (by omega) (Nat.le_of_ble_eq_true rfl) (fun o M1 q24 => ?_)
      obtain ⟨rfl, rfl⟩ := q24
      show gw _ _ _ _ _ [] _ _
      refine gw_const at45_27 (gw_r1 at45_28 am_r45.2.1 ?_)
      unfold ren
      first | rw [if_pos (by omega)] | rw [if_neg (by omega)]
      exact ⟨rfl, rfl⟩
    · refine gw_al0 at45_17 (gw_const at45_18 ?_)
      refine gw_call2 at45_19 (c_fai hA) (by omega) (Nat.le_of_ble_eq_true rfl) (fun o M1 q19 => ?_)
      obtain ⟨rfl, rfl⟩ := q19
      show gw _ _ _ _ _ (gi _ :: []) _ _
      refine gw_rb at45_22 am_r45.2.1 ?_
      unfold ren
      first | rw [if_pos (by omega)] | rw [if_neg (by omega)]
      exact ⟨rfl, rfl⟩
set_option maxHeartbeats 1000000 in
theorem c_inu {g : Nat} {T : gT} {c J : gC} (hA : AT T) (h : PN c) {l u : Int} (hl : -2147483648 ≤ l ∧ l < 2147483648) (hu : -2147483648 ≤ u ∧ u < 2147483648) : gE g 48 1 [.ref 100032, gi l, gi u] (gm T c J) (fun o M1 => o = .inl (some (gi (bi (inu c l u).1))) ∧ M1 = gm T (inu c l u).2 J) := by
  refine gE_mk am_r48 rfl (Or.inr ⟨_, rfl, (by first | exact AT_0 hA | exact AT_r0 hA | exact AT_r1 hA | exact AT_r2 hA | exact AT_t hA | exact AT_l hA | exact AT_b0 hA | exact AT_b1 hA | exact AT_b2 hA | exact AT_b3 hA)⟩) (fun d hd => ?_)
  show gw d g 48 0 [.ref 100032, gi l, gi u] [] _ _
  refine gw_al0 at48_0 (gw_gf (j := 5) at48_1 (by first | exact AT_0 hA | exact AT_r0 hA | exact AT_r1 hA | exact AT_r2 hA | exact AT_t hA | exact AT_l hA | exact AT_b0 hA | exact AT_b1 hA | exact AT_b2 hA | exact AT_b3 hA) rfl (gw_const at48_4 ?_))
  refine gw_ceq at48_5 (by first | omega | exact h.1.1 _ _) (by first | omega | exact h.1.1 _ _) (fun q5 => ?_) (fun q5 => ?_)
  · refine gw_al0 at48_14 (gw_gf (j := 8) at48_15 (by first | exact AT_0 hA | exact AT_r0 hA | exact AT_r1 hA | exact AT_r2 hA | exact AT_t hA | exact AT_l hA | exact AT_b0 hA | exact AT_b1 hA | exact AT_b2 hA | exact AT_b3 hA) rfl (gw_il1 at48_18 ?_))
    refine gw_clt at48_19 (by first | omega | exact h.1.1 _ _) (by first | omega | exact h.1.1 _ _) (fun q19 => ?_) (fun q19 => ?_)
    · refine gw_al0 at48_30 (gw_const at48_31 ?_)
      refine gw_call2 at48_32 (c_fai hA) (by omega) (Nat.le_of_ble_eq_true rfl) (fun o M1 q32 => ?_)
      obtain ⟨rfl, rfl⟩ := q32
      show gw _ _ _ _ _ (gi _ :: []) _ _
      refine gw_rb at48_35 am_r48.2.1 ?_
      unfold inu
      first | (rw [if_pos (by omega)]; exact ⟨rfl, rfl⟩) | (rw [if_neg (by omega), if_pos (by omega)]; exact ⟨rfl, rfl⟩) | (rw [if_neg (by omega), if_neg (by omega)]; exact ⟨rfl, rfl⟩)
    · refine gw_al0 at48_22 (gw_gf (j := 8) at48_23 (by first | exact AT_0 hA | exact AT_r0 hA | exact AT_r1 hA | exact AT_r2 hA | exact AT_t hA | exact AT_l hA | exact AT_b0 hA | exact AT_b1 hA | exact AT_b2 hA | exact AT_b3 hA) rfl (gw_il2 at48_26 ?_))
      refine gw_cle at48_27 (by first | omega | exact h.1.1 _ _) (by first | omega | exact h.1.1 _ _) (fun q27 => ?_) (fun q27 => ?_)
      · refine gw_const at48_36 (gw_r1 at48_37 am_r48.2.1 ?_)
        unfold inu
        first | (rw [if_pos (by omega)]; exact ⟨rfl, rfl⟩) | (rw [if_neg (by omega), if_pos (by omega)]; exact ⟨rfl, rfl⟩) | (rw [if_neg (by omega), if_neg (by omega)]; exact ⟨rfl, rfl⟩)
      · refine gw_al0 at48_30 (gw_const at48_31 ?_)
        refine gw_call2 at48_32 (c_fai hA) (by omega) (Nat.le_of_ble_eq_true rfl) (fun o M1 q32 => ?_)
        obtain ⟨rfl, rfl⟩ := q32
        show gw _ _ _ _ _ (gi _ :: []) _ _
        refine gw_rb at48_35 am_r48.2.1 ?_
        unfold inu
        first | (rw [if_pos (by omega)]; exact ⟨rfl, rfl⟩) | (rw [if_neg (by omega), if_pos (by omega)]; exact ⟨rfl, rfl⟩) | (rw [if_neg (by omega), if_neg (by omega)]; exact ⟨rfl, rfl⟩)
  · refine gw_al0 at48_8 (gw_const at48_9 ?_)
    refine gw_call2 at48_10 (c_fai hA) (by omega) (Nat.le_of_ble_eq_true rfl) (fun o M1 q10 => ?_)
    obtain ⟨rfl, rfl⟩ := q10
    show gw _ _ _ _ _ (gi _ :: []) _ _
    refine gw_rb at48_13 am_r48.2.1 ?_
    unfold inu
    first | (rw [if_pos (by omega)]; exact ⟨rfl, rfl⟩) | (rw [if_neg (by omega), if_pos (by omega)]; exact ⟨rfl, rfl⟩) | (rw [if_neg (by omega), if_neg (by omega)]; exact ⟨rfl, rfl⟩)
set_option maxHeartbeats 1000000 in
theorem c_rnu {g : Nat} {T : gT} {c J : gC} (hA : AT T) (h : PN c) {l u : Int} (hl : -2147483648 ≤ l ∧ l < 2147483648) (hu : -2147483648 ≤ u ∧ u < 2147483648) : gE g 47 3 [.ref 100032, gi l, gi u] (gm T c J) (fun o M1 => o = .inl (some (gi ((rnu c l u).1))) ∧ M1 = gm T (rnu c l u).2 J) := by
  refine gE_mk am_r47 rfl (Or.inr ⟨_, rfl, (by first | exact AT_0 hA | exact AT_r0 hA | exact AT_r1 hA | exact AT_r2 hA | exact AT_t hA | exact AT_l hA | exact AT_b0 hA | exact AT_b1 hA | exact AT_b2 hA | exact AT_b3 hA)⟩) (fun d hd => ?_)
  show gw d g 47 0 [.ref 100032, gi l, gi u, am_U] [] _ _
  refine gw_al0 at47_0 (gw_il1 at47_1 (gw_il2 at47_2 ?_))
  refine gw_call3 at47_3 (c_inu hA h (l := l) (u := u) (by omega) (by omega)) (by omega) (Nat.le_of_ble_eq_true rfl) (fun o M1 q3 => ?_)
  obtain ⟨rfl, rfl⟩ := q3
  show gw _ _ _ _ _ (gi _ :: []) _ _
  refine gw_bne at47_6 (fun q6 => ?_) (fun q6 => ?_)
  · rw [(inu_t q6).1]
    dsimp only
    refine gw_al0 at47_11 (gw_gf (j := 8) at47_12 (by first | exact AT_0 hA | exact AT_r0 hA | exact AT_r1 hA | exact AT_r2 hA | exact AT_t hA | exact AT_l hA | exact AT_b0 hA | exact AT_b1 hA | exact AT_b2 hA | exact AT_b3 hA) rfl (gw_is3 at47_15 (h := (gw_al0 at47_16 ?_))))
    refine gw_call1 at47_17 (c_adv hA h) (by omega) (Nat.le_of_ble_eq_true rfl) (fun o M1 q17 => ?_)
    obtain ⟨rfl, rfl⟩ := q17
    show gw _ _ _ _ _ [] _ _
    refine gw_il3 at47_20 (gw_ri at47_21 am_r47.2.1 ?_)
    unfold rnu
    rw [if_pos q6]
    exact ⟨rfl, rfl⟩
  · refine gw_const at47_9 (gw_ri at47_10 am_r47.2.1 ?_)
    unfold rnu
    rw [if_neg (by rw [q6]; decide)]
    exact ⟨rfl, rfl⟩
set_option maxHeartbeats 1000000 in
theorem c_rkn {g : Nat} {T : gT} {c J : gC} (hA : AT T) (h : PN c) : gE g 46 3 [.ref 100032] (gm T c J) (fun o M1 => o = .inl (some (gi ((rkn c).1))) ∧ M1 = gm T (rkn c).2 J) := by
  refine gE_mk am_r46 rfl (Or.inr ⟨_, rfl, (by first | exact AT_0 hA | exact AT_r0 hA | exact AT_r1 hA | exact AT_r2 hA | exact AT_t hA | exact AT_l hA | exact AT_b0 hA | exact AT_b1 hA | exact AT_b2 hA | exact AT_b3 hA)⟩) (fun d hd => ?_)
  show gw d g 46 0 [.ref 100032, am_U] [] _ _
  refine gw_al0 at46_0 (gw_callP1 at46_1 (c_inm hA h) (by omega) (Nat.le_of_ble_eq_true rfl) ?_)
  refine gw_bne at46_4 (fun q4 => ?_) (fun q4 => ?_)
  · refine gw_al0 at46_15 (gw_gr at46_16 (by first | exact AT_0 hA | exact AT_r0 hA | exact AT_r1 hA | exact AT_r2 hA | exact AT_t hA | exact AT_l hA | exact AT_b0 hA | exact AT_b1 hA | exact AT_b2 hA | exact AT_b3 hA) (by first | exact AT_0 hA | exact AT_r0 hA | exact AT_r1 hA | exact AT_r2 hA | exact AT_t hA | exact AT_l hA | exact AT_b0 hA | exact AT_b1 hA | exact AT_b2 hA | exact AT_b3 hA) (gw_al0 at46_19 (gw_gf (j := 8) at46_20 (by first | exact AT_0 hA | exact AT_r0 hA | exact AT_r1 hA | exact AT_r2 hA | exact AT_t hA | exact AT_l hA | exact AT_b0 hA | exact AT_b1 hA | exact AT_b2 hA | exact AT_b3 hA) rfl (gw_callP2 at46_23 (c_nnm hA h (h.1.1 _ _)) (by omega) (Nat.le_of_ble_eq_true rfl) (gw_is1 at46_26 (h := (gw_il1 at46_27 (gw_const at46_28 ?_))))))))
    refine gw_cne at46_29 (by first | omega | exact h.1.1 _ _ | (have := nnm_rg (v := c 100032 8) h.2; omega)) (by first | omega | exact h.1.1 _ _ | (have := nnm_rg (v := c 100032 8) h.2; omega)) (fun q29 => ?_) (fun q29 => ?_)
    · refine gw_al0 at46_40 ?_
      refine gw_call1 at46_41 (c_adv hA h) (by omega) (Nat.le_of_ble_eq_true rfl) (fun o M1 q41 => ?_)
      obtain ⟨rfl, rfl⟩ := q41
      show gw _ _ _ _ _ [] _ _
      refine gw_il1 at46_44 (gw_ri at46_45 am_r46.2.1 ?_)
      unfold rkn
      rw [if_neg (by rw [q4]; decide), if_neg (by assumption)]
      exact ⟨rfl, rfl⟩
    · refine gw_al0 at46_32 (gw_const at46_33 ?_)
      refine gw_call2 at46_34 (c_fai hA) (by omega) (Nat.le_of_ble_eq_true rfl) (fun o M1 q34 => ?_)
      obtain ⟨rfl, rfl⟩ := q34
      show gw _ _ _ _ _ (gi _ :: []) _ _
      refine gw_popi at46_37 (gw_const at46_38 (gw_ri at46_39 am_r46.2.1 ?_))
      unfold rkn
      rw [if_neg (by rw [q4]; decide), if_pos (by assumption)]
      exact ⟨rfl, rfl⟩
  · refine gw_al0 at46_7 (gw_const at46_8 ?_)
    refine gw_call2 at46_9 (c_fai hA) (by omega) (Nat.le_of_ble_eq_true rfl) (fun o M1 q9 => ?_)
    obtain ⟨rfl, rfl⟩ := q9
    show gw _ _ _ _ _ (gi _ :: []) _ _
    refine gw_popi at46_12 (gw_const at46_13 (gw_ri at46_14 am_r46.2.1 ?_))
    unfold rkn
    rw [if_pos q4]
    exact ⟨rfl, rfl⟩
