/-! parser: settings, statements, texts -/
def rfi2 (b : Bool) (m : gC) : Bool × gC := if b = true then ren m else (false, m)
def rse1 (z : Int) (c : gC) : Bool × gC :=
  if z = 3 then rfi2 (rrw c (100002 + 10) 4).1 (rrw c (100002 + 10) 4).2
  else if z = 4 then rfi2 (decide (¬ (rkn c).1 = -1)) (gu (rkn c).2 100002 3 (rkn c).1)
  else if z = 5 then rfi2 (decide (¬ (rnu c 0 9999).1 = -1)) (gu (rnu c 0 9999).2 100002 4 (rnu c 0 9999).1)
  else if z = 6 then rfi2 (rrw c (100002 + 11) 3).1 (rrw c (100002 + 11) 3).2
  else rfi2 (decide (¬ (rnu c 0 99).1 = -1)) (gu (rnu c 0 99).2 100002 5 (rnu c 0 99).1)
def rse (z : Int) (c : gC) : Bool × gC := if tb (c 100032 10) z = true then (false, fai c 3) else rse1 z (adv (gu c 100032 10 (zor (c 100032 10) (zshl 1 z))))
def rstm (c : gC) : Bool × gC := if c 100032 9 = 0 then rno c else if c 100032 9 = 1 then rro c else if c 100032 9 = 7 then rsn c else if c 100032 9 = -1 ∨ c 100032 9 = 2 then (false, fai c 1) else rse (c 100032 9) c
theorem rse1_3 {c : gC} : rse1 3 c = rfi2 (rrw c (100002 + 10) 4).1 (rrw c (100002 + 10) 4).2 := rfl
theorem rse1_4 {c : gC} : rse1 4 c = rfi2 (decide (¬ (rkn c).1 = -1)) (gu (rkn c).2 100002 3 (rkn c).1) := rfl
theorem rse1_5 {c : gC} : rse1 5 c = rfi2 (decide (¬ (rnu c 0 9999).1 = -1)) (gu (rnu c 0 9999).2 100002 4 (rnu c 0 9999).1) := rfl
theorem rse1_6 {c : gC} : rse1 6 c = rfi2 (rrw c (100002 + 11) 3).1 (rrw c (100002 + 11) 3).2 := rfl
theorem rse1_8 {z : Int} {c : gC} (h : z < 3 ∨ 6 < z) : rse1 z c = rfi2 (decide (¬ (rnu c 0 99).1 = -1)) (gu (rnu c 0 99).2 100002 5 (rnu c 0 99).1) := by
  unfold rse1
  rw [if_neg (by omega), if_neg (by omega), if_neg (by omega), if_neg (by omega)]
theorem rfi2_of {c m : gC} {b : Bool} (hm : PN m ∧ PFr c m) : PN (rfi2 b m).2 ∧ PFr c (rfi2 b m).2 := by
  unfold rfi2
  split
  · exact ren_of hm
  · exact hm
theorem PN_0f {c m : gC} {j z : Int} (hm : PN m ∧ PFr c m) (hr : ¬ j = 1) (hr2 : ¬ j = 2) (hz : -2147483648 ≤ z ∧ z < 2147483648) : PN (gu m 100002 j z) ∧ PFr c (gu m 100002 j z) := by
  have h := PN_0 (r := j) (z := z) hm.1 hr hr2 hz
  exact ⟨h.1, PFr_tr hm.2 h.2⟩
theorem rse1_of {c m : gC} {z : Int} (hm : PN m ∧ PFr c m) : PN (rse1 z m).2 ∧ PFr c (rse1 z m).2 := by
  have hk := rkn_rg hm.1
  have h5 := rnu_rg (l := 0) (h := 9999) hm.1 (by decide) (by decide)
  have h8 := rnu_rg (l := 0) (h := 99) hm.1 (by decide) (by decide)
  unfold rse1
  split
  · exact rfi2_of (rrw_of hm (Or.inl rfl) 4)
  · split
    · exact rfi2_of (PN_0f (rkn_of hm) (by decide) (by decide) (by omega))
    · split
      · exact rfi2_of (PN_0f (rnu_of hm) (by decide) (by decide) (by omega))
      · split
        · exact rfi2_of (rrw_of hm (Or.inr rfl) 3)
        · exact rfi2_of (PN_0f (rnu_of hm) (by decide) (by decide) (by omega))
theorem rse_of {c m : gC} {z : Int} (hm : PN m ∧ PFr c m) : PN (rse z m).2 ∧ PFr c (rse z m).2 := by
  unfold rse
  split
  · exact fai_of hm (by decide)
  · exact rse1_of (adv_of ⟨PN_p hm.1 (by decide) (zrg _), PFr_gu hm.2 (by omega)⟩)
theorem rstm_of {c m : gC} (hm : PN m ∧ PFr c m) : PN (rstm m).2 ∧ PFr c (rstm m).2 := by
  unfold rstm
  split
  · exact rno_of hm
  · split
    · exact rro_of hm
    · split
      · exact rsn_of hm
      · split
        · exact fai_of hm (by decide)
        · exact rse_of hm
/-- one statement more, while there is one -/
def psf (x : Bool × gC) : Bool × gC := if x.1 = true ∧ ¬ x.2 100032 5 = 0 then rstm x.2 else x
theorem psf_s {x : Bool × gC} (h : x.1 = true) (h2 : ¬ x.2 100032 5 = 0) : psf x = rstm x.2 := if_pos ⟨h, h2⟩
theorem psf_e {x : Bool × gC} (h : x.2 100032 5 = 0) : psf x = x := if_neg fun a => a.2 h
theorem psf_0 {x : Bool × gC} (h : x.1 = false) : psf x = x := if_neg fun a => by rw [h] at a; exact absurd a.1 (by decide)
def psl (c : gC) (i : Int) : Bool × gC := itI (fun _ => psf) (true, c) i
theorem psl_of {c m : gC} (hm : PN m ∧ PFr c m) (i : Int) : PN (psl m i).2 ∧ PFr c (psl m i).2 := by
  refine itI_inv (fun x : Bool × gC => PN x.2 ∧ PFr c x.2) hm (fun j x h => ?_) i
  unfold psf
  split
  · exact rstm_of h
  · exact h
def pr0 (c : gC) : gC := adv (gu (gu (gu (gu (nrs c 100002) 100032 3 0) 100032 4 (-1)) 100032 10 0) 100032 7 0)
def prd (m : gC) : gC := if m 100002 3 = -1 ∧ 0 < m 100002 1 then gu m 100002 3 0 else m
def prs (c : gC) : Bool × gC := if (psl (pr0 c) 1201).1 = true then (true, prd (psl (pr0 c) 1201).2) else (false, (psl (pr0 c) 1201).2)
theorem NR_1 {c : gC} {k : Nat} (h : NR c k) : NR (gu c k 1 0) k := by
  unfold NR at h ⊢
  simp (disch := omega) only [gu_k, gu_j, gu_s]
  exact ⟨by omega, h.2⟩
theorem NR_2 {c : gC} {k : Nat} (h : NR c k) : NR (gu c k 2 0) k := by
  unfold NR at h ⊢
  simp (disch := omega) only [gu_k, gu_j, gu_s]
  exact ⟨h.1, by omega, h.2.2⟩
theorem nrs_NR {c : gC} {k : Nat} (h : NR c k) : NR (nrs c k) k := by
  unfold nrs
  exact NR_11 (NR_11 (NR_11 (NR_10 (NR_10 (NR_10 (NR_10 (NR_0 (NR_0 (NR_0 (NR_0 (NR_2 (NR_1 h)) (by decide) (by decide)) (by decide) (by decide)) (by decide) (by decide)) (by decide) (by decide)) (by decide)) (by decide)) (by decide)) (by decide)) (by decide)) (by decide)) (by decide)
theorem PN_of0 {c m : gC} (hr : RG m) (hn : NR m 100002) (hf : PFr c m) (hB : BR c 100000) (h7 : m 100032 7 = 0) : PN m := by
  refine ⟨⟨hr, ?_, ?_⟩, hn⟩
  · unfold BR; rw [hf 100000 (by omega) (by omega)]; exact hB
  · rw [h7, hf 100000 (by omega) (by omega)]; exact ⟨by decide, hB.1⟩
theorem pr0_0 {c : gC} (hc : RG c) (hB : BR c 100000) (hN : NR c 100002) : PN (gu (gu (gu (gu (nrs c 100002) 100032 3 0) 100032 4 (-1)) 100032 10 0) 100032 7 0) ∧ PFr c (gu (gu (gu (gu (nrs c 100002) 100032 3 0) 100032 4 (-1)) 100032 10 0) 100032 7 0) := by
  have hf : PFr c (gu (gu (gu (gu (nrs c 100002) 100032 3 0) 100032 4 (-1)) 100032 10 0) 100032 7 0) := by
    refine PFr_gu (PFr_gu (PFr_gu (PFr_gu ?_ (by omega)) (by omega)) (by omega)) (by omega)
    intro k a b
    funext j
    exact nrs_k (by omega) (by omega) (by omega)
  exact ⟨PN_of0 (RG_gu (RG_gu (RG_gu (RG_gu (nrs_RG hc) (by decide)) (by decide)) (by decide)) (by decide)) (NR_k (NR_k (NR_k (NR_k (nrs_NR hN) (by omega)) (by omega)) (by omega)) (by omega)) hf hB gu_s, hf⟩
theorem pr0_of {c : gC} (hc : RG c) (hB : BR c 100000) (hN : NR c 100002) : PN (pr0 c) ∧ PFr c (pr0 c) := adv_of (pr0_0 hc hB hN)
theorem prd_of {c m : gC} (hm : PN m ∧ PFr c m) : PN (prd m) ∧ PFr c (prd m) := by
  unfold prd
  split
  · exact PN_0f hm (by decide) (by decide) (by decide)
  · exact hm
theorem prs_of {c : gC} (hc : RG c) (hB : BR c 100000) (hN : NR c 100002) : PN (prs c).2 ∧ PFr c (prs c).2 := by
  have h := psl_of (pr0_of hc hB hN) 1201
  obtain ⟨X, hX⟩ : ∃ X, X = psl (pr0 c) 1201 := ⟨_, rfl⟩
  unfold prs
  rw [← hX] at h ⊢
  split
  · exact prd_of h
  · exact h
set_option maxHeartbeats 1000000 in
theorem c_rfi2 {d g : Nat} {T : gT} {c J : gC} (hd : 4 ≤ d) (hA : AT T) (h : PN c) {z : Int} {b1 : Bool} : gw d g 40 191 [.ref 100032, gi z, gi (bi b1)] [] (gm T c J) (fun o M1 => o = .inl (some (gi (bi (rfi2 b1 c).1))) ∧ M1 = gm T (rfi2 b1 c).2 J) := by
  refine gw_il2 at40_191 ?_
  refine gw_beq at40_192 (fun q192 => ?_) (fun q192 => ?_)
  · refine gw_const at40_206 (gw_r0 at40_207 am_r40.2.1 ?_)
    unfold rfi2
    first | (rw [if_pos q192, q199]; exact ⟨rfl, rfl⟩) | (rw [if_neg (by rw [q192]; decide)]; exact ⟨rfl, rfl⟩)
  · refine gw_al0 at40_195 ?_
    refine gw_call1 at40_196 (c_ren hA h) (by omega) (Nat.le_of_ble_eq_true rfl) (fun o M1 q196 => ?_)
    obtain ⟨rfl, rfl⟩ := q196
    show gw _ _ _ _ _ (gi _ :: []) _ _
    refine gw_beq at40_199 (fun q199 => ?_) (fun q199 => ?_)
    · refine gw_const at40_206 (gw_r0 at40_207 am_r40.2.1 ?_)
      unfold rfi2
      first | (rw [if_pos q192, q199]; exact ⟨rfl, rfl⟩) | (rw [if_neg (by rw [q192]; decide)]; exact ⟨rfl, rfl⟩)
    · refine gw_const at40_202 (gw_goto at40_203 (gw_r1 at40_207 am_r40.2.1 ?_))
      unfold rfi2
      first | (rw [if_pos q192, q199]; exact ⟨rfl, rfl⟩) | (rw [if_neg (by rw [q192]; decide)]; exact ⟨rfl, rfl⟩)
set_option maxHeartbeats 1000000 in
theorem c_rse1 {d g : Nat} {T : gT} {c J : gC} (hd : 4 ≤ d) (hA : AT T) (h : PN c) {z : Int} (hz : -2147483648 ≤ z ∧ z < 2147483648) {u : Value} (hu : am_nl u = true) : gw d g 40 33 [.ref 100032, gi z, u] [] (gm T c J) (fun o M1 => o = .inl (some (gi (bi (rse1 z c).1))) ∧ M1 = gm T (rse1 z c).2 J) := by
  have hk := rkn_rg h
  have h5 := rnu_rg (l := 0) (h := 9999) h (by decide) (by decide)
  have h8 := rnu_rg (l := 0) (h := 99) h (by decide) (by decide)
  have r3 := rrw_of (c := c) (m := c) ⟨h, PFr_rf⟩ (Or.inl rfl) 4
  have r6 := rrw_of (c := c) (m := c) ⟨h, PFr_rf⟩ (Or.inr rfl) 3
  have r4 := PN_0f (c := c) (j := 3) (z := (rkn c).1) (rkn_PN h) (by decide) (by decide) (by omega)
  have r5 := PN_0f (c := c) (j := 4) (z := (rnu c 0 9999).1) (rnu_PN (l := 0) (h := 9999) h) (by decide) (by decide) (by omega)
  have r8 := PN_0f (c := c) (j := 5) (z := (rnu c 0 99).1) (rnu_PN (l := 0) (h := 99) h) (by decide) (by decide) (by omega)
  refine gw_il1 at40_33 ?_
  rcases (by omega : z = 3 ∨ z = 4 ∨ z = 5 ∨ z = 6 ∨ (z < 3 ∨ 6 < z)) with e | e | e | e | e
  · subst e
    rw [rse1_3]
    refine gw_sw at40_34 (by first | omega | exact h.1.1 _ _) rfl ?_
    refine gw_al0 at40_64 (gw_al0 at40_65 (gw_gr at40_66 (by first | exact AT_0 hA | exact AT_r0 hA | exact AT_r1 hA | exact AT_r2 hA | exact AT_t hA | exact AT_l hA | exact AT_b0 hA | exact AT_b1 hA | exact AT_b2 hA | exact AT_b3 hA | exact NT_0 (AT_n hA) | exact NT_r15 (AT_n hA) | exact NT_t15 (AT_n hA) | exact NT_l15 (AT_n hA) | exact NT_r16 (AT_n hA) | exact NT_t16 (AT_n hA) | exact NT_l16 (AT_n hA) | exact NT_r17 (AT_n hA) | exact NT_t17 (AT_n hA) | exact NT_l17 (AT_n hA)) (by first | exact AT_0 hA | exact AT_r0 hA | exact AT_r1 hA | exact AT_r2 hA | exact AT_t hA | exact AT_l hA | exact AT_b0 hA | exact AT_b1 hA | exact AT_b2 hA | exact AT_b3 hA | exact NT_0 (AT_n hA) | exact NT_r15 (AT_n hA) | exact NT_t15 (AT_n hA) | exact NT_l15 (AT_n hA) | exact NT_r16 (AT_n hA) | exact NT_t16 (AT_n hA) | exact NT_l16 (AT_n hA) | exact NT_r17 (AT_n hA) | exact NT_t17 (AT_n hA) | exact NT_l17 (AT_n hA)) (gw_gr at40_69 (by first | exact AT_0 hA | exact AT_r0 hA | exact AT_r1 hA | exact AT_r2 hA | exact AT_t hA | exact AT_l hA | exact AT_b0 hA | exact AT_b1 hA | exact AT_b2 hA | exact AT_b3 hA | exact NT_0 (AT_n hA) | exact NT_r15 (AT_n hA) | exact NT_t15 (AT_n hA) | exact NT_l15 (AT_n hA) | exact NT_r16 (AT_n hA) | exact NT_t16 (AT_n hA) | exact NT_l16 (AT_n hA) | exact NT_r17 (AT_n hA) | exact NT_t17 (AT_n hA) | exact NT_l17 (AT_n hA)) (by first | exact AT_0 hA | exact AT_r0 hA | exact AT_r1 hA | exact AT_r2 hA | exact AT_t hA | exact AT_l hA | exact AT_b0 hA | exact AT_b1 hA | exact AT_b2 hA | exact AT_b3 hA | exact NT_0 (AT_n hA) | exact NT_r15 (AT_n hA) | exact NT_t15 (AT_n hA) | exact NT_l15 (AT_n hA) | exact NT_r16 (AT_n hA) | exact NT_t16 (AT_n hA) | exact NT_l16 (AT_n hA) | exact NT_r17 (AT_n hA) | exact NT_t17 (AT_n hA) | exact NT_l17 (AT_n hA)) ?_)))
    refine gw_call2 at40_72 (c_rrw hA h (q := 100002 + 10) (n := 4) (Or.inl rfl) (by decide) (NT_t16 (AT_n hA)) (NT_l16 (AT_n hA))) (by omega) (Nat.le_of_ble_eq_true rfl) (fun o M1 q72 => ?_)
    obtain ⟨rfl, rfl⟩ := q72
    show gw _ _ _ _ _ (gi _ :: []) _ _
    refine gw_is2 at40_75 (h := (gw_goto at40_76 ?_))
    first | exact c_rfi2 (by omega) hA r3.1 | exact c_rfi2 (by omega) hA r6.1 | (rw [decide_eq_true (by omega)]; first | exact c_rfi2 (b1 := true) (by omega) hA r4.1 | exact c_rfi2 (b1 := true) (by omega) hA r5.1 | exact c_rfi2 (b1 := true) (by omega) hA r8.1) | (rw [decide_eq_false (by omega)]; first | exact c_rfi2 (b1 := false) (by omega) hA r4.1 | exact c_rfi2 (b1 := false) (by omega) hA r5.1 | exact c_rfi2 (b1 := false) (by omega) hA r8.1)
  · subst e
    rw [rse1_4]
    refine gw_sw at40_34 (by first | omega | exact h.1.1 _ _) rfl ?_
    refine gw_al0 at40_79 (gw_gr at40_80 (by first | exact AT_0 hA | exact AT_r0 hA | exact AT_r1 hA | exact AT_r2 hA | exact AT_t hA | exact AT_l hA | exact AT_b0 hA | exact AT_b1 hA | exact AT_b2 hA | exact AT_b3 hA | exact NT_0 (AT_n hA) | exact NT_r15 (AT_n hA) | exact NT_t15 (AT_n hA) | exact NT_l15 (AT_n hA) | exact NT_r16 (AT_n hA) | exact NT_t16 (AT_n hA) | exact NT_l16 (AT_n hA) | exact NT_r17 (AT_n hA) | exact NT_t17 (AT_n hA) | exact NT_l17 (AT_n hA)) (by first | exact AT_0 hA | exact AT_r0 hA | exact AT_r1 hA | exact AT_r2 hA | exact AT_t hA | exact AT_l hA | exact AT_b0 hA | exact AT_b1 hA | exact AT_b2 hA | exact AT_b3 hA | exact NT_0 (AT_n hA) | exact NT_r15 (AT_n hA) | exact NT_t15 (AT_n hA) | exact NT_l15 (AT_n hA) | exact NT_r16 (AT_n hA) | exact NT_t16 (AT_n hA) | exact NT_l16 (AT_n hA) | exact NT_r17 (AT_n hA) | exact NT_t17 (AT_n hA) | exact NT_l17 (AT_n hA)) (gw_al0 at40_83 ?_))
    refine gw_call1 at40_84 (c_rkn hA h) (by omega) (Nat.le_of_ble_eq_true rfl) (fun o M1 q84 => ?_)
    obtain ⟨rfl, rfl⟩ := q84
    show gw _ _ _ _ _ (gi _ :: _) _ _
    refine gw_pf (j := 3) at40_87 (by first | exact AT_0 hA | exact AT_r0 hA | exact AT_r1 hA | exact AT_r2 hA | exact AT_t hA | exact AT_l hA | exact AT_b0 hA | exact AT_b1 hA | exact AT_b2 hA | exact AT_b3 hA | exact NT_0 (AT_n hA) | exact NT_r15 (AT_n hA) | exact NT_t15 (AT_n hA) | exact NT_l15 (AT_n hA) | exact NT_r16 (AT_n hA) | exact NT_t16 (AT_n hA) | exact NT_l16 (AT_n hA) | exact NT_r17 (AT_n hA) | exact NT_t17 (AT_n hA) | exact NT_l17 (AT_n hA)) rfl (gw_al0 at40_90 (gw_gr at40_91 (by first | exact AT_0 hA | exact AT_r0 hA | exact AT_r1 hA | exact AT_r2 hA | exact AT_t hA | exact AT_l hA | exact AT_b0 hA | exact AT_b1 hA | exact AT_b2 hA | exact AT_b3 hA | exact NT_0 (AT_n hA) | exact NT_r15 (AT_n hA) | exact NT_t15 (AT_n hA) | exact NT_l15 (AT_n hA) | exact NT_r16 (AT_n hA) | exact NT_t16 (AT_n hA) | exact NT_l16 (AT_n hA) | exact NT_r17 (AT_n hA) | exact NT_t17 (AT_n hA) | exact NT_l17 (AT_n hA)) (by first | exact AT_0 hA | exact AT_r0 hA | exact AT_r1 hA | exact AT_r2 hA | exact AT_t hA | exact AT_l hA | exact AT_b0 hA | exact AT_b1 hA | exact AT_b2 hA | exact AT_b3 hA | exact NT_0 (AT_n hA) | exact NT_r15 (AT_n hA) | exact NT_t15 (AT_n hA) | exact NT_l15 (AT_n hA) | exact NT_r16 (AT_n hA) | exact NT_t16 (AT_n hA) | exact NT_l16 (AT_n hA) | exact NT_r17 (AT_n hA) | exact NT_t17 (AT_n hA) | exact NT_l17 (AT_n hA)) (gw_gf (j := 3) at40_94 (by first | exact AT_0 hA | exact AT_r0 hA | exact AT_r1 hA | exact AT_r2 hA | exact AT_t hA | exact AT_l hA | exact AT_b0 hA | exact AT_b1 hA | exact AT_b2 hA | exact AT_b3 hA | exact NT_0 (AT_n hA) | exact NT_r15 (AT_n hA) | exact NT_t15 (AT_n hA) | exact NT_l15 (AT_n hA) | exact NT_r16 (AT_n hA) | exact NT_t16 (AT_n hA) | exact NT_l16 (AT_n hA) | exact NT_r17 (AT_n hA) | exact NT_t17 (AT_n hA) | exact NT_l17 (AT_n hA)) rfl ?_)))
    rw [gu_s]
    refine gw_const at40_97 ?_
    refine gw_ceq at40_98 (by first | omega | exact h.1.1 _ _) (by first | omega | exact h.1.1 _ _) (fun q98 => ?_) (fun q98 => ?_)
    · refine gw_const at40_105 (gw_is2 at40_106 (h := (gw_goto at40_107 ?_)))
      first | exact c_rfi2 (by omega) hA r3.1 | exact c_rfi2 (by omega) hA r6.1 | (rw [decide_eq_true (by omega)]; first | exact c_rfi2 (b1 := true) (by omega) hA r4.1 | exact c_rfi2 (b1 := true) (by omega) hA r5.1 | exact c_rfi2 (b1 := true) (by omega) hA r8.1) | (rw [decide_eq_false (by omega)]; first | exact c_rfi2 (b1 := false) (by omega) hA r4.1 | exact c_rfi2 (b1 := false) (by omega) hA r5.1 | exact c_rfi2 (b1 := false) (by omega) hA r8.1)
    · refine gw_const at40_101 (gw_goto at40_102 (gw_is2 at40_106 (h := (gw_goto at40_107 ?_))))
      first | exact c_rfi2 (by omega) hA r3.1 | exact c_rfi2 (by omega) hA r6.1 | (rw [decide_eq_true (by omega)]; first | exact c_rfi2 (b1 := true) (by omega) hA r4.1 | exact c_rfi2 (b1 := true) (by omega) hA r5.1 | exact c_rfi2 (b1 := true) (by omega) hA r8.1) | (rw [decide_eq_false (by omega)]; first | exact c_rfi2 (b1 := false) (by omega) hA r4.1 | exact c_rfi2 (b1 := false) (by omega) hA r5.1 | exact c_rfi2 (b1 := false) (by omega) hA r8.1)
  · subst e
    rw [rse1_5]
    refine gw_sw at40_34 (by first | omega | exact h.1.1 _ _) rfl ?_
    refine gw_al0 at40_110 (gw_gr at40_111 (by first | exact AT_0 hA | exact AT_r0 hA | exact AT_r1 hA | exact AT_r2 hA | exact AT_t hA | exact AT_l hA | exact AT_b0 hA | exact AT_b1 hA | exact AT_b2 hA | exact AT_b3 hA | exact NT_0 (AT_n hA) | exact NT_r15 (AT_n hA) | exact NT_t15 (AT_n hA) | exact NT_l15 (AT_n hA) | exact NT_r16 (AT_n hA) | exact NT_t16 (AT_n hA) | exact NT_l16 (AT_n hA) | exact NT_r17 (AT_n hA) | exact NT_t17 (AT_n hA) | exact NT_l17 (AT_n hA)) (by first | exact AT_0 hA | exact AT_r0 hA | exact AT_r1 hA | exact AT_r2 hA | exact AT_t hA | exact AT_l hA | exact AT_b0 hA | exact AT_b1 hA | exact AT_b2 hA | exact AT_b3 hA | exact NT_0 (AT_n hA) | exact NT_r15 (AT_n hA) | exact NT_t15 (AT_n hA) | exact NT_l15 (AT_n hA) | exact NT_r16 (AT_n hA) | exact NT_t16 (AT_n hA) | exact NT_l16 (AT_n hA) | exact NT_r17 (AT_n hA) | exact NT_t17 (AT_n hA) | exact NT_l17 (AT_n hA)) (gw_al0 at40_114 (gw_const at40_115 (gw_sip at40_116 (by decide) ?_))))
    refine gw_call3 at40_119 (c_rnu hA h (l := 0) (u := 9999) (by decide) (by decide)) (by omega) (Nat.le_of_ble_eq_true rfl) (fun o M1 q119 => ?_)
    obtain ⟨rfl, rfl⟩ := q119
    show gw _ _ _ _ _ (gi _ :: _) _ _
    refine gw_pf (j := 4) at40_122 (by first | exact AT_0 hA | exact AT_r0 hA | exact AT_r1 hA | exact AT_r2 hA | exact AT_t hA | exact AT_l hA | exact AT_b0 hA | exact AT_b1 hA | exact AT_b2 hA | exact AT_b3 hA | exact NT_0 (AT_n hA) | exact NT_r15 (AT_n hA) | exact NT_t15 (AT_n hA) | exact NT_l15 (AT_n hA) | exact NT_r16 (AT_n hA) | exact NT_t16 (AT_n hA) | exact NT_l16 (AT_n hA) | exact NT_r17 (AT_n hA) | exact NT_t17 (AT_n hA) | exact NT_l17 (AT_n hA)) rfl (gw_al0 at40_125 (gw_gr at40_126 (by first | exact AT_0 hA | exact AT_r0 hA | exact AT_r1 hA | exact AT_r2 hA | exact AT_t hA | exact AT_l hA | exact AT_b0 hA | exact AT_b1 hA | exact AT_b2 hA | exact AT_b3 hA | exact NT_0 (AT_n hA) | exact NT_r15 (AT_n hA) | exact NT_t15 (AT_n hA) | exact NT_l15 (AT_n hA) | exact NT_r16 (AT_n hA) | exact NT_t16 (AT_n hA) | exact NT_l16 (AT_n hA) | exact NT_r17 (AT_n hA) | exact NT_t17 (AT_n hA) | exact NT_l17 (AT_n hA)) (by first | exact AT_0 hA | exact AT_r0 hA | exact AT_r1 hA | exact AT_r2 hA | exact AT_t hA | exact AT_l hA | exact AT_b0 hA | exact AT_b1 hA | exact AT_b2 hA | exact AT_b3 hA | exact NT_0 (AT_n hA) | exact NT_r15 (AT_n hA) | exact NT_t15 (AT_n hA) | exact NT_l15 (AT_n hA) | exact NT_r16 (AT_n hA) | exact NT_t16 (AT_n hA) | exact NT_l16 (AT_n hA) | exact NT_r17 (AT_n hA) | exact NT_t17 (AT_n hA) | exact NT_l17 (AT_n hA)) (gw_gf (j := 4) at40_129 (by first | exact AT_0 hA | exact AT_r0 hA | exact AT_r1 hA | exact AT_r2 hA | exact AT_t hA | exact AT_l hA | exact AT_b0 hA | exact AT_b1 hA | exact AT_b2 hA | exact AT_b3 hA | exact NT_0 (AT_n hA) | exact NT_r15 (AT_n hA) | exact NT_t15 (AT_n hA) | exact NT_l15 (AT_n hA) | exact NT_r16 (AT_n hA) | exact NT_t16 (AT_n hA) | exact NT_l16 (AT_n hA) | exact NT_r17 (AT_n hA) | exact NT_t17 (AT_n hA) | exact NT_l17 (AT_n hA)) rfl ?_)))
    rw [gu_s]
    refine gw_const at40_132 ?_
    refine gw_ceq at40_133 (by first | omega | exact h.1.1 _ _) (by first | omega | exact h.1.1 _ _) (fun q133 => ?_) (fun q133 => ?_)
    · refine gw_const at40_140 (gw_is2 at40_141 (h := (gw_goto at40_142 ?_)))
      first | exact c_rfi2 (by omega) hA r3.1 | exact c_rfi2 (by omega) hA r6.1 | (rw [decide_eq_true (by omega)]; first | exact c_rfi2 (b1 := true) (by omega) hA r4.1 | exact c_rfi2 (b1 := true) (by omega) hA r5.1 | exact c_rfi2 (b1 := true) (by omega) hA r8.1) | (rw [decide_eq_false (by omega)]; first | exact c_rfi2 (b1 := false) (by omega) hA r4.1 | exact c_rfi2 (b1 := false) (by omega) hA r5.1 | exact c_rfi2 (b1 := false) (by omega) hA r8.1)
    · refine gw_const at40_136 (gw_goto at40_137 (gw_is2 at40_141 (h := (gw_goto at40_142 ?_))))
      first | exact c_rfi2 (by omega) hA r3.1 | exact c_rfi2 (by omega) hA r6.1 | (rw [decide_eq_true (by omega)]; first | exact c_rfi2 (b1 := true) (by omega) hA r4.1 | exact c_rfi2 (b1 := true) (by omega) hA r5.1 | exact c_rfi2 (b1 := true) (by omega) hA r8.1) | (rw [decide_eq_false (by omega)]; first | exact c_rfi2 (b1 := false) (by omega) hA r4.1 | exact c_rfi2 (b1 := false) (by omega) hA r5.1 | exact c_rfi2 (b1 := false) (by omega) hA r8.1)
  · subst e
    rw [rse1_6]
    refine gw_sw at40_34 (by first | omega | exact h.1.1 _ _) rfl ?_
    refine gw_al0 at40_145 (gw_al0 at40_146 (gw_gr at40_147 (by first | exact AT_0 hA | exact AT_r0 hA | exact AT_r1 hA | exact AT_r2 hA | exact AT_t hA | exact AT_l hA | exact AT_b0 hA | exact AT_b1 hA | exact AT_b2 hA | exact AT_b3 hA | exact NT_0 (AT_n hA) | exact NT_r15 (AT_n hA) | exact NT_t15 (AT_n hA) | exact NT_l15 (AT_n hA) | exact NT_r16 (AT_n hA) | exact NT_t16 (AT_n hA) | exact NT_l16 (AT_n hA) | exact NT_r17 (AT_n hA) | exact NT_t17 (AT_n hA) | exact NT_l17 (AT_n hA)) (by first | exact AT_0 hA | exact AT_r0 hA | exact AT_r1 hA | exact AT_r2 hA | exact AT_t hA | exact AT_l hA | exact AT_b0 hA | exact AT_b1 hA | exact AT_b2 hA | exact AT_b3 hA | exact NT_0 (AT_n hA) | exact NT_r15 (AT_n hA) | exact NT_t15 (AT_n hA) | exact NT_l15 (AT_n hA) | exact NT_r16 (AT_n hA) | exact NT_t16 (AT_n hA) | exact NT_l16 (AT_n hA) | exact NT_r17 (AT_n hA) | exact NT_t17 (AT_n hA) | exact NT_l17 (AT_n hA)) (gw_gr at40_150 (by first | exact AT_0 hA | exact AT_r0 hA | exact AT_r1 hA | exact AT_r2 hA | exact AT_t hA | exact AT_l hA | exact AT_b0 hA | exact AT_b1 hA | exact AT_b2 hA | exact AT_b3 hA | exact NT_0 (AT_n hA) | exact NT_r15 (AT_n hA) | exact NT_t15 (AT_n hA) | exact NT_l15 (AT_n hA) | exact NT_r16 (AT_n hA) | exact NT_t16 (AT_n hA) | exact NT_l16 (AT_n hA) | exact NT_r17 (AT_n hA) | exact NT_t17 (AT_n hA) | exact NT_l17 (AT_n hA)) (by first | exact AT_0 hA | exact AT_r0 hA | exact AT_r1 hA | exact AT_r2 hA | exact AT_t hA | exact AT_l hA | exact AT_b0 hA | exact AT_b1 hA | exact AT_b2 hA | exact AT_b3 hA | exact NT_0 (AT_n hA) | exact NT_r15 (AT_n hA) | exact NT_t15 (AT_n hA) | exact NT_l15 (AT_n hA) | exact NT_r16 (AT_n hA) | exact NT_t16 (AT_n hA) | exact NT_l16 (AT_n hA) | exact NT_r17 (AT_n hA) | exact NT_t17 (AT_n hA) | exact NT_l17 (AT_n hA)) ?_)))
    refine gw_call2 at40_153 (c_rrw hA h (q := 100002 + 11) (n := 3) (Or.inr rfl) (by decide) (NT_t17 (AT_n hA)) (NT_l17 (AT_n hA))) (by omega) (Nat.le_of_ble_eq_true rfl) (fun o M1 q153 => ?_)
    obtain ⟨rfl, rfl⟩ := q153
    show gw _ _ _ _ _ (gi _ :: []) _ _
    refine gw_is2 at40_156 (h := (gw_goto at40_157 ?_))
    first | exact c_rfi2 (by omega) hA r3.1 | exact c_rfi2 (by omega) hA r6.1 | (rw [decide_eq_true (by omega)]; first | exact c_rfi2 (b1 := true) (by omega) hA r4.1 | exact c_rfi2 (b1 := true) (by omega) hA r5.1 | exact c_rfi2 (b1 := true) (by omega) hA r8.1) | (rw [decide_eq_false (by omega)]; first | exact c_rfi2 (b1 := false) (by omega) hA r4.1 | exact c_rfi2 (b1 := false) (by omega) hA r5.1 | exact c_rfi2 (b1 := false) (by omega) hA r8.1)
  · rw [rse1_8 e]
    refine gw_sw at40_34 (by first | omega | exact h.1.1 _ _) (by rw [if_pos e]) ?_
    refine gw_al0 at40_160 (gw_gr at40_161 (by first | exact AT_0 hA | exact AT_r0 hA | exact AT_r1 hA | exact AT_r2 hA | exact AT_t hA | exact AT_l hA | exact AT_b0 hA | exact AT_b1 hA | exact AT_b2 hA | exact AT_b3 hA | exact NT_0 (AT_n hA) | exact NT_r15 (AT_n hA) | exact NT_t15 (AT_n hA) | exact NT_l15 (AT_n hA) | exact NT_r16 (AT_n hA) | exact NT_t16 (AT_n hA) | exact NT_l16 (AT_n hA) | exact NT_r17 (AT_n hA) | exact NT_t17 (AT_n hA) | exact NT_l17 (AT_n hA)) (by first | exact AT_0 hA | exact AT_r0 hA | exact AT_r1 hA | exact AT_r2 hA | exact AT_t hA | exact AT_l hA | exact AT_b0 hA | exact AT_b1 hA | exact AT_b2 hA | exact AT_b3 hA | exact NT_0 (AT_n hA) | exact NT_r15 (AT_n hA) | exact NT_t15 (AT_n hA) | exact NT_l15 (AT_n hA) | exact NT_r16 (AT_n hA) | exact NT_t16 (AT_n hA) | exact NT_l16 (AT_n hA) | exact NT_r17 (AT_n hA) | exact NT_t17 (AT_n hA) | exact NT_l17 (AT_n hA)) (gw_al0 at40_164 (gw_const at40_165 (gw_bip at40_166 (by decide) ?_))))
    refine gw_call3 at40_168 (c_rnu hA h (l := 0) (u := 99) (by decide) (by decide)) (by omega) (Nat.le_of_ble_eq_true rfl) (fun o M1 q168 => ?_)
    obtain ⟨rfl, rfl⟩ := q168
    show gw _ _ _ _ _ (gi _ :: _) _ _
    refine gw_pf (j := 5) at40_171 (by first | exact AT_0 hA | exact AT_r0 hA | exact AT_r1 hA | exact AT_r2 hA | exact AT_t hA | exact AT_l hA | exact AT_b0 hA | exact AT_b1 hA | exact AT_b2 hA | exact AT_b3 hA | exact NT_0 (AT_n hA) | exact NT_r15 (AT_n hA) | exact NT_t15 (AT_n hA) | exact NT_l15 (AT_n hA) | exact NT_r16 (AT_n hA) | exact NT_t16 (AT_n hA) | exact NT_l16 (AT_n hA) | exact NT_r17 (AT_n hA) | exact NT_t17 (AT_n hA) | exact NT_l17 (AT_n hA)) rfl (gw_al0 at40_174 (gw_gr at40_175 (by first | exact AT_0 hA | exact AT_r0 hA | exact AT_r1 hA | exact AT_r2 hA | exact AT_t hA | exact AT_l hA | exact AT_b0 hA | exact AT_b1 hA | exact AT_b2 hA | exact AT_b3 hA | exact NT_0 (AT_n hA) | exact NT_r15 (AT_n hA) | exact NT_t15 (AT_n hA) | exact NT_l15 (AT_n hA) | exact NT_r16 (AT_n hA) | exact NT_t16 (AT_n hA) | exact NT_l16 (AT_n hA) | exact NT_r17 (AT_n hA) | exact NT_t17 (AT_n hA) | exact NT_l17 (AT_n hA)) (by first | exact AT_0 hA | exact AT_r0 hA | exact AT_r1 hA | exact AT_r2 hA | exact AT_t hA | exact AT_l hA | exact AT_b0 hA | exact AT_b1 hA | exact AT_b2 hA | exact AT_b3 hA | exact NT_0 (AT_n hA) | exact NT_r15 (AT_n hA) | exact NT_t15 (AT_n hA) | exact NT_l15 (AT_n hA) | exact NT_r16 (AT_n hA) | exact NT_t16 (AT_n hA) | exact NT_l16 (AT_n hA) | exact NT_r17 (AT_n hA) | exact NT_t17 (AT_n hA) | exact NT_l17 (AT_n hA)) (gw_gf (j := 5) at40_178 (by first | exact AT_0 hA | exact AT_r0 hA | exact AT_r1 hA | exact AT_r2 hA | exact AT_t hA | exact AT_l hA | exact AT_b0 hA | exact AT_b1 hA | exact AT_b2 hA | exact AT_b3 hA | exact NT_0 (AT_n hA) | exact NT_r15 (AT_n hA) | exact NT_t15 (AT_n hA) | exact NT_l15 (AT_n hA) | exact NT_r16 (AT_n hA) | exact NT_t16 (AT_n hA) | exact NT_l16 (AT_n hA) | exact NT_r17 (AT_n hA) | exact NT_t17 (AT_n hA) | exact NT_l17 (AT_n hA)) rfl ?_)))
    rw [gu_s]
    refine gw_const at40_181 ?_
    refine gw_ceq at40_182 (by first | omega | exact h.1.1 _ _) (by first | omega | exact h.1.1 _ _) (fun q182 => ?_) (fun q182 => ?_)
    · refine gw_const at40_189 (gw_is2 at40_190 (h := ?_))
      first | exact c_rfi2 (by omega) hA r3.1 | exact c_rfi2 (by omega) hA r6.1 | (rw [decide_eq_true (by omega)]; first | exact c_rfi2 (b1 := true) (by omega) hA r4.1 | exact c_rfi2 (b1 := true) (by omega) hA r5.1 | exact c_rfi2 (b1 := true) (by omega) hA r8.1) | (rw [decide_eq_false (by omega)]; first | exact c_rfi2 (b1 := false) (by omega) hA r4.1 | exact c_rfi2 (b1 := false) (by omega) hA r5.1 | exact c_rfi2 (b1 := false) (by omega) hA r8.1)
    · refine gw_const at40_185 (gw_goto at40_186 (gw_is2 at40_190 (h := ?_)))
      first | exact c_rfi2 (by omega) hA r3.1 | exact c_rfi2 (by omega) hA r6.1 | (rw [decide_eq_true (by omega)]; first | exact c_rfi2 (b1 := true) (by omega) hA r4.1 | exact c_rfi2 (b1 := true) (by omega) hA r5.1 | exact c_rfi2 (b1 := true) (by omega) hA r8.1) | (rw [decide_eq_false (by omega)]; first | exact c_rfi2 (b1 := false) (by omega) hA r4.1 | exact c_rfi2 (b1 := false) (by omega) hA r5.1 | exact c_rfi2 (b1 := false) (by omega) hA r8.1)
set_option maxHeartbeats 1000000 in
theorem c_rse {g : Nat} {T : gT} {c J : gC} (hA : AT T) (h : PN c) {z : Int} (hz : -2147483648 ≤ z ∧ z < 2147483648) : gE g 40 4 [.ref 100032, gi z] (gm T c J) (fun o M1 => o = .inl (some (gi (bi (rse z c).1))) ∧ M1 = gm T (rse z c).2 J) := by
  have h2 : PN (gu c 100032 10 (zor (c 100032 10) (zshl 1 z))) := PN_p h (by decide) (zrg _)
  refine gE_mk am_r40 rfl (Or.inr ⟨_, rfl, (by first | exact AT_0 hA | exact AT_r0 hA | exact AT_r1 hA | exact AT_r2 hA | exact AT_t hA | exact AT_l hA | exact AT_b0 hA | exact AT_b1 hA | exact AT_b2 hA | exact AT_b3 hA | exact NT_0 (AT_n hA) | exact NT_r15 (AT_n hA) | exact NT_t15 (AT_n hA) | exact NT_l15 (AT_n hA) | exact NT_r16 (AT_n hA) | exact NT_t16 (AT_n hA) | exact NT_l16 (AT_n hA) | exact NT_r17 (AT_n hA) | exact NT_t17 (AT_n hA) | exact NT_l17 (AT_n hA))⟩) (fun d hd => ?_)
  show gw d g 40 0 [.ref 100032, gi z, am_U] [] _ _
  refine gw_al0 at40_0 (gw_gf (j := 10) at40_1 (by first | exact AT_0 hA | exact AT_r0 hA | exact AT_r1 hA | exact AT_r2 hA | exact AT_t hA | exact AT_l hA | exact AT_b0 hA | exact AT_b1 hA | exact AT_b2 hA | exact AT_b3 hA | exact NT_0 (AT_n hA) | exact NT_r15 (AT_n hA) | exact NT_t15 (AT_n hA) | exact NT_l15 (AT_n hA) | exact NT_r16 (AT_n hA) | exact NT_t16 (AT_n hA) | exact NT_l16 (AT_n hA) | exact NT_r17 (AT_n hA) | exact NT_t17 (AT_n hA) | exact NT_l17 (AT_n hA)) rfl (gw_il1 at40_4 (gw_callP2 at40_5 (c_contains) (by omega) (Nat.le_of_ble_eq_true rfl) ?_)))
  refine gw_beq at40_8 (fun q8 => ?_) (fun q8 => ?_)
  · refine gw_al0 at40_17 (gw_dupr at40_18 (gw_gf (j := 10) at40_19 (by first | exact AT_0 hA | exact AT_r0 hA | exact AT_r1 hA | exact AT_r2 hA | exact AT_t hA | exact AT_l hA | exact AT_b0 hA | exact AT_b1 hA | exact AT_b2 hA | exact AT_b3 hA | exact NT_0 (AT_n hA) | exact NT_r15 (AT_n hA) | exact NT_t15 (AT_n hA) | exact NT_l15 (AT_n hA) | exact NT_r16 (AT_n hA) | exact NT_t16 (AT_n hA) | exact NT_l16 (AT_n hA) | exact NT_r17 (AT_n hA) | exact NT_t17 (AT_n hA) | exact NT_l17 (AT_n hA)) rfl (gw_const at40_22 (gw_il1 at40_23 (gw_ishl at40_24 (gw_ior at40_25 (gw_pf (j := 10) at40_26 (by first | exact AT_0 hA | exact AT_r0 hA | exact AT_r1 hA | exact AT_r2 hA | exact AT_t hA | exact AT_l hA | exact AT_b0 hA | exact AT_b1 hA | exact AT_b2 hA | exact AT_b3 hA | exact NT_0 (AT_n hA) | exact NT_r15 (AT_n hA) | exact NT_t15 (AT_n hA) | exact NT_l15 (AT_n hA) | exact NT_r16 (AT_n hA) | exact NT_t16 (AT_n hA) | exact NT_l16 (AT_n hA) | exact NT_r17 (AT_n hA) | exact NT_t17 (AT_n hA) | exact NT_l17 (AT_n hA)) rfl (gw_al0 at40_29 ?_))))))))
    refine gw_call1 at40_30 (c_adv hA h2) (by omega) (Nat.le_of_ble_eq_true rfl) (fun o M1 q30 => ?_)
    obtain ⟨rfl, rfl⟩ := q30
    show gw _ _ _ _ _ [] _ _
    rw [show rse z c = rse1 z (adv (gu c 100032 10 (zor (c 100032 10) (zshl 1 z)))) from if_neg (by rw [q8]; decide)]
    exact c_rse1 (by omega) hA (adv_PN h2).1 hz rfl
  · refine gw_al0 at40_11 (gw_const at40_12 ?_)
    refine gw_call2 at40_13 (c_fai hA) (by omega) (Nat.le_of_ble_eq_true rfl) (fun o M1 q13 => ?_)
    obtain ⟨rfl, rfl⟩ := q13
    show gw _ _ _ _ _ (gi _ :: []) _ _
    refine gw_rb at40_16 am_r40.2.1 ?_
    rw [show rse z c = (false, fai c 3) from if_pos q8]
    exact ⟨rfl, rfl⟩
set_option maxHeartbeats 1000000 in
theorem c_rstm {g : Nat} {T : gT} {c J : gC} (hA : AT T) (h : PN c) : gE g 39 5 [.ref 100032] (gm T c J) (fun o M1 => o = .inl (some (gi (bi (rstm c).1))) ∧ M1 = gm T (rstm c).2 J) := by
  refine gE_mk am_r39 rfl (Or.inr ⟨_, rfl, (by first | exact AT_0 hA | exact AT_r0 hA | exact AT_r1 hA | exact AT_r2 hA | exact AT_t hA | exact AT_l hA | exact AT_b0 hA | exact AT_b1 hA | exact AT_b2 hA | exact AT_b3 hA | exact NT_0 (AT_n hA) | exact NT_r15 (AT_n hA) | exact NT_t15 (AT_n hA) | exact NT_l15 (AT_n hA) | exact NT_r16 (AT_n hA) | exact NT_t16 (AT_n hA) | exact NT_l16 (AT_n hA) | exact NT_r17 (AT_n hA) | exact NT_t17 (AT_n hA) | exact NT_l17 (AT_n hA))⟩) (fun d hd => ?_)
  show gw d g 39 0 [.ref 100032] [] _ _
  refine gw_al0 at39_0 (gw_gf (j := 9) at39_1 (by first | exact AT_0 hA | exact AT_r0 hA | exact AT_r1 hA | exact AT_r2 hA | exact AT_t hA | exact AT_l hA | exact AT_b0 hA | exact AT_b1 hA | exact AT_b2 hA | exact AT_b3 hA | exact NT_0 (AT_n hA) | exact NT_r15 (AT_n hA) | exact NT_t15 (AT_n hA) | exact NT_l15 (AT_n hA) | exact NT_r16 (AT_n hA) | exact NT_t16 (AT_n hA) | exact NT_l16 (AT_n hA) | exact NT_r17 (AT_n hA) | exact NT_t17 (AT_n hA) | exact NT_l17 (AT_n hA)) rfl ?_)
  rcases (by omega : c 100032 9 = 0 ∨ c 100032 9 = 1 ∨ c 100032 9 = 7 ∨ c 100032 9 = -1 ∨ c 100032 9 = 2 ∨ (c 100032 9 < -1 ∨ 7 < c 100032 9) ∨ c 100032 9 = 3 ∨ c 100032 9 = 4 ∨ c 100032 9 = 5 ∨ c 100032 9 = 6) with e | e | e | e | e | e | e | e | e | e
  · rw [e, show rstm c = rno c by unfold rstm; rw [if_pos e]]
    refine gw_sw at39_4 (by first | omega | exact h.1.1 _ _ | decide) rfl ?_
    refine gw_al0 at39_56 ?_
    refine gw_call1 at39_57 (c_rno hA h) (by omega) (Nat.le_of_ble_eq_true rfl) (fun o M1 q57 => ?_)
    obtain ⟨rfl, rfl⟩ := q57
    show gw _ _ _ _ _ (gi _ :: []) _ _
    refine gw_rb at39_60 am_r39.2.1 ?_
    exact ⟨rfl, rfl⟩
  · rw [e, show rstm c = rro c by unfold rstm; rw [if_neg (by omega), if_pos e]]
    refine gw_sw at39_4 (by first | omega | exact h.1.1 _ _ | decide) rfl ?_
    refine gw_al0 at39_61 ?_
    refine gw_call1 at39_62 (c_rro hA h) (by omega) (Nat.le_of_ble_eq_true rfl) (fun o M1 q62 => ?_)
    obtain ⟨rfl, rfl⟩ := q62
    show gw _ _ _ _ _ (gi _ :: []) _ _
    refine gw_rb at39_65 am_r39.2.1 ?_
    exact ⟨rfl, rfl⟩
  · rw [e, show rstm c = rsn c by unfold rstm; rw [if_neg (by omega), if_neg (by omega), if_pos e]]
    refine gw_sw at39_4 (by first | omega | exact h.1.1 _ _ | decide) rfl ?_
    refine gw_al0 at39_66 ?_
    refine gw_call1 at39_67 (c_rsn hA h) (by omega) (Nat.le_of_ble_eq_true rfl) (fun o M1 q67 => ?_)
    obtain ⟨rfl, rfl⟩ := q67
    show gw _ _ _ _ _ (gi _ :: []) _ _
    refine gw_rb at39_70 am_r39.2.1 ?_
    exact ⟨rfl, rfl⟩
  · rw [e, show rstm c = (false, fai c 1) by unfold rstm; rw [if_neg (by omega), if_neg (by omega), if_neg (by omega), if_pos (by omega)]]
    refine gw_sw at39_4 (by first | omega | exact h.1.1 _ _ | decide) rfl ?_
    refine gw_al0 at39_71 (gw_const at39_72 ?_)
    refine gw_call2 at39_73 (c_fai hA) (by omega) (Nat.le_of_ble_eq_true rfl) (fun o M1 q73 => ?_)
    obtain ⟨rfl, rfl⟩ := q73
    show gw _ _ _ _ _ (gi _ :: []) _ _
    refine gw_rb at39_76 am_r39.2.1 ?_
    exact ⟨rfl, rfl⟩
  · rw [e, show rstm c = (false, fai c 1) by unfold rstm; rw [if_neg (by omega), if_neg (by omega), if_neg (by omega), if_pos (by omega)]]
    refine gw_sw at39_4 (by first | omega | exact h.1.1 _ _ | decide) rfl ?_
    refine gw_al0 at39_71 (gw_const at39_72 ?_)
    refine gw_call2 at39_73 (c_fai hA) (by omega) (Nat.le_of_ble_eq_true rfl) (fun o M1 q73 => ?_)
    obtain ⟨rfl, rfl⟩ := q73
    show gw _ _ _ _ _ (gi _ :: []) _ _
    refine gw_rb at39_76 am_r39.2.1 ?_
    exact ⟨rfl, rfl⟩
  · rw [show rstm c = rse (c 100032 9) c by unfold rstm; rw [if_neg (by omega), if_neg (by omega), if_neg (by omega), if_neg (by omega)]]
    refine gw_sw at39_4 (by first | omega | exact h.1.1 _ _ | decide) (by rw [if_pos e]) ?_
    refine gw_al0 at39_77 (gw_al0 at39_78 (gw_gf (j := 9) at39_79 (by first | exact AT_0 hA | exact AT_r0 hA | exact AT_r1 hA | exact AT_r2 hA | exact AT_t hA | exact AT_l hA | exact AT_b0 hA | exact AT_b1 hA | exact AT_b2 hA | exact AT_b3 hA | exact NT_0 (AT_n hA) | exact NT_r15 (AT_n hA) | exact NT_t15 (AT_n hA) | exact NT_l15 (AT_n hA) | exact NT_r16 (AT_n hA) | exact NT_t16 (AT_n hA) | exact NT_l16 (AT_n hA) | exact NT_r17 (AT_n hA) | exact NT_t17 (AT_n hA) | exact NT_l17 (AT_n hA)) rfl ?_))
    refine gw_call2 at39_82 (c_rse hA h (h.1.1 _ _)) (by omega) (Nat.le_of_ble_eq_true rfl) (fun o M1 q82 => ?_)
    obtain ⟨rfl, rfl⟩ := q82
    show gw _ _ _ _ _ (gi _ :: []) _ _
    refine gw_rb at39_85 am_r39.2.1 ?_
    exact ⟨rfl, rfl⟩
  · rw [e, show rstm c = rse (c 100032 9) c by unfold rstm; rw [if_neg (by omega), if_neg (by omega), if_neg (by omega), if_neg (by omega)]]
    refine gw_sw at39_4 (by first | omega | exact h.1.1 _ _ | decide) rfl ?_
    refine gw_al0 at39_77 (gw_al0 at39_78 (gw_gf (j := 9) at39_79 (by first | exact AT_0 hA | exact AT_r0 hA | exact AT_r1 hA | exact AT_r2 hA | exact AT_t hA | exact AT_l hA | exact AT_b0 hA | exact AT_b1 hA | exact AT_b2 hA | exact AT_b3 hA | exact NT_0 (AT_n hA) | exact NT_r15 (AT_n hA) | exact NT_t15 (AT_n hA) | exact NT_l15 (AT_n hA) | exact NT_r16 (AT_n hA) | exact NT_t16 (AT_n hA) | exact NT_l16 (AT_n hA) | exact NT_r17 (AT_n hA) | exact NT_t17 (AT_n hA) | exact NT_l17 (AT_n hA)) rfl ?_))
    refine gw_call2 at39_82 (c_rse hA h (h.1.1 _ _)) (by omega) (Nat.le_of_ble_eq_true rfl) (fun o M1 q82 => ?_)
    obtain ⟨rfl, rfl⟩ := q82
    show gw _ _ _ _ _ (gi _ :: []) _ _
    refine gw_rb at39_85 am_r39.2.1 ?_
    exact ⟨rfl, rfl⟩
  · rw [e, show rstm c = rse (c 100032 9) c by unfold rstm; rw [if_neg (by omega), if_neg (by omega), if_neg (by omega), if_neg (by omega)]]
    refine gw_sw at39_4 (by first | omega | exact h.1.1 _ _ | decide) rfl ?_
    refine gw_al0 at39_77 (gw_al0 at39_78 (gw_gf (j := 9) at39_79 (by first | exact AT_0 hA | exact AT_r0 hA | exact AT_r1 hA | exact AT_r2 hA | exact AT_t hA | exact AT_l hA | exact AT_b0 hA | exact AT_b1 hA | exact AT_b2 hA | exact AT_b3 hA | exact NT_0 (AT_n hA) | exact NT_r15 (AT_n hA) | exact NT_t15 (AT_n hA) | exact NT_l15 (AT_n hA) | exact NT_r16 (AT_n hA) | exact NT_t16 (AT_n hA) | exact NT_l16 (AT_n hA) | exact NT_r17 (AT_n hA) | exact NT_t17 (AT_n hA) | exact NT_l17 (AT_n hA)) rfl ?_))
    refine gw_call2 at39_82 (c_rse hA h (h.1.1 _ _)) (by omega) (Nat.le_of_ble_eq_true rfl) (fun o M1 q82 => ?_)
    obtain ⟨rfl, rfl⟩ := q82
    show gw _ _ _ _ _ (gi _ :: []) _ _
    refine gw_rb at39_85 am_r39.2.1 ?_
    exact ⟨rfl, rfl⟩
  · rw [e, show rstm c = rse (c 100032 9) c by unfold rstm; rw [if_neg (by omega), if_neg (by omega), if_neg (by omega), if_neg (by omega)]]
    refine gw_sw at39_4 (by first | omega | exact h.1.1 _ _ | decide) rfl ?_
    refine gw_al0 at39_77 (gw_al0 at39_78 (gw_gf (j := 9) at39_79 (by first | exact AT_0 hA | exact AT_r0 hA | exact AT_r1 hA | exact AT_r2 hA | exact AT_t hA | exact AT_l hA | exact AT_b0 hA | exact AT_b1 hA | exact AT_b2 hA | exact AT_b3 hA | exact NT_0 (AT_n hA) | exact NT_r15 (AT_n hA) | exact NT_t15 (AT_n hA) | exact NT_l15 (AT_n hA) | exact NT_r16 (AT_n hA) | exact NT_t16 (AT_n hA) | exact NT_l16 (AT_n hA) | exact NT_r17 (AT_n hA) | exact NT_t17 (AT_n hA) | exact NT_l17 (AT_n hA)) rfl ?_))
    refine gw_call2 at39_82 (c_rse hA h (h.1.1 _ _)) (by omega) (Nat.le_of_ble_eq_true rfl) (fun o M1 q82 => ?_)
    obtain ⟨rfl, rfl⟩ := q82
    show gw _ _ _ _ _ (gi _ :: []) _ _
    refine gw_rb at39_85 am_r39.2.1 ?_
    exact ⟨rfl, rfl⟩
  · rw [e, show rstm c = rse (c 100032 9) c by unfold rstm; rw [if_neg (by omega), if_neg (by omega), if_neg (by omega), if_neg (by omega)]]
    refine gw_sw at39_4 (by first | omega | exact h.1.1 _ _ | decide) rfl ?_
    refine gw_al0 at39_77 (gw_al0 at39_78 (gw_gf (j := 9) at39_79 (by first | exact AT_0 hA | exact AT_r0 hA | exact AT_r1 hA | exact AT_r2 hA | exact AT_t hA | exact AT_l hA | exact AT_b0 hA | exact AT_b1 hA | exact AT_b2 hA | exact AT_b3 hA | exact NT_0 (AT_n hA) | exact NT_r15 (AT_n hA) | exact NT_t15 (AT_n hA) | exact NT_l15 (AT_n hA) | exact NT_r16 (AT_n hA) | exact NT_t16 (AT_n hA) | exact NT_l16 (AT_n hA) | exact NT_r17 (AT_n hA) | exact NT_t17 (AT_n hA) | exact NT_l17 (AT_n hA)) rfl ?_))
    refine gw_call2 at39_82 (c_rse hA h (h.1.1 _ _)) (by omega) (Nat.le_of_ble_eq_true rfl) (fun o M1 q82 => ?_)
    obtain ⟨rfl, rfl⟩ := q82
    show gw _ _ _ _ _ (gi _ :: []) _ _
    refine gw_rb at39_85 am_r39.2.1 ?_
    exact ⟨rfl, rfl⟩
set_option maxHeartbeats 1000000 in
theorem c_parse {g : Nat} {T : gT} {c J : gC} (hA : AT T) (hc : RG c) (hB : BR c 100000) (hN : NR c 100002) : gE g 38 6 [.ref 100032] (gm T c J) (fun o M1 => o = .inl (some (gi (bi (prs c).1))) ∧ M1 = gm T (prs c).2 J) := by
  have p0 := pr0_0 hc hB hN
  have p1 := pr0_of hc hB hN
  refine gE_mk am_r38 rfl (Or.inr ⟨_, rfl, (by first | exact AT_0 hA | exact AT_r0 hA | exact AT_r1 hA | exact AT_r2 hA | exact AT_t hA | exact AT_l hA | exact AT_b0 hA | exact AT_b1 hA | exact AT_b2 hA | exact AT_b3 hA | exact NT_0 (AT_n hA) | exact NT_r15 (AT_n hA) | exact NT_t15 (AT_n hA) | exact NT_l15 (AT_n hA) | exact NT_r16 (AT_n hA) | exact NT_t16 (AT_n hA) | exact NT_l16 (AT_n hA) | exact NT_r17 (AT_n hA) | exact NT_t17 (AT_n hA) | exact NT_l17 (AT_n hA))⟩) (fun d hd => ?_)
  show gw d g 38 0 [.ref 100032, am_U] [] _ _
  refine gw_al0 at38_0 (gw_gr at38_1 (by first | exact AT_0 hA | exact AT_r0 hA | exact AT_r1 hA | exact AT_r2 hA | exact AT_t hA | exact AT_l hA | exact AT_b0 hA | exact AT_b1 hA | exact AT_b2 hA | exact AT_b3 hA | exact NT_0 (AT_n hA) | exact NT_r15 (AT_n hA) | exact NT_t15 (AT_n hA) | exact NT_l15 (AT_n hA) | exact NT_r16 (AT_n hA) | exact NT_t16 (AT_n hA) | exact NT_l16 (AT_n hA) | exact NT_r17 (AT_n hA) | exact NT_t17 (AT_n hA) | exact NT_l17 (AT_n hA)) (by first | exact AT_0 hA | exact AT_r0 hA | exact AT_r1 hA | exact AT_r2 hA | exact AT_t hA | exact AT_l hA | exact AT_b0 hA | exact AT_b1 hA | exact AT_b2 hA | exact AT_b3 hA | exact NT_0 (AT_n hA) | exact NT_r15 (AT_n hA) | exact NT_t15 (AT_n hA) | exact NT_l15 (AT_n hA) | exact NT_r16 (AT_n hA) | exact NT_t16 (AT_n hA) | exact NT_l16 (AT_n hA) | exact NT_r17 (AT_n hA) | exact NT_t17 (AT_n hA) | exact NT_l17 (AT_n hA)) ?_)
  refine gw_call1 at38_4 (c_reset (AT_n hA)) (by omega) (Nat.le_of_ble_eq_true rfl) (fun o M1 q4 => ?_)
  obtain ⟨rfl, rfl⟩ := q4
  show gw _ _ _ _ _ [] _ _
  refine gw_al0 at38_7 (gw_const at38_8 (gw_pf (j := 3) at38_9 (by first | exact AT_0 hA | exact AT_r0 hA | exact AT_r1 hA | exact AT_r2 hA | exact AT_t hA | exact AT_l hA | exact AT_b0 hA | exact AT_b1 hA | exact AT_b2 hA | exact AT_b3 hA | exact NT_0 (AT_n hA) | exact NT_r15 (AT_n hA) | exact NT_t15 (AT_n hA) | exact NT_l15 (AT_n hA) | exact NT_r16 (AT_n hA) | exact NT_t16 (AT_n hA) | exact NT_l16 (AT_n hA) | exact NT_r17 (AT_n hA) | exact NT_t17 (AT_n hA) | exact NT_l17 (AT_n hA)) rfl (gw_al0 at38_12 (gw_const at38_13 (gw_pf (j := 4) at38_14 (by first | exact AT_0 hA | exact AT_r0 hA | exact AT_r1 hA | exact AT_r2 hA | exact AT_t hA | exact AT_l hA | exact AT_b0 hA | exact AT_b1 hA | exact AT_b2 hA | exact AT_b3 hA | exact NT_0 (AT_n hA) | exact NT_r15 (AT_n hA) | exact NT_t15 (AT_n hA) | exact NT_l15 (AT_n hA) | exact NT_r16 (AT_n hA) | exact NT_t16 (AT_n hA) | exact NT_l16 (AT_n hA) | exact NT_r17 (AT_n hA) | exact NT_t17 (AT_n hA) | exact NT_l17 (AT_n hA)) rfl (gw_al0 at38_17 (gw_const at38_18 (gw_pf (j := 10) at38_19 (by first | exact AT_0 hA | exact AT_r0 hA | exact AT_r1 hA | exact AT_r2 hA | exact AT_t hA | exact AT_l hA | exact AT_b0 hA | exact AT_b1 hA | exact AT_b2 hA | exact AT_b3 hA | exact NT_0 (AT_n hA) | exact NT_r15 (AT_n hA) | exact NT_t15 (AT_n hA) | exact NT_l15 (AT_n hA) | exact NT_r16 (AT_n hA) | exact NT_t16 (AT_n hA) | exact NT_l16 (AT_n hA) | exact NT_r17 (AT_n hA) | exact NT_t17 (AT_n hA) | exact NT_l17 (AT_n hA)) rfl (gw_al0 at38_22 (gw_const at38_23 (gw_pf (j := 7) at38_24 (by first | exact AT_0 hA | exact AT_r0 hA | exact AT_r1 hA | exact AT_r2 hA | exact AT_t hA | exact AT_l hA | exact AT_b0 hA | exact AT_b1 hA | exact AT_b2 hA | exact AT_b3 hA | exact NT_0 (AT_n hA) | exact NT_r15 (AT_n hA) | exact NT_t15 (AT_n hA) | exact NT_l15 (AT_n hA) | exact NT_r16 (AT_n hA) | exact NT_t16 (AT_n hA) | exact NT_l16 (AT_n hA) | exact NT_r17 (AT_n hA) | exact NT_t17 (AT_n hA) | exact NT_l17 (AT_n hA)) rfl (gw_al0 at38_27 ?_))))))))))))
  refine gw_call1 at38_28 (c_adv hA p0.1) (by omega) (Nat.le_of_ble_eq_true rfl) (fun o M1 q28 => ?_)
  obtain ⟨rfl, rfl⟩ := q28
  show gw _ _ _ _ _ [] _ _
  refine gw_const at38_31 (gw_is1 at38_32 (h := ?_))
  have lp33 : ∀ i : Int, 0 ≤ i → i ≤ 1201 → (psl (pr0 c) i).1 = true → gw d g 38 33 [.ref 100032, gi i] [] (gm T (psl (pr0 c) i).2 J) (fun o M1 => o = .inl (some (gi (bi (prs c).1))) ∧ M1 = gm T (prs c).2 J) := by
    refine ind_up 1201 ?_
    intro i hi0 hi1 ih hi3
    obtain ⟨y1, y2⟩ := psl_of p1 i
    have hs : (psl (pr0 c) i).2 100032 5 = 0 ∨ i = 1201 → psl (pr0 c) 1201 = psl (pr0 c) i := fun e => by
      rcases e with e | e
      · unfold psl at e ⊢
        exact itI_fx hi0 (fun j hj => psf_e e) _ (by omega)
      · rw [e]
    refine gw_il1 at38_33 ?_
    refine gw_sip at38_34 (by decide) ?_
    refine gw_cgt at38_37 (by first | omega | exact hc _ _ | exact y1.1.1 _ _) (by first | omega | exact hc _ _ | exact y1.1.1 _ _) (fun q37 => ?_) (fun q37 => ?_)
    · have e6 := hs (by omega)
      have e7 : prs c = (true, prd (psl (pr0 c) i).2) := by unfold prs; rw [e6, if_pos hi3]
      rw [e7]
      dsimp only
      refine gw_al0 at38_62 (gw_gr at38_63 (by first | exact AT_0 hA | exact AT_r0 hA | exact AT_r1 hA | exact AT_r2 hA | exact AT_t hA | exact AT_l hA | exact AT_b0 hA | exact AT_b1 hA | exact AT_b2 hA | exact AT_b3 hA | exact NT_0 (AT_n hA) | exact NT_r15 (AT_n hA) | exact NT_t15 (AT_n hA) | exact NT_l15 (AT_n hA) | exact NT_r16 (AT_n hA) | exact NT_t16 (AT_n hA) | exact NT_l16 (AT_n hA) | exact NT_r17 (AT_n hA) | exact NT_t17 (AT_n hA) | exact NT_l17 (AT_n hA)) (by first | exact AT_0 hA | exact AT_r0 hA | exact AT_r1 hA | exact AT_r2 hA | exact AT_t hA | exact AT_l hA | exact AT_b0 hA | exact AT_b1 hA | exact AT_b2 hA | exact AT_b3 hA | exact NT_0 (AT_n hA) | exact NT_r15 (AT_n hA) | exact NT_t15 (AT_n hA) | exact NT_l15 (AT_n hA) | exact NT_r16 (AT_n hA) | exact NT_t16 (AT_n hA) | exact NT_l16 (AT_n hA) | exact NT_r17 (AT_n hA) | exact NT_t17 (AT_n hA) | exact NT_l17 (AT_n hA)) (gw_gf (j := 3) at38_66 (by first | exact AT_0 hA | exact AT_r0 hA | exact AT_r1 hA | exact AT_r2 hA | exact AT_t hA | exact AT_l hA | exact AT_b0 hA | exact AT_b1 hA | exact AT_b2 hA | exact AT_b3 hA | exact NT_0 (AT_n hA) | exact NT_r15 (AT_n hA) | exact NT_t15 (AT_n hA) | exact NT_l15 (AT_n hA) | exact NT_r16 (AT_n hA) | exact NT_t16 (AT_n hA) | exact NT_l16 (AT_n hA) | exact NT_r17 (AT_n hA) | exact NT_t17 (AT_n hA) | exact NT_l17 (AT_n hA)) rfl (gw_const at38_69 ?_)))
      refine gw_cne at38_70 (by first | omega | exact hc _ _ | exact y1.1.1 _ _) (by first | omega | exact hc _ _ | exact y1.1.1 _ _) (fun q70 => ?_) (fun q70 => ?_)
      · refine gw_const at38_91 (gw_r1 at38_92 am_r38.2.1 ?_)
        unfold prd
        first | rw [if_pos ⟨by omega, by omega⟩] | rw [if_neg (by omega)]
        exact ⟨rfl, rfl⟩
      · refine gw_al0 at38_73 (gw_gr at38_74 (by first | exact AT_0 hA | exact AT_r0 hA | exact AT_r1 hA | exact AT_r2 hA | exact AT_t hA | exact AT_l hA | exact AT_b0 hA | exact AT_b1 hA | exact AT_b2 hA | exact AT_b3 hA | exact NT_0 (AT_n hA) | exact NT_r15 (AT_n hA) | exact NT_t15 (AT_n hA) | exact NT_l15 (AT_n hA) | exact NT_r16 (AT_n hA) | exact NT_t16 (AT_n hA) | exact NT_l16 (AT_n hA) | exact NT_r17 (AT_n hA) | exact NT_t17 (AT_n hA) | exact NT_l17 (AT_n hA)) (by first | exact AT_0 hA | exact AT_r0 hA | exact AT_r1 hA | exact AT_r2 hA | exact AT_t hA | exact AT_l hA | exact AT_b0 hA | exact AT_b1 hA | exact AT_b2 hA | exact AT_b3 hA | exact NT_0 (AT_n hA) | exact NT_r15 (AT_n hA) | exact NT_t15 (AT_n hA) | exact NT_l15 (AT_n hA) | exact NT_r16 (AT_n hA) | exact NT_t16 (AT_n hA) | exact NT_l16 (AT_n hA) | exact NT_r17 (AT_n hA) | exact NT_t17 (AT_n hA) | exact NT_l17 (AT_n hA)) (gw_gf (j := 1) at38_77 (by first | exact AT_0 hA | exact AT_r0 hA | exact AT_r1 hA | exact AT_r2 hA | exact AT_t hA | exact AT_l hA | exact AT_b0 hA | exact AT_b1 hA | exact AT_b2 hA | exact AT_b3 hA | exact NT_0 (AT_n hA) | exact NT_r15 (AT_n hA) | exact NT_t15 (AT_n hA) | exact NT_l15 (AT_n hA) | exact NT_r16 (AT_n hA) | exact NT_t16 (AT_n hA) | exact NT_l16 (AT_n hA) | exact NT_r17 (AT_n hA) | exact NT_t17 (AT_n hA) | exact NT_l17 (AT_n hA)) rfl ?_))
        refine gw_zle at38_80 (by first | omega | exact hc _ _ | exact y1.1.1 _ _) (fun q80 => ?_) (fun q80 => ?_)
        · refine gw_const at38_91 (gw_r1 at38_92 am_r38.2.1 ?_)
          unfold prd
          first | rw [if_pos ⟨by omega, by omega⟩] | rw [if_neg (by omega)]
          exact ⟨rfl, rfl⟩
        · refine gw_al0 at38_83 (gw_gr at38_84 (by first | exact AT_0 hA | exact AT_r0 hA | exact AT_r1 hA | exact AT_r2 hA | exact AT_t hA | exact AT_l hA | exact AT_b0 hA | exact AT_b1 hA | exact AT_b2 hA | exact AT_b3 hA | exact NT_0 (AT_n hA) | exact NT_r15 (AT_n hA) | exact NT_t15 (AT_n hA) | exact NT_l15 (AT_n hA) | exact NT_r16 (AT_n hA) | exact NT_t16 (AT_n hA) | exact NT_l16 (AT_n hA) | exact NT_r17 (AT_n hA) | exact NT_t17 (AT_n hA) | exact NT_l17 (AT_n hA)) (by first | exact AT_0 hA | exact AT_r0 hA | exact AT_r1 hA | exact AT_r2 hA | exact AT_t hA | exact AT_l hA | exact AT_b0 hA | exact AT_b1 hA | exact AT_b2 hA | exact AT_b3 hA | exact NT_0 (AT_n hA) | exact NT_r15 (AT_n hA) | exact NT_t15 (AT_n hA) | exact NT_l15 (AT_n hA) | exact NT_r16 (AT_n hA) | exact NT_t16 (AT_n hA) | exact NT_l16 (AT_n hA) | exact NT_r17 (AT_n hA) | exact NT_t17 (AT_n hA) | exact NT_l17 (AT_n hA)) (gw_const at38_87 (gw_pf (j := 3) at38_88 (by first | exact AT_0 hA | exact AT_r0 hA | exact AT_r1 hA | exact AT_r2 hA | exact AT_t hA | exact AT_l hA | exact AT_b0 hA | exact AT_b1 hA | exact AT_b2 hA | exact AT_b3 hA | exact NT_0 (AT_n hA) | exact NT_r15 (AT_n hA) | exact NT_t15 (AT_n hA) | exact NT_l15 (AT_n hA) | exact NT_r16 (AT_n hA) | exact NT_t16 (AT_n hA) | exact NT_l16 (AT_n hA) | exact NT_r17 (AT_n hA) | exact NT_t17 (AT_n hA) | exact NT_l17 (AT_n hA)) rfl (gw_const at38_91 (gw_r1 at38_92 am_r38.2.1 ?_)))))
          unfold prd
          first | rw [if_pos ⟨by omega, by omega⟩] | rw [if_neg (by omega)]
          exact ⟨rfl, rfl⟩
    · refine gw_al0 at38_40 (gw_gf (j := 5) at38_41 (by first | exact AT_0 hA | exact AT_r0 hA | exact AT_r1 hA | exact AT_r2 hA | exact AT_t hA | exact AT_l hA | exact AT_b0 hA | exact AT_b1 hA | exact AT_b2 hA | exact AT_b3 hA | exact NT_0 (AT_n hA) | exact NT_r15 (AT_n hA) | exact NT_t15 (AT_n hA) | exact NT_l15 (AT_n hA) | exact NT_r16 (AT_n hA) | exact NT_t16 (AT_n hA) | exact NT_l16 (AT_n hA) | exact NT_r17 (AT_n hA) | exact NT_t17 (AT_n hA) | exact NT_l17 (AT_n hA)) rfl ?_)
      refine gw_zeq at38_44 (by first | omega | exact hc _ _ | exact y1.1.1 _ _) (fun q44 => ?_) (fun q44 => ?_)
      · have e6 := hs (by omega)
        have e7 : prs c = (true, prd (psl (pr0 c) i).2) := by unfold prs; rw [e6, if_pos hi3]
        rw [e7]
        dsimp only
        refine gw_al0 at38_62 (gw_gr at38_63 (by first | exact AT_0 hA | exact AT_r0 hA | exact AT_r1 hA | exact AT_r2 hA | exact AT_t hA | exact AT_l hA | exact AT_b0 hA | exact AT_b1 hA | exact AT_b2 hA | exact AT_b3 hA | exact NT_0 (AT_n hA) | exact NT_r15 (AT_n hA) | exact NT_t15 (AT_n hA) | exact NT_l15 (AT_n hA) | exact NT_r16 (AT_n hA) | exact NT_t16 (AT_n hA) | exact NT_l16 (AT_n hA) | exact NT_r17 (AT_n hA) | exact NT_t17 (AT_n hA) | exact NT_l17 (AT_n hA)) (by first | exact AT_0 hA | exact AT_r0 hA | exact AT_r1 hA | exact AT_r2 hA | exact AT_t hA | exact AT_l hA | exact AT_b0 hA | exact AT_b1 hA | exact AT_b2 hA | exact AT_b3 hA | exact NT_0 (AT_n hA) | exact NT_r15 (AT_n hA) | exact NT_t15 (AT_n hA) | exact NT_l15 (AT_n hA) | exact NT_r16 (AT_n hA) | exact NT_t16 (AT_n hA) | exact NT_l16 (AT_n hA) | exact NT_r17 (AT_n hA) | exact NT_t17 (AT_n hA) | exact NT_l17 (AT_n hA)) (gw_gf (j := 3) at38_66 (by first | exact AT_0 hA | exact AT_r0 hA | exact AT_r1 hA | exact AT_r2 hA | exact AT_t hA | exact AT_l hA | exact AT_b0 hA | exact AT_b1 hA | exact AT_b2 hA | exact AT_b3 hA | exact NT_0 (AT_n hA) | exact NT_r15 (AT_n hA) | exact NT_t15 (AT_n hA) | exact NT_l15 (AT_n hA) | exact NT_r16 (AT_n hA) | exact NT_t16 (AT_n hA) | exact NT_l16 (AT_n hA) | exact NT_r17 (AT_n hA) | exact NT_t17 (AT_n hA) | exact NT_l17 (AT_n hA)) rfl (gw_const at38_69 ?_)))
        refine gw_cne at38_70 (by first | omega | exact hc _ _ | exact y1.1.1 _ _) (by first | omega | exact hc _ _ | exact y1.1.1 _ _) (fun q70 => ?_) (fun q70 => ?_)
        · refine gw_const at38_91 (gw_r1 at38_92 am_r38.2.1 ?_)
          unfold prd
          first | rw [if_pos ⟨by omega, by omega⟩] | rw [if_neg (by omega)]
          exact ⟨rfl, rfl⟩
        · refine gw_al0 at38_73 (gw_gr at38_74 (by first | exact AT_0 hA | exact AT_r0 hA | exact AT_r1 hA | exact AT_r2 hA | exact AT_t hA | exact AT_l hA | exact AT_b0 hA | exact AT_b1 hA | exact AT_b2 hA | exact AT_b3 hA | exact NT_0 (AT_n hA) | exact NT_r15 (AT_n hA) | exact NT_t15 (AT_n hA) | exact NT_l15 (AT_n hA) | exact NT_r16 (AT_n hA) | exact NT_t16 (AT_n hA) | exact NT_l16 (AT_n hA) | exact NT_r17 (AT_n hA) | exact NT_t17 (AT_n hA) | exact NT_l17 (AT_n hA)) (by first | exact AT_0 hA | exact AT_r0 hA | exact AT_r1 hA | exact AT_r2 hA | exact AT_t hA | exact AT_l hA | exact AT_b0 hA | exact AT_b1 hA | exact AT_b2 hA | exact AT_b3 hA | exact NT_0 (AT_n hA) | exact NT_r15 (AT_n hA) | exact NT_t15 (AT_n hA) | exact NT_l15 (AT_n hA) | exact NT_r16 (AT_n hA) | exact NT_t16 (AT_n hA) | exact NT_l16 (AT_n hA) | exact NT_r17 (AT_n hA) | exact NT_t17 (AT_n hA) | exact NT_l17 (AT_n hA)) (gw_gf (j := 1) at38_77 (by first | exact AT_0 hA | exact AT_r0 hA | exact AT_r1 hA | exact AT_r2 hA | exact AT_t hA | exact AT_l hA | exact AT_b0 hA | exact AT_b1 hA | exact AT_b2 hA | exact AT_b3 hA | exact NT_0 (AT_n hA) | exact NT_r15 (AT_n hA) | exact NT_t15 (AT_n hA) | exact NT_l15 (AT_n hA) | exact NT_r16 (AT_n hA) | exact NT_t16 (AT_n hA) | exact NT_l16 (AT_n hA) | exact NT_r17 (AT_n hA) | exact NT_t17 (AT_n hA) | exact NT_l17 (AT_n hA)) rfl ?_))
          refine gw_zle at38_80 (by first | omega | exact hc _ _ | exact y1.1.1 _ _) (fun q80 => ?_) (fun q80 => ?_)
          · refine gw_const at38_91 (gw_r1 at38_92 am_r38.2.1 ?_)
            unfold prd
            first | rw [if_pos ⟨by omega, by omega⟩] | rw [if_neg (by omega)]
            exact ⟨rfl, rfl⟩
          · refine gw_al0 at38_83 (gw_gr at38_84 (by first | exact AT_0 hA | exact AT_r0 hA | exact AT_r1 hA | exact AT_r2 hA | exact AT_t hA | exact AT_l hA | exact AT_b0 hA | exact AT_b1 hA | exact AT_b2 hA | exact AT_b3 hA | exact NT_0 (AT_n hA) | exact NT_r15 (AT_n hA) | exact NT_t15 (AT_n hA) | exact NT_l15 (AT_n hA) | exact NT_r16 (AT_n hA) | exact NT_t16 (AT_n hA) | exact NT_l16 (AT_n hA) | exact NT_r17 (AT_n hA) | exact NT_t17 (AT_n hA) | exact NT_l17 (AT_n hA)) (by first | exact AT_0 hA | exact AT_r0 hA | exact AT_r1 hA | exact AT_r2 hA | exact AT_t hA | exact AT_l hA | exact AT_b0 hA | exact AT_b1 hA | exact AT_b2 hA | exact AT_b3 hA | exact NT_0 (AT_n hA) | exact NT_r15 (AT_n hA) | exact NT_t15 (AT_n hA) | exact NT_l15 (AT_n hA) | exact NT_r16 (AT_n hA) | exact NT_t16 (AT_n hA) | exact NT_l16 (AT_n hA) | exact NT_r17 (AT_n hA) | exact NT_t17 (AT_n hA) | exact NT_l17 (AT_n hA)) (gw_const at38_87 (gw_pf (j := 3) at38_88 (by first | exact AT_0 hA | exact AT_r0 hA | exact AT_r1 hA | exact AT_r2 hA | exact AT_t hA | exact AT_l hA | exact AT_b0 hA | exact AT_b1 hA | exact AT_b2 hA | exact AT_b3 hA | exact NT_0 (AT_n hA) | exact NT_r15 (AT_n hA) | exact NT_t15 (AT_n hA) | exact NT_l15 (AT_n hA) | exact NT_r16 (AT_n hA) | exact NT_t16 (AT_n hA) | exact NT_l16 (AT_n hA) | exact NT_r17 (AT_n hA) | exact NT_t17 (AT_n hA) | exact NT_l17 (AT_n hA)) rfl (gw_const at38_91 (gw_r1 at38_92 am_r38.2.1 ?_)))))
            unfold prd
            first | rw [if_pos ⟨by omega, by omega⟩] | rw [if_neg (by omega)]
            exact ⟨rfl, rfl⟩
      · refine gw_al0 at38_47 ?_
        refine gw_call1 at38_48 (c_rstm hA y1) (by omega) (Nat.le_of_ble_eq_true rfl) (fun o M1 q48 => ?_)
        obtain ⟨rfl, rfl⟩ := q48
        show gw _ _ _ _ _ (gi _ :: []) _ _
        refine gw_bne at38_51 (fun q51 => ?_) (fun q51 => ?_)
        · refine gw_inc1 at38_56 (h := (gw_goto at38_59 ?_))
          have e5 : psl (pr0 c) (i + 1) = rstm (psl (pr0 c) i).2 := by
            unfold psl
            rw [itI_s _ _ hi0]
            exact psf_s hi3 q44
          have h8 := ih (i + 1) (by omega) (by omega) (by rw [e5]; exact q51)
          rw [e5] at h8
          exact h8
        · refine gw_const at38_54 (gw_r0 at38_55 am_r38.2.1 ?_)
          have e5 : psl (pr0 c) (i + 1) = rstm (psl (pr0 c) i).2 := by
            unfold psl
            rw [itI_s _ _ hi0]
            exact psf_s hi3 q44
          have e8 : psl (pr0 c) 1201 = rstm (psl (pr0 c) i).2 := by
            rw [← e5]
            unfold psl at e5 ⊢
            exact itI_fx (by omega) (fun j hj => by rw [e5]; exact psf_0 q51) _ (by omega)
          have e9 : prs c = (false, (rstm (psl (pr0 c) i).2).2) := by unfold prs; rw [e8, if_neg (by rw [q51]; decide)]
          rw [e9]
          exact ⟨rfl, rfl⟩
  exact lp33 0 (by omega) (by omega) rfl
