/-! the reference: sets, least costs -/
def mrq (c : gC) (b : Nat) (z : Int) : Int := mskI (fun a => mhA c b a && decide (mcl c b a ≤ z)) 24
def mcb (z : Int) : Int := itI (fun i n => n + zshr z i % 2) 0 24
def mtf (c : gC) (b : Nat) (a n e s : Int) : Int := if mhA c b e = true ∧ men c b e = n then min s (mle c a e) else s
def mtn (c : gC) (b : Nat) (a n : Int) : Int := itI (mtf c b a n) 1000000000 24
def mlt (c : gC) (b : Nat) (a g : Int) : Int := if g < 24 then mle c a g else mtn c b a (g - 24)
def mff (c : gC) (b : Nat) (n l g e s : Int) : Int := if mhA c b e = true ∧ mbg c b e = n then min s (mnc c b l e + mlt c b e g) else s
def mcf (c : gC) (b : Nat) (n l g : Int) : Int := itI (mff c b n l g) 1000000000 24
def mcw (c : gC) (b : Nat) (f t : Int) : Int := if f = t then 0 else mcf c b f (-1) (24 + t)
def mrs (c : gC) (b : Nat) (w a s : Int) : Int := if mhA c b a = true ∧ ¬ a / 2 = w ∧ tb s (mbg c b a) = true then zor s (zshl 1 (men c b a)) else s
def mrc (c : gC) (b : Nat) (n w : Int) : Int := itI (fun _ s => itI (mrs c b w) s 24) (zshl 1 n) 10
def mcn (c : gC) (b : Nat) (w : Int) : Bool := decide (ff (fun n => decide (¬ mrc c b n w = zshl 1 (c b 0) - 1)) (c b 0) 0 = -1)
theorem mrs_t {c : gC} {b : Nat} {w a s : Int} (h : mhA c b a = true) (h2 : ¬ a / 2 = w) (h3 : tb s (mbg c b a) = true) : mrs c b w a s = zor s (zshl 1 (men c b a)) := if_pos ⟨h, h2, h3⟩
theorem mrs_a {c : gC} {b : Nat} {w a s : Int} (h : mhA c b a = false) : mrs c b w a s = s := if_neg fun x => by rw [h] at x; exact absurd x.1 (by decide)
theorem mrs_b {c : gC} {b : Nat} {w a s : Int} (h : a / 2 = w) : mrs c b w a s = s := if_neg fun x => x.2.1 h
theorem mrs_d {c : gC} {b : Nat} {w a s : Int} (h : tb s (mbg c b a) = false) : mrs c b w a s = s := if_neg fun x => by rw [h] at x; exact absurd x.2.2 (by decide)
/-- the least costs' numbers -/
def LR (c : gC) : Prop := ∀ i : Int, 0 ≤ i → i < 576 → 0 ≤ c 200003 i ∧ c 200003 i ≤ 1000000000
theorem mle_rg {c : gC} {a e : Int} (h : LR c) (ha : 0 ≤ a ∧ a < 24) (he : 0 ≤ e ∧ e < 24) : 0 ≤ mle c a e ∧ mle c a e ≤ 1000000000 := h _ (by omega) (by omega)
theorem mti_rg {c : gC} {b : Nat} {a n : Int} (h : LR c) (ha : 0 ≤ a ∧ a < 24) {i : Int} (hi : i ≤ 24) : 0 ≤ itI (mtf c b a n) 1000000000 i ∧ itI (mtf c b a n) 1000000000 i ≤ 1000000000 := by
  refine itI_inv2 (fun s : Int => 0 ≤ s ∧ s ≤ 1000000000) (N := 24) (by decide) (fun j s h0 h1 hs => ?_) hi
  have := mle_rg (e := j) h ha ⟨h0, h1⟩
  unfold mtf
  split <;> omega
theorem mtn_rg {c : gC} {b : Nat} {a n : Int} (h : LR c) (ha : 0 ≤ a ∧ a < 24) : 0 ≤ mtn c b a n ∧ mtn c b a n ≤ 1000000000 := mti_rg h ha (by decide)
theorem mlt_rg {c : gC} {b : Nat} {a g : Int} (h : LR c) (ha : 0 ≤ a ∧ a < 24) (hg : 0 ≤ g) : 0 ≤ mlt c b a g ∧ mlt c b a g ≤ 1000000000 := by
  unfold mlt
  split
  · exact mle_rg h ha (by omega)
  · exact mtn_rg h ha
theorem mnc_rg {c : gC} {b : Nat} {l e : Int} (hV : NW c b) (he : 0 ≤ e ∧ e < 24) : 0 ≤ mnc c b l e ∧ mnc c b l e ≤ 1098 := by
  have h1 := mln_rg hV he
  have h2 := mct_rg (a := l) (e := e) hV
  unfold mnc
  split <;> omega
theorem mfi_rg {c : gC} {b : Nat} {n l g : Int} (hV : NW c b) (h : LR c) (hg : 0 ≤ g) {i : Int} (hi : i ≤ 24) : 0 ≤ itI (mff c b n l g) 1000000000 i ∧ itI (mff c b n l g) 1000000000 i ≤ 1000000000 := by
  refine itI_inv2 (fun s : Int => 0 ≤ s ∧ s ≤ 1000000000) (N := 24) (by decide) (fun j s h0 h1 hs => ?_) hi
  have := mnc_rg (l := l) hV ⟨h0, h1⟩
  have := mlt_rg (b := b) (g := g) h ⟨h0, h1⟩ hg
  unfold mff
  split <;> omega
theorem mcf_rg {c : gC} {b : Nat} {n l g : Int} (hV : NW c b) (h : LR c) (hg : 0 ≤ g) : 0 ≤ mcf c b n l g ∧ mcf c b n l g ≤ 1000000000 := mfi_rg hV h hg (by decide)
theorem mcw_rg {c : gC} {b : Nat} {f t : Int} (hV : NW c b) (h : LR c) (ht : 0 ≤ t) : 0 ≤ mcw c b f t ∧ mcw c b f t ≤ 1000000000 := by
  unfold mcw
  split
  · omega
  · exact mcf_rg hV h (by omega)
theorem mcb_rg (z : Int) {i : Int} (h0 : 0 ≤ i) : 0 ≤ itI (fun i n => n + zshr z i % 2) 0 i ∧ itI (fun i n => n + zshr z i % 2) 0 i ≤ i := by
  refine itI_inv3 (fun k n => 0 ≤ n ∧ n ≤ k) (N := i) (by decide) (fun j s h0 h1 hs => ?_) h0 (Int.le_refl _)
  try dsimp only at hs ⊢
  omega
theorem zor_0r {m : Int} (h : -2147483648 ≤ m ∧ m < 2147483648) : zor m 0 = m := by
  unfold zor
  rw [show (Int32.ofInt m ||| Int32.ofInt 0) = Int32.ofInt m from by
    rw [show Int32.ofInt 0 = 0 from rfl]; exact Int32.or_zero]
  exact Int32.toInt_ofInt_of_le (by omega) (by omega)
theorem mri_rg {c : gC} {b : Nat} {w s : Int} (h : -2147483648 ≤ s ∧ s < 2147483648) (i : Int) : -2147483648 ≤ itI (mrs c b w) s i ∧ itI (mrs c b w) s i < 2147483648 := by
  refine itI_inv (fun s : Int => -2147483648 ≤ s ∧ s < 2147483648) h (fun j s hs => ?_) i
  unfold mrs
  split
  · exact zrg _
  · exact hs
theorem mrj_rg {c : gC} {b : Nat} {w n : Int} (i : Int) : -2147483648 ≤ itI (fun _ s => itI (mrs c b w) s 24) (zshl 1 n) i ∧ itI (fun _ s => itI (mrs c b w) s 24) (zshl 1 n) i < 2147483648 := itI_inv (fun s : Int => -2147483648 ≤ s ∧ s < 2147483648) (zrg _) (fun j s hs => mri_rg hs 24) i
set_option maxHeartbeats 1000000 in
theorem m_allArcs {g : Nat} {T : gT} {c J : gC} {b : Nat} (hM : MT T b) (hc : RG c) (hV : NW c b) : gE g 209 2 [.ref 500001] (gm T c J) (gR (gi (mskI (mhA c b) 24)) (gm T c J)) := by
  refine gE_mk am_r209 rfl (Or.inr ⟨_, rfl, (by first | exact MT_0 hM | exact MT_now hM | exact MT_bt hM | exact MT_bl hM | exact MT_r0 hM | exact MT_t0 hM | exact MT_l0 hM | exact MT_r1 hM | exact MT_t1 hM | exact MT_l1 hM | exact MT_r2 hM | exact MT_t2 hM | exact MT_l2 hM | exact MT_r3 hM | exact MT_t3 hM | exact MT_l3 hM | exact MT_r4 hM | exact MT_t4 hM | exact MT_l4 hM | exact MT_r5 hM | exact MT_t5 hM | exact MT_l5 hM | exact MT_r6 hM | exact MT_t6 hM | exact MT_l6 hM | exact MT_r7 hM | exact MT_t7 hM | exact MT_l7 hM | exact MT_r8 hM | exact MT_t8 hM | exact MT_l8 hM | exact MT_r9 hM | exact MT_t9 hM | exact MT_l9 hM | exact MT_r10 hM | exact MT_t10 hM | exact MT_l10 hM)⟩) (fun d hd => ?_)
  show gw d g 209 0 [.ref 500001, am_U, am_U] [] _ _
  refine gw_const at209_0 (gw_is1 at209_1 (h := (gw_const at209_2 (gw_is2 at209_3 (h := ?_)))))
  have lp4 : ∀ i : Int, 0 ≤ i → i ≤ 24 → gw d g 209 4 [.ref 500001, gi (mskI (mhA c b) i), gi i] [] (gm T c J) (gR (gi (mskI (mhA c b) 24)) (gm T c J)) := by
    refine ind_up 24 ?_
    intro i hi0 hi1 ih
    have hr := mskI_rg (mhA c b) i
    refine gw_il2 at209_4 ?_
    refine gw_bip at209_5 (by decide) ?_
    refine gw_cge at209_7 (by first | omega | exact hc _ _ | exact bi_rg _ | exact zrg _) (by first | omega | exact hc _ _ | exact bi_rg _ | exact zrg _) (fun q7 => ?_) (fun q7 => ?_)
    · refine gw_il1 at209_34 (gw_ri at209_35 am_r209.2.1 (gR_i ?_))
      have e : i = 24 := by omega
      rw [e]
    · refine gw_il1 at209_10 (gw_al0 at209_11 (gw_il2 at209_12 (gw_callP2 at209_13 (m_isArc hM hc hV (by omega)) (by omega) (Nat.le_of_ble_eq_true rfl) ?_)))
      refine gw_beq at209_16 (fun q16 => ?_) (fun q16 => ?_)
      · refine gw_const at209_25 (gw_ior at209_26 (gw_is1 at209_27 (h := (gw_inc2 at209_28 (h := (gw_goto at209_31 ?_))))))
        have h8 := ih (i + 1) (by omega) (by omega)
        rw [mskI_s _ hi0] at h8
        first | (rw [zor_0r hr]; rw [if_neg (by simp [*])] at h8; exact h8) | (rw [zor_0r hr]; rw [if_neg (by simp; omega)] at h8; exact h8) | (rw [if_pos (by first | exact q16 | (rw [q16]; simp; omega))] at h8; exact h8)
      · refine gw_const at209_19 (gw_il2 at209_20 (gw_ishl at209_21 (gw_goto at209_22 (gw_ior at209_26 (gw_is1 at209_27 (h := (gw_inc2 at209_28 (h := (gw_goto at209_31 ?_)))))))))
        have h8 := ih (i + 1) (by omega) (by omega)
        rw [mskI_s _ hi0] at h8
        first | (rw [zor_0r hr]; rw [if_neg (by simp [*])] at h8; exact h8) | (rw [zor_0r hr]; rw [if_neg (by simp; omega)] at h8; exact h8) | (rw [if_pos (by first | exact q16 | (rw [q16]; simp; omega))] at h8; exact h8)
  exact lp4 0 (by omega) (by omega)
set_option maxHeartbeats 1000000 in
theorem m_requiredFor {g : Nat} {T : gT} {c J : gC} {b : Nat} (hM : MT T b) (hc : RG c) (hV : NW c b) {z : Int} (hz : -2147483648 ≤ z ∧ z < 2147483648) : gE g 232 2 [.ref 500001, gi z] (gm T c J) (gR (gi (mskI (fun a => mhA c b a && decide (mcl c b a ≤ z)) 24)) (gm T c J)) := by
  refine gE_mk am_r232 rfl (Or.inr ⟨_, rfl, (by first | exact MT_0 hM | exact MT_now hM | exact MT_bt hM | exact MT_bl hM | exact MT_r0 hM | exact MT_t0 hM | exact MT_l0 hM | exact MT_r1 hM | exact MT_t1 hM | exact MT_l1 hM | exact MT_r2 hM | exact MT_t2 hM | exact MT_l2 hM | exact MT_r3 hM | exact MT_t3 hM | exact MT_l3 hM | exact MT_r4 hM | exact MT_t4 hM | exact MT_l4 hM | exact MT_r5 hM | exact MT_t5 hM | exact MT_l5 hM | exact MT_r6 hM | exact MT_t6 hM | exact MT_l6 hM | exact MT_r7 hM | exact MT_t7 hM | exact MT_l7 hM | exact MT_r8 hM | exact MT_t8 hM | exact MT_l8 hM | exact MT_r9 hM | exact MT_t9 hM | exact MT_l9 hM | exact MT_r10 hM | exact MT_t10 hM | exact MT_l10 hM)⟩) (fun d hd => ?_)
  show gw d g 232 0 [.ref 500001, gi z, am_U, am_U] [] _ _
  refine gw_const at232_0 (gw_is2 at232_1 (h := (gw_const at232_2 (gw_is3 at232_3 (h := ?_)))))
  have lp4 : ∀ i : Int, 0 ≤ i → i ≤ 24 → gw d g 232 4 [.ref 500001, gi z, gi (mskI (fun a => mhA c b a && decide (mcl c b a ≤ z)) i), gi i] [] (gm T c J) (gR (gi (mskI (fun a => mhA c b a && decide (mcl c b a ≤ z)) 24)) (gm T c J)) := by
    refine ind_up 24 ?_
    intro i hi0 hi1 ih
    have hr := mskI_rg (fun a => mhA c b a && decide (mcl c b a ≤ z)) i
    refine gw_il3 at232_4 ?_
    refine gw_bip at232_5 (by decide) ?_
    refine gw_cge at232_7 (by first | omega | exact hc _ _ | exact bi_rg _ | exact zrg _) (by first | omega | exact hc _ _ | exact bi_rg _ | exact zrg _) (fun q7 => ?_) (fun q7 => ?_)
    · refine gw_il2 at232_43 (gw_ri at232_44 am_r232.2.1 (gR_i ?_))
      have e : i = 24 := by omega
      rw [e]
    · refine gw_il2 at232_10 (gw_al0 at232_11 (gw_il3 at232_12 (gw_callP2 at232_13 (m_isArc hM hc hV (by omega)) (by omega) (Nat.le_of_ble_eq_true rfl) ?_)))
      refine gw_beq at232_16 (fun q16 => ?_) (fun q16 => ?_)
      · refine gw_const at232_34 (gw_ior at232_35 (gw_is2 at232_36 (h := (gw_inc3 at232_37 (h := (gw_goto at232_40 ?_))))))
        have h8 := ih (i + 1) (by omega) (by omega)
        rw [mskI_s _ hi0] at h8
        first | (rw [zor_0r hr]; rw [if_neg (by simp [*])] at h8; exact h8) | (rw [zor_0r hr]; rw [if_neg (by simp; omega)] at h8; exact h8) | (rw [if_pos (by first | exact q16 | (rw [q16]; simp; omega))] at h8; exact h8)
      · have hcl := mcl_rg hV (mhA_rg hV q16)
        refine gw_al0 at232_19 (gw_il3 at232_20 (gw_callP2 at232_21 (m_classOf hM hc hV (mhA_rg hV q16)) (by omega) (Nat.le_of_ble_eq_true rfl) (gw_il1 at232_24 ?_)))
        refine gw_cgt at232_25 (by first | omega | exact hc _ _ | exact bi_rg _ | exact zrg _) (by first | omega | exact hc _ _ | exact bi_rg _ | exact zrg _) (fun q25 => ?_) (fun q25 => ?_)
        · refine gw_const at232_34 (gw_ior at232_35 (gw_is2 at232_36 (h := (gw_inc3 at232_37 (h := (gw_goto at232_40 ?_))))))
          have h8 := ih (i + 1) (by omega) (by omega)
          rw [mskI_s _ hi0] at h8
          first | (rw [zor_0r hr]; rw [if_neg (by simp [*])] at h8; exact h8) | (rw [zor_0r hr]; rw [if_neg (by simp; omega)] at h8; exact h8) | (rw [if_pos (by first | exact q16 | (rw [q16]; simp; omega))] at h8; exact h8)
        · refine gw_const at232_28 (gw_il3 at232_29 (gw_ishl at232_30 (gw_goto at232_31 (gw_ior at232_35 (gw_is2 at232_36 (h := (gw_inc3 at232_37 (h := (gw_goto at232_40 ?_)))))))))
          have h8 := ih (i + 1) (by omega) (by omega)
          rw [mskI_s _ hi0] at h8
          first | (rw [zor_0r hr]; rw [if_neg (by simp [*])] at h8; exact h8) | (rw [zor_0r hr]; rw [if_neg (by simp; omega)] at h8; exact h8) | (rw [if_pos (by first | exact q16 | (rw [q16]; simp; omega))] at h8; exact h8)
  exact lp4 0 (by omega) (by omega)
set_option maxHeartbeats 1000000 in
theorem m_countBits {g : Nat} {T : gT} {c J : gC} {z : Int} : gE g 235 0 [gi z] (gm T c J) (gR (gi (mcb z)) (gm T c J)) := by
  refine gE_mk am_r235 rfl (Or.inl rfl) (fun d hd => ?_)
  show gw d g 235 0 [gi z, am_U, am_U] [] _ _
  refine gw_const at235_0 (gw_is1 at235_1 (h := (gw_const at235_2 (gw_is2 at235_3 (h := ?_)))))
  have lp4 : ∀ i : Int, 0 ≤ i → i ≤ 24 → gw d g 235 4 [gi z, gi (itI (fun i n => n + zshr z i % 2) 0 i), gi i] [] (gm T c J) (gR (gi (mcb z)) (gm T c J)) := by
    refine ind_up 24 ?_
    intro i hi0 hi1 ih
    refine gw_il2 at235_4 ?_
    refine gw_bip at235_5 (by decide) ?_
    refine gw_cge at235_7 (by first | omega | exact zrg _) (by first | omega | exact zrg _) (fun q7 => ?_) (fun q7 => ?_)
    · refine gw_il1 at235_24 (gw_ri at235_25 am_r235.2.1 (gR_i ?_))
      have e : i = 24 := by omega
      rw [e]
      rfl
    · refine gw_il1 at235_10 (gw_il0 at235_11 (gw_il2 at235_12 (gw_ishr at235_13 (gw_const at235_14 (gw_and1 at235_15 (gw_iadd at235_16 (gw_is1 at235_17 (h := (gw_inc2 at235_18 (h := (gw_goto at235_21 ?_)))))))))))
      have h8 := ih (i + 1) (by omega) (by omega)
      rw [itI_s _ _ hi0] at h8
      exact h8
  exact lp4 0 (by omega) (by omega)
set_option maxHeartbeats 1000000 in
theorem m_toNode {g : Nat} {T : gT} {c J : gC} {b : Nat} (hM : MT T b) (hc : RG c) (hV : NW c b) (hL : LR c) {a : Int} (ha : 0 ≤ a ∧ a < 24) {n : Int} (hn : -2147483648 ≤ n ∧ n < 2147483648) : gE g 200 2 [.ref 500001, gi a, gi n] (gm T c J) (gR (gi (mtn c b a n)) (gm T c J)) := by
  refine gE_mk am_r200 rfl (Or.inr ⟨_, rfl, (by first | exact MT_0 hM | exact MT_now hM | exact MT_bt hM | exact MT_bl hM | exact MT_r0 hM | exact MT_t0 hM | exact MT_l0 hM | exact MT_r1 hM | exact MT_t1 hM | exact MT_l1 hM | exact MT_r2 hM | exact MT_t2 hM | exact MT_l2 hM | exact MT_r3 hM | exact MT_t3 hM | exact MT_l3 hM | exact MT_r4 hM | exact MT_t4 hM | exact MT_l4 hM | exact MT_r5 hM | exact MT_t5 hM | exact MT_l5 hM | exact MT_r6 hM | exact MT_t6 hM | exact MT_l6 hM | exact MT_r7 hM | exact MT_t7 hM | exact MT_l7 hM | exact MT_r8 hM | exact MT_t8 hM | exact MT_l8 hM | exact MT_r9 hM | exact MT_t9 hM | exact MT_l9 hM | exact MT_r10 hM | exact MT_t10 hM | exact MT_l10 hM)⟩) (fun d hd => ?_)
  show gw d g 200 0 [.ref 500001, gi a, gi n, am_U, am_U] [] _ _
  refine gw_ldc (z := 1000000000) at200_0 (by decide) (gw_is3 at200_2 (h := (gw_const at200_3 (gw_is4 at200_4 (h := ?_)))))
  have lp6 : ∀ i : Int, 0 ≤ i → i ≤ 24 → gw d g 200 6 [.ref 500001, gi a, gi n, gi (itI (mtf c b a n) 1000000000 i), gi i] [] (gm T c J) (gR (gi (mtn c b a n)) (gm T c J)) := by
    refine ind_up 24 ?_
    intro i hi0 hi1 ih
    have hs := mti_rg (b := b) (n := n) hL ha hi1
    refine gw_il4 at200_6 ?_
    refine gw_bip at200_8 (by decide) ?_
    refine gw_cge at200_10 (by first | omega | exact hc _ _ | exact bi_rg _ | exact zrg _) (by first | omega | exact hc _ _ | exact bi_rg _ | exact zrg _) (fun q10 => ?_) (fun q10 => ?_)
    · refine gw_il3 at200_50 (gw_ri at200_51 am_r200.2.1 (gR_i ?_))
      have e : i = 24 := by omega
      rw [e]
      rfl
    · refine gw_al0 at200_13 (gw_il4 at200_14 (gw_callP2 at200_16 (m_isArc hM hc hV (by omega)) (by omega) (Nat.le_of_ble_eq_true rfl) ?_))
      refine gw_beq at200_19 (fun q19 => ?_) (fun q19 => ?_)
      · refine gw_inc4 at200_44 (h := (gw_goto at200_47 ?_))
        have h8 := ih (i + 1) (by omega) (by omega)
        rw [itI_s _ _ hi0] at h8
        unfold mtf at h8
        first | (rw [if_neg (by simp [*])] at h8; exact h8) | (rw [if_neg (by omega)] at h8; exact h8) | (rw [if_neg (by intro hh; omega)] at h8; exact h8) | (rw [if_pos ⟨by assumption, by omega⟩] at h8; exact h8)
      · have hen := men_rg hV (mhA_rg hV q19)
        have hle := mle_rg (a := a) hL ha (mhA_rg hV q19)
        refine gw_al0 at200_22 (gw_il4 at200_23 (gw_callP2 at200_25 (m_endOf hM hc hV (mhA_rg hV q19)) (by omega) (Nat.le_of_ble_eq_true rfl) (gw_il2 at200_28 ?_)))
        refine gw_cne at200_29 (by first | omega | exact hc _ _ | exact bi_rg _ | exact zrg _) (by first | omega | exact hc _ _ | exact bi_rg _ | exact zrg _) (fun q29 => ?_) (fun q29 => ?_)
        · refine gw_inc4 at200_44 (h := (gw_goto at200_47 ?_))
          have h8 := ih (i + 1) (by omega) (by omega)
          rw [itI_s _ _ hi0] at h8
          unfold mtf at h8
          first | (rw [if_neg (by simp [*])] at h8; exact h8) | (rw [if_neg (by omega)] at h8; exact h8) | (rw [if_neg (by intro hh; omega)] at h8; exact h8) | (rw [if_pos ⟨by assumption, by omega⟩] at h8; exact h8)
        · refine gw_il3 at200_32 (gw_al0 at200_33 (gw_il1 at200_34 (gw_il4 at200_35 (gw_callP3 at200_37 (m_leastOf hM hc ha (mhA_rg hV q19)) (by omega) (Nat.le_of_ble_eq_true rfl) (gw_min at200_40 (by first | omega | exact hc _ _ | exact bi_rg _ | exact zrg _) (by first | omega | exact hc _ _ | exact bi_rg _ | exact zrg _) (Nat.le_of_ble_eq_true rfl) (gw_is3 at200_43 (h := (gw_inc4 at200_44 (h := (gw_goto at200_47 ?_))))))))))
          have h8 := ih (i + 1) (by omega) (by omega)
          rw [itI_s _ _ hi0] at h8
          unfold mtf at h8
          first | (rw [if_neg (by simp [*])] at h8; exact h8) | (rw [if_neg (by omega)] at h8; exact h8) | (rw [if_neg (by intro hh; omega)] at h8; exact h8) | (rw [if_pos ⟨by assumption, by omega⟩] at h8; exact h8)
  exact lp6 0 (by omega) (by omega)
set_option maxHeartbeats 1000000 in
theorem m_leftTo {g : Nat} {T : gT} {c J : gC} {b : Nat} (hM : MT T b) (hc : RG c) (hV : NW c b) (hL : LR c) {a : Int} (ha : 0 ≤ a ∧ a < 24) {z : Int} (hz : 0 ≤ z ∧ z < 100) : gE g 201 3 [.ref 500001, gi a, gi z] (gm T c J) (gR (gi (mlt c b a z)) (gm T c J)) := by
  refine gE_mk am_r201 rfl (Or.inr ⟨_, rfl, (by first | exact MT_0 hM | exact MT_now hM | exact MT_bt hM | exact MT_bl hM | exact MT_r0 hM | exact MT_t0 hM | exact MT_l0 hM | exact MT_r1 hM | exact MT_t1 hM | exact MT_l1 hM | exact MT_r2 hM | exact MT_t2 hM | exact MT_l2 hM | exact MT_r3 hM | exact MT_t3 hM | exact MT_l3 hM | exact MT_r4 hM | exact MT_t4 hM | exact MT_l4 hM | exact MT_r5 hM | exact MT_t5 hM | exact MT_l5 hM | exact MT_r6 hM | exact MT_t6 hM | exact MT_l6 hM | exact MT_r7 hM | exact MT_t7 hM | exact MT_l7 hM | exact MT_r8 hM | exact MT_t8 hM | exact MT_l8 hM | exact MT_r9 hM | exact MT_t9 hM | exact MT_l9 hM | exact MT_r10 hM | exact MT_t10 hM | exact MT_l10 hM)⟩) (fun d hd => ?_)
  show gw d g 201 0 [.ref 500001, gi a, gi z] [] _ _
  refine gw_il2 at201_0 (gw_bip at201_1 (by decide) ?_)
  refine gw_cge at201_3 (by first | omega | exact hc _ _ | exact bi_rg _ | exact zrg _) (by first | omega | exact hc _ _ | exact bi_rg _ | exact zrg _) (fun q3 => ?_) (fun q3 => ?_)
  · refine gw_al0 at201_15 (gw_il1 at201_16 (gw_il2 at201_17 (gw_bip at201_18 (by decide) (gw_isub at201_20 (gw_callP3 at201_21 (m_toNode hM hc hV hL ha (by omega)) (by omega) (Nat.le_of_ble_eq_true rfl) (gw_ri at201_24 am_r201.2.1 (gR_i ?_)))))))
    unfold mlt
    first | (rw [if_pos (by omega)]; done) | (rw [if_neg (by omega)]; done)
  · refine gw_al0 at201_6 (gw_il1 at201_7 (gw_il2 at201_8 (gw_callP3 at201_9 (m_leastOf hM hc ha (by omega)) (by omega) (Nat.le_of_ble_eq_true rfl) (gw_goto at201_12 (gw_ri at201_24 am_r201.2.1 (gR_i ?_))))))
    unfold mlt
    first | (rw [if_pos (by omega)]; done) | (rw [if_neg (by omega)]; done)
set_option maxHeartbeats 1000000 in
theorem m_costFrom {g : Nat} {T : gT} {c J : gC} {b : Nat} (hM : MT T b) (hc : RG c) (hV : NW c b) (hL : LR c) {n l z : Int} (hn : -2147483648 ≤ n ∧ n < 2147483648) (hl : -1 ≤ l ∧ l < 24) (hz : 0 ≤ z ∧ z < 100) : gE g 203 5 [.ref 500001, gi n, gi l, gi z] (gm T c J) (gR (gi (mcf c b n l z)) (gm T c J)) := by
  refine gE_mk am_r203 rfl (Or.inr ⟨_, rfl, (by first | exact MT_0 hM | exact MT_now hM | exact MT_bt hM | exact MT_bl hM | exact MT_r0 hM | exact MT_t0 hM | exact MT_l0 hM | exact MT_r1 hM | exact MT_t1 hM | exact MT_l1 hM | exact MT_r2 hM | exact MT_t2 hM | exact MT_l2 hM | exact MT_r3 hM | exact MT_t3 hM | exact MT_l3 hM | exact MT_r4 hM | exact MT_t4 hM | exact MT_l4 hM | exact MT_r5 hM | exact MT_t5 hM | exact MT_l5 hM | exact MT_r6 hM | exact MT_t6 hM | exact MT_l6 hM | exact MT_r7 hM | exact MT_t7 hM | exact MT_l7 hM | exact MT_r8 hM | exact MT_t8 hM | exact MT_l8 hM | exact MT_r9 hM | exact MT_t9 hM | exact MT_l9 hM | exact MT_r10 hM | exact MT_t10 hM | exact MT_l10 hM)⟩) (fun d hd => ?_)
  show gw d g 203 0 [.ref 500001, gi n, gi l, gi z, am_U, am_U] [] _ _
  refine gw_ldc (z := 1000000000) at203_0 (by decide) (gw_is4 at203_2 (h := (gw_const at203_4 (gw_is5 at203_5 (h := ?_)))))
  have lp7 : ∀ i : Int, 0 ≤ i → i ≤ 24 → gw d g 203 7 [.ref 500001, gi n, gi l, gi z, gi (itI (mff c b n l z) 1000000000 i), gi i] [] (gm T c J) (gR (gi (mcf c b n l z)) (gm T c J)) := by
    refine ind_up 24 ?_
    intro i hi0 hi1 ih
    have hs := mfi_rg (n := n) (l := l) (g := z) hV hL hz.1 hi1
    refine gw_il5 at203_7 ?_
    refine gw_bip at203_9 (by decide) ?_
    refine gw_cge at203_11 (by first | omega | exact hc _ _ | exact bi_rg _ | exact zrg _) (by first | omega | exact hc _ _ | exact bi_rg _ | exact zrg _) (fun q11 => ?_) (fun q11 => ?_)
    · refine gw_il4 at203_61 (gw_ri at203_63 am_r203.2.1 (gR_i ?_))
      have e : i = 24 := by omega
      rw [e]
      rfl
    · refine gw_al0 at203_14 (gw_il5 at203_15 (gw_callP2 at203_17 (m_isArc hM hc hV (by omega)) (by omega) (Nat.le_of_ble_eq_true rfl) ?_))
      refine gw_beq at203_20 (fun q20 => ?_) (fun q20 => ?_)
      · refine gw_inc5 at203_55 (h := (gw_goto at203_58 ?_))
        have h8 := ih (i + 1) (by omega) (by omega)
        rw [itI_s _ _ hi0] at h8
        unfold mff at h8
        first | (rw [if_neg (by simp [*])] at h8; exact h8) | (rw [if_neg (by omega)] at h8; exact h8) | (rw [if_neg (by intro hh; omega)] at h8; exact h8) | (rw [if_pos ⟨by assumption, by omega⟩] at h8; exact h8)
      · have hbg := mbg_rg hV (mhA_rg hV q20)
        have hnc := mnc_rg (l := l) hV (mhA_rg hV q20)
        have hlt := mlt_rg (b := b) (g := z) hL (mhA_rg hV q20) hz.1
        refine gw_al0 at203_23 (gw_il5 at203_24 (gw_callP2 at203_26 (m_startOf hM hc hV (mhA_rg hV q20)) (by omega) (Nat.le_of_ble_eq_true rfl) (gw_il1 at203_29 ?_)))
        refine gw_cne at203_30 (by first | omega | exact hc _ _ | exact bi_rg _ | exact zrg _) (by first | omega | exact hc _ _ | exact bi_rg _ | exact zrg _) (fun q30 => ?_) (fun q30 => ?_)
        · refine gw_inc5 at203_55 (h := (gw_goto at203_58 ?_))
          have h8 := ih (i + 1) (by omega) (by omega)
          rw [itI_s _ _ hi0] at h8
          unfold mff at h8
          first | (rw [if_neg (by simp [*])] at h8; exact h8) | (rw [if_neg (by omega)] at h8; exact h8) | (rw [if_neg (by intro hh; omega)] at h8; exact h8) | (rw [if_pos ⟨by assumption, by omega⟩] at h8; exact h8)
        · refine gw_il4 at203_33 (gw_al0 at203_35 (gw_il2 at203_36 (gw_il5 at203_37 (gw_callP3 at203_39 (m_nextCost hM hc hV hl (mhA_rg hV q20)) (by omega) (Nat.le_of_ble_eq_true rfl) (gw_al0 at203_42 (gw_il5 at203_43 (gw_il3 at203_45 (gw_callP3 at203_46 (m_leftTo hM hc hV hL (mhA_rg hV q20) hz) (by omega) (Nat.le_of_ble_eq_true rfl) (gw_iadd at203_49 (gw_min at203_50 (by first | omega | exact hc _ _ | exact bi_rg _ | exact zrg _) (by first | omega | exact hc _ _ | exact bi_rg _ | exact zrg _) (Nat.le_of_ble_eq_true rfl) (gw_is4 at203_53 (h := (gw_inc5 at203_55 (h := (gw_goto at203_58 ?_)))))))))))))))
          have h8 := ih (i + 1) (by omega) (by omega)
          rw [itI_s _ _ hi0] at h8
          unfold mff at h8
          first | (rw [if_neg (by simp [*])] at h8; exact h8) | (rw [if_neg (by omega)] at h8; exact h8) | (rw [if_neg (by intro hh; omega)] at h8; exact h8) | (rw [if_pos ⟨by assumption, by omega⟩] at h8; exact h8)
  exact lp7 0 (by omega) (by omega)
set_option maxHeartbeats 1000000 in
theorem m_costBetween {g : Nat} {T : gT} {c J : gC} {b : Nat} (hM : MT T b) (hc : RG c) (hV : NW c b) (hL : LR c) {f t : Int} (hf : -2147483648 ≤ f ∧ f < 2147483648) (ht : 0 ≤ t ∧ t < 10) : gE g 205 6 [.ref 500001, gi f, gi t] (gm T c J) (gR (gi (mcw c b f t)) (gm T c J)) := by
  refine gE_mk am_r205 rfl (Or.inr ⟨_, rfl, (by first | exact MT_0 hM | exact MT_now hM | exact MT_bt hM | exact MT_bl hM | exact MT_r0 hM | exact MT_t0 hM | exact MT_l0 hM | exact MT_r1 hM | exact MT_t1 hM | exact MT_l1 hM | exact MT_r2 hM | exact MT_t2 hM | exact MT_l2 hM | exact MT_r3 hM | exact MT_t3 hM | exact MT_l3 hM | exact MT_r4 hM | exact MT_t4 hM | exact MT_l4 hM | exact MT_r5 hM | exact MT_t5 hM | exact MT_l5 hM | exact MT_r6 hM | exact MT_t6 hM | exact MT_l6 hM | exact MT_r7 hM | exact MT_t7 hM | exact MT_l7 hM | exact MT_r8 hM | exact MT_t8 hM | exact MT_l8 hM | exact MT_r9 hM | exact MT_t9 hM | exact MT_l9 hM | exact MT_r10 hM | exact MT_t10 hM | exact MT_l10 hM)⟩) (fun d hd => ?_)
  show gw d g 205 0 [.ref 500001, gi f, gi t] [] _ _
  refine gw_il1 at205_0 (gw_il2 at205_1 ?_)
  refine gw_cne at205_2 (by first | omega | exact hc _ _ | exact bi_rg _ | exact zrg _) (by first | omega | exact hc _ _ | exact bi_rg _ | exact zrg _) (fun q2 => ?_) (fun q2 => ?_)
  · refine gw_al0 at205_9 (gw_il1 at205_10 (gw_const at205_11 (gw_bip at205_12 (by decide) (gw_il2 at205_14 (gw_iadd at205_15 (gw_callP4 at205_16 (m_costFrom hM hc hV hL hf (by omega) (by omega)) (by omega) (Nat.le_of_ble_eq_true rfl) (gw_ri at205_19 am_r205.2.1 (gR_i ?_))))))))
    unfold mcw
    first | (rw [if_pos (by omega)]; done) | (rw [if_neg (by omega)]; done)
  · refine gw_const at205_5 (gw_goto at205_6 (gw_ri at205_19 am_r205.2.1 (gR_i ?_)))
    unfold mcw
    first | (rw [if_pos (by omega)]; done) | (rw [if_neg (by omega)]; done)
