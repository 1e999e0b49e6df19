/-! the reference: tokens -/
def bya (m : gC) (k : Int) : Int := if k < m 500001 16 then zand (m 200009 k) 255 else -1
def mgd (m : gC) : Bool := decide (m 500001 21 = 0)
def mfl (m : gC) (z : Int) : gC := if m 500001 21 = 0 then gu (gu m 500001 21 z) 500001 22 (m 500001 18) else m
def mbl (m : gC) (k : Int) : Bool := decide (bya m k = 32) || decide (bya m k = 10)
def mlr (m : gC) (l h k : Int) : Bool := inr (bya m k) l h
theorem zand_255 {x : Int} (h : -128 ≤ x ∧ x < 128) : 0 ≤ zand x 255 ∧ zand x 255 ≤ 255 := by
  have key : ∀ n : Nat, n < 256 → 0 ≤ zand ((n : Int) - 128) 255 ∧ zand ((n : Int) - 128) 255 ≤ 255 := by decide +kernel
  have := key (x + 128).toNat (by omega)
  rwa [show (((x + 128).toNat : Nat) : Int) - 128 = x by omega] at this
/-- the bytes of the input are bytes; the place lies in the text -/
def MI (m : gC) : Prop := RG m ∧ (0 ≤ m 500001 17 ∧ m 500001 17 ≤ m 500001 16 ∧ m 500001 16 ≤ 1200) ∧ ∀ k, 0 ≤ k → k < 1200 → -128 ≤ m 200009 k ∧ m 200009 k < 128
theorem bya_rg {m : gC} {k : Int} (h : MI m) (h0 : 0 ≤ k) : -1 ≤ bya m k ∧ bya m k ≤ 255 := by
  have := h.2.1
  unfold bya
  split
  · have := zand_255 (h.2.2 k h0 (by omega)); omega
  · omega
theorem bya_lt {m : gC} {k : Int} (h : ¬ bya m k = -1) : k < m 500001 16 := by
  unfold bya at h
  by_cases e : k < m 500001 16
  · exact e
  · rw [if_neg e] at h; exact absurd rfl h
theorem mbl_lt {m : gC} : ∀ k, mbl m k = true → k < m 500001 16 := fun k e => bya_lt (by
  unfold mbl at e
  simp only [Bool.or_eq_true, decide_eq_true_eq] at e
  omega)
theorem mlr_lt {m : gC} {l h : Int} (hl : 0 ≤ l) : ∀ k, mlr m l h k = true → k < m 500001 16 := fun k e => bya_lt (by
  have := inr_t.mp e
  omega)
theorem bya_o {c m : gC} {k : Int} (h : m 500001 16 = c 500001 16) (h2 : m 200009 = c 200009) : bya m k = bya c k := by unfold bya; rw [h, h2]
def mad0 (m : gC) (s : Int) : gC := gu (gu m 500001 17 s) 500001 18 s
def mln2 (m : gC) (s : Int) : Int := rn (mlr m 97 122) s
def mdn (m : gC) (s : Int) : Int := rn (mlr m 48 57) s
def mnv (m : gC) (s e : Int) : Int := itI (fun i v => min 99999 (10 * v + bya m (s + i) - 48)) 0 (e - s)
def mad1 (m : gC) (s : Int) : gC := if bya m s = -1 then gu (mad0 m s) 500001 19 0 else if mlr m 97 122 s = true then gu (gu (mad0 m s) 500001 17 (mln2 m s)) 500001 19 1 else if mlr m 48 57 s = true then gu (gu (gu (mad0 m s) 500001 20 (mnv m s (mdn m s))) 500001 17 (mdn m s)) 500001 19 2 else gu (gu (gu (mad0 m s) 500001 19 3) 500001 20 (bya m s)) 500001 17 (s + 1)
def mbn (m : gC) (e : Int) : Int := rn (mbl m) e
/-- the next token -/
def mad (m : gC) : gC := mad1 m (mbn m (m 500001 17))
theorem mad1_e {m : gC} {s : Int} (h : bya m s = -1) : mad1 m s = gu (mad0 m s) 500001 19 0 := if_pos h
theorem mad1_w {m : gC} {s : Int} (h : ¬ bya m s = -1) (h2 : mlr m 97 122 s = true) : mad1 m s = gu (gu (mad0 m s) 500001 17 (mln2 m s)) 500001 19 1 := by unfold mad1; rw [if_neg h, if_pos h2]
theorem mad1_n {m : gC} {s : Int} (h : ¬ bya m s = -1) (h2 : mlr m 97 122 s = false) (h3 : mlr m 48 57 s = true) : mad1 m s = gu (gu (gu (mad0 m s) 500001 20 (mnv m s (mdn m s))) 500001 17 (mdn m s)) 500001 19 2 := by unfold mad1; rw [if_neg h, if_neg (by rw [h2]; decide), if_pos h3]
theorem mad1_s {m : gC} {s : Int} (h : ¬ bya m s = -1) (h2 : mlr m 97 122 s = false) (h3 : mlr m 48 57 s = false) : mad1 m s = gu (gu (gu (mad0 m s) 500001 19 3) 500001 20 (bya m s)) 500001 17 (s + 1) := by unfold mad1; rw [if_neg h, if_neg (by rw [h2]; decide), if_neg (by rw [h3]; decide)]
theorem mnv_s {m : gC} {s i : Int} (h : s ≤ i) : mnv m s (i + 1) = min 99999 (10 * mnv m s i + bya m i - 48) := by
  unfold mnv
  rw [show i + 1 - s = (i - s) + 1 by omega, itI_s _ _ (by omega), show s + (i - s) = i by omega]
theorem mnv_rg {m : gC} {s i : Int} (h : s ≤ i) (hd : ∀ j, s ≤ j → j < i → 48 ≤ bya m j) : 0 ≤ mnv m s i ∧ mnv m s i ≤ 99999 := by
  unfold mnv
  refine itI_inv3 (fun _ v => 0 ≤ v ∧ v ≤ 99999) (N := i - s) (by omega) (fun j v h0 h1 hv => ?_) (by omega) (by omega)
  have := hd (s + j) (by omega) (by omega)
  try dsimp only at hv ⊢
  omega
set_option maxHeartbeats 1000000 in
theorem m_good {g : Nat} {T : gT} {c J : gC} {b : Nat} (hM : MT T b) (hc : RG c) : gE g 295 0 [.ref 500001] (gm T c J) (gR (gi (bi (mgd c))) (gm T c J)) := by
  refine gE_mk am_r295 rfl (Or.inr ⟨_, rfl, (by first | exact MT_0 hM | exact MT_now hM | exact MT_bt hM | exact MT_bl hM | exact MT_r0 hM | exact MT_t0 hM | exact MT_l0 hM | exact MT_r1 hM | exact MT_t1 hM | exact MT_l1 hM | exact MT_r2 hM | exact MT_t2 hM | exact MT_l2 hM | exact MT_r3 hM | exact MT_t3 hM | exact MT_l3 hM | exact MT_r4 hM | exact MT_t4 hM | exact MT_l4 hM | exact MT_r5 hM | exact MT_t5 hM | exact MT_l5 hM | exact MT_r6 hM | exact MT_t6 hM | exact MT_l6 hM | exact MT_r7 hM | exact MT_t7 hM | exact MT_l7 hM | exact MT_r8 hM | exact MT_t8 hM | exact MT_l8 hM | exact MT_r9 hM | exact MT_t9 hM | exact MT_l9 hM | exact MT_r10 hM | exact MT_t10 hM | exact MT_l10 hM)⟩) (fun d hd => ?_)
  show gw d g 295 0 [.ref 500001] [] _ _
  refine gw_al0 at295_0 (gw_gf (j := 21) at295_1 (by first | exact MT_0 hM | exact MT_now hM | exact MT_bt hM | exact MT_bl hM | exact MT_r0 hM | exact MT_t0 hM | exact MT_l0 hM | exact MT_r1 hM | exact MT_t1 hM | exact MT_l1 hM | exact MT_r2 hM | exact MT_t2 hM | exact MT_l2 hM | exact MT_r3 hM | exact MT_t3 hM | exact MT_l3 hM | exact MT_r4 hM | exact MT_t4 hM | exact MT_l4 hM | exact MT_r5 hM | exact MT_t5 hM | exact MT_l5 hM | exact MT_r6 hM | exact MT_t6 hM | exact MT_l6 hM | exact MT_r7 hM | exact MT_t7 hM | exact MT_l7 hM | exact MT_r8 hM | exact MT_t8 hM | exact MT_l8 hM | exact MT_r9 hM | exact MT_t9 hM | exact MT_l9 hM | exact MT_r10 hM | exact MT_t10 hM | exact MT_l10 hM) rfl ?_)
  refine gw_zne at295_4 (by first | omega | exact hc _ _) (fun q4 => ?_) (fun q4 => ?_)
  · refine gw_const at295_11 (gw_r0 at295_12 am_r295.2.1 (gR_b ?_))
    unfold mgd
    simp [*]
  · refine gw_const at295_7 (gw_goto at295_8 (gw_r1 at295_12 am_r295.2.1 (gR_b ?_)))
    unfold mgd
    simp [*]
set_option maxHeartbeats 1000000 in
theorem m_fail {g : Nat} {T : gT} {c J : gC} {b : Nat} (hM : MT T b) (hc : RG c) {z : Int} : gE g 296 1 [.ref 500001, gi z] (gm T c J) (fun o M1 => o = .inl none ∧ M1 = gm T (mfl c z) J) := by
  refine gE_mk am_r296 rfl (Or.inr ⟨_, rfl, (by first | exact MT_0 hM | exact MT_now hM | exact MT_bt hM | exact MT_bl hM | exact MT_r0 hM | exact MT_t0 hM | exact MT_l0 hM | exact MT_r1 hM | exact MT_t1 hM | exact MT_l1 hM | exact MT_r2 hM | exact MT_t2 hM | exact MT_l2 hM | exact MT_r3 hM | exact MT_t3 hM | exact MT_l3 hM | exact MT_r4 hM | exact MT_t4 hM | exact MT_l4 hM | exact MT_r5 hM | exact MT_t5 hM | exact MT_l5 hM | exact MT_r6 hM | exact MT_t6 hM | exact MT_l6 hM | exact MT_r7 hM | exact MT_t7 hM | exact MT_l7 hM | exact MT_r8 hM | exact MT_t8 hM | exact MT_l8 hM | exact MT_r9 hM | exact MT_t9 hM | exact MT_l9 hM | exact MT_r10 hM | exact MT_t10 hM | exact MT_l10 hM)⟩) (fun d hd => ?_)
  show gw d g 296 0 [.ref 500001, gi z] [] _ _
  refine gw_al0 at296_0 (gw_callP1 at296_1 (m_good hM hc) (by omega) (Nat.le_of_ble_eq_true rfl) ?_)
  refine gw_bne at296_4 (fun q4 => ?_) (fun q4 => ?_)
  · refine gw_al0 at296_8 (gw_il1 at296_9 (gw_pf (j := 21) at296_10 (by first | exact MT_0 hM | exact MT_now hM | exact MT_bt hM | exact MT_bl hM | exact MT_r0 hM | exact MT_t0 hM | exact MT_l0 hM | exact MT_r1 hM | exact MT_t1 hM | exact MT_l1 hM | exact MT_r2 hM | exact MT_t2 hM | exact MT_l2 hM | exact MT_r3 hM | exact MT_t3 hM | exact MT_l3 hM | exact MT_r4 hM | exact MT_t4 hM | exact MT_l4 hM | exact MT_r5 hM | exact MT_t5 hM | exact MT_l5 hM | exact MT_r6 hM | exact MT_t6 hM | exact MT_l6 hM | exact MT_r7 hM | exact MT_t7 hM | exact MT_l7 hM | exact MT_r8 hM | exact MT_t8 hM | exact MT_l8 hM | exact MT_r9 hM | exact MT_t9 hM | exact MT_l9 hM | exact MT_r10 hM | exact MT_t10 hM | exact MT_l10 hM) rfl (gw_al0 at296_13 (gw_al0 at296_14 (gw_gf (j := 18) at296_15 (by first | exact MT_0 hM | exact MT_now hM | exact MT_bt hM | exact MT_bl hM | exact MT_r0 hM | exact MT_t0 hM | exact MT_l0 hM | exact MT_r1 hM | exact MT_t1 hM | exact MT_l1 hM | exact MT_r2 hM | exact MT_t2 hM | exact MT_l2 hM | exact MT_r3 hM | exact MT_t3 hM | exact MT_l3 hM | exact MT_r4 hM | exact MT_t4 hM | exact MT_l4 hM | exact MT_r5 hM | exact MT_t5 hM | exact MT_l5 hM | exact MT_r6 hM | exact MT_t6 hM | exact MT_l6 hM | exact MT_r7 hM | exact MT_t7 hM | exact MT_l7 hM | exact MT_r8 hM | exact MT_t8 hM | exact MT_l8 hM | exact MT_r9 hM | exact MT_t9 hM | exact MT_l9 hM | exact MT_r10 hM | exact MT_t10 hM | exact MT_l10 hM) rfl ?_)))))
    rw [gu_j (by decide)]
    refine gw_pf (j := 22) at296_18 (by first | exact MT_0 hM | exact MT_now hM | exact MT_bt hM | exact MT_bl hM | exact MT_r0 hM | exact MT_t0 hM | exact MT_l0 hM | exact MT_r1 hM | exact MT_t1 hM | exact MT_l1 hM | exact MT_r2 hM | exact MT_t2 hM | exact MT_l2 hM | exact MT_r3 hM | exact MT_t3 hM | exact MT_l3 hM | exact MT_r4 hM | exact MT_t4 hM | exact MT_l4 hM | exact MT_r5 hM | exact MT_t5 hM | exact MT_l5 hM | exact MT_r6 hM | exact MT_t6 hM | exact MT_l6 hM | exact MT_r7 hM | exact MT_t7 hM | exact MT_l7 hM | exact MT_r8 hM | exact MT_t8 hM | exact MT_l8 hM | exact MT_r9 hM | exact MT_t9 hM | exact MT_l9 hM | exact MT_r10 hM | exact MT_t10 hM | exact MT_l10 hM) rfl (gw_rv at296_21 am_r296.2.1 ⟨rfl, ?_⟩)
    rw [show mfl c z = gu (gu c 500001 21 z) 500001 22 (c 500001 18) from if_pos (by unfold mgd at q4; exact of_decide_eq_true q4)]
  · refine gw_rv at296_7 am_r296.2.1 ⟨rfl, ?_⟩
    rw [show mfl c z = c from if_neg (by unfold mgd at q4; exact of_decide_eq_false q4)]
set_option maxHeartbeats 1000000 in
theorem m_byteAt {g : Nat} {T : gT} {c J : gC} {b : Nat} (hM : MT T b) (h : MI c) {k : Int} (hk : 0 ≤ k ∧ k < 2000000000) : gE g 297 0 [.ref 500001, gi k] (gm T c J) (gR (gi (bya c k)) (gm T c J)) := by
  have hs := h.2.1
  refine gE_mk am_r297 rfl (Or.inr ⟨_, rfl, (by first | exact MT_0 hM | exact MT_now hM | exact MT_bt hM | exact MT_bl hM | exact MT_r0 hM | exact MT_t0 hM | exact MT_l0 hM | exact MT_r1 hM | exact MT_t1 hM | exact MT_l1 hM | exact MT_r2 hM | exact MT_t2 hM | exact MT_l2 hM | exact MT_r3 hM | exact MT_t3 hM | exact MT_l3 hM | exact MT_r4 hM | exact MT_t4 hM | exact MT_l4 hM | exact MT_r5 hM | exact MT_t5 hM | exact MT_l5 hM | exact MT_r6 hM | exact MT_t6 hM | exact MT_l6 hM | exact MT_r7 hM | exact MT_t7 hM | exact MT_l7 hM | exact MT_r8 hM | exact MT_t8 hM | exact MT_l8 hM | exact MT_r9 hM | exact MT_t9 hM | exact MT_l9 hM | exact MT_r10 hM | exact MT_t10 hM | exact MT_l10 hM)⟩) (fun d hd => ?_)
  show gw d g 297 0 [.ref 500001, gi k] [] _ _
  refine gw_il1 at297_0 (gw_al0 at297_1 (gw_gf (j := 16) at297_2 (by first | exact MT_0 hM | exact MT_now hM | exact MT_bt hM | exact MT_bl hM | exact MT_r0 hM | exact MT_t0 hM | exact MT_l0 hM | exact MT_r1 hM | exact MT_t1 hM | exact MT_l1 hM | exact MT_r2 hM | exact MT_t2 hM | exact MT_l2 hM | exact MT_r3 hM | exact MT_t3 hM | exact MT_l3 hM | exact MT_r4 hM | exact MT_t4 hM | exact MT_l4 hM | exact MT_r5 hM | exact MT_t5 hM | exact MT_l5 hM | exact MT_r6 hM | exact MT_t6 hM | exact MT_l6 hM | exact MT_r7 hM | exact MT_t7 hM | exact MT_l7 hM | exact MT_r8 hM | exact MT_t8 hM | exact MT_l8 hM | exact MT_r9 hM | exact MT_t9 hM | exact MT_l9 hM | exact MT_r10 hM | exact MT_t10 hM | exact MT_l10 hM) rfl ?_))
  refine gw_cge at297_5 (by first | omega | exact h.1 _ _) (by first | omega | exact h.1 _ _) (fun q5 => ?_) (fun q5 => ?_)
  · refine gw_const at297_21 (gw_ri at297_22 am_r297.2.1 (gR_i ?_))
    unfold bya
    first | (rw [if_pos (by omega)]; done) | (rw [if_neg (by omega)]; done)
  · refine gw_al0 at297_8 (gw_gr at297_9 (by first | exact MT_0 hM | exact MT_now hM | exact MT_bt hM | exact MT_bl hM | exact MT_r0 hM | exact MT_t0 hM | exact MT_l0 hM | exact MT_r1 hM | exact MT_t1 hM | exact MT_l1 hM | exact MT_r2 hM | exact MT_t2 hM | exact MT_l2 hM | exact MT_r3 hM | exact MT_t3 hM | exact MT_l3 hM | exact MT_r4 hM | exact MT_t4 hM | exact MT_l4 hM | exact MT_r5 hM | exact MT_t5 hM | exact MT_l5 hM | exact MT_r6 hM | exact MT_t6 hM | exact MT_l6 hM | exact MT_r7 hM | exact MT_t7 hM | exact MT_l7 hM | exact MT_r8 hM | exact MT_t8 hM | exact MT_l8 hM | exact MT_r9 hM | exact MT_t9 hM | exact MT_l9 hM | exact MT_r10 hM | exact MT_t10 hM | exact MT_l10 hM) (by first | exact MT_0 hM | exact MT_now hM | exact MT_bt hM | exact MT_bl hM | exact MT_r0 hM | exact MT_t0 hM | exact MT_l0 hM | exact MT_r1 hM | exact MT_t1 hM | exact MT_l1 hM | exact MT_r2 hM | exact MT_t2 hM | exact MT_l2 hM | exact MT_r3 hM | exact MT_t3 hM | exact MT_l3 hM | exact MT_r4 hM | exact MT_t4 hM | exact MT_l4 hM | exact MT_r5 hM | exact MT_t5 hM | exact MT_l5 hM | exact MT_r6 hM | exact MT_t6 hM | exact MT_l6 hM | exact MT_r7 hM | exact MT_t7 hM | exact MT_l7 hM | exact MT_r8 hM | exact MT_t8 hM | exact MT_l8 hM | exact MT_r9 hM | exact MT_t9 hM | exact MT_l9 hM | exact MT_r10 hM | exact MT_t10 hM | exact MT_l10 hM) (gw_il1 at297_12 (gw_ba at297_13 (by first | exact Or.inl (by first | exact MT_0 hM | exact MT_now hM | exact MT_bt hM | exact MT_bl hM | exact MT_r0 hM | exact MT_t0 hM | exact MT_l0 hM | exact MT_r1 hM | exact MT_t1 hM | exact MT_l1 hM | exact MT_r2 hM | exact MT_t2 hM | exact MT_l2 hM | exact MT_r3 hM | exact MT_t3 hM | exact MT_l3 hM | exact MT_r4 hM | exact MT_t4 hM | exact MT_l4 hM | exact MT_r5 hM | exact MT_t5 hM | exact MT_l5 hM | exact MT_r6 hM | exact MT_t6 hM | exact MT_l6 hM | exact MT_r7 hM | exact MT_t7 hM | exact MT_l7 hM | exact MT_r8 hM | exact MT_t8 hM | exact MT_l8 hM | exact MT_r9 hM | exact MT_t9 hM | exact MT_l9 hM | exact MT_r10 hM | exact MT_t10 hM | exact MT_l10 hM) | exact Or.inr (by first | exact MT_0 hM | exact MT_now hM | exact MT_bt hM | exact MT_bl hM | exact MT_r0 hM | exact MT_t0 hM | exact MT_l0 hM | exact MT_r1 hM | exact MT_t1 hM | exact MT_l1 hM | exact MT_r2 hM | exact MT_t2 hM | exact MT_l2 hM | exact MT_r3 hM | exact MT_t3 hM | exact MT_l3 hM | exact MT_r4 hM | exact MT_t4 hM | exact MT_l4 hM | exact MT_r5 hM | exact MT_t5 hM | exact MT_l5 hM | exact MT_r6 hM | exact MT_t6 hM | exact MT_l6 hM | exact MT_r7 hM | exact MT_t7 hM | exact MT_l7 hM | exact MT_r8 hM | exact MT_t8 hM | exact MT_l8 hM | exact MT_r9 hM | exact MT_t9 hM | exact MT_l9 hM | exact MT_r10 hM | exact MT_t10 hM | exact MT_l10 hM)) (by first | exact MT_0 hM | exact MT_now hM | exact MT_bt hM | exact MT_bl hM | exact MT_r0 hM | exact MT_t0 hM | exact MT_l0 hM | exact MT_r1 hM | exact MT_t1 hM | exact MT_l1 hM | exact MT_r2 hM | exact MT_t2 hM | exact MT_l2 hM | exact MT_r3 hM | exact MT_t3 hM | exact MT_l3 hM | exact MT_r4 hM | exact MT_t4 hM | exact MT_l4 hM | exact MT_r5 hM | exact MT_t5 hM | exact MT_l5 hM | exact MT_r6 hM | exact MT_t6 hM | exact MT_l6 hM | exact MT_r7 hM | exact MT_t7 hM | exact MT_l7 hM | exact MT_r8 hM | exact MT_t8 hM | exact MT_l8 hM | exact MT_r9 hM | exact MT_t9 hM | exact MT_l9 hM | exact MT_r10 hM | exact MT_t10 hM | exact MT_l10 hM) (by first | omega | exact h.1 _ _) (by first | omega | exact h.1 _ _) (by omega) (gw_sip at297_14 (by decide) (gw_iand at297_17 (gw_goto at297_18 (gw_ri at297_22 am_r297.2.1 (gR_i ?_))))))))
    unfold bya
    first | (rw [if_pos (by omega)]; done) | (rw [if_neg (by omega)]; done)
