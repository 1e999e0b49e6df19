/-! the reference: what reads the network alone; connected; the table of least costs -/
theorem mhA_o {c m : gC} {b : Nat} (e : m b = c b) (a : Int) : mhA m b a = mhA c b a := by unfold mhA; rw [e]
theorem mbg_o {c m : gC} {b : Nat} (e : m b = c b) (a : Int) : mbg m b a = mbg c b a := by unfold mbg; rw [e]
theorem men_o {c m : gC} {b : Nat} (e : m b = c b) (a : Int) : men m b a = men c b a := by unfold men; rw [e]
theorem mln_o {c m : gC} {b : Nat} (e : m b = c b) (a : Int) : mln m b a = mln c b a := by unfold mln; rw [e]
theorem mcl_o {c m : gC} {b : Nat} (e : m b = c b) (a : Int) : mcl m b a = mcl c b a := by unfold mcl; rw [e]
theorem mxo_o {c m : gC} {b : Nat} (e : m b = c b) (a : Int) : mxo m b a = mxo c b a := by unfold mxo; rw [e]
theorem myo_o {c m : gC} {b : Nat} (e : m b = c b) (a : Int) : myo m b a = myo c b a := by unfold myo; rw [e]
theorem mkd_o {c m : gC} {b : Nat} (e : m b = c b) (a x : Int) : mkd m b a x = mkd c b a x := by
  unfold mkd
  simp only [mxo_o e, myo_o e, men_o e, mbg_o e]
theorem mct_o {c m : gC} {b : Nat} (e : m b = c b) (a x : Int) : mct m b a x = mct c b a x := by unfold mct; rw [e, mkd_o e]
theorem mfo_o {c m : gC} {b : Nat} (e : m b = c b) (a x : Int) : mfo m b a x = mfo c b a x := by unfold mfo; rw [mhA_o e, men_o e, mbg_o e]
theorem mnc_o {c m : gC} {b : Nat} (e : m b = c b) (a x : Int) : mnc m b a x = mnc c b a x := by unfold mnc; rw [mln_o e, mct_o e]
theorem mno_o {c m : gC} {b : Nat} (e : m b = c b) (a : Int) : mno m b a = mno c b a := by unfold mno; rw [e]
theorem mro_o {c m : gC} {b : Nat} (e : m b = c b) (a : Int) : mro m b a = mro c b a := by unfold mro; rw [e]
theorem mrq_o {c m : gC} {b : Nat} (e : m b = c b) (z : Int) : mrq m b z = mrq c b z := by
  unfold mrq
  rw [show (fun a => mhA m b a && decide (mcl m b a ≤ z)) = fun a => mhA c b a && decide (mcl c b a ≤ z) from funext fun a => by rw [mhA_o e, mcl_o e]]
theorem mrs_o {c m : gC} {b : Nat} (e : m b = c b) (w : Int) : mrs m b w = mrs c b w := by
  funext a s
  unfold mrs
  rw [mhA_o e, mbg_o e, men_o e]
theorem mrc_o {c m : gC} {b : Nat} (e : m b = c b) (n w : Int) : mrc m b n w = mrc c b n w := by unfold mrc; rw [mrs_o e]
theorem mcn_o {c m : gC} {b : Nat} (e : m b = c b) (w : Int) : mcn m b w = mcn c b w := by
  unfold mcn
  simp only [e, mrc_o e]
set_option maxHeartbeats 1000000 in
theorem m_isConnected {g : Nat} {T : gT} {c J : gC} {b : Nat} (hM : MT T b) (hc : RG c) (hV : NW c b) {w : Int} (hw : -2147483648 ≤ w ∧ w < 2147483648) : gE g 223 3 [.ref 500001, gi w] (gm T c J) (gR (gi (bi (mcn c b w))) (gm T c J)) := by
  have hn := hV.1.1
  have hz := shl_rg (n := c b 0) (by omega)
  refine gE_mk am_r223 rfl (Or.inr ⟨_, rfl, (by first | exact MT_0 hM | exact MT_now hM | exact MT_bt hM | exact MT_bl hM | exact MT_r0 hM | exact MT_t0 hM | exact MT_l0 hM | exact MT_r1 hM | exact MT_t1 hM | exact MT_l1 hM | exact MT_r2 hM | exact MT_t2 hM | exact MT_l2 hM | exact MT_r3 hM | exact MT_t3 hM | exact MT_l3 hM | exact MT_r4 hM | exact MT_t4 hM | exact MT_l4 hM | exact MT_r5 hM | exact MT_t5 hM | exact MT_l5 hM | exact MT_r6 hM | exact MT_t6 hM | exact MT_l6 hM | exact MT_r7 hM | exact MT_t7 hM | exact MT_l7 hM | exact MT_r8 hM | exact MT_t8 hM | exact MT_l8 hM | exact MT_r9 hM | exact MT_t9 hM | exact MT_l9 hM | exact MT_r10 hM | exact MT_t10 hM | exact MT_l10 hM)⟩) (fun d hd => ?_)
  show gw d g 223 0 [.ref 500001, gi w, am_U, am_U] [] _ _
  refine gw_const at223_0 (gw_al0 at223_1 (gw_gr at223_2 (by first | exact MT_0 hM | exact MT_now hM | exact MT_bt hM | exact MT_bl hM | exact MT_r0 hM | exact MT_t0 hM | exact MT_l0 hM | exact MT_r1 hM | exact MT_t1 hM | exact MT_l1 hM | exact MT_r2 hM | exact MT_t2 hM | exact MT_l2 hM | exact MT_r3 hM | exact MT_t3 hM | exact MT_l3 hM | exact MT_r4 hM | exact MT_t4 hM | exact MT_l4 hM | exact MT_r5 hM | exact MT_t5 hM | exact MT_l5 hM | exact MT_r6 hM | exact MT_t6 hM | exact MT_l6 hM | exact MT_r7 hM | exact MT_t7 hM | exact MT_l7 hM | exact MT_r8 hM | exact MT_t8 hM | exact MT_l8 hM | exact MT_r9 hM | exact MT_t9 hM | exact MT_l9 hM | exact MT_r10 hM | exact MT_t10 hM | exact MT_l10 hM) (by first | exact MT_0 hM | exact MT_now hM | exact MT_bt hM | exact MT_bl hM | exact MT_r0 hM | exact MT_t0 hM | exact MT_l0 hM | exact MT_r1 hM | exact MT_t1 hM | exact MT_l1 hM | exact MT_r2 hM | exact MT_t2 hM | exact MT_l2 hM | exact MT_r3 hM | exact MT_t3 hM | exact MT_l3 hM | exact MT_r4 hM | exact MT_t4 hM | exact MT_l4 hM | exact MT_r5 hM | exact MT_t5 hM | exact MT_l5 hM | exact MT_r6 hM | exact MT_t6 hM | exact MT_l6 hM | exact MT_r7 hM | exact MT_t7 hM | exact MT_l7 hM | exact MT_r8 hM | exact MT_t8 hM | exact MT_l8 hM | exact MT_r9 hM | exact MT_t9 hM | exact MT_l9 hM | exact MT_r10 hM | exact MT_t10 hM | exact MT_l10 hM) (gw_const at223_5 (gw_ia at223_6 (by first | exact Or.inl (by first | exact MT_0 hM | exact MT_now hM | exact MT_bt hM | exact MT_bl hM | exact MT_r0 hM | exact MT_t0 hM | exact MT_l0 hM | exact MT_r1 hM | exact MT_t1 hM | exact MT_l1 hM | exact MT_r2 hM | exact MT_t2 hM | exact MT_l2 hM | exact MT_r3 hM | exact MT_t3 hM | exact MT_l3 hM | exact MT_r4 hM | exact MT_t4 hM | exact MT_l4 hM | exact MT_r5 hM | exact MT_t5 hM | exact MT_l5 hM | exact MT_r6 hM | exact MT_t6 hM | exact MT_l6 hM | exact MT_r7 hM | exact MT_t7 hM | exact MT_l7 hM | exact MT_r8 hM | exact MT_t8 hM | exact MT_l8 hM | exact MT_r9 hM | exact MT_t9 hM | exact MT_l9 hM | exact MT_r10 hM | exact MT_t10 hM | exact MT_l10 hM) | exact Or.inr (by first | exact MT_0 hM | exact MT_now hM | exact MT_bt hM | exact MT_bl hM | exact MT_r0 hM | exact MT_t0 hM | exact MT_l0 hM | exact MT_r1 hM | exact MT_t1 hM | exact MT_l1 hM | exact MT_r2 hM | exact MT_t2 hM | exact MT_l2 hM | exact MT_r3 hM | exact MT_t3 hM | exact MT_l3 hM | exact MT_r4 hM | exact MT_t4 hM | exact MT_l4 hM | exact MT_r5 hM | exact MT_t5 hM | exact MT_l5 hM | exact MT_r6 hM | exact MT_t6 hM | exact MT_l6 hM | exact MT_r7 hM | exact MT_t7 hM | exact MT_l7 hM | exact MT_r8 hM | exact MT_t8 hM | exact MT_l8 hM | exact MT_r9 hM | exact MT_t9 hM | exact MT_l9 hM | exact MT_r10 hM | exact MT_t10 hM | exact MT_l10 hM)) (by first | exact MT_0 hM | exact MT_now hM | exact MT_bt hM | exact MT_bl hM | exact MT_r0 hM | exact MT_t0 hM | exact MT_l0 hM | exact MT_r1 hM | exact MT_t1 hM | exact MT_l1 hM | exact MT_r2 hM | exact MT_t2 hM | exact MT_l2 hM | exact MT_r3 hM | exact MT_t3 hM | exact MT_l3 hM | exact MT_r4 hM | exact MT_t4 hM | exact MT_l4 hM | exact MT_r5 hM | exact MT_t5 hM | exact MT_l5 hM | exact MT_r6 hM | exact MT_t6 hM | exact MT_l6 hM | exact MT_r7 hM | exact MT_t7 hM | exact MT_l7 hM | exact MT_r8 hM | exact MT_t8 hM | exact MT_l8 hM | exact MT_r9 hM | exact MT_t9 hM | exact MT_l9 hM | exact MT_r10 hM | exact MT_t10 hM | exact MT_l10 hM) (by first | omega | exact hc _ _ | exact bi_rg _ | exact zrg _ | exact mrj_rg _) (by first | omega | exact hc _ _ | exact bi_rg _ | exact zrg _ | exact mrj_rg _) (by omega) (gw_ishl at223_7 (gw_const at223_8 (gw_isub at223_9 (gw_is2 at223_10 (h := (gw_const at223_11 (gw_is3 at223_12 (h := ?_))))))))))))
  have lp13 : ∀ i : Int, 0 ≤ i → i ≤ 10 → i ≤ c b 0 → ff (fun n => decide (¬ mrc c b n w = zshl 1 (c b 0) - 1)) (c b 0) 0 = ff (fun n => decide (¬ mrc c b n w = zshl 1 (c b 0) - 1)) (c b 0) i → gw d g 223 13 [.ref 500001, gi w, gi (zshl 1 (c b 0) - 1), gi i] [] (gm T c J) (gR (gi (bi (mcn c b w))) (gm T c J)) := by
    refine ind_up 10 ?_
    intro i hi0 hi1 ih hi2 hf
    refine gw_il3 at223_13 ?_
    refine gw_al0 at223_14 (gw_gr at223_15 (by first | exact MT_0 hM | exact MT_now hM | exact MT_bt hM | exact MT_bl hM | exact MT_r0 hM | exact MT_t0 hM | exact MT_l0 hM | exact MT_r1 hM | exact MT_t1 hM | exact MT_l1 hM | exact MT_r2 hM | exact MT_t2 hM | exact MT_l2 hM | exact MT_r3 hM | exact MT_t3 hM | exact MT_l3 hM | exact MT_r4 hM | exact MT_t4 hM | exact MT_l4 hM | exact MT_r5 hM | exact MT_t5 hM | exact MT_l5 hM | exact MT_r6 hM | exact MT_t6 hM | exact MT_l6 hM | exact MT_r7 hM | exact MT_t7 hM | exact MT_l7 hM | exact MT_r8 hM | exact MT_t8 hM | exact MT_l8 hM | exact MT_r9 hM | exact MT_t9 hM | exact MT_l9 hM | exact MT_r10 hM | exact MT_t10 hM | exact MT_l10 hM) (by first | exact MT_0 hM | exact MT_now hM | exact MT_bt hM | exact MT_bl hM | exact MT_r0 hM | exact MT_t0 hM | exact MT_l0 hM | exact MT_r1 hM | exact MT_t1 hM | exact MT_l1 hM | exact MT_r2 hM | exact MT_t2 hM | exact MT_l2 hM | exact MT_r3 hM | exact MT_t3 hM | exact MT_l3 hM | exact MT_r4 hM | exact MT_t4 hM | exact MT_l4 hM | exact MT_r5 hM | exact MT_t5 hM | exact MT_l5 hM | exact MT_r6 hM | exact MT_t6 hM | exact MT_l6 hM | exact MT_r7 hM | exact MT_t7 hM | exact MT_l7 hM | exact MT_r8 hM | exact MT_t8 hM | exact MT_l8 hM | exact MT_r9 hM | exact MT_t9 hM | exact MT_l9 hM | exact MT_r10 hM | exact MT_t10 hM | exact MT_l10 hM) (gw_const at223_18 (gw_ia at223_19 (by first | exact Or.inl (by first | exact MT_0 hM | exact MT_now hM | exact MT_bt hM | exact MT_bl hM | exact MT_r0 hM | exact MT_t0 hM | exact MT_l0 hM | exact MT_r1 hM | exact MT_t1 hM | exact MT_l1 hM | exact MT_r2 hM | exact MT_t2 hM | exact MT_l2 hM | exact MT_r3 hM | exact MT_t3 hM | exact MT_l3 hM | exact MT_r4 hM | exact MT_t4 hM | exact MT_l4 hM | exact MT_r5 hM | exact MT_t5 hM | exact MT_l5 hM | exact MT_r6 hM | exact MT_t6 hM | exact MT_l6 hM | exact MT_r7 hM | exact MT_t7 hM | exact MT_l7 hM | exact MT_r8 hM | exact MT_t8 hM | exact MT_l8 hM | exact MT_r9 hM | exact MT_t9 hM | exact MT_l9 hM | exact MT_r10 hM | exact MT_t10 hM | exact MT_l10 hM) | exact Or.inr (by first | exact MT_0 hM | exact MT_now hM | exact MT_bt hM | exact MT_bl hM | exact MT_r0 hM | exact MT_t0 hM | exact MT_l0 hM | exact MT_r1 hM | exact MT_t1 hM | exact MT_l1 hM | exact MT_r2 hM | exact MT_t2 hM | exact MT_l2 hM | exact MT_r3 hM | exact MT_t3 hM | exact MT_l3 hM | exact MT_r4 hM | exact MT_t4 hM | exact MT_l4 hM | exact MT_r5 hM | exact MT_t5 hM | exact MT_l5 hM | exact MT_r6 hM | exact MT_t6 hM | exact MT_l6 hM | exact MT_r7 hM | exact MT_t7 hM | exact MT_l7 hM | exact MT_r8 hM | exact MT_t8 hM | exact MT_l8 hM | exact MT_r9 hM | exact MT_t9 hM | exact MT_l9 hM | exact MT_r10 hM | exact MT_t10 hM | exact MT_l10 hM)) (by first | exact MT_0 hM | exact MT_now hM | exact MT_bt hM | exact MT_bl hM | exact MT_r0 hM | exact MT_t0 hM | exact MT_l0 hM | exact MT_r1 hM | exact MT_t1 hM | exact MT_l1 hM | exact MT_r2 hM | exact MT_t2 hM | exact MT_l2 hM | exact MT_r3 hM | exact MT_t3 hM | exact MT_l3 hM | exact MT_r4 hM | exact MT_t4 hM | exact MT_l4 hM | exact MT_r5 hM | exact MT_t5 hM | exact MT_l5 hM | exact MT_r6 hM | exact MT_t6 hM | exact MT_l6 hM | exact MT_r7 hM | exact MT_t7 hM | exact MT_l7 hM | exact MT_r8 hM | exact MT_t8 hM | exact MT_l8 hM | exact MT_r9 hM | exact MT_t9 hM | exact MT_l9 hM | exact MT_r10 hM | exact MT_t10 hM | exact MT_l10 hM) (by first | omega | exact hc _ _ | exact bi_rg _ | exact zrg _ | exact mrj_rg _) (by first | omega | exact hc _ _ | exact bi_rg _ | exact zrg _ | exact mrj_rg _) (by omega) ?_)))
    refine gw_cge at223_20 (by first | omega | exact hc _ _ | exact bi_rg _ | exact zrg _ | exact mrj_rg _) (by first | omega | exact hc _ _ | exact bi_rg _ | exact zrg _ | exact mrj_rg _) (fun q20 => ?_) (fun q20 => ?_)
    · refine gw_const at223_41 (gw_r1 at223_42 am_r223.2.1 (gR_b ?_))
      unfold mcn
      rw [hf, ff_end (by omega)]
      rfl
    · refine gw_al0 at223_23 (gw_il3 at223_24 (gw_il1 at223_25 (gw_callP3 at223_26 (m_reachedFrom hM hc hV (by omega) hw) (by omega) (Nat.le_of_ble_eq_true rfl) (gw_il2 at223_29 ?_))))
      refine gw_ceq at223_30 (by first | omega | exact hc _ _ | exact bi_rg _ | exact zrg _ | exact mrj_rg _) (by first | omega | exact hc _ _ | exact bi_rg _ | exact zrg _ | exact mrj_rg _) (fun q30 => ?_) (fun q30 => ?_)
      · refine gw_inc3 at223_35 (h := (gw_goto at223_38 ?_))
        refine ih (i + 1) (by omega) (by omega) (by omega) ?_
        rw [hf]
        exact ff_no (by omega) (decide_eq_false (by omega))
      · refine gw_const at223_33 (gw_r0 at223_34 am_r223.2.1 (gR_b ?_))
        unfold mcn
        rw [hf, ff_yes (by omega) (decide_eq_true (by omega))]
        exact (decide_eq_false (by omega)).symm
  exact lp13 0 (by omega) (by omega) (by omega) rfl
def mini (c : gC) (b : Nat) (a e : Int) : Int := if mhA c b a = false ∨ mhA c b e = false then 1000000000 else if a = e then 0 else if mfo c b a e = true then mct c b a e + mln c b e else 1000000000
def mi1 (c : gC) (b : Nat) (a e : Int) (m : gC) : gC := gu m 200003 (24 * a + e) (mini c b a e)
def mi2 (c : gC) (b : Nat) (a : Int) (m : gC) : gC := itI (mi1 c b a) m 24
def mu1 (k a e : Int) (m : gC) : gC := gu m 200003 (24 * a + e) (min (mle m a e) (mle m a k + mle m k e))
def mu2 (k a : Int) (m : gC) : gC := itI (mu1 k a) m 24
def mu3 (k : Int) (m : gC) : gC := itI (mu2 k) m 24
/-- the table of least costs -/
def mll (c : gC) (b : Nat) : gC := itI mu3 (itI (mi2 c b) c 24) 24
theorem mini_rg {c : gC} {b : Nat} {a e : Int} (hV : NW c b) (he : 0 ≤ e ∧ e < 24) : 0 ≤ mini c b a e ∧ mini c b a e ≤ 1000000000 := by
  have h1 := mct_rg (a := a) (e := e) hV
  have h2 := mln_rg hV he
  unfold mini
  split
  · omega
  · split
    · omega
    · split <;> omega
/-- only the table has changed -/
def PL (c m : gC) : Prop := RG m ∧ ∀ k : Nat, ¬ k = 200003 → m k = c k
theorem PL_gu {c m : gC} {j z : Int} (h : PL c m) (hz : -2147483648 ≤ z ∧ z < 2147483648) : PL c (gu m 200003 j z) := ⟨RG_gu h.1 hz, fun k hk => by rw [← h.2 k hk]; funext i; exact gu_k hk⟩
/-- the first n entries lie in the range -/
def LRn (m : gC) (n : Int) : Prop := ∀ i : Int, 0 ≤ i → i < n → 0 ≤ m 200003 i ∧ m 200003 i ≤ 1000000000
theorem LRn_gu {m : gC} {n z : Int} (h : LRn m n) (hz : 0 ≤ z ∧ z ≤ 1000000000) : LRn (gu m 200003 n z) (n + 1) := fun i h0 h1 => by
  by_cases e : i = n
  · subst e; rw [gu_s]; exact hz
  · rw [gu_j e]; exact h i h0 (by omega)
theorem LR_gu {m : gC} {n z : Int} (h : LR m) (hz : 0 ≤ z ∧ z ≤ 1000000000) : LR (gu m 200003 n z) := fun i h0 h1 => by
  by_cases e : i = n
  · subst e; rw [gu_s]; exact hz
  · rw [gu_j e]; exact h i h0 h1
theorem mi1_ok {c m : gC} {b : Nat} {a : Int} (hV : NW c b) (h : PL c m) (hl : LRn m (24 * a)) {i : Int} (h0 : 0 ≤ i) (h1 : i ≤ 24) : PL c (itI (mi1 c b a) m i) ∧ LRn (itI (mi1 c b a) m i) (24 * a + i) := by
  refine itI_inv3 (fun k m => PL c m ∧ LRn m (24 * a + k)) (N := i) ⟨h, by rw [Int.add_zero]; exact hl⟩ (fun j s h2 h3 hs => ?_) h0 (Int.le_refl _)
  have := mini_rg (a := a) (e := j) hV ⟨h2, by omega⟩
  exact ⟨PL_gu hs.1 (by omega), by rw [show 24 * a + (j + 1) = 24 * a + j + 1 by omega]; exact LRn_gu hs.2 this⟩
theorem mi2_ok {c : gC} {b : Nat} (hc : RG c) (hV : NW c b) {i : Int} (h0 : 0 ≤ i) (h1 : i ≤ 24) : PL c (itI (mi2 c b) c i) ∧ LRn (itI (mi2 c b) c i) (24 * i) := by
  refine itI_inv3 (fun k m => PL c m ∧ LRn m (24 * k)) (N := i) ⟨⟨hc, fun _ _ => rfl⟩, fun j a b => absurd b (by omega)⟩ (fun j s h2 h3 hs => ?_) h0 (Int.le_refl _)
  have := mi1_ok hV hs.1 hs.2 (i := 24) (by decide) (by decide)
  rw [show 24 * j + 24 = 24 * (j + 1) by omega] at this
  exact this
theorem mu1_ok {c m : gC} {k a : Int} (hk : 0 ≤ k ∧ k < 24) (ha : 0 ≤ a ∧ a < 24) (h : PL c m) (hl : LR m) {i : Int} (h1 : i ≤ 24) : PL c (itI (mu1 k a) m i) ∧ LR (itI (mu1 k a) m i) := by
  refine itI_inv2 (fun m => PL c m ∧ LR m) (N := 24) ⟨h, hl⟩ (fun j s h2 h3 hs => ?_) h1
  have e1 := mle_rg hs.2 ha ⟨h2, h3⟩
  have e2 := mle_rg hs.2 ha hk
  have e3 := mle_rg hs.2 hk ⟨h2, h3⟩
  exact ⟨PL_gu hs.1 (by omega), LR_gu hs.2 (by omega)⟩
theorem mu2_ok {c m : gC} {k : Int} (hk : 0 ≤ k ∧ k < 24) (h : PL c m) (hl : LR m) {i : Int} (h1 : i ≤ 24) : PL c (itI (mu2 k) m i) ∧ LR (itI (mu2 k) m i) :=
  itI_inv2 (fun m => PL c m ∧ LR m) (N := 24) ⟨h, hl⟩ (fun _ _ h2 h3 hs => mu1_ok hk ⟨h2, h3⟩ hs.1 hs.2 (by decide)) h1
theorem mu3_ok {c m : gC} (h : PL c m) (hl : LR m) {i : Int} (h1 : i ≤ 24) : PL c (itI mu3 m i) ∧ LR (itI mu3 m i) :=
  itI_inv2 (fun m => PL c m ∧ LR m) (N := 24) ⟨h, hl⟩ (fun _ _ h2 h3 hs => mu2_ok ⟨h2, h3⟩ hs.1 hs.2 (by decide)) h1
theorem mll_ok {c : gC} {b : Nat} (hc : RG c) (hV : NW c b) : PL c (mll c b) ∧ LR (mll c b) := by
  obtain ⟨h1, h2⟩ := mi2_ok hc hV (i := 24) (by decide) (by decide)
  exact mu3_ok h1 (fun i a b => h2 i a (by omega)) (by decide)
theorem b_ne {T : gT} {b : Nat} (h : MT T b) : ¬ b = 200003 ∧ ¬ b = 500001 ∧ ¬ b = 200004 ∧ ¬ b = 200005 ∧ ¬ b = 200006 ∧ ¬ b = 200007 ∧ ¬ b = 200008 := by
  rcases MT_b h with e | e | e <;> subst e <;> decide
