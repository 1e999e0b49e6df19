theorem mle_o {c m : gC} (e : m 200003 = c 200003) (a x : Int) : mle m a x = mle c a x := by unfold mle; rw [e]
theorem mtn_o {c m : gC} {b : Nat} (e : m b = c b) (e3 : m 200003 = c 200003) (a n : Int) : mtn m b a n = mtn c b a n := by
  unfold mtn
  rw [show mtf m b a n = mtf c b a n from funext fun x => funext fun s => by unfold mtf; rw [mhA_o e, men_o e, mle_o e3]]
theorem mlt_o {c m : gC} {b : Nat} (e : m b = c b) (e3 : m 200003 = c 200003) (a g : Int) : mlt m b a g = mlt c b a g := by unfold mlt; rw [mle_o e3, mtn_o e e3]
theorem mcf_o {c m : gC} {b : Nat} (e : m b = c b) (e3 : m 200003 = c 200003) (n l g : Int) : mcf m b n l g = mcf c b n l g := by
  unfold mcf
  rw [show mff m b n l g = mff c b n l g from funext fun x => funext fun s => by unfold mff; rw [mhA_o e, mbg_o e, mnc_o e, mlt_o e e3]]
theorem mcw_o {c m : gC} {b : Nat} (e : m b = c b) (e3 : m 200003 = c 200003) (f t : Int) : mcw m b f t = mcw c b f t := by unfold mcw; rw [mcf_o e e3]
set_option maxHeartbeats 1000000 in
theorem m_lr28 {d g : Nat} {T : gT} {J : gC} (hd : 6 ≤ d) {c : gC} {b : Nat} {m : gC} {z x y w : Int} {u l0 l1 : Value} {Q : am_O → am_M → Prop} (hM : MT T b) (hV : NW c b) (hL : LR c) (hz : 0 ≤ z ∧ z < 100) (hm : RG m) (hmb : m b = c b) (hm3 : m 200003 = c 200003) (h7 : 0 ≤ m 500001 7 ∧ m 500001 7 < 25) (hx : -2147483648 ≤ x ∧ x < 2147483648) (hy : -1 ≤ y ∧ y < 24) (hw : 0 ≤ w ∧ w < 1000000000) (hE : ∃ e, fep c b z (x, y, w) e = true) (hcont : gw d g 204 23 [.ref 500001, l0, l1, gi z, gi (men c b (fe c b z (x, y, w))), gi (fe c b z (x, y, w)), gi (mlt c b (fe c b z (x, y, w)) z), gi (if 0 < mlt c b (fe c b z (x, y, w)) z then 1 else 0), gi (fe c b z (x, y, w))] [] (gm T (gu (gu m 200004 (m 500001 7) (fe c b z (x, y, w))) 500001 7 (m 500001 7 + 1)) J) Q) (hu : am_nl u = true) : gw d g 204 28 [.ref 500001, l0, l1, gi z, gi x, gi y, gi w, gi 1, u] [] (gm T m J) (Q) := by
  have hbn := b_ne hM
  obtain ⟨e1, e2, e3⟩ := fe_ok hV hE
  obtain ⟨f1, f2, f3⟩ := fep_b e2
  have mV : NW m b := NW_of hV hmb
  have mL : LR m := fun i a b => by rw [hm3]; exact hL i a b
  refine gw_const at204_28 (gw_is8 at204_29 (h := ?_))
  have lp31 : ∀ e : Int, 0 ≤ e → e ≤ 24 → e ≤ (fe c b z (x, y, w)) → gw d g 204 31 [.ref 500001, l0, l1, gi z, gi x, gi y, gi w, gi 1, gi e] [] (gm T m J) Q := by
    refine ind_up 24 ?_
    intro e he0 he1 ih he2
    have k1 := mbg_rg hV (show 0 ≤ e ∧ e < 24 by omega)
    have k2 := mnc_rg (l := y) hV (show 0 ≤ e ∧ e < 24 by omega)
    have k3 := mlt_rg (b := b) (g := z) hL (show 0 ≤ e ∧ e < 24 by omega) hz.1
    refine gw_al0 at204_31 ?_
    refine gw_il8 at204_32 (gw_callP2 at204_34 (m_isArc hM hm mV (by omega)) (by omega) (Nat.le_of_ble_eq_true rfl) ?_)
    rw [mhA_o hmb]
    refine gw_beq at204_37 (fun q37 => ?_) (fun q37 => ?_)
    · refine gw_inc8 at204_72 (h := (gw_goto at204_75 ?_))
      have he3 : ¬ e = (fe c b z (x, y, w)) := fun h => by
        rw [← h] at f1 f2 f3
        first | exact absurd (f1.symm.trans q37) (by decide) | (dsimp only at f2 f3; omega)
      exact ih (e + 1) (by omega) (by omega) (by omega)
    · refine gw_al0 at204_40 (gw_il8 at204_41 (gw_callP2 at204_43 (m_startOf hM hm mV (by omega)) (by omega) (Nat.le_of_ble_eq_true rfl) ?_))
      rw [mbg_o hmb]
      refine gw_il4 at204_46 ?_
      refine gw_cne at204_48 (by first | omega | exact hm _ _) (by first | omega | exact hm _ _) (fun q48 => ?_) (fun q48 => ?_)
      · refine gw_inc8 at204_72 (h := (gw_goto at204_75 ?_))
        have he3 : ¬ e = (fe c b z (x, y, w)) := fun h => by
          rw [← h] at f1 f2 f3
          first | exact absurd (f1.symm.trans q37) (by decide) | (dsimp only at f2 f3; omega)
        exact ih (e + 1) (by omega) (by omega) (by omega)
      · refine gw_al0 at204_51 (gw_il5 at204_52 (gw_il8 at204_54 (gw_callP3 at204_56 (m_nextCost hM hm mV hy (by omega)) (by omega) (Nat.le_of_ble_eq_true rfl) ?_)))
        rw [mnc_o hmb]
        refine gw_al0 at204_59 (gw_il8 at204_60 (gw_il3 at204_62 (gw_callP3 at204_63 (m_leftTo hM hm mV mL (by omega) hz) (by omega) (Nat.le_of_ble_eq_true rfl) ?_)))
        rw [mlt_o hmb hm3]
        refine gw_iadd at204_66 (gw_il6 at204_67 ?_)
        refine gw_ceq at204_69 (by first | omega | exact hm _ _) (by first | omega | exact hm _ _) (fun q69 => ?_) (fun q69 => ?_)
        · have ee : e = (fe c b z (x, y, w)) := by
            by_cases ql : e < (fe c b z (x, y, w))
            · have h9 := e3 e he0 ql
              unfold fep at h9
              rw [q37, decide_eq_true (by omega : mbg c b e = x), decide_eq_true (by omega : mnc c b y e + mlt c b e z = w)] at h9
              cases h9
            · omega
          rw [ee]
          have x1 : RG (gu (gu m 200004 (m 500001 7) (fe c b z (x, y, w))) 500001 7 (m 500001 7 + 1)) := RG_gu (RG_gu hm (by omega)) (by omega)
          have xb : (gu (gu m 200004 (m 500001 7) (fe c b z (x, y, w))) 500001 7 (m 500001 7 + 1)) b = c b := by rw [← hmb]; funext j; rw [gu_k hbn.2.1, gu_k hbn.2.2.1]
          have x3k : (gu (gu m 200004 (m 500001 7) (fe c b z (x, y, w))) 500001 7 (m 500001 7 + 1)) 200003 = c 200003 := by rw [← hm3]; funext j; rw [gu_k (by decide), gu_k (by decide)]
          have xL : LR (gu (gu m 200004 (m 500001 7) (fe c b z (x, y, w))) 500001 7 (m 500001 7 + 1)) := fun i a b => by rw [x3k]; exact hL i a b
          have g4 := men_rg hV e1
          have g5 := mlt_rg (b := b) (g := z) hL e1 hz.1
          refine gw_al0 at204_78 (gw_gr at204_79 (by first | exact MT_0 hM | exact MT_now hM | exact MT_bt hM | exact MT_bl hM | exact MT_r0 hM | exact MT_t0 hM | exact MT_l0 hM | exact MT_r1 hM | exact MT_t1 hM | exact MT_l1 hM | exact MT_r2 hM | exact MT_t2 hM | exact MT_l2 hM | exact MT_r3 hM | exact MT_t3 hM | exact MT_l3 hM | exact MT_r4 hM | exact MT_t4 hM | exact MT_l4 hM | exact MT_r5 hM | exact MT_t5 hM | exact MT_l5 hM | exact MT_r6 hM | exact MT_t6 hM | exact MT_l6 hM | exact MT_r7 hM | exact MT_t7 hM | exact MT_l7 hM | exact MT_r8 hM | exact MT_t8 hM | exact MT_l8 hM | exact MT_r9 hM | exact MT_t9 hM | exact MT_l9 hM | exact MT_r10 hM | exact MT_t10 hM | exact MT_l10 hM) (by first | exact MT_0 hM | exact MT_now hM | exact MT_bt hM | exact MT_bl hM | exact MT_r0 hM | exact MT_t0 hM | exact MT_l0 hM | exact MT_r1 hM | exact MT_t1 hM | exact MT_l1 hM | exact MT_r2 hM | exact MT_t2 hM | exact MT_l2 hM | exact MT_r3 hM | exact MT_t3 hM | exact MT_l3 hM | exact MT_r4 hM | exact MT_t4 hM | exact MT_l4 hM | exact MT_r5 hM | exact MT_t5 hM | exact MT_l5 hM | exact MT_r6 hM | exact MT_t6 hM | exact MT_l6 hM | exact MT_r7 hM | exact MT_t7 hM | exact MT_l7 hM | exact MT_r8 hM | exact MT_t8 hM | exact MT_l8 hM | exact MT_r9 hM | exact MT_t9 hM | exact MT_l9 hM | exact MT_r10 hM | exact MT_t10 hM | exact MT_l10 hM) (gw_al0 at204_82 (gw_gf (j := 7) at204_83 (by first | exact MT_0 hM | exact MT_now hM | exact MT_bt hM | exact MT_bl hM | exact MT_r0 hM | exact MT_t0 hM | exact MT_l0 hM | exact MT_r1 hM | exact MT_t1 hM | exact MT_l1 hM | exact MT_r2 hM | exact MT_t2 hM | exact MT_l2 hM | exact MT_r3 hM | exact MT_t3 hM | exact MT_l3 hM | exact MT_r4 hM | exact MT_t4 hM | exact MT_l4 hM | exact MT_r5 hM | exact MT_t5 hM | exact MT_l5 hM | exact MT_r6 hM | exact MT_t6 hM | exact MT_l6 hM | exact MT_r7 hM | exact MT_t7 hM | exact MT_l7 hM | exact MT_r8 hM | exact MT_t8 hM | exact MT_l8 hM | exact MT_r9 hM | exact MT_t9 hM | exact MT_l9 hM | exact MT_r10 hM | exact MT_t10 hM | exact MT_l10 hM) rfl (gw_il8 at204_86 (gw_iw at204_88 (by first | exact MT_0 hM | exact MT_now hM | exact MT_bt hM | exact MT_bl hM | exact MT_r0 hM | exact MT_t0 hM | exact MT_l0 hM | exact MT_r1 hM | exact MT_t1 hM | exact MT_l1 hM | exact MT_r2 hM | exact MT_t2 hM | exact MT_l2 hM | exact MT_r3 hM | exact MT_t3 hM | exact MT_l3 hM | exact MT_r4 hM | exact MT_t4 hM | exact MT_l4 hM | exact MT_r5 hM | exact MT_t5 hM | exact MT_l5 hM | exact MT_r6 hM | exact MT_t6 hM | exact MT_l6 hM | exact MT_r7 hM | exact MT_t7 hM | exact MT_l7 hM | exact MT_r8 hM | exact MT_t8 hM | exact MT_l8 hM | exact MT_r9 hM | exact MT_t9 hM | exact MT_l9 hM | exact MT_r10 hM | exact MT_t10 hM | exact MT_l10 hM) (by first | exact MT_0 hM | exact MT_now hM | exact MT_bt hM | exact MT_bl hM | exact MT_r0 hM | exact MT_t0 hM | exact MT_l0 hM | exact MT_r1 hM | exact MT_t1 hM | exact MT_l1 hM | exact MT_r2 hM | exact MT_t2 hM | exact MT_l2 hM | exact MT_r3 hM | exact MT_t3 hM | exact MT_l3 hM | exact MT_r4 hM | exact MT_t4 hM | exact MT_l4 hM | exact MT_r5 hM | exact MT_t5 hM | exact MT_l5 hM | exact MT_r6 hM | exact MT_t6 hM | exact MT_l6 hM | exact MT_r7 hM | exact MT_t7 hM | exact MT_l7 hM | exact MT_r8 hM | exact MT_t8 hM | exact MT_l8 hM | exact MT_r9 hM | exact MT_t9 hM | exact MT_l9 hM | exact MT_r10 hM | exact MT_t10 hM | exact MT_l10 hM) (by first | omega | exact hm _ _) (by first | omega | exact hm _ _) (by omega) (gw_al0 at204_89 (gw_dupr at204_90 (gw_gf (j := 7) at204_91 (by first | exact MT_0 hM | exact MT_now hM | exact MT_bt hM | exact MT_bl hM | exact MT_r0 hM | exact MT_t0 hM | exact MT_l0 hM | exact MT_r1 hM | exact MT_t1 hM | exact MT_l1 hM | exact MT_r2 hM | exact MT_t2 hM | exact MT_l2 hM | exact MT_r3 hM | exact MT_t3 hM | exact MT_l3 hM | exact MT_r4 hM | exact MT_t4 hM | exact MT_l4 hM | exact MT_r5 hM | exact MT_t5 hM | exact MT_l5 hM | exact MT_r6 hM | exact MT_t6 hM | exact MT_l6 hM | exact MT_r7 hM | exact MT_t7 hM | exact MT_l7 hM | exact MT_r8 hM | exact MT_t8 hM | exact MT_l8 hM | exact MT_r9 hM | exact MT_t9 hM | exact MT_l9 hM | exact MT_r10 hM | exact MT_t10 hM | exact MT_l10 hM) rfl ?_))))))))
          rw [gu_k (by decide)]
          refine gw_const at204_94 (gw_iadd at204_95 (gw_pf (j := 7) at204_96 (by first | exact MT_0 hM | exact MT_now hM | exact MT_bt hM | exact MT_bl hM | exact MT_r0 hM | exact MT_t0 hM | exact MT_l0 hM | exact MT_r1 hM | exact MT_t1 hM | exact MT_l1 hM | exact MT_r2 hM | exact MT_t2 hM | exact MT_l2 hM | exact MT_r3 hM | exact MT_t3 hM | exact MT_l3 hM | exact MT_r4 hM | exact MT_t4 hM | exact MT_l4 hM | exact MT_r5 hM | exact MT_t5 hM | exact MT_l5 hM | exact MT_r6 hM | exact MT_t6 hM | exact MT_l6 hM | exact MT_r7 hM | exact MT_t7 hM | exact MT_l7 hM | exact MT_r8 hM | exact MT_t8 hM | exact MT_l8 hM | exact MT_r9 hM | exact MT_t9 hM | exact MT_l9 hM | exact MT_r10 hM | exact MT_t10 hM | exact MT_l10 hM) rfl (gw_al0 at204_99 (gw_il8 at204_100 (gw_callP2 at204_102 (m_endOf hM x1 (NW_of hV xb) e1) (by omega) (Nat.le_of_ble_eq_true rfl) ?_)))))
          rw [men_o xb]
          refine gw_is4 at204_105 (h := (gw_il8 at204_107 (gw_is5 at204_109 (h := (gw_al0 at204_111 (gw_il8 at204_112 (gw_il3 at204_114 (gw_callP3 at204_115 (m_leftTo hM x1 (NW_of hV xb) xL e1 hz) (by omega) (Nat.le_of_ble_eq_true rfl) ?_))))))))
          rw [mlt_o xb x3k]
          refine gw_is6 at204_118 (h := (gw_il6 at204_120 ?_))
          refine gw_zle at204_122 (by first | omega | exact hm _ _) (fun q122 => ?_) (fun q122 => ?_)
          · refine gw_const at204_129 (gw_is7 at204_130 (h := (gw_goto at204_132 ?_)))
            first | (rw [if_pos (by omega)] at hcont; exact hcont) | (rw [if_neg (by omega)] at hcont; exact hcont)
          · refine gw_const at204_125 (gw_goto at204_126 (gw_is7 at204_130 (h := (gw_goto at204_132 ?_))))
            first | (rw [if_pos (by omega)] at hcont; exact hcont) | (rw [if_neg (by omega)] at hcont; exact hcont)
        · refine gw_inc8 at204_72 (h := (gw_goto at204_75 ?_))
          have he3 : ¬ e = (fe c b z (x, y, w)) := fun h => by
            rw [← h] at f1 f2 f3
            first | exact absurd (f1.symm.trans q37) (by decide) | (dsimp only at f2 f3; omega)
          exact ih (e + 1) (by omega) (by omega) (by omega)
  exact lp31 0 (by decide) (by decide) e1.1
theorem m_lr23 {d g : Nat} {T : gT} {c J : gC} (hd : 6 ≤ d) {b : Nat} (hM : MT T b) (hc : RG c) (hV : NW c b) (hL : LR c) {n l z : Int} (hn : -2147483648 ≤ n ∧ n < 2147483648) (hl : -1 ≤ l ∧ l < 24) (hz : 0 ≤ z ∧ z < 100) (hO : LO c b z) (hm : mcf c b n l z < 1000000000) : ∀ k : Int, 0 ≤ k → k ≤ 24 → ∀ u w : Value, am_nl u = true → w = gi (if 0 < (lrt c b n l z k).1.2.2 then 1 else 0) → gw d g 204 23 [.ref 500001, gi n, gi l, gi z, gi (lrt c b n l z k).1.1, gi (lrt c b n l z k).1.2.1, gi (lrt c b n l z k).1.2.2, w, u] [] (gm T (lrt c b n l z k).2 J) (fun o M1 => o = .inl none ∧ M1 = gm T (lrt c b n l z 24).2 J) := by
  refine ind_up 24 ?_
  intro k hk0 hk1 ih u w hu hw
  obtain ⟨y1, y2, y3, y4, y5, y6, y7⟩ := lrt_ok hc hV hL hz.1 hO hn hl hm hk0 hk1
  have hbn := b_ne hM
  have yb : (lrt c b n l z k).2 b = c b := y5.2.1 b hbn.2.2.1 hbn.2.1
  have y3k : (lrt c b n l z k).2 200003 = c 200003 := y5.2.1 200003 (by decide) (by decide)
  by_cases hs : 0 < (lrt c b n l z k).1.2.2
  · rw [hw, if_pos hs]
    obtain ⟨z1, z2, z3⟩ := y1 hs
    obtain ⟨e1, e2, e3⟩ := fe_ok hV z1
    obtain ⟨f1, f2, f3⟩ := fep_b e2
    have g1 : 1 ≤ mnc c b (lrt c b n l z k).1.2.1 (fe c b z (lrt c b n l z k).1) := by
      have u1 := hO.1 _ f1
      have u2 := mct_rg (a := (lrt c b n l z k).1.2.1) (e := fe c b z (lrt c b n l z k).1) hV
      unfold mnc; split <;> omega
    have hk2 : k < 24 := by
      have := cnt_lt (n := 24) (e := fe c b z (lrt c b n l z k).1) (f := fun e => mhA c b e && decide (mlt c b e z < (lrt c b n l z k).1.2.2)) (f' := fun e => false) e1.1 e1.2 (fun e he => by cases he) (by simp only [Bool.and_eq_true, decide_eq_true_eq]; exact ⟨f1, by omega⟩) rfl
      have := (cnt_rg (f := fun _ => false) (n := 24) (by decide)).1
      omega
    refine gw_il7 at204_23 (gw_zeq at204_25 (by decide) (fun q => absurd q (by decide)) (fun q => ?_))
    have h9 := ih (k + 1) (by omega) (by omega) (gi (fe c b z (lrt c b n l z k).1)) _ rfl rfl
    have e9 : lrt c b n l z (k + 1) = lrs c b z k (lrt c b n l z k) := by unfold lrt; rw [itI_s _ _ hk0]
    rw [e9, lrs_t hs] at h9
    exact m_lr28 hd hM hV hL hz y5.1 yb y3k (by omega) y4 y3 ⟨y2.2, y2.1⟩ z1 h9 hu
  · rw [hw, if_neg hs]
    refine gw_il7 at204_23 (gw_zeq at204_25 (by decide) (fun q => ?_) (fun q => absurd rfl q))
    refine gw_rv at204_135 am_r204.2.1 ⟨rfl, ?_⟩
    have e9 : lrt c b n l z 24 = (lrt c b n l z k) := by
      unfold lrt at hs ⊢
      exact itI_fx hk0 (fun j hj => lrs_f hs) _ hk1
    rw [e9]
set_option maxHeartbeats 1000000 in
theorem m_layRoute {g : Nat} {T : gT} {c J : gC} {b : Nat} (hM : MT T b) (hc : RG c) (hV : NW c b) (hL : LR c) {n l z : Int} (hn : -2147483648 ≤ n ∧ n < 2147483648) (hl : -1 ≤ l ∧ l < 24) (hz : 0 ≤ z ∧ z < 100) (hO : LO c b z) (hm : mcf c b n l z < 1000000000) (hp : 0 < mcf c b n l z) : gE g 204 6 [.ref 500001, gi n, gi l, gi z] (gm T c J) (fun o M1 => o = .inl none ∧ M1 = gm T (lrt c b n l z 24).2 J) := by
  have hbn := b_ne hM
  have r1 : RG (gu c 500001 7 0) := RG_gu hc (by decide)
  have r0 : gu c 500001 7 0 b = c b := funext fun j => gu_k hbn.2.1
  have r3 : gu c 500001 7 0 200003 = c 200003 := funext fun j => gu_k (by decide)
  have rL : LR (gu c 500001 7 0) := fun i a b => by rw [r3]; exact hL i a b
  refine gE_mk am_r204 rfl (Or.inr ⟨_, rfl, (by first | exact MT_0 hM | exact MT_now hM | exact MT_bt hM | exact MT_bl hM | exact MT_r0 hM | exact MT_t0 hM | exact MT_l0 hM | exact MT_r1 hM | exact MT_t1 hM | exact MT_l1 hM | exact MT_r2 hM | exact MT_t2 hM | exact MT_l2 hM | exact MT_r3 hM | exact MT_t3 hM | exact MT_l3 hM | exact MT_r4 hM | exact MT_t4 hM | exact MT_l4 hM | exact MT_r5 hM | exact MT_t5 hM | exact MT_l5 hM | exact MT_r6 hM | exact MT_t6 hM | exact MT_l6 hM | exact MT_r7 hM | exact MT_t7 hM | exact MT_l7 hM | exact MT_r8 hM | exact MT_t8 hM | exact MT_l8 hM | exact MT_r9 hM | exact MT_t9 hM | exact MT_l9 hM | exact MT_r10 hM | exact MT_t10 hM | exact MT_l10 hM)⟩) (fun d hd => ?_)
  show gw d g 204 0 [.ref 500001, gi n, gi l, gi z, am_U, am_U, am_U, am_U, am_U] [] _ _
  refine gw_al0 at204_0 (gw_const at204_1 (gw_pf (j := 7) at204_2 (by first | exact MT_0 hM | exact MT_now hM | exact MT_bt hM | exact MT_bl hM | exact MT_r0 hM | exact MT_t0 hM | exact MT_l0 hM | exact MT_r1 hM | exact MT_t1 hM | exact MT_l1 hM | exact MT_r2 hM | exact MT_t2 hM | exact MT_l2 hM | exact MT_r3 hM | exact MT_t3 hM | exact MT_l3 hM | exact MT_r4 hM | exact MT_t4 hM | exact MT_l4 hM | exact MT_r5 hM | exact MT_t5 hM | exact MT_l5 hM | exact MT_r6 hM | exact MT_t6 hM | exact MT_l6 hM | exact MT_r7 hM | exact MT_t7 hM | exact MT_l7 hM | exact MT_r8 hM | exact MT_t8 hM | exact MT_l8 hM | exact MT_r9 hM | exact MT_t9 hM | exact MT_l9 hM | exact MT_r10 hM | exact MT_t10 hM | exact MT_l10 hM) rfl (gw_il1 at204_5 (gw_is4 at204_6 (h := (gw_il2 at204_8 (gw_is5 at204_9 (h := (gw_al0 at204_11 (gw_il1 at204_12 (gw_il2 at204_13 (gw_il3 at204_14 (gw_callP4 at204_15 (m_costFrom hM r1 (NW_of hV r0) rL hn hl hz) (by omega) (Nat.le_of_ble_eq_true rfl) ?_)))))))))))))
  rw [mcf_o r0 r3]
  refine gw_is6 at204_18 (h := (gw_const at204_20 (gw_is7 at204_21 (h := ?_))))
  exact m_lr23 (by omega) hM hc hV hL hn hl hz hO hm 0 (by decide) (by decide) _ _ rfl (by rw [if_pos (show 0 < (lrt c b n l z 0).1.2.2 from hp)])
