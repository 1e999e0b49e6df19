/-! the law's case: driving to a node -/
theorem gol_8 {b : Nat} {r : Int → Int} {s : Bool} {m : gC} {N : Int} (hV : NW m b) (hr : ∀ k, 0 ≤ k → k < N → 0 ≤ r k ∧ r k < 24) : ∀ i : Nat, (i : Int) ≤ N → NA m (gol b r s m (i : Int)).2 b ∧ (gol b r s m (i : Int)).2 b 8 ≤ m b 8 ∧ (gol b r s m (i : Int)).2 b 4 = m b 4 := by
  intro i
  induction i with
  | zero => intro _; exact ⟨NA_rf, Int.le_refl _, rfl⟩
  | succ k ih =>
    intro hk
    obtain ⟨a1, a2, a3⟩ := ih (by omega)
    have ha := hr (k : Int) (by omega) (by omega)
    have hV2 : NW (gol b r s m (k : Int)).2 b := NW_n a1 hV
    rw [show ((k + 1 : Nat) : Int) = (k : Int) + 1 from rfl, gol_s (by omega)]
    dsimp only
    generalize (gol b r s m (k : Int)).2 = y at *
    have q := mgo_8 (c := y) (b := b) (s := s) ha.1 (msq_rg (NW_n mg0_NA hV2) ha).2.2.1
    exact ⟨NA_tr a1 (mgo_NA ha), Int.le_trans q.1 a2, q.2.trans a3⟩
theorem mgt_8 {c : gC} {b : Nat} {n B : Int} {s : Bool} (hb : (¬ b = 200003 ∧ ¬ b = 200004) ∧ ¬ b = 500001) (hc : RG c) (hV : NW c b) (hL : LR c) (hW : WW c b B) (hn : 0 ≤ n ∧ n < 10) (hO : LO c b (24 + n)) (hm : ¬ c b 6 = n → mcf c b (c b 6) (-1) (24 + n) < 1000000000) : (mgt c b n s).2 b 8 ≤ c b 8 ∧ (mgt c b n s).2 b 4 = c b 4 := by
  by_cases e : c b 6 = n
  · rw [mgt_e e]; exact ⟨Int.le_refl _, rfl⟩
  · rw [mgt_n e]
    obtain ⟨t1, t2, t3, t4, t5⟩ := rtm_ok hc hV hL hn hO hW.2.1.2 (hm e)
    have tb := t2 b hb.1.2 hb.2
    have g := gol_8 (s := s) (r := fun k => rtm c b n 200004 k) (N := rtm c b n 500001 7) (NW_of hV tb) (fun k a e => (t5 k a e).2) (rtm c b n 500001 7).toNat (by omega)
    rw [Int.toNat_of_nonneg t4.1] at g
    rw [tb] at g
    exact g.2
def RGo (z : Int) (x : Int × Int × gC) (s : Bool) (T : gT) (c J : gC) : (Int ⊕ Nat) → gT → gC → gC → Prop := fun r T1 c1 J1 => ((∀ v, r = .inl v → x.2.2 100026 5 = 0) ∧ RK3 (0 ≤ z ∧ z < c 100014 1) (x.1 = z) 3 2 0 T c x.2.2 x.2.2 J r T1 c1 J1) ∨ (((0 ≤ z ∧ z < c 100014 1) ∧ x.1 = z ∧ ¬ x.2.2 100026 5 = 0) ∧ ∃ d, KP T x.2.2 J T1 d J1 ∧ r = .inl (drl d 100014 100034 100029 s (x.2.2 100026 5)).1 ∧ c1 = (drl d 100014 100034 100029 s (x.2.2 100026 5)).2)
set_option maxHeartbeats 2000000 in
theorem op_38 {L : Nat} : OPC L 2038 := by
  intro n T c J i u5 u6 Q hn h hL hi hu hv hend
  have rg := IV_RG h
  have hz := rg 800000 (i + 1)
  have hs2 := rg 800000 (i + 2)
  have fx := IV_fx h hn
  have b13 := IV_13 h
  have hV := IV_NW h
  have ww := (IV_WR h).2
  have hRT := (IV_CT h).2.2.2.1
  have hS := IV_SR h
  have ok := rfr_ok rg hS (IV_NR h)
  have e34 : rfr c 100034 = c 100034 := funext fun j => ok.2.2 _ (by decide) (by decide) (by decide) j
  have ef : rfr c 100034 2 = c 200000 6 := by rw [e34]; exact (IV_SW h).2.1.1.1.2
  have hf6 := (IV_WR h).2.2.1.2
  have h1 := c_x_driveTo (g := 5) (J := J) (s := decide (¬ c 800000 (i + 2) = 0)) (IV_XT h) (IV_NT h) rg (IV_NR h) (IV_WT h).1 (IV_WT h).2 (IV_WR h).1 hRT hS (IV_HR h) (by omega) hz
  rw [ef] at h1
  obtain ⟨iX, eX⟩ := IV_fpx h (by omega) (f := c 200000 6) (t := c 800000 (i + 1)) (by omega)
  have len := fpx_len (c := rfr c) (f := c 200000 6) (t := c 800000 (i + 1)) (i := 24) (by decide)
  have arc := (fpx_arc (c := rfr c) (f := c 200000 6) (t := c 800000 (i + 1)) (i := 24) (by decide) (by decide)).2
  have er : ∀ k : Nat, ¬ (100026 ≤ k ∧ k < 100029) → rfr c k = c k := fun k hk => funext fun j => ok.2.2 k (by omega) (by omega) (by omega) j
  have a1 : c 100014 1 = c 200000 0 := (IV_NN h).1.1.1
  refine lc_38 (p := decide (¬ c 800000 (i + 2) = 0)) rfl hs2 (R := RGo (c 800000 (i + 1)) (fpx (rfr c) (c 200000 6) (c 800000 (i + 1)) 24) (decide (¬ c 800000 (i + 2) = 0)) T c J) (HW := 9) (HM := 8) (E := fun T c _ => IV (n + 1) L T c) (hHW := by omega) (hHM := by omega) (hL := h.2) (hL2 := hL) (hi := hi) (hu := hu) (hv := hv) (hm := fun E => if E = 2 then 1 else 2) (h1 := w_driveTo ?_ (fun E T1 c1 J1 q => ?_)) (h2 := ?_) (h3 := ?_) (hend := fun z T2 c2 J2 k b q hk hb => hend T2 c2 J2 k b q.2.2.2 hk hb)
  · generalize decide (¬ c 800000 (i + 2) = 0) = s at *
    generalize c 800000 (i + 1) = z at *
    generalize hx : fpx (rfr c) (c 200000 6) z 24 = x at *
    refine gE_mono h1 fun o M1 q => ?_
    rcases q with ⟨q1, q2, q3, rfl, rfl⟩ | ⟨q1, q2, q3, T1, c1, J1, kp, rfl, rfl⟩ | ⟨q1, q2, rfl, rfl⟩ | ⟨q1, rfl, rfl⟩
    · exact ⟨T, x.2.2, J, rfl, Or.inl ⟨0, rfl, by decide, IV_out h, Or.inl ⟨fun _ _ => q3, rfl, Or.inl ⟨q1, q2, rfl, rfl, rfl⟩⟩⟩⟩
    · have D := drl_ok (s := s) (n := 100014) (w := 100034) (q := 100029) (KP_RG kp (IV_HR iX)) (KP_NR kp (IV_NR iX)) (KP_WR kp (IV_WR iX).1) (by omega) (by decide) (x.2.2 100026 5) len.1 (by omega) (fun j j0 j1 => by rw [KP_c kp (by decide) (by decide)]; exact arc j j0 j1)
      refine ⟨T1, _, J1, rfl, Or.inl ⟨_, rfl, by omega, ?_, Or.inr ⟨⟨q1, q2, q3⟩, c1, kp, rfl, rfl⟩⟩⟩
      rw [KP_T kp (by decide) (by decide)]
      exact IV_out h
    · exact ⟨gTt T, x.2.2, J, rfl, Or.inr ⟨3, rfl, fx.1, Or.inl ⟨(fun v e => by cases e), rfl, Or.inr (Or.inl ⟨q1, q2, rfl, rfl, rfl⟩)⟩⟩⟩
    · exact ⟨gTt T, c, J, rfl, Or.inr ⟨2, rfl, fx.1, Or.inl ⟨(fun v e => by cases e), rfl, Or.inr (Or.inr ⟨q1, rfl, rfl, rfl⟩)⟩⟩⟩
  · rcases q with ⟨-, q⟩ | ⟨-, d, -, e, -⟩
    · exact RK3_E E T1 c1 J1 q
    · cases e
  · generalize decide (¬ c 800000 (i + 2) = 0) = s at *
    generalize c 800000 (i + 1) = z at *
    generalize hx : fpx (rfr c) (c 200000 6) z 24 = x at *
    intro v T1 c1 J1 hR
    have ec : ∀ k : Nat, ¬ (100026 ≤ k ∧ k < 100030) → x.2.2 k = c k := fun k hk => (eX k (by omega) (by omega)).trans (er k (by omega))
    rcases hR with ⟨hl, rfl, ⟨hp, hq, e, rfl, rfl⟩ | ⟨-, -, e, -⟩ | ⟨-, e, -⟩⟩ | ⟨⟨hp, hq, hl⟩, d, kp, e, rfl⟩
    · have e1 : v = 0 := Sum.inl.inj e
      subst e1
      have l0 := hl 0 rfl
      have r2 := IV_RG iX
      have es : x.2.2 200000 = c 200000 := ec _ (by decide)
      have hz2 : 0 ≤ z ∧ z < c 200000 0 := by omega
      have po := IV_po h hz2
      have gm' := fun {d : gC} (hr : RG d) (es : d 200000 = c 200000) => go_m h hr es hz2
      have hno : mno x.2.2 200000 z = true := by
        unfold mno
        rw [inr_t, es]
        omega
      refine ⟨⟨iX.2, ec _ (by decide)⟩, gE_mono (m_x_driveTo (IV_MT iX) r2 (IV_NW iX) (IV_WR iX).2 (by omega) (IV_13 iX).2 hz (fun w => ?_) (fun w w2 => ?_)) fun o M1 q => ?_⟩
      · have t13 : tw x.2.2 0 500001 13 = x.2.2 500001 13 := by unfold tw; rw [gu_j (by decide)]
        have rr : RG (rem (tw x.2.2 0)) := rem_RG (tw_RG r2 (by decide)) (by rw [t13]; exact (IV_13 iX).2)
        exact (gm' rr ((rem_o (by decide) (by decide)).trans ((tw_k (by decide)).trans es))).2.2.1
      · have t13 : tw x.2.2 0 500001 13 = x.2.2 500001 13 := by unfold tw; rw [gu_j (by decide)]
        have rr : RG (rem (tw x.2.2 0)) := rem_RG (tw_RG r2 (by decide)) (by rw [t13]; exact (IV_13 iX).2)
        have e' : rem (tw x.2.2 0) 200000 = c 200000 := (rem_o (by decide) (by decide)).trans ((tw_k (by decide)).trans es)
        have g := gm' rr e'
        rw [es] at w2 ⊢
        exact (g.2.2.2.mp (by rw [mcr_cg (e'.trans es.symm)]; exact w)).resolve_left w2
      · have t13 : tw x.2.2 0 500001 13 = x.2.2 500001 13 := by unfold tw; rw [gu_j (by decide)]
        have rr : RG (rem (tw x.2.2 0)) := rem_RG (tw_RG r2 (by decide)) (by rw [t13]; exact (IV_13 iX).2)
        have e' : rem (tw x.2.2 0) 200000 = c 200000 := (rem_o (by decide) (by decide)).trans ((tw_k (by decide)).trans es)
        obtain ⟨⟨g1, g1b⟩, ⟨g2, g3, g4⟩, g5, g6⟩ := gm' rr e'
        have hmc : mcf (mll (rem (tw x.2.2 0)) 200000) 200000 (c 200000 6) (-1) (24 + z) < 1000000000 ∨ c 200000 6 = z := by
          have := (go_i g1 g1b g3 g2 po.1 po.2.1).mp (by rw [hx]; exact hq)
          exact this.symm
        have hmcr : mcr x.2.2 200000 z = true := by
          rw [← mcr_cg (e'.trans es.symm)]
          exact g6.mpr hmc.symm
        rcases q with ⟨q1, q2, q3, rfl, rfl⟩ | ⟨q1, q2, q3, -⟩ | ⟨q1, q2, -⟩ | ⟨q1, -⟩
        · have i2 := IV_tw iX (by omega) (z := 0) (by decide)
          exact ⟨_, _, _, rfl, rfl, ⟨⟨IV_MT h, IV_RG i2⟩, tw_0, IV_out h, IV_up i2 (by omega)⟩, gu_s, by decide⟩
        · have p := path_e g1 g1b g3 g2 po.1 po.2.1 (by rw [← es]; exact q3) (hmc.resolve_right (by rw [← es]; exact q3))
          rw [hx, l0] at p
          omega
        · rw [hmcr] at q2; cases q2
        · rw [hno] at q1; cases q1
    · cases e
    · cases e
    · have e1 : v = _ := Sum.inl.inj e
      have hz2 : 0 ≤ z ∧ z < c 200000 0 := by omega
      have po := IV_po h hz2
      have kc : ∀ k : Nat, (k < 300000 ∨ 400000 ≤ k) → ¬ k = 100052 → d k = x.2.2 k := fun k hk h3 => KP_c kp hk h3
      have kcc : ∀ k : Nat, (k < 300000 ∨ 400000 ≤ k) → ¬ k = 100052 → ¬ (100026 ≤ k ∧ k < 100030) → d k = c k := fun k hk h3 h4 => (kc k hk h3).trans (ec k h4)
      have r0 : RG d := KP_RG kp (IV_HR iX)
      have wr := KP_WR kp (IV_WR iX).1
      have nr := KP_NR kp (IV_NR iX)
      have D := drl_ok (s := s) (n := 100014) (w := 100034) (q := 100029) r0 nr wr (by omega) (by decide) (x.2.2 100026 5) len.1 (by omega) (fun j j0 j1 => by rw [kc _ (by decide) (by decide)]; exact arc j j0 j1)
      generalize hy : drl d 100014 100034 100029 s (x.2.2 100026 5) = y at *
      have eg : ∀ k : Nat, k < 100034 ∨ 100039 ≤ k → y.2 k = d k := fun k hk => funext fun j => D.2.2.1 k hk j
      have e2 : y.2 200000 = c 200000 := (eg _ (by decide)).trans (kcc _ (by decide) (by decide) (by decide))
      have e51 : y.2 500001 = c 500001 := (eg _ (by decide)).trans (kcc _ (by decide) (by decide) (by decide))
      have e28 : y.2 200008 = c 200008 := (eg _ (by decide)).trans (kcc _ (by decide) (by decide) (by decide))
      have s8 : T1.1 800000 = T.1 800000 := KP_T kp (by decide) (by decide)
      have out1 : (T1.1 500002).1 = 3 ∧ (T1.1 500002).2.1 = 1 := by rw [KP_T kp (by decide) (by decide)]; exact IV_out h
      have t13 : tw y.2 0 500001 13 = c 500001 13 := by unfold tw; rw [gu_j (by decide), e51]
      have rr := rem_cg (m := x.2.2) (m' := tw y.2 0) ((tw_k (by decide)).trans (e2.trans (ec _ (by decide)).symm)) ((tw_k (by decide)).trans (e28.trans (ec _ (by decide)).symm)) (by rw [t13, ec _ (by decide)])
      have rk : ∀ k : Nat, ¬ k = 200008 → ¬ k = 500001 → rem (tw y.2 0) k = y.2 k := fun k h1 h2 => (rem_o h1 h2).trans (tw_k h2)
      have er2 : rem (tw y.2 0) 200000 = c 200000 := (rk _ (by decide) (by decide)).trans e2
      have rrg : RG (rem (tw y.2 0)) := rem_RG (tw_RG D.1 (by decide)) (by rw [t13]; exact b13.2)
      obtain ⟨⟨g1, g1b⟩, ⟨g2, g3, g4⟩, g5, g6⟩ := go_m h rrg er2 hz2
      have hno : mno y.2 200000 z = true := by
        unfold mno
        rw [inr_t, e2]
        omega
      have hmc := (go_i g1 g1b g3 g2 po.1 po.2.1).mp (by rw [hx]; exact hq)
      have hmcr : mcr y.2 200000 z = true := by
        rw [← mcr_cg (er2.trans e2.symm)]
        exact g6.mpr hmc
      have e6 : mll (rem (tw y.2 0)) 200000 200000 6 = c 200000 6 := by rw [g1b]
      have nfd : NF c d 100014 := fun k k0 k1 j => by rw [kcc k (by omega) (by omega) (by omega)]
      have sw : SW d 100014 100034 (mll (rem (tw y.2 0)) 200000) 200000 := SW_o (IV_SW h) nfd (fun k k0 k1 j => by rw [kcc k (by omega) (by omega) (by omega)]) g1b
      have ge := go_e (s := s) (w := 100034) (X := d) g1 g1b ⟨⟨by decide, by decide⟩, by decide⟩ g3 g2 (by decide) sw po.2.1 (by rw [g1b]; exact po.2.2.1) (fun j j0 j1 => by rw [kc _ (by decide) (by decide), e6, hx]) (by rw [e6]; exact hmc)
      rw [e6, hx, hy] at ge
      refine ⟨⟨by rw [s8]; exact h.2, (eg _ (by decide)).trans (kcc _ (by decide) (by decide) (by decide))⟩, gE_mono (m_x_driveTo (KP_MT kp (IV_MT h)) D.1 (NW_of hV e2) (WW_of ww e2) (by omega) (by rw [e51]; exact b13.2) hz (fun _ => g5) (fun w w2 => ?_)) fun o M1 q => ?_⟩
      · rw [e2] at w2 ⊢
        exact hmc.resolve_left w2
      · rcases q with ⟨q1, q2, q3, -⟩ | ⟨q1, q2, q3, rfl, rfl⟩ | ⟨q1, q2, -⟩ | ⟨q1, -⟩
        · rw [e2] at q3
          exact absurd (ge.2.2.2.2.mpr q3) hl
        · generalize hM : mll (rem (tw y.2 0)) 200000 = M at *
          have hVM : NW M 200000 := NW_of hV g1b
          have wwM : WW M 200000 (700000 * (n : Int)) := WW_of ww g1b
          have hmm : ¬ M 200000 6 = z → mcf M 200000 (M 200000 6) (-1) (24 + z) < 1000000000 := fun w => by
            rw [e6] at w ⊢
            exact hmc.resolve_left w
          have mo := mgt_ok (s := s) ⟨⟨by decide, by decide⟩, by decide⟩ g2 hVM g3 wwM (by omega) po.2.1 g5 hmm
          have m7 := mgt_7 (s := s) ⟨⟨by decide, by decide⟩, by decide⟩ g2 hVM g3 wwM (by omega) po.2.1 g5 hmm (by rw [g4 _ (by decide), rem_m (by decide)]; unfold tw; rw [gu_j (by decide), e51]; exact (IV_LQ h).2)
          have m8 := mgt_8 (s := s) ⟨⟨by decide, by decide⟩, by decide⟩ g2 hVM g3 wwM po.2.1 g5 hmm
          have k3 : ∀ k : Nat, ¬ k = 200000 → ¬ k = 200003 → ¬ k = 200004 → ¬ k = 500001 → (mgt M 200000 z s).2 k = rem (tw y.2 0) k := fun k k0 k1 k2 k4 => (mo.2.2.2.1 k k0 k2 k4).trans (g4 k k1)
          have k5 : ∀ j, ¬ j = 7 → (mgt M 200000 z s).2 500001 j = rem (tw y.2 0) 500001 j := fun j hj => by rw [mo.2.2.2.2.1 j hj, g4 _ (by decide)]
          have t0 : (mgt M 200000 z s).2 500001 0 = 0 := by rw [k5 _ (by decide), rem_m (by decide)]; exact tw_0
          have lq := IV_LQ h
          have i2 : IV (n + 1) L T1 (mgt M 200000 z s).2 := by
            refine IV_kp iX (by omega) kp (fun k a1 a2 a3 a4 => ?_) (fun j a1 a2 a3 a4 => ?_) ((k3 _ (by decide) (by decide) (by decide) (by decide)).trans rr.1) (by rw [k5 _ (by decide)]; exact rr.2) (fun G Lo hl => ?_) mo.1 (fun j j0 j1 => ?_) m7
            · rw [k3 k a2 (by omega) (by omega) a4, rk k (by omega) a4]
              exact eg k (by omega)
            · rw [k5 j a2, rem_m a4]
              unfold tw
              rw [gu_j a1, e51, ec _ (by decide)]
            · have hl0 := hl
              obtain ⟨-, ⟨q8, -⟩, -⟩ := hl
              have nxy : NF x.2.2 y.2 100014 := fun k k0 k1 j => by rw [eg k (by omega), kc k (by omega) (by omega)]
              have hx1 : LV G (700000 * ((n + 1 : Nat) : Int)) Lo y.2 100014 100034 (mgt M 200000 z s).2 200000 := by
                refine LV_w hl0 nxy (fun j hj => by rw [mo.2.1 j hj, g1b, ec _ (by decide)]) ?_ ge.2.1.2.1 ge.2.1.2.2.1 (WR_mono D.2.1 (by omega) (by omega)) (WW_mono mo.2.2.1 (by omega) (by omega))
                rw [m8.2, mo.2.1 3 (by decide), g1b]
                rw [g1b] at m8
                rw [ec _ (by decide)] at q8
                exact ⟨q8.1, Int.le_trans m8.1 q8.2⟩
              refine LV_o (LV_cp hx1 (NEQ_o fun k k0 k1 j => rfl) (WEQ_o fun k k0 k1 j => rfl) (fun j _ _ => rfl)) (fun k k0 k1 j => ?_) (fun k k0 k1 j => ?_) rfl
              · rw [k3 k (by omega) (by omega) (by omega) (by omega), rk k (by omega) (by omega)]
              · rw [k3 k (by omega) (by omega) (by omega) (by omega), rk k (by omega) (by omega)]
            · rw [k3 _ (by decide) (by decide) (by decide) (by decide), rk _ (by decide) (by decide), eg _ (by decide), kcc _ (by decide) (by decide) (by decide)]
              exact lq.1 j j0 j1
          exact ⟨_, _, _, by rw [e1, ge.2.2.1], rfl, ⟨⟨KP_MT kp (IV_MT h), mo.1⟩, t0, out1, i2⟩, gu_s, by omega⟩
        · rw [hmcr] at q2; cases q2
        · rw [hno] at q1; cases q1
  · generalize decide (¬ c 800000 (i + 2) = 0) = s at *
    generalize c 800000 (i + 1) = z at *
    generalize hx : fpx (rfr c) (c 200000 6) z 24 = x at *
    have ec : ∀ k : Nat, ¬ (100026 ≤ k ∧ k < 100030) → x.2.2 k = c k := fun k hk => (eX k (by omega) (by omega)).trans (er k (by omega))
    intro X T1 c1 J1 hR
    rcases hR with ⟨-, q⟩ | ⟨-, d, -, e, -⟩
    · refine opk3 h (fun _ => ⟨iX, ec _ (by decide), ec _ (by decide)⟩) hn (X := 3) (Y := 2) (hm := fun E => if E = 2 then 1 else 2) (kX := 2) (kY := 1) ⟨rfl, by decide, by decide⟩ ⟨rfl, by decide, by decide⟩ (fun hpq n' T' c2 J' h2 hn' es => ?_) X T1 c1 J1 q
      have r2 := IV_RG h2
      have hno : mno c2 200000 z = true ↔ 0 ≤ z ∧ z < c 100014 1 := by
        unfold mno
        rw [inr_t, es]
        omega
      have hcn : mcr c2 200000 z = true → mno c2 200000 z = true := fun w => by
        unfold mcr at w
        rw [Bool.and_eq_true] at w
        exact w.1
      have t13 : tw c2 0 500001 13 = c2 500001 13 := by unfold tw; rw [gu_j (by decide)]
      have rr : RG (rem (tw c2 0)) := rem_RG (tw_RG r2 (by decide)) (by rw [t13]; exact (IV_13 h2).2)
      have e' : rem (tw c2 0) 200000 = c 200000 := (rem_o (by decide) (by decide)).trans ((tw_k (by decide)).trans es)
      have nox : mcr c2 200000 z = true → False := fun w => by
        have w3 := hno.mp (hcn w)
        have hz2 : 0 ≤ z ∧ z < c 200000 0 := by omega
        obtain ⟨⟨g1, g1b⟩, ⟨g2, g3, g4⟩, g5, g6⟩ := go_m h rr e' hz2
        have po := IV_po h hz2
        refine hpq ⟨w3, ?_⟩
        rw [← hx]
        exact (go_i g1 g1b g3 g2 po.1 po.2.1).mpr (g6.mp (by rw [mcr_cg (e'.trans es.symm)]; exact w))
      refine gE_mono (m_x_driveTo (IV_MT h2) r2 (IV_NW h2) (IV_WR h2).2 (by omega) (IV_13 h2).2 hz (fun w => (go_m h rr e' (by have := hno.mp w; omega)).2.2.1) (fun w _ => (nox w).elim)) fun o M1 q => ?_
      rcases q with ⟨q1, q2, -⟩ | ⟨q1, q2, -⟩ | ⟨q1, q2, rfl, rfl⟩ | ⟨q1, rfl, rfl⟩
      · exact (nox q2).elim
      · exact (nox q2).elim
      · exact ⟨_, _, rfl, rfl, IV_tw h2 (by omega) (by decide), Or.inr (Or.inl ⟨hno.mp q1, fun w => hpq ⟨hno.mp q1, w⟩, tw_0⟩)⟩
      · exact ⟨_, _, rfl, rfl, IV_tw h2 (by omega) (by decide), Or.inr (Or.inr ⟨(fun w => by rw [hno.mpr w] at q1; cases q1), tw_0⟩)⟩
    · cases e
