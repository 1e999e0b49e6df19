/-! the class's plans between the calls -/
theorem cho_k {c : gC} {R : Nat} {p : Int} : ∀ k : Nat, ¬ k = 100048 → cho c R p k = c k := by
  unfold cho chx
  exact itI_inv (fun x : Int × Int × gC => ∀ k : Nat, ¬ k = 100048 → x.2.2 k = c k) (fun _ _ => rfl) (fun j s hs k hk => by
    unfold chs
    dsimp only
    rw [← hs k hk]
    exact funext fun j => gu_k hk) _
theorem slw_pl {F : gC} {R : Nat} {z K C q : Int} {O : Nat → Int} (hz : 1 ≤ z ∧ z ≤ 3) (h8 : F 100044 8 = q) (hq : 0 ≤ q ∧ q ≤ 12) (hK : K = cv C) (hC : C < 1000000000 → 0 ≤ C ∧ C ≤ 384300) (hO : C < 1000000000 → ∀ (p : Int) (i : Nat), (i : Int) < q → cho F R p 100048 (p + (i : Int)) = O i) (hO2 : ∀ p j, (j < p ∨ p + q ≤ j) → cho F R p 100048 j = F 100048 j) : ((C < 1000000000 → slw F R z K 100047 (z - 1) = C ∧ slw F R z K 100046 (z - 1) = q ∧ ∀ i : Nat, (i : Int) < q → slw F R z K 100048 ((z - 1) * 12 + (i : Int)) = O i) ∧ (¬ C < 1000000000 → slw F R z K 100047 (z - 1) = -1 ∧ slw F R z K 100046 (z - 1) = 0)) ∧ slw F R z K 100045 (z - 1) = F 100014 0 ∧ ∀ y, 1 ≤ y → y ≤ 3 → ¬ y = z → (slw F R z K 100045 (y - 1) = F 100045 (y - 1) ∧ slw F R z K 100046 (y - 1) = F 100046 (y - 1) ∧ slw F R z K 100047 (y - 1) = F 100047 (y - 1)) ∧ ∀ i, 0 ≤ i → i < 12 → slw F R z K 100048 ((y - 1) * 12 + i) = F 100048 ((y - 1) * 12 + i) := by
  by_cases hx : C < 1000000000
  · have e : K = C := by rw [hK]; exact if_pos hx
    have hc := hC hx
    rw [slw_t (by omega)]
    refine ⟨⟨fun _ => ⟨?_, ?_, fun i hi => ?_⟩, fun w => absurd hx w⟩, ?_, fun y y0 y1 yz => ⟨⟨?_, ?_, ?_⟩, fun i i0 i1 => ?_⟩⟩
    · rw [gu_k (by decide), gu_k (by decide), gu_s, if_neg (by omega), e]
    · rw [gu_k (by decide), gu_s, h8]
    · rw [gu_k (by decide), gu_k (by decide), gu_k (by decide)]
      exact hO hx _ i hi
    · rw [gu_s]
    · rw [gu_j (by omega), gu_k (by decide), gu_k (by decide), cho_k _ (by decide)]
    · rw [gu_k (by decide), gu_j (by omega), gu_k (by decide), cho_k _ (by decide)]
    · rw [gu_k (by decide), gu_k (by decide), gu_j (by omega), cho_k _ (by decide)]
    · rw [gu_k (by decide), gu_k (by decide), gu_k (by decide)]
      exact hO2 _ _ (by omega)
  · have e : K = 100000000 := by rw [hK]; exact if_neg hx
    rw [slw_f (by omega)]
    refine ⟨⟨fun w => absurd w hx, fun _ => ⟨?_, ?_⟩⟩, ?_, fun y y0 y1 yz => ⟨⟨?_, ?_, ?_⟩, fun i i0 i1 => ?_⟩⟩
    · rw [gu_k (by decide), gu_k (by decide), gu_s, if_pos (by omega)]
    · rw [gu_k (by decide), gu_s]
    · rw [gu_s]
    · rw [gu_j (by omega), gu_k (by decide), gu_k (by decide)]
    · rw [gu_k (by decide), gu_j (by omega), gu_k (by decide)]
    · rw [gu_k (by decide), gu_k (by decide), gu_j (by omega)]
    · rw [gu_k (by decide), gu_k (by decide), gu_k (by decide)]
theorem PLN_o {g c c' : gC} {z : Int} (h : PLN g c z) (e6 : c' 100046 (z - 1) = c 100046 (z - 1)) (e7 : c' 100047 (z - 1) = c 100047 (z - 1)) (e8 : ∀ i, 0 ≤ i → i < 12 → c' 100048 ((z - 1) * 12 + i) = c 100048 ((z - 1) * 12 + i)) : PLN g c' z := by
  refine ⟨h.1, fun q => ?_, fun q => ?_⟩
  · rw [e6, e7]
    have := h.2.1 q
    have h1 := h.1
    exact ⟨this.1, this.2.1, fun i hi => by rw [e8 _ (by omega) (by omega)]; exact this.2.2 i hi⟩
  · rw [e6, e7]
    exact h.2.2 q
theorem PLN_B {g g' c : gC} {z : Int} (h : PLN g c z) (hr : RG g) (hV : NW g 200000) (hr' : RG g') (hV' : NW g' 200000) (hL : L1 g 200000) (hB : NB g 200000 g' 200000) : PLN g' c z := by
  obtain ⟨f1, f2, f3⟩ := mll_FM hr hV (by decide)
  obtain ⟨f1', f2', f3'⟩ := mll_FM hr' hV' (by decide)
  have nb : NB (mll g 200000) 200000 (mll g' 200000) 200000 := fun j hj => by rw [f3, f3']; exact hB j hj
  have q1 := (q_B nb f2 f2' f1 f1' z).1
  obtain ⟨c1, c2⟩ := qC_B nb f2 f2' f1 f1' (mll_ok hr hV).2 (L1_o f3 hL) h.1
  refine ⟨by rw [← q1]; exact h.1, fun q => ?_, fun q => ?_⟩
  · rw [← c1] at q
    obtain ⟨a1, a2, a3⟩ := h.2.1 q
    exact ⟨by rw [← c1]; exact a1, by rw [← q1]; exact a2, fun i hi => by rw [← q1] at hi; rw [← c2 q i hi]; exact a3 i hi⟩
  · rw [← c1] at q
    exact h.2.2 q
theorem shl_lt : ∀ a : Nat, a < 13 → ∀ b : Nat, b < 13 → zshl 1 (b : Int) * (b : Int) = ((2 ^ b * b : Nat) : Int) ∧ (2 ^ a * a < 2 ^ b * b → a < b) := by decide +kernel
theorem nT_2 {T : gT} {n : Nat} : ((nT T n).2.1 3 = T.2.1 3 ∧ (nT T n).2.1 7 = T.2.1 7 ∧ (nT T n).2.1 4 = T.2.1 4 + 1) ∧ (nT T n).2.2.1 = T.2.2.1 + 1 ∧ (nT T n).2.2.2 = T.2.2.2 + n := ⟨⟨rfl, rfl, rfl⟩, rfl, rfl⟩
theorem sc1_v {c d : gC} {z : Int} (hb : mll c 200000 200000 = c 200000) (hNd : NN d 100014 c 200000) (hV : NW c 200000) (hK : qK (mll c 200000) 200000 z ≤ 12) : sc1 d z 100044 8 = qK (mll c 200000) 200000 z ∧ (∀ j, 0 ≤ j → j < qK (mll c 200000) 200000 z → sc1 d z 100049 j = nb (mrq (mll c 200000) 200000 z) j ∧ sc1 d z 100050 j = cfr d (24 + d 100014 3) (nb (mrq (mll c 200000) 200000 z) j)) ∧ PF d (sc1 d z) := by
  have e : sc1 d z = itI (cif d (mrq (mll c 200000) 200000 z)) (gu d 100044 8 0) 24 := by
    unfold sc1 col
    rw [req_e (NN_b hNd hb) (NW_of hV hb)]
  rw [e]
  exact col_v hK (by decide) (by decide)
theorem sl_new {c d B : gC} {z : Int} {R' : Nat} (tt : TT2 c d (mll c 200000) 200000) (hb : mll c 200000 200000 = c 200000) (hL : LR (mll c 200000)) (hNd : NN d 100014 c 200000) (hP : PP c 200000) (hz : 1 ≤ z ∧ z ≤ 3) (hK : qK (mll c 200000) 200000 z ≤ 12) (hR : R' = 100051 ∨ 400000 ≤ R' ∧ R' < 500000) (hB : ∀ k : Nat, ¬ k = R' → B k = sc1 d z k) : PLN c (slw (fil B R') R' z (slk (fil B R') R')) z ∧ slw (fil B R') R' z (slk (fil B R') R') 100045 (z - 1) = d 100014 0 ∧ ∀ y, 1 ≤ y → y ≤ 3 → ¬ y = z → (slw (fil B R') R' z (slk (fil B R') R') 100045 (y - 1) = d 100045 (y - 1) ∧ slw (fil B R') R' z (slk (fil B R') R') 100046 (y - 1) = d 100046 (y - 1) ∧ slw (fil B R') R' z (slk (fil B R') R') 100047 (y - 1) = d 100047 (y - 1)) ∧ ∀ i, 0 ≤ i → i < 12 → slw (fil B R') R' z (slk (fil B R') R') 100048 ((y - 1) * 12 + i) = d 100048 ((y - 1) * 12 + i) := by
  have hV := tt.nw
  obtain ⟨f1, f2, f3⟩ := tt.fM hb
  have hPH := q_PHY f2 f1 hL f3 hK
  have hK0 := hPH.1.1
  obtain ⟨s8, sA, sP⟩ := sc1_v hb hNd hV hK
  have k3 : d 100014 3 = mll c 200000 200000 2 := by rw [hb]; exact hNd.1.2.1
  have hD : 0 < qK (mll c 200000) 200000 z → 0 ≤ mll c 200000 200000 2 ∧ mll c 200000 200000 2 < 10 := fun q => by
    obtain ⟨a1, a2, -⟩ := nb_sp (q := mrq (mll c 200000) 200000 z) (j := 0) (by decide) q
    have a3 := (NN_e (NN_b tt.nn hb) f2 (tb_req a1 a2).1).1
    rw [hb] at a3 ⊢
    have := hV.1.1
    rcases hP.2 with w | w <;> omega
  have eB : ∀ k : Nat, ¬ k = R' → ¬ k = 100044 → ¬ k = 100049 → ¬ k = 100050 → B k = d k := fun k h1 h2 h3 h4 => (hB k h1).trans (funext fun j => sP k h2 h3 h4 j)
  have b44 : B 100044 = sc1 d z 100044 := hB _ (by omega)
  have fr := (fil_rec (c := B) hR (by rw [b44, s8]; exact hK0)).1
  have eF : ∀ k : Nat, ¬ k = R' → ¬ k = 100044 → ¬ k = 100049 → ¬ k = 100050 → fil B R' k = d k := fun k h1 h2 h3 h4 => (funext fun j => fr k h1 j).trans (eB k h1 h2 h3 h4)
  obtain ⟨p1, p2, p3⟩ := cls_plan tt hb hL hK hD (S := B) hR (by rw [b44]; exact s8) (fun j j0 j1 => by rw [hB 100049 (by omega), hB 100050 (by omega), ← k3]; exact sA j j0 j1) (fun j => by rw [eB 100028 (by omega) (by decide) (by decide) (by decide)]) (by rw [eB 100014 (by omega) (by decide) (by decide) (by decide)]; exact k3)
  have rg := PCO_rg hPH
  have W := slw_pl (F := fil B R') (R := R') (z := z) (K := slk (fil B R') R') (C := qC (mll c 200000) 200000 z) (q := qK (mll c 200000) 200000 z) (O := fun i => qO (mll c 200000) 200000 z i) hz (by rw [fr 100044 (by omega), b44]; exact s8) hK0 p1 (fun q => ⟨rg.1.1, rg.2 q⟩) p2 (fun p j hj => by rw [fr 100048 (by omega)]; exact p3 p j hj)
  refine ⟨⟨hK, W.1.1, W.1.2⟩, ?_, fun y y0 y1 yz => ?_⟩
  · rw [W.2.1, eF 100014 (by omega) (by decide) (by decide) (by decide)]
  · have := W.2.2 y y0 y1 yz
    rw [eF 100045 (by omega) (by decide) (by decide) (by decide), eF 100046 (by omega) (by decide) (by decide) (by decide), eF 100047 (by omega) (by decide) (by decide) (by decide), eF 100048 (by omega) (by decide) (by decide) (by decide)] at this
    exact this
set_option maxHeartbeats 1000000 in
theorem IV_sl {n L : Nat} {T : gT} {c J : gC} (h : IV n L T c) (hn : n < 900) : ∃ R Z, (PT T R Z ∧ PR c ∧ PQ c R Z ∧ T.2.1 4 < 100000 ∧ (T.1 (4 * 100000 + T.2.1 4)).1 = 0) ∧ ∀ z T1 c1 J1 R1 Z1, (1 ≤ z ∧ z ≤ 3) → qK (mll c 200000) 200000 z ≤ 12 → slR T (rfr c) J R Z z T1 c1 J1 R1 Z1 → IV n L T1 c1 ∧ PLN c c1 z ∧ (∀ k : Nat, ¬ (100044 ≤ k ∧ k ≤ 100051) → ¬ (400000 ≤ k ∧ k < 500000) → c1 k = rfr c k) ∧ T1.2.1 7 = T.2.1 7 ∧ ∀ k : Nat, k < 400000 ∨ 500000 ≤ k → ¬ k = 100044 → T1.1 k = T.1 k := by
  have rg := IV_RG h
  have hV := IV_NW h
  have hNc := IV_NN h
  have hP := (IV_SW h).2.2.1
  have h' := IV_rfr h (by omega)
  have ok := rfr_ok rg (IV_SR h) (IV_NR h)
  have er : ∀ k : Nat, ¬ (100026 ≤ k ∧ k < 100029) → rfr c k = c k := fun k hk => funext fun j => ok.2.2 k (by omega) (by omega) (by omega) j
  have es : rfr c 200000 = c 200000 := er _ (by decide)
  have hb : mll c 200000 200000 = c 200000 := (mll_FM rg hV (by decide)).2.2
  have hL := (mll_ok rg hV).2
  have tt : TT2 c (rfr c) (mll c 200000) 200000 := ⟨hNc, hV, IV_TBL h, mll_FW hV, CL1_L (IV_SW h).2.2.2⟩
  have hNd : NN (rfr c) 100014 c 200000 := NN_b (IV_NN h') es.symm
  generalize hd : rfr c = d at *
  obtain ⟨⟨G, Lo, R, Z, i⟩, s⟩ := h'
  have i0 := i
  obtain ⟨⟨t, f⟩, ⟨⟨a1, -, ⟨a3, a4, a5⟩, -, -⟩, ⟨-, b2, -, b4⟩, -⟩, ⟨d1, d2, d3⟩, ⟨⟨-, -, -, ⟨f1, f2⟩, s0, s1⟩, -⟩, -⟩ := i
  obtain ⟨t1, t2, t3, t4, t5⟩ := t
  have hk := (PT_k t3).1
  have ft := f
  obtain ⟨⟨g1, g2⟩, g3, ⟨q, g4, g5⟩, g6, g7⟩ := ft
  have hf : T.2.1 4 < 100000 := by omega
  refine ⟨R, Z, ⟨t3, PR_o a4 fun k hk => (er k (by omega)).symm, PQ_o a5 hk fun k hk => (er k (by omega)).symm, hf, g3 _ (by omega) (by omega)⟩, fun z T1 c1 J1 R1 Z1 hz hK hs => ?_⟩
  have sok := slR_ok t3 a1 a3 a4 a5 hf hs
  obtain ⟨o1, o2, o3, o4, o5, o6⟩ := sok
  have eK : ∀ k : Nat, ¬ (100044 ≤ k ∧ k ≤ 100051) → ¬ (400000 ≤ k ∧ k < 500000) → c1 k = d k := fun k h1 h2 => funext fun j => o6 k h1 h2 j
  have gg := d1 _ s0 s1
  have nbG : NB c 200000 (G (d 100014 0)) 200000 := fun j hj => by rw [← es]; exact f2 j hj
  -- what is kept of it
  have key : PLN c c1 z ∧ CCP G Lo c1 ∧ ((T1.2.1 3 = T.2.1 3 ∧ T1.2.1 7 = T.2.1 7) ∧ FRE n Z1 T1) := by
    have hnew : ∀ (B : gC) (R' : Nat), (R' = 100051 ∨ 400000 ≤ R' ∧ R' < 500000) → (∀ k : Nat, ¬ k = R' → B k = sc1 d z k) → c1 = slw (fil B R') R' z (slk (fil B R') R') → PLN c c1 z ∧ CCP G Lo c1 := fun B R' hR' hB hc1 => by
      obtain ⟨w1, w2, w3⟩ := sl_new tt hb hL hNd hP hz hK hR' hB
      rw [← hc1] at w1 w2 w3
      refine ⟨w1, fun y y0 y1 => ?_⟩
      by_cases yz : y = z
      · subst yz
        rw [w2]
        exact ⟨Or.inr ⟨s0, s1⟩, fun _ => PLN_B w1 rg hV gg.2.1.2 gg.2.1.1 tt.l1 nbG⟩
      · obtain ⟨⟨x1, x2, x3⟩, x4⟩ := w3 y y0 y1 yz
        rw [x1]
        have := d3 y y0 y1
        exact ⟨this.1, fun q => PLN_o (this.2 q) x2 x3 x4⟩
    rcases hs with ⟨hq, rfl, rfl, -, -, rfl⟩ | ⟨⟨-, hq⟩, ⟨hq1, rfl, rfl, -, -, rfl⟩ | ⟨hq1, rfl, rfl, -, -, rfl⟩⟩
    · have hq2 := hq.resolve_left (fun w => w hz)
      have x := (d3 z hz.1 hz.2).2 (by rw [hq2]; exact s0)
      rw [hq2] at x
      exact ⟨PLN_B x gg.2.1.2 gg.2.1.1 rg hV (L1_B nbG hV tt.l1) (NB_sy nbG), d3, ⟨rfl, rfl⟩, f⟩
    · have x := hnew (sc1 d z) R hk (fun _ _ => rfl) rfl
      exact ⟨x.1, x.2, ⟨rfl, rfl⟩, f⟩
    · have hN4 : 4 * 100000 + T.2.1 4 < 500000 := by omega
      have x := hnew (gz (sc1 d z) (4 * 100000 + T.2.1 4)) (4 * 100000 + T.2.1 4) (Or.inr ⟨by omega, hN4⟩) (fun k hk => funext fun j => gz_k hk) rfl
      obtain ⟨v8, -, -⟩ := sc1_v hb hNd hV hK
      have kr := cnt_rg (f := tb (mrq (mll c 200000) 200000 z)) (n := 24) (by decide)
      obtain ⟨m, hm⟩ : ∃ m : Nat, qK (mll c 200000) 200000 z = (m : Int) := ⟨(qK (mll c 200000) 200000 z).toNat, by unfold qK at hK ⊢; omega⟩
      rw [hm] at v8 hK
      rw [v8] at hq1 ⊢
      have sl := shl_lt q (by omega) m (by omega)
      rw [sl.1] at hq1 ⊢
      have qm : q < m := sl.2 (by omega)
      have m12 : m ≤ 12 := by omega
      have mm := (shl_12 m m12).2.2.2
      rw [sl.1] at mm
      obtain ⟨⟨n3, n7, n4⟩, n1, n2⟩ := nT_2 (T := T) (n := ((2 ^ m * m : Nat) : Int).toNat)
      refine ⟨x.1, x.2, ⟨n3, n7⟩, ⟨fun k k0 k1 => ?_, by rw [n7]; exact g2⟩, fun k k0 k1 => ?_, ⟨m, ⟨m12, by rw [n4]; omega⟩, by rw [Int.toNat_natCast]; exact Nat.le_refl _⟩, ?_, ?_⟩
      · rw [n7] at k0
        rw [nT_k (by omega) (by omega)]
        exact g1 k k0 k1
      · rw [n4] at k0
        rw [nT_k (by omega) (by omega)]
        exact g3 k (by omega) k1
      · rw [n1, n3, n4]; omega
      · rw [n2, n3, n4, Int.toNat_natCast]; omega
  obtain ⟨k1, k2, ⟨k3, k7⟩, k4⟩ := key
  obtain ⟨m, g'⟩ := t5
  have hH : HRm T1 c1 m := HRm_of g' (fun k hk => o2 k (by omega) (by omega)) k3 (eK _ (by decide) (by decide))
  have tg : TGS R1 Z1 T1 c1 := by
    refine ⟨⟨XT_of t1.1 (o2 _ (by decide) (by decide)), CT_of t1.2.1 (fun k k0 k1 => o2 k (by omega) (by omega)) hH.1, MT_of t1.2.2 (fun k k0 k1 => o2 k (by omega) (by omega)) (o2 _ (by decide) (by decide))⟩, ?_, o1, LT_of t4 (fun k hk => o2 k (by omega) (by omega)) (fun k hk j => by rw [eK k (by omega) (by omega)]), m, hH⟩
    rw [o2 500002 (by decide) (by decide)]
    exact t2
  refine ⟨⟨⟨G, Lo, R1, Z1, INV_k i0 ⟨fun k hk => eK k (by omega) (by omega), by rw [eK _ (by decide) (by decide)], fun j _ _ _ => by rw [eK _ (by decide) (by decide)]⟩ o3 (SR_o2 a3 (eK _ (by decide) (by decide)) (eK _ (by decide) (by decide))) o4 o5 (fun j j0 j1 => by rw [eK _ (by decide) (by decide)]; exact b2 j j0 j1) (by rw [eK _ (by decide) (by decide)]; exact b4) (CCR_o d2 (by rw [eK _ (by decide) (by decide)]) (eK _ (by decide) (by decide)) (eK _ (by decide) (by decide))) k2 tg k4 (Nat.le_refl _) (by omega)⟩, ?_⟩, k1, eK, k7, o2⟩
  rw [o2 800000 (by decide) (by decide)]
  exact s
