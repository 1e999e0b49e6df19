/-! the law's case: the network is written -/
theorem LI_len {f : Int → List Int} {B : Nat} : ∀ n : Nat, (∀ i : Int, 0 ≤ i → i < (n : Int) → (f i).length ≤ B) → (LI f n).length ≤ B * n := by
  intro n
  induction n with
  | zero => intro _; exact Nat.le_refl 0
  | succ n ih =>
    intro h
    have h1 := ih (fun i a b => h i a (by omega))
    have h2 := h (n : Int) (by omega) (by omega)
    show (LI f n ++ f (n : Int)).length ≤ B * (n + 1)
    rw [List.length_append, Nat.mul_succ]
    omega
theorem dg_len {n : Int} : (LI (dg n) 4).length ≤ 4 := LI_len (B := 1) 4 fun i _ _ => by
  unfold dg
  split <;> simp
theorem lg_len {n : Int} : (LI (lg n) 6).length ≤ 6 := LI_len (B := 1) 6 fun i _ _ => by
  unfold lg
  split <;> simp
theorem tl_len : (tl 0).length = 4 ∧ (tl 1).length = 4 ∧ (tl 3).length ≤ 5 ∧ (tl 4).length ≤ 5 ∧ (tl 5).length ≤ 4 ∧ (tl 6).length ≤ 6 ∧ (tl 7).length ≤ 4 ∧ (tl 8).length ≤ 4 ∧ (tl 19).length ≤ 8 := by decide +kernel
theorem wNode_len {nm x y : Int → Int} {n : Int} : (wNode nm x y n).length ≤ 22 := by
  have a := lg_len (n := nm n)
  have b := dg_len (n := x n)
  have d := dg_len (n := y n)
  have t := tl_len
  unfold wNode
  simp only [List.length_append, List.length_cons, List.length_nil]
  omega
theorem wRoad_len {rn nf nt ln cl : Int → Int} {o : Int → Bool} {r : Int} : (wRoad rn nf nt ln cl o r).length ≤ 44 := by
  have a := lg_len (n := rn r)
  have b := lg_len (n := nf r)
  have d := lg_len (n := nt r)
  have e := dg_len (n := ln r)
  have f := dg_len (n := cl r)
  have t := tl_len
  unfold wRoad
  split <;> simp only [List.length_append, List.length_cons, List.length_nil] <;> omega
theorem wSnow_len {rn sn : Int → Int} {r : Int} : (wSnow rn sn r).length ≤ 17 := by
  have a := lg_len (n := rn r)
  have b := dg_len (n := sn r)
  have t := tl_len
  unfold wSnow
  split
  · exact Nat.zero_le _
  · simp only [List.length_append, List.length_cons, List.length_nil]
    omega
theorem wRow_len {v : Int → Int} {n : Nat} : (wRow v n).length ≤ 5 * n + 1 := by
  have a := LI_len (f := fun i => 32 :: LI (dg (v i)) 4) (B := 5) n fun i _ _ => by
    have := dg_len (n := v i)
    simp only [List.length_cons]
    omega
  unfold wRow
  simp only [List.length_append, List.length_cons, List.length_nil]
  omega
theorem wAll_len {N R : Nat} {nm x y rn nf nt ln cl sn tc sr : Int → Int} {o : Int → Bool} {dp cap fall : Int} (hN : N ≤ 10) (hR : R ≤ 12) : (wAll N R nm x y rn nf nt ln cl sn tc sr o dp cap fall).length ≤ 1100 := by
  have a1 := LI_len (f := wNode nm x y) (B := 22) N fun _ _ _ => wNode_len
  have a2 := LI_len (f := wRoad rn nf nt ln cl o) (B := 44) R fun _ _ _ => wRoad_len
  have a3 := LI_len (f := wSnow rn sn) (B := 17) R fun _ _ _ => wSnow_len
  have a4 := wRow_len (v := tc) (n := 4)
  have a5 := wRow_len (v := sr) (n := 3)
  have a6 := lg_len (n := nm dp)
  have a7 := dg_len (n := cap)
  have a8 := dg_len (n := fall)
  have t := tl_len
  unfold wAll
  split <;> simp only [List.length_append, List.length_cons, List.length_nil] <;> omega
theorem ql_RG : ∀ (l : List Int) (m : gC), RG m → 0 ≤ m 500001 25 → m 500001 25 + (l.length : Int) ≤ 1500 → RG (ql l m) := by
  intro l
  induction l with
  | nil => intro m h _ _; exact h
  | cons v r ih =>
    intro m h h0 h1
    rw [List.length_cons] at h1
    have k := mput_ok (v := v) h ⟨h0, by omega⟩
    have k2 := k.2.1
    show RG (ql r (mput m v))
    exact ih _ k.1 (by omega) (by omega)
theorem pl_RG {k : Nat} : ∀ (l : List Int) (m : gC), RG m → BR m k → RG (pl k l m) ∧ BR (pl k l m) k := by
  intro l
  induction l with
  | nil => intro m h h2; exact ⟨h, h2⟩
  | cons v r ih =>
    intro m h h2
    have q := put_ok (v := v) h h2
    exact ih _ q.1 q.2.1
/-- both write the same -/
theorem wrt_e {c : gC} (nn : NN c 100014 c 200000) (hV : NW c 200000) (ms : NMS c 100014 c 200000) (hP : PP c 200000) (h7 : c 100034 7 = c 200000 4) (N R : Nat) (hN : c 200000 0 = (N : Int)) (hR : c 200000 1 = (R : Int)) : wCls c N R = wMod c N R := by
  obtain ⟨⟨⟨a1, a2⟩, a3, a4⟩, a5, a6, a7, a8⟩ := nn
  obtain ⟨m1, m2⟩ := ms
  unfold wCls wMod
  refine wAll_cg (fun n n0 n1 => ?_) (fun r r0 r1 => ?_) (fun i i0 i1 => a7 i i0 i1) (fun i i0 i1 => a8 i i0 i1) (fun n0 => ?_) a4 h7
  · rw [← hN] at n1
    exact ⟨name_l (m1 n n0 n1), (a5 n n0 n1).1, (a5 n n0 n1).2⟩
  · rw [← hR] at r1
    obtain ⟨⟨b1, b2⟩, ⟨b3, b4⟩, ⟨b5, b6⟩, b7, b8⟩ := a6 r r0 r1
    obtain ⟨e1, e2, e3⟩ := m2 r r0 r1
    have hr := hV.2.2.2.2.2 r r0 (by have := hV.1.2; omega)
    refine ⟨⟨name_l e1, ?_, ?_⟩, ⟨b3, b4⟩, ?_, b5⟩
    · try dsimp only
      rw [b1]
      exact name_l (m1 _ (by omega) b7)
    · try dsimp only
      rw [b2]
      exact name_l (m1 _ (by omega) b8)
    · try dsimp only
      rw [b6]
      rcases e3 with e | e
      · rw [e]; rfl
      · rw [e]; rfl
  · rw [a3]
    have hd := hV.2.1.1
    rcases hP.2 with q | q
    · exact name_l (m1 _ (by omega) (by omega))
    · omega
/-- what is written is new -/
theorem IV_ou {n L : Nat} {T : gT} {c c' : gC} (h : IV n L T c) (hn : n ≤ 990) (e : ∀ k : Nat, ¬ k = 100030 → ¬ k = 100031 → ¬ k = 200010 → ¬ k = 500001 → c' k = c k) (e5 : ∀ j, ¬ j = 0 → ¬ j = 25 → c' 500001 j = c 500001 j) (hr : RG c') (hB : BR c' 100030) (h25 : 0 ≤ c' 500001 25 ∧ c' 500001 25 ≤ 1500) (hO : OUT c' c') : IV n L T c' := by
  obtain ⟨⟨G, Lo, R, Z, i⟩, s⟩ := h
  obtain ⟨⟨t, f⟩, ⟨⟨a1, ⟨a2, a3, -⟩, ⟨a4, a5, a6⟩, a7, a8⟩, ⟨b0, b2, b3, b4⟩, b9, b5, b6⟩, ⟨d1, d2, d3⟩, ⟨f1, f2⟩, g1, g2⟩ := i
  have ek : ∀ k : Nat, k < 100030 ∨ (100032 ≤ k ∧ k < 200010) ∨ (200011 ≤ k ∧ k < 500001) ∨ 500002 ≤ k → c' k = c k := fun k hk => e k (by omega) (by omega) (by omega) (by omega)
  refine ⟨⟨G, Lo, R, Z, ⟨TGS_c t (ek _ (by decide)) (fun k hk j => by rw [ek k (by omega)]), f⟩, ⟨⟨hr, ⟨NR_k2 a2 fun k k0 k1 j => by rw [ek k (by omega)], ?_, hB⟩, ⟨SR_o2 a4 (ek _ (by decide)) (ek _ (by decide)), PR_o a5 fun k hk => ek k (by omega), PQ_o a6 (PT_k t.2.2.1).1 fun k hk => ek k (by omega)⟩, fun k hk => ?_, TX_o a8 fun k hk => ek k (by omega)⟩, ⟨⟨hr, ?_, ?_⟩, fun j j0 j1 => ?_, h25, ?_⟩, ?_, hO, ?_⟩, ⟨d1, CCR_o d2 (by rw [ek _ (by decide)]) (ek _ (by decide)) (ek _ (by decide)), CCP_o d3 fun k k0 k1 => ek k (by omega)⟩, ⟨LV_o f1 (fun k k0 k1 j => by rw [ek k (by omega)]) (fun k k0 k1 j => by rw [ek k (by omega)]) (ek _ (by decide)), HS_o f2 (fun k k0 k1 => ek k (by omega)) (ek _ (by decide)) (ek _ (by decide)) (e5 13 (by decide) (by decide))⟩, ?_, g2⟩, s⟩
  · unfold BR; rw [ek 100000 (by decide)]; exact a3
  · rw [ek 100033 (by decide)]; exact a7 k hk
  · rw [e5 15 (by decide) (by decide)]; exact b0.2.1
  · rw [ek 200009 (by decide)]; exact b0.2.2
  · rw [ek 200006 (by decide)]; exact b2 j j0 j1
  · rw [e5 7 (by decide) (by decide)]; exact b4
  · rw [ek 100000 (by decide), ek 100001 (by decide), ek 200009 (by decide), e5 15 (by decide) (by decide)]; exact b9
  · rw [ek 100032 (by decide), e5 21 (by decide) (by decide), e5 22 (by decide) (by decide)]; exact b6
  · rw [ek 500000 (by decide)]; exact g1
theorem IV_wr {n L : Nat} {T : gT} {c : gC} (h : IV n L T c) : LT T c ∧ TX c ∧ BR c 100030 := by
  obtain ⟨⟨G, Lo, R, Z, ⟨⟨-, -, -, a, -⟩, -⟩, ⟨⟨-, ⟨-, -, b⟩, -, -, d⟩, -⟩, -⟩, -⟩ := h
  exact ⟨a, d, b⟩
set_option maxHeartbeats 1000000 in
theorem op_50 {L : Nat} : OPC L 2613 := by
  intro n T c J i u5 u6 Q hn h hL hi hu hv hend
  have rg := IV_RG h
  have nn := IV_NN h
  have hV := IV_NW h
  have hP := (IV_SW h).2.2.1
  have vv := (IV_SW h).2.1
  obtain ⟨hLT, hTX, hBR⟩ := IV_wr h
  obtain ⟨G, Lo, lv⟩ := IV_LV h
  obtain ⟨⟨-, ms⟩, ⟨⟨q4, -⟩, nd⟩, -⟩ := lv
  have a1 : c 100014 1 = c 200000 0 := nn.1.1.1
  have a2 : c 100014 2 = c 200000 1 := nn.1.1.2
  have a3 : c 100014 3 = c 200000 2 := nn.1.2.1
  have a4 : c 100014 4 = c 200000 3 := nn.1.2.2
  have a7 : c 100034 7 = c 200000 4 := vv.1.2.2.2
  have v0 := hV.1
  have v3 := hV.2.1
  obtain ⟨N, hN⟩ : ∃ N : Nat, c 200000 0 = (N : Int) := ⟨(c 200000 0).toNat, by omega⟩
  obtain ⟨R, hR⟩ : ∃ R : Nat, c 200000 1 = (R : Int) := ⟨(c 200000 1).toNat, by omega⟩
  have hdp : 0 < N → 0 ≤ c 100014 3 ∧ c 100014 3 < c 100014 1 := fun w => by
    rcases hP.2 with q | q <;> omega
  have hft : ∀ r : Int, 0 ≤ r → r < (R : Int) → (0 ≤ c (100014 + 5) r ∧ c (100014 + 5) r < c 100014 1) ∧ 0 ≤ c (100014 + 6) r ∧ c (100014 + 6) r < c 100014 1 := fun r r0 r1 => by
    obtain ⟨⟨b1, b2⟩, -, -, b7, b8⟩ := nn.2.2.1 r r0 (by omega)
    have hr := hV.2.2.2.2.2 r r0 (by omega)
    rw [b1, b2, a1]
    omega
  have hM : NMc c 100014 := ⟨fun k k0 k1 => by
    have := (NMR_rg (ms.1 k k0 (by omega))).1
    omega, fun k k0 k1 => by
    have := (NMR_rg (ms.2 k k0 (by omega)).1).1
    omega⟩
  have hsn : ∀ k : Int, 0 ≤ k → k < c 100014 2 → 0 ≤ c (100014 + 9) k := fun k k0 k1 => by
    rw [(nn.2.2.1 k k0 (by omega)).2.2.1.1]
    exact (ms.2 k k0 (by omega)).2.1.1
  have wl := wnt_l hTX N R (by omega) (by omega) hdp hft
  have ew := wrt_e nn hV ms hP a7 N R hN hR
  have len := wAll_len (N := N) (R := R) (nm := fun n => c 200000 (22 + 3 * n)) (x := fun n => c 200000 (22 + 3 * n + 1)) (y := fun n => c 200000 (22 + 3 * n + 2)) (rn := fun r => c 200000 (52 + 7 * r)) (nf := fun r => c 200000 (22 + 3 * c 200000 (52 + 7 * r + 1))) (nt := fun r => c 200000 (22 + 3 * c 200000 (52 + 7 * r + 2))) (ln := fun r => c 200000 (52 + 7 * r + 3)) (cl := fun r => c 200000 (52 + 7 * r + 4)) (sn := fun r => c 200000 (52 + 7 * r + 6)) (tc := fun i => c 200000 (11 + i)) (sr := fun i => c 200000 (15 + i)) (o := fun r => decide (c 200000 (52 + 7 * r + 5) = 1)) (dp := c 200000 2) (cap := c 200000 3) (fall := c 200000 4) (by omega) (by omega)
  have len2 : (wMod c N R).length ≤ 1100 := len
  have r0 : RG (gu c 100030 1 0) := RG_gu rg (by decide)
  have b0 : BR (gu c 100030 1 0) 100030 := by unfold BR; rw [gu_s]; omega
  have PLR := pl_RG (k := 100030) (wMod c N R) (gu c 100030 1 0) r0 b0
  have fp := FRp_pl (k := 100030) (c := c) (wMod c N R) (gu c 100030 1 0) (fun x h1 h2 => funext fun j => gu_k h1)
  rw [ew] at wl
  generalize hX : wnt c = X at *
  rw [← wl] at PLR fp
  have ex : ∀ k : Nat, ¬ k = 100030 → ¬ k = 100031 → X k = c k := fun k h1 h2 => fp k h1 h2
  have e2 : X 200000 = c 200000 := ex _ (by decide) (by decide)
  have hTX2 : TX X := TX_o hTX fun k hk => ex k (by omega) (by omega)
  have ml := mwN_l hTX2 N R (by rw [e2]; exact hN) (by rw [e2]; exact hR)
  have em : wMod X N R = wMod c N R := by unfold wMod; rw [e2]
  rw [em] at ml
  have y0 : RG (mwN0 X) := RG_gu (tw_RG PLR.1 (by decide)) (by decide)
  have y25 : mwN0 X 500001 25 = 0 := gu_s
  have ym : ∀ k : Nat, ¬ k = 500001 → mwN0 X k = X k := fun k hk => funext fun j => by
    unfold mwN0
    rw [gu_k hk, tw_k hk]
  have fq := FRq_ql (c := mwN0 X) (wMod c N R) (mwN0 X) FRq_rf
  have qr := ql_RG (wMod c N R) (mwN0 X) y0 (by rw [y25]; decide) (by rw [y25]; omega)
  have ql25 := ql_25 (wMod c N R) (mwN0 X)
  have out := OUT_pl (wMod c N R) (gu c 100030 1 0) (mwN0 X) ⟨by rw [gu_s, y25], by rw [gu_s]; decide, fun j j0 j1 => by rw [gu_s] at j1; omega⟩ (by rw [gu_s]; omega)
  rw [← wl, ← ml] at out
  rw [← ml] at fq qr ql25
  rw [y25] at ql25
  have zk : ∀ k : Nat, ¬ k = 500001 → ¬ k = 200010 → mwN X k = X k := fun k k0 k1 => (fq.1 k k0 k1).trans (ym k k0)
  have z5 : ∀ j, ¬ j = 0 → ¬ j = 25 → mwN X 500001 j = c 500001 j := fun j j0 j1 => by
    rw [fq.2 j j1]
    unfold mwN0 tw
    rw [gu_j j1, gu_j j0, ex _ (by decide) (by decide)]
  have z0 : mwN X 500001 0 = 0 := by
    rw [fq.2 0 (by decide)]
    unfold mwN0
    rw [gu_j (by decide)]
    exact tw_0
  have oo : OUT (mwN X) (mwN X) := by
    unfold OUT at out ⊢
    rw [zk 100030 (by decide) (by decide), zk 100031 (by decide) (by decide)]
    exact out
  have i2 : IV n L T (mwN X) := IV_ou h (by omega) (fun k k0 k1 k2 k3 => (zk k k3 k2).trans (ex k k0 k1)) z5 qr (by
    have := PLR.2
    unfold BR at this ⊢
    rw [zk 100030 (by decide) (by decide)]
    exact this) (by rw [ql25]; omega) oo
  refine lc_50 (HW := 7) (HM := 6) (R := fun v T1 c1 J1 => v = X 100030 1 ∧ T1 = T ∧ c1 = X ∧ J1 = J) (E := fun T c _ => IV (n + 1) L T c) (by omega) (by omega) hu hv (gE_mono (c_x_writeB (IV_XT h) (IV_NT h) (IV_WT h).1 (IV_CT h).2.1 hLT rg (IV_NR h) hM (by omega) hsn (by omega)) fun o M1 q => ?_) (fun v T1 c1 J1 hR2 => ?_) (fun z T2 c2 J2 k b q hk hb => hend T2 c2 J2 k b q.2.2.2 hk hb)
  · rw [hX] at q
    obtain ⟨rfl, rfl⟩ := q
    exact ⟨_, _, _, _, rfl, rfl, rfl, rfl, rfl, rfl⟩
  · obtain ⟨ev, eT, ec, eJ⟩ := hR2
    rw [ev, eT, ec, eJ]
    refine ⟨PLR.1 _ _, gE_mono (m_x_writeNetwork (IV_MT h) PLR.1 (LT_of hLT (fun _ _ => rfl) (fun k hk j => by rw [ex k (by omega) (by omega)])) ⟨NW_of hV e2, ?_, by rw [e2]; exact q4, fun w => ?_⟩) fun o M1 q => ?_⟩
    · unfold ND
      rw [e2]
      exact ⟨fun k k0 k1 => nd.1 k k0 k1, fun r r0 r1 => nd.2 r r0 r1⟩
    · rw [e2] at w ⊢
      have := hdp (by omega)
      omega
    · obtain ⟨rfl, rfl⟩ := q
      exact ⟨0, _, _, _, by rw [out.1], rfl, ⟨IV_MT h, qr⟩, z0, IV_out h, IV_up i2 (by omega)⟩
