/-! trips to a node -/
theorem NN_NB {c c' m m' : gC} {n b b' : Nat} (h : NN c n m b) (hV : NW m b) (h1 : NF c c' n) (h2 : NB m' b' m b) : NN c' n m' b' := by
  obtain ⟨⟨⟨a1, a2⟩, a3, a4⟩, a5, a6, a7, a8⟩ := h
  obtain ⟨⟨p1, p2⟩, -⟩ := hV
  have n0 := h1 n (by omega) (by omega)
  have n2 := h1 (n + 2) (by omega) (by omega)
  have n3 := h1 (n + 3) (by omega) (by omega)
  have n5 := h1 (n + 5) (by omega) (by omega)
  have n6 := h1 (n + 6) (by omega) (by omega)
  have n7 := h1 (n + 7) (by omega) (by omega)
  have n8 := h1 (n + 8) (by omega) (by omega)
  have n9 := h1 (n + 9) (by omega) (by omega)
  have n10 := h1 (n + 10) (by omega) (by omega)
  have n11 := h1 (n + 11) (by omega) (by omega)
  have e0 := h2 0 (by omega)
  have e1 := h2 1 (by omega)
  have e2 := h2 2 (by omega)
  have e3 := h2 3 (by omega)
  refine ⟨⟨⟨?_, ?_⟩, ?_, ?_⟩, fun x x0 x1 => ?_, fun r r0 r1 => ?_, fun i i0 i1 => ?_, fun i i0 i1 => ?_⟩
  · rw [n0, e0]; exact a1
  · rw [n0, e1]; exact a2
  · rw [n0, e2]; exact a3
  · rw [n0, e3]; exact a4
  · rw [e0] at x1
    rw [n2, n3, h2 _ (by omega), h2 _ (by omega)]
    exact a5 x x0 x1
  · rw [e1] at r1
    obtain ⟨⟨b1, b2⟩, ⟨b3, b4⟩, ⟨b5, b6⟩, b7, b8⟩ := a6 r r0 r1
    refine ⟨⟨?_, ?_⟩, ⟨?_, ?_⟩, ⟨?_, ?_⟩, ?_, ?_⟩
    · rw [n5, h2 _ (by omega)]; exact b1
    · rw [n6, h2 _ (by omega)]; exact b2
    · rw [n7, h2 _ (by omega)]; exact b3
    · rw [n8, h2 _ (by omega)]; exact b4
    · rw [n9, h2 _ (by omega)]; exact b5
    · rw [n0, h2 (52 + 7 * r + 5) (by omega)]; exact b6
    · rw [e0, h2 _ (by omega)]; exact b7
    · rw [e0, h2 _ (by omega)]; exact b8
  · rw [n10, h2 _ (by omega)]; exact a7 i i0 i1
  · rw [n11, h2 _ (by omega)]; exact a8 i i0 i1
section
variable {M G : gC} {b b' : Nat}
theorem mini_B (h : NB M b G b') (hV : NW M b) {x y : Int} (hx : I24 x) (hy : I24 y) : mini M b x y = mini G b' x y := by
  unfold mini
  rw [mhA_B h hV, mhA_B h hV, mfo_B h hV hx, mct_B h hV hx hy, mln_B h hy]
theorem FWk_B {c M' : gC} (h : FWk c b 24 M) (hV : NW c b) (hB : NB c b G b') (e : M' 200003 = M 200003) : FWk G b' 24 M' := by
  have et : ∀ x y, tE M' x y = tE M x y := fun x y => by unfold tE; rw [e]
  refine ⟨fun x y hx hy => by rw [et]; exact h.1 x y hx hy, fun x y f hx hy f0 f1 => by rw [et, et, et]; exact h.2.1 x y f hx hy f0 f1, fun x y hx hy => by rw [et, ← mini_B hB hV hx hy]; exact h.2.2.1 x y hx hy, fun x y hx hy q => ?_⟩
  rw [et] at q ⊢
  exact WLK_B hB hV (h.2.2.2 x y hx hy q)
theorem mcfn_B (h : NB M b G b') (hV : NW M b) (hV' : NW G b') (w : FWk M b 24 M) (w' : FWk G b' 24 G) {n t : Int} (ht : 0 ≤ t) : mcf M b n (-1) (24 + t) = mcf G b' n (-1) (24 + t) := by
  unfold mcf
  refine itI_congr fun e e0 e1 => funext fun s => ?_
  unfold mff
  rw [← mhA_B h hV, ← mbg_B h (show I24 e from ⟨e0, e1⟩)]
  by_cases q : mhA M b e = true ∧ mbg M b e = n
  · rw [if_pos q, if_pos q]
    unfold mlt mnc
    rw [if_neg (show ¬ 24 + t < 24 by omega), if_neg (show ¬ 24 + t < 24 by omega), mtn_B h hV hV' w w' q.1, mln_B h (show I24 e from ⟨e0, e1⟩)]
    simp
  · rw [if_neg q, if_neg q]
end
def ccb (c M : gC) (b : Nat) : gC := fun k => if k = b then M b else c k
theorem ccb_b {c M : gC} {b : Nat} : ccb c M b b = M b := if_pos rfl
theorem ccb_k {c M : gC} {b k : Nat} (h : ¬ k = b) : ccb c M b k = c k := if_neg h
theorem TT2_mk {c mm M0 X M : gC} {b : Nat} (h : TT2 c mm M0 200000) (hb : 200000 ≤ b) (hX : NF mm X 100014) (e27 : X 100027 = mm 100027) (e28 : X 100028 = mm 100028) (e3 : M 200003 = M0 200003) (hB : NB c 200000 M b) (hV : NW M b) : TT2 (ccb c M b) X M b := by
  have hBc : NB c 200000 (ccb c M b) b := fun j hj => by rw [ccb_b]; exact hB j hj
  have nfc : NF c (ccb c M b) 100014 := fun k k0 k1 j => by rw [ccb_k (by omega)]
  have hVc : NW (ccb c M b) b := NW_of hV ccb_b
  obtain ⟨⟨s1, s2⟩, s3⟩ := h.tb
  have nfx : NF (ccb c M b) X 100014 := fun k k0 k1 j => by rw [hX k k0 k1, s1 k k0 k1, nfc k k0 k1]
  refine ⟨NN_NB h.nn h.nw nfc (NB_sy hBc), hVc, ⟨⟨nfx, fun p t hp ht => ?_⟩, fun s hs => ⟨fun q => ?_, fun q => ?_⟩⟩, FWk_B h.fw h.nw hBc e3, L1_B hBc h.nw h.l1⟩
  · rw [show sE X p t = sE mm p t by unfold sE; rw [e27], s2 p t hp ht, NF_hA nfc, sV_o nfc]
  · rw [← mhA_B hBc h.nw] at q
    simp only [e28]
    exact RowOK_B hBc h.nw hVc ((s3 s hs).1 q)
  · rw [← mhA_B hBc h.nw] at q
    simp only [e28]
    exact (s3 s hs).2 q
theorem fpx_tt {c : gC} {t : Int} (k : Nat) : fpx c t t (k : Int) = (t, 24 + t, gu c 100026 5 0) := by
  induction k with
  | zero => exact fpx_0
  | succ k ih =>
    rw [show ((k + 1 : Nat) : Int) = (k : Int) + 1 from rfl, fpx_s (by omega), ih]
    unfold fps
    exact if_pos rfl
theorem fpx_26 {c : gC} {f t : Int} (k : Nat) {j : Int} (hj : ¬ j = 5) : (fpx c f t (k : Int)).2.2 100026 j = c 100026 j := by
  induction k with
  | zero => rw [show ((0 : Nat) : Int) = 0 from rfl, fpx_0]; exact gu_j hj
  | succ k ih =>
    rw [show ((k + 1 : Nat) : Int) = (k : Int) + 1 from rfl, fpx_s (by omega), ← ih]
    generalize fpx c f t (k : Int) = x
    unfold fps
    split
    · rfl
    · split
      · rfl
      · dsimp only
        rw [gu_j hj, gu_k (by decide)]
theorem go_e {cc X0 X M : gC} {b w : Nat} {t : Int} {s : Bool} (h : TT2 cc X0 M b) (hb : M b = cc b) (hbn : (¬ b = 200003 ∧ ¬ b = 200004) ∧ ¬ b = 500001) (hL : LR M) (hc : RG M) (hd : 100014 + 12 ≤ w) (hS : SW X 100014 w M b) (ht : 0 ≤ t ∧ t < 10) (hN : 0 < M b 0) (hX : ∀ j, 0 ≤ j → j < (fpx X0 (M b 6) t 24).2.2 100026 5 → X 100029 j = (fpx X0 (M b 6) t 24).2.2 100029 j) (hm : M b 6 = t ∨ mcf M b (M b 6) (-1) (24 + t) < 1000000000) : (fpx X0 (M b 6) t 24).1 = t ∧ SW (drl X 100014 w 100029 s ((fpx X0 (M b 6) t 24).2.2 100026 5)).2 100014 w (mgt M b t s).2 b ∧ (drl X 100014 w 100029 s ((fpx X0 (M b 6) t 24).2.2 100026 5)).1 = (mgt M b t s).1 ∧ NA M (mgt M b t s).2 b ∧ ((fpx X0 (M b 6) t 24).2.2 100026 5 = 0 ↔ M b 6 = t) := by
  by_cases e : M b 6 = t
  · have hx := fpx_tt (c := X0) (t := t) 24
    rw [show ((24 : Nat) : Int) = 24 from rfl] at hx
    rw [mgt_e e, e, hx]
    dsimp only
    rw [gu_s]
    exact ⟨rfl, hS, rfl, NA_rf, fun _ => rfl, fun _ => rfl⟩
  · have hm' := hm.resolve_left e
    obtain ⟨f1, f2, f3⟩ := h.fM hb
    have hN10 := f2.1.1
    have hf : 0 ≤ M b 6 ∧ M b 6 < 10 := by
      rcases hS.2.2.1.2 with q | q
      · omega
      · omega
    obtain ⟨p1, p2, p3, p4⟩ := path_e h hb hL hc hf ht e hm'
    have hO := LO_node f2 f1 f3 ht.1
    obtain ⟨t1, t2, t3, t4, t5⟩ := lrt_24 hc f2 hL (by omega) hO (by omega) (by decide) hm'
    have hR : (lrt M b (M b 6) (-1) (24 + t) 24).2 = rtm M b t := rfl
    rw [mgt_n e]
    rw [hR] at p2 p3 p4 t1 t2 t3 t4 t5
    have tb := t2 b hbn.1.2 hbn.2
    have hSR : SW X 100014 w (rtm M b t) b := SW_o hS (fun _ _ _ _ => rfl) (fun _ _ _ _ => rfl) tb
    have D := drl_e (s := s) (q := 100029) (r := fun k => rtm M b t 200004 k) (N := rtm M b t 500001 7) hSR (Or.inl hd) (fun j j0 j1 => ⟨(hX j j0 (by rw [p2]; exact j1)).trans (p3 j j0 j1), by
      have := (t5 j j0 j1).1
      unfold mhA at this ⊢
      rw [tb]
      exact this⟩) (rtm M b t 500001 7).toNat (by omega)
    rw [Int.toNat_of_nonneg t4.1] at D
    rw [p2]
    exact ⟨p1, D.1, D.2.1, NA_tr (NA_e tb) D.2.2, fun q => absurd q (by omega), fun q => absurd q e⟩
theorem go_n {cc X0 M : gC} {b : Nat} {f t : Int} (h : TT2 cc X0 M b) (hb : M b = cc b) (hf : 0 ≤ f ∧ f < 10) (ht : 0 ≤ t ∧ t < 10) (hm : ¬ (f = t ∨ mcf M b f (-1) (24 + t) < 1000000000)) : ¬ (fpx X0 f t 24).1 = t := (fpx_no h hb hf ht (fun q => hm (Or.inl q)) (fun q => hm (Or.inr q))).2
theorem mgt_7 {c : gC} {b : Nat} {n B : Int} {s : Bool} (hb : (¬ b = 200003 ∧ ¬ b = 200004) ∧ ¬ b = 500001) (hc : RG c) (hV : NW c b) (hL : LR c) (hW : WW c b B) (hB : B ≤ 1300000000) (hn : 0 ≤ n ∧ n < 10) (hO : LO c b (24 + n)) (hm : ¬ c b 6 = n → mcf c b (c b 6) (-1) (24 + n) < 1000000000) (h7 : 0 ≤ c 500001 7 ∧ c 500001 7 ≤ 24) : 0 ≤ (mgt c b n s).2 500001 7 ∧ (mgt c b n s).2 500001 7 ≤ 24 := by
  by_cases e : c b 6 = n
  · rw [mgt_e e]; exact h7
  · rw [mgt_n e]
    obtain ⟨t1, t2, t3, t4, t5⟩ := rtm_ok hc hV hL hn hO hW.2.1.2 (hm e)
    have tb := t2 b hb.1.2 hb.2
    obtain ⟨x1, x2, x3, x4, x5, x6⟩ := gol_ok (s := s) (r := fun k => rtm c b n 200004 k) (N := rtm c b n 500001 7) t1 (NW_of hV tb) (WW_of hW tb) hB (by omega) (fun k a e => (t5 k a e).2) t4.1 (Int.le_refl _)
    rw [x4 500001 (fun h => hb.2 h.symm)]
    exact t4
/-- the class's own scratch -/
theorem IV_sc {n L : Nat} {T : gT} {c c' : gC} (h : IV n L T c) (hn : n ≤ 990) (e : ∀ k : Nat, ¬ k = 100026 → ¬ k = 100029 → ¬ (100039 ≤ k ∧ k < 100044) → c' k = c k) (e1 : c' 100026 1 = c 100026 1) (hr : RG c') : IV n L T c' := by
  obtain ⟨⟨G, Lo, R, Z, i⟩, s⟩ := h
  have i0 := i
  obtain ⟨⟨t, f⟩, ⟨⟨a1, -, ⟨a3, a4, a5⟩, -, -⟩, ⟨-, b2, -, b4⟩, -⟩, ⟨d1, d2, d3⟩, -⟩ := i
  have e' : ∀ k : Nat, k < 100026 ∨ (100027 ≤ k ∧ k < 100029) ∨ (100030 ≤ k ∧ k < 100039) ∨ 100044 ≤ k → c' k = c k := fun k hk => e k (by omega) (by omega) (by omega)
  exact ⟨⟨G, Lo, R, Z, INV_k i0 ⟨fun k hk => e' k (by omega), by rw [e' _ (by decide)], fun j _ _ _ => by rw [e' _ (by decide)]⟩ hr (SR_o2 a3 (e' _ (by decide)) (e' _ (by decide))) (PR_o a4 fun k hk => e' k (by omega)) (PQ_o a5 (PT_k t.2.2.1).1 fun k hk => e' k (by omega)) (fun j j0 j1 => by rw [e' _ (by decide)]; exact b2 j j0 j1) (by rw [e' _ (by decide)]; exact b4) (CCR_o d2 e1 (e' _ (by decide)) (e' _ (by decide))) (CCP_o d3 fun k k0 k1 => e' k (by omega)) (TGS_c t (e' _ (by decide)) fun k hk j => by rw [e' k (by omega)]) f (Nat.le_refl _) (by omega)⟩, s⟩
theorem IV_fpx {n L : Nat} {T : gT} {c : gC} (h : IV n L T c) (hn : n ≤ 990) {f t : Int} (hf : -1000 ≤ f ∧ f < 1000) : IV n L T (fpx (rfr c) f t 24).2.2 ∧ ∀ k : Nat, ¬ k = 100026 → ¬ k = 100029 → (fpx (rfr c) f t 24).2.2 k = rfr c k := by
  have h1 := IV_rfr h hn
  have ok := fpx_ok (IV_NR h1) (IV_RG h1) (t := t) hf (i := 24) (by decide)
  have e : ∀ k : Nat, ¬ k = 100026 → ¬ k = 100029 → (fpx (rfr c) f t 24).2.2 k = rfr c k := fun k k0 k1 => funext fun j => ok.2.1 k k1 k0 j
  exact ⟨IV_sc h1 hn (fun k k0 k1 _ => e k k0 k1) (by have := fpx_26 (c := rfr c) (f := f) (t := t) 24 (j := 1) (by decide); exact this) ok.1, e⟩
