/-! the law's case: the greedy tour -/
theorem grr_m {c : gC} (hV : NW c 200000) (hL : LR c) (hH : GTH c) : ∀ (n : Nat) (x l s q : Int) (m : gC), RG m → m 200000 = c 200000 → m 200003 = c 200003 → (-2147483648 ≤ x ∧ x < 2147483648) → (-1 ≤ l ∧ l < 24) → (0 ≤ q ∧ q < 16777216) → (∀ e, 0 ≤ e → e < 24 → tb q e = true → mhA c 200000 e = true) → (0 ≤ m 500001 7 ∧ m 500001 7 ≤ 24) → RG (grr n x l s q m).2 ∧ (∀ k : Nat, ¬ k = 200004 → ¬ k = 500001 → (grr n x l s q m).2 k = m k) ∧ (∀ j, ¬ j = 7 → (grr n x l s q m).2 500001 j = m 500001 j) ∧ 0 ≤ (grr n x l s q m).2 500001 7 ∧ (grr n x l s q m).2 500001 7 ≤ 24
  | 0, x, l, s, q, m, hG, _, _, _, _, _, _, h7 => ⟨hG, fun _ _ _ => rfl, fun _ _ => rfl, h7⟩
  | n + 1, x, l, s, q, m, hG, hb, h3, hx, hl, hq, ha, h7 => by
    have mV : NW m 200000 := NW_of hV hb
    have mL : LR m := fun i a b => by rw [h3]; exact hL i a b
    by_cases e : q = 0
    · rw [grr_0 e]
      exact ⟨hG, fun _ _ _ => rfl, fun _ _ => rfl, h7⟩
    · by_cases h : 1000000000 ≤ mcf m 200000 x l (gbt m 200000 x l q)
      · rw [grr_1 e h]
        exact ⟨hG, fun _ _ _ => rfl, fun _ _ => rfl, h7⟩
      · rw [grr_2 e h]
        obtain ⟨e1, e2⟩ := gbt_ok (c := m) (b := 200000) (n := x) (l := l) hq e
        have hO9 : LO m 200000 (gbt m 200000 x l q) := LO_o hb h3 (hH.1 _ e1.1 e1.2 (ha _ e1.1 e1.2 e2))
        obtain ⟨y1, y2, y3, y4, y5⟩ := lrt_24 hG mV mL e1.1 hO9 hx hl (by omega)
        obtain ⟨k1, k2, k3⟩ := clrs_ok (r := fun k => (lrt m 200000 x l (gbt m 200000 x l q) 24).2 200004 k) hq (N := (lrt m 200000 x l (gbt m 200000 x l q) 24).2 500001 7) (fun k a b => (y5 k a b).2) y4.1 (Int.le_refl _)
        have hme := men_rg mV e1
        have ih := grr_m hV hL hH n (men m 200000 (gbt m 200000 x l q)) (gbt m 200000 x l q) (s + (mcf m 200000 x l (gbt m 200000 x l q))) (gtq (lrt m 200000 x l (gbt m 200000 x l q) 24).2 q) (lrt m 200000 x l (gbt m 200000 x l q) 24).2 y1 ((y2 200000 (by decide) (by decide)).trans hb) ((y2 200003 (by decide) (by decide)).trans h3) (by omega) (by omega) k1 (fun e a b h => ha e a b (k2 e a b h)) y4
        exact ⟨ih.1, fun k k0 k1 => (ih.2.1 k k0 k1).trans (y2 k k0 k1), fun j hj => (ih.2.2.1 j hj).trans (y3 j hj), ih.2.2.2⟩
theorem grc_rg {c : gC} (hS : SR c) (hL : SL c) (hD : -1 ≤ c 100014 3 ∧ c 100014 3 < 10) {s : Int} (hs : -2147483648 ≤ s ∧ s < 2147483648) : -1 ≤ grc c s ∧ grc c s < 100000000 := by
  have g := grx_ok hS hL hD hs (i := 24) (by decide) (by decide)
  have cb := cbh_rg hS (grx c s 24).2.2.1 (24 + c 100014 3)
  unfold GRI at g
  unfold grc
  split
  · omega
  · split
    · omega
    · split
      · omega
      · omega
theorem gJ_3 {p : Prop} {Y F HF : Nat} {as : List Value} {v : Int} {T : gT} {c c' J : gC} (e : gE 5 F HF as (gm T c J) (gJ p Y (gi v) T c c' J)) : gE 5 F HF as (gm T c J) (fun o M1 => (p ∧ True ∧ o = .inl (some (gi v)) ∧ M1 = gm T c' J) ∨ (p ∧ ¬ True ∧ o = .inr Y ∧ M1 = gm (gTt T) c' J) ∨ (¬ p ∧ o = .inr Y ∧ M1 = gm (gTt T) c J)) := gE_mono e fun o M1 q => by
  rcases q with ⟨a, b, d⟩ | ⟨a, b, d⟩
  · exact Or.inl ⟨a, trivial, b, d⟩
  · exact Or.inr (Or.inr ⟨a, b, d⟩)
theorem SL_ok {c mm M : gC} {b : Nat} (h : TT2 c mm M b) (hb : M b = c b) : SL mm := fun i h0 h1 => by
  have := tbl_sm h hb i h0 h1
  omega
set_option maxHeartbeats 1000000 in
theorem op_24 {L : Nat} : OPC L 1471 := by
  intro n T c J i u5 u6 Q hn h hL hi hu hv hend
  have rg := IV_RG h
  have hz := rg 800000 (i + 1)
  have hRT := (IV_CT h).2.2.2.1
  have hS := IV_SR h
  have h' := IV_rfr h (by omega)
  have ok := rfr_ok rg hS (IV_NR h)
  have er : ∀ k : Nat, ¬ (100026 ≤ k ∧ k < 100029) → rfr c k = c k := fun k hk => funext fun j => ok.2.2 k (by omega) (by omega) (by omega) j
  have e2 : rfr c 200000 = c 200000 := er _ (by decide)
  have e8 : rfr c 800000 = c 800000 := er _ (by decide)
  have tt0 := IV_TT h rg rfl
  have sl := SL_ok tt0.1 tt0.2
  have hD : -1 ≤ c 100014 3 ∧ c 100014 3 < 10 := by rw [(IV_NN h).1.2.1]; exact (IV_NW h).2.1.1
  have h1 := gJ_3 (c_x_greedy (g := 5) (J := J) (IV_XT h) (IV_NT h) rg (IV_NR h) (IV_WT h).1 (IV_WT h).2 (IV_WR h).1 hRT hS sl hD hz)
  have hr : (1 ≤ c 800000 (i + 1) ∧ c 800000 (i + 1) ≤ 3) → True → -2147483648 ≤ grc (rfr c) (mskI (fun a => hA (rfr c) 100014 a && decide (cl (rfr c) 100014 a ≤ c 800000 (i + 1))) 24) ∧ grc (rfr c) (mskI (fun a => hA (rfr c) 100014 a && decide (cl (rfr c) 100014 a ≤ c 800000 (i + 1))) 24) < 2147483648 := fun _ _ => by
    have := grc_rg (IV_SR h') sl (by rw [er _ (by decide)]; exact hD) (mskI_rg (fun a => hA (rfr c) 100014 a && decide (cl (rfr c) 100014 a ≤ c 800000 (i + 1))) 24)
    omega
  have em : ∀ n' T' c2 J', IV n' L T' c2 → n' < 901 → c2 200000 = c 200000 → gE 5 246 7 [.ref 500001, gi (c 800000 (i + 1))] (gm T' c2 J') (gMK (IV n' L T') (1 ≤ c 800000 (i + 1) ∧ c 800000 (i + 1) ≤ 3) True (grc (rfr c) (mskI (fun a => hA (rfr c) 100014 a && decide (cl (rfr c) 100014 a ≤ c 800000 (i + 1))) 24)) 1 1 T' J') := fun n' T' c2 J' h2 hn' es => by
    have r2 := IV_RG h2
    have hV := IV_NW h2
    obtain ⟨tt, hb⟩ := IV_TT h r2 es
    have et : tw c2 0 200000 = c 200000 := (tw_k (by decide)).trans es
    have hVt : NW (tw c2 0) 200000 := NW_t hV
    have gth := GTH_ok (tw_RG r2 (z := 0) (by decide)) hVt (L1_o et (CL1_L (IV_SW h).2.2.2))
    have ml := mll_ok (b := 200000) (tw_RG r2 (z := 0) (by decide)) hVt
    refine gE_mono (m_x_greedyTour (IV_MT h2) r2 hV hz (fun _ => gth)) fun o M1 q => ?_
    rcases q with ⟨q1, rfl, rfl⟩ | ⟨q1, rfl, rfl⟩
    · have w : 1 ≤ c 800000 (i + 1) ∧ c 800000 (i + 1) ≤ 3 := by have := inr_t.mp q1; omega
      have eq1 : mskI (fun a => hA (rfr c) 100014 a && decide (cl (rfr c) 100014 a ≤ c 800000 (i + 1))) 24 = mrq (tw c2 0) 200000 (c 800000 (i + 1)) := req_e (NN_b (IV_NN h') (et.trans e2.symm)) hVt _
      have eq2 : mrq (tw c2 0) 200000 (c 800000 (i + 1)) = mrq c 200000 (c 800000 (i + 1)) := mrq_o et _
      have lq := IV_LQ h2
      have t5 : ∀ j, ¬ j = 0 → tw c2 0 500001 j = c2 500001 j := fun j hj => by unfold tw; rw [gu_j hj]
      have D2 := hV.2.1.1
      have gm2 := grr_m (NW_of hVt (ml.1.2 _ (by decide))) ml.2 gth 25 (c2 200000 2) (-1) 0 (mrq (tw c2 0) 200000 (c 800000 (i + 1))) (mll (tw c2 0) 200000) ml.1.1 rfl rfl (by omega) (by decide) req_rg (fun e e0 e1 he => by
        have := (tb_req ⟨e0, e1⟩ he).1
        rw [mhA_o (ml.1.2 _ (by decide))]
        exact this) (by rw [ml.1.2 _ (by decide), t5 _ (by decide)]; exact lq.2)
      refine ⟨_, _, rfl, rfl, IV_MLK h2 ⟨fun k hk h5 => ?_, fun j j0 j7 _ => ?_, gm2.1, fun j j0 j1 => ?_, gm2.2.2.2⟩ (by omega), Or.inl ⟨w, trivial, ?_, ?_⟩⟩
      · rw [gm2.2.1 k (by omega) h5, ml.1.2 k (by omega), tw_k h5]
      · rw [gm2.2.2.1 j j7, ml.1.2 _ (by decide), t5 j j0]
      · rw [gm2.2.1 _ (by decide) (by decide), ml.1.2 _ (by decide), tw_k (by decide)]; exact lq.1 j j0 j1
      · rw [eq1, eq2, greedy_e tt hb ml.2 ml.1.1 (IV_SW h).2.2.1, es]
      · rw [gm2.2.2.1 0 (by decide), ml.1.2 _ (by decide), tw_0]
    · exact ⟨_, _, rfl, rfl, IV_tw h2 (by omega) (by decide), Or.inr (Or.inr ⟨fun w => inr_f.mp q1 (by omega), tw_0⟩)⟩
  exact lc_24 (E := fun T c _ => IV (n + 1) L T c) (by omega) (by omega) h.2 hL hi hu hv (w_greedyTour (opk1 h hn hr h1) (fun E T1 c1 J1 q => by rcases RK3_E E T1 c1 J1 q with e | e <;> exact e)) (opk2 hn (fun _ => ⟨h', e2, e8⟩) hr em) (opk3 h (fun _ => ⟨h', e2, e8⟩) hn ⟨rfl, by decide, by decide⟩ ⟨rfl, by decide, by decide⟩ (fun _ => em)) (fun z T2 c2 J2 k b q hk hb => hend T2 c2 J2 k b q.2.2.2 hk hb)
