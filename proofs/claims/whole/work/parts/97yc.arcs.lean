/-! the law's cases: arcs of a path, and the nearest deep arc -/
theorem mcw_f {M : gC} {b : Nat} {f t : Int} (h : ¬ f = t) : mcw M b f t = mcf M b f (-1) (24 + t) := if_neg h
theorem IV_mlk {n L : Nat} {T : gT} {c c' : gC} (h : IV n L T c) (hn : n ≤ 999) {z : Int} (hz : -2147483648 ≤ z ∧ z < 2147483648) (e : ∀ k : Nat, ¬ (200002 ≤ k ∧ k < 200006) → ¬ k = 200007 → ¬ k = 500001 → c' k = c k) (e5 : ∀ j, ¬ j = 0 → ¬ j = 7 → ¬ j = 9 → c' 500001 j = c 500001 j) (hr : RG c') (h7 : 0 ≤ c' 500001 7 ∧ c' 500001 7 ≤ 24) : IV n L T (tw c' z) := by
  have q := IV_LQ h
  refine IV_MLK h ⟨fun k hk h5 => by rw [tw_k h5]; exact e k (by omega) (by omega) h5, fun j j0 j7 j9 => by unfold tw; rw [gu_j j0]; exact e5 j j0 j7 j9, tw_RG hr hz, fun j j0 j1 => ?_, ?_⟩ hn
  · rw [tw_k (by decide), e _ (by decide) (by decide) (by decide)]; exact q.1 j j0 j1
  · unfold tw; rw [gu_j (by decide)]; exact h7
set_option maxHeartbeats 1000000 in
theorem op_17 {L : Nat} : OPC L 1086 := by
  intro n T c J i u5 u6 Q hn h hL hi hu hv hend
  have rg := IV_RG h
  have hz := rg 800000 (i + 1)
  have hp := rg 800000 (i + 2)
  have hy := rg 800000 (i + 3)
  have hRT := (IV_CT h).2.2.2.1
  have hS := IV_SR h
  have ok := rfr_ok rg hS (IV_NR h)
  have h1 := c_x_pathArc (g := 5) (J := J) (IV_XT h) (IV_NT h) rg (IV_NR h) (IV_WT h).1 (IV_WT h).2 (IV_WR h).1 hRT hS hz hp hy
  have er : ∀ k : Nat, ¬ (100026 ≤ k ∧ k < 100029) → rfr c k = c k := fun k hk => funext fun j => ok.2.2 k (by omega) (by omega) (by omega) j
  have a1 : c 100014 1 = c 200000 0 := (IV_NN h).1.1.1
  have v0 := (IV_NW h).1.1
  generalize hz' : c 800000 (i + 1) = z at *
  generalize hp' : c 800000 (i + 2) = p at *
  generalize hy' : c 800000 (i + 3) = y at *
  have len := fpx_len (c := rfr c) (f := z) (t := p) (i := 24) (by decide)
  have arc := (fpx_arc (c := rfr c) (f := z) (t := p) (i := 24) (by decide) (by decide)).2
  have iX := fun (hf : -1000 ≤ z ∧ z < 1000) => IV_fpx h (by omega) (t := p) hf
  generalize hx : fpx (rfr c) z p 24 = x at *
  have ec : (-1000 ≤ z ∧ z < 1000) → ∀ k : Nat, ¬ (100026 ≤ k ∧ k < 100030) → x.2.2 k = c k := fun hf k hk => ((iX hf).2 k (by omega) (by omega)).trans (er k (by omega))
  have hr : ((0 ≤ z ∧ z < c 100014 1) ∧ (0 ≤ p ∧ p < c 100014 1)) → (0 ≤ y ∧ y < x.2.2 100026 5) → -2147483648 ≤ x.2.2 100029 y ∧ x.2.2 100029 y < 2147483648 := fun _ w => by
    have := arc y w.1 w.2
    omega
  have em : ∀ n' T' c2 J', IV n' L T' c2 → n' < 901 → c2 200000 = c 200000 → gE 5 220 7 [.ref 500001, gi z, gi p, gi y] (gm T' c2 J') (gMK (IV n' L T') ((0 ≤ z ∧ z < c 100014 1) ∧ (0 ≤ p ∧ p < c 100014 1)) (0 ≤ y ∧ y < x.2.2 100026 5) (x.2.2 100029 y) 2 1 T' J') := fun n' T' c2 J' h2 hn' es => by
    have r2 := IV_RG h2
    have hno : (mno c2 200000 z && mno c2 200000 p) = true ↔ (0 ≤ z ∧ z < c 100014 1) ∧ (0 ≤ p ∧ p < c 100014 1) := by
      unfold mno
      rw [Bool.and_eq_true, inr_t, inr_t, es]
      omega
    have gg := fun (w : (mno c2 200000 z && mno c2 200000 p) = true) => go_m h (tw_RG r2 (z := 0) (by decide)) ((tw_k (by decide)).trans es) (z := p) (by have := hno.mp w; omega)
    have lq := IV_LQ h2
    refine gE_mono (m_x_pathArc (IV_MT h2) r2 (IV_NW h2) hz hp hy (fun w => (gg w).2.2.1) lq.2) fun o M1 q => ?_
    rcases q with ⟨q1, m, q2, q3⟩ | ⟨q1, rfl, rfl⟩
    · have w2 := hno.mp q1
      obtain ⟨⟨g1, g1b⟩, ⟨g2, g3, g4⟩, g5, g6⟩ := gg q1
      generalize hM : mll (tw c2 0) 200000 = M at *
      obtain ⟨f1, f2, f3⟩ := g1.fM g1b
      have zr : 0 ≤ z ∧ z < 10 := by omega
      have pr : 0 ≤ p ∧ p < 10 := by omega
      have t5 : ∀ j, ¬ j = 0 → tw c2 0 500001 j = c2 500001 j := fun j hj => by unfold tw; rw [gu_j hj]
      have hm : (∀ k : Nat, ¬ k = 200003 → ¬ k = 200004 → ¬ k = 500001 → m k = c2 k) ∧ (∀ j, ¬ j = 0 → ¬ j = 7 → m 500001 j = c2 500001 j) ∧ RG m ∧ (0 ≤ m 500001 7 ∧ m 500001 7 ≤ 24) ∧ ((decide (¬ z = p) && decide (mcw M 200000 z p < 1000000000)) = true → m 500001 7 = x.2.2 100026 5 ∧ ∀ j, 0 ≤ j → j < x.2.2 100026 5 → x.2.2 100029 j = m 200004 j) ∧ ((decide (¬ z = p) && decide (mcw M 200000 z p < 1000000000)) = false → x.2.2 100026 5 = 0) := by
        rcases q2 with ⟨q2, em⟩ | ⟨q2, em⟩
        · rw [em]
          have q4 := q2
          rw [Bool.and_eq_true, decide_eq_true_eq, decide_eq_true_eq] at q4
          have q5 : mcf M 200000 z (-1) (24 + p) < 1000000000 := by rw [← mcw_f q4.1]; exact q4.2
          obtain ⟨t1, t2, t3, t4, t6⟩ := lrt_24 g2 f2 g3 (by omega) g5 (n := z) (by omega) (by decide) q5
          have pe := path_e g1 g1b g3 g2 zr pr q4.1 q5
          rw [hx] at pe
          exact ⟨fun k k0 k1 k2 => by rw [t2 k k1 k2, g4 k k0, tw_k k2], fun j j0 j1 => by rw [t3 j j1, g4 _ (by decide), t5 j j0], t1, t4, (fun _ => ⟨pe.2.1.symm, fun j j0 j1 => pe.2.2.1 j j0 (by rw [← pe.2.1]; exact j1)⟩), (fun w => by rw [q2] at w; cases w)⟩
        · rw [em]
          refine ⟨fun k k0 k1 k2 => by rw [g4 k k0, tw_k k2], fun j j0 j1 => by rw [g4 _ (by decide), t5 j j0], g2, by rw [g4 _ (by decide), t5 7 (by decide)]; exact lq.2, (fun w => by rw [q2] at w; cases w), fun _ => ?_⟩
          by_cases e : z = p
          · subst e
            have hy := fpx_tt (c := rfr c) (t := z) 24
            rw [show ((24 : Nat) : Int) = 24 from rfl, hx] at hy
            rw [hy]
            exact gu_s (c := rfr c) (k := 100026) (j := 5) (z := 0)
          · have q4 : ¬ mcf M 200000 z (-1) (24 + p) < 1000000000 := fun w => by
              rw [← mcw_f e] at w
              rw [decide_eq_true e, decide_eq_true w] at q2
              cases q2
            have hy := (fpx_no g1 g1b zr pr e q4).1 24 (Nat.le_refl _)
            rw [show ((24 : Nat) : Int) = 24 from rfl, hx] at hy
            rw [hy]
            exact gu_s (c := rfr c) (k := 100026) (j := 5) (z := 0)
      obtain ⟨m1, m2, m3, m4, m5, m6⟩ := hm
      have im : ∀ k, (-2147483648 ≤ k ∧ k < 2147483648) → IV n' L T' (tw m k) := fun k hk => IV_mlk h2 (by omega) hk (fun k k0 k1 k2 => m1 k (by omega) (by omega) k2) (fun j j0 j7 _ => m2 j j0 j7) m3 m4
      rcases q3 with ⟨q3, rfl, rfl⟩ | ⟨q3, rfl, rfl⟩
      · rw [Bool.and_eq_true] at q3
        have m7 := m5 q3.1
        have y1 := inr_t.mp q3.2
        exact ⟨_, _, rfl, rfl, im 0 (by decide), Or.inl ⟨w2, by omega, (m7.2 y y1.1 (by omega)).symm, tw_0⟩⟩
      · refine ⟨_, _, rfl, rfl, im 2 (by decide), Or.inr (Or.inl ⟨w2, fun w => ?_, tw_0⟩)⟩
        cases hd : (decide (¬ z = p) && decide (mcw M 200000 z p < 1000000000)) with
        | true =>
          rw [hd, Bool.true_and] at q3
          have := inr_f.mp q3
          have := (m5 hd).1
          omega
        | false =>
          have := m6 hd
          omega
    · exact ⟨_, _, rfl, rfl, IV_tw h2 (by omega) (by decide), Or.inr (Or.inr ⟨(fun w => by rw [hno.mpr w] at q1; cases q1), tw_0⟩)⟩
  have h1' : gE 5 114 7 [.ref 500000, gi z, gi p, gi y] (gm T c J) (fun o M1 => (((0 ≤ z ∧ z < c 100014 1) ∧ (0 ≤ p ∧ p < c 100014 1)) ∧ (0 ≤ y ∧ y < x.2.2 100026 5) ∧ o = .inl (some (gi (x.2.2 100029 y))) ∧ M1 = gm T x.2.2 J) ∨ (((0 ≤ z ∧ z < c 100014 1) ∧ (0 ≤ p ∧ p < c 100014 1)) ∧ ¬ (0 ≤ y ∧ y < x.2.2 100026 5) ∧ o = .inr 3 ∧ M1 = gm (gTt T) x.2.2 J) ∨ (¬ ((0 ≤ z ∧ z < c 100014 1) ∧ (0 ≤ p ∧ p < c 100014 1)) ∧ o = .inr 2 ∧ M1 = gm (gTt T) c J)) := gE_mono h1 fun o M1 q => by
    rcases q with ⟨a, b, d⟩ | ⟨a, b, d⟩ | q
    · exact Or.inl ⟨⟨a, b⟩, d⟩
    · exact Or.inr (Or.inl ⟨⟨a, b⟩, d⟩)
    · exact Or.inr (Or.inr q)
  have hf : ((0 ≤ z ∧ z < c 100014 1) ∧ (0 ≤ p ∧ p < c 100014 1)) → IV n L T x.2.2 ∧ x.2.2 200000 = c 200000 ∧ x.2.2 800000 = c 800000 := fun w => by
    have hf : -1000 ≤ z ∧ z < 1000 := by omega
    exact ⟨(iX hf).1, ec hf _ (by decide), ec hf _ (by decide)⟩
  exact lc_17 (HW := 8) (HM := 7) (E := fun T c _ => IV (n + 1) L T c) (by omega) (by omega) h.2 hL hi hu hv (by rw [hz', hp', hy']; exact w_pathArc (opk1 h hn hr h1') (fun E T1 c1 J1 q => RK3_E E T1 c1 J1 q)) (by rw [hz', hp', hy']; exact opk2 hn hf hr em) (by rw [hz', hp', hy']; exact opk3 h hf hn ⟨rfl, by decide, by decide⟩ ⟨rfl, by decide, by decide⟩ (fun _ => em)) (fun z T2 c2 J2 k b q hk hb => hend T2 c2 J2 k b q.2.2.2 hk hb)
theorem itI_ic {α : Type} {f : Int → α → α} {x : α} {N : Int} (h : ∀ j, 0 ≤ j → j < N → f j x = x) : ∀ k : Nat, (k : Int) ≤ N → itI f x (k : Int) = x := by
  intro k
  induction k with
  | zero => intro _; rfl
  | succ k ih =>
    intro hk
    rw [show ((k + 1 : Nat) : Int) = (k : Int) + 1 from rfl, itI_s _ _ (by omega), ih (by omega)]
    exact h _ (by omega) (by omega)
theorem near_k {c mm M : gC} (tt : TT2 c mm M 200000) (hb : M 200000 = c 200000) (hN : NN c 100014 c 200000) (hP : PP c 200000) {z : Int} : (nea mm (if c 200000 7 = -1 then 24 + c 200000 6 else c 200000 7) (mdq M 200000 z)).1 = (itI (nbf M (mdq M 200000 z)) ((-1, 1000000000) : Int × Int) 24).1 := by
  obtain ⟨f1, f2, f3⟩ := tt.fM hb
  have hs : ∀ a, I24 a → tb (mdq M 200000 z) a = true → mhA c 200000 a = true := fun a ha q => by
    unfold I24 at ha
    unfold mdq at q
    rw [mskI_tb _ (by decide) (by decide) ha.1 (by omega), Bool.and_eq_true, Bool.and_eq_true] at q
    have := q.2.1
    unfold mhA at this ⊢
    rw [← hb]
    exact this
  rcases hP.2 with q | q
  · have hv := tt.nw.1.1
    have hB : BG c 200000 (if c 200000 7 = -1 then 24 + c 200000 6 else c 200000 7) (M 200000 6) (M 200000 7) := by
      rw [hb]
      by_cases e : c 200000 7 = -1
      · rw [if_pos e]
        exact Or.inl ⟨rfl, e, by omega, by omega⟩
      · rw [if_neg e]
        rcases hP.1 with w | w
        · exact absurd w e
        · exact Or.inr ⟨rfl, w.1, w.2⟩
    exact (nea_e tt hb hB hs 24 (Nat.le_refl _)).1
  · have no : ∀ a, I24 a → tb (mdq M 200000 z) a = false := fun a ha => by
      cases hq : tb (mdq M 200000 z) a with
      | false => rfl
      | true =>
        have := (NN_e hN tt.nw (hs a ha hq)).1
        omega
    have e1 := itI_ic (f := nbf M (mdq M 200000 z)) (x := ((-1, 1000000000) : Int × Int)) (N := 24) (fun j j0 j1 => by unfold nbf; rw [no j ⟨j0, j1⟩]; simp) 24 (by decide)
    have e2 : (nea mm (if c 200000 7 = -1 then 24 + c 200000 6 else c 200000 7) (mdq M 200000 z)) = (-1, 100000000) := by
      unfold nea am1
      exact itI_ic (N := 24) (fun j j0 j1 => by have hj := no j ⟨j0, j1⟩; simp [hj]) 24 (by decide)
    rw [show ((24 : Nat) : Int) = 24 from rfl] at e1
    rw [e1, e2]
set_option maxHeartbeats 1000000 in
theorem op_52 {L : Nat} : OPC L 2682 := by
  intro n T c J i u5 u6 Q hn h hL hi hu hv hend
  have rg := IV_RG h
  have hz := rg 800000 (i + 1)
  have hRT := (IV_CT h).2.2.2.1
  have hS := IV_SR h
  have h' := IV_rfr h (by omega)
  have ok := rfr_ok rg hS (IV_NR h)
  have e2 : rfr c 200000 = c 200000 := funext fun j => ok.2.2 _ (by decide) (by decide) (by decide) j
  have e8 : rfr c 800000 = c 800000 := funext fun j => ok.2.2 _ (by decide) (by decide) (by decide) j
  have p3 : c 100034 3 = c 200000 7 := (IV_SW h).2.1.1.2.1.1
  have p2 : c 100034 2 = c 200000 6 := (IV_SW h).2.1.1.1.2
  have h1 := c_x_nearDeep (g := 5) (J := J) (IV_XT h) (IV_NT h) rg (IV_NR h) (IV_WT h).1 (IV_WT h).2 (IV_WR h).1 hRT hS hz
  rw [p3, p2] at h1
  have hr : (0 ≤ c 800000 (i + 1) ∧ c 800000 (i + 1) ≤ 2000) → -2147483648 ≤ (nea (rfr c) (if c 200000 7 = -1 then 24 + c 200000 6 else c 200000 7) (mskI (fun a => hA (rfr c) 100014 a && decide (c 800000 (i + 1) < sn (rfr c) 100034 a 0)) 24)).1 ∧ (nea (rfr c) (if c 200000 7 = -1 then 24 + c 200000 6 else c 200000 7) (mskI (fun a => hA (rfr c) 100014 a && decide (c 800000 (i + 1) < sn (rfr c) 100034 a 0)) 24)).1 < 2147483648 := fun w => by
    have := nea_rg (rfr c) (if c 200000 7 = -1 then 24 + c 200000 6 else c 200000 7) (mskI (fun a => hA (rfr c) 100014 a && decide (c 800000 (i + 1) < sn (rfr c) 100034 a 0)) 24)
    omega
  have em : ∀ n' T' c2 J', IV n' L T' c2 → n' < 901 → c2 200000 = c 200000 → gE 5 266 6 [.ref 500001, gi (c 800000 (i + 1))] (gm T' c2 J') (gMJ (0 ≤ c 800000 (i + 1) ∧ c 800000 (i + 1) ≤ 2000) (nea (rfr c) (if c 200000 7 = -1 then 24 + c 200000 6 else c 200000 7) (mskI (fun a => hA (rfr c) 100014 a && decide (c 800000 (i + 1) < sn (rfr c) 100034 a 0)) 24)).1 1 T' c2 J') := fun n' T' c2 J' h2 hn' es => by
    have hV := IV_NW h2
    obtain ⟨tt, hb⟩ := IV_TT h (IV_RG h2) es
    refine gE_mono (m_x_nearestDeepArc (IV_MT h2) (IV_RG h2) hV hz (IV_WR h2).2 (by omega)) fun o M1 q => ?_
    rcases q with ⟨q1, rfl, rfl⟩ | ⟨q1, rfl, rfl⟩
    · have w : 0 ≤ c 800000 (i + 1) ∧ c 800000 (i + 1) ≤ 2000 := by have := inr_t.mp q1; omega
      refine Or.inl ⟨w, congrArg (fun x => (Sum.inl (some (gi x)) : am_O)) (Eq.symm ?_), rfl⟩
      have hVM : NW (mll (tw c2 0) 200000) 200000 := NW_of (IV_NW h) hb
      rw [deep_e (NN_b (IV_NN h') (hb.trans e2.symm)) hVM (VV_b (IV_SW h').2.1 (hb.trans e2.symm)) _]
      exact near_k tt hb (IV_NN h) (IV_SW h).2.2.1
    · exact Or.inr ⟨fun w => inr_f.mp q1 (by omega), _, rfl, rfl⟩
  exact lc_52 (E := fun T c _ => IV (n + 1) L T c) (by omega) (by omega) h.2 hL hi hu hv (w_nearestDeepArc (opj1 h hn hr h1) (fun E T1 c1 J1 q => RJ_E E T1 c1 J1 q)) (opj2 hn h' e2 e8 hr em) (opj3 h hn ⟨rfl, by decide, by decide⟩ em) (fun z T2 c2 J2 k b q hk hb => hend T2 c2 J2 k b q.2.2.2 hk hb)
