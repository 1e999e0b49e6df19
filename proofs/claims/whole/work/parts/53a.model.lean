/-! the reference: the parser goes forward -/
def PRr (c m : gC) : Prop := c 500001 17 ≤ m 500001 17 ∧ (m 500001 17 = c 500001 17 → m 500001 19 = c 500001 19 ∨ m 500001 19 = 0)
theorem PR_rf {c : gC} : PRr c c := ⟨Int.le_refl _, fun _ => Or.inl rfl⟩
theorem PR_tr {c m n : gC} (h : PRr c m) (h2 : PRr m n) : PRr c n := by
  obtain ⟨a, b⟩ := h
  obtain ⟨d, e⟩ := h2
  refine ⟨by omega, fun q => ?_⟩
  have := b (by omega)
  have := e (by omega)
  omega
theorem PR_sm {c m n : gC} (h : PRr c m) (h2 : n 500001 17 = m 500001 17) (h3 : n 500001 19 = m 500001 19) : PRr c n := by
  unfold PRr at h ⊢
  rw [h2, h3]
  exact h
theorem mad1_PR {m : gC} {s : Int} (h : MI m) (hs : m 500001 17 ≤ s ∧ s ≤ m 500001 16) : PRr m (mad1 m s) := by
  have hsz := h.2.1
  by_cases e1 : bya m s = -1
  · rw [mad1_e e1]
    exact ⟨by rw [gu_j (by decide), mad0_17]; omega, fun _ => Or.inr gu_s⟩
  · cases e2 : mlr m 97 122 s with
    | true =>
      rw [mad1_w e1 e2]
      obtain ⟨r1, r2, r3, r4⟩ := rn_ok (p := mlr m 97 122) (mlr_lt (by decide)) (by omega) hs.2 hsz.2.2
      change s ≤ mln2 m s at r1
      have hne : ¬ mln2 m s = s := fun e => by
        change mlr m 97 122 (mln2 m s) = false at r3
        rw [e, e2] at r3; cases r3
      refine ⟨by rw [gu_j (by decide), gu_s]; omega, fun q => ?_⟩
      rw [gu_j (by decide), gu_s] at q
      omega
    | false =>
      cases e3 : mlr m 48 57 s with
      | true =>
        rw [mad1_n e1 e2 e3]
        obtain ⟨r1, r2, r3, r4⟩ := rn_ok (p := mlr m 48 57) (mlr_lt (by decide)) (by omega) hs.2 hsz.2.2
        change s ≤ mdn m s at r1
        have hne : ¬ mdn m s = s := fun e => by
          change mlr m 48 57 (mdn m s) = false at r3
          rw [e, e3] at r3; cases r3
        refine ⟨by rw [gu_j (by decide), gu_s]; omega, fun q => ?_⟩
        rw [gu_j (by decide), gu_s] at q
        omega
      | false =>
        rw [mad1_s e1 e2 e3]
        refine ⟨by rw [gu_s]; omega, fun q => ?_⟩
        rw [gu_s] at q
        omega
theorem PR_mad {m : gC} (h : MI m) : PRr m (mad m) := by
  obtain ⟨r1, r2, r3, r4⟩ := rn_ok (p := mbl m) mbl_lt h.2.1.1 h.2.1.2.1 h.2.1.2.2
  exact mad1_PR h ⟨r1, r2⟩
theorem PR_mon {m : gC} (h : MI m) : PRr m (mon m) := by
  unfold mon
  split
  · exact PR_mad h
  · exact PR_rf
theorem PR_fl {m : gC} {z : Int} : PRr m (mfl m z) := by
  unfold mfl
  split
  · exact PR_sm PR_rf (by rw [gu_j (by decide), gu_j (by decide)]) (by rw [gu_j (by decide), gu_j (by decide)])
  · exact PR_rf
theorem PR_fi {m : gC} {p : Bool} {z : Int} : PRr m (mfi p m z) := by
  unfold mfi
  split
  · exact PR_fl
  · exact PR_rf
theorem PR_b {m : gC} {b : Nat} {j z : Int} (hb : b < 200002) : PRr m (gu m b j z) := PR_sm PR_rf (gu_k (by omega)) (gu_k (by omega))
theorem PR_nu {b : Nat} {m : gC} {l u : Int} (hb : b < 200002) (h : MP b m) : PRr m (mnu l u m).2 := PR_tr (PR_tr PR_fi PR_fi) (PR_mon (MS_nu2 (l := l) (u := u) (b := b) (by omega) (MS_nu1 (by omega) (MS_rf h))).1.1.1)
theorem PR_nh {m : gC} : PRr m (mnh m).2 := PR_fi
theorem PR_nd {b : Nat} {m : gC} {o : Int} (hb : b < 200002) (h : MP b m) : PRr m (mnd b o m).2 := by
  have g1 := MX_nh hb (MX_rf h)
  have g2 := MX_fi (p := decide (mfn (mnh m).2 b (mnh m).1 = -1)) (z := 4) hb g1 (by decide)
  have g3 := MX_fi (p := decide (mfn (mnh m).2 b (mnh m).1 = o)) (z := 3) hb g2 (by decide)
  exact PR_tr PR_nh (PR_tr PR_fi (PR_tr PR_fi (PR_mon g3.1.1.1.1)))
theorem PR_nc3 {b : Nat} {m : gC} {k : Int} (hb : b < 200002) (h : MP b m) : PRr m (mnc3 k m) := by
  have g1 := MX_p (j := 23) (z := zor (m 500001 23) (zshl 1 k)) hb (MX_rf h) (by decide) (zrg _)
  exact PR_tr (PR_sm PR_rf (gu_j (by decide)) (gu_j (by decide))) (PR_mon g1.1.1.1.1)
theorem PR_nc2 {b : Nat} {m : gC} {k : Int} (hb : b < 200002) (h : MP b m) : PRr m (mnc2 k m) := by
  unfold mnc2
  split
  · exact PR_tr PR_fl (PR_nc3 hb (MX_fl (z := 3) hb (MX_rf h) (by decide)).1.1)
  · exact PR_nc3 hb h
theorem PR_pn1 {b : Nat} {m : gC} {n : Int} (hb : b < 200002) (h : MP b m) : PRr m (mpn1 b n m) := by
  have g1 := MX_mon hb (MX_rf h)
  have g2 := MX_nu (l := 0) (u := 99) hb g1
  have g3 := MX_fi (p := mpnP b (mnu 0 99 (mon m)).1 (mnu 0 99 (mon m)).2) (z := 3) hb g2 (by decide)
  refine PR_tr (PR_tr (PR_mon h.1.1) (PR_nu (b := b) (l := 0) (u := 99) hb g1.1.1)) (PR_tr PR_fi (PR_tr (PR_nu (b := b) (l := 0) (u := 99) hb g3.1.1) ?_))
  show PRr _ (mpn4 b n _ _ _)
  unfold mpn4
  split
  · exact PR_tr (PR_b hb) (PR_tr (PR_b hb) (PR_tr (PR_b hb) (PR_b hb)))
  · exact PR_rf
theorem PR_pn {b : Nat} {m : gC} (hb : b < 200002) (h : MP b m) : PRr m (mpn b m) := by
  have g1 := MX_fi (p := decide (m b 0 = 10)) (z := 5) hb (MX_rf h) (by decide)
  have g2 := MX_mon hb g1
  have g3 := MX_nh hb g2
  exact PR_tr PR_fi (PR_tr (PR_mon g1.1.1.1.1) (PR_tr PR_nh (PR_tr PR_fi (PR_pn1 hb (MX_fi hb g3 (by decide)).1.1))))
theorem PR_S {m : gC} (h : MI m) : PRr m (mprS m) := by
  unfold mprS
  split
  · exact PR_mad h
  · exact PR_rf
theorem PR_r2 {b : Nat} {m : gC} {n f t : Int} (hb : b < 200002) (h : MP b m) : PRr m (mpr2 b n f t m) := by
  have g1 := MX_nu (l := 1) (u := 999) hb (MX_rf h)
  have g2 := MX_nu (l := 1) (u := 3) hb g1
  refine PR_tr (PR_nu (l := 1) (u := 999) hb h) (PR_tr (PR_nu (l := 1) (u := 3) hb g1.1.1) (PR_tr (PR_S g2.1.1.1.1) ?_))
  show PRr _ (mpr5 b n f t _ _ _ _)
  unfold mpr5
  split
  · exact PR_tr (PR_b hb) (PR_tr (PR_b hb) (PR_tr (PR_b hb) (PR_tr (PR_b hb) (PR_tr (PR_b hb) (PR_tr (PR_b hb) (PR_b hb))))))
  · exact PR_rf
theorem PR_pr {b : Nat} {m : gC} (hb : b < 200002) (h : MP b m) : PRr m (mpr b m) := by
  have g1 := MX_fi (p := decide (m b 1 = 12)) (z := 5) hb (MX_rf h) (by decide)
  have g2 := MX_mon hb g1
  have g3 := MX_nh hb g2
  have g4 := MX_fi (p := decide (¬ mfr (mnh (mon (mfi (decide (m b 1 = 12)) m 5))).2 b (mnh (mon (mfi (decide (m b 1 = 12)) m 5))).1 = -1)) (z := 3) hb g3 (by decide)
  have g5 := MX_mon hb g4
  have g6 := MX_nde (o := -1) hb g5
  exact PR_tr PR_fi (PR_tr (PR_mon g1.1.1.1.1) (PR_tr PR_nh (PR_tr PR_fi (PR_tr (PR_mon g4.1.1.1.1) (PR_tr (PR_nd (o := -1) hb g5.1.1) (PR_tr (PR_nd hb g6.1.1) (PR_r2 hb (MX_nde hb g6).1.1)))))))
theorem PR_s {b : Nat} {m : gC} (hb : b < 200002) (h : MP b m) : PRr m (mps b m) := by
  have g1 := MX_mad hb (MX_rf h)
  have g2 := MX_nh hb g1
  have g3 := MX_fi (p := decide (mfr (mnh (mad m)).2 b (mnh (mad m)).1 = -1)) (z := 4) hb g2 (by decide)
  have g4 := MX_mon hb g3
  refine PR_tr (PR_mad h.1.1) (PR_tr PR_nh (PR_tr PR_fi (PR_tr (PR_mon g3.1.1.1.1) ?_)))
  show PRr _ (mps3 b _ _)
  unfold mps3
  split
  · exact PR_tr (PR_nu (l := 0) (u := 999) hb g4.1.1) (PR_b hb)
  · exact PR_nu (l := 0) (u := 999) hb g4.1.1
theorem PR_ms {b : Nat} {m : gC} {a n : Int} (hb : b < 200002) (h : MP b m) (hn : AN a n) : PRr m (mpms b a n m) := by
  have key : MX b m (mpms b a n m) ∧ PRr m (mpms b a n m) := by
    refine itI_inv2 (fun x : gC => MX b m x ∧ PRr m x) (N := n) ⟨MX_rf h, PR_rf⟩ (fun j s h0 h1 hs => ?_) (Int.le_refl _)
    refine ⟨?_, PR_tr hs.2 (PR_tr (PR_nu (l := 0) (u := 99) hb hs.1.1.1) (PR_b hb))⟩
    have q := MX_ms (i := j + 1) hb (MX_rf h) hn (by omega)
    have g2 := MX_nu (l := 0) (u := 99) hb hs.1
    have r2 := mnu_rg (b := b) (l := 0) (u := 99) (c := s) (by decide)
    have hn2 := hn
    unfold AN at hn2
    exact MX_b hb g2 (by omega) (NW_gu g2.1.1.2 (by omega) (by omega) (by omega) (by omega) (by omega) (fun i _ _ e => by omega) (fun i _ _ => by omega)) (by omega) (by omega)
  exact key.2
theorem mtx_w {c : gC} {n l : Nat} (h : mtx c n l = true) : c 500001 19 = 1 := by
  unfold mtx at h
  simp only [Bool.and_eq_true, decide_eq_true_eq] at h
  exact h.1.2.1
/-- a statement that goes well has moved on -/
theorem mst1_PR {b : Nat} {m : gC} (hb : b < 200002) (h : MP b m) : PRr m (mst1 b m) ∧ (mgd (mst1 b m) = true → m 500001 19 = 1) := by
  have k : ∀ k : Int, MP b (mnc2 k m) := fun k => (MX_nc2 hb (MX_rf h)).1.1
  unfold mst1
  split
  · rename_i e; exact ⟨PR_pn hb h, fun _ => mtx_w e⟩
  split
  · rename_i e; exact ⟨PR_pr hb h, fun _ => mtx_w e⟩
  split
  · rename_i e; exact ⟨PR_tr (PR_nc2 hb h) (PR_ms hb (k 0) (Or.inl ⟨rfl, rfl⟩)), fun _ => mtx_w e⟩
  split
  · rename_i e; exact ⟨PR_tr (PR_nc2 hb h) (PR_tr (PR_nd (o := -1) hb (k 1)) (PR_b hb)), fun _ => mtx_w e⟩
  split
  · rename_i e; exact ⟨PR_tr (PR_nc2 hb h) (PR_tr (PR_nu (l := 0) (u := 9999) hb (k 2)) (PR_b hb)), fun _ => mtx_w e⟩
  split
  · rename_i e; exact ⟨PR_tr (PR_nc2 hb h) (PR_ms hb (k 3) (Or.inr (Or.inl ⟨rfl, rfl⟩))), fun _ => mtx_w e⟩
  split
  · rename_i e; exact ⟨PR_s hb h, fun _ => mtx_w e⟩
  split
  · rename_i e; exact ⟨PR_tr (PR_nc2 hb h) (PR_ms hb (k 4) (Or.inr (Or.inr ⟨rfl, rfl⟩))), fun _ => mtx_w e⟩
  · exact ⟨PR_fl, fun e => by rw [mfl_g (by decide)] at e; cases e⟩
theorem mstt_PR {b : Nat} {m : gC} (hb : b < 200002) (h : MP b m) (hg : mgd (mstt b m) = true) : m 500001 17 < mstt b m 500001 17 := by
  have g0 := (MX_st1 hb (MX_rf h))
  have g1 := mfi_g (by decide) (mgd_mon hg)
  have p1 := mst1_PR hb h
  have e1 := p1.2 g1.1
  have e2 := of_decide_eq_false g1.2.1
  have e3 : mst1 b m 500001 19 = 3 := by omega
  have p2 := PR_mon (MX_fi (p := mstP (mst1 b m)) (z := 1) hb g0 (by decide)).1.1.1.1
  rw [g1.2.2] at p2
  have e4 : mstt b m = mon (mst1 b m) := by
    unfold mstt mst2
    rw [g1.2.2]
  rw [e4]
  have q1 := p1.1.1
  have q2 := p1.1.2
  have q3 := p2.1
  have : ¬ mst1 b m 500001 17 = m 500001 17 := fun e => by
    have := q2 e
    omega
  omega
