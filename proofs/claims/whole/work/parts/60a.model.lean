/-! the reference: the whole network written -/
def mwN0 (c : gC) : gC := gu (tw c 0) 500001 25 0
def mwN1 (c : gC) : gC := itI mwno c (c 200000 0)
def mwN2 (c : gC) : gC := itI mwro c (c 200000 1)
def mwN3 (c : gC) : gC := mwns 3 5 11 4 c
def mwN4 (c : gC) : gC := if 0 < c 200000 0 then mput (mwnn (c 200000 2) (mwt c 4 5)) 59 else c
def mwN5 (c : gC) : gC := mwns 5 4 3 1 c
def mwN6 (c : gC) : gC := mwns 6 6 15 3 c
def mwN7 (c : gC) : gC := itI mwso c (c 200000 1)
def mwN8 (c : gC) : gC := mwns 8 4 4 1 c
def mwN (c : gC) : gC := mwN8 (mwN7 (mwN6 (mwN5 (mwN4 (mwN3 (mwN2 (mwN1 (mwN0 c))))))))
/-- what a network that is written must keep -/
def WQ (T : gT) (c0 c : gC) (L : Int) : Prop := (RG c ∧ LT T c) ∧ (c 200000 = c0 200000 ∧ (0 ≤ c 500001 25 ∧ c 500001 25 ≤ L))
def NQ (c : gC) : Prop := NW c 200000 ∧ ND c ∧ (0 ≤ c 200000 4 ∧ c 200000 4 ≤ 99) ∧ (0 < c 200000 0 → 0 ≤ c 200000 2)
theorem WQ_s {T : gT} {c0 c m : gC} {L L2 : Int} (h : WQ T c0 c L) (h2 : WK c m L2) : WQ T c0 m (L + L2) := by
  obtain ⟨⟨a1, a2⟩, a3, a4⟩ := h
  refine ⟨⟨h2.1, LT_of a2 (fun _ _ => rfl) fun k hk j => by rw [h2.2.2.1 k (by omega) (by omega)]⟩, (WK_n h2).trans a3, ?_⟩
  have := WK_25 h2
  omega
theorem WQ_le {T : gT} {c0 c : gC} {L L2 : Int} (h : WQ T c0 c L) (h2 : L ≤ L2) : WQ T c0 c L2 := ⟨h.1, h.2.1, by have := h.2.2; omega⟩
theorem WQ_N {T : gT} {c0 c : gC} {L : Int} (h : WQ T c0 c L) (hN : NQ c0) : NQ c := by
  unfold NQ at hN ⊢
  rw [h.2.1]
  exact ⟨NW_of hN.1 h.2.1, ND_of hN.2.1 h.2.1, hN.2.2⟩
theorem WQ_it {T : gT} {c0 c : gC} {L s N : Int} {f : Int → gC → gC} (hf : ∀ i m, RG m → 0 ≤ m 500001 25 ∧ m 500001 25 + s ≤ 1500 → WK m (f i m) s) (hs : 0 ≤ s) (h : WQ T c0 c L) (hL : L + s * N ≤ 1500) {i : Int} (h0 : 0 ≤ i) (h1 : i ≤ N) : WQ T c0 (itI f c i) (L + s * i) := WQ_s h (wits_ok (N := N) (fun i m _ _ h2 _ h3 => hf i m h2 h3) h.1.1 hs (by have := h.2.2; omega) h0 h1)
theorem WQ_0 {T : gT} {c : gC} (hc : RG c) (hL : LT T c) : WQ T c (mwN0 c) 0 := by
  refine ⟨⟨RG_gu (RG_gu hc (by decide)) (by decide), LT_of hL (fun _ _ => rfl) fun k hk j => ?_⟩, funext fun j => ?_, ?_⟩
  · unfold mwN0; rw [gu_k (by omega), tw_k (by omega)]
  · unfold mwN0; rw [gu_k (by decide), tw_k (by decide)]
  · unfold mwN0; rw [gu_s]; decide
set_option maxHeartbeats 1000000 in
theorem m_wN140 {d g : Nat} {T : gT} {c J : gC} (hd : 6 ≤ d) (hM : MT T 200000) {c0 : gC} (hQ : NQ c0) (h : WQ T c0 c 1011) {u : Value} (hu : am_nl u = true) : gw d g 330 140 [.ref 500001, u] [] (gm T c J) (fun o M1 => o = .inl (some (gi ((mwN8 c) 500001 25))) ∧ M1 = gm T ((mwN8 c)) J) := by
  have hq := WQ_N h hQ
  have h25 := h.2.2
  have hx := WQ_s h (mwns_ok (n := 8) (l := 4) (a := 4) (k := 1) (by decide) h.1.1 (by omega))
  have hv8 : ∀ i, 0 ≤ i → i < 1 → 0 ≤ c 200000 (4 + i) ∧ c 200000 (4 + i) ≤ 9999 := fun i a b => by
    rw [show i = 0 by omega]
    have := hq.2.2.1
    rw [Int.add_zero]
    omega
  refine gw_al0 at330_140 (gw_ldcsw (q := 900008) at330_141 rfl (gw_const at330_144 (gw_const at330_145 ?_)))
  refine gw_call4 at330_146 (m_writeNumbers (n := 8) (l := 4) (a := 4) (k := 1) hM h.1.1 (by omega) h.1.2 (by decide) rfl (by decide) (by decide) hv8) (by omega) (Nat.le_of_ble_eq_true rfl) (fun o M1 q146 => ?_)
  obtain ⟨rfl, rfl⟩ := q146
  show gw _ _ _ _ _ [] _ _
  refine gw_al0 at330_149 (gw_gf (j := 25) at330_150 (by first | exact MT_0 hM | exact MT_now hM | exact MT_bt hM | exact MT_bl hM | exact MT_r0 hM | exact MT_t0 hM | exact MT_l0 hM | exact MT_r1 hM | exact MT_t1 hM | exact MT_l1 hM | exact MT_r2 hM | exact MT_t2 hM | exact MT_l2 hM | exact MT_r3 hM | exact MT_t3 hM | exact MT_l3 hM | exact MT_r4 hM | exact MT_t4 hM | exact MT_l4 hM | exact MT_r5 hM | exact MT_t5 hM | exact MT_l5 hM | exact MT_r6 hM | exact MT_t6 hM | exact MT_l6 hM | exact MT_r7 hM | exact MT_t7 hM | exact MT_l7 hM | exact MT_r8 hM | exact MT_t8 hM | exact MT_l8 hM | exact MT_r9 hM | exact MT_t9 hM | exact MT_l9 hM | exact MT_r10 hM | exact MT_t10 hM | exact MT_l10 hM) rfl (gw_ri at330_153 am_r330.2.1 ⟨rfl, rfl⟩))
  skip
set_option maxHeartbeats 1000000 in
theorem m_wN117 {d g : Nat} {T : gT} {c J : gC} (hd : 6 ≤ d) (hM : MT T 200000) {c0 : gC} (hQ : NQ c0) (h : WQ T c0 c 807) {u : Value} (hu : am_nl u = true) : gw d g 330 117 [.ref 500001, u] [] (gm T c J) (fun o M1 => o = .inl (some (gi ((mwN8 (mwN7 c)) 500001 25))) ∧ M1 = gm T ((mwN8 (mwN7 c))) J) := by
  have hq := WQ_N h hQ
  have h25 := h.2.2
  have hN0 := hq.1.1.1
  have hN1 := hq.1.1.2
  have ec : c 200000 = c0 200000 := h.2.1
  refine gw_const at330_117 (gw_is1 at330_118 (h := ?_))
  have lp119 : ∀ i : Int, 0 ≤ i → i ≤ 12 → i ≤ c 200000 1 → gw d g 330 119 [.ref 500001, gi i] [] (gm T (itI mwso c i) J) (fun o M1 => o = .inl (some (gi ((mwN8 (mwN7 c)) 500001 25))) ∧ M1 = gm T ((mwN8 (mwN7 c))) J) := by
    refine ind_up 12 ?_
    intro i hi0 hi1 ih hi2
    have hx := WQ_it (f := mwso) (s := 17) (N := c 200000 1) (fun i m a b => mwso_ok a b) (by decide) h (by omega) hi0 hi2
    have hq2 := WQ_N hx hQ
    have h26 := hx.2.2
    have e3 := hx.2.1
    refine gw_il1 at330_119 ?_
    refine gw_al0 at330_120 (gw_gr at330_121 (by first | exact MT_0 hM | exact MT_now hM | exact MT_bt hM | exact MT_bl hM | exact MT_r0 hM | exact MT_t0 hM | exact MT_l0 hM | exact MT_r1 hM | exact MT_t1 hM | exact MT_l1 hM | exact MT_r2 hM | exact MT_t2 hM | exact MT_l2 hM | exact MT_r3 hM | exact MT_t3 hM | exact MT_l3 hM | exact MT_r4 hM | exact MT_t4 hM | exact MT_l4 hM | exact MT_r5 hM | exact MT_t5 hM | exact MT_l5 hM | exact MT_r6 hM | exact MT_t6 hM | exact MT_l6 hM | exact MT_r7 hM | exact MT_t7 hM | exact MT_l7 hM | exact MT_r8 hM | exact MT_t8 hM | exact MT_l8 hM | exact MT_r9 hM | exact MT_t9 hM | exact MT_l9 hM | exact MT_r10 hM | exact MT_t10 hM | exact MT_l10 hM) (by first | exact MT_0 hM | exact MT_now hM | exact MT_bt hM | exact MT_bl hM | exact MT_r0 hM | exact MT_t0 hM | exact MT_l0 hM | exact MT_r1 hM | exact MT_t1 hM | exact MT_l1 hM | exact MT_r2 hM | exact MT_t2 hM | exact MT_l2 hM | exact MT_r3 hM | exact MT_t3 hM | exact MT_l3 hM | exact MT_r4 hM | exact MT_t4 hM | exact MT_l4 hM | exact MT_r5 hM | exact MT_t5 hM | exact MT_l5 hM | exact MT_r6 hM | exact MT_t6 hM | exact MT_l6 hM | exact MT_r7 hM | exact MT_t7 hM | exact MT_l7 hM | exact MT_r8 hM | exact MT_t8 hM | exact MT_l8 hM | exact MT_r9 hM | exact MT_t9 hM | exact MT_l9 hM | exact MT_r10 hM | exact MT_t10 hM | exact MT_l10 hM) (gw_const at330_124 (gw_ia at330_125 (by first | exact Or.inl (by first | exact MT_0 hM | exact MT_now hM | exact MT_bt hM | exact MT_bl hM | exact MT_r0 hM | exact MT_t0 hM | exact MT_l0 hM | exact MT_r1 hM | exact MT_t1 hM | exact MT_l1 hM | exact MT_r2 hM | exact MT_t2 hM | exact MT_l2 hM | exact MT_r3 hM | exact MT_t3 hM | exact MT_l3 hM | exact MT_r4 hM | exact MT_t4 hM | exact MT_l4 hM | exact MT_r5 hM | exact MT_t5 hM | exact MT_l5 hM | exact MT_r6 hM | exact MT_t6 hM | exact MT_l6 hM | exact MT_r7 hM | exact MT_t7 hM | exact MT_l7 hM | exact MT_r8 hM | exact MT_t8 hM | exact MT_l8 hM | exact MT_r9 hM | exact MT_t9 hM | exact MT_l9 hM | exact MT_r10 hM | exact MT_t10 hM | exact MT_l10 hM) | exact Or.inr (by first | exact MT_0 hM | exact MT_now hM | exact MT_bt hM | exact MT_bl hM | exact MT_r0 hM | exact MT_t0 hM | exact MT_l0 hM | exact MT_r1 hM | exact MT_t1 hM | exact MT_l1 hM | exact MT_r2 hM | exact MT_t2 hM | exact MT_l2 hM | exact MT_r3 hM | exact MT_t3 hM | exact MT_l3 hM | exact MT_r4 hM | exact MT_t4 hM | exact MT_l4 hM | exact MT_r5 hM | exact MT_t5 hM | exact MT_l5 hM | exact MT_r6 hM | exact MT_t6 hM | exact MT_l6 hM | exact MT_r7 hM | exact MT_t7 hM | exact MT_l7 hM | exact MT_r8 hM | exact MT_t8 hM | exact MT_l8 hM | exact MT_r9 hM | exact MT_t9 hM | exact MT_l9 hM | exact MT_r10 hM | exact MT_t10 hM | exact MT_l10 hM)) (by first | exact MT_0 hM | exact MT_now hM | exact MT_bt hM | exact MT_bl hM | exact MT_r0 hM | exact MT_t0 hM | exact MT_l0 hM | exact MT_r1 hM | exact MT_t1 hM | exact MT_l1 hM | exact MT_r2 hM | exact MT_t2 hM | exact MT_l2 hM | exact MT_r3 hM | exact MT_t3 hM | exact MT_l3 hM | exact MT_r4 hM | exact MT_t4 hM | exact MT_l4 hM | exact MT_r5 hM | exact MT_t5 hM | exact MT_l5 hM | exact MT_r6 hM | exact MT_t6 hM | exact MT_l6 hM | exact MT_r7 hM | exact MT_t7 hM | exact MT_l7 hM | exact MT_r8 hM | exact MT_t8 hM | exact MT_l8 hM | exact MT_r9 hM | exact MT_t9 hM | exact MT_l9 hM | exact MT_r10 hM | exact MT_t10 hM | exact MT_l10 hM) (by first | omega | exact h.1.1 _ _ | exact hx.1.1 _ _) (by first | omega | exact h.1.1 _ _ | exact hx.1.1 _ _) (by omega) ?_)))
    rw [show itI mwso c i 200000 1 = c 200000 1 by rw [e3, ec]]
    refine gw_cge at330_126 (by first | omega | exact h.1.1 _ _ | exact hx.1.1 _ _) (by first | omega | exact h.1.1 _ _ | exact hx.1.1 _ _) (fun q126 => ?_) (fun q126 => ?_)
    · have e : i = c 200000 1 := by omega
      rw [e] at hx ⊢
      exact m_wN140 (by omega) hM hQ (WQ_le hx (by omega)) rfl
    · refine gw_al0 at330_129 (gw_il1 at330_130 ?_)
      refine gw_call2 at330_131 (m_writeSnow hM hx.1.1 (by omega) hx.1.2 hq2.2.1 (by omega)) (by omega) (Nat.le_of_ble_eq_true rfl) (fun o M1 q131 => ?_)
      obtain ⟨rfl, rfl⟩ := q131
      show gw _ _ _ _ _ [] _ _
      refine gw_inc1 at330_134 (h := (gw_goto at330_137 ?_))
      have h9 := ih (i + 1) (by omega) (by omega) (by omega)
      rw [itI_s _ _ hi0] at h9
      exact h9
  exact lp119 0 (by decide) (by decide) (by omega)
set_option maxHeartbeats 1000000 in
theorem m_wN98 {d g : Nat} {T : gT} {c J : gC} (hd : 6 ≤ d) (hM : MT T 200000) {c0 : gC} (hQ : NQ c0) (h : WQ T c0 c 775) {u : Value} (hu : am_nl u = true) : gw d g 330 98 [.ref 500001, u] [] (gm T c J) (fun o M1 => o = .inl (some (gi ((mwN8 (mwN7 (mwN6 (mwN5 c)))) 500001 25))) ∧ M1 = gm T ((mwN8 (mwN7 (mwN6 (mwN5 c))))) J) := by
  have hq := WQ_N h hQ
  have h25 := h.2.2
  have hx := WQ_s h (mwns_ok (n := 5) (l := 4) (a := 3) (k := 1) (by decide) h.1.1 (by omega))
  have hq2 := WQ_N hx hQ
  have h26 := hx.2.2
  have hy := WQ_s hx (mwns_ok (n := 6) (l := 6) (a := 15) (k := 3) (by decide) hx.1.1 (by omega))
  have hv5 : ∀ i, 0 ≤ i → i < 1 → 0 ≤ c 200000 (3 + i) ∧ c 200000 (3 + i) ≤ 9999 := fun i a b => by
    rw [show i = 0 by omega]
    have := hq.1.2.1.2
    rw [Int.add_zero]
    omega
  have hv6 : ∀ i, 0 ≤ i → i < 3 → 0 ≤ mwns 5 4 3 1 c 200000 (15 + i) ∧ mwns 5 4 3 1 c 200000 (15 + i) ≤ 9999 := fun i a b => by
    have := hq2.1.2.2.2.1 i a b
    omega
  refine gw_al0 at330_98 (gw_ldcsw (q := 900005) at330_99 rfl (gw_const at330_102 (gw_const at330_103 ?_)))
  refine gw_call4 at330_104 (m_writeNumbers (n := 5) (l := 4) (a := 3) (k := 1) hM h.1.1 (by omega) h.1.2 (by decide) rfl (by decide) (by decide) hv5) (by omega) (Nat.le_of_ble_eq_true rfl) (fun o M1 q104 => ?_)
  obtain ⟨rfl, rfl⟩ := q104
  show gw _ _ _ _ _ [] _ _
  refine gw_al0 at330_107 (gw_ldcsw (q := 900006) at330_108 rfl (gw_bip at330_111 (by decide) (gw_const at330_113 ?_)))
  refine gw_call4 at330_114 (m_writeNumbers (n := 6) (l := 6) (a := 15) (k := 3) hM hx.1.1 (by omega) hx.1.2 (by decide) rfl (by decide) (by decide) hv6) (by omega) (Nat.le_of_ble_eq_true rfl) (fun o M1 q114 => ?_)
  obtain ⟨rfl, rfl⟩ := q114
  show gw _ _ _ _ _ [] _ _
  exact m_wN117 (by omega) hM hQ (WQ_le hy (by decide)) hu
set_option maxHeartbeats 1000000 in
theorem m_wN66 {d g : Nat} {T : gT} {c J : gC} (hd : 6 ≤ d) (hM : MT T 200000) {c0 : gC} (hQ : NQ c0) (h : WQ T c0 c 762) {u : Value} (hu : am_nl u = true) : gw d g 330 66 [.ref 500001, u] [] (gm T c J) (fun o M1 => o = .inl (some (gi ((mwN8 (mwN7 (mwN6 (mwN5 (mwN4 c))))) 500001 25))) ∧ M1 = gm T ((mwN8 (mwN7 (mwN6 (mwN5 (mwN4 c)))))) J) := by
  have hq := WQ_N h hQ
  have h25 := h.2.2
  have hN0 := hq.1.1.1
  have hN1 := hq.1.1.2
  have ec : c 200000 = c0 200000 := h.2.1
  have hd : c 200000 2 < 10 := hq.1.2.1.1.2
  have v1 := mwt_ok (c := c) (n := 4) (l := 5) (by decide) h.1.1 (by omega)
  have w1 := v1
  have d1 := WK_25 w1
  have e1 := WK_n w1
  have v2 := mwm_ok (v := mwt c 4 5 200000 (22 + 3 * c 200000 2)) w1.1 (by omega)
  have w2 := WK_tr w1 v2
  have d2 := WK_25 w2
  have e2 := WK_n w2
  have v3 := mput_ok (v := 59) w2.1 (by omega)
  have w3 := WK_tr w2 v3
  have d3 := WK_25 w3
  have e3 := WK_n w3
  refine gw_al0 at330_66 (gw_gr at330_67 (by first | exact MT_0 hM | exact MT_now hM | exact MT_bt hM | exact MT_bl hM | exact MT_r0 hM | exact MT_t0 hM | exact MT_l0 hM | exact MT_r1 hM | exact MT_t1 hM | exact MT_l1 hM | exact MT_r2 hM | exact MT_t2 hM | exact MT_l2 hM | exact MT_r3 hM | exact MT_t3 hM | exact MT_l3 hM | exact MT_r4 hM | exact MT_t4 hM | exact MT_l4 hM | exact MT_r5 hM | exact MT_t5 hM | exact MT_l5 hM | exact MT_r6 hM | exact MT_t6 hM | exact MT_l6 hM | exact MT_r7 hM | exact MT_t7 hM | exact MT_l7 hM | exact MT_r8 hM | exact MT_t8 hM | exact MT_l8 hM | exact MT_r9 hM | exact MT_t9 hM | exact MT_l9 hM | exact MT_r10 hM | exact MT_t10 hM | exact MT_l10 hM) (by first | exact MT_0 hM | exact MT_now hM | exact MT_bt hM | exact MT_bl hM | exact MT_r0 hM | exact MT_t0 hM | exact MT_l0 hM | exact MT_r1 hM | exact MT_t1 hM | exact MT_l1 hM | exact MT_r2 hM | exact MT_t2 hM | exact MT_l2 hM | exact MT_r3 hM | exact MT_t3 hM | exact MT_l3 hM | exact MT_r4 hM | exact MT_t4 hM | exact MT_l4 hM | exact MT_r5 hM | exact MT_t5 hM | exact MT_l5 hM | exact MT_r6 hM | exact MT_t6 hM | exact MT_l6 hM | exact MT_r7 hM | exact MT_t7 hM | exact MT_l7 hM | exact MT_r8 hM | exact MT_t8 hM | exact MT_l8 hM | exact MT_r9 hM | exact MT_t9 hM | exact MT_l9 hM | exact MT_r10 hM | exact MT_t10 hM | exact MT_l10 hM) (gw_const at330_70 (gw_ia at330_71 (by first | exact Or.inl (by first | exact MT_0 hM | exact MT_now hM | exact MT_bt hM | exact MT_bl hM | exact MT_r0 hM | exact MT_t0 hM | exact MT_l0 hM | exact MT_r1 hM | exact MT_t1 hM | exact MT_l1 hM | exact MT_r2 hM | exact MT_t2 hM | exact MT_l2 hM | exact MT_r3 hM | exact MT_t3 hM | exact MT_l3 hM | exact MT_r4 hM | exact MT_t4 hM | exact MT_l4 hM | exact MT_r5 hM | exact MT_t5 hM | exact MT_l5 hM | exact MT_r6 hM | exact MT_t6 hM | exact MT_l6 hM | exact MT_r7 hM | exact MT_t7 hM | exact MT_l7 hM | exact MT_r8 hM | exact MT_t8 hM | exact MT_l8 hM | exact MT_r9 hM | exact MT_t9 hM | exact MT_l9 hM | exact MT_r10 hM | exact MT_t10 hM | exact MT_l10 hM) | exact Or.inr (by first | exact MT_0 hM | exact MT_now hM | exact MT_bt hM | exact MT_bl hM | exact MT_r0 hM | exact MT_t0 hM | exact MT_l0 hM | exact MT_r1 hM | exact MT_t1 hM | exact MT_l1 hM | exact MT_r2 hM | exact MT_t2 hM | exact MT_l2 hM | exact MT_r3 hM | exact MT_t3 hM | exact MT_l3 hM | exact MT_r4 hM | exact MT_t4 hM | exact MT_l4 hM | exact MT_r5 hM | exact MT_t5 hM | exact MT_l5 hM | exact MT_r6 hM | exact MT_t6 hM | exact MT_l6 hM | exact MT_r7 hM | exact MT_t7 hM | exact MT_l7 hM | exact MT_r8 hM | exact MT_t8 hM | exact MT_l8 hM | exact MT_r9 hM | exact MT_t9 hM | exact MT_l9 hM | exact MT_r10 hM | exact MT_t10 hM | exact MT_l10 hM)) (by first | exact MT_0 hM | exact MT_now hM | exact MT_bt hM | exact MT_bl hM | exact MT_r0 hM | exact MT_t0 hM | exact MT_l0 hM | exact MT_r1 hM | exact MT_t1 hM | exact MT_l1 hM | exact MT_r2 hM | exact MT_t2 hM | exact MT_l2 hM | exact MT_r3 hM | exact MT_t3 hM | exact MT_l3 hM | exact MT_r4 hM | exact MT_t4 hM | exact MT_l4 hM | exact MT_r5 hM | exact MT_t5 hM | exact MT_l5 hM | exact MT_r6 hM | exact MT_t6 hM | exact MT_l6 hM | exact MT_r7 hM | exact MT_t7 hM | exact MT_l7 hM | exact MT_r8 hM | exact MT_t8 hM | exact MT_l8 hM | exact MT_r9 hM | exact MT_t9 hM | exact MT_l9 hM | exact MT_r10 hM | exact MT_t10 hM | exact MT_l10 hM) (by first | omega | exact h.1.1 _ _ | exact w1.1 _ _) (by first | omega | exact h.1.1 _ _ | exact w1.1 _ _) (by omega) ?_)))
  refine gw_zle at330_72 (by first | omega | exact h.1.1 _ _ | exact w1.1 _ _) (fun q72 => ?_) (fun q72 => ?_)
  · first
    | (rw [show mwN4 c = mput (mwnn (c 200000 2) (mwt c 4 5)) 59 from if_pos (by omega)]
       exact m_wN98 (by omega) hM hQ (WQ_le (WQ_s h w3) (by decide)) hu)
    | (rw [show mwN4 c = c from if_neg (by omega)]
       exact m_wN98 (by omega) hM hQ (WQ_le h (by decide)) hu)
  · refine gw_al0 at330_75 (gw_ldcsw (q := 900004) at330_76 rfl ?_)
    refine gw_call2 at330_79 (m_writeText (n := 4) (l := 5) hM h.1.1 (by omega) h.1.2 (by decide) rfl) (by omega) (Nat.le_of_ble_eq_true rfl) (fun o M1 q79 => ?_)
    obtain ⟨rfl, rfl⟩ := q79
    show gw _ _ _ _ _ [] _ _
    refine gw_al0 at330_82 (gw_al0 at330_83 (gw_gr at330_84 (by first | exact MT_0 hM | exact MT_now hM | exact MT_bt hM | exact MT_bl hM | exact MT_r0 hM | exact MT_t0 hM | exact MT_l0 hM | exact MT_r1 hM | exact MT_t1 hM | exact MT_l1 hM | exact MT_r2 hM | exact MT_t2 hM | exact MT_l2 hM | exact MT_r3 hM | exact MT_t3 hM | exact MT_l3 hM | exact MT_r4 hM | exact MT_t4 hM | exact MT_l4 hM | exact MT_r5 hM | exact MT_t5 hM | exact MT_l5 hM | exact MT_r6 hM | exact MT_t6 hM | exact MT_l6 hM | exact MT_r7 hM | exact MT_t7 hM | exact MT_l7 hM | exact MT_r8 hM | exact MT_t8 hM | exact MT_l8 hM | exact MT_r9 hM | exact MT_t9 hM | exact MT_l9 hM | exact MT_r10 hM | exact MT_t10 hM | exact MT_l10 hM) (by first | exact MT_0 hM | exact MT_now hM | exact MT_bt hM | exact MT_bl hM | exact MT_r0 hM | exact MT_t0 hM | exact MT_l0 hM | exact MT_r1 hM | exact MT_t1 hM | exact MT_l1 hM | exact MT_r2 hM | exact MT_t2 hM | exact MT_l2 hM | exact MT_r3 hM | exact MT_t3 hM | exact MT_l3 hM | exact MT_r4 hM | exact MT_t4 hM | exact MT_l4 hM | exact MT_r5 hM | exact MT_t5 hM | exact MT_l5 hM | exact MT_r6 hM | exact MT_t6 hM | exact MT_l6 hM | exact MT_r7 hM | exact MT_t7 hM | exact MT_l7 hM | exact MT_r8 hM | exact MT_t8 hM | exact MT_l8 hM | exact MT_r9 hM | exact MT_t9 hM | exact MT_l9 hM | exact MT_r10 hM | exact MT_t10 hM | exact MT_l10 hM) (gw_const at330_87 (gw_ia at330_88 (by first | exact Or.inl (by first | exact MT_0 hM | exact MT_now hM | exact MT_bt hM | exact MT_bl hM | exact MT_r0 hM | exact MT_t0 hM | exact MT_l0 hM | exact MT_r1 hM | exact MT_t1 hM | exact MT_l1 hM | exact MT_r2 hM | exact MT_t2 hM | exact MT_l2 hM | exact MT_r3 hM | exact MT_t3 hM | exact MT_l3 hM | exact MT_r4 hM | exact MT_t4 hM | exact MT_l4 hM | exact MT_r5 hM | exact MT_t5 hM | exact MT_l5 hM | exact MT_r6 hM | exact MT_t6 hM | exact MT_l6 hM | exact MT_r7 hM | exact MT_t7 hM | exact MT_l7 hM | exact MT_r8 hM | exact MT_t8 hM | exact MT_l8 hM | exact MT_r9 hM | exact MT_t9 hM | exact MT_l9 hM | exact MT_r10 hM | exact MT_t10 hM | exact MT_l10 hM) | exact Or.inr (by first | exact MT_0 hM | exact MT_now hM | exact MT_bt hM | exact MT_bl hM | exact MT_r0 hM | exact MT_t0 hM | exact MT_l0 hM | exact MT_r1 hM | exact MT_t1 hM | exact MT_l1 hM | exact MT_r2 hM | exact MT_t2 hM | exact MT_l2 hM | exact MT_r3 hM | exact MT_t3 hM | exact MT_l3 hM | exact MT_r4 hM | exact MT_t4 hM | exact MT_l4 hM | exact MT_r5 hM | exact MT_t5 hM | exact MT_l5 hM | exact MT_r6 hM | exact MT_t6 hM | exact MT_l6 hM | exact MT_r7 hM | exact MT_t7 hM | exact MT_l7 hM | exact MT_r8 hM | exact MT_t8 hM | exact MT_l8 hM | exact MT_r9 hM | exact MT_t9 hM | exact MT_l9 hM | exact MT_r10 hM | exact MT_t10 hM | exact MT_l10 hM)) (by first | exact MT_0 hM | exact MT_now hM | exact MT_bt hM | exact MT_bl hM | exact MT_r0 hM | exact MT_t0 hM | exact MT_l0 hM | exact MT_r1 hM | exact MT_t1 hM | exact MT_l1 hM | exact MT_r2 hM | exact MT_t2 hM | exact MT_l2 hM | exact MT_r3 hM | exact MT_t3 hM | exact MT_l3 hM | exact MT_r4 hM | exact MT_t4 hM | exact MT_l4 hM | exact MT_r5 hM | exact MT_t5 hM | exact MT_l5 hM | exact MT_r6 hM | exact MT_t6 hM | exact MT_l6 hM | exact MT_r7 hM | exact MT_t7 hM | exact MT_l7 hM | exact MT_r8 hM | exact MT_t8 hM | exact MT_l8 hM | exact MT_r9 hM | exact MT_t9 hM | exact MT_l9 hM | exact MT_r10 hM | exact MT_t10 hM | exact MT_l10 hM) (by first | omega | exact h.1.1 _ _ | exact w1.1 _ _) (by first | omega | exact h.1.1 _ _ | exact w1.1 _ _) (by omega) ?_))))
    rw [show mwt c 4 ((5 : Nat) : Int) 200000 2 = c 200000 2 from congrFun e1 2]
    refine gw_call2 at330_89 (m_writeNodeName hM w1.1 (by omega) (ND_of hq.2.1 e1) (by have := hq.2.2.2 (by omega); omega)) (by omega) (Nat.le_of_ble_eq_true rfl) (fun o M1 q89 => ?_)
    obtain ⟨rfl, rfl⟩ := q89
    show gw _ _ _ _ _ [] _ _
    refine gw_al0 at330_92 (gw_bip at330_93 (by decide) ?_)
    refine gw_call2 at330_95 (m_write hM w2.1 (by omega)) (by omega) (Nat.le_of_ble_eq_true rfl) (fun o M1 q95 => ?_)
    obtain ⟨rfl, rfl⟩ := q95
    show gw _ _ _ _ _ [] _ _
    first
    | (rw [show mwN4 c = mput (mwnn (c 200000 2) (mwt c 4 5)) 59 from if_pos (by omega)]
       exact m_wN98 (by omega) hM hQ (WQ_le (WQ_s h w3) (by decide)) hu)
    | (rw [show mwN4 c = c from if_neg (by omega)]
       exact m_wN98 (by omega) hM hQ (WQ_le h (by decide)) hu)
set_option maxHeartbeats 1000000 in
theorem m_wN56 {d g : Nat} {T : gT} {c J : gC} (hd : 6 ≤ d) (hM : MT T 200000) {c0 : gC} (hQ : NQ c0) (h : WQ T c0 c 736) {u : Value} (hu : am_nl u = true) : gw d g 330 56 [.ref 500001, u] [] (gm T c J) (fun o M1 => o = .inl (some (gi ((mwN8 (mwN7 (mwN6 (mwN5 (mwN4 (mwN3 c)))))) 500001 25))) ∧ M1 = gm T ((mwN8 (mwN7 (mwN6 (mwN5 (mwN4 (mwN3 c))))))) J) := by
  have hq := WQ_N h hQ
  have h25 := h.2.2
  have hx := WQ_s h (mwns_ok (n := 3) (l := 5) (a := 11) (k := 4) (by decide) h.1.1 (by omega))
  have hv3 : ∀ i, 0 ≤ i → i < 4 → 0 ≤ c 200000 (11 + i) ∧ c 200000 (11 + i) ≤ 9999 := fun i a b => by
    have := hq.1.2.2.1 i a b
    omega
  refine gw_al0 at330_56 (gw_ldcsw (q := 900003) at330_57 rfl (gw_bip at330_60 (by decide) (gw_const at330_62 ?_)))
  refine gw_call4 at330_63 (m_writeNumbers (n := 3) (l := 5) (a := 11) (k := 4) hM h.1.1 (by omega) h.1.2 (by decide) rfl (by decide) (by decide) hv3) (by omega) (Nat.le_of_ble_eq_true rfl) (fun o M1 q63 => ?_)
  obtain ⟨rfl, rfl⟩ := q63
  show gw _ _ _ _ _ [] _ _
  exact m_wN66 (by omega) hM hQ (WQ_le hx (by decide)) hu
set_option maxHeartbeats 1000000 in
theorem m_wN33 {d g : Nat} {T : gT} {c J : gC} (hd : 6 ≤ d) (hM : MT T 200000) {c0 : gC} (hQ : NQ c0) (h : WQ T c0 c 220) {u : Value} (hu : am_nl u = true) : gw d g 330 33 [.ref 500001, u] [] (gm T c J) (fun o M1 => o = .inl (some (gi ((mwN8 (mwN7 (mwN6 (mwN5 (mwN4 (mwN3 (mwN2 c))))))) 500001 25))) ∧ M1 = gm T ((mwN8 (mwN7 (mwN6 (mwN5 (mwN4 (mwN3 (mwN2 c)))))))) J) := by
  have hq := WQ_N h hQ
  have h25 := h.2.2
  have hN0 := hq.1.1.1
  have hN1 := hq.1.1.2
  have ec : c 200000 = c0 200000 := h.2.1
  refine gw_const at330_33 (gw_is1 at330_34 (h := ?_))
  have lp35 : ∀ i : Int, 0 ≤ i → i ≤ 12 → i ≤ c 200000 1 → gw d g 330 35 [.ref 500001, gi i] [] (gm T (itI mwro c i) J) (fun o M1 => o = .inl (some (gi ((mwN8 (mwN7 (mwN6 (mwN5 (mwN4 (mwN3 (mwN2 c))))))) 500001 25))) ∧ M1 = gm T ((mwN8 (mwN7 (mwN6 (mwN5 (mwN4 (mwN3 (mwN2 c)))))))) J) := by
    refine ind_up 12 ?_
    intro i hi0 hi1 ih hi2
    have hx := WQ_it (f := mwro) (s := 43) (N := c 200000 1) (fun i m a b => mwro_ok a b) (by decide) h (by omega) hi0 hi2
    have hq2 := WQ_N hx hQ
    have h26 := hx.2.2
    have e3 := hx.2.1
    refine gw_il1 at330_35 ?_
    refine gw_al0 at330_36 (gw_gr at330_37 (by first | exact MT_0 hM | exact MT_now hM | exact MT_bt hM | exact MT_bl hM | exact MT_r0 hM | exact MT_t0 hM | exact MT_l0 hM | exact MT_r1 hM | exact MT_t1 hM | exact MT_l1 hM | exact MT_r2 hM | exact MT_t2 hM | exact MT_l2 hM | exact MT_r3 hM | exact MT_t3 hM | exact MT_l3 hM | exact MT_r4 hM | exact MT_t4 hM | exact MT_l4 hM | exact MT_r5 hM | exact MT_t5 hM | exact MT_l5 hM | exact MT_r6 hM | exact MT_t6 hM | exact MT_l6 hM | exact MT_r7 hM | exact MT_t7 hM | exact MT_l7 hM | exact MT_r8 hM | exact MT_t8 hM | exact MT_l8 hM | exact MT_r9 hM | exact MT_t9 hM | exact MT_l9 hM | exact MT_r10 hM | exact MT_t10 hM | exact MT_l10 hM) (by first | exact MT_0 hM | exact MT_now hM | exact MT_bt hM | exact MT_bl hM | exact MT_r0 hM | exact MT_t0 hM | exact MT_l0 hM | exact MT_r1 hM | exact MT_t1 hM | exact MT_l1 hM | exact MT_r2 hM | exact MT_t2 hM | exact MT_l2 hM | exact MT_r3 hM | exact MT_t3 hM | exact MT_l3 hM | exact MT_r4 hM | exact MT_t4 hM | exact MT_l4 hM | exact MT_r5 hM | exact MT_t5 hM | exact MT_l5 hM | exact MT_r6 hM | exact MT_t6 hM | exact MT_l6 hM | exact MT_r7 hM | exact MT_t7 hM | exact MT_l7 hM | exact MT_r8 hM | exact MT_t8 hM | exact MT_l8 hM | exact MT_r9 hM | exact MT_t9 hM | exact MT_l9 hM | exact MT_r10 hM | exact MT_t10 hM | exact MT_l10 hM) (gw_const at330_40 (gw_ia at330_41 (by first | exact Or.inl (by first | exact MT_0 hM | exact MT_now hM | exact MT_bt hM | exact MT_bl hM | exact MT_r0 hM | exact MT_t0 hM | exact MT_l0 hM | exact MT_r1 hM | exact MT_t1 hM | exact MT_l1 hM | exact MT_r2 hM | exact MT_t2 hM | exact MT_l2 hM | exact MT_r3 hM | exact MT_t3 hM | exact MT_l3 hM | exact MT_r4 hM | exact MT_t4 hM | exact MT_l4 hM | exact MT_r5 hM | exact MT_t5 hM | exact MT_l5 hM | exact MT_r6 hM | exact MT_t6 hM | exact MT_l6 hM | exact MT_r7 hM | exact MT_t7 hM | exact MT_l7 hM | exact MT_r8 hM | exact MT_t8 hM | exact MT_l8 hM | exact MT_r9 hM | exact MT_t9 hM | exact MT_l9 hM | exact MT_r10 hM | exact MT_t10 hM | exact MT_l10 hM) | exact Or.inr (by first | exact MT_0 hM | exact MT_now hM | exact MT_bt hM | exact MT_bl hM | exact MT_r0 hM | exact MT_t0 hM | exact MT_l0 hM | exact MT_r1 hM | exact MT_t1 hM | exact MT_l1 hM | exact MT_r2 hM | exact MT_t2 hM | exact MT_l2 hM | exact MT_r3 hM | exact MT_t3 hM | exact MT_l3 hM | exact MT_r4 hM | exact MT_t4 hM | exact MT_l4 hM | exact MT_r5 hM | exact MT_t5 hM | exact MT_l5 hM | exact MT_r6 hM | exact MT_t6 hM | exact MT_l6 hM | exact MT_r7 hM | exact MT_t7 hM | exact MT_l7 hM | exact MT_r8 hM | exact MT_t8 hM | exact MT_l8 hM | exact MT_r9 hM | exact MT_t9 hM | exact MT_l9 hM | exact MT_r10 hM | exact MT_t10 hM | exact MT_l10 hM)) (by first | exact MT_0 hM | exact MT_now hM | exact MT_bt hM | exact MT_bl hM | exact MT_r0 hM | exact MT_t0 hM | exact MT_l0 hM | exact MT_r1 hM | exact MT_t1 hM | exact MT_l1 hM | exact MT_r2 hM | exact MT_t2 hM | exact MT_l2 hM | exact MT_r3 hM | exact MT_t3 hM | exact MT_l3 hM | exact MT_r4 hM | exact MT_t4 hM | exact MT_l4 hM | exact MT_r5 hM | exact MT_t5 hM | exact MT_l5 hM | exact MT_r6 hM | exact MT_t6 hM | exact MT_l6 hM | exact MT_r7 hM | exact MT_t7 hM | exact MT_l7 hM | exact MT_r8 hM | exact MT_t8 hM | exact MT_l8 hM | exact MT_r9 hM | exact MT_t9 hM | exact MT_l9 hM | exact MT_r10 hM | exact MT_t10 hM | exact MT_l10 hM) (by first | omega | exact h.1.1 _ _ | exact hx.1.1 _ _) (by first | omega | exact h.1.1 _ _ | exact hx.1.1 _ _) (by omega) ?_)))
    rw [show itI mwro c i 200000 1 = c 200000 1 by rw [e3, ec]]
    refine gw_cge at330_42 (by first | omega | exact h.1.1 _ _ | exact hx.1.1 _ _) (by first | omega | exact h.1.1 _ _ | exact hx.1.1 _ _) (fun q42 => ?_) (fun q42 => ?_)
    · have e : i = c 200000 1 := by omega
      rw [e] at hx ⊢
      exact m_wN56 (by omega) hM hQ (WQ_le hx (by omega)) rfl
    · refine gw_al0 at330_45 (gw_il1 at330_46 ?_)
      refine gw_call2 at330_47 (m_writeRoad hM hx.1.1 (by omega) hx.1.2 hq2.2.1 hq2.1 (by omega)) (by omega) (Nat.le_of_ble_eq_true rfl) (fun o M1 q47 => ?_)
      obtain ⟨rfl, rfl⟩ := q47
      show gw _ _ _ _ _ [] _ _
      refine gw_inc1 at330_50 (h := (gw_goto at330_53 ?_))
      have h9 := ih (i + 1) (by omega) (by omega) (by omega)
      rw [itI_s _ _ hi0] at h9
      exact h9
  exact lp35 0 (by decide) (by decide) (by omega)
set_option maxHeartbeats 1000000 in
theorem m_wN10 {d g : Nat} {T : gT} {c J : gC} (hd : 6 ≤ d) (hM : MT T 200000) {c0 : gC} (hQ : NQ c0) (h : WQ T c0 c 0) {u : Value} (hu : am_nl u = true) : gw d g 330 10 [.ref 500001, u] [] (gm T c J) (fun o M1 => o = .inl (some (gi ((mwN8 (mwN7 (mwN6 (mwN5 (mwN4 (mwN3 (mwN2 (mwN1 c)))))))) 500001 25))) ∧ M1 = gm T ((mwN8 (mwN7 (mwN6 (mwN5 (mwN4 (mwN3 (mwN2 (mwN1 c))))))))) J) := by
  have hq := WQ_N h hQ
  have h25 := h.2.2
  have hN0 := hq.1.1.1
  have hN1 := hq.1.1.2
  have ec : c 200000 = c0 200000 := h.2.1
  refine gw_const at330_10 (gw_is1 at330_11 (h := ?_))
  have lp12 : ∀ i : Int, 0 ≤ i → i ≤ 12 → i ≤ c 200000 0 → gw d g 330 12 [.ref 500001, gi i] [] (gm T (itI mwno c i) J) (fun o M1 => o = .inl (some (gi ((mwN8 (mwN7 (mwN6 (mwN5 (mwN4 (mwN3 (mwN2 (mwN1 c)))))))) 500001 25))) ∧ M1 = gm T ((mwN8 (mwN7 (mwN6 (mwN5 (mwN4 (mwN3 (mwN2 (mwN1 c))))))))) J) := by
    refine ind_up 12 ?_
    intro i hi0 hi1 ih hi2
    have hx := WQ_it (f := mwno) (s := 22) (N := c 200000 0) (fun i m a b => mwno_ok a b) (by decide) h (by omega) hi0 hi2
    have hq2 := WQ_N hx hQ
    have h26 := hx.2.2
    have e3 := hx.2.1
    refine gw_il1 at330_12 ?_
    refine gw_al0 at330_13 (gw_gr at330_14 (by first | exact MT_0 hM | exact MT_now hM | exact MT_bt hM | exact MT_bl hM | exact MT_r0 hM | exact MT_t0 hM | exact MT_l0 hM | exact MT_r1 hM | exact MT_t1 hM | exact MT_l1 hM | exact MT_r2 hM | exact MT_t2 hM | exact MT_l2 hM | exact MT_r3 hM | exact MT_t3 hM | exact MT_l3 hM | exact MT_r4 hM | exact MT_t4 hM | exact MT_l4 hM | exact MT_r5 hM | exact MT_t5 hM | exact MT_l5 hM | exact MT_r6 hM | exact MT_t6 hM | exact MT_l6 hM | exact MT_r7 hM | exact MT_t7 hM | exact MT_l7 hM | exact MT_r8 hM | exact MT_t8 hM | exact MT_l8 hM | exact MT_r9 hM | exact MT_t9 hM | exact MT_l9 hM | exact MT_r10 hM | exact MT_t10 hM | exact MT_l10 hM) (by first | exact MT_0 hM | exact MT_now hM | exact MT_bt hM | exact MT_bl hM | exact MT_r0 hM | exact MT_t0 hM | exact MT_l0 hM | exact MT_r1 hM | exact MT_t1 hM | exact MT_l1 hM | exact MT_r2 hM | exact MT_t2 hM | exact MT_l2 hM | exact MT_r3 hM | exact MT_t3 hM | exact MT_l3 hM | exact MT_r4 hM | exact MT_t4 hM | exact MT_l4 hM | exact MT_r5 hM | exact MT_t5 hM | exact MT_l5 hM | exact MT_r6 hM | exact MT_t6 hM | exact MT_l6 hM | exact MT_r7 hM | exact MT_t7 hM | exact MT_l7 hM | exact MT_r8 hM | exact MT_t8 hM | exact MT_l8 hM | exact MT_r9 hM | exact MT_t9 hM | exact MT_l9 hM | exact MT_r10 hM | exact MT_t10 hM | exact MT_l10 hM) (gw_const at330_17 (gw_ia at330_18 (by first | exact Or.inl (by first | exact MT_0 hM | exact MT_now hM | exact MT_bt hM | exact MT_bl hM | exact MT_r0 hM | exact MT_t0 hM | exact MT_l0 hM | exact MT_r1 hM | exact MT_t1 hM | exact MT_l1 hM | exact MT_r2 hM | exact MT_t2 hM | exact MT_l2 hM | exact MT_r3 hM | exact MT_t3 hM | exact MT_l3 hM | exact MT_r4 hM | exact MT_t4 hM | exact MT_l4 hM | exact MT_r5 hM | exact MT_t5 hM | exact MT_l5 hM | exact MT_r6 hM | exact MT_t6 hM | exact MT_l6 hM | exact MT_r7 hM | exact MT_t7 hM | exact MT_l7 hM | exact MT_r8 hM | exact MT_t8 hM | exact MT_l8 hM | exact MT_r9 hM | exact MT_t9 hM | exact MT_l9 hM | exact MT_r10 hM | exact MT_t10 hM | exact MT_l10 hM) | exact Or.inr (by first | exact MT_0 hM | exact MT_now hM | exact MT_bt hM | exact MT_bl hM | exact MT_r0 hM | exact MT_t0 hM | exact MT_l0 hM | exact MT_r1 hM | exact MT_t1 hM | exact MT_l1 hM | exact MT_r2 hM | exact MT_t2 hM | exact MT_l2 hM | exact MT_r3 hM | exact MT_t3 hM | exact MT_l3 hM | exact MT_r4 hM | exact MT_t4 hM | exact MT_l4 hM | exact MT_r5 hM | exact MT_t5 hM | exact MT_l5 hM | exact MT_r6 hM | exact MT_t6 hM | exact MT_l6 hM | exact MT_r7 hM | exact MT_t7 hM | exact MT_l7 hM | exact MT_r8 hM | exact MT_t8 hM | exact MT_l8 hM | exact MT_r9 hM | exact MT_t9 hM | exact MT_l9 hM | exact MT_r10 hM | exact MT_t10 hM | exact MT_l10 hM)) (by first | exact MT_0 hM | exact MT_now hM | exact MT_bt hM | exact MT_bl hM | exact MT_r0 hM | exact MT_t0 hM | exact MT_l0 hM | exact MT_r1 hM | exact MT_t1 hM | exact MT_l1 hM | exact MT_r2 hM | exact MT_t2 hM | exact MT_l2 hM | exact MT_r3 hM | exact MT_t3 hM | exact MT_l3 hM | exact MT_r4 hM | exact MT_t4 hM | exact MT_l4 hM | exact MT_r5 hM | exact MT_t5 hM | exact MT_l5 hM | exact MT_r6 hM | exact MT_t6 hM | exact MT_l6 hM | exact MT_r7 hM | exact MT_t7 hM | exact MT_l7 hM | exact MT_r8 hM | exact MT_t8 hM | exact MT_l8 hM | exact MT_r9 hM | exact MT_t9 hM | exact MT_l9 hM | exact MT_r10 hM | exact MT_t10 hM | exact MT_l10 hM) (by first | omega | exact h.1.1 _ _ | exact hx.1.1 _ _) (by first | omega | exact h.1.1 _ _ | exact hx.1.1 _ _) (by omega) ?_)))
    rw [show itI mwno c i 200000 0 = c 200000 0 by rw [e3, ec]]
    refine gw_cge at330_19 (by first | omega | exact h.1.1 _ _ | exact hx.1.1 _ _) (by first | omega | exact h.1.1 _ _ | exact hx.1.1 _ _) (fun q19 => ?_) (fun q19 => ?_)
    · have e : i = c 200000 0 := by omega
      rw [e] at hx ⊢
      exact m_wN33 (by omega) hM hQ (WQ_le hx (by omega)) rfl
    · refine gw_al0 at330_22 (gw_il1 at330_23 ?_)
      refine gw_call2 at330_24 (m_writeNode hM hx.1.1 (by omega) hx.1.2 hq2.2.1 hq2.1 (by omega)) (by omega) (Nat.le_of_ble_eq_true rfl) (fun o M1 q24 => ?_)
      obtain ⟨rfl, rfl⟩ := q24
      show gw _ _ _ _ _ [] _ _
      refine gw_inc1 at330_27 (h := (gw_goto at330_30 ?_))
      have h9 := ih (i + 1) (by omega) (by omega) (by omega)
      rw [itI_s _ _ hi0] at h9
      exact h9
  exact lp12 0 (by decide) (by decide) (by omega)
set_option maxHeartbeats 1000000 in
theorem m_x_writeNetwork {g : Nat} {T : gT} {c J : gC} (hM : MT T 200000) (hc : RG c) (hL : LT T c) (hQ : NQ c) : gE g 330 6 [.ref 500001] (gm T c J) (fun o M1 => o = .inl (some (gi ((mwN c) 500001 25))) ∧ M1 = gm T ((mwN c)) J) := by
  refine gE_mk am_r330 rfl (Or.inr ⟨_, rfl, (by first | exact MT_0 hM | exact MT_now hM | exact MT_bt hM | exact MT_bl hM | exact MT_r0 hM | exact MT_t0 hM | exact MT_l0 hM | exact MT_r1 hM | exact MT_t1 hM | exact MT_l1 hM | exact MT_r2 hM | exact MT_t2 hM | exact MT_l2 hM | exact MT_r3 hM | exact MT_t3 hM | exact MT_l3 hM | exact MT_r4 hM | exact MT_t4 hM | exact MT_l4 hM | exact MT_r5 hM | exact MT_t5 hM | exact MT_l5 hM | exact MT_r6 hM | exact MT_t6 hM | exact MT_l6 hM | exact MT_r7 hM | exact MT_t7 hM | exact MT_l7 hM | exact MT_r8 hM | exact MT_t8 hM | exact MT_l8 hM | exact MT_r9 hM | exact MT_t9 hM | exact MT_l9 hM | exact MT_r10 hM | exact MT_t10 hM | exact MT_l10 hM)⟩) (fun d hd => ?_)
  show gw d g 330 0 [.ref 500001, am_U] [] _ _
  refine gw_al0 at330_0 (gw_const at330_1 (gw_pf (j := 0) at330_2 (by first | exact MT_0 hM | exact MT_now hM | exact MT_bt hM | exact MT_bl hM | exact MT_r0 hM | exact MT_t0 hM | exact MT_l0 hM | exact MT_r1 hM | exact MT_t1 hM | exact MT_l1 hM | exact MT_r2 hM | exact MT_t2 hM | exact MT_l2 hM | exact MT_r3 hM | exact MT_t3 hM | exact MT_l3 hM | exact MT_r4 hM | exact MT_t4 hM | exact MT_l4 hM | exact MT_r5 hM | exact MT_t5 hM | exact MT_l5 hM | exact MT_r6 hM | exact MT_t6 hM | exact MT_l6 hM | exact MT_r7 hM | exact MT_t7 hM | exact MT_l7 hM | exact MT_r8 hM | exact MT_t8 hM | exact MT_l8 hM | exact MT_r9 hM | exact MT_t9 hM | exact MT_l9 hM | exact MT_r10 hM | exact MT_t10 hM | exact MT_l10 hM) rfl (gw_al0 at330_5 (gw_const at330_6 (gw_pf (j := 25) at330_7 (by first | exact MT_0 hM | exact MT_now hM | exact MT_bt hM | exact MT_bl hM | exact MT_r0 hM | exact MT_t0 hM | exact MT_l0 hM | exact MT_r1 hM | exact MT_t1 hM | exact MT_l1 hM | exact MT_r2 hM | exact MT_t2 hM | exact MT_l2 hM | exact MT_r3 hM | exact MT_t3 hM | exact MT_l3 hM | exact MT_r4 hM | exact MT_t4 hM | exact MT_l4 hM | exact MT_r5 hM | exact MT_t5 hM | exact MT_l5 hM | exact MT_r6 hM | exact MT_t6 hM | exact MT_l6 hM | exact MT_r7 hM | exact MT_t7 hM | exact MT_l7 hM | exact MT_r8 hM | exact MT_t8 hM | exact MT_l8 hM | exact MT_r9 hM | exact MT_t9 hM | exact MT_l9 hM | exact MT_r10 hM | exact MT_t10 hM | exact MT_l10 hM) rfl ?_)))))
  exact m_wN10 (by omega) hM hQ (WQ_0 hc hL) rfl
set_option maxHeartbeats 1000000 in
theorem m_x_outputByte {g : Nat} {T : gT} {c J : gC} (hM : MT T 200000) (hc : RG c) {i : Int} (hi : -2147483648 ≤ i ∧ i < 2147483648) (h25 : 0 ≤ c 500001 25 ∧ c 500001 25 ≤ 1500) : gE g 331 2 [.ref 500001, gi i] (gm T c J) (fun o M1 => (inr i 0 (c 500001 25 - 1) = true ∧ o = .inl (some (gi (c 200010 i))) ∧ M1 = gm T (tw c 0) J) ∨ (inr i 0 (c 500001 25 - 1) = false ∧ o = .inl (some (gi 0)) ∧ M1 = gm T (tw c 1) J)) := by
  refine gE_mk am_r331 rfl (Or.inr ⟨_, rfl, (by first | exact MT_0 hM | exact MT_now hM | exact MT_bt hM | exact MT_bl hM | exact MT_r0 hM | exact MT_t0 hM | exact MT_l0 hM | exact MT_r1 hM | exact MT_t1 hM | exact MT_l1 hM | exact MT_r2 hM | exact MT_t2 hM | exact MT_l2 hM | exact MT_r3 hM | exact MT_t3 hM | exact MT_l3 hM | exact MT_r4 hM | exact MT_t4 hM | exact MT_l4 hM | exact MT_r5 hM | exact MT_t5 hM | exact MT_l5 hM | exact MT_r6 hM | exact MT_t6 hM | exact MT_l6 hM | exact MT_r7 hM | exact MT_t7 hM | exact MT_l7 hM | exact MT_r8 hM | exact MT_t8 hM | exact MT_l8 hM | exact MT_r9 hM | exact MT_t9 hM | exact MT_l9 hM | exact MT_r10 hM | exact MT_t10 hM | exact MT_l10 hM)⟩) (fun d hd => ?_)
  show gw d g 331 0 [.ref 500001, gi i] [] _ _
  refine gw_al0 at331_0 (gw_il1 at331_1 (gw_i2l at331_2 (by first | omega | exact hc _ _ | exact bi_rg _ | (rw [tw_k (by decide)]; exact hc _ _)) (gw_lconst (z := 0) at331_3 rfl (gw_al0 at331_4 (gw_gf (j := 25) at331_5 (by first | exact MT_0 hM | exact MT_now hM | exact MT_bt hM | exact MT_bl hM | exact MT_r0 hM | exact MT_t0 hM | exact MT_l0 hM | exact MT_r1 hM | exact MT_t1 hM | exact MT_l1 hM | exact MT_r2 hM | exact MT_t2 hM | exact MT_l2 hM | exact MT_r3 hM | exact MT_t3 hM | exact MT_l3 hM | exact MT_r4 hM | exact MT_t4 hM | exact MT_l4 hM | exact MT_r5 hM | exact MT_t5 hM | exact MT_l5 hM | exact MT_r6 hM | exact MT_t6 hM | exact MT_l6 hM | exact MT_r7 hM | exact MT_t7 hM | exact MT_l7 hM | exact MT_r8 hM | exact MT_t8 hM | exact MT_l8 hM | exact MT_r9 hM | exact MT_t9 hM | exact MT_l9 hM | exact MT_r10 hM | exact MT_t10 hM | exact MT_l10 hM) rfl (gw_const at331_8 (gw_isub at331_9 (gw_i2l at331_10 (by first | omega | exact hc _ _ | exact bi_rg _ | (rw [tw_k (by decide)]; exact hc _ _)) (gw_callP3 at331_11 (m_in (by omega) (by decide) (by omega)) (by omega) (Nat.le_of_ble_eq_true rfl) ?_)))))))))
  refine gw_call2 at331_14 (m_pas1 hM hc (p := inr i 0 (c 500001 25 - 1))) (by omega) (Nat.le_of_ble_eq_true rfl) (fun o M1 q14 => ?_)
  rcases q14 with ⟨hw9, rfl, rfl⟩ | ⟨hw9, rfl, rfl⟩
  · show gw _ _ _ _ _ (gi (bi true) :: []) _ _
    have hr9 := inr_t.mp hw9
    refine gw_zeq at331_17 (by first | omega | exact hc _ _ | exact bi_rg _ | (rw [tw_k (by decide)]; exact hc _ _)) (fun q17 => absurd q17 (by decide)) (fun q17 => ?_)
    refine gw_al0 at331_20 (gw_gr at331_21 (by first | exact MT_0 hM | exact MT_now hM | exact MT_bt hM | exact MT_bl hM | exact MT_r0 hM | exact MT_t0 hM | exact MT_l0 hM | exact MT_r1 hM | exact MT_t1 hM | exact MT_l1 hM | exact MT_r2 hM | exact MT_t2 hM | exact MT_l2 hM | exact MT_r3 hM | exact MT_t3 hM | exact MT_l3 hM | exact MT_r4 hM | exact MT_t4 hM | exact MT_l4 hM | exact MT_r5 hM | exact MT_t5 hM | exact MT_l5 hM | exact MT_r6 hM | exact MT_t6 hM | exact MT_l6 hM | exact MT_r7 hM | exact MT_t7 hM | exact MT_l7 hM | exact MT_r8 hM | exact MT_t8 hM | exact MT_l8 hM | exact MT_r9 hM | exact MT_t9 hM | exact MT_l9 hM | exact MT_r10 hM | exact MT_t10 hM | exact MT_l10 hM) (by first | exact MT_0 hM | exact MT_now hM | exact MT_bt hM | exact MT_bl hM | exact MT_r0 hM | exact MT_t0 hM | exact MT_l0 hM | exact MT_r1 hM | exact MT_t1 hM | exact MT_l1 hM | exact MT_r2 hM | exact MT_t2 hM | exact MT_l2 hM | exact MT_r3 hM | exact MT_t3 hM | exact MT_l3 hM | exact MT_r4 hM | exact MT_t4 hM | exact MT_l4 hM | exact MT_r5 hM | exact MT_t5 hM | exact MT_l5 hM | exact MT_r6 hM | exact MT_t6 hM | exact MT_l6 hM | exact MT_r7 hM | exact MT_t7 hM | exact MT_l7 hM | exact MT_r8 hM | exact MT_t8 hM | exact MT_l8 hM | exact MT_r9 hM | exact MT_t9 hM | exact MT_l9 hM | exact MT_r10 hM | exact MT_t10 hM | exact MT_l10 hM) (gw_il1 at331_24 (gw_ba at331_25 (by first | exact Or.inl (by first | exact MT_0 hM | exact MT_now hM | exact MT_bt hM | exact MT_bl hM | exact MT_r0 hM | exact MT_t0 hM | exact MT_l0 hM | exact MT_r1 hM | exact MT_t1 hM | exact MT_l1 hM | exact MT_r2 hM | exact MT_t2 hM | exact MT_l2 hM | exact MT_r3 hM | exact MT_t3 hM | exact MT_l3 hM | exact MT_r4 hM | exact MT_t4 hM | exact MT_l4 hM | exact MT_r5 hM | exact MT_t5 hM | exact MT_l5 hM | exact MT_r6 hM | exact MT_t6 hM | exact MT_l6 hM | exact MT_r7 hM | exact MT_t7 hM | exact MT_l7 hM | exact MT_r8 hM | exact MT_t8 hM | exact MT_l8 hM | exact MT_r9 hM | exact MT_t9 hM | exact MT_l9 hM | exact MT_r10 hM | exact MT_t10 hM | exact MT_l10 hM) | exact Or.inr (by first | exact MT_0 hM | exact MT_now hM | exact MT_bt hM | exact MT_bl hM | exact MT_r0 hM | exact MT_t0 hM | exact MT_l0 hM | exact MT_r1 hM | exact MT_t1 hM | exact MT_l1 hM | exact MT_r2 hM | exact MT_t2 hM | exact MT_l2 hM | exact MT_r3 hM | exact MT_t3 hM | exact MT_l3 hM | exact MT_r4 hM | exact MT_t4 hM | exact MT_l4 hM | exact MT_r5 hM | exact MT_t5 hM | exact MT_l5 hM | exact MT_r6 hM | exact MT_t6 hM | exact MT_l6 hM | exact MT_r7 hM | exact MT_t7 hM | exact MT_l7 hM | exact MT_r8 hM | exact MT_t8 hM | exact MT_l8 hM | exact MT_r9 hM | exact MT_t9 hM | exact MT_l9 hM | exact MT_r10 hM | exact MT_t10 hM | exact MT_l10 hM)) (by first | exact MT_0 hM | exact MT_now hM | exact MT_bt hM | exact MT_bl hM | exact MT_r0 hM | exact MT_t0 hM | exact MT_l0 hM | exact MT_r1 hM | exact MT_t1 hM | exact MT_l1 hM | exact MT_r2 hM | exact MT_t2 hM | exact MT_l2 hM | exact MT_r3 hM | exact MT_t3 hM | exact MT_l3 hM | exact MT_r4 hM | exact MT_t4 hM | exact MT_l4 hM | exact MT_r5 hM | exact MT_t5 hM | exact MT_l5 hM | exact MT_r6 hM | exact MT_t6 hM | exact MT_l6 hM | exact MT_r7 hM | exact MT_t7 hM | exact MT_l7 hM | exact MT_r8 hM | exact MT_t8 hM | exact MT_l8 hM | exact MT_r9 hM | exact MT_t9 hM | exact MT_l9 hM | exact MT_r10 hM | exact MT_t10 hM | exact MT_l10 hM) (by first | omega | exact hc _ _ | exact bi_rg _ | (rw [tw_k (by decide)]; exact hc _ _)) (by first | omega | exact hc _ _ | exact bi_rg _ | (rw [tw_k (by decide)]; exact hc _ _)) (by omega) (gw_goto at331_26 (gw_ri at331_30 am_r331.2.1 ?_)))))
    first
    | exact Or.inl ⟨hw9, by rw [tw_k (by decide)], rfl⟩
    | exact Or.inr ⟨hw9, rfl, rfl⟩
  · show gw _ _ _ _ _ (gi (bi false) :: []) _ _
    refine gw_zeq at331_17 (by first | omega | exact hc _ _ | exact bi_rg _ | (rw [tw_k (by decide)]; exact hc _ _)) (fun q17 => ?_) (fun q17 => absurd q17 (by decide))
    refine gw_const at331_29 (gw_ri at331_30 am_r331.2.1 ?_)
    first
    | exact Or.inl ⟨hw9, by rw [tw_k (by decide)], rfl⟩
    | exact Or.inr ⟨hw9, rfl, rfl⟩
