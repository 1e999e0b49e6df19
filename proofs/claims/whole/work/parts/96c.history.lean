/-! what lives: a network and its world, of both sides; the network's number keeps its contents -/
/-- the part of a row that is the network (its snow as told, too) -/
def NB (M : gC) (b' : Nat) (m : gC) (b : Nat) : Prop := ∀ j : Int, (0 ≤ j ∧ j ≤ 3) ∨ (11 ≤ j ∧ j < 18) ∨ (22 ≤ j ∧ j < 136) → M b' j = m b j
def LV (G : Int → gC) (B L : Int) (c : gC) (n w : Nat) (m : gC) (b : Nat) : Prop := (SW c n w m b ∧ NMS c n m b) ∧ (((0 ≤ m b 4 ∧ m b 4 ≤ 99) ∧ m b 8 ≤ m b 3) ∧ NDb m b) ∧ (NR c n ∧ WR c w B ∧ WW m b B) ∧ (NEQ c n (G (c n 0)) 100014 ∧ NB m b (G (c n 0)) 200000) ∧ 0 ≤ c n 0 ∧ c n 0 ≤ L
theorem NEQ_sy {c c' : gC} {k o : Nat} (h : NEQ c' k c o) : NEQ c o c' k := by
  obtain ⟨h0, h1, h2, h3, h4, h5, h6, h7, h8, h9, h10, h11⟩ := h
  exact ⟨fun j a b => (h0 j a b).symm, fun j a b => (h1 j a b).symm, fun j a b => (h2 j a b).symm, fun j a b => (h3 j a b).symm, fun j a b => (h4 j a b).symm, fun j a b => (h5 j a b).symm, fun j a b => (h6 j a b).symm, fun j a b => (h7 j a b).symm, fun j a b => (h8 j a b).symm, fun j a b => (h9 j a b).symm, fun j a b => (h10 j a b).symm, fun j a b => (h11 j a b).symm⟩
theorem NEQ_tr {c c' c2 : gC} {k o p : Nat} (h : NEQ c' k c o) (h' : NEQ c2 p c' k) : NEQ c2 p c o := by
  obtain ⟨h0, h1, h2, h3, h4, h5, h6, h7, h8, h9, h10, h11⟩ := h
  obtain ⟨g0, g1, g2, g3, g4, g5, g6, g7, g8, g9, g10, g11⟩ := h'
  exact ⟨fun j a b => (g0 j a b).trans (h0 j a b), fun j a b => (g1 j a b).trans (h1 j a b), fun j a b => (g2 j a b).trans (h2 j a b), fun j a b => (g3 j a b).trans (h3 j a b), fun j a b => (g4 j a b).trans (h4 j a b), fun j a b => (g5 j a b).trans (h5 j a b), fun j a b => (g6 j a b).trans (h6 j a b), fun j a b => (g7 j a b).trans (h7 j a b), fun j a b => (g8 j a b).trans (h8 j a b), fun j a b => (g9 j a b).trans (h9 j a b), fun j a b => (g10 j a b).trans (h10 j a b), fun j a b => (g11 j a b).trans (h11 j a b)⟩
theorem NEQ_o {c c' : gC} {k : Nat} (h : NF c c' k) : NEQ c' k c k := by
  refine ⟨fun j _ _ => h k (by omega) (by omega) j, fun j _ _ => h (k + 1) (by omega) (by omega) j, fun j _ _ => h (k + 2) (by omega) (by omega) j, fun j _ _ => h (k + 3) (by omega) (by omega) j, fun j _ _ => h (k + 4) (by omega) (by omega) j, fun j _ _ => h (k + 5) (by omega) (by omega) j, fun j _ _ => h (k + 6) (by omega) (by omega) j, fun j _ _ => h (k + 7) (by omega) (by omega) j, fun j _ _ => h (k + 8) (by omega) (by omega) j, fun j _ _ => h (k + 9) (by omega) (by omega) j, fun j _ _ => h (k + 10) (by omega) (by omega) j, fun j _ _ => h (k + 11) (by omega) (by omega) j⟩
def WF (c c' : gC) (w : Nat) : Prop := ∀ k : Nat, w ≤ k → k < w + 5 → ∀ j, c' k j = c k j
theorem WEQ_o {c c' : gC} {w : Nat} (h : WF c c' w) : WEQ c' w c w := by
  refine ⟨fun j _ _ => h w (by omega) (by omega) j, fun j _ _ => h (w + 1) (by omega) (by omega) j, fun j _ _ => h (w + 2) (by omega) (by omega) j, fun j _ _ => h (w + 3) (by omega) (by omega) j, fun j _ _ => h (w + 4) (by omega) (by omega) j⟩
theorem WEQ_VV {c c' m : gC} {v w b : Nat} (h : WEQ c' w c v) (hV : NW m b) (hW : VV c v m b) : VV c' w m b := by
  obtain ⟨h0, h1, h2, h3, h4⟩ := h
  obtain ⟨a1, a2, a3⟩ := hW
  refine ⟨?_, fun i i0 i1 => ?_, fun a ha => ?_⟩
  · rw [h0 1 (by decide) (by decide), h0 2 (by decide) (by decide), h0 3 (by decide) (by decide), h0 4 (by decide) (by decide), h0 5 (by decide) (by decide), h0 6 (by decide) (by decide), h0 7 (by decide) (by decide)]; exact a1
  · rw [h1 i i0 i1]; exact a2 i i0 i1
  · have hr := mhA_rg hV ha
    rw [h2 a hr.1 hr.2, h3 a hr.1 hr.2, h4 a hr.1 hr.2]; exact a3 a ha
theorem NB_R {M m m' : gC} {b b' b2 : Nat} (h : NB m b M b2) (h2 : RW8 m' b' m b) : NB m' b' M b2 := fun j hj => by rw [h2 j (by omega) (by omega)]; exact h j hj
/-- a copy lives as well -/
theorem LV_cp {G : Int → gC} {B L : Int} {c c' m m' : gC} {n n' w w' b b' : Nat} (h : LV G B L c n w m b) (h1 : NEQ c' n' c n) (h2 : WEQ c' w' c w) (h3 : RW8 m' b' m b) : LV G B L c' n' w' m' b' := by
  obtain ⟨⟨⟨⟨a1, a2⟩, a3, a4, a5⟩, b1⟩, ⟨d1, d2⟩, ⟨e1, e2, e3⟩, ⟨f1, f2⟩, g1⟩ := h
  have s : c' n' 0 = c n 0 := h1.1 0 (by decide) (by decide)
  refine ⟨⟨⟨⟨NN_R (NEQ_NN h1 a2 a1) a2 h3, NW_R a2 h3⟩, VV_R (WEQ_VV h2 a2 a3) a2 h3, PP_R a4 a2 h3, CL1_R a5 a2 h3⟩, NMS_R (NEQ_NMS h1 a2 b1) a2 h3⟩, ⟨?_, NDb_v d2 fun j j0 j1 => h3 j (by omega) (by omega)⟩, ⟨NEQ_NR h1 e1, WEQ_WR h2 e2, WW_R e3 h3⟩, ⟨?_, ?_⟩, ?_⟩
  · rw [h3 4 (by decide) (by decide), h3 8 (by decide) (by decide), h3 3 (by decide) (by decide)]; exact d1
  · rw [s]; exact NEQ_tr f1 h1
  · rw [s]; exact NB_R f2 h3
  · rw [s]; exact g1
theorem LV_o {G : Int → gC} {B L : Int} {c c' m m' : gC} {n w b : Nat} (h : LV G B L c n w m b) (h1 : NF c c' n) (h2 : WF c c' w) (h3 : m' b = m b) : LV G B L c' n w m' b := LV_cp h (NEQ_o h1) (WEQ_o h2) fun j _ _ => by rw [h3]
theorem WW_up {m : gC} {b : Nat} {B B' : Int} (h : WW m b B) (h1 : B ≤ B') (h2 : B' ≤ 1500000000) : WW m b B' := by
  obtain ⟨⟨a1, a2⟩, ⟨a3, a4⟩, a5, ⟨a7, a8⟩, a9, a10⟩ := h
  refine ⟨⟨by omega, a2⟩, ⟨by omega, a4⟩, a5, ⟨by omega, by omega⟩, fun i i0 i1 => ?_, fun i i0 i1 => ?_⟩
  · have := a9 i i0 i1; omega
  · have := a10 i i0 i1; omega
theorem WR_up {c : gC} {w : Nat} {B B' : Int} (h : WR c w B) (h1 : B ≤ B') (h2 : B' ≤ 1500000000) : WR c w B' := by
  obtain ⟨a0, a1, a2, a3, a4, a5, a6, a7, a8, a9⟩ := h
  refine ⟨by omega, by omega, a2, a3, a4, by omega, by omega, a7, fun i i0 i1 => ?_, fun i i0 i1 => ?_⟩
  · have := a8 i i0 i1; omega
  · have := a9 i i0 i1; omega
theorem LV_mono {G : Int → gC} {B B' L L' : Int} {c m : gC} {n w b : Nat} (h : LV G B L c n w m b) (h1 : B ≤ B') (h2 : B' ≤ 1500000000) (h3 : L ≤ L') : LV G B' L' c n w m b := by
  obtain ⟨a, b, ⟨e1, e2, e3⟩, f, g⟩ := h
  exact ⟨a, b, ⟨e1, WR_up e2 h1 h2, WW_up e3 h1 h2⟩, f, g.1, by omega⟩
theorem LV_G {G G' : Int → gC} {B L : Int} {c m : gC} {n w b : Nat} (h : LV G B L c n w m b) (e : ∀ s, 0 ≤ s → s ≤ L → G' s = G s) : LV G' B L c n w m b := by
  obtain ⟨a, d, e1, f, g⟩ := h
  refine ⟨a, d, e1, ?_, g⟩
  rw [e _ g.1 g.2]
  exact f
/-! the two histories -/
def qp (i : Int) : Nat := 300000 + 18 * i.toNat
def plcH (c : gC) (i : Int) : Int := (c 100052 1 + 10 - c 100052 2 + i) % 10
def rwm (m : gC) (i : Int) : gC := fun _ j => m 200008 (208 * i + j)
def HS (G : Int → gC) (B L : Int) (c m : gC) : Prop := (m 500001 13 = c 100052 2 ∧ (0 ≤ c 100052 1 ∧ c 100052 1 < 10) ∧ 0 ≤ c 100052 2 ∧ c 100052 2 ≤ 10) ∧ ∀ i, 0 ≤ i → i < c 100052 2 → LV G B L c (qp (plcH c i) + 1) (qp (plcH c i) + 13) (rwm m i) 0
theorem HS_o {G : Int → gC} {B L : Int} {c c' m m' : gC} (h : HS G B L c m) (e1 : ∀ k : Nat, 300000 ≤ k → k < 300180 → c' k = c k) (e2 : c' 100052 = c 100052) (e3 : m' 200008 = m 200008) (e4 : m' 500001 13 = m 500001 13) : HS G B L c' m' := by
  obtain ⟨⟨a1, a2, a3⟩, a4⟩ := h
  unfold HS plcH
  rw [e2, e4]
  refine ⟨⟨a1, a2, a3⟩, fun i i0 i1 => ?_⟩
  have h1 := a4 i i0 i1
  have hq : qp (plcH c i) + 18 ≤ 300180 := by unfold qp plcH; omega
  have hq2 : 300000 ≤ qp (plcH c i) := by unfold qp; omega
  unfold plcH at h1 hq hq2
  refine LV_o h1 (fun k k0 k1 j => by rw [e1 k (by omega) (by omega)]) (fun k k0 k1 j => by rw [e1 k (by omega) (by omega)]) ?_
  unfold rwm
  rw [e3]
theorem HS_mono {G : Int → gC} {B B' L L' : Int} {c m : gC} (h : HS G B L c m) (h1 : B ≤ B') (h2 : B' ≤ 1500000000) (h3 : L ≤ L') : HS G B' L' c m := ⟨h.1, fun i i0 i1 => LV_mono (h.2 i i0 i1) h1 h2 h3⟩
theorem HS_G {G G' : Int → gC} {B L : Int} {c m : gC} (h : HS G B L c m) (e : ∀ s, 0 ≤ s → s ≤ L → G' s = G s) : HS G' B L c m := ⟨h.1, fun i i0 i1 => LV_G (h.2 i i0 i1) e⟩
theorem kps_n {c : gC} {q : Nat} (hq : 300000 ≤ q) : NEQ (kps c q) (q + 1) c 100014 := by
  have h := ncp_eq (c := c) (k := q + 1) (o := 100014) (Or.inr (by omega))
  refine NEQ_tr h (NEQ_o fun k k0 k1 j => ?_)
  unfold kps
  rw [gu_k (by omega), gu_k (by omega), wcp_k (by omega)]
theorem kps_w {c : gC} {q : Nat} (hq : 300000 ≤ q) : WEQ (kps c q) (q + 13) c 100034 := by
  have h := wcp_eq (c := ncp c (q + 1) 100014) (w := q + 13) (v := 100034) (Or.inr (by omega))
  obtain ⟨h0, h1, h2, h3, h4⟩ := h
  have e : ∀ k : Nat, q + 13 ≤ k → k < q + 18 → kps c q k = wcp (ncp c (q + 1) 100014) (q + 13) 100034 k := fun k k0 k1 => funext fun j => by unfold kps; rw [gu_k (by omega), gu_k (by omega)]
  have e2 : ∀ k : Nat, k < 200000 → ncp c (q + 1) 100014 k = c k := fun k k0 => funext fun j => ncp_k (by omega)
  rw [e2 100034 (by decide)] at h0
  rw [e2 (100034 + 1) (by decide)] at h1
  rw [e2 (100034 + 2) (by decide)] at h2
  rw [e2 (100034 + 3) (by decide)] at h3
  rw [e2 (100034 + 4) (by decide)] at h4
  refine ⟨?_, ?_, ?_, ?_, ?_⟩
  · rw [e (q + 13) (by omega) (by omega)]; exact h0
  · rw [e (q + 13 + 1) (by omega) (by omega)]; exact h1
  · rw [e (q + 13 + 2) (by omega) (by omega)]; exact h2
  · rw [e (q + 13 + 3) (by omega) (by omega)]; exact h3
  · rw [e (q + 13 + 4) (by omega) (by omega)]; exact h4
theorem kps_k {c : gC} {q k : Nat} (hk : k < q + 1 ∨ q + 18 ≤ k) (h2 : ¬ k = 100052) : kps c q k = c k := by
  funext j
  unfold kps
  rw [gu_k h2, gu_k h2, wcp_k (by omega), ncp_k (by omega)]
/-- row i after the reference remembers -/
theorem rem_row {m : gC} (h : 0 ≤ m 500001 13 ∧ m 500001 13 ≤ 10) : rem m 500001 13 = min 10 (m 500001 13 + 1) ∧ RW8 (rwm (rem m) (min 10 (m 500001 13 + 1) - 1)) 0 m 200000 ∧ ∀ i, 0 ≤ i → i < min 10 (m 500001 13 + 1) - 1 → RW8 (rwm (rem m) i) 0 (rwm m (if m 500001 13 = 10 then i + 1 else i)) 0 := by
  have e13 : rm1 m 500001 13 = min 10 (m 500001 13 + 1) - 1 := by
    unfold rm1
    split
    · rw [gu_s]; omega
    · omega
  have e0 : rm1 m 200000 = m 200000 := rm1_o (by decide) (by decide)
  have e8 : ∀ j : Int, rem m 200008 j = if 208 * rm1 m 500001 13 ≤ j ∧ j < 208 * rm1 m 500001 13 + 208 then m 200000 (j - 208 * rm1 m 500001 13) else rm1 m 200008 j := fun j => by
    unfold rem
    rw [gu_k (by decide)]
    unfold gcp
    by_cases q : 208 * rm1 m 500001 13 ≤ j ∧ j < 208 * rm1 m 500001 13 + 208
    · rw [if_pos ⟨rfl, q⟩, if_pos q, e0, Int.zero_add]
    · rw [if_neg (fun e => q e.2), if_neg q]
  refine ⟨?_, fun j j0 j1 => ?_, fun i i0 i1 j j0 j1 => ?_⟩
  · unfold rem
    rw [gu_s, e13]
    omega
  · show rem m 200008 _ = _
    rw [e8, e13, if_pos (by omega)]
    congr 1
    omega
  · show rem m 200008 _ = _
    rw [e8, e13, if_neg (by omega)]
    show rm1 m 200008 (208 * i + j) = m 200008 (208 * _ + j)
    unfold rm1
    by_cases q : m 500001 13 = 10
    · rw [if_pos q, if_pos q, gu_k (by decide)]
      unfold gsh
      rw [if_pos ⟨rfl, by omega, by omega⟩]
      congr 1
      omega
    · rw [if_neg q, if_neg q]
/-- both sides keep what is now -/
theorem HS_keep {G : Int → gC} {B L : Int} {c c0 m m' : gC} {q : Nat} (h : HS G B L c m) (hl : LV G B L c 100014 100034 m' 200000) (hq : q = qp (c 100052 1)) (hc : ∀ k : Nat, k < q ∨ q + 18 ≤ k → c0 k = c k) (e8 : m' 200008 = m 200008) (e13 : m' 500001 13 = m 500001 13) : HS G B L (kps c0 q) (rem m') := by
  obtain ⟨⟨a1, a2, a3, a4⟩, a5⟩ := h
  have q0 : 300000 ≤ q ∧ q + 18 ≤ 300180 := by rw [hq]; unfold qp; omega
  have c52 : c0 100052 = c 100052 := hc _ (by omega)
  have k1 : kps c0 q 100052 1 = (c 100052 1 + 1) % 10 := by rw [kps_1, c52]
  have k2 : kps c0 q 100052 2 = min 10 (c 100052 2 + 1) := by rw [kps_2, c52]
  obtain ⟨r1, r2, r3⟩ := rem_row (m := m') (by omega)
  rw [e13, a1] at r1 r2 r3
  unfold HS
  rw [k1, k2]
  refine ⟨⟨r1, by omega, by omega⟩, fun i i0 i1 => ?_⟩
  by_cases e : i = min 10 (c 100052 2 + 1) - 1
  · have ep : plcH (kps c0 q) i = c 100052 1 := by unfold plcH; rw [k1, k2]; omega
    rw [ep, ← hq]
    have n1 : NEQ (kps c0 q) (q + 1) c 100014 := NEQ_tr (NEQ_o fun k x y j => by rw [hc k (by omega)]) (kps_n q0.1)
    have w1 : WEQ (kps c0 q) (q + 13) c 100034 := by
      have h1 := kps_w (c := c0) q0.1
      unfold WEQ at h1 ⊢
      rw [hc 100034 (by omega), hc (100034 + 1) (by omega), hc (100034 + 2) (by omega), hc (100034 + 3) (by omega), hc (100034 + 4) (by omega)] at h1
      exact h1
    rw [e]
    exact LV_cp hl n1 w1 r2
  · have hp : plcH (kps c0 q) i = plcH c (if c 100052 2 = 10 then i + 1 else i) ∧ ¬ plcH (kps c0 q) i = c 100052 1 := by
      unfold plcH
      rw [k1, k2]
      split <;> omega
    have h9 := a5 (if c 100052 2 = 10 then i + 1 else i) (by split <;> omega) (by split <;> omega)
    rw [← hp.1] at h9
    have h10 := r3 i i0 (by omega)
    have hr : 0 ≤ plcH (kps c0 q) i ∧ plcH (kps c0 q) i < 10 := by unfold plcH; omega
    have hd : qp (plcH (kps c0 q) i) + 18 ≤ q ∨ q + 18 ≤ qp (plcH (kps c0 q) i) := by
      have hx : q = 300000 + 18 * (c 100052 1).toNat := hq
      have hy : qp (plcH (kps c0 q) i) = 300000 + 18 * (plcH (kps c0 q) i).toNat := rfl
      have hz := hp.2
      omega
    have hlo : 300000 ≤ qp (plcH (kps c0 q) i) := by unfold qp; omega
    have ek : ∀ k : Nat, qp (plcH (kps c0 q) i) ≤ k → k < qp (plcH (kps c0 q) i) + 18 → kps c0 q k = c k := fun k x y => by rw [kps_k (by omega) (by omega), hc k (by omega)]
    have r4 : RW8 (rwm (rem m') i) 0 (rwm m (if c 100052 2 = 10 then i + 1 else i)) 0 := fun j j0 j1 => by
      rw [h10 j j0 j1]
      unfold rwm
      rw [e8]
    exact LV_cp h9 (NEQ_o fun k x y j => by rw [ek k (by omega) (by omega)]) (WEQ_o fun k x y j => by rw [ek k (by omega) (by omega)]) r4
theorem und_row {m : gC} : RW8 (und m) 200000 (rwm m (m 500001 13 - 1)) 0 := fun j j0 j1 => by
  unfold und gcp rwm
  rw [if_pos ⟨rfl, j0, by omega⟩, gu_k (by decide)]
  congr 1
  omega
theorem hrs_n {c : gC} {q : Nat} (hq : 300000 ≤ q) : NEQ (hrs c q) 100014 c (q + 1) := by
  have h := ncp_eq (c := c) (k := 100014) (o := q + 1) (Or.inl (by omega))
  refine NEQ_tr h (NEQ_o fun k k0 k1 j => ?_)
  unfold hrs
  rw [gu_k (by omega), gu_k (by omega), wcp_k (by omega)]
theorem hrs_w {c : gC} {q : Nat} (hq : 300000 ≤ q) : WEQ (hrs c q) 100034 c (q + 13) := by
  have h := wcp_eq (c := ncp c 100014 (q + 1)) (w := 100034) (v := q + 13) (Or.inl (by omega))
  have e : ∀ k : Nat, 100034 ≤ k → k < 100034 + 5 → hrs c q k = wcp (ncp c 100014 (q + 1)) 100034 (q + 13) k := fun k k0 k1 => funext fun j => by unfold hrs; rw [gu_k (by omega), gu_k (by omega)]
  have e2 : ∀ k : Nat, 300000 ≤ k → ncp c 100014 (q + 1) k = c k := fun k k0 => funext fun j => ncp_k (by omega)
  unfold WEQ at h ⊢
  rw [e 100034 (by decide) (by decide), e (100034 + 1) (by decide) (by decide), e (100034 + 2) (by decide) (by decide), e (100034 + 3) (by decide) (by decide), e (100034 + 4) (by decide) (by decide)]
  rw [e2 (q + 13) (by omega), e2 (q + 13 + 1) (by omega), e2 (q + 13 + 2) (by omega), e2 (q + 13 + 3) (by omega), e2 (q + 13 + 4) (by omega)] at h
  exact h
/-- both sides take back -/
theorem HS_undo {G : Int → gC} {B L : Int} {c m m' : gC} (h : HS G B L c m) (hn : ¬ c 100052 2 = 0) (e8 : m' 200008 = m 200008) (e13 : m' 500001 13 = m 500001 13) : HS G B L (hrs c (qp (hsj c))) (und m') ∧ LV G B L (hrs c (qp (hsj c))) 100014 100034 (und m') 200000 := by
  obtain ⟨⟨a1, a2, a3, a4⟩, a5⟩ := h
  have j1 : 0 ≤ hsj c ∧ hsj c < 10 := by unfold hsj; omega
  have q0 : 300000 ≤ qp (hsj c) ∧ qp (hsj c) + 18 ≤ 300180 := by unfold qp; omega
  have k1 : hrs c (qp (hsj c)) 100052 1 = hsj c := by unfold hrs; rw [gu_j (by decide), gu_s]
  have k2 : hrs c (qp (hsj c)) 100052 2 = c 100052 2 - 1 := by unfold hrs; rw [gu_s]
  have ek : ∀ k : Nat, 300000 ≤ k → hrs c (qp (hsj c)) k = c k := fun k hk => funext fun j => by
    unfold hrs
    rw [gu_k (by omega), gu_k (by omega), wcp_k (by omega), ncp_k (by omega)]
  have u13 : und m' 500001 13 = c 100052 2 - 1 := by
    unfold und
    rw [gcp_o (by decide), gu_s, e13, a1]
  have u8 : und m' 200008 = m 200008 := by
    rw [← e8]
    funext j
    unfold und
    rw [gcp_o (by decide), gu_k (by decide)]
  refine ⟨⟨⟨?_, ?_, ?_, ?_⟩, fun i i0 i1 => ?_⟩, ?_⟩
  · rw [u13, k2]
  · rw [k1]; exact j1
  · rw [k2]; omega
  · rw [k2]; omega
  · rw [k2] at i1
    have ep : plcH (hrs c (qp (hsj c))) i = plcH c i := by
      unfold plcH
      rw [k1, k2]
      unfold hsj
      omega
    rw [ep]
    have h9 := a5 i i0 (by omega)
    have hlo : 300000 ≤ qp (plcH c i) := by unfold qp; omega
    refine LV_o h9 (fun k x y j => by rw [ek k (by omega)]) (fun k x y j => by rw [ek k (by omega)]) ?_
    unfold rwm
    rw [u8]
  · have h9 := a5 (c 100052 2 - 1) (by omega) (by omega)
    have ep : plcH c (c 100052 2 - 1) = hsj c := by unfold plcH hsj; omega
    rw [ep] at h9
    refine LV_cp h9 (hrs_n q0.1) (hrs_w q0.1) ?_
    have h10 := und_row (m := m')
    rw [e13, a1] at h10
    refine RW8_tr (fun j j0 j1 => ?_) h10
    unfold rwm
    rw [e8]
