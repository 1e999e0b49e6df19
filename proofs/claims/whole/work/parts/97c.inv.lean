/-! what holds between two calls -/
def DAT (R Z : Nat) (c : gC) : Prop := RG c ∧ (NR c 100002 ∧ BR c 100000 ∧ BR c 100030) ∧ (SR c ∧ PR c ∧ PQ c R Z) ∧ KWS c ∧ TX c
def MDT (c : gC) : Prop := MIn c ∧ LQ c ∧ (0 ≤ c 500001 25 ∧ c 500001 25 ≤ 1500) ∧ 0 ≤ c 500001 7 ∧ c 500001 7 ≤ 24
def IOE (c : gC) : Prop := (c 100000 1 = c 500001 15 ∧ ∀ k, 0 ≤ k → k < c 100000 1 → c 100001 k = c 200009 k ∧ -128 ≤ c 100001 k ∧ c 100001 k < 128) ∧ OUT c c ∧ c 100032 3 = c 500001 21 ∧ c 100032 4 = c 500001 22
def GOK (G : Int → gC) (Lo : Int) : Prop := ∀ s, 0 ≤ s → s ≤ Lo → NN (G s) 100014 (G s) 200000 ∧ (NW (G s) 200000 ∧ RG (G s)) ∧ CL1 (G s) 200000
/-- a plan that is kept, against the reference's for that network -/
def PLN (g c : gC) (z : Int) : Prop := qK (mll g 200000) 200000 z ≤ 12 ∧ (qC (mll g 200000) 200000 z < 1000000000 → c 100047 (z - 1) = qC (mll g 200000) 200000 z ∧ c 100046 (z - 1) = qK (mll g 200000) 200000 z ∧ ∀ i : Nat, (i : Int) < qK (mll g 200000) 200000 z → c 100048 ((z - 1) * 12 + (i : Int)) = qO (mll g 200000) 200000 z i) ∧ (¬ qC (mll g 200000) 200000 z < 1000000000 → c 100047 (z - 1) = -1 ∧ c 100046 (z - 1) = 0)
def CCR (G : Int → gC) (Lo : Int) (c : gC) : Prop := (c 100026 1 = -1 ∨ (0 ≤ c 100026 1 ∧ c 100026 1 ≤ Lo)) ∧ (0 ≤ c 100026 1 → FT (G (c 100026 1)) c)
def CCP (G : Int → gC) (Lo : Int) (c : gC) : Prop := ∀ z, 1 ≤ z → z ≤ 3 → (c 100045 (z - 1) = -1 ∨ (0 ≤ c 100045 (z - 1) ∧ c 100045 (z - 1) ≤ Lo)) ∧ (0 ≤ c 100045 (z - 1) → PLN (G (c 100045 (z - 1))) c z)
/-- n calls so far -/
def INV (n : Nat) (G : Int → gC) (Lo : Int) (R Z : Nat) (T : gT) (c : gC) : Prop := (TGS R Z T c ∧ FRE n Z T) ∧ (DAT R Z c ∧ MDT c ∧ IOE c) ∧ (GOK G Lo ∧ CCR G Lo c ∧ CCP G Lo c) ∧ (LV G (700000 * (n : Int)) Lo c 100014 100034 c 200000 ∧ HS G (700000 * (n : Int)) Lo c c) ∧ c 500000 10 = Lo ∧ 0 ≤ Lo ∧ Lo ≤ (n : Int)
/-- the calls that only look leave all but what they need for looking -/
def KEEP (c c' : gC) : Prop := (∀ k : Nat, k < 100026 ∨ (100030 ≤ k ∧ k < 100039) ∨ (100052 ≤ k ∧ k < 200002) ∨ (200008 ≤ k ∧ k < 400000) ∨ (500002 ≤ k ∧ k < 700000) ∨ 800000 ≤ k → c' k = c k) ∧ c' 500000 10 = c 500000 10 ∧ ∀ j, ¬ j = 0 → ¬ j = 7 → ¬ j = 9 → c' 500001 j = c 500001 j
theorem KEEP_rf {c : gC} : KEEP c c := ⟨fun _ _ => rfl, rfl, fun _ _ _ _ => rfl⟩
theorem KEEP_tr {c d e : gC} (h : KEEP c d) (h2 : KEEP d e) : KEEP c e := ⟨fun k hk => (h2.1 k hk).trans (h.1 k hk), h2.2.1.trans h.2.1, fun j a b d' => (h2.2.2 j a b d').trans (h.2.2 j a b d')⟩
theorem OUT_k {c c' : gC} (h : OUT c c) (e1 : c' 100030 = c 100030) (e2 : c' 100031 = c 100031) (e3 : c' 200010 = c 200010) (e4 : c' 500001 25 = c 500001 25) : OUT c' c' := by
  unfold OUT at h ⊢
  rw [e1, e2, e3, e4]
  exact h
theorem IOE_k {c c' : gC} (h : IOE c) (k : KEEP c c') : IOE c' := by
  obtain ⟨a, b, d⟩ := h
  refine ⟨?_, OUT_k b (k.1 _ (by decide)) (k.1 _ (by decide)) (k.1 _ (by decide)) (k.2.2 25 (by decide) (by decide) (by decide)), ?_⟩
  · rw [k.1 100000 (by decide), k.1 100001 (by decide), k.1 200009 (by decide), k.2.2 15 (by decide) (by decide) (by decide)]; exact a
  · rw [k.1 100032 (by decide), k.2.2 21 (by decide) (by decide) (by decide), k.2.2 22 (by decide) (by decide) (by decide)]; exact d
theorem LV_k {G : Int → gC} {B L : Int} {c c' : gC} (h : LV G B L c 100014 100034 c 200000) (k : KEEP c c') : LV G B L c' 100014 100034 c' 200000 := by
  refine LV_o h (fun i i0 i1 j => by rw [k.1 i (by omega)]) (fun i i0 i1 j => by rw [k.1 i (by omega)]) (k.1 200000 (by decide))
theorem HS_k {G : Int → gC} {B L : Int} {c c' : gC} (h : HS G B L c c) (k : KEEP c c') : HS G B L c' c' := HS_o h (fun i i0 i1 => k.1 i (by omega)) (k.1 _ (by decide)) (k.1 _ (by decide)) (k.2.2 13 (by decide) (by decide) (by decide))
theorem MIn_k {c c' : gC} (h : MIn c) (k : KEEP c c') (hr : RG c') : MIn c' := by
  refine ⟨hr, ?_, ?_⟩
  · rw [k.2.2 15 (by decide) (by decide) (by decide)]; exact h.2.1
  · rw [k.1 200009 (by decide)]; exact h.2.2
theorem NR_k2 {c c' : gC} {k : Nat} (h : NR c k) (hf : NF c c' k) : NR c' k := NEQ_NR (NEQ_o hf) h
theorem LV_n {G : Int → gC} {n n' : Nat} {L : Int} {c m : gC} {k w b : Nat} (h : LV G (700000 * (n : Int)) L c k w m b) (h1 : n ≤ n') (h2 : n' ≤ 1000) : LV G (700000 * (n' : Int)) L c k w m b := LV_mono h (by omega) (by omega) (Int.le_refl _)
theorem INV_k {n n' : Nat} {G : Int → gC} {Lo : Int} {R Z R' Z' : Nat} {T T' : gT} {c c' : gC} (h : INV n G Lo R Z T c) (k : KEEP c c') (hr : RG c') (hS : SR c') (hP : PR c') (hQ : PQ c' R' Z') (hL : LQ c') (h7 : 0 ≤ c' 500001 7 ∧ c' 500001 7 ≤ 24) (hR : CCR G Lo c') (hC : CCP G Lo c') (hT : TGS R' Z' T' c') (hF : FRE n' Z' T') (hn : n ≤ n') (hn2 : n' ≤ 1000) : INV n' G Lo R' Z' T' c' := by
  obtain ⟨-, ⟨⟨a1, ⟨a2, a3, a4⟩, -, a6, a7⟩, ⟨b1, b2, b3, b4⟩, b5⟩, ⟨d1, -, -⟩, ⟨f1, f2⟩, g1, g2, g3⟩ := h
  refine ⟨⟨hT, hF⟩, ⟨⟨hr, ⟨NR_k2 a2 fun i i0 i1 j => by rw [k.1 i (by omega)], ?_, ?_⟩, ⟨hS, hP, hQ⟩, fun i hi => ?_, TX_o a7 fun i hi => k.1 i (by omega)⟩, ⟨MIn_k b1 k hr, hL, ?_, h7⟩, IOE_k b5 k⟩, ⟨d1, hR, hC⟩, ⟨LV_n (LV_k f1 k) hn hn2, HS_mono (HS_k f2 k) (by omega) (by omega) (Int.le_refl _)⟩, ?_, g2, by omega⟩
  · unfold BR; rw [k.1 100000 (by decide)]; exact a3
  · unfold BR; rw [k.1 100030 (by decide)]; exact a4
  · rw [k.1 100033 (by decide)]; exact a6 i hi
  · rw [k.2.2 25 (by decide) (by decide) (by decide)]; exact b3
  · rw [k.2.1]; exact g1
/-- where the class's own scratch stays as it is -/
theorem CCR_o {G : Int → gC} {Lo : Int} {c c' : gC} (h : CCR G Lo c) (e0 : c' 100026 1 = c 100026 1) (e1 : c' 100027 = c 100027) (e2 : c' 100028 = c 100028) : CCR G Lo c' := by
  unfold CCR
  rw [e0]
  exact ⟨h.1, fun q => FT_o (h.2 q) e1 e2⟩
theorem CCP_o {G : Int → gC} {Lo : Int} {c c' : gC} (h : CCP G Lo c) (e : ∀ k : Nat, 100045 ≤ k → k < 100049 → c' k = c k) : CCP G Lo c' := by
  unfold CCP PLN
  rw [e 100045 (by decide) (by decide), e 100046 (by decide) (by decide), e 100047 (by decide) (by decide), e 100048 (by decide) (by decide)]
  exact h
theorem PQ_o {c c' : gC} {R Z : Nat} (h : PQ c R Z) (hR : R = 100051 ∨ 400000 ≤ R ∧ R < 500000) (e : ∀ k : Nat, (100044 ≤ k ∧ k < 100052) ∨ (400000 ≤ k ∧ k < 500000) → c' k = c k) : PQ c' R Z := by
  unfold PQ
  rw [e 100044 (by decide), e 100049 (by decide), e 100050 (by decide), e R (by omega)]
  exact h
theorem PR_o {c c' : gC} (h : PR c) (e : ∀ k : Nat, 100044 ≤ k ∧ k < 100052 → c' k = c k) : PR c' := by
  unfold PR
  rw [e 100046 (by decide), e 100048 (by decide)]
  exact h
theorem SR_o2 {c c' : gC} (h : SR c) (e1 : c' 100027 = c 100027) (e2 : c' 100028 = c 100028) : SR c' := by
  unfold SR
  rw [e1, e2]
  exact h
/-- the reference looks: only its own scratch changes -/
def MLK (c c' : gC) : Prop := (∀ k : Nat, ¬ (200002 ≤ k ∧ k < 200008) → ¬ k = 500001 → c' k = c k) ∧ (∀ j, ¬ j = 0 → ¬ j = 7 → ¬ j = 9 → c' 500001 j = c 500001 j) ∧ RG c' ∧ LQ c' ∧ 0 ≤ c' 500001 7 ∧ c' 500001 7 ≤ 24
theorem MLK_K {c c' : gC} (h : MLK c c') : KEEP c c' := ⟨fun k hk => h.1 k (by omega) (by omega), by rw [h.1 500000 (by decide) (by decide)], h.2.1⟩
theorem INV_m {n n' : Nat} {G : Int → gC} {Lo : Int} {R Z : Nat} {T T' : gT} {c c' : gC} (h : INV n G Lo R Z T c) (k : MLK c c') (hT : TGS R Z T' c') (hF : FRE n' Z T') (hn : n ≤ n') (hn2 : n' ≤ 1000) : INV n' G Lo R Z T' c' := by
  have h0 := h
  obtain ⟨⟨t, -⟩, ⟨⟨a1, -, ⟨a3, a4, a5⟩, -, -⟩, -, -⟩, ⟨-, d2, d3⟩, -⟩ := h
  obtain ⟨k1, k2, k3, k4, k5⟩ := k
  have e : ∀ i : Nat, i < 200000 ∨ (400000 ≤ i ∧ i < 500000) → c' i = c i := fun i hi => k1 i (by omega) (by omega)
  exact INV_k h0 (MLK_K ⟨k1, k2, k3, k4, k5⟩) k3 (SR_o2 a3 (e _ (by decide)) (e _ (by decide))) (PR_o a4 fun i hi => e i (by omega)) (PQ_o a5 (PT_k t.2.2.1).1 fun i hi => e i (by omega)) k4 k5 (CCR_o d2 (by rw [e 100026 (by decide)]) (e _ (by decide)) (e _ (by decide))) (CCP_o d3 fun i i0 i1 => e i (by omega)) hT hF hn hn2
theorem MLK_tw {c : gC} {z : Int} (h : RG c) (hL : LQ c) (h7 : 0 ≤ c 500001 7 ∧ c 500001 7 ≤ 24) (hz : -2147483648 ≤ z ∧ z < 2147483648) : MLK c (tw c z) := by
  refine ⟨fun k _ hk => tw_k hk, fun j j0 _ _ => gu_j j0, RG_gu h hz, fun i i0 i1 => ?_, ?_⟩
  · rw [tw_k (by decide)]; exact hL i i0 i1
  · unfold tw; rw [gu_j (by decide)]; exact h7
