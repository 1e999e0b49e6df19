/-! what stands in the one memory of both sides: the tags -/
theorem XT_of {T T1 : gT} (h : XT T) (e : T1.1 500000 = T.1 500000) : XT T1 := by
  unfold XT at h ⊢
  rw [e]
  exact h
theorem BT_of {T T1 : gT} {k : Nat} (h : BT T k) (e : T1.1 k = T.1 k) (e2 : T1.1 (k + 1) = T.1 (k + 1)) : BT T1 k := by
  unfold BT at h ⊢
  rw [e, e2]
  exact h
theorem RT_of {T T1 : gT} (h : RT T) (e : ∀ k : Nat, 100026 ≤ k → k < 100030 → T1.1 k = T.1 k) : RT T1 := by
  unfold RT at h ⊢
  rw [e 100026 (by decide) (by decide), e 100027 (by decide) (by decide), e 100028 (by decide) (by decide), e 100029 (by decide) (by decide)]
  exact h
theorem AT_of {T T1 : gT} (h : AT T) (e : ∀ k : Nat, 100000 ≤ k → k < 100034 → T1.1 k = T.1 k) : AT T1 := by
  obtain ⟨a, b, d, f⟩ := h
  refine ⟨?_, ?_, NT_of d fun k h1 h2 => e k (by omega) (by omega), BT_of f (e _ (by decide) (by decide)) (e _ (by decide) (by decide))⟩
  · rw [e 100032 (by decide) (by decide)]; exact a
  · rw [e 100033 (by decide) (by decide)]; exact b
theorem CT_of {T T1 : gT} (h : CT T) (e : ∀ k : Nat, 100000 ≤ k → k < 100044 → T1.1 k = T.1 k) (hH : HT T1) : CT T1 := by
  obtain ⟨a, b, d, f, ⟨g1, g2⟩, ⟨i1, i2⟩, -⟩ := h
  refine ⟨AT_of a fun k h1 h2 => e k h1 (by omega), BT_of b (e _ (by decide) (by decide)) (e _ (by decide) (by decide)), NT_of d fun k h1 h2 => e k (by omega) (by omega), RT_of f fun k h1 h2 => e k (by omega) (by omega), ⟨WT_of g1 fun k h1 h2 => e k (by omega) (by omega), ?_⟩, ⟨WT_of i1 fun k h1 h2 => e k (by omega) (by omega), ?_⟩, hH⟩
  · rw [e 100034 (by decide) (by decide)]; exact g2
  · rw [e 100039 (by decide) (by decide)]; exact i2
theorem MT_of {T T1 : gT} (h : MT T 200000) (e : ∀ k : Nat, 200000 ≤ k → k < 200011 → T1.1 k = T.1 k) (e2 : T1.1 500001 = T.1 500001) : MT T1 200000 := by
  unfold MT MA at h ⊢
  rw [e2, e 200000 (by decide) (by decide), e 200001 (by decide) (by decide), e 200002 (by decide) (by decide), e 200003 (by decide) (by decide), e 200004 (by decide) (by decide), e 200005 (by decide) (by decide), e 200006 (by decide) (by decide), e 200007 (by decide) (by decide), e 200008 (by decide) (by decide), e 200009 (by decide) (by decide), e 200010 (by decide) (by decide)]
  exact h
theorem PT_of {T T1 : gT} {R Z : Nat} (h : PT T R Z) (e : ∀ k : Nat, (100044 ≤ k ∧ k < 100052) ∨ (400000 ≤ k ∧ k < 500000) → T1.1 k = T.1 k) : PT T1 R Z := by
  have hk := (PT_k h).1
  unfold PT at h ⊢
  rw [e 100044 (by decide), e 100045 (by decide), e 100046 (by decide), e 100047 (by decide), e 100048 (by decide), e 100049 (by decide), e 100050 (by decide), e R (by omega)]
  exact h
theorem HRm_of {T T1 : gT} {c c1 : gC} {m : Nat} (h : HRm T c m) (e : ∀ k : Nat, k = 100052 ∨ k = 100053 ∨ (300000 ≤ k ∧ k < 400000) → T1.1 k = T.1 k) (e2 : T1.2.1 3 = T.2.1 3) (e3 : c1 100052 = c 100052) : HRm T1 c1 m := by
  obtain ⟨⟨a1, a2, a3, a4⟩, b1, b2, b3, b4, b5, b6, b7, b8⟩ := h
  refine ⟨⟨?_, ?_, ?_, ?_⟩, b1, by rw [e2]; exact b2, fun k k0 k1 => ?_, fun i hi => ⟨?_, ZT_of (b4 i hi).2 fun k k0 k1 => e k (by omega)⟩, fun i hi => ?_, ?_, ?_, ?_⟩
  · rw [e 100052 (by decide)]; exact a1
  · rw [e 100052 (by decide)]; exact a2
  · rw [e 100053 (by decide)]; exact a3
  · rw [e 100053 (by decide)]; exact a4
  · rw [e k (by omega)]; exact b3 k k0 k1
  · rw [e 100053 (by decide)]; exact (b4 i hi).1
  · rw [e 100053 (by decide)]; exact b5 i hi
  · rw [e3]; exact b6
  · rw [e3]; exact b7
  · rw [e3]; exact b8
/-- the tags -/
def TGS (R Z : Nat) (T : gT) (c : gC) : Prop := (XT T ∧ CT T ∧ MT T 200000) ∧ ((T.1 500002).1 = 3 ∧ (T.1 500002).2.1 = 1) ∧ PT T R Z ∧ LT T c ∧ HR T c
/-- what is free, and how much is used: n calls so far -/
def FRE (n : Nat) (Z : Nat) (T : gT) : Prop := ((∀ k, 700000 + T.2.1 7 ≤ k → k < 800000 → (T.1 k).1 = 0) ∧ T.2.1 7 ≤ n) ∧ (∀ k, 400000 + T.2.1 4 ≤ k → k < 500000 → (T.1 k).1 = 0) ∧ (∃ q : Nat, (q ≤ 12 ∧ T.2.1 4 ≤ q) ∧ 2 ^ q * q ≤ Z) ∧ (T.2.2.1 ≤ 68 + T.2.1 3 + T.2.1 4 + n ∧ 18 * T.2.2.2 ≤ 18 * (60000 + 49152 * T.2.1 4 + 6 * n) + 217 * T.2.1 3)
theorem TGS_c {R Z : Nat} {T : gT} {c c1 : gC} (h : TGS R Z T c) (e : c1 100052 = c 100052) (e2 : ∀ k, 900000 ≤ k → ∀ j, c1 k j = c k j) : TGS R Z T c1 := by
  obtain ⟨a, b, d, f, g⟩ := h
  exact ⟨a, b, d, LT_of f (fun _ _ => rfl) e2, HR_of g e⟩
theorem TGS_t {R Z : Nat} {T : gT} {c : gC} (h : TGS R Z T c) : TGS R Z (gTt T) c := h
theorem gTe_k {T : gT} {k : Nat} (h : ¬ (700000 ≤ k ∧ k < 800000)) (h2 : T.2.1 7 < 100000) : (gTe T).1 k = T.1 k := by
  unfold gTe
  exact if_neg (by omega)
theorem TGS_e {R Z : Nat} {T : gT} {c : gC} (h : TGS R Z T c) (h7 : T.2.1 7 < 100000) : TGS R Z (gTe T) c := by
  obtain ⟨⟨a1, a2, a3⟩, b, d, f, ⟨m, g⟩⟩ := h
  have e : ∀ k : Nat, ¬ (700000 ≤ k ∧ k < 800000) → (gTe T).1 k = T.1 k := fun k hk => gTe_k hk h7
  have g' : HRm (gTe T) c m := HRm_of g (fun k hk => e k (by omega)) (by unfold gTe va_up; rfl) rfl
  refine ⟨⟨XT_of a1 (e _ (by decide)), CT_of a2 (fun k k0 k1 => e k (by omega)) g'.1, MT_of a3 (fun k k0 k1 => e k (by omega)) (e _ (by decide))⟩, ?_, PT_of d fun k hk => e k (by omega), LT_of f (fun k hk => e k (by omega)) (fun _ _ _ => rfl), m, g'⟩
  rw [e 500002 (by decide)]
  exact b
theorem FRE_t {n Z : Nat} {T : gT} (h : FRE n Z T) : FRE (n + 1) Z (gTt T) := by
  obtain ⟨⟨a1, a2⟩, b, d, f1, f2⟩ := h
  refine ⟨⟨a1, by show T.2.1 7 ≤ n + 1; omega⟩, b, d, ?_, ?_⟩
  · show T.2.2.1 + 1 ≤ 68 + T.2.1 3 + T.2.1 4 + (n + 1); omega
  · show 18 * (T.2.2.2 + 6) ≤ 18 * (60000 + 49152 * T.2.1 4 + 6 * (n + 1)) + 217 * T.2.1 3; omega
theorem FRE_n {n Z : Nat} {T : gT} (h : FRE n Z T) : FRE (n + 1) Z T := by
  obtain ⟨⟨a1, a2⟩, b, d, f1, f2⟩ := h
  exact ⟨⟨a1, by omega⟩, b, d, by omega, by omega⟩
/-- thrown, and caught -/
theorem FRE_te {n Z : Nat} {T : gT} (h : FRE n Z T) (hn : n < 99999) : FRE (n + 1) Z (gTe (gTt T)) := by
  obtain ⟨⟨a1, a2⟩, b, d, f1, f2⟩ := h
  have e7 : (gTe (gTt T)).2.1 7 = T.2.1 7 + 1 := rfl
  have e3 : (gTe (gTt T)).2.1 3 = T.2.1 3 := rfl
  have e4 : (gTe (gTt T)).2.1 4 = T.2.1 4 := rfl
  have ek : ∀ k : Nat, ¬ k = 700000 + T.2.1 7 → (gTe (gTt T)).1 k = T.1 k := fun k hk => by unfold gTe gTt; exact if_neg hk
  refine ⟨⟨fun k k0 k1 => ?_, by rw [e7]; omega⟩, fun k k0 k1 => ?_, by rw [e4]; exact d, ?_, ?_⟩
  · rw [e7] at k0
    rw [ek k (by omega)]; exact a1 k (by omega) k1
  · rw [e4] at k0
    rw [ek k (by omega)]; exact b k k0 k1
  · rw [e3, e4]; show T.2.2.1 + 1 ≤ _; omega
  · rw [e3, e4]; show 18 * (T.2.2.2 + 6) ≤ _; omega
theorem FRE_x {n Z : Nat} {T : gT} (h : FRE n Z T) (hn : n < 99999) : (T.1 (700000 + T.2.1 7)).1 = 0 := h.1.1 _ (Nat.le_refl _) (by have := h.1.2; omega)
/-- a snapshot may have been made -/
theorem TGS_K {R Z : Nat} {T T1 : gT} {c c1 J J1 : gC} (h : TGS R Z T c) (k : KP T c J T1 c1 J1) : TGS R Z T1 c1 := by
  obtain ⟨⟨a1, a2, a3⟩, b, d, f, g⟩ := h
  have e : ∀ k : Nat, (k < 300000 ∨ 400000 ≤ k) → ¬ k = 100053 → T1.1 k = T.1 k := fun k' hk h3 => KP_T k hk h3
  have ec : ∀ k : Nat, (k < 300000 ∨ 400000 ≤ k) → ¬ k = 100052 → c1 k = c k := fun k' hk h3 => KP_c k hk h3
  obtain ⟨c0, q, h0, h1, h2, h4, h5, h6, h7, h8, h9, m, hH⟩ := k
  refine ⟨⟨XT_of a1 (e _ (by decide) (by decide)), CT_of a2 (fun k k0 k1 => e k (by omega) (by omega)) hH.1, MT_of a3 (fun k k0 k1 => e k (by omega) (by omega)) (e _ (by decide) (by decide))⟩, ?_, PT_of d fun k hk => e k (by omega) (by omega), LT_of f (fun k hk => e k (by omega) (by omega)) (fun k hk j => by rw [ec k (by omega) (by omega)]), m, hH⟩
  rw [e 500002 (by decide) (by decide)]
  exact b
theorem FRE_K {n Z : Nat} {T T1 : gT} {c c1 J J1 : gC} (h : FRE n Z T) (k : KP T c J T1 c1 J1) (hH : HR T c) : FRE n Z T1 := by
  obtain ⟨⟨a1, a2⟩, b, d, f1, f2⟩ := h
  have e : ∀ k : Nat, (k < 300000 ∨ 400000 ≤ k) → ¬ k = 100053 → T1.1 k = T.1 k := fun k' hk h3 => KP_T k hk h3
  obtain ⟨m0, hm0⟩ := hH
  have q0 := hm0.2.2.1
  obtain ⟨c0, q, h0, h1, h2, h4, h5, h6, h7, h8, h9, m, hH⟩ := k
  have q1 := hH.2.2.1
  have e7 := h7 7 (by decide)
  have e4 := h7 4 (by decide)
  refine ⟨⟨fun k k0 k1 => ?_, by omega⟩, fun k k0 k1 => ?_, by rw [e4]; exact d, ?_, ?_⟩
  · rw [e k (by omega) (by omega)]; exact a1 k (by omega) k1
  · rw [e k (by omega) (by omega)]; exact b k (by omega) k1
  · omega
  · omega
