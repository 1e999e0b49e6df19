/-! the law's case: a text that does not read -/
theorem IV_pf {n L : Nat} {T : gT} {c c' : gC} (h : IV n L T c) (hn : n ≤ 990) (e : ∀ k : Nat, ¬ k = 100000 → ¬ k = 100032 → ¬ (100002 ≤ k ∧ k < 100014) → ¬ k = 200001 → ¬ k = 500001 → c' k = c k) (e5 : ∀ j, ¬ j = 0 → (j < 15 ∨ 23 < j) → c' 500001 j = c 500001 j) (hr : RG c') (hN2 : NR c' 100002) (e1 : c' 100000 1 = 0) (e15 : c' 500001 15 = 0) (h3 : c' 100032 3 = c' 500001 21) (h4 : c' 100032 4 = c' 500001 22) : IV n L T c' := by
  obtain ⟨⟨G, Lo, R, Z, i⟩, s⟩ := h
  obtain ⟨⟨t, f⟩, ⟨⟨a1, ⟨a2, a0, a3⟩, ⟨a4, a5, a6⟩, a7, a8⟩, ⟨b0, b2, b3, b4⟩, b9, b5, b6⟩, ⟨d1, d2, d3⟩, ⟨f1, f2⟩, g1, g2⟩ := i
  have ek : ∀ k : Nat, k = 100001 ∨ (100014 ≤ k ∧ k < 100032) ∨ (100033 ≤ k ∧ k < 200001) ∨ (200002 ≤ k ∧ k < 500001) ∨ 500002 ≤ k → c' k = c k := fun k hk => e k (by omega) (by omega) (by omega) (by omega) (by omega)
  refine ⟨⟨G, Lo, R, Z, ⟨TGS_c t (ek _ (by decide)) (fun k hk j => by rw [ek k (by omega)]), f⟩, ⟨⟨hr, ⟨hN2, ?_, ?_⟩, ⟨SR_o2 a4 (ek _ (by decide)) (ek _ (by decide)), PR_o a5 fun k hk => ek k (by omega), PQ_o a6 (PT_k t.2.2.1).1 fun k hk => ek k (by omega)⟩, fun k hk => ?_, TX_o a8 fun k hk => ek k (by omega)⟩, ⟨⟨hr, ?_, ?_⟩, fun j j0 j1 => ?_, ?_, ?_⟩, ⟨by rw [e1, e15], fun k k0 k1 => by rw [e1] at k1; omega⟩, OUT_k b5 (ek _ (by decide)) (ek _ (by decide)) (ek _ (by decide)) (e5 25 (by decide) (by decide)), h3, h4⟩, ⟨d1, CCR_o d2 (by rw [ek _ (by decide)]) (ek _ (by decide)) (ek _ (by decide)), CCP_o d3 fun k k0 k1 => ek k (by omega)⟩, ⟨LV_o f1 (fun k k0 k1 j => by rw [ek k (by omega)]) (fun k k0 k1 j => by rw [ek k (by omega)]) (ek _ (by decide)), HS_o f2 (fun k k0 k1 => ek k (by omega)) (ek _ (by decide)) (ek _ (by decide)) (e5 13 (by decide) (by decide))⟩, ?_, g2⟩, s⟩
  · unfold BR; rw [e1]; omega
  · unfold BR; rw [ek 100030 (by decide)]; exact a3
  · rw [ek 100033 (by decide)]; exact a7 k hk
  · rw [e15]; omega
  · rw [ek 200009 (by decide)]; exact b0.2.2
  · rw [ek 200006 (by decide)]; exact b2 j j0 j1
  · rw [e5 25 (by decide) (by decide)]; exact b3
  · rw [e5 7 (by decide) (by decide)]; exact b4
  · rw [ek 500000 (by decide)]; exact g1
theorem ld1_j {m : gC} (h : MIn m) : (∀ j : Int, ¬ j = 0 → (j < 15 ∨ 23 < j) → ld1 m 500001 j = m 500001 j) ∧ ld1 m 500001 0 = 0 ∧ ld1 m 500001 15 = 0 := by
  have e : ∀ j : Int, j < 17 ∨ 23 < j → ld1 m 500001 j = ld0 m 500001 j := fun j hj => by
    rw [show ld1 m = mad (mclr (ld0 m) 200001) from rfl, (mad_ok (b := 200001) (ld0_MI h)).2.1.2 j hj, mclr_k (by decide)]
  refine ⟨fun j j0 hj => ?_, ?_, ?_⟩
  · rw [e j (by omega)]
    unfold ld0
    rw [gu_j (by omega), gu_j (by omega), gu_j (by omega), gu_j (by omega), gu_j (by omega), gu_j (by omega), gu_j (by omega)]
  · rw [e 0 (by decide)]
    unfold ld0
    rw [gu_j (by decide), gu_j (by decide), gu_j (by decide), gu_j (by decide), gu_j (by decide), gu_j (by decide), gu_s]
  · rw [e 15 (by decide)]
    unfold ld0
    rw [gu_j (by decide), gu_j (by decide), gu_j (by decide), gu_j (by decide), gu_s]
/-- what the reference's reading leaves alone -/
theorem rd_f {m : gC} (h : MIn m) : (RG (mlop 1201 200001 (ld1 m)) ∧ NW (mlop 1201 200001 (ld1 m)) 200001) ∧ (∀ k : Nat, ¬ k = 500001 → ¬ k = 200001 → mlop 1201 200001 (ld1 m) k = m k) ∧ (∀ j : Int, ¬ j = 0 → (j < 15 ∨ 23 < j) → mlop 1201 200001 (ld1 m) 500001 j = m 500001 j) ∧ mlop 1201 200001 (ld1 m) 500001 0 = 0 ∧ mlop 1201 200001 (ld1 m) 500001 15 = 0 := by
  have hX := MX_lo (n := 1201) (b := 200001) (by decide) (MX_rf (ld1_MP h))
  obtain ⟨l1, l2, l3⟩ := ld1_j h
  have mp := hX.1.1
  refine ⟨⟨mp.1.1.1, mp.2⟩, fun k k0 k1 => ?_, fun j j0 hj => ?_, ?_, ?_⟩
  · rw [hX.1.2.1 k k0 k1, ld1_k h k0 k1]
  · rw [hX.1.2.2 j (by omega), l1 j j0 hj]
  · rw [hX.1.2.2 0 (by decide), l2]
  · rw [hX.1.2.2 15 (by decide), l3]
