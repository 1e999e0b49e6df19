/-! the law's case: a text that reads -/
theorem ldm_k {c : gC} {k : Nat} (h0 : ¬ k = 500000) (h1 : ¬ k = 100002) (h2 : ¬ (100014 ≤ k ∧ k < 100026)) (h3 : ¬ (100034 ≤ k ∧ k < 100039)) : ldm c k = c k := by
  unfold ldm
  rw [beg_k (by omega)]
  exact funext fun j => by rw [ncp_k (by omega), gu_k h1, gu_k h0]
/-- both sides have a new network -/
theorem IV_ld {n L : Nat} {T T1 : gT} {c f c1 J J1 y F : gC} (h : IV n L T c) (hn : n ≤ 900) (ef : ∀ k : Nat, ¬ k = 100000 → ¬ k = 100032 → ¬ (100002 ≤ k ∧ k < 100014) → f k = c k) (f1 : f 100000 1 = 0) (fN : NR f 100002) (kp : KP T f J T1 c1 J1) (eF : F = gcp (rem (mbeg 200001 y)) 200001 200000 0 0 208) (hy : (RG y ∧ NW y 200001) ∧ (∀ k : Nat, ¬ k = 500001 → ¬ k = 200001 → y k = ldm c1 k) ∧ (∀ j : Int, ¬ j = 0 → (j < 15 ∨ 23 < j) → y 500001 j = ldm c1 500001 j) ∧ y 500001 15 = 0) {x : gC} (hD : DN x y) (hx : NF (prd x) f 100002) (hC : CLR y) (h3 : f 100032 3 = y 500001 21) (h4 : f 100032 4 = y 500001 22) : IV (n + 1) L T1 F ∧ ldm c1 100014 2 = F 200000 1 ∧ RG F := by
  obtain ⟨⟨G, Lo, R, Z, i⟩, s⟩ := h
  obtain ⟨⟨t, fr⟩, ⟨⟨a1, ⟨a2, a0, a3⟩, ⟨a4, a5, a6⟩, a7, a8⟩, ⟨b1, b2, b3, b4⟩, b9, b5, b6⟩, ⟨d1, d2, d3⟩, ⟨lv, hs⟩, g1, g2, g3⟩ := i
  have kc : ∀ k : Nat, (k < 300000 ∨ 400000 ≤ k) → ¬ k = 100052 → c1 k = f k := fun k hk h3 => KP_c kp hk h3
  have tf : TGS R Z T f := TGS_c t (ef _ (by decide) (by decide) (by decide)) (fun k hk j => by rw [ef k (by omega) (by omega) (by omega)])
  have tk := TGS_K tf kp
  have fk := FRE_K fr kp tf.2.2.2.2
  have rc1 : RG c1 := KP_RG kp tf.2.2.2.2
  have kT : T1.1 800000 = T.1 800000 := KP_T kp (by decide) (by decide)
  -- the class's memory
  have el : ∀ k : Nat, ¬ k = 500000 → ¬ k = 100002 → ¬ (100014 ≤ k ∧ k < 100026) → ¬ (100034 ≤ k ∧ k < 100039) → ldm c1 k = c1 k := fun k h0 h1 h2 h3 => ldm_k h0 h1 h2 h3
  have lo1 : c1 500000 10 = Lo := by rw [kc _ (by decide) (by decide), ef _ (by decide) (by decide) (by decide)]; exact g1
  -- the reference's
  have mb := mbeg_ok hy.1.1 hy.1.2
  have y13 : y 500001 13 = c 500001 13 := by rw [hy.2.2.1 13 (by decide) (by decide), el _ (by decide) (by decide) (by decide) (by decide), kc _ (by decide) (by decide), ef _ (by decide) (by decide) (by decide)]
  have b13 : 0 ≤ c 500001 13 ∧ c 500001 13 ≤ 10 := by have := hs.1; omega
  have m13 : mbeg 200001 y 500001 13 = c 500001 13 := by rw [mb.2 _ (by decide), y13]
  have rr : RG (rem (mbeg 200001 y)) := rem_RG mb.1.1 (by rw [m13]; exact b13)
  have rF : RG F := by rw [eF]; exact RG_gcp rr
  have F0 : ∀ k : Nat, ¬ k = 200000 → F k = rem (mbeg 200001 y) k := fun k hk => by rw [eF]; exact funext fun j => gcp_k hk
  have F1 : ∀ k : Nat, ¬ k = 200000 → ¬ k = 200001 → ¬ k = 200008 → ¬ k = 500001 → F k = ldm c1 k := fun k h0 h1 h2 h5 => by rw [F0 k h0, rem_o h2 h5, mb.2 k h1, hy.2.1 k h5 h1]
  have F2 : ∀ k : Nat, ¬ k = 200000 → ¬ k = 200001 → ¬ k = 200008 → ¬ k = 500001 → ¬ k = 500000 → ¬ k = 100002 → ¬ (100014 ≤ k ∧ k < 100026) → ¬ (100034 ≤ k ∧ k < 100039) → F k = c1 k := fun k h0 h1 h2 h5 a b d e => (F1 k h0 h1 h2 h5).trans (el k a b d e)
  have F3 : ∀ k : Nat, k = 100001 ∨ (100026 ≤ k ∧ k < 100032) ∨ k = 100033 ∨ (100039 ≤ k ∧ k < 100052) ∨ (100053 ≤ k ∧ k < 200000) ∨ (200002 ≤ k ∧ k < 200008) ∨ (200009 ≤ k ∧ k < 300000) ∨ (400000 ≤ k ∧ k < 500000) ∨ 500002 ≤ k → F k = c k := fun k hk => by
    rw [F2 k (by omega) (by omega) (by omega) (by omega) (by omega) (by omega) (by omega) (by omega), kc k (by omega) (by omega), ef k (by omega) (by omega) (by omega)]
  have F5 : ∀ j : Int, ¬ j = 0 → ¬ j = 13 → (j < 15 ∨ 23 < j) → F 500001 j = c 500001 j := fun j j0 j1 hj => by
    rw [F0 _ (by decide), rem_m j1, mb.2 _ (by decide), hy.2.2.1 j j0 hj, el _ (by decide) (by decide) (by decide) (by decide), kc _ (by decide) (by decide), ef _ (by decide) (by decide) (by decide)]
  have F5b : ∀ j : Int, ¬ j = 13 → F 500001 j = y 500001 j := fun j hj => by rw [F0 _ (by decide), rem_m hj, mb.2 _ (by decide)]
  -- what stands at both sides
  have ls := load_SW (x := x) (z := gu c1 500000 10 (c1 500000 10 + 1)) (y := y) hD (fun k k0 k1 j => by rw [gu_k (by omega), kc k (by omega) (by omega)]; exact hx k k0 k1 j) hy.1.2 hy.1.1 hC (v := c1 500000 10 + 1)
  rw [← eF] at ls
  have eld : beg (ncp (gu (gu c1 500000 10 (c1 500000 10 + 1)) 100002 0 (c1 500000 10 + 1)) 100014 100002) 100014 100034 = ldm c1 := rfl
  rw [eld] at ls
  obtain ⟨l1, l2, l3, l4, l5⟩ := ls
  have nfF : NF (ldm c1) F 100014 := fun k k0 k1 j => by rw [F1 k (by omega) (by omega) (by omega) (by omega)]
  have wfF : WF (ldm c1) F 100034 := fun k k0 k1 j => by rw [F1 k (by omega) (by omega) (by omega) (by omega)]
  have swF : SW F 100014 100034 F 200000 := SW_o l1 nfF wfF rfl
  have e14 : ∀ k : Nat, 100014 ≤ k → k < 100026 → ldm c1 k = ncp (gu (gu c1 500000 10 (c1 500000 10 + 1)) 100002 0 (c1 500000 10 + 1)) 100014 100002 k := fun k k0 k1 => by
    unfold ldm
    exact beg_k (by omega)
  have E := ncp_eq (c := gu (gu c1 500000 10 (c1 500000 10 + 1)) 100002 0 (c1 500000 10 + 1)) (k := 100014) (o := 100002) (Or.inr (by decide))
  have n1 : NR c1 100002 := NR_oth fN fun k h1 h2 => kc k (by omega) (by omega)
  have n2 : NR (gu (gu c1 500000 10 (c1 500000 10 + 1)) 100002 0 (c1 500000 10 + 1)) 100002 := NR_0 (NR_k n1 (by omega)) (by decide) (by decide)
  have nF : NR F 100014 := NR_k2 (NEQ_NR E n2) fun k k0 k1 j => by rw [F1 k (by omega) (by omega) (by omega) (by omega), e14 k k0 k1]
  have sF : F 100014 0 = Lo + 1 := by
    rw [F1 100014 (by decide) (by decide) (by decide) (by decide), e14 100014 (by decide) (by decide), E.1 0 (by decide) (by decide), gu_s, lo1]
  have w5 := l5 (700000 * ((n + 1 : Nat) : Int)) (by omega) (by omega)
  have s83 : F 200000 8 = F 200000 3 := by
    have v4 : ldm c1 100034 4 = F 200000 8 := l1.2.1.1.2.1.2
    have q4 : ldm c1 100014 4 = F 200000 3 := l1.1.1.1.2.2
    have bb := beg_v (c := ncp (gu (gu c1 500000 10 (c1 500000 10 + 1)) 100002 0 (c1 500000 10 + 1)) 100014 100002) (n := 100014) (w := 100034)
    have b4' := bb.2.1.2 (by decide)
    rw [eld] at b4'
    rw [← v4, ← q4, b4', e14 100014 (by decide) (by decide)]
  have GE : ∀ q : Int, 0 ≤ q → q ≤ Lo → (fun q => if q = Lo + 1 then F else G q) q = G q := fun q q0 q1 => if_neg (by omega)
  have lvf : LV G (700000 * (n : Int)) Lo f 100014 100034 (mbeg 200001 y) 200000 := LV_o lv (fun k k0 k1 j => by rw [ef k (by omega) (by omega) (by omega)]) (fun k k0 k1 j => by rw [ef k (by omega) (by omega) (by omega)]) (by rw [mb.2 _ (by decide), hy.2.1 _ (by decide) (by decide), el _ (by decide) (by decide) (by decide) (by decide), kc _ (by decide) (by decide), ef _ (by decide) (by decide) (by decide)])
  have hsf : HS G (700000 * (n : Int)) Lo f f := HS_o hs (fun k k0 k1 => ef k (by omega) (by omega) (by omega)) (ef _ (by decide) (by decide) (by decide)) (ef _ (by decide) (by decide) (by decide)) (by rw [ef _ (by decide) (by decide) (by decide)])
  have e8 : mbeg 200001 y 200008 = f 200008 := by rw [mb.2 _ (by decide), hy.2.1 _ (by decide) (by decide), el _ (by decide) (by decide) (by decide) (by decide), kc _ (by decide) (by decide)]
  have e13 : mbeg 200001 y 500001 13 = f 500001 13 := by rw [m13, ef _ (by decide) (by decide) (by decide)]
  have hs1 : HS G (700000 * (n : Int)) Lo c1 (rem (mbeg 200001 y)) := by
    have hs0 := fun (c0 : gC) (q : Nat) h0 h5 => HS_keep (c0 := c0) (q := q) hsf lvf h0 h5 e8 e13
    obtain ⟨c0, q, h0, h1, h2, h4, h5, -⟩ := kp
    rw [h2]
    exact hs0 c0 q h0 (fun k hk => (h5 k hk).1)
  have hs2 : HS G (700000 * (n : Int)) Lo F F := HS_o hs1 (fun k k0 k1 => F2 k (by omega) (by omega) (by omega) (by omega) (by omega) (by omega) (by omega) (by omega)) (F2 _ (by decide) (by decide) (by decide) (by decide) (by decide) (by decide) (by decide) (by decide)) (F0 _ (by decide)) (by rw [F0 _ (by decide)])
  refine ⟨⟨⟨fun q => if q = Lo + 1 then F else G q, Lo + 1, R, Z, ⟨TGS_c tk (F2 _ (by decide) (by decide) (by decide) (by decide) (by decide) (by decide) (by decide) (by decide)) (fun k hk j => by rw [F2 k (by omega) (by omega) (by omega) (by omega) (by omega) (by omega) (by omega) (by omega)]), FRE_n fk⟩, ⟨⟨rF, ⟨?_, ?_, ?_⟩, ⟨SR_o2 a4 (F3 _ (by decide)) (F3 _ (by decide)), PR_o a5 fun k hk => F3 k (by omega), PQ_o a6 (PT_k t.2.2.1).1 fun k hk => F3 k (by omega)⟩, fun k hk => ?_, TX_o a8 fun k hk => F3 k (by omega)⟩, ⟨⟨rF, ?_, ?_⟩, fun j j0 j1 => ?_, ?_, ?_⟩, ⟨?_, fun k k0 k1 => ?_⟩, OUT_k b5 (F3 _ (by decide)) (F3 _ (by decide)) (F3 _ (by decide)) (F5 25 (by decide) (by decide) (by decide)), ?_, ?_⟩, ⟨fun q q0 q1 => ?_, ⟨?_, fun q0 => ?_⟩, fun z z0 z1 => ⟨?_, fun q0 => ?_⟩⟩, ⟨⟨⟨swF, NMS_o l2 nfF rfl⟩, ⟨⟨l3, by rw [s83]; exact Int.le_refl _⟩, l4⟩, ⟨nF, WEQ_WR (WEQ_o wfF) w5.1, w5.2⟩, ⟨?_, ?_⟩, by rw [sF]; omega, by rw [sF]; exact Int.le_refl _⟩, HS_mono (HS_G hs2 GE) (by omega) (by omega) (by omega)⟩, ?_, by omega, by omega⟩, ?_⟩, l1.1.1.1.1.2, rF⟩
  · exact NR_k2 n2 fun k k0 k1 j => by
      rw [F1 k (by omega) (by omega) (by omega) (by omega)]
      unfold ldm
      rw [beg_k (by omega), ncp_k (by omega)]
  · unfold BR
    rw [F2 100000 (by decide) (by decide) (by decide) (by decide) (by decide) (by decide) (by decide) (by decide), kc _ (by decide) (by decide), f1]
    omega
  · unfold BR; rw [F3 100030 (by decide)]; exact a3
  · rw [F3 100033 (by decide)]; exact a7 k hk
  · rw [F5b 15 (by decide), hy.2.2.2]; omega
  · rw [F3 200009 (by decide)]; exact b1.2.2
  · rw [F3 200006 (by decide)]; exact b2 j j0 j1
  · rw [F5 25 (by decide) (by decide) (by decide)]; exact b3
  · rw [F5 7 (by decide) (by decide) (by decide)]; exact b4
  · rw [F2 100000 (by decide) (by decide) (by decide) (by decide) (by decide) (by decide) (by decide) (by decide), kc _ (by decide) (by decide), f1, F5b 15 (by decide), hy.2.2.2]
  · rw [F2 100000 (by decide) (by decide) (by decide) (by decide) (by decide) (by decide) (by decide) (by decide), kc _ (by decide) (by decide), f1] at k1
    omega
  · rw [F2 100032 (by decide) (by decide) (by decide) (by decide) (by decide) (by decide) (by decide) (by decide), kc _ (by decide) (by decide), h3, F5b 21 (by decide)]
  · rw [F2 100032 (by decide) (by decide) (by decide) (by decide) (by decide) (by decide) (by decide) (by decide), kc _ (by decide) (by decide), h4, F5b 22 (by decide)]
  · dsimp only
    by_cases w : q = Lo + 1
    · rw [if_pos w]
      exact ⟨swF.1.1, ⟨swF.1.2, rF⟩, swF.2.2.2⟩
    · rw [if_neg w]
      exact d1 q q0 (by omega)
  · rw [F3 100026 (by decide)]
    rcases d2.1 with w | w
    · exact Or.inl w
    · exact Or.inr ⟨w.1, by omega⟩
  · rw [F3 100026 (by decide)] at q0 ⊢
    have w : c 100026 1 ≤ Lo := by rcases d2.1 with w | w <;> omega
    dsimp only
    rw [if_neg (by omega)]
    exact FT_o (d2.2 q0) (F3 _ (by decide)) (F3 _ (by decide))
  · rw [F3 100045 (by decide)]
    rcases (d3 z z0 z1).1 with w | w
    · exact Or.inl w
    · exact Or.inr ⟨w.1, by omega⟩
  · rw [F3 100045 (by decide)] at q0 ⊢
    have w : c 100045 (z - 1) ≤ Lo := by rcases (d3 z z0 z1).1 with w | w <;> omega
    dsimp only
    rw [if_neg (by omega)]
    exact PLN_o ((d3 z z0 z1).2 q0) (by rw [F3 100046 (by decide)]) (by rw [F3 100047 (by decide)]) (fun k _ _ => by rw [F3 100048 (by decide)])
  · rw [sF]
    dsimp only
    rw [if_pos rfl]
    exact NEQ_o fun _ _ _ _ => rfl
  · rw [sF]
    dsimp only
    rw [if_pos rfl]
    exact fun _ _ => rfl
  · rw [F1 500000 (by decide) (by decide) (by decide) (by decide)]
    unfold ldm
    rw [beg_k (by decide), ncp_k (by decide), gu_k (by decide), gu_s, lo1]
  · rw [kT]; exact s
