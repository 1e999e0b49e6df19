/-! the law's cases: sums, a mean, what is critical -/
theorem ib_rg {c : gC} {z : Int} : -2147483648 ≤ itI (ibf c z) 0 24 ∧ itI (ibf c z) 0 24 < 2147483648 := by
  have key := itI_inv3 (f := ibf c z) (x := 0) (fun (k s : Int) => -k ≤ s ∧ s ≤ k) (N := 24) ⟨by decide, by decide⟩ (fun j s j0 j1 hs => by
    unfold ibf
    split
    · split <;> split <;> omega
    · omega) (k := 24) (by decide) (by decide)
  omega
theorem sl_rg {c : gC} {q : Int} (hN : NR c 100014) : -2147483648 ≤ itI (slf c q) 0 24 ∧ itI (slf c q) 0 24 < 2147483648 := by
  have key := itI_inv3 (f := slf c q) (x := 0) (fun (k s : Int) => 0 ≤ s ∧ s ≤ 1000000 * k) (N := 24) ⟨by decide, by decide⟩ (fun j s j0 j1 hs => by
    have h1 := sf_rg hN j
    unfold slf
    split <;> omega) (k := 24) (by decide) (by decide)
  omega
theorem me_rg {m : gC} {B q : Int} (hW : WW m 200000 B) : -2147483648 ≤ (if q = 0 then -1 else itI (mef m 200000 q) 0 24 / mcb q) ∧ (if q = 0 then -1 else itI (mef m 200000 q) 0 24 / mcb q) < 2147483648 := by
  have key := itI_inv3 (f := mef m 200000 q) (x := 0) (fun (k s : Int) => 0 ≤ s ∧ s ≤ 2000 * k) (N := 24) ⟨by decide, by decide⟩ (fun j s j0 j1 hs => by
    have h1 := msn_rg hW (t := m 200000 5) (show 0 ≤ j ∧ j < 24 from ⟨j0, j1⟩)
    unfold mef
    split <;> omega) (k := 24) (by decide) (by decide)
  split
  · decide
  · have h2 := Int.ediv_le_self (mcb q) key.1
    by_cases e : 0 ≤ mcb q
    · have h3 := Int.ediv_nonneg key.1 e
      omega
    · have h4 := Int.ediv_neg (itI (mef m 200000 q) 0 24) (mcb q)
      have h5 : itI (mef m 200000 q) 0 24 / mcb q = -(itI (mef m 200000 q) 0 24 / (-mcb q)) := by rw [Int.ediv_neg, Int.neg_neg]
      have h6 := Int.ediv_nonneg key.1 (show 0 ≤ -mcb q by omega)
      have h7 := Int.ediv_le_self (-mcb q) key.1
      omega
set_option maxHeartbeats 1000000 in
theorem op_20 {L : Nat} : OPC L 1235 := by
  intro n T c J i u5 u6 Q hn h hL hi hu hv hend
  have rg := IV_RG h
  have hz := rg 800000 (i + 1)
  have hr : (0 ≤ (c 800000 (i + 1)) ∧ (c 800000 (i + 1)) < c 100014 1) → -2147483648 ≤ itI (ibf c (c 800000 (i + 1))) 0 24 ∧ itI (ibf c (c 800000 (i + 1))) 0 24 < 2147483648 := fun w => by exact ib_rg
  have em : ∀ n' T' c' J', IV n' L T' c' → n' < 901 → SAM c c' → gE 5 226 2 [.ref 500001, gi (c 800000 (i + 1))] (gm T' c' J') (gMI (0 ≤ (c 800000 (i + 1)) ∧ (c 800000 (i + 1)) < c 100014 1) (itI (ibf c (c 800000 (i + 1))) 0 24) 1 T' c' J') := fun n' T' c' J' h' hn' sm => by
    have es : c' 200000 = c 200000 := sm _ (Or.inl (by decide))
    have nn := NN_b (IV_NN h) es
    have vv := VV_b (IV_SW h).2.1 es
    have hV := IV_NW h'
    have ww := (IV_WR h').2
    have c1l : CL1 c' 200000 := (IV_SW h').2.2.2
    refine gE_mono (m_x_imbalance (IV_MT h') (IV_RG h') hV hz) fun o M1 q => ?_
    rcases q with ⟨q1, rfl, rfl⟩ | ⟨q1, rfl, rfl⟩
    · have w : 0 ≤ (c 800000 (i + 1)) ∧ (c 800000 (i + 1)) < c 100014 1 := by have a1 : c 100014 1 = _ := nn.1.1.1; have := inr_t.mp q1; omega
      refine Or.inl ⟨w, congrArg (fun x => (Sum.inl (some (gi x)) : am_O)) (Eq.symm ?_), rfl⟩
      exact imb_e (NN_t nn) (NW_t hV) _
    · exact Or.inr ⟨fun w => by have a1 : c 100014 1 = _ := nn.1.1.1; exact inr_f.mp q1 (by omega), _, rfl, rfl⟩
  exact lc_20 (E := fun T c _ => IV (n + 1) L T c) (by omega) (by omega) h.2 hL hi hu hv (w_imbalance (opq1 h hn hr (c_x_imbalance (IV_XT h) (IV_NT h) rg (IV_NR h) (IV_WT h).1 (IV_WT h).2 (IV_WR h).1 hz)) (fun E T1 c1 J1 q => RI_E E T1 c1 J1 q)) (opq2 h hn hr em) (opq3 h hn ⟨rfl, by decide, by decide⟩ em) (fun z T2 c2 J2 k b q hk hb => hend T2 c2 J2 k b q.2.2.2 hk hb)
set_option maxHeartbeats 1000000 in
theorem op_57 {L : Nat} : OPC L 2926 := by
  intro n T c J i u5 u6 Q hn h hL hi hu hv hend
  have rg := IV_RG h
  have hz := rg 800000 (i + 1)
  have hr : (1 ≤ (c 800000 (i + 1)) ∧ (c 800000 (i + 1)) ≤ 3) → -2147483648 ≤ itI (slf c (mskI (fun a => hA c 100014 a && decide (cl c 100014 a ≤ (c 800000 (i + 1)))) 24)) 0 24 ∧ itI (slf c (mskI (fun a => hA c 100014 a && decide (cl c 100014 a ≤ (c 800000 (i + 1)))) 24)) 0 24 < 2147483648 := fun w => by exact sl_rg (IV_NR h)
  have em : ∀ n' T' c' J', IV n' L T' c' → n' < 901 → SAM c c' → gE 5 284 3 [.ref 500001, gi (c 800000 (i + 1))] (gm T' c' J') (gMI (1 ≤ (c 800000 (i + 1)) ∧ (c 800000 (i + 1)) ≤ 3) (itI (slf c (mskI (fun a => hA c 100014 a && decide (cl c 100014 a ≤ (c 800000 (i + 1)))) 24)) 0 24) 1 T' c' J') := fun n' T' c' J' h' hn' sm => by
    have es : c' 200000 = c 200000 := sm _ (Or.inl (by decide))
    have nn := NN_b (IV_NN h) es
    have vv := VV_b (IV_SW h).2.1 es
    have hV := IV_NW h'
    have ww := (IV_WR h').2
    have c1l : CL1 c' 200000 := (IV_SW h').2.2.2
    refine gE_mono (m_x_saltNeeded (IV_MT h') (IV_RG h') hV hz) fun o M1 q => ?_
    rcases q with ⟨q1, rfl, rfl⟩ | ⟨q1, rfl, rfl⟩
    · have w : 1 ≤ (c 800000 (i + 1)) ∧ (c 800000 (i + 1)) ≤ 3 := by have := inr_t.mp q1; omega
      refine Or.inl ⟨w, congrArg (fun x => (Sum.inl (some (gi x)) : am_O)) (Eq.symm ?_), rfl⟩
      rw [req_e (NN_t nn (z := 0)) (NW_t hV)]; exact salt_e (NN_t nn) (NW_t hV) (CL1_o c1l (tw_k (by decide))) (fun a ha q => (tb_req ha q).1)
    · exact Or.inr ⟨fun w => inr_f.mp q1 (by omega), _, rfl, rfl⟩
  exact lc_57 (E := fun T c _ => IV (n + 1) L T c) (by omega) (by omega) h.2 hL hi hu hv (w_saltNeeded (opq1 h hn hr (c_x_salt (IV_XT h) (IV_NT h) rg (IV_NR h) (IV_WT h).1 (IV_WT h).2 (IV_WR h).1 hz)) (fun E T1 c1 J1 q => RI_E E T1 c1 J1 q)) (opq2 h hn hr em) (opq3 h hn ⟨rfl, by decide, by decide⟩ em) (fun z T2 c2 J2 k b q hk hb => hend T2 c2 J2 k b q.2.2.2 hk hb)
set_option maxHeartbeats 1000000 in
theorem op_62 {L : Nat} : OPC L 3242 := by
  intro n T c J i u5 u6 Q hn h hL hi hu hv hend
  have rg := IV_RG h
  have hz := rg 800000 (i + 1)
  have hr : (1 ≤ (c 800000 (i + 1)) ∧ (c 800000 (i + 1)) ≤ 3) → -2147483648 ≤ mdp c (mskI (fun a => hA c 100014 a && decide (cl c 100014 a ≤ (c 800000 (i + 1)))) 24) ∧ mdp c (mskI (fun a => hA c 100014 a && decide (cl c 100014 a ≤ (c 800000 (i + 1)))) 24) < 2147483648 := fun w => by rw [req_e (IV_NN h) (IV_NW h), (mean_e (IV_NW h) (IV_SW h).2.1 (IV_WR h).2 req_rg (fun a ha q => (tb_req ha q).1)).1]; exact me_rg (IV_WR h).2
  have em : ∀ n' T' c' J', IV n' L T' c' → n' < 901 → SAM c c' → gE 5 287 3 [.ref 500001, gi (c 800000 (i + 1))] (gm T' c' J') (gMI (1 ≤ (c 800000 (i + 1)) ∧ (c 800000 (i + 1)) ≤ 3) (mdp c (mskI (fun a => hA c 100014 a && decide (cl c 100014 a ≤ (c 800000 (i + 1)))) 24)) 1 T' c' J') := fun n' T' c' J' h' hn' sm => by
    have es : c' 200000 = c 200000 := sm _ (Or.inl (by decide))
    have nn := NN_b (IV_NN h) es
    have vv := VV_b (IV_SW h).2.1 es
    have hV := IV_NW h'
    have ww := (IV_WR h').2
    have c1l : CL1 c' 200000 := (IV_SW h').2.2.2
    refine gE_mono (m_x_meanDepth (IV_MT h') (IV_RG h') hV hz ww (by omega) (mean_e (NW_t hV) (VV_t vv) (WW_t ww) req_rg (fun a ha q => (tb_req ha q).1)).2) fun o M1 q => ?_
    rcases q with ⟨q1, rfl, rfl⟩ | ⟨q1, rfl, rfl⟩
    · have w : 1 ≤ (c 800000 (i + 1)) ∧ (c 800000 (i + 1)) ≤ 3 := by have := inr_t.mp q1; omega
      refine Or.inl ⟨w, congrArg (fun x => (Sum.inl (some (gi x)) : am_O)) (Eq.symm ?_), rfl⟩
      rw [req_e (NN_t nn (z := 0)) (NW_t hV)]; exact (mean_e (NW_t hV) (VV_t vv) (WW_t ww) req_rg (fun a ha q => (tb_req ha q).1)).1
    · exact Or.inr ⟨fun w => inr_f.mp q1 (by omega), _, rfl, rfl⟩
  exact lc_62 (E := fun T c _ => IV (n + 1) L T c) (by omega) (by omega) h.2 hL hi hu hv (w_meanDepth (opq1 h hn hr (c_x_mean (IV_XT h) (IV_NT h) rg (IV_NR h) (IV_WT h).1 (IV_WT h).2 (IV_WR h).1 hz)) (fun E T1 c1 J1 q => RI_E E T1 c1 J1 q)) (opq2 h hn hr em) (opq3 h hn ⟨rfl, by decide, by decide⟩ em) (fun z T2 c2 J2 k b q hk hb => hend T2 c2 J2 k b q.2.2.2 hk hb)
theorem bi_01 (p : Bool) : bi p = 0 ∨ bi p = 1 := by cases p <;> decide
theorem RI_v {p : Prop} {X : Nat} {v : Int} {T : gT} {c J : gC} {v' : Int} {T1 : gT} {c1 J1 : gC} (h : RI p X v T c J (.inl v') T1 c1 J1) : v' = v := by
  obtain ⟨-, -, ⟨-, e, -⟩ | ⟨-, e, -⟩⟩ := h
  · exact Sum.inl.inj e
  · cases e
set_option maxHeartbeats 1000000 in
theorem op_56 {L : Nat} : OPC L 2863 := by
  intro n T c J i u5 u6 Q hn h hL hi hu hv hend
  have rg := IV_RG h
  have hz := rg 800000 (i + 1)
  have hr : (0 ≤ (c 800000 (i + 1)) ∧ (c 800000 (i + 1)) < c 100014 2) → -2147483648 ≤ bi (con c 100014 (-1) && !con c 100014 (c 800000 (i + 1))) ∧ bi (con c 100014 (-1) && !con c 100014 (c 800000 (i + 1))) < 2147483648 := fun w => bi_rg _
  have em : ∀ n' T' c' J', IV n' L T' c' → n' < 901 → SAM c c' → gE 5 225 4 [.ref 500001, gi (c 800000 (i + 1))] (gm T' c' J') (gMI (0 ≤ (c 800000 (i + 1)) ∧ (c 800000 (i + 1)) < c 100014 2) (bi (con c 100014 (-1) && !con c 100014 (c 800000 (i + 1)))) 1 T' c' J') := fun n' T' c' J' h' hn' sm => by
    have es : c' 200000 = c 200000 := sm _ (Or.inl (by decide))
    have nn := NN_b (IV_NN h) es
    have hV := IV_NW h'
    have a1 : c 100014 2 = _ := nn.1.1.2
    refine gE_mono (m_x_isCritical (IV_MT h') (IV_RG h') hV hz) fun o M1 q => ?_
    rcases q with ⟨q1, rfl, rfl⟩ | ⟨q1, rfl, rfl⟩
    · refine Or.inl ⟨by have := inr_t.mp q1; omega, congrArg (fun x => (Sum.inl (some (gi x)) : am_O)) (Eq.symm ?_), rfl⟩
      rw [NN_con nn hV, NN_con nn hV]
    · exact Or.inr ⟨fun w => inr_f.mp q1 (by omega), _, rfl, rfl⟩
  exact lc_56 (E := fun T c _ => IV (n + 1) L T c) (by omega) (by omega) h.2 hL hi hu hv (w_isCritical (opq1 h hn hr (c_x_critical (IV_XT h) (IV_NT h) rg (IV_NR h) (IV_WT h).1 (IV_WT h).2 (IV_WR h).1 hz)) (fun E T1 c1 J1 q => RI_E E T1 c1 J1 q) (fun v T1 c1 J1 q => by rw [RI_v q]; exact bi_01 _)) (fun v T1 c1 J1 q => ⟨(opq2 h hn hr em v T1 c1 J1 q).1, gE_mono (opq2 h hn hr em v T1 c1 J1 q).2 fun o M1 ⟨T2, c2, J2, a1, a2, a3, a4, _⟩ => ⟨T2, c2, J2, a1, a2, a3, a4, by rw [RI_v q]; exact bi_01 _⟩⟩) (opq3 h hn ⟨rfl, by decide, by decide⟩ em) (fun z T2 c2 J2 k b q hk hb => hend T2 c2 J2 k b q.2.2.2 hk hb)
