/-! the law's cases: the calls that look and change nothing -/
def OPC (L pc : Nat) : Prop := ∀ {n : Nat} {T : gT} {c J : gC} {i : Int} {u5 u6 : Value} {Q : am_O → am_M → Prop}, n < 900 → IV n L T c → L ≤ 3072 → (0 ≤ i ∧ i + 6 ≤ (L : Int)) → am_nl u5 = true → am_nl u6 = true → (∀ T2 c2 J2 (k b : Value), IV (n + 1) L T2 c2 → am_nl k = true → am_nl b = true → gw 13 5 388 3366 [.ref 800000, .ref 500000, .ref 500001, .ref 500002, gi i, k, b] [] (gm T2 c2 J2) Q) → gw 13 5 388 pc [.ref 800000, .ref 500000, .ref 500001, .ref 500002, gi i, u5, u6] [] (gm T c J) Q
theorem NN_t {c m : gC} (h : NN c 100014 m 200000) {z : Int} : NN c 100014 (tw m z) 200000 := NN_b h (tw_k (by decide))
theorem VV_t {c m : gC} (h : VV c 100034 m 200000) {z : Int} : VV c 100034 (tw m z) 200000 := VV_b h (tw_k (by decide))
theorem NW_t {m : gC} (h : NW m 200000) {z : Int} : NW (tw m z) 200000 := NW_of h (tw_k (by decide))
theorem WW_t {m : gC} {B : Int} (h : WW m 200000 B) {z : Int} : WW (tw m z) 200000 B := WW_of h (tw_k (by decide))
theorem gI2_gI {p p' : Prop} {X F HF : Nat} {as : List Value} {v : Int} {T : gT} {c J : gC} (e : gE 5 F HF as (gm T c J) (gI2 p X p' X v T c J)) : gE 5 F HF as (gm T c J) (gI (p ∧ p') X v T c J) := gE_mono e fun o M1 q => by
  rcases q with ⟨a, b, d, f⟩ | ⟨a, b, d, f⟩ | ⟨a, d, f⟩
  · exact Or.inl ⟨⟨a, b⟩, d, f⟩
  · exact Or.inr ⟨fun w => b w.2, d, f⟩
  · exact Or.inr ⟨fun w => a w.1, d, f⟩
theorem frs_rg {m : gC} {B q p : Int} (hW : WW m 200000 B) : -2147483648 ≤ (if 1000000 < itI (fun a s => if tb q a = true then min s (mfs m a p) else s) 1000001 24 then -1 else itI (fun a s => if tb q a = true then min s (mfs m a p) else s) 1000001 24) ∧ (if 1000000 < itI (fun a s => if tb q a = true then min s (mfs m a p) else s) 1000001 24 then -1 else itI (fun a s => if tb q a = true then min s (mfs m a p) else s) 1000001 24) < 2147483648 := by
  have key : 0 ≤ itI (fun a s => if tb q a = true then min s (mfs m a p) else s) 1000001 24 ∧ itI (fun a s => if tb q a = true then min s (mfs m a p) else s) 1000001 24 ≤ 1000001 := itI_inv2 (fun s : Int => 0 ≤ s ∧ s ≤ 1000001) (N := 24) (by decide) (fun j s _ _ hs => by
    have := (mfs_spec (a := j) (p := p) hW).1
    split <;> omega) (k := 24) (by decide)
  split <;> omega
theorem mxob {g : Nat} {T : gT} {c J : gC} (hM : MT T 200000) (hc : RG c) (_ : NW c 200000) {i : Int} (hi : -2147483648 ≤ i ∧ i < 2147483648) (h25 : 0 ≤ c 500001 25 ∧ c 500001 25 ≤ 1500) : gE g 331 2 [.ref 500001, gi i] (gm T c J) (fun o M1 => (inr i 0 (c 500001 25 - 1) = true ∧ o = .inl (some (gi (c 200010 i))) ∧ M1 = gm T (tw c 0) J) ∨ (inr i 0 (c 500001 25 - 1) = false ∧ o = .inl (some (gi 0)) ∧ M1 = gm T (tw c 1) J)) := m_x_outputByte hM hc hi h25
theorem IV_OUT {n L : Nat} {T : gT} {c : gC} (h : IV n L T c) : OUT c c := by
  obtain ⟨⟨G, Lo, R, Z, -, ⟨-, -, ⟨-, a, -⟩⟩, -⟩, -⟩ := h
  exact a
theorem IV_BR {n L : Nat} {T : gT} {c : gC} (h : IV n L T c) : BR c 100030 := by
  obtain ⟨⟨G, Lo, R, Z, -, ⟨⟨-, ⟨-, -, a⟩, -⟩, -⟩, -⟩, -⟩ := h
  exact a
theorem IV_25 {n L : Nat} {T : gT} {c : gC} (h : IV n L T c) : 0 ≤ c 500001 25 ∧ c 500001 25 ≤ 1500 := by
  obtain ⟨⟨G, Lo, R, Z, -, ⟨-, ⟨-, -, a, -⟩, -⟩, -⟩, -⟩ := h
  exact a
theorem mhA_tw {m : gC} {z : Int} (a : Int) : mhA (tw m z) 200000 a = mhA m 200000 a := by unfold mhA; rw [tw_k (by decide)]
set_option maxHeartbeats 1000000 in
theorem op_9 {L : Nat} : OPC L 602 := by
  intro n T c J i u5 u6 Q hn h hL hi hu hv hend
  have rg := IV_RG h
  have hz := rg 800000 (i + 1)
  have hr : (hA c 100014 (c 800000 (i + 1)) = true) → -2147483648 ≤ bg c 100014 (c 800000 (i + 1)) ∧ bg c 100014 (c 800000 (i + 1)) < 2147483648 := fun w => by have := bg_rg (IV_NR h) (c 800000 (i + 1)); omega
  have em : ∀ n' T' c' J', IV n' L T' c' → n' < 901 → SAM c c' → gE 5 211 2 [.ref 500001, gi (c 800000 (i + 1))] (gm T' c' J') (gMI (hA c 100014 (c 800000 (i + 1)) = true) (bg c 100014 (c 800000 (i + 1))) 1 T' c' J') := fun n' T' c' J' h' hn' sm => by
    have es : c' 200000 = c 200000 := sm _ (Or.inl (by decide))
    have nn := NN_b (IV_NN h) es
    have vv := VV_b (IV_SW h).2.1 es
    have hV := IV_NW h'
    have ww := (IV_WR h').2
    have c1l : CL1 c' 200000 := (IV_SW h').2.2.2
    refine gE_mono (m_x_arcStart (IV_MT h') (IV_RG h') hV hz) fun o M1 q => ?_
    rcases q with ⟨q1, rfl, rfl⟩ | ⟨q1, rfl, rfl⟩
    · have w : hA c 100014 (c 800000 (i + 1)) = true := by rw [NN_hA nn]; exact q1
      refine Or.inl ⟨w, congrArg (fun x => (Sum.inl (some (gi x)) : am_O)) (Eq.symm ?_), rfl⟩
      exact (NN_bg nn hV q1).1
    · exact Or.inr ⟨by rw [NN_hA nn, q1]; decide, _, rfl, rfl⟩
  exact lc_9 (E := fun T c _ => IV (n + 1) L T c) (by omega) (by omega) h.2 hL hi hu hv (w_arcStart (opq1 h hn hr (c_x_arcStart (IV_XT h) (IV_NT h) rg (IV_NR h) (IV_WT h).1 (IV_WT h).2 (IV_WR h).1 hz)) (fun E T1 c1 J1 q => RI_E E T1 c1 J1 q)) (opq2 h hn hr em) (opq3 h hn ⟨rfl, by decide, by decide⟩ em) (fun z T2 c2 J2 k b q hk hb => hend T2 c2 J2 k b q.2.2.2 hk hb)
set_option maxHeartbeats 1000000 in
theorem op_10 {L : Nat} : OPC L 658 := by
  intro n T c J i u5 u6 Q hn h hL hi hu hv hend
  have rg := IV_RG h
  have hz := rg 800000 (i + 1)
  have hr : (hA c 100014 (c 800000 (i + 1)) = true) → -2147483648 ≤ en c 100014 (c 800000 (i + 1)) ∧ en c 100014 (c 800000 (i + 1)) < 2147483648 := fun w => by have := en_rg (IV_NR h) (c 800000 (i + 1)); omega
  have em : ∀ n' T' c' J', IV n' L T' c' → n' < 901 → SAM c c' → gE 5 212 2 [.ref 500001, gi (c 800000 (i + 1))] (gm T' c' J') (gMI (hA c 100014 (c 800000 (i + 1)) = true) (en c 100014 (c 800000 (i + 1))) 1 T' c' J') := fun n' T' c' J' h' hn' sm => by
    have es : c' 200000 = c 200000 := sm _ (Or.inl (by decide))
    have nn := NN_b (IV_NN h) es
    have vv := VV_b (IV_SW h).2.1 es
    have hV := IV_NW h'
    have ww := (IV_WR h').2
    have c1l : CL1 c' 200000 := (IV_SW h').2.2.2
    refine gE_mono (m_x_arcEnd (IV_MT h') (IV_RG h') hV hz) fun o M1 q => ?_
    rcases q with ⟨q1, rfl, rfl⟩ | ⟨q1, rfl, rfl⟩
    · have w : hA c 100014 (c 800000 (i + 1)) = true := by rw [NN_hA nn]; exact q1
      refine Or.inl ⟨w, congrArg (fun x => (Sum.inl (some (gi x)) : am_O)) (Eq.symm ?_), rfl⟩
      exact (NN_bg nn hV q1).2
    · exact Or.inr ⟨by rw [NN_hA nn, q1]; decide, _, rfl, rfl⟩
  exact lc_10 (E := fun T c _ => IV (n + 1) L T c) (by omega) (by omega) h.2 hL hi hu hv (w_arcEnd (opq1 h hn hr (c_x_arcEnd (IV_XT h) (IV_NT h) rg (IV_NR h) (IV_WT h).1 (IV_WT h).2 (IV_WR h).1 hz)) (fun E T1 c1 J1 q => RI_E E T1 c1 J1 q)) (opq2 h hn hr em) (opq3 h hn ⟨rfl, by decide, by decide⟩ em) (fun z T2 c2 J2 k b q hk hb => hend T2 c2 J2 k b q.2.2.2 hk hb)
set_option maxHeartbeats 1000000 in
theorem op_11 {L : Nat} : OPC L 714 := by
  intro n T c J i u5 u6 Q hn h hL hi hu hv hend
  have rg := IV_RG h
  have hz := rg 800000 (i + 1)
  have hr : (hA c 100014 (c 800000 (i + 1)) = true) → -2147483648 ≤ ln c 100014 (c 800000 (i + 1)) ∧ ln c 100014 (c 800000 (i + 1)) < 2147483648 := fun w => by have := ln_rg (IV_NR h) (c 800000 (i + 1)); omega
  have em : ∀ n' T' c' J', IV n' L T' c' → n' < 901 → SAM c c' → gE 5 213 2 [.ref 500001, gi (c 800000 (i + 1))] (gm T' c' J') (gMI (hA c 100014 (c 800000 (i + 1)) = true) (ln c 100014 (c 800000 (i + 1))) 1 T' c' J') := fun n' T' c' J' h' hn' sm => by
    have es : c' 200000 = c 200000 := sm _ (Or.inl (by decide))
    have nn := NN_b (IV_NN h) es
    have vv := VV_b (IV_SW h).2.1 es
    have hV := IV_NW h'
    have ww := (IV_WR h').2
    have c1l : CL1 c' 200000 := (IV_SW h').2.2.2
    refine gE_mono (m_x_arcLength (IV_MT h') (IV_RG h') hV hz) fun o M1 q => ?_
    rcases q with ⟨q1, rfl, rfl⟩ | ⟨q1, rfl, rfl⟩
    · have w : hA c 100014 (c 800000 (i + 1)) = true := by rw [NN_hA nn]; exact q1
      refine Or.inl ⟨w, congrArg (fun x => (Sum.inl (some (gi x)) : am_O)) (Eq.symm ?_), rfl⟩
      exact (NN_ln nn hV q1).1
    · exact Or.inr ⟨by rw [NN_hA nn, q1]; decide, _, rfl, rfl⟩
  exact lc_11 (E := fun T c _ => IV (n + 1) L T c) (by omega) (by omega) h.2 hL hi hu hv (w_arcLength (opq1 h hn hr (c_x_arcLength (IV_XT h) (IV_NT h) rg (IV_NR h) (IV_WT h).1 (IV_WT h).2 (IV_WR h).1 hz)) (fun E T1 c1 J1 q => RI_E E T1 c1 J1 q)) (opq2 h hn hr em) (opq3 h hn ⟨rfl, by decide, by decide⟩ em) (fun z T2 c2 J2 k b q hk hb => hend T2 c2 J2 k b q.2.2.2 hk hb)
set_option maxHeartbeats 1000000 in
theorem op_12 {L : Nat} : OPC L 770 := by
  intro n T c J i u5 u6 Q hn h hL hi hu hv hend
  have rg := IV_RG h
  have hz := rg 800000 (i + 1)
  have hr : (hA c 100014 (c 800000 (i + 1)) = true) → -2147483648 ≤ cl c 100014 (c 800000 (i + 1)) ∧ cl c 100014 (c 800000 (i + 1)) < 2147483648 := fun w => by have := cl_rg (IV_NR h) (c 800000 (i + 1)); omega
  have em : ∀ n' T' c' J', IV n' L T' c' → n' < 901 → SAM c c' → gE 5 214 2 [.ref 500001, gi (c 800000 (i + 1))] (gm T' c' J') (gMI (hA c 100014 (c 800000 (i + 1)) = true) (cl c 100014 (c 800000 (i + 1))) 1 T' c' J') := fun n' T' c' J' h' hn' sm => by
    have es : c' 200000 = c 200000 := sm _ (Or.inl (by decide))
    have nn := NN_b (IV_NN h) es
    have vv := VV_b (IV_SW h).2.1 es
    have hV := IV_NW h'
    have ww := (IV_WR h').2
    have c1l : CL1 c' 200000 := (IV_SW h').2.2.2
    refine gE_mono (m_x_arcClass (IV_MT h') (IV_RG h') hV hz) fun o M1 q => ?_
    rcases q with ⟨q1, rfl, rfl⟩ | ⟨q1, rfl, rfl⟩
    · have w : hA c 100014 (c 800000 (i + 1)) = true := by rw [NN_hA nn]; exact q1
      refine Or.inl ⟨w, congrArg (fun x => (Sum.inl (some (gi x)) : am_O)) (Eq.symm ?_), rfl⟩
      exact (NN_ln nn hV q1).2
    · exact Or.inr ⟨by rw [NN_hA nn, q1]; decide, _, rfl, rfl⟩
  exact lc_12 (E := fun T c _ => IV (n + 1) L T c) (by omega) (by omega) h.2 hL hi hu hv (w_arcClass (opq1 h hn hr (c_x_arcClass (IV_XT h) (IV_NT h) rg (IV_NR h) (IV_WT h).1 (IV_WT h).2 (IV_WR h).1 hz)) (fun E T1 c1 J1 q => RI_E E T1 c1 J1 q)) (opq2 h hn hr em) (opq3 h hn ⟨rfl, by decide, by decide⟩ em) (fun z T2 c2 J2 k b q hk hb => hend T2 c2 J2 k b q.2.2.2 hk hb)
set_option maxHeartbeats 1000000 in
theorem op_14 {L : Nat} : OPC L 894 := by
  intro n T c J i u5 u6 Q hn h hL hi hu hv hend
  have rg := IV_RG h
  have hz := rg 800000 (i + 1)
  have hr : (0 ≤ (c 800000 (i + 1)) ∧ (c 800000 (i + 1)) < 4) → -2147483648 ≤ c (100014 + 10) (c 800000 (i + 1)) ∧ c (100014 + 10) (c 800000 (i + 1)) < 2147483648 := fun w => by exact rg _ _
  have em : ∀ n' T' c' J', IV n' L T' c' → n' < 901 → SAM c c' → gE 5 217 2 [.ref 500001, gi (c 800000 (i + 1))] (gm T' c' J') (gMI (0 ≤ (c 800000 (i + 1)) ∧ (c 800000 (i + 1)) < 4) (c (100014 + 10) (c 800000 (i + 1))) 1 T' c' J') := fun n' T' c' J' h' hn' sm => by
    have es : c' 200000 = c 200000 := sm _ (Or.inl (by decide))
    have nn := NN_b (IV_NN h) es
    have vv := VV_b (IV_SW h).2.1 es
    have hV := IV_NW h'
    have ww := (IV_WR h').2
    have c1l : CL1 c' 200000 := (IV_SW h').2.2.2
    refine gE_mono (m_x_turnCost (IV_MT h') (IV_RG h') hV hz) fun o M1 q => ?_
    rcases q with ⟨q1, rfl, rfl⟩ | ⟨q1, rfl, rfl⟩
    · have w : 0 ≤ (c 800000 (i + 1)) ∧ (c 800000 (i + 1)) < 4 := by have := inr_t.mp q1; omega
      refine Or.inl ⟨w, congrArg (fun x => (Sum.inl (some (gi x)) : am_O)) (Eq.symm ?_), rfl⟩
      exact nn.2.2.2.1 _ w.1 w.2
    · exact Or.inr ⟨fun w => inr_f.mp q1 (by omega), _, rfl, rfl⟩
  exact lc_14 (E := fun T c _ => IV (n + 1) L T c) (by omega) (by omega) h.2 hL hi hu hv (w_turnCost (opq1 h hn hr (c_x_turnCost (IV_XT h) (IV_NT h) rg (IV_NR h) (IV_WT h).1 (IV_WT h).2 (IV_WR h).1 hz)) (fun E T1 c1 J1 q => RI_E E T1 c1 J1 q)) (opq2 h hn hr em) (opq3 h hn ⟨rfl, by decide, by decide⟩ em) (fun z T2 c2 J2 k b q hk hb => hend T2 c2 J2 k b q.2.2.2 hk hb)
set_option maxHeartbeats 1000000 in
theorem op_44 {L : Nat} : OPC L 2304 := by
  intro n T c J i u5 u6 Q hn h hL hi hu hv hend
  have rg := IV_RG h
  have hz := rg 800000 (i + 1)
  have hr : (0 ≤ (c 800000 (i + 1)) ∧ (c 800000 (i + 1)) < 4) → -2147483648 ≤ c (100034 + 1) (c 800000 (i + 1)) ∧ c (100034 + 1) (c 800000 (i + 1)) < 2147483648 := fun w => by exact rg _ _
  have em : ∀ n' T' c' J', IV n' L T' c' → n' < 901 → SAM c c' → gE 5 281 2 [.ref 500001, gi (c 800000 (i + 1))] (gm T' c' J') (gMI (0 ≤ (c 800000 (i + 1)) ∧ (c 800000 (i + 1)) < 4) (c (100034 + 1) (c 800000 (i + 1))) 1 T' c' J') := fun n' T' c' J' h' hn' sm => by
    have es : c' 200000 = c 200000 := sm _ (Or.inl (by decide))
    have nn := NN_b (IV_NN h) es
    have vv := VV_b (IV_SW h).2.1 es
    have hV := IV_NW h'
    have ww := (IV_WR h').2
    have c1l : CL1 c' 200000 := (IV_SW h').2.2.2
    refine gE_mono (m_x_turnsMade (IV_MT h') (IV_RG h') hV hz) fun o M1 q => ?_
    rcases q with ⟨q1, rfl, rfl⟩ | ⟨q1, rfl, rfl⟩
    · have w : 0 ≤ (c 800000 (i + 1)) ∧ (c 800000 (i + 1)) < 4 := by have := inr_t.mp q1; omega
      refine Or.inl ⟨w, congrArg (fun x => (Sum.inl (some (gi x)) : am_O)) (Eq.symm ?_), rfl⟩
      exact vv.2.1 _ w.1 w.2
    · exact Or.inr ⟨fun w => inr_f.mp q1 (by omega), _, rfl, rfl⟩
  exact lc_44 (E := fun T c _ => IV (n + 1) L T c) (by omega) (by omega) h.2 hL hi hu hv (w_turnsMade (opq1 h hn hr (c_x_turnsMade (IV_XT h) (IV_NT h) rg (IV_NR h) (IV_WT h).1 (IV_WT h).2 (IV_WR h).1 hz)) (fun E T1 c1 J1 q => RI_E E T1 c1 J1 q)) (opq2 h hn hr em) (opq3 h hn ⟨rfl, by decide, by decide⟩ em) (fun z T2 c2 J2 k b q hk hb => hend T2 c2 J2 k b q.2.2.2 hk hb)
set_option maxHeartbeats 1000000 in
theorem op_45 {L : Nat} : OPC L 2360 := by
  intro n T c J i u5 u6 Q hn h hL hi hu hv hend
  have rg := IV_RG h
  have hz := rg 800000 (i + 1)
  have hr : (hA c 100014 (c 800000 (i + 1)) = true) → -2147483648 ≤ c (100034 + 2) (c 800000 (i + 1)) ∧ c (100034 + 2) (c 800000 (i + 1)) < 2147483648 := fun w => by exact rg _ _
  have em : ∀ n' T' c' J', IV n' L T' c' → n' < 901 → SAM c c' → gE 5 282 2 [.ref 500001, gi (c 800000 (i + 1))] (gm T' c' J') (gMI (hA c 100014 (c 800000 (i + 1)) = true) (c (100034 + 2) (c 800000 (i + 1))) 1 T' c' J') := fun n' T' c' J' h' hn' sm => by
    have es : c' 200000 = c 200000 := sm _ (Or.inl (by decide))
    have nn := NN_b (IV_NN h) es
    have vv := VV_b (IV_SW h).2.1 es
    have hV := IV_NW h'
    have ww := (IV_WR h').2
    have c1l : CL1 c' 200000 := (IV_SW h').2.2.2
    refine gE_mono (m_x_passes (IV_MT h') (IV_RG h') hV hz) fun o M1 q => ?_
    rcases q with ⟨q1, rfl, rfl⟩ | ⟨q1, rfl, rfl⟩
    · have w : hA c 100014 (c 800000 (i + 1)) = true := by rw [NN_hA nn]; exact q1
      refine Or.inl ⟨w, congrArg (fun x => (Sum.inl (some (gi x)) : am_O)) (Eq.symm ?_), rfl⟩
      exact (vv.2.2 _ q1).1
    · exact Or.inr ⟨by rw [NN_hA nn, q1]; decide, _, rfl, rfl⟩
  exact lc_45 (E := fun T c _ => IV (n + 1) L T c) (by omega) (by omega) h.2 hL hi hu hv (w_passes (opq1 h hn hr (c_x_passes (IV_XT h) (IV_NT h) rg (IV_NR h) (IV_WT h).1 (IV_WT h).2 (IV_WR h).1 hz)) (fun E T1 c1 J1 q => RI_E E T1 c1 J1 q)) (opq2 h hn hr em) (opq3 h hn ⟨rfl, by decide, by decide⟩ em) (fun z T2 c2 J2 k b q hk hb => hend T2 c2 J2 k b q.2.2.2 hk hb)
set_option maxHeartbeats 1000000 in
theorem op_31 {L : Nat} : OPC L 1648 := by
  intro n T c J i u5 u6 Q hn h hL hi hu hv hend
  have rg := IV_RG h
  have hz := rg 800000 (i + 1)
  have hr : (hA c 100014 (c 800000 (i + 1)) = true) → -2147483648 ≤ sn c 100034 (c 800000 (i + 1)) 0 ∧ sn c 100034 (c 800000 (i + 1)) 0 < 2147483648 := fun w => by have := sn_rg (IV_WR h).1 (c 800000 (i + 1)) 0; omega
  have em : ∀ n' T' c' J', IV n' L T' c' → n' < 901 → SAM c c' → gE 5 256 3 [.ref 500001, gi (c 800000 (i + 1))] (gm T' c' J') (gMI (hA c 100014 (c 800000 (i + 1)) = true) (sn c 100034 (c 800000 (i + 1)) 0) 1 T' c' J') := fun n' T' c' J' h' hn' sm => by
    have es : c' 200000 = c 200000 := sm _ (Or.inl (by decide))
    have nn := NN_b (IV_NN h) es
    have vv := VV_b (IV_SW h).2.1 es
    have hV := IV_NW h'
    have ww := (IV_WR h').2
    have c1l : CL1 c' 200000 := (IV_SW h').2.2.2
    refine gE_mono (m_x_depth (IV_MT h') (IV_RG h') hV hz ww (by omega)) fun o M1 q => ?_
    rcases q with ⟨q1, rfl, rfl⟩ | ⟨q1, rfl, rfl⟩
    · have w : hA c 100014 (c 800000 (i + 1)) = true := by rw [NN_hA nn]; exact q1
      refine Or.inl ⟨w, congrArg (fun x => (Sum.inl (some (gi x)) : am_O)) (Eq.symm ?_), rfl⟩
      exact (VV_sn (k := 100014) (VV_t vv (z := 0)) (NW_t hV) ((mhA_tw _).trans q1) 0).trans (by rw [Int.add_zero])
    · exact Or.inr ⟨by rw [NN_hA nn, q1]; decide, _, rfl, rfl⟩
  exact lc_31 (E := fun T c _ => IV (n + 1) L T c) (by omega) (by omega) h.2 hL hi hu hv (w_depth (opq1 h hn hr (c_x_depth (IV_XT h) (IV_NT h) rg (IV_NR h) (IV_WT h).1 (IV_WT h).2 (IV_WR h).1 hz)) (fun E T1 c1 J1 q => RI_E E T1 c1 J1 q)) (opq2 h hn hr em) (opq3 h hn ⟨rfl, by decide, by decide⟩ em) (fun z T2 c2 J2 k b q hk hb => hend T2 c2 J2 k b q.2.2.2 hk hb)
set_option maxHeartbeats 1000000 in
theorem op_21 {L : Nat} : OPC L 1291 := by
  intro n T c J i u5 u6 Q hn h hL hi hu hv hend
  have rg := IV_RG h
  have hz := rg 800000 (i + 1)
  have hr : (1 ≤ (c 800000 (i + 1)) ∧ (c 800000 (i + 1)) ≤ 3) → -2147483648 ≤ (mskI (fun a => hA c 100014 a && decide (cl c 100014 a ≤ (c 800000 (i + 1)))) 24) ∧ (mskI (fun a => hA c 100014 a && decide (cl c 100014 a ≤ (c 800000 (i + 1)))) 24) < 2147483648 := fun w => by exact mskI_rg _ _
  have em : ∀ n' T' c' J', IV n' L T' c' → n' < 901 → SAM c c' → gE 5 233 3 [.ref 500001, gi (c 800000 (i + 1))] (gm T' c' J') (gMI (1 ≤ (c 800000 (i + 1)) ∧ (c 800000 (i + 1)) ≤ 3) ((mskI (fun a => hA c 100014 a && decide (cl c 100014 a ≤ (c 800000 (i + 1)))) 24)) 1 T' c' J') := fun n' T' c' J' h' hn' sm => by
    have es : c' 200000 = c 200000 := sm _ (Or.inl (by decide))
    have nn := NN_b (IV_NN h) es
    have vv := VV_b (IV_SW h).2.1 es
    have hV := IV_NW h'
    have ww := (IV_WR h').2
    have c1l : CL1 c' 200000 := (IV_SW h').2.2.2
    refine gE_mono (m_x_requiredArcs (IV_MT h') (IV_RG h') hV hz) fun o M1 q => ?_
    rcases q with ⟨q1, rfl, rfl⟩ | ⟨q1, rfl, rfl⟩
    · have w : 1 ≤ (c 800000 (i + 1)) ∧ (c 800000 (i + 1)) ≤ 3 := by have := inr_t.mp q1; omega
      refine Or.inl ⟨w, congrArg (fun x => (Sum.inl (some (gi x)) : am_O)) (Eq.symm ?_), rfl⟩
      exact req_e nn hV _
    · exact Or.inr ⟨fun w => inr_f.mp q1 (by omega), _, rfl, rfl⟩
  exact lc_21 (E := fun T c _ => IV (n + 1) L T c) (by omega) (by omega) h.2 hL hi hu hv (w_requiredArcs (opq1 h hn hr (c_x_required (IV_XT h) (IV_NT h) rg (IV_NR h) (IV_WT h).1 (IV_WT h).2 (IV_WR h).1 hz)) (fun E T1 c1 J1 q => RI_E E T1 c1 J1 q)) (opq2 h hn hr em) (opq3 h hn ⟨rfl, by decide, by decide⟩ em) (fun z T2 c2 J2 k b q hk hb => hend T2 c2 J2 k b q.2.2.2 hk hb)
set_option maxHeartbeats 1000000 in
theorem op_18 {L : Nat} : OPC L 1166 := by
  intro n T c J i u5 u6 Q hn h hL hi hu hv hend
  have rg := IV_RG h
  have hz := rg 800000 (i + 1)
  have hr : (0 ≤ (c 800000 (i + 1)) ∧ (c 800000 (i + 1)) < c 100014 1) → -2147483648 ≤ rch c 100014 (c 800000 (i + 1)) (-1) ∧ rch c 100014 (c 800000 (i + 1)) (-1) < 2147483648 := fun w => by exact rch_rg _ _ _ _
  have em : ∀ n' T' c' J', IV n' L T' c' → n' < 901 → SAM c c' → gE 5 222 3 [.ref 500001, gi (c 800000 (i + 1))] (gm T' c' J') (gMI (0 ≤ (c 800000 (i + 1)) ∧ (c 800000 (i + 1)) < c 100014 1) (rch c 100014 (c 800000 (i + 1)) (-1)) 1 T' c' J') := fun n' T' c' J' h' hn' sm => by
    have es : c' 200000 = c 200000 := sm _ (Or.inl (by decide))
    have nn := NN_b (IV_NN h) es
    have vv := VV_b (IV_SW h).2.1 es
    have hV := IV_NW h'
    have ww := (IV_WR h').2
    have c1l : CL1 c' 200000 := (IV_SW h').2.2.2
    refine gE_mono (m_x_reachable (IV_MT h') (IV_RG h') hV hz) fun o M1 q => ?_
    rcases q with ⟨q1, rfl, rfl⟩ | ⟨q1, rfl, rfl⟩
    · have w : 0 ≤ (c 800000 (i + 1)) ∧ (c 800000 (i + 1)) < c 100014 1 := by have a1 : c 100014 1 = _ := nn.1.1.1; have := inr_t.mp q1; omega
      refine Or.inl ⟨w, congrArg (fun x => (Sum.inl (some (gi x)) : am_O)) (Eq.symm ?_), rfl⟩
      exact NN_rch nn hV (by have a1 : c 100014 1 = _ := nn.1.1.1; omega) (-1)
    · exact Or.inr ⟨fun w => by have a1 : c 100014 1 = _ := nn.1.1.1; exact inr_f.mp q1 (by omega), _, rfl, rfl⟩
  exact lc_18 (E := fun T c _ => IV (n + 1) L T c) (by omega) (by omega) h.2 hL hi hu hv (w_reachable (opq1 h hn hr (c_x_reachable (IV_XT h) (IV_NT h) rg (IV_NR h) (IV_WT h).1 (IV_WT h).2 (IV_WR h).1 hz)) (fun E T1 c1 J1 q => RI_E E T1 c1 J1 q)) (opq2 h hn hr em) (opq3 h hn ⟨rfl, by decide, by decide⟩ em) (fun z T2 c2 J2 k b q hk hb => hend T2 c2 J2 k b q.2.2.2 hk hb)
set_option maxHeartbeats 1000000 in
theorem op_33 {L : Nat} : OPC L 1760 := by
  intro n T c J i u5 u6 Q hn h hL hi hu hv hend
  have rg := IV_RG h
  have hz := rg 800000 (i + 1)
  have hr : (0 ≤ (c 800000 (i + 1)) ∧ (c 800000 (i + 1)) ≤ 2000) → -2147483648 ≤ mskI (fun a => hA c 100014 a && decide ((c 800000 (i + 1)) < sn c 100034 a 0)) 24 ∧ mskI (fun a => hA c 100014 a && decide ((c 800000 (i + 1)) < sn c 100034 a 0)) 24 < 2147483648 := fun w => by exact mskI_rg _ _
  have em : ∀ n' T' c' J', IV n' L T' c' → n' < 901 → SAM c c' → gE 5 260 4 [.ref 500001, gi (c 800000 (i + 1))] (gm T' c' J') (gMI (0 ≤ (c 800000 (i + 1)) ∧ (c 800000 (i + 1)) ≤ 2000) (mskI (fun a => hA c 100014 a && decide ((c 800000 (i + 1)) < sn c 100034 a 0)) 24) 1 T' c' J') := fun n' T' c' J' h' hn' sm => by
    have es : c' 200000 = c 200000 := sm _ (Or.inl (by decide))
    have nn := NN_b (IV_NN h) es
    have vv := VV_b (IV_SW h).2.1 es
    have hV := IV_NW h'
    have ww := (IV_WR h').2
    have c1l : CL1 c' 200000 := (IV_SW h').2.2.2
    refine gE_mono (m_x_deepArcs (IV_MT h') (IV_RG h') hV hz ww (by omega)) fun o M1 q => ?_
    rcases q with ⟨q1, rfl, rfl⟩ | ⟨q1, rfl, rfl⟩
    · have w : 0 ≤ (c 800000 (i + 1)) ∧ (c 800000 (i + 1)) ≤ 2000 := by have := inr_t.mp q1; omega
      refine Or.inl ⟨w, congrArg (fun x => (Sum.inl (some (gi x)) : am_O)) (Eq.symm ?_), rfl⟩
      exact deep_e (NN_t nn) (NW_t hV) (VV_t vv) _
    · exact Or.inr ⟨fun w => inr_f.mp q1 (by omega), _, rfl, rfl⟩
  exact lc_33 (E := fun T c _ => IV (n + 1) L T c) (by omega) (by omega) h.2 hL hi hu hv (w_deepArcs (opq1 h hn hr (c_x_deepArcs (IV_XT h) (IV_NT h) rg (IV_NR h) (IV_WT h).1 (IV_WT h).2 (IV_WR h).1 hz)) (fun E T1 c1 J1 q => RI_E E T1 c1 J1 q)) (opq2 h hn hr em) (opq3 h hn ⟨rfl, by decide, by decide⟩ em) (fun z T2 c2 J2 k b q hk hb => hend T2 c2 J2 k b q.2.2.2 hk hb)
set_option maxHeartbeats 1000000 in
theorem op_32 {L : Nat} : OPC L 1704 := by
  intro n T c J i u5 u6 Q hn h hL hi hu hv hend
  have rg := IV_RG h
  have hz := rg 800000 (i + 1)
  have hr : (1 ≤ (c 800000 (i + 1)) ∧ (c 800000 (i + 1)) ≤ 3) → -2147483648 ≤ (am1 1 (fun a => if tb (mskI (fun a => hA c 100014 a && decide (cl c 100014 a ≤ (c 800000 (i + 1)))) 24) a = true then -sn c 100034 a 0 else 1) 24).1 ∧ (am1 1 (fun a => if tb (mskI (fun a => hA c 100014 a && decide (cl c 100014 a ≤ (c 800000 (i + 1)))) 24) a = true then -sn c 100034 a 0 else 1) 24).1 < 2147483648 := fun w => by have := am1_rg (B := 1) (f := fun a => if tb (mskI (fun a => hA c 100014 a && decide (cl c 100014 a ≤ (c 800000 (i + 1)))) 24) a = true then -sn c 100034 a 0 else 1) (n := 24) (by decide); omega
  have em : ∀ n' T' c' J', IV n' L T' c' → n' < 901 → SAM c c' → gE 5 257 3 [.ref 500001, gi (c 800000 (i + 1))] (gm T' c' J') (gMI (1 ≤ (c 800000 (i + 1)) ∧ (c 800000 (i + 1)) ≤ 3) ((am1 1 (fun a => if tb (mskI (fun a => hA c 100014 a && decide (cl c 100014 a ≤ (c 800000 (i + 1)))) 24) a = true then -sn c 100034 a 0 else 1) 24).1) 1 T' c' J') := fun n' T' c' J' h' hn' sm => by
    have es : c' 200000 = c 200000 := sm _ (Or.inl (by decide))
    have nn := NN_b (IV_NN h) es
    have vv := VV_b (IV_SW h).2.1 es
    have hV := IV_NW h'
    have ww := (IV_WR h').2
    have c1l : CL1 c' 200000 := (IV_SW h').2.2.2
    refine gE_mono (m_x_deepestArc (IV_MT h') (IV_RG h') hV hz ww (by omega)) fun o M1 q => ?_
    rcases q with ⟨q1, rfl, rfl⟩ | ⟨q1, rfl, rfl⟩
    · have w : 1 ≤ (c 800000 (i + 1)) ∧ (c 800000 (i + 1)) ≤ 3 := by have := inr_t.mp q1; omega
      refine Or.inl ⟨w, congrArg (fun x => (Sum.inl (some (gi x)) : am_O)) (Eq.symm ?_), rfl⟩
      rw [req_e (NN_t nn (z := 0)) (NW_t hV)]; exact (deepest_e (NW_t hV) (VV_t vv) (WW_t ww) (fun a ha q => (tb_req ha q).1)).trans (by rw [Int.add_zero])
    · exact Or.inr ⟨fun w => inr_f.mp q1 (by omega), _, rfl, rfl⟩
  exact lc_32 (E := fun T c _ => IV (n + 1) L T c) (by omega) (by omega) h.2 hL hi hu hv (w_deepestArc (opq1 h hn hr (c_x_deepest (IV_XT h) (IV_NT h) rg (IV_NR h) (IV_WT h).1 (IV_WT h).2 (IV_WR h).1 hz)) (fun E T1 c1 J1 q => RI_E E T1 c1 J1 q)) (opq2 h hn hr em) (opq3 h hn ⟨rfl, by decide, by decide⟩ em) (fun z T2 c2 J2 k b q hk hb => hend T2 c2 J2 k b q.2.2.2 hk hb)
set_option maxHeartbeats 1000000 in
theorem op_46 {L : Nat} : OPC L 2416 := by
  intro n T c J i u5 u6 Q hn h hL hi hu hv hend
  have rg := IV_RG h
  have hz := rg 800000 (i + 1)
  have hr : (1 ≤ (c 800000 (i + 1)) ∧ (c 800000 (i + 1)) ≤ 3) → -2147483648 ≤ itI (utf c) (mskI (fun a => hA c 100014 a && decide (cl c 100014 a ≤ (c 800000 (i + 1)))) 24) 24 ∧ itI (utf c) (mskI (fun a => hA c 100014 a && decide (cl c 100014 a ≤ (c 800000 (i + 1)))) 24) 24 < 2147483648 := fun w => by exact utf_rg (mskI_rg _ _) _
  have em : ∀ n' T' c' J', IV n' L T' c' → n' < 901 → SAM c c' → gE 5 283 3 [.ref 500001, gi (c 800000 (i + 1))] (gm T' c' J') (gMI (1 ≤ (c 800000 (i + 1)) ∧ (c 800000 (i + 1)) ≤ 3) (itI (utf c) (mskI (fun a => hA c 100014 a && decide (cl c 100014 a ≤ (c 800000 (i + 1)))) 24) 24) 1 T' c' J') := fun n' T' c' J' h' hn' sm => by
    have es : c' 200000 = c 200000 := sm _ (Or.inl (by decide))
    have nn := NN_b (IV_NN h) es
    have vv := VV_b (IV_SW h).2.1 es
    have hV := IV_NW h'
    have ww := (IV_WR h').2
    have c1l : CL1 c' 200000 := (IV_SW h').2.2.2
    refine gE_mono (m_x_untouched (IV_MT h') (IV_RG h') hV hz) fun o M1 q => ?_
    rcases q with ⟨q1, rfl, rfl⟩ | ⟨q1, rfl, rfl⟩
    · have w : 1 ≤ (c 800000 (i + 1)) ∧ (c 800000 (i + 1)) ≤ 3 := by have := inr_t.mp q1; omega
      refine Or.inl ⟨w, congrArg (fun x => (Sum.inl (some (gi x)) : am_O)) (Eq.symm ?_), rfl⟩
      rw [req_e (NN_t nn (z := 0)) (NW_t hV)]; exact unt_e (NW_t hV) (VV_t vv) req_rg (fun a ha q => (tb_req ha q).1)
    · exact Or.inr ⟨fun w => inr_f.mp q1 (by omega), _, rfl, rfl⟩
  exact lc_46 (E := fun T c _ => IV (n + 1) L T c) (by omega) (by omega) h.2 hL hi hu hv (w_untouched (opq1 h hn hr (c_x_untouched (IV_XT h) (IV_NT h) rg (IV_NR h) (IV_WT h).1 (IV_WT h).2 (IV_WR h).1 hz)) (fun E T1 c1 J1 q => RI_E E T1 c1 J1 q)) (opq2 h hn hr em) (opq3 h hn ⟨rfl, by decide, by decide⟩ em) (fun z T2 c2 J2 k b q hk hb => hend T2 c2 J2 k b q.2.2.2 hk hb)
set_option maxHeartbeats 1000000 in
theorem op_51 {L : Nat} : OPC L 2626 := by
  intro n T c J i u5 u6 Q hn h hL hi hu hv hend
  have rg := IV_RG h
  have hz := rg 800000 (i + 1)
  have hr : (0 ≤ (c 800000 (i + 1)) ∧ (c 800000 (i + 1)) < c 100030 1) → -2147483648 ≤ c (100030 + 1) (c 800000 (i + 1)) ∧ c (100030 + 1) (c 800000 (i + 1)) < 2147483648 := fun w => by exact rg _ _
  have em : ∀ n' T' c' J', IV n' L T' c' → n' < 901 → SAM c c' → gE 5 331 2 [.ref 500001, gi (c 800000 (i + 1))] (gm T' c' J') (gMI (0 ≤ (c 800000 (i + 1)) ∧ (c 800000 (i + 1)) < c 100030 1) (c (100030 + 1) (c 800000 (i + 1))) 1 T' c' J') := fun n' T' c' J' h' hn' sm => by
    have es : c' 200000 = c 200000 := sm _ (Or.inl (by decide))
    have nn := NN_b (IV_NN h) es
    have vv := VV_b (IV_SW h).2.1 es
    have hV := IV_NW h'
    have ww := (IV_WR h').2
    have c1l : CL1 c' 200000 := (IV_SW h').2.2.2
    refine gE_mono (mxob (IV_MT h') (IV_RG h') hV hz (IV_25 h')) fun o M1 q => ?_
    rcases q with ⟨q1, rfl, rfl⟩ | ⟨q1, rfl, rfl⟩
    · have w : 0 ≤ (c 800000 (i + 1)) ∧ (c 800000 (i + 1)) < c 100030 1 := by have := inr_t.mp q1; rw [sm 500001 (Or.inl (by decide)), ← (IV_OUT h).1] at this; omega
      refine Or.inl ⟨w, congrArg (fun x => (Sum.inl (some (gi x)) : am_O)) (Eq.symm ?_), rfl⟩
      rw [sm 200010 (Or.inl (by decide))]; exact (IV_OUT h).2.2 _ w.1 w.2
    · exact Or.inr ⟨fun w => inr_f.mp q1 (by rw [sm 500001 (Or.inl (by decide)), ← (IV_OUT h).1]; omega), _, rfl, rfl⟩
  exact lc_51 (E := fun T c _ => IV (n + 1) L T c) (by omega) (by omega) h.2 hL hi hu hv (w_outputByte (opq1 h hn hr (c_x_byte (IV_XT h) (IV_CT h).2.1 rg (IV_BR h) hz)) (fun E T1 c1 J1 q => RI_E E T1 c1 J1 q)) (opq2 h hn hr em) (opq3 h hn ⟨rfl, by decide, by decide⟩ em) (fun z T2 c2 J2 k b q hk hb => hend T2 c2 J2 k b q.2.2.2 hk hb)
set_option maxHeartbeats 1000000 in
theorem op_63 {L : Nat} : OPC L 3298 := by
  intro n T c J i u5 u6 Q hn h hL hi hu hv hend
  have rg := IV_RG h
  have hz := rg 800000 (i + 1)
  have hp := rg 800000 (i + 2)
  have hr : ((1 ≤ (c 800000 (i + 1)) ∧ (c 800000 (i + 1)) ≤ 3) ∧ (0 ≤ (c 800000 (i + 2)) ∧ (c 800000 (i + 2)) ≤ 1000000)) → -2147483648 ≤ (am1 1 (fun a => if tb (mskI (fun a => hA c 100014 a && decide (cl c 100014 a ≤ (c 800000 (i + 1)))) 24) a = true then -sn c 100034 a (c 800000 (i + 2)) else 1) 24).1 ∧ (am1 1 (fun a => if tb (mskI (fun a => hA c 100014 a && decide (cl c 100014 a ≤ (c 800000 (i + 1)))) 24) a = true then -sn c 100034 a (c 800000 (i + 2)) else 1) 24).1 < 2147483648 := fun w => by have := am1_rg (B := 1) (f := fun a => if tb (mskI (fun a => hA c 100014 a && decide (cl c 100014 a ≤ (c 800000 (i + 1)))) 24) a = true then -sn c 100034 a (c 800000 (i + 2)) else 1) (n := 24) (by decide); omega
  have em : ∀ n' T' c' J', IV n' L T' c' → n' < 901 → SAM c c' → gE 5 288 3 [.ref 500001, gi (c 800000 (i + 1)), gi (c 800000 (i + 2))] (gm T' c' J') (gMI ((1 ≤ (c 800000 (i + 1)) ∧ (c 800000 (i + 1)) ≤ 3) ∧ (0 ≤ (c 800000 (i + 2)) ∧ (c 800000 (i + 2)) ≤ 1000000)) ((am1 1 (fun a => if tb (mskI (fun a => hA c 100014 a && decide (cl c 100014 a ≤ (c 800000 (i + 1)))) 24) a = true then -sn c 100034 a (c 800000 (i + 2)) else 1) 24).1) 1 T' c' J') := fun n' T' c' J' h' hn' sm => by
    have es : c' 200000 = c 200000 := sm _ (Or.inl (by decide))
    have nn := NN_b (IV_NN h) es
    have vv := VV_b (IV_SW h).2.1 es
    have hV := IV_NW h'
    have ww := (IV_WR h').2
    have c1l : CL1 c' 200000 := (IV_SW h').2.2.2
    refine gE_mono (m_x_deepestArcAfter (IV_MT h') (IV_RG h') hV hz hp ww (by omega)) fun o M1 q => ?_
    rcases q with ⟨q1, rfl, rfl⟩ | ⟨q1, rfl, rfl⟩
    · have w : (1 ≤ (c 800000 (i + 1)) ∧ (c 800000 (i + 1)) ≤ 3) ∧ (0 ≤ (c 800000 (i + 2)) ∧ (c 800000 (i + 2)) ≤ 1000000) := by rw [Bool.and_eq_true] at q1; have := inr_t.mp q1.1; have := inr_t.mp q1.2; omega
      refine Or.inl ⟨w, congrArg (fun x => (Sum.inl (some (gi x)) : am_O)) (Eq.symm ?_), rfl⟩
      rw [req_e (NN_t nn (z := 0)) (NW_t hV)]; exact deepest_e (NW_t hV) (VV_t vv) (WW_t ww) (fun a ha q => (tb_req ha q).1)
    · exact Or.inr ⟨fun w => absurd q1 (by rw [inr_t.mpr w.1, inr_t.mpr w.2]; decide), _, rfl, rfl⟩
  exact lc_63 (E := fun T c _ => IV (n + 1) L T c) (by omega) (by omega) h.2 hL hi hu hv (w_deepestArcAfter (opq1 h hn hr (gI2_gI (c_x_deepestAfter (IV_XT h) (IV_NT h) rg (IV_NR h) (IV_WT h).1 (IV_WT h).2 (IV_WR h).1 hz hp))) (fun E T1 c1 J1 q => RI_E E T1 c1 J1 q)) (opq2 h hn hr em) (opq3 h hn ⟨rfl, by decide, by decide⟩ em) (fun z T2 c2 J2 k b q hk hb => hend T2 c2 J2 k b q.2.2.2 hk hb)
set_option maxHeartbeats 1000000 in
theorem op_60 {L : Nat} : OPC L 3118 := by
  intro n T c J i u5 u6 Q hn h hL hi hu hv hend
  have rg := IV_RG h
  have hz := rg 800000 (i + 1)
  have hp := rg 800000 (i + 2)
  have hr : ((1 ≤ (c 800000 (i + 1)) ∧ (c 800000 (i + 1)) ≤ 3) ∧ (0 ≤ (c 800000 (i + 2)) ∧ (c 800000 (i + 2)) ≤ 2000)) → -2147483648 ≤ itI (sff c (mskI (fun a => hA c 100014 a && decide (cl c 100014 a ≤ (c 800000 (i + 1)))) 24) (c 800000 (i + 2))) (-1) 24 ∧ itI (sff c (mskI (fun a => hA c 100014 a && decide (cl c 100014 a ≤ (c 800000 (i + 1)))) 24) (c 800000 (i + 2))) (-1) 24 < 2147483648 := fun w => by rw [req_e (IV_NN h) (IV_NW h), first_e (IV_NW h) (IV_SW h).2.1 (IV_WR h).2 (fun a ha q => (tb_req ha q).1) w.2]; exact frs_rg (IV_WR h).2
  have em : ∀ n' T' c' J', IV n' L T' c' → n' < 901 → SAM c c' → gE 5 264 3 [.ref 500001, gi (c 800000 (i + 1)), gi (c 800000 (i + 2))] (gm T' c' J') (gMI ((1 ≤ (c 800000 (i + 1)) ∧ (c 800000 (i + 1)) ≤ 3) ∧ (0 ≤ (c 800000 (i + 2)) ∧ (c 800000 (i + 2)) ≤ 2000)) (itI (sff c (mskI (fun a => hA c 100014 a && decide (cl c 100014 a ≤ (c 800000 (i + 1)))) 24) (c 800000 (i + 2))) (-1) 24) 1 T' c' J') := fun n' T' c' J' h' hn' sm => by
    have es : c' 200000 = c 200000 := sm _ (Or.inl (by decide))
    have nn := NN_b (IV_NN h) es
    have vv := VV_b (IV_SW h).2.1 es
    have hV := IV_NW h'
    have ww := (IV_WR h').2
    have c1l : CL1 c' 200000 := (IV_SW h').2.2.2
    refine gE_mono (m_x_secondsToFirstDepth (IV_MT h') (IV_RG h') hV hz hp ww (by omega)) fun o M1 q => ?_
    rcases q with ⟨q1, rfl, rfl⟩ | ⟨q1, rfl, rfl⟩
    · have w : (1 ≤ (c 800000 (i + 1)) ∧ (c 800000 (i + 1)) ≤ 3) ∧ (0 ≤ (c 800000 (i + 2)) ∧ (c 800000 (i + 2)) ≤ 2000) := by rw [Bool.and_eq_true] at q1; have := inr_t.mp q1.1; have := inr_t.mp q1.2; omega
      refine Or.inl ⟨w, congrArg (fun x => (Sum.inl (some (gi x)) : am_O)) (Eq.symm ?_), rfl⟩
      rw [req_e (NN_t nn (z := 0)) (NW_t hV)]; exact first_e (NW_t hV) (VV_t vv) (WW_t ww) (fun a ha q => (tb_req ha q).1) w.2
    · exact Or.inr ⟨fun w => absurd q1 (by rw [inr_t.mpr w.1, inr_t.mpr w.2]; decide), _, rfl, rfl⟩
  exact lc_60 (E := fun T c _ => IV (n + 1) L T c) (by omega) (by omega) h.2 hL hi hu hv (w_secondsToFirstDepth (opq1 h hn hr (gI2_gI (c_x_secondsFirst (IV_XT h) (IV_NT h) rg (IV_NR h) (IV_WT h).1 (IV_WT h).2 (IV_WR h).1 hz hp))) (fun E T1 c1 J1 q => RI_E E T1 c1 J1 q)) (opq2 h hn hr em) (opq3 h hn ⟨rfl, by decide, by decide⟩ em) (fun z T2 c2 J2 k b q hk hb => hend T2 c2 J2 k b q.2.2.2 hk hb)
