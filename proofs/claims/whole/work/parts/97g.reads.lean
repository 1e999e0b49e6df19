/-! the law's cases: plain readings, and steps more that throw in two ways -/
def RD (v : Int) (T : gT) (c J : gC) : Int → gT → gC → gC → Prop := fun v' T1 c1 J1 => v' = v ∧ T1 = T ∧ c1 = c ∧ J1 = J
theorem opd1 {F HF : Nat} {T : gT} {c J : gC} {v : Int} (e : gE 5 F HF [.ref 500000] (gm T c J) (gR (gi v) (gm T c J))) : gE 5 F HF [.ref 500000] (gm T c J) (fun o M1 => ∃ v' T1 c1 J1, o = .inl (some (gi v')) ∧ M1 = gm T1 c1 J1 ∧ RD v T c J v' T1 c1 J1) := gE_mono e fun o M1 q => ⟨v, T, c, J, q.1, q.2, rfl, rfl, rfl, rfl⟩
theorem opd2 {n L : Nat} {T : gT} {c J : gC} (h : IV n L T c) (hn : n < 900) {Y HM : Nat} {v : Int} (hv : -2147483648 ≤ v ∧ v < 2147483648) (em : gE 5 Y HM [.ref 500001] (gm T c J) (fun o M1 => o = .inl (some (gi v)) ∧ M1 = gm T (tw c 0) J)) : ∀ v' T1 c1 J1, RD v T c J v' T1 c1 J1 → (-2147483648 ≤ v' ∧ v' < 2147483648) ∧ gE 5 Y HM [.ref 500001] (gm T1 c1 J1) (fun o M1 => ∃ z T2 c2 J2, o = .inl (some (gi v')) ∧ M1 = gm T2 c2 J2 ∧ ESP (fun T c _ => IV (n + 1) L T c) z T2 c2 J2) := by
  intro v' T1 c1 J1 hR
  obtain ⟨rfl, rfl, rfl, rfl⟩ := hR
  refine ⟨hv, gE_mono em fun o M1 q => ?_⟩
  obtain ⟨rfl, rfl⟩ := q
  have i2 := IV_tw h (by omega) (z := 0) (by decide)
  exact ⟨0, _, _, _, rfl, rfl, ⟨IV_MT h, IV_RG i2⟩, tw_0, IV_out h, IV_up i2 (by omega)⟩
theorem opd1l {F HF : Nat} {T : gT} {c J : gC} {v : Int} (e : gE 5 F HF [.ref 500000] (gm T c J) (gR (gl v) (gm T c J))) : gE 5 F HF [.ref 500000] (gm T c J) (fun o M1 => ∃ v' T1 c1 J1, o = .inl (some (gl v')) ∧ M1 = gm T1 c1 J1 ∧ RD v T c J v' T1 c1 J1) := gE_mono e fun o M1 q => ⟨v, T, c, J, q.1, q.2, rfl, rfl, rfl, rfl⟩
theorem opd2l {n L : Nat} {T : gT} {c J : gC} (h : IV n L T c) (hn : n < 900) {Y HM : Nat} {v : Int} (hv : -9223372036854775808 ≤ v ∧ v < 9223372036854775808) (em : gE 5 Y HM [.ref 500001] (gm T c J) (fun o M1 => o = .inl (some (gl v)) ∧ M1 = gm T (tw c 0) J)) : ∀ v' T1 c1 J1, RD v T c J v' T1 c1 J1 → (-9223372036854775808 ≤ v' ∧ v' < 9223372036854775808) ∧ gE 5 Y HM [.ref 500001] (gm T1 c1 J1) (fun o M1 => ∃ z T2 c2 J2, o = .inl (some (gl v')) ∧ M1 = gm T2 c2 J2 ∧ ESP (fun T c _ => IV (n + 1) L T c) z T2 c2 J2) := by
  intro v' T1 c1 J1 hR
  obtain ⟨rfl, rfl, rfl, rfl⟩ := hR
  refine ⟨hv, gE_mono em fun o M1 q => ?_⟩
  obtain ⟨rfl, rfl⟩ := q
  have i2 := IV_tw h (by omega) (z := 0) (by decide)
  exact ⟨0, _, _, _, rfl, rfl, ⟨IV_MT h, IV_RG i2⟩, tw_0, IV_out h, IV_up i2 (by omega)⟩
theorem IV_ERR {n L : Nat} {T : gT} {c : gC} (h : IV n L T c) : c 100032 3 = c 500001 21 ∧ c 100032 4 = c 500001 22 := by
  obtain ⟨⟨G, Lo, R, Z, -, ⟨-, -, ⟨-, -, a⟩⟩, -⟩, -⟩ := h
  exact a
theorem IV_13 {n L : Nat} {T : gT} {c : gC} (h : IV n L T c) : c 500001 13 = c 100052 2 ∧ 0 ≤ c 500001 13 ∧ c 500001 13 ≤ 10 := by
  obtain ⟨⟨G, Lo, R, Z, -, -, -, ⟨-, ⟨a1, a2, a3, a4⟩, -⟩, -⟩, -⟩ := h
  exact ⟨a1, by omega, by omega⟩
theorem IV_HR {n L : Nat} {T : gT} {c : gC} (h : IV n L T c) : HR T c := by
  obtain ⟨⟨G, Lo, R, Z, ⟨⟨-, -, -, -, a⟩, -⟩, -⟩, -⟩ := h
  exact a
theorem tn_rg {c : gC} {B : Int} (hN : NR c 100014) (hR : WR c 100034 B) : -9223372036854775808 ≤ itI (tnf c) 0 24 ∧ itI (tnf c) 0 24 < 9223372036854775808 := by
  have key := itI_inv3 (f := tnf c) (x := 0) (fun (k s : Int) => 0 ≤ s ∧ s ≤ 1998000 * k) (N := 24) ⟨by decide, by decide⟩ (fun j s j0 j1 hs => by
    have h1 := sn_rg hR j 0
    have h2 := ln_rg hN j
    have h3 : ln c 100014 j * sn c 100034 j 0 ≤ 999 * 2000 := Int.mul_le_mul h2.2 h1.2 h1.1 (by decide)
    have h4 : 0 ≤ ln c 100014 j * sn c 100034 j 0 := Int.mul_nonneg h2.1 h1.1
    cases q : hA c 100014 j with
    | true => rw [tnf_t q]; omega
    | false => rw [tnf_f q]; omega) (k := 24) (by decide) (by decide)
  omega
set_option maxHeartbeats 1000000 in
theorem op_3 {L : Nat} : OPC L 465 := by
  intro n T c J i u5 u6 Q hn h hL hi hu hv hend
  have rg := IV_RG h
  have nn := IV_NN h
  have vv := (IV_SW h).2.1
  have ww := (IV_WR h).2
  have hV := IV_NW h
  have hr : -2147483648 ≤ c 100032 3 ∧ c 100032 3 < 2147483648 := by exact rg _ _
  refine lc_3 (E := fun T c _ => IV (n + 1) L T c) (by omega) (by omega) hu hv (opd1 (c_x_errCode (IV_XT h) (IV_CT h).1.1.1)) (opd2 h hn hr (gE_mono (m_x_errorCode (IV_MT h) rg hV) fun o M1 q => ?_)) (fun z T2 c2 J2 k b q hk hb => hend T2 c2 J2 k b q.2.2.2 hk hb)
  obtain ⟨rfl, rfl⟩ := q
  refine ⟨congrArg (fun x => (Sum.inl (some (gi x)) : am_O)) (Eq.symm ?_), rfl⟩
  exact (IV_ERR h).1
set_option maxHeartbeats 1000000 in
theorem op_4 {L : Nat} : OPC L 478 := by
  intro n T c J i u5 u6 Q hn h hL hi hu hv hend
  have rg := IV_RG h
  have nn := IV_NN h
  have vv := (IV_SW h).2.1
  have ww := (IV_WR h).2
  have hV := IV_NW h
  have hr : -2147483648 ≤ c 100032 4 ∧ c 100032 4 < 2147483648 := by exact rg _ _
  refine lc_4 (E := fun T c _ => IV (n + 1) L T c) (by omega) (by omega) hu hv (opd1 (c_x_errPos (IV_XT h) (IV_CT h).1.1.1)) (opd2 h hn hr (gE_mono (m_x_errorPosition (IV_MT h) rg hV) fun o M1 q => ?_)) (fun z T2 c2 J2 k b q hk hb => hend T2 c2 J2 k b q.2.2.2 hk hb)
  obtain ⟨rfl, rfl⟩ := q
  refine ⟨congrArg (fun x => (Sum.inl (some (gi x)) : am_O)) (Eq.symm ?_), rfl⟩
  exact (IV_ERR h).2
set_option maxHeartbeats 1000000 in
theorem op_5 {L : Nat} : OPC L 491 := by
  intro n T c J i u5 u6 Q hn h hL hi hu hv hend
  have rg := IV_RG h
  have nn := IV_NN h
  have vv := (IV_SW h).2.1
  have ww := (IV_WR h).2
  have hV := IV_NW h
  have hr : -2147483648 ≤ c 100014 1 ∧ c 100014 1 < 2147483648 := by exact rg _ _
  refine lc_5 (E := fun T c _ => IV (n + 1) L T c) (by omega) (by omega) hu hv (opd1 (c_xNodes (IV_XT h) (IV_NT h) rg (IV_NR h) (IV_WT h).1)) (opd2 h hn hr (gE_mono (m_x_nodeCount (IV_MT h) rg hV) fun o M1 q => ?_)) (fun z T2 c2 J2 k b q hk hb => hend T2 c2 J2 k b q.2.2.2 hk hb)
  obtain ⟨rfl, rfl⟩ := q
  refine ⟨congrArg (fun x => (Sum.inl (some (gi x)) : am_O)) (Eq.symm ?_), rfl⟩
  exact nn.1.1.1
set_option maxHeartbeats 1000000 in
theorem op_6 {L : Nat} : OPC L 504 := by
  intro n T c J i u5 u6 Q hn h hL hi hu hv hend
  have rg := IV_RG h
  have nn := IV_NN h
  have vv := (IV_SW h).2.1
  have ww := (IV_WR h).2
  have hV := IV_NW h
  have hr : -2147483648 ≤ c 100014 2 ∧ c 100014 2 < 2147483648 := by exact rg _ _
  refine lc_6 (E := fun T c _ => IV (n + 1) L T c) (by omega) (by omega) hu hv (opd1 (c_xRoads (IV_XT h) (IV_NT h) rg (IV_NR h) (IV_WT h).1)) (opd2 h hn hr (gE_mono (m_x_roadCount (IV_MT h) rg hV) fun o M1 q => ?_)) (fun z T2 c2 J2 k b q hk hb => hend T2 c2 J2 k b q.2.2.2 hk hb)
  obtain ⟨rfl, rfl⟩ := q
  refine ⟨congrArg (fun x => (Sum.inl (some (gi x)) : am_O)) (Eq.symm ?_), rfl⟩
  exact nn.1.1.2
set_option maxHeartbeats 1000000 in
theorem op_8 {L : Nat} : OPC L 589 := by
  intro n T c J i u5 u6 Q hn h hL hi hu hv hend
  have rg := IV_RG h
  have nn := IV_NN h
  have vv := (IV_SW h).2.1
  have ww := (IV_WR h).2
  have hV := IV_NW h
  have hr : -2147483648 ≤ mskI (fun a => hA c 100014 a && decide (cl c 100014 a ≤ 3)) 24 ∧ mskI (fun a => hA c 100014 a && decide (cl c 100014 a ≤ 3)) 24 < 2147483648 := by exact mskI_rg _ _
  refine lc_8 (E := fun T c _ => IV (n + 1) L T c) (by omega) (by omega) hu hv (opd1 (c_x_arcs (IV_XT h) (IV_NT h) rg (IV_NR h) (IV_WT h).1 (IV_WT h).2 (IV_WR h).1)) (opd2 h hn hr (gE_mono (m_x_arcs (IV_MT h) rg hV) fun o M1 q => ?_)) (fun z T2 c2 J2 k b q hk hb => hend T2 c2 J2 k b q.2.2.2 hk hb)
  obtain ⟨rfl, rfl⟩ := q
  refine ⟨congrArg (fun x => (Sum.inl (some (gi x)) : am_O)) (Eq.symm ?_), rfl⟩
  exact arcs_e nn hV
set_option maxHeartbeats 1000000 in
theorem op_19 {L : Nat} : OPC L 1222 := by
  intro n T c J i u5 u6 Q hn h hL hi hu hv hend
  have rg := IV_RG h
  have nn := IV_NN h
  have vv := (IV_SW h).2.1
  have ww := (IV_WR h).2
  have hV := IV_NW h
  have hr : -2147483648 ≤ bi (con c 100014 (-1)) ∧ bi (con c 100014 (-1)) < 2147483648 := by exact bi_rg _
  refine lc_19 (E := fun T c _ => IV (n + 1) L T c) (by omega) (by omega) hu hv (opd1 (c_x_strong (IV_XT h) (IV_NT h) rg (IV_NR h) (IV_WT h).1 (IV_WT h).2 (IV_WR h).1)) (opd2 h hn hr (gE_mono (m_x_isStronglyConnected (IV_MT h) rg hV) fun o M1 q => ?_)) (fun z T2 c2 J2 k b q hk hb => hend T2 c2 J2 k b q.2.2.2 hk hb)
  obtain ⟨rfl, rfl⟩ := q
  refine ⟨congrArg (fun x => (Sum.inl (some (gi x)) : am_O)) (Eq.symm ?_), rfl⟩
  exact congrArg bi (NN_con nn hV (-1))
set_option maxHeartbeats 1000000 in
theorem op_26 {L : Nat} : OPC L 1583 := by
  intro n T c J i u5 u6 Q hn h hL hi hu hv hend
  have rg := IV_RG h
  have nn := IV_NN h
  have vv := (IV_SW h).2.1
  have ww := (IV_WR h).2
  have hV := IV_NW h
  have hr : -2147483648 ≤ c 100034 1 ∧ c 100034 1 < 2147483648 := by exact rg _ _
  refine lc_26 (E := fun T c _ => IV (n + 1) L T c) (by omega) (by omega) hu hv (opd1 (c_xTime (IV_XT h) (IV_NT h) rg (IV_NR h) (IV_WT h).1)) (opd2 h hn hr (gE_mono (m_x_time (IV_MT h) rg hV) fun o M1 q => ?_)) (fun z T2 c2 J2 k b q hk hb => hend T2 c2 J2 k b q.2.2.2 hk hb)
  obtain ⟨rfl, rfl⟩ := q
  refine ⟨congrArg (fun x => (Sum.inl (some (gi x)) : am_O)) (Eq.symm ?_), rfl⟩
  exact vv.1.1.1
set_option maxHeartbeats 1000000 in
theorem op_27 {L : Nat} : OPC L 1596 := by
  intro n T c J i u5 u6 Q hn h hL hi hu hv hend
  have rg := IV_RG h
  have nn := IV_NN h
  have vv := (IV_SW h).2.1
  have ww := (IV_WR h).2
  have hV := IV_NW h
  have hr : -2147483648 ≤ c 100034 2 ∧ c 100034 2 < 2147483648 := by exact rg _ _
  refine lc_27 (E := fun T c _ => IV (n + 1) L T c) (by omega) (by omega) hu hv (opd1 (c_x_position (IV_XT h) (IV_NT h) rg (IV_NR h) (IV_WT h).1)) (opd2 h hn hr (gE_mono (m_x_position (IV_MT h) rg hV) fun o M1 q => ?_)) (fun z T2 c2 J2 k b q hk hb => hend T2 c2 J2 k b q.2.2.2 hk hb)
  obtain ⟨rfl, rfl⟩ := q
  refine ⟨congrArg (fun x => (Sum.inl (some (gi x)) : am_O)) (Eq.symm ?_), rfl⟩
  exact vv.1.1.2
set_option maxHeartbeats 1000000 in
theorem op_28 {L : Nat} : OPC L 1609 := by
  intro n T c J i u5 u6 Q hn h hL hi hu hv hend
  have rg := IV_RG h
  have nn := IV_NN h
  have vv := (IV_SW h).2.1
  have ww := (IV_WR h).2
  have hV := IV_NW h
  have hr : -2147483648 ≤ c 100034 3 ∧ c 100034 3 < 2147483648 := by exact rg _ _
  refine lc_28 (E := fun T c _ => IV (n + 1) L T c) (by omega) (by omega) hu hv (opd1 (c_x_lastArc (IV_XT h) (IV_NT h) rg (IV_NR h) (IV_WT h).1)) (opd2 h hn hr (gE_mono (m_x_lastArc (IV_MT h) rg hV) fun o M1 q => ?_)) (fun z T2 c2 J2 k b q hk hb => hend T2 c2 J2 k b q.2.2.2 hk hb)
  obtain ⟨rfl, rfl⟩ := q
  refine ⟨congrArg (fun x => (Sum.inl (some (gi x)) : am_O)) (Eq.symm ?_), rfl⟩
  exact vv.1.2.1.1
set_option maxHeartbeats 1000000 in
theorem op_29 {L : Nat} : OPC L 1622 := by
  intro n T c J i u5 u6 Q hn h hL hi hu hv hend
  have rg := IV_RG h
  have nn := IV_NN h
  have vv := (IV_SW h).2.1
  have ww := (IV_WR h).2
  have hV := IV_NW h
  have hr : -2147483648 ≤ c 100034 4 ∧ c 100034 4 < 2147483648 := by exact rg _ _
  refine lc_29 (E := fun T c _ => IV (n + 1) L T c) (by omega) (by omega) hu hv (opd1 (c_x_saltLeft (IV_XT h) (IV_NT h) rg (IV_NR h) (IV_WT h).1)) (opd2 h hn hr (gE_mono (m_x_saltLeft (IV_MT h) rg hV) fun o M1 q => ?_)) (fun z T2 c2 J2 k b q hk hb => hend T2 c2 J2 k b q.2.2.2 hk hb)
  obtain ⟨rfl, rfl⟩ := q
  refine ⟨congrArg (fun x => (Sum.inl (some (gi x)) : am_O)) (Eq.symm ?_), rfl⟩
  exact vv.1.2.1.2
set_option maxHeartbeats 1000000 in
theorem op_30 {L : Nat} : OPC L 1635 := by
  intro n T c J i u5 u6 Q hn h hL hi hu hv hend
  have rg := IV_RG h
  have nn := IV_NN h
  have vv := (IV_SW h).2.1
  have ww := (IV_WR h).2
  have hV := IV_NW h
  have hr : -2147483648 ≤ c 100034 7 ∧ c 100034 7 < 2147483648 := by exact rg _ _
  refine lc_30 (E := fun T c _ => IV (n + 1) L T c) (by omega) (by omega) hu hv (opd1 (c_x_fall (IV_XT h) (IV_NT h) rg (IV_NR h) (IV_WT h).1)) (opd2 h hn hr (gE_mono (m_x_fall (IV_MT h) rg hV) fun o M1 q => ?_)) (fun z T2 c2 J2 k b q hk hb => hend T2 c2 J2 k b q.2.2.2 hk hb)
  obtain ⟨rfl, rfl⟩ := q
  refine ⟨congrArg (fun x => (Sum.inl (some (gi x)) : am_O)) (Eq.symm ?_), rfl⟩
  exact vv.1.2.2.2
set_option maxHeartbeats 1000000 in
theorem op_42 {L : Nat} : OPC L 2278 := by
  intro n T c J i u5 u6 Q hn h hL hi hu hv hend
  have rg := IV_RG h
  have nn := IV_NN h
  have vv := (IV_SW h).2.1
  have ww := (IV_WR h).2
  have hV := IV_NW h
  have hr : -2147483648 ≤ c 100034 5 ∧ c 100034 5 < 2147483648 := by exact rg _ _
  refine lc_42 (E := fun T c _ => IV (n + 1) L T c) (by omega) (by omega) hu hv (opd1 (c_x_saltUsed (IV_XT h) (IV_NT h) rg (IV_NR h) (IV_WT h).1)) (opd2 h hn hr (gE_mono (m_x_saltUsed (IV_MT h) rg hV) fun o M1 q => ?_)) (fun z T2 c2 J2 k b q hk hb => hend T2 c2 J2 k b q.2.2.2 hk hb)
  obtain ⟨rfl, rfl⟩ := q
  refine ⟨congrArg (fun x => (Sum.inl (some (gi x)) : am_O)) (Eq.symm ?_), rfl⟩
  exact vv.1.2.2.1.1
set_option maxHeartbeats 1000000 in
theorem op_43 {L : Nat} : OPC L 2291 := by
  intro n T c J i u5 u6 Q hn h hL hi hu hv hend
  have rg := IV_RG h
  have nn := IV_NN h
  have vv := (IV_SW h).2.1
  have ww := (IV_WR h).2
  have hV := IV_NW h
  have hr : -2147483648 ≤ c 100034 6 ∧ c 100034 6 < 2147483648 := by exact rg _ _
  refine lc_43 (E := fun T c _ => IV (n + 1) L T c) (by omega) (by omega) hu hv (opd1 (c_x_distance (IV_XT h) (IV_NT h) rg (IV_NR h) (IV_WT h).1)) (opd2 h hn hr (gE_mono (m_x_distance (IV_MT h) rg hV) fun o M1 q => ?_)) (fun z T2 c2 J2 k b q hk hb => hend T2 c2 J2 k b q.2.2.2 hk hb)
  obtain ⟨rfl, rfl⟩ := q
  refine ⟨congrArg (fun x => (Sum.inl (some (gi x)) : am_O)) (Eq.symm ?_), rfl⟩
  exact vv.1.2.2.1.2
set_option maxHeartbeats 1000000 in
theorem op_49 {L : Nat} : OPC L 2600 := by
  intro n T c J i u5 u6 Q hn h hL hi hu hv hend
  have rg := IV_RG h
  have nn := IV_NN h
  have vv := (IV_SW h).2.1
  have ww := (IV_WR h).2
  have hV := IV_NW h
  have hr : -2147483648 ≤ c 100052 2 ∧ c 100052 2 < 2147483648 := by exact rg _ _
  refine lc_49 (E := fun T c _ => IV (n + 1) L T c) (by omega) (by omega) hu hv (opd1 (c_x_undoCount (IV_XT h) (IV_CT h).2.2.2.2.2.2.1)) (opd2 h hn hr (gE_mono (m_x_undoCount (IV_MT h) rg hV) fun o M1 q => ?_)) (fun z T2 c2 J2 k b q hk hb => hend T2 c2 J2 k b q.2.2.2 hk hb)
  obtain ⟨rfl, rfl⟩ := q
  refine ⟨congrArg (fun x => (Sum.inl (some (gi x)) : am_O)) (Eq.symm ?_), rfl⟩
  exact (IV_13 h).1.symm
set_option maxHeartbeats 1000000 in
theorem op_34 {L : Nat} : OPC L 1816 := by
  intro n T c J i u5 u6 Q hn h hL hi hu hv hend
  have rg := IV_RG h
  have nn := IV_NN h
  have vv := (IV_SW h).2.1
  have ww := (IV_WR h).2
  have hV := IV_NW h
  have hr : -9223372036854775808 ≤ itI (tnf c) 0 24 ∧ itI (tnf c) 0 24 < 9223372036854775808 := by exact tn_rg (IV_NR h) (IV_WR h).1
  refine lc_34 (E := fun T c _ => IV (n + 1) L T c) (by omega) (by omega) hu hv (opd1l (c_x_totalSnow (IV_XT h) (IV_NT h) rg (IV_NR h) (IV_WT h).1 (IV_WT h).2 (IV_WR h).1)) (opd2l h hn hr (gE_mono (m_x_totalSnow (IV_MT h) rg hV ww (by omega)) fun o M1 q => ?_)) (fun z T2 c2 J2 k b q hk hb => hend T2 c2 J2 k b q.2.2.2 hk hb)
  obtain ⟨rfl, rfl⟩ := q
  refine ⟨congrArg (fun x => (Sum.inl (some (gl x)) : am_O)) (Eq.symm ?_), rfl⟩
  exact total_e (NN_t nn) (NW_t hV) (VV_t vv)
