/-! the law's case: the time of a path -/
theorem mcr_cg {c m : gC} {b : Nat} (e : m b = c b) (z : Int) : mcr m b z = mcr c b z := by
  unfold mcr mno
  rw [mrc_o e, e]
theorem go_i {cc X0 M : gC} {b : Nat} {f t : Int} (h : TT2 cc X0 M b) (hb : M b = cc b) (hL : LR M) (hc : RG M) (hf : 0 ≤ f ∧ f < 10) (ht : 0 ≤ t ∧ t < 10) : (fpx X0 f t 24).1 = t ↔ (f = t ∨ mcf M b f (-1) (24 + t) < 1000000000) := by
  refine ⟨fun q => Classical.byContradiction fun w => go_n h hb hf ht w q, fun q => ?_⟩
  by_cases e : f = t
  · subst e
    have hx := fpx_tt (c := X0) (t := f) 24
    rw [show ((24 : Nat) : Int) = 24 from rfl] at hx
    rw [hx]
  · exact (path_e h hb hL hc hf ht e (q.resolve_left e)).1
theorem go_m {n L : Nat} {T : gT} {c d : gC} (h : IV n L T c) (hr : RG d) (es : d 200000 = c 200000) {z : Int} (hz : 0 ≤ z ∧ z < c 200000 0) : (TT2 c (rfr c) (mll d 200000) 200000 ∧ mll d 200000 200000 = c 200000) ∧ (RG (mll d 200000) ∧ LR (mll d 200000) ∧ ∀ k : Nat, ¬ k = 200003 → mll d 200000 k = d k) ∧ LO (mll d 200000) 200000 (24 + z) ∧ (mcr d 200000 z = true ↔ (c 200000 6 = z ∨ mcf (mll d 200000) 200000 (c 200000 6) (-1) (24 + z) < 1000000000)) := by
  have hV := IV_NW h
  have hVd : NW d 200000 := NW_of hV es
  have f := mll_FW hVd
  have eb : mll d 200000 200000 = c 200000 := (mll_FM hr hVd (by decide)).2.2.trans es
  have tt : TT2 c (rfr c) (mll d 200000) 200000 := ⟨IV_NN h, hV, IV_TBL h, FWk_e f hVd es.symm, CL1_L (IV_SW h).2.2.2⟩
  obtain ⟨f1, f2, f3⟩ := tt.fM eb
  have ok := mll_ok hr hVd
  refine ⟨⟨tt, eb⟩, ⟨ok.1.1, ok.2, fun k hk => ok.1.2 k hk⟩, LO_node f2 f1 f3 hz.1, ?_⟩
  have hp := (IV_SW h).2.2.1.2
  have e := mcr_e f2 f1 ok.2 f3 (fun a ha => (NN_e (NN_b (IV_NN h) eb) f2 ha).2.2) (by rw [eb]; rcases hp with q | q <;> omega) (t := z) (by rw [eb]; exact hz)
  rw [← mcr_cg (eb.trans es.symm), e, eb]
theorem IV_po {n L : Nat} {T : gT} {c : gC} (h : IV n L T c) {z : Int} (hz : 0 ≤ z ∧ z < c 200000 0) : (0 ≤ c 200000 6 ∧ c 200000 6 < 10) ∧ (0 ≤ z ∧ z < 10) ∧ 0 < c 200000 0 ∧ (c 100034 2 = c 200000 6 ∧ c 100014 1 = c 200000 0) ∧ c 200000 6 < c 200000 0 := by
  have hp := (IV_SW h).2.2.1.2
  have hV := (IV_NW h).1.1
  have a1 : c 100034 2 = c 200000 6 := (IV_SW h).2.1.1.1.2
  have a2 : c 100014 1 = c 200000 0 := (IV_NN h).1.1.1
  rcases hp with q | q <;> omega
/-- the reference's prediction -/
def pM (c : gC) : gC := gcp (mll (tw c 0) 200000) 200000 200002 0 0 208
theorem pM_k {c : gC} {k : Nat} (hr : RG c) (hV : NW c 200000) (h : ¬ k = 200002) (h2 : ¬ k = 200003) (h3 : ¬ k = 500001) : pM c k = c k := by
  have ok := mll_ok (b := 200000) (tw_RG hr (z := 0) (by decide)) (NW_t hV)
  funext j
  unfold pM
  rw [gcp_k h, ok.1.2 k h2, tw_k h3]
theorem pM_j {c : gC} (hr : RG c) (hV : NW c 200000) {j : Int} (hj : ¬ j = 0) : pM c 500001 j = c 500001 j := by
  have ok := mll_ok (b := 200000) (tw_RG hr (z := 0) (by decide)) (NW_t hV)
  unfold pM
  rw [gcp_k (by decide), ok.1.2 _ (by decide)]
  unfold tw
  rw [gu_j hj]
theorem pM_0 {c : gC} (hr : RG c) (hV : NW c 200000) : pM c 500001 0 = 0 := by
  have ok := mll_ok (b := 200000) (tw_RG hr (z := 0) (by decide)) (NW_t hV)
  unfold pM
  rw [gcp_k (by decide), ok.1.2 _ (by decide), tw_0]
theorem pt_m {n L : Nat} {T : gT} {c c' : gC} (h : IV n L T c) (hr : RG c') (es : c' 200000 = c 200000) {z : Int} (hz : 0 ≤ z ∧ z < c 200000 0) : TT2 (ccb c (pM c') 200002) (rfr c) (pM c') 200002 ∧ (RG (pM c') ∧ LR (pM c') ∧ RW8 (pM c') 200002 c 200000) ∧ LO (pM c') 200002 (24 + z) ∧ (mcr c' 200000 z = true ↔ (c 200000 6 = z ∨ mcf (pM c') 200002 (c 200000 6) (-1) (24 + z) < 1000000000)) := by
  have et : tw c' 0 200000 = c 200000 := (tw_k (by decide)).trans es
  obtain ⟨⟨tt, eb⟩, ⟨a1, a2, a3⟩, a4, a5⟩ := go_m h (tw_RG hr (z := 0) (by decide)) et hz
  have hV := IV_NW h
  have rw8 : RW8 (pM c') 200002 c 200000 := fun j j0 j1 => by
    unfold pM
    rw [gcp_in j0 j1, eb]
  have hV1 : NW (pM c') 200002 := NW_cp rw8 hV
  have e3 : pM c' 200003 = mll (tw c' 0) 200000 200003 := funext fun j => gcp_k (by decide)
  have nb : NB c 200000 (pM c') 200002 := fun j hj => (rw8 j (by omega) (by omega)).symm
  have t2 : TT2 (ccb c (pM c') 200002) (rfr c) (pM c') 200002 := TT2_mk tt (by decide) NF_rf rfl rfl e3 nb hV1
  obtain ⟨f1, f2, f3⟩ := t2.fM ccb_b.symm
  obtain ⟨g1, g2, g3⟩ := tt.fM eb
  refine ⟨t2, ⟨RG_gcp a1, fun i i0 i1 => by rw [e3]; exact a2 i i0 i1, rw8⟩, LO_node f2 f1 f3 hz.1, ?_⟩
  rw [← mcr_cg (tw_k (c := c') (z := 0) (show ¬ 200000 = 500001 by decide)), a5, mcfn_B (fun j hj => by rw [eb]; exact nb j hj) g2 f2 g1 f1 hz.1]
theorem pt_IV {n L : Nat} {T : gT} {c : gC} (h : IV n L T c) (hn : n < 901) {z : Int} (hz : 0 ≤ z ∧ z < c 200000 0) (hm : mcr c 200000 z = true) {s : Bool} : IV n L T (mgt (pM c) 200002 z s).2 ∧ (mgt (pM c) 200002 z s).2 500001 0 = 0 := by
  have rg := IV_RG h
  obtain ⟨a1, ⟨a2, a3, a4⟩, a5, a6⟩ := pt_m h rg rfl hz
  have hV := IV_NW h
  have ww := (IV_WR h).2
  have hV1 : NW (pM c) 200002 := NW_cp a4 hV
  have ww1 := WW_cp a4 ww
  have e6 : pM c 200002 6 = c 200000 6 := a4 6 (by decide) (by decide)
  have hm' := a6.1 hm
  have po := IV_po h hz
  have lq := IV_LQ h
  have hmm : ¬ pM c 200002 6 = z → mcf (pM c) 200002 (pM c 200002 6) (-1) (24 + z) < 1000000000 := fun q => by
    rw [e6] at q ⊢
    exact hm'.resolve_left q
  have mo := mgt_ok (s := s) ⟨⟨by decide, by decide⟩, by decide⟩ a2 hV1 a3 ww1 (by omega) po.2.1 a5 hmm
  have m7 := mgt_7 (s := s) ⟨⟨by decide, by decide⟩, by decide⟩ a2 hV1 a3 ww1 (by omega) po.2.1 a5 hmm (by rw [pM_j rg hV (by decide)]; exact lq.2)
  refine ⟨IV_MLK h ⟨fun k hk h5 => ?_, fun j j0 j7 _ => ?_, mo.1, fun j j0 j1 => ?_, m7⟩ (by omega), ?_⟩
  · rw [mo.2.2.2.1 k (by omega) (by omega) h5, pM_k rg hV (by omega) (by omega) h5]
  · rw [mo.2.2.2.2.1 j j7, pM_j rg hV j0]
  · rw [mo.2.2.2.1 _ (by decide) (by decide) (by decide), pM_k rg hV (by decide) (by decide) (by decide)]
    exact lq.1 j j0 j1
  · rw [mo.2.2.2.2.1 0 (by decide), pM_0 rg hV]
