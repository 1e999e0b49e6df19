/-! the law's cases: the centre, the nearest deep arc -/
set_option maxHeartbeats 1000000 in
theorem op_55 {L : Nat} : OPC L 2850 := by
  intro n T c J i u5 u6 Q hn h hL hi hu hv hend
  have rg := IV_RG h
  have hS := IV_SR h
  have h' := IV_rfr h (by omega)
  have ok := rfr_ok rg hS (IV_NR h)
  have e2 : rfr c 200000 = c 200000 := funext fun j => ok.2.2 _ (by decide) (by decide) (by decide) j
  refine lc_55 (HW := 5) (HM := 8) (E := fun T c _ => IV (n + 1) L T c) (R := fun v' T1 c1 J1 => v' = (am1 100000000 (fun n => far (rfr c) n (rfr c 100014 1)) (rfr c 100014 1)).1 ∧ T1 = T ∧ c1 = rfr c ∧ J1 = J) (by omega) (by omega) hu hv (gE_mono (c_x_centre (IV_XT h) (IV_NT h) rg (IV_NR h) (IV_WT h).1 (IV_WT h).2 (IV_WR h).1 (IV_CT h).2.2.2.1 hS) fun o M1 q => ⟨_, T, rfr c, J, q.1, q.2, rfl, rfl, rfl, rfl⟩) (fun v' T1 c1 J1 hR => ?_) (fun z T2 c2 J2 k b q hk hb => hend T2 c2 J2 k b q.2.2.2 hk hb)
  obtain ⟨rfl, rfl, rfl, rfl⟩ := hR
  have nr := (IV_NR h').1
  refine ⟨?_, gE_mono (m_x_centre (IV_MT h') (IV_RG h') (IV_NW h')) fun o M1 q => ?_⟩
  · have := am1_rg (B := 100000000) (f := fun n => far (rfr c) n (rfr c 100014 1)) nr.1
    omega
  · obtain ⟨rfl, rfl⟩ := q
    have i2 := IV_mll h' (by omega)
    refine ⟨0, _, _, _, congrArg (fun x => (Sum.inl (some (gi x)) : am_O)) (Eq.symm ?_), rfl, ⟨⟨IV_MT h', IV_RG i2.1⟩, i2.2, IV_out h', IV_up i2.1 (by omega)⟩⟩
    obtain ⟨tt, hb⟩ := IV_TT h (IV_RG h') e2
    rw [e2]
    exact centre_k tt hb
