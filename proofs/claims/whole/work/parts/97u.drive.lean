/-! the law's case: driving -/
def RDv (z : Int) (s : Bool) (T : gT) (c J : gC) : (Int ⊕ Nat) → gT → gC → gC → Prop := fun r T1 c1 J1 => (hA c 100014 z = true ∧ bg c 100014 z = c 100034 2 ∧ ∃ d, KP T c J T1 d J1 ∧ r = .inl (scn d 100014 100034 z) ∧ c1 = drv d 100014 100034 z s) ∨ (hA c 100014 z = true ∧ ¬ bg c 100014 z = c 100034 2 ∧ r = .inr 0 ∧ T1 = gTt T ∧ c1 = c ∧ J1 = J) ∨ (¬ hA c 100014 z = true ∧ r = .inr 2 ∧ T1 = gTt T ∧ c1 = c ∧ J1 = J)
theorem drive_c {n L : Nat} {T : gT} {c J : gC} (h : IV n L T c) (hn : n < 900) {z : Int} (hz : -2147483648 ≤ z ∧ z < 2147483648) {s : Bool} : gE 5 146 8 [.ref 500000, gi z, gi (bi s)] (gm T c J) (gP (RDv z s T c J)) := by
  have rg := IV_RG h
  have fx := IV_fx h hn
  have hout := IV_out h
  have hR := (IV_WR h).1
  refine gE_mono (c_x_drive (IV_XT h) (IV_NT h) rg (IV_NR h) (IV_WT h).1 (IV_WT h).2 hR (IV_HR h) (by omega) hz) fun o M1 q => ?_
  rcases q with ⟨a, b, T1, c1, J1, kp, rfl, rfl⟩ | ⟨a, b, rfl, rfl⟩ | ⟨a, rfl, rfl⟩
  · have b1 := scn_rg (KP_NR kp (IV_NR h)) (KP_WR kp hR) z
    refine ⟨T1, _, J1, rfl, Or.inl ⟨_, rfl, by omega, ?_, Or.inl ⟨a, b, c1, kp, rfl, rfl⟩⟩⟩
    rw [KP_T kp (by decide) (by decide)]
    exact hout
  · exact ⟨gTt T, c, J, rfl, Or.inr ⟨0, rfl, fx.1, Or.inr (Or.inl ⟨a, b, rfl, rfl, rfl, rfl⟩)⟩⟩
  · exact ⟨gTt T, c, J, rfl, Or.inr ⟨2, rfl, fx.1, Or.inr (Or.inr ⟨a, rfl, rfl, rfl, rfl⟩)⟩⟩
