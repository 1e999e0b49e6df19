/-! driving over an arc: the worlds go on agreeing -/
theorem VV_0 {c m : gC} {n w b : Nat} (h : NN c n m b) (hV : NW m b) (hW : VV c w m b) (hl : LA m b) {a : Int} (ha : mhA m b a = true) : VV (drv0 c n w a) w (mg0 m b a) b := by
  have e3 := hW.1.2.1.1
  unfold drv0 mg0
  rw [e3]
  rcases hl with e | e
  · rw [if_pos e, if_pos e]; exact hW
  · have hr := mhA_rg hV e
    rw [if_neg (by omega), if_neg (by omega), NN_kd h hV e ha]
    have hk := mkd_rg (c := m) (b := b) (a := m b 7) (e := a)
    generalize mkd m b (m b 7) a = k at *
    obtain ⟨⟨⟨a1, a2⟩, ⟨a3, a4⟩, ⟨a5, a6⟩, a7⟩, a8, a9⟩ := hW
    have hA : ∀ x, mhA (gu m b (18 + k) (m b (18 + k) + 1)) b x = mhA m b x := fun x => mhA_n (NA_gu (i := 18 + k) NA_rf (by omega)) hV
    refine ⟨⟨⟨?_, ?_⟩, ⟨?_, ?_⟩, ⟨?_, ?_⟩, ?_⟩, fun i i0 i1 => ?_, fun x hx => ?_⟩
    all_goals first
      | (rw [gu_k (by omega), gu_j (by omega)]; assumption)
      | skip
    · rw [gu_v, gu_v]
      by_cases q : i = k
      · rw [if_pos q, if_pos (by omega), a8 k (by omega) (by omega)]
      · rw [if_neg q, if_neg (by omega)]; exact a8 i i0 i1
    · rw [hA] at hx
      have := mhA_rg hV hx
      simp (disch := omega) only [gu_k, gu_j]
      exact a9 x hx
