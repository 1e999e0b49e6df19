def am_le (M M' : am_M) : Prop := (∀ k, ¬ am_tg M k = 0 → am_tg M' k = am_tg M k) ∧ am_cc M ≤ am_cc M' ∧ am_sl M ≤ am_sl M'
theorem am_le.rf (M : am_M) : am_le M M := ⟨fun _ _ => rfl, Nat.le_refl _, Nat.le_refl _⟩
theorem am_le.tr {A B C : am_M} (h : am_le A B) (h' : am_le B C) : am_le A C := ⟨fun k hk => by rw [h'.1 k (by rw [h.1 k hk]; exact hk), h.1 k hk], Nat.le_trans h.2.1 h'.2.1, Nat.le_trans h.2.2 h'.2.2⟩
theorem am_le.cell {M : am_M} {k : Nat} {c : am_C} (hc : c.1 = am_tg M k) : am_le M (am_cell M k c) := ⟨fun k' _ => by
  rw [am_tg_cell]
  by_cases hq : k' = k
  · rw [if_pos hq, hc, hq]
  · rw [if_neg hq], Nat.le_refl _, Nat.le_refl _⟩
theorem am_le.new {M : am_M} {g t n w : Nat} (hk : am_tg M (am_key M g) = 0) : am_le M (am_new M g t n w) := ⟨fun k h => by
  have hq : k ≠ am_key M g := fun e => h (by rw [e]; exact hk)
  unfold am_tg; rw [am_new_ne hq], Nat.le_succ _, Nat.le_add_right _ _⟩
theorem am_le.exc {M : am_M} (hk : am_tg M (am_key M 7) = 0) : am_le M (am_exc M) := ⟨fun k h => by
  have hq : k ≠ am_key M 7 := fun e => h (by rw [e]; exact hk)
  simp [am_tg, am_exc, va_up, hq], Nat.le_refl _, Nat.le_refl _⟩
theorem am_le.thr {M : am_M} : am_le M (am_thr M) := ⟨fun _ _ => rfl, Nat.le_succ _, Nat.le_add_right _ _⟩
theorem am_math_inv {kd : Nat} {L : List Value} {pc : Nat} {st : List Value} {M : am_M} {S : am_S} (h : am_math kd L pc st M = some S) : ∃ v r, S = (pc, L, v :: r, M) := by
  unfold am_math at h
  split at h
  all_goals first
    | cases h
    | (split at h
       · cases h; exact ⟨_, _, rfl⟩
       · cases h)
set_option maxHeartbeats 4000000 in
theorem am_step_le {g : Nat} {i : Instr} {kd a b pc : Nat} {L st : List Value} {M : am_M} {S : am_S} (h : am_step g i kd a b pc L st M = some S) : am_le M S.2.2.2 := by
  unfold am_step at h
  split at h
  all_goals first
    | (cases h; exact am_le.rf _)
    | (obtain ⟨_, _, rfl⟩ := am_ldI_inv h; exact am_le.rf _)
    | (obtain ⟨_, _, rfl⟩ := am_ldL_inv h; exact am_le.rf _)
    | (rcases am_ldA_inv h with ⟨_, _, rfl⟩ | ⟨_, rfl⟩ <;> exact am_le.rf _)
    | (obtain ⟨_, _, _, _, rfl⟩ := am_stI_inv h; exact am_le.rf _)
    | (obtain ⟨_, _, _, _, rfl⟩ := am_stL_inv h; exact am_le.rf _)
    | (rcases am_stA_inv h with ⟨_, _, _, _, rfl⟩ | ⟨_, _, _, rfl⟩ <;> exact am_le.rf _)
    | (obtain ⟨_, _, _, _, rfl⟩ := am_i2_inv h; exact am_le.rf _)
    | (obtain ⟨_, _, _, _, _, rfl⟩ := am_i2d_inv h; exact am_le.rf _)
    | (obtain ⟨_, _, _, _, rfl⟩ := am_l2_inv h; exact am_le.rf _)
    | (obtain ⟨_, _, _, _, _, rfl⟩ := am_l2d_inv h; exact am_le.rf _)
    | (obtain ⟨_, _, _, rfl⟩ := am_if_inv h; exact am_le.rf _)
    | (obtain ⟨_, _, _, _, rfl⟩ := am_icmp_inv h; exact am_le.rf _)
    | (repeat' split at h
       all_goals first
         | (cases h; exact am_le.rf _)
         | (cases h; exact am_le.cell rfl)
         | (cases h; exact am_le.new (by first | assumption | exact And.left (by assumption)))
         | (obtain ⟨_, _, rfl⟩ := am_math_inv h; exact am_le.rf _)
         | (exact absurd h (by simp)))
