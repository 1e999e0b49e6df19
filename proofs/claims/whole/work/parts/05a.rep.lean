/-! THE TIE: what the abstract machine's memory is in the JVM's heap -/
def am_W : List Jvm.Cond := lw_tbl.filter goodWord
theorem am_W_good : ∀ w ∈ am_W, goodWord w = true := fun w h => (List.mem_filter.mp h).2
theorem am_W_of {w : Jvm.Cond} (h : w ∈ lw_tbl) (g : goodWord w = true) : w ∈ am_W := List.mem_filter.mpr ⟨h, g⟩
theorem am_W_in {ws : List Jvm.Cond} (h : ∀ w ∈ ws, w ∈ am_W) : GoodIn am_W ws := fun w hw => ⟨h w hw, good_of_word (am_W_good w (h w hw))⟩
def am_cv (ad : Nat → Value) (v : Value) : Value := match v with | .ref k => ad k | v => v
def am_okv (M : am_M) (v : Value) : Prop := match v with | .ref k => ¬ am_tg M k = 0 | _ => True
def am_ty (ci : Nat) : Nat → FieldType := match ci with
  | 0 => tyX0 | 1 => tyX1 | 2 => tyX2 | 3 => tyX3 | 4 => tyX4 | 5 => tyX5 | 6 => tyX6 | 7 => tyX7 | 8 => tyX8 | _ => tyX9
def am_rf (t : FieldType) : Bool := match t with | .object _ => true | .array _ => true | _ => false
def am_fv (ad : Nat → Value) (M : am_M) (k ci j : Nat) : Value := if am_rf (am_ty ci j) = true then am_cv ad (am_rv (am_R M k j)) else .int (am_I M k j)
def am_own (t : Nat) : Prop := (1 ≤ t ∧ t ≤ 4) ∨ (10 ≤ t ∧ t < 20)
def am_A (b0 : Nat) : Nat → Prop := fun q => b0 ≤ q
/-- an array of the type, its component's class the one of that name -/
def am_isA (s : State) (cell : Cell) (ty : FieldType) : Prop := s.isArrayOf cell ty ∧ ∀ C : String, ty = .object C → ∃ (kA : Class) (comp : ClassId), s.vm.classes[cell.cls]? = some kA ∧ kA.kind = .array comp (.object C) ∧ s.vm.findClass C = some comp
theorem am_isA.moved {u U : State} {cell : Cell} {ty : FieldType} (hvm : u.vm.Alike U.vm) (h : am_isA u cell ty) : am_isA U cell ty := by
  refine ⟨State.isArrayOf_alike hvm h.1, fun C hC => ?_⟩
  obtain ⟨kA, comp, h1, h2, h3⟩ := h.2 C hC
  obtain ⟨k', hk', he⟩ := hvm.2.2 _ _ h1
  exact ⟨k', comp, hk', by rw [he]; exact h2, by rw [hvm.findClass]; exact h3⟩
def am_arr (s : State) (H : Heap) (v : Value) (b0 : Nat) (ty : FieldType) (n : Nat) (f : Nat → Value) : Prop :=
  ∃ a cell, v = .ref a ∧ b0 ≤ a ∧ H[a]? = some cell ∧ am_isA s cell ty ∧ cell.vm = .none ∧ cell.slots.size = n ∧ ∀ j, j < n → cell.slots[j]? = some (f j)
def am_rep (D : va_G) (b0 : Nat) (s : State) (ad : Nat → Value) (M : am_M) (H : Heap) : Prop :=
  (∀ k, am_tg M k = 1 → am_arr s H (ad k) b0 .int (am_ln M k) (fun j => .int (am_I M k j))) ∧
  (∀ k, am_tg M k = 2 → am_arr s H (ad k) b0 .byte (am_ln M k) (fun j => .int (am_I M k j))) ∧
  (∀ k, am_tg M k = 3 → am_arr s H (ad k) b0 .long (am_ln M k) (fun j => .long (am_J M k j))) ∧
  (∀ k, am_tg M k = 4 → am_arr s H (ad k) b0 (.object "SnowPlough$Snapshot") (am_ln M k) (fun j => am_cv ad (am_rv (am_R M k j))) ∧ ∀ j, am_okv M (am_rv (am_R M k j))) ∧
  (∀ k ci r, am_tg M k = 10 + ci → vwCl[ci]? = some r → (∃ a, ad k = .ref a ∧ b0 ≤ a ∧ t_OB a (D.1 ci) r.2.2 (D.2 ci) H (am_fv ad M k ci)) ∧ ∀ j, am_okv M (am_rv (am_R M k j))) ∧
  (∀ k k', am_own (am_tg M k) → am_own (am_tg M k') → ad k = ad k' → k = k') ∧
  (∀ k, ¬ am_tg M k = 0 → (∃ a, ad k = .ref a) ∨ ad k = .null)
theorem am_own_ref {D : va_G} {b0 : Nat} {s : State} {ad : Nat → Value} {M : am_M} {H : Heap} (h : am_rep D b0 s ad M H) {k : Nat} (hk : am_own (am_tg M k)) : ∃ a, ad k = .ref a ∧ b0 ≤ a ∧ a < H.size := by
  obtain ⟨h1, h2, h3, h4, h5, -, -⟩ := h
  have key : ∀ {ty : FieldType} {n : Nat} {f : Nat → Value}, am_arr s H (ad k) b0 ty n f → ∃ a, ad k = .ref a ∧ b0 ≤ a ∧ a < H.size := by
    intro ty n f hh
    obtain ⟨a, cell, e1, e2, e3, -⟩ := hh
    exact ⟨a, e1, e2, (Array.getElem?_eq_some_iff.mp e3).1⟩
  rcases hk with ⟨a1, a2⟩ | ⟨a1, a2⟩
  · rcases (show am_tg M k = 1 ∨ am_tg M k = 2 ∨ am_tg M k = 3 ∨ am_tg M k = 4 by omega) with e | e | e | e
    · exact key (h1 k e)
    · exact key (h2 k e)
    · exact key (h3 k e)
    · exact key (h4 k e).1
  · obtain ⟨ci, hci⟩ : ∃ ci, am_tg M k = 10 + ci := ⟨am_tg M k - 10, by omega⟩
    have hl : ci < 10 := by omega
    obtain ⟨⟨a, e1, e2, cell, e3, -⟩, -⟩ := h5 k ci (vwCl[ci]'hl) hci (by simp)
    exact ⟨a, e1, e2, (Array.getElem?_eq_some_iff.mp e3).1⟩
/-- two own keys lie apart -/
theorem am_ne {D : va_G} {b0 : Nat} {s : State} {ad : Nat → Value} {M : am_M} {H : Heap} (h : am_rep D b0 s ad M H) {k k' a a' : Nat} (hk : am_own (am_tg M k)) (hk' : am_own (am_tg M k')) (e : ad k = .ref a) (e' : ad k' = .ref a') (hne : k' ≠ k) : a' ≠ a := by
  intro z
  exact hne (h.2.2.2.2.2.1 k' k hk' hk (by rw [e, e', z]))
theorem am_arr.kept {s : State} {H H1 : Heap} {v : Value} {b0 : Nat} {ty : FieldType} {n : Nat} {f : Nat → Value} (h : am_arr s H v b0 ty n f) (hq : ∀ a, v = .ref a → H1[a]? = H[a]?) : am_arr s H1 v b0 ty n f := by
  obtain ⟨a, cell, e1, e2, e3, e4⟩ := h
  exact ⟨a, cell, e1, e2, (hq a e1).trans e3, e4⟩
theorem am_arr.moved {u U : State} {H : Heap} {v : Value} {b0 : Nat} {ty : FieldType} {n : Nat} {f : Nat → Value} (hvm : u.vm.Alike U.vm) (h : am_arr u H v b0 ty n f) : am_arr U H v b0 ty n f := by
  obtain ⟨a, cell, e1, e2, e3, e4, e5⟩ := h
  exact ⟨a, cell, e1, e2, e3, e4.moved hvm, e5⟩
theorem am_rep.moved {D : va_G} {b0 : Nat} {u U : State} {ad : Nat → Value} {M : am_M} {H : Heap} (hvm : u.vm.Alike U.vm) (h : am_rep D b0 u ad M H) : am_rep D b0 U ad M H := by
  obtain ⟨h1, h2, h3, h4, h5, h6, h7⟩ := h
  exact ⟨fun k e => (h1 k e).moved hvm, fun k e => (h2 k e).moved hvm, fun k e => (h3 k e).moved hvm, fun k e => ⟨(h4 k e).1.moved hvm, (h4 k e).2⟩, h5, h6, h7⟩
/-- the heap moved, but no own cell did -/
theorem am_rep.kept {D : va_G} {b0 : Nat} {s : State} {ad : Nat → Value} {M : am_M} {H H1 : Heap} (h : am_rep D b0 s ad M H) (hq : ∀ a, b0 ≤ a → a < H.size → H1[a]? = H[a]?) : am_rep D b0 s ad M H1 := by
  obtain ⟨h1, h2, h3, h4, h5, h6, h7⟩ := h
  have key : ∀ {v : Value} {ty : FieldType} {n : Nat} {f : Nat → Value}, am_arr s H v b0 ty n f → am_arr s H1 v b0 ty n f := by
    intro v ty n f hh
    obtain ⟨a, cell, e1, e2, e3, e4⟩ := hh
    exact ⟨a, cell, e1, e2, (hq a e2 (Array.getElem?_eq_some_iff.mp e3).1).trans e3, e4⟩
  refine ⟨fun k e => key (h1 k e), fun k e => key (h2 k e), fun k e => key (h3 k e), fun k e => ⟨key (h4 k e).1, (h4 k e).2⟩, fun k ci r e1 e2 => ?_, h6, h7⟩
  obtain ⟨⟨a, q1, q2, q3⟩, q4⟩ := h5 k ci r e1 e2
  refine ⟨⟨a, q1, q2, q3.kept ?_⟩, q4⟩
  obtain ⟨cell, z, -⟩ := q3
  exact hq a q2 (Array.getElem?_eq_some_iff.mp z).1
theorem am_tg_cell {M : am_M} {k : Nat} {c : am_C} {k' : Nat} : am_tg (am_cell M k c) k' = if k' = k then c.1 else am_tg M k' := by
  unfold am_tg am_cell va_up
  by_cases h : k' = k <;> simp [h]
theorem am_cell_ne {M : am_M} {k : Nat} {c : am_C} {k' : Nat} (h : k' ≠ k) : (am_cell M k c).1 k' = M.1 k' := by
  simp [am_cell, va_up, h]
theorem am_cell_eq {M : am_M} {k : Nat} {c : am_C} : (am_cell M k c).1 k = c := by
  simp [am_cell, va_up]
theorem am_okv_cell {M : am_M} {k : Nat} {c : am_C} (hc : c.1 = am_tg M k) {v : Value} (h : am_okv M v) : am_okv (am_cell M k c) v := by
  cases v with
  | ref q =>
    show ¬ am_tg (am_cell M k c) q = 0
    rw [am_tg_cell]
    by_cases hq : q = k
    · rw [if_pos hq, hc, ← hq]; exact h
    · rw [if_neg hq]; exact h
  | _ => trivial
/-- one own cell is written, its tag and its length stay -/
theorem am_rep_cell {D : va_G} {b0 : Nat} {s : State} {ad : Nat → Value} {M : am_M} {H H1 : Heap} (h : am_rep D b0 s ad M H) {k a : Nat} {c : am_C} (hk : am_own (am_tg M k)) (ha : ad k = .ref a) (hc : c.1 = am_tg M k) (hn : c.2.1 = am_ln M k)
    (oq : ∀ q, q ≠ a → H1[q]? = H[q]?)
    (g1 : am_tg M k = 1 → am_arr s H1 (ad k) b0 .int (am_ln M k) (fun j => .int (c.2.2.1 j)))
    (g2 : am_tg M k = 2 → am_arr s H1 (ad k) b0 .byte (am_ln M k) (fun j => .int (c.2.2.1 j)))
    (g3 : am_tg M k = 3 → am_arr s H1 (ad k) b0 .long (am_ln M k) (fun j => .long (c.2.2.2.1 j)))
    (g4 : am_tg M k = 4 → am_arr s H1 (ad k) b0 (.object "SnowPlough$Snapshot") (am_ln M k) (fun j => am_cv ad (am_rv (c.2.2.2.2 j))) ∧ ∀ j, am_okv M (am_rv (c.2.2.2.2 j)))
    (g5 : ∀ ci r, am_tg M k = 10 + ci → vwCl[ci]? = some r → t_OB a (D.1 ci) r.2.2 (D.2 ci) H1 (am_fv ad (am_cell M k c) k ci) ∧ ∀ j, am_okv M (am_rv (c.2.2.2.2 j))) :
    am_rep D b0 s ad (am_cell M k c) H1 := by
  have h0 := h
  obtain ⟨h1, h2, h3, h4, h5, h6, h7⟩ := h
  have htg : ∀ k', am_tg (am_cell M k c) k' = am_tg M k' := fun k' => by
    rw [am_tg_cell]
    by_cases hq : k' = k
    · rw [if_pos hq, hc, hq]
    · rw [if_neg hq]
  have hln : ∀ k', am_ln (am_cell M k c) k' = am_ln M k' := fun k' => by
    by_cases hq : k' = k
    · subst hq; unfold am_ln; rw [am_cell_eq]; exact hn
    · unfold am_ln; rw [am_cell_ne hq]
  have key : ∀ k' {ty : FieldType} {n : Nat} {f : Nat → Value}, k' ≠ k → am_own (am_tg M k') → am_arr s H (ad k') b0 ty n f → am_arr s H1 (ad k') b0 ty n f := by
    intro k' ty n f hne hown hh
    exact hh.kept (fun a' e' => oq a' (am_ne h0 hk hown ha e' hne))
  refine ⟨fun k' e => ?_, fun k' e => ?_, fun k' e => ?_, fun k' e => ?_, fun k' ci r e1 e2 => ?_, fun k1 k2 e1 e2 => h6 k1 k2 (by rw [← htg]; exact e1) (by rw [← htg]; exact e2), fun k' e => h7 k' (by rw [← htg]; exact e)⟩
  · rw [htg] at e
    rw [hln]
    by_cases hq : k' = k
    · subst hq; unfold am_I; rw [am_cell_eq]; exact g1 e
    · unfold am_I; rw [am_cell_ne hq]; exact key k' hq (Or.inl (by omega)) (h1 k' e)
  · rw [htg] at e
    rw [hln]
    by_cases hq : k' = k
    · subst hq; unfold am_I; rw [am_cell_eq]; exact g2 e
    · unfold am_I; rw [am_cell_ne hq]; exact key k' hq (Or.inl (by omega)) (h2 k' e)
  · rw [htg] at e
    rw [hln]
    by_cases hq : k' = k
    · subst hq; unfold am_J; rw [am_cell_eq]; exact g3 e
    · unfold am_J; rw [am_cell_ne hq]; exact key k' hq (Or.inl (by omega)) (h3 k' e)
  · rw [htg] at e
    rw [hln]
    by_cases hq : k' = k
    · subst hq; unfold am_R; rw [am_cell_eq]
      exact ⟨(g4 e).1, fun j => am_okv_cell hc ((g4 e).2 j)⟩
    · unfold am_R; rw [am_cell_ne hq]
      exact ⟨key k' hq (Or.inl (by omega)) (h4 k' e).1, fun j => am_okv_cell hc ((h4 k' e).2 j)⟩
  · rw [htg] at e1
    by_cases hq : k' = k
    · subst hq
      obtain ⟨q1, q2⟩ := g5 ci r e1 e2
      obtain ⟨⟨a2, z1, z2, -⟩, -⟩ := h5 k' ci r e1 e2
      refine ⟨⟨a, ha, ?_, q1⟩, fun j => ?_⟩
      · rw [ha] at z1; cases z1; exact z2
      · unfold am_R; rw [am_cell_eq]; exact am_okv_cell hc (q2 j)
    · obtain ⟨⟨a2, z1, z2, z3⟩, z4⟩ := h5 k' ci r e1 e2
      have hci : ci < 10 := (List.getElem?_eq_some_iff.mp e2).1
      refine ⟨⟨a2, z1, z2, ?_⟩, fun j => ?_⟩
      · have hf : am_fv ad (am_cell M k c) k' ci = am_fv ad M k' ci := by
          funext j; unfold am_fv am_R am_I; rw [am_cell_ne hq]
        rw [hf]
        exact z3.kept (oq a2 (am_ne h0 hk (Or.inr (by omega)) ha z1 hq))
      · unfold am_R; rw [am_cell_ne hq]; exact am_okv_cell hc (z4 j)
