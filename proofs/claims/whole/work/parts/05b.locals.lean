def am_lv (ad : Nat → Value) (L : List Value) : List (Nat × Value) := (List.range L.length).filterMap (fun j => match L[j]? with | some v => if am_isU v = true then none else some (j, am_cv ad v) | none => none)
theorem am_lv_mem {ad : Nat → Value} {L : List Value} {j : Nat} {w : Value} : (j, w) ∈ am_lv ad L ↔ ∃ v, L[j]? = some v ∧ am_isU v = false ∧ w = am_cv ad v := by
  unfold am_lv
  rw [List.mem_filterMap]
  constructor
  · rintro ⟨i, -, hi⟩
    cases hv : L[i]? with
    | none => rw [hv] at hi; simp at hi
    | some v =>
      rw [hv] at hi
      cases hu : am_isU v with
      | true => simp [hu] at hi
      | false =>
        simp [hu] at hi
        obtain ⟨rfl, rfl⟩ := hi
        exact ⟨v, hv, hu, rfl⟩
  · rintro ⟨v, hv, hu, rfl⟩
    refine ⟨j, List.mem_range.mpr (List.getElem?_eq_some_iff.mp hv).1, ?_⟩
    rw [hv]
    simp [hu]
def am_lrel (ad : Nat → Value) (ls : Array Slot) (nL : Nat) (L : List Value) : Prop := lv_has ls nL (am_lv ad L) ∧ L.length = nL
theorem am_lrel.at {ad : Nat → Value} {ls : Array Slot} {nL : Nat} {L : List Value} (h : am_lrel ad ls nL L) {j : Nat} {v : Value} (hv : L[j]? = some v) (hu : am_isU v = false) : ls[j]? = some (.val (am_cv ad v)) :=
  h.1.2.2 (j, am_cv ad v) (am_lv_mem.mpr ⟨v, hv, hu, rfl⟩)
theorem am_lrel.sub {ad : Nat → Value} {ls : Array Slot} {nL : Nat} {L : List Value} {lv : List (Nat × Value)} (h : lv_has ls nL lv) (hL : L.length = nL) (hin : ∀ j v, L[j]? = some v → am_isU v = false → (j, am_cv ad v) ∈ lv) : am_lrel ad ls nL L :=
  ⟨⟨h.1, h.2.1, fun q hq => by
    obtain ⟨j, w⟩ := q
    obtain ⟨v, h1, h2, rfl⟩ := am_lv_mem.mp hq
    exact h.2.2 _ (hin j v h1 h2)⟩, hL⟩
/-- values that are known by M look alike under both maps -/
theorem am_cv_ext {ad ad' : Nat → Value} {M : am_M} (h : ∀ k, ¬ am_tg M k = 0 → ad' k = ad k) {v : Value} (hv : am_okv M v) : am_cv ad' v = am_cv ad v := by
  cases v with
  | ref k => exact h k hv
  | _ => rfl
theorem am_lrel.ext {ad ad' : Nat → Value} {M : am_M} {ls : Array Slot} {nL : Nat} {L : List Value} (h : am_lrel ad ls nL L) (he : ∀ k, ¬ am_tg M k = 0 → ad' k = ad k) (hok : ∀ v ∈ L, am_okv M v) : am_lrel ad' ls nL L :=
  am_lrel.sub h.1 h.2 fun j v h1 h2 => by
    rw [am_cv_ext he (hok v (List.mem_of_getElem? h1))]
    exact am_lv_mem.mpr ⟨v, h1, h2, rfl⟩
theorem am_cv_cat {ad : Nat → Value} {M : am_M} (h7 : ∀ k, ¬ am_tg M k = 0 → (∃ a, ad k = .ref a) ∨ ad k = .null) {v : Value} (hv : am_okv M v) : (am_cv ad v).category = v.category := by
  cases v with
  | ref k =>
    show (ad k).category = 1
    rcases h7 k hv with ⟨a, e⟩ | e <;> rw [e] <;> rfl
  | _ => rfl
theorem am_cat_cv {ad : Nat → Value} {M : am_M} (h7 : ∀ k, ¬ am_tg M k = 0 → (∃ a, ad k = .ref a) ∨ ad k = .null) : ∀ {l : List Value}, (∀ v ∈ l, am_okv M v) → ((l.map (am_cv ad)).map fun v => v.category).sum = am_cat l := by
  intro l
  induction l with
  | nil => intro _; rfl
  | cons v l ih =>
    intro h
    have h1 := ih (fun x hx => h x (List.mem_cons_of_mem _ hx))
    unfold am_cat at h1 ⊢
    simp only [List.map_cons, List.sum_cons]
    rw [h1, am_cv_cat h7 (h v List.mem_cons_self)]
theorem am_st_len (L : List Value) (i : Nat) (v : Value) : (am_st L i v).length = L.length := by
  unfold am_st
  cases i with
  | zero => simp
  | succ j =>
    simp only
    split <;> simp
theorem am_st_at {L : List Value} {i j : Nat} {v w : Value} (h : (am_st L i v)[j]? = some w) (hu : am_isU w = false) : (j = i ∧ w = v) ∨ (j ≠ i ∧ L[j]? = some w ∧ (j + 1 = i → w.category = 1)) := by
  by_cases hj : j = i
  · left
    refine ⟨hj, ?_⟩
    subst hj
    have hl : j < (am_st L j v).length := (List.getElem?_eq_some_iff.mp h).1
    rw [am_st_len] at hl
    cases j with
    | zero =>
      simp only [am_st] at h
      rw [List.getElem?_set_self hl] at h
      exact (Option.some.inj h).symm
    | succ j =>
      simp only [am_st] at h
      rw [List.getElem?_set_self (by split <;> simpa using hl)] at h
      exact (Option.some.inj h).symm
  · right
    refine ⟨hj, ?_⟩
    cases i with
    | zero =>
      simp only [am_st] at h
      rw [List.getElem?_set_ne (Ne.symm hj)] at h
      exact ⟨h, fun e => by omega⟩
    | succ i =>
      simp only [am_st] at h
      rw [List.getElem?_set_ne (Ne.symm hj)] at h
      by_cases hji : j = i
      · subst hji
        split at h
        · rename_i x hx
          rw [List.getElem?_set_self (List.getElem?_eq_some_iff.mp hx).1] at h
          cases h; cases hu
        · rename_i x hx
          rw [List.getElem?_set_self (List.getElem?_eq_some_iff.mp hx).1] at h
          cases h; cases hu
        · rename_i h1 h2
          refine ⟨h, fun _ => ?_⟩
          cases w with
          | long x => exact absurd h (h1 x)
          | double x => exact absurd h (h2 x)
          | _ => rfl
      · have hne : i ≠ j := Ne.symm hji
        split at h
        · rw [List.getElem?_set_ne hne] at h
          exact ⟨h, fun e => absurd (by omega) hji⟩
        · rw [List.getElem?_set_ne hne] at h
          exact ⟨h, fun e => absurd (by omega) hji⟩
        · exact ⟨h, fun e => absurd (by omega) hji⟩
theorem am_lrel.st {ad : Nat → Value} {M : am_M} (h7 : ∀ k, ¬ am_tg M k = 0 → (∃ a, ad k = .ref a) ∨ ad k = .null) {ls' : Array Slot} {nL i : Nat} {L : List Value} {v : Value} (hL : L.length = nL) (hok : ∀ v ∈ L, am_okv M v)
    (h : lv_has ls' nL ((i, am_cv ad v) :: (am_lv ad L).filter (fun q => !(q.1 == i) && !(q.1 + 1 == i && q.2.category == 2)))) : am_lrel ad ls' nL (am_st L i v) := by
  refine am_lrel.sub h (by rw [am_st_len]; exact hL) fun j w h1 h2 => ?_
  rcases am_st_at h1 h2 with ⟨rfl, rfl⟩ | ⟨hne, h3, h4⟩
  · exact List.mem_cons_self
  · refine List.mem_cons_of_mem _ (List.mem_filter.mpr ⟨am_lv_mem.mpr ⟨w, h3, h2, rfl⟩, ?_⟩)
    have hc := am_cv_cat h7 (hok w (List.mem_of_getElem? h3))
    have h5 : (j == i) = false := by simpa using hne
    by_cases hj : j + 1 = i
    · have hw := h4 hj
      simp [h5, hc, hw]
    · simp [h5, hj]
theorem am_lrel.st2 {ad : Nat → Value} {M : am_M} (h7 : ∀ k, ¬ am_tg M k = 0 → (∃ a, ad k = .ref a) ∨ ad k = .null) {ls' : Array Slot} {nL i : Nat} {L : List Value} {v : Value} (hL : L.length = nL) (hok : ∀ v ∈ L, am_okv M v)
    (h : lv_has ls' nL ((i, am_cv ad v) :: (am_lv ad L).filter (fun q => !(q.1 == i) && (!(q.1 == i + 1) && !(q.1 + 1 == i && q.2.category == 2))))) : am_lrel ad ls' nL (am_st2 L i v) := by
  refine am_lrel.sub h (by unfold am_st2; rw [List.length_set, am_st_len]; exact hL) fun j w h1 h2 => ?_
  unfold am_st2 at h1
  by_cases hj1 : j = i + 1
  · subst hj1
    have hl : i + 1 < ((am_st L i v).set (i + 1) am_U).length := (List.getElem?_eq_some_iff.mp h1).1
    rw [List.getElem?_set_self (by simpa using hl)] at h1
    cases h1; cases h2
  · rw [List.getElem?_set_ne (Ne.symm hj1)] at h1
    rcases am_st_at h1 h2 with ⟨rfl, rfl⟩ | ⟨hne, h3, h4⟩
    · exact List.mem_cons_self
    · refine List.mem_cons_of_mem _ (List.mem_filter.mpr ⟨am_lv_mem.mpr ⟨w, h3, h2, rfl⟩, ?_⟩)
      have hc := am_cv_cat h7 (hok w (List.mem_of_getElem? h3))
      have h5 : (j == i) = false := by simpa using hne
      have h6 : (j == i + 1) = false := by simpa using hj1
      by_cases hj : j + 1 = i
      · have hw := h4 hj
        simp [h5, h6, hc, hw]
      · simp [h5, h6, hj]
theorem am_ok_st {M : am_M} {L : List Value} {i : Nat} {v : Value} (hL : ∀ v ∈ L, am_okv M v) (hv : am_okv M v) : ∀ w ∈ am_st L i v, am_okv M w := by
  intro w hw
  by_cases hu : am_isU w = true
  · cases w with
    | float x => trivial
    | _ => cases hu
  · obtain ⟨j, hj⟩ := List.getElem?_of_mem hw
    rcases am_st_at hj (by simpa using hu) with ⟨-, rfl⟩ | ⟨-, h, -⟩
    · exact hv
    · exact hL w (List.mem_of_getElem? h)
theorem am_ok_st2 {M : am_M} {L : List Value} {i : Nat} {v : Value} (hL : ∀ v ∈ L, am_okv M v) (hv : am_okv M v) : ∀ w ∈ am_st2 L i v, am_okv M w := by
  intro w hw
  unfold am_st2 at hw
  rcases List.mem_or_eq_of_mem_set hw with h | h
  · exact am_ok_st hL hv w h
  · rw [h]; trivial
/-- the entry -/
theorem am_ent_go {ad : Nat → Value} {M : am_M} (h7 : ∀ k, ¬ am_tg M k = 0 → (∃ a, ad k = .ref a) ∨ ad k = .null) : ∀ (as : List Value) (i : Nat), (∀ v ∈ as, am_okv M v ∧ (∀ x, v ≠ .double x)) → ∀ j v, (as.flatMap am_w2)[j]? = some v → am_isU v = false → (i + j, am_cv ad v) ∈ lv_args i (as.map (am_cv ad)) := by
  intro as
  induction as with
  | nil => intro i _ j v h; simp at h
  | cons x as ih =>
    intro i hok j v h hu
    have hx := hok x List.mem_cons_self
    have hc := am_cv_cat h7 hx.1
    rw [List.map_cons]
    unfold lv_args
    rw [hc]
    rw [List.flatMap_cons] at h
    by_cases h2 : x.category = 2
    · obtain ⟨z, rfl⟩ : ∃ z, x = .long z := by
        cases x with
        | long z => exact ⟨z, rfl⟩
        | double z => exact absurd rfl (hx.2 z)
        | _ => cases h2
      rw [show am_w2 (.long z) = [.long z, am_U] from rfl] at h
      rw [if_pos h2]
      match j, h with
      | 0, h => simp at h; subst h; exact List.mem_cons_self
      | 1, h => simp at h; subst h; cases hu
      | j + 2, h =>
        refine List.mem_cons_of_mem _ ?_
        have h' := ih (i + 2) (fun v hv => hok v (List.mem_cons_of_mem _ hv)) j v (by simpa using h) hu
        rw [show i + (j + 2) = i + 2 + j by omega]
        exact h'
    · have hm : am_w2 x = [x] := by
        cases x with
        | long z => exact absurd rfl h2
        | _ => rfl
      rw [hm] at h
      rw [if_neg h2]
      match j, h with
      | 0, h => simp at h; subst h; exact List.mem_cons_self
      | j + 1, h =>
        refine List.mem_cons_of_mem _ ?_
        have h' := ih (i + 1) (fun v hv => hok v (List.mem_cons_of_mem _ hv)) j v (by simpa using h) hu
        rw [show i + (j + 1) = i + 1 + j by omega]
        exact h'
theorem am_fl_len (f : Value → List Value) (g : Value → List Slot) (h : ∀ v, (f v).length = (g v).length) : ∀ as : List Value, (as.flatMap f).length = (as.flatMap g).length := by
  intro as
  induction as with
  | nil => rfl
  | cons x as ih => simp only [List.flatMap_cons, List.length_append, ih, h]
theorem am_ent_len {as : List Value} {n : Nat} (h : (as.flatMap am_w2).length ≤ n) : (am_ent n as).length = n := by
  unfold am_ent
  simp only [List.length_append, List.length_replicate]
  omega
theorem am_ent_rel {ad : Nat → Value} {M : am_M} (h7 : ∀ k, ¬ am_tg M k = 0 → (∃ a, ad k = .ref a) ∨ ad k = .null) {as : List Value} {n : Nat} (hok : ∀ v ∈ as, am_okv M v ∧ (∀ x, v ≠ .double x)) (hn : (as.flatMap am_w2).length ≤ n) :
    am_lrel ad ((lg_sl (as.map (am_cv ad)) ++ List.replicate (n - (lg_sl (as.map (am_cv ad))).length) Slot.unset).toArray) n (am_ent n as) := by
  have hlen : ∀ as : List Value, (∀ v ∈ as, am_okv M v ∧ (∀ x, v ≠ .double x)) → (lg_sl (as.map (am_cv ad))).length = (as.flatMap am_w2).length := by
    intro as
    induction as with
    | nil => intro _; rfl
    | cons x as ih =>
      intro hok
      have hx := hok x List.mem_cons_self
      have hc := am_cv_cat h7 hx.1
      have h1 := ih (fun v hv => hok v (List.mem_cons_of_mem _ hv))
      unfold lg_sl at h1 ⊢
      simp only [List.map_cons, List.flatMap_cons, List.length_append, h1, hc]
      congr 1
      cases x with
      | double z => exact absurd rfl (hx.2 z)
      | _ => rfl
  have hl := hlen as hok
  refine am_lrel.sub (lv_entry (as.map (am_cv ad)) (by rw [hl]; exact hn)) (am_ent_len hn) fun j v h hu => ?_
  unfold am_ent at h
  by_cases hj : j < (as.flatMap am_w2).length
  · rw [List.getElem?_append_left hj] at h
    have h' := am_ent_go h7 as 0 hok j v h hu
    rw [Nat.zero_add] at h'
    exact h'
  · rw [List.getElem?_append_right (by omega)] at h
    rw [List.getElem?_replicate] at h
    split at h
    · cases h; cases hu
    · cases h
theorem am_ent_ok {M : am_M} {as : List Value} {n : Nat} (hok : ∀ v ∈ as, am_okv M v) : ∀ v ∈ am_ent n as, am_okv M v := by
  intro v hv
  unfold am_ent at hv
  rcases List.mem_append.mp hv with h | h
  · obtain ⟨x, hx, h⟩ := List.mem_flatMap.mp h
    have h0 := hok x hx
    cases x with
    | long z =>
      rcases List.mem_cons.mp h with h | h
      · rw [h]; trivial
      · rw [List.mem_singleton.mp h]; trivial
    | _ => rw [List.mem_singleton.mp h]; exact h0
  · rw [List.eq_of_mem_replicate h]; trivial
