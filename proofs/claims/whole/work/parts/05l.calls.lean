theorem am_okv_le {M M' : am_M} (h : am_le M M') {v : Value} (hv : am_okv M v) : am_okv M' v := by
  cases v with
  | ref k => show ¬ am_tg M' k = 0; rw [h.1 k hv]; exact hv
  | _ => trivial
theorem am_exc_ne {M : am_M} {k : Nat} (h : k ≠ am_key M 7) : (am_exc M).1 k = M.1 k := by simp [am_exc, va_up, h]
theorem am_exc_eq {M : am_M} : (am_exc M).1 (am_key M 7) = (44, 0, fun _ => 0, fun _ => 0, fun _ => 0) := by simp [am_exc, va_up]
theorem am_rep_exc {D : va_G} {b0 : Nat} {s : State} {ad : Nat → Value} {M : am_M} {H : Heap} {q : Addr} (h : am_rep D b0 s ad M H) (hk : am_tg M (am_key M 7) = 0) : am_rep D b0 s (va_up ad (am_key M 7) (.ref q)) (am_exc M) H := by
  have hle := am_le.exc hk
  obtain ⟨h1, h2, h3, h4, h5, h6, h7⟩ := h
  have hoth : ∀ k, k ≠ am_key M 7 → va_up ad (am_key M 7) (.ref q) k = ad k := fun k hk => by simp [va_up, hk]
  have hne : ∀ k, am_own (am_tg (am_exc M) k) → k ≠ am_key M 7 := by
    intro k hk1 e
    unfold am_tg at hk1
    rw [e, am_exc_eq] at hk1
    unfold am_own at hk1
    simp only at hk1
    omega
  refine ⟨fun k e => ?_, fun k e => ?_, fun k e => ?_, fun k e => ?_, fun k ci r e1 e2 => ?_, fun k k' e1 e2 e3 => ?_, fun k e => ?_⟩
  · have hq := hne k (by rw [e]; exact Or.inl (by omega))
    unfold am_tg at e; unfold am_ln am_I; rw [am_exc_ne hq] at e ⊢; rw [hoth k hq]; exact h1 k e
  · have hq := hne k (by rw [e]; exact Or.inl (by omega))
    unfold am_tg at e; unfold am_ln am_I; rw [am_exc_ne hq] at e ⊢; rw [hoth k hq]; exact h2 k e
  · have hq := hne k (by rw [e]; exact Or.inl (by omega))
    unfold am_tg at e; unfold am_ln am_J; rw [am_exc_ne hq] at e ⊢; rw [hoth k hq]; exact h3 k e
  · have hq := hne k (by rw [e]; exact Or.inl (by omega))
    unfold am_tg at e; unfold am_ln am_R; rw [am_exc_ne hq] at e ⊢; rw [hoth k hq]
    obtain ⟨q1, q2⟩ := h4 k e
    refine ⟨?_, fun j => am_okv_le hle (q2 j)⟩
    have hf : (fun j => am_cv (va_up ad (am_key M 7) (.ref q)) (am_rv ((M.1 k).2.2.2.2 j))) = (fun j => am_cv ad (am_rv (am_R M k j))) := by
      funext j; exact am_cv_up hk (q2 j)
    rw [hf]; exact q1
  · have hci : ci < 10 := (List.getElem?_eq_some_iff.mp e2).1
    have hq := hne k (by rw [e1]; exact Or.inr (by omega))
    unfold am_tg at e1; rw [am_exc_ne hq] at e1
    obtain ⟨⟨a, y1, y2, y3⟩, y4⟩ := h5 k ci r e1 e2
    refine ⟨⟨a, by rw [hoth k hq]; exact y1, y2, ?_⟩, fun j => by unfold am_R; rw [am_exc_ne hq]; exact am_okv_le hle (y4 j)⟩
    have hf : am_fv (va_up ad (am_key M 7) (.ref q)) (am_exc M) k ci = am_fv ad M k ci := by
      funext j
      unfold am_fv am_R am_I; rw [am_exc_ne hq]
      have hcv := am_cv_up (ad := ad) (x := .ref q) hk (y4 j)
      unfold am_R at hcv; rw [hcv]
    rw [hf]; exact y3
  · have hq := hne k e1
    have hq' := hne k' e2
    unfold am_tg at e1 e2
    rw [am_exc_ne hq] at e1; rw [am_exc_ne hq'] at e2
    rw [hoth k hq, hoth k' hq'] at e3
    exact h6 k k' e1 e2 e3
  · by_cases hq : k = am_key M 7
    · rw [hq]; exact Or.inl ⟨q, by simp [va_up]⟩
    · unfold am_tg at e; rw [am_exc_ne hq] at e; rw [hoth k hq]; exact h7 k e
theorem am_xt_exc {K : am_K} {ad : Nat → Value} {M : am_M} {x : Value} (h : am_xt K ad M) (hk : am_tg M (am_key M 7) = 0) : am_xt K (va_up ad (am_key M 7) x) (am_exc M) := by
  refine h.go (fun k' e => ?_) (fun k' e => ?_)
  · have hq : k' ≠ am_key M 7 := fun q => by rw [q, hk] at e; omega
    exact ⟨by simp [va_up, hq], am_exc_ne hq⟩
  · by_cases hq : k' = am_key M 7
    · unfold am_tg at e; rw [hq, am_exc_eq] at e; simp only at e; omega
    · unfold am_tg; rw [am_exc_ne hq]
def am_Qc (K : am_K) (D : va_G) (ad0 : Nat → Value) (M0 M1 : am_M) (o : am_O) : Array Value → State → Outcome → State → Prop := fun _ st oc t =>
  ∃ (v : Option Value) (ad' : Nat → Value), o = .inl v ∧ (∀ k, ¬ am_tg M0 k = 0 → ad' k = ad0 k) ∧ oc = .returned (v.map (am_cv ad')) ∧ (∀ x, v = some x → am_okv M1 x) ∧ am_rep D (am_b0 K) t ad' M1 t.heap ∧ am_xt K ad' M1 ∧ va_F (am_A (am_b0 K)) st t
def am_XC (K : am_K) (D : va_G) (ad0 : Nat → Value) (M0 M1 : am_M) (o : am_O) : String → State → State → Prop := fun E st t =>
  ∃ (a : Nat) (ad' : Nat → Value), o = .inr a ∧ E = am_xn a ∧ (∀ k, ¬ am_tg M0 k = 0 → ad' k = ad0 k) ∧ am_rep D (am_b0 K) t ad' M1 t.heap ∧ am_xt K ad' M1 ∧ va_F (am_A (am_b0 K)) st t
def am_Pc (K : am_K) (D : va_G) (ad : Nat → Value) (M : am_M) (as : List Value) : Array Value → State → Prop := fun v U =>
  v = (as.map (am_cv ad)).toArray ∧ am_rep D (am_b0 K) U ad M U.heap ∧ am_xt K ad M ∧ am_E K U ∧ va_K D vwCl [] U ∧ am_b0 K ≤ U.heap.size
theorem am_Pc_blind {K : am_K} {D : va_G} {ad : Nat → Value} {M : am_M} {as : List Value} : FrameBlind (am_Pc K D ad M as) := by
  intro a U g mk h
  obtain ⟨h1, h2, h3, h4, h5, h6⟩ := h
  exact ⟨h1, am_rep.moved (u := U) (U := U.calling g mk a) (Vm.Alike.refl U.vm) h2, h3, am_E.go (u := U) (U := U.calling g mk a) (State.WarmedH.refl U) (fun _ _ _ => rfl) h4, va_K.moved (u := U) (U := U.calling g mk a) (Vm.Alike.refl U.vm) h5, h6⟩
section AL
variable {K : am_K} {D : va_G} {p : Program} {l : Launch} {e : Env} {R : Room} {s : State} {m : MethodId} {args : Array Value} {below : List Frame} {meth : Method} {c : Code} {own : String} {ini : Bool} {cc : ByteArray} {nL d : Nat}
variable {ad : Nat → Value} {M : am_M} {H : Heap} {locs : List Loc} {ls : Array Slot} {L st : List Value} {cells slots : Nat} {Q : State → Prop} {pc : Nat} {rest : List Value}
/-- behind a call -/
theorem am_after {M1 : am_M} {o : am_O} {mc1 ms1 : Nat} {st0 : List Value} {a : Array Value} (hS : va_S (am_A (am_b0 K)) s.heap H locs)
    (hr : vx_Run p l e R s m args below meth c H locs cells slots mc1 ms1 (F0 m pc ls st0) rest (am_Qc K D ad M M1 o a) (am_XC K D ad M M1 o) (am_A (am_b0 K)))
    (kx : ∀ (x : Nat) (ad' : Nat → Value) (H1 : Heap) (locs1 : List Loc) (q : Addr) (ce : Cell), o = .inr x → (∀ k, ¬ am_tg M k = 0 → ad' k = ad k) → am_rep D (am_b0 K) s ad' M1 H1 → am_xt K ad' M1 → va_S (am_A (am_b0 K)) s.heap H1 locs1 → H1[q]? = some ce → ce.vm = .none → s.vm.findClass (am_xn x) = some ce.cls →
      vx_W p l e R s m args below meth c H1 locs1 (cells + mc1) (slots + ms1) Q (F0 m pc ls rest) q)
    (kk : ∀ (v : Option Value) (ad' : Nat → Value) (H1 : Heap) (locs1 : List Loc), o = .inl v → (∀ k, ¬ am_tg M k = 0 → ad' k = ad k) → (∀ x, v = some x → am_okv M1 x) → am_rep D (am_b0 K) s ad' M1 H1 → am_xt K ad' M1 → va_S (am_A (am_b0 K)) s.heap H1 locs1 →
      W p l e R s m args below meth c H1 locs1 (cells + mc1) (slots + ms1) Q (F0 m (pc + 3) ls ((v.map (am_cv ad')).toList ++ rest))) :
    W p l e R s m args below meth c H locs cells slots Q (F0 m pc ls st0) := by
  intro T hT X
  rcases hr T hT X with ⟨v, st₀, t, T', L9, h0, X', hL, e1, e2, hQ, st9⟩ | ⟨q, st₀, t, T', L9, E, ce, h0, X', hL, e1, e2, hX, hce, hcv, hcl, st9⟩
  · obtain ⟨v', ad', ho, hext, hv, hok, hrep, hxt, hF⟩ := hQ
    cases hv
    obtain ⟨k1, k2, k3⟩ := vx_keep h0 e1 hS (fun _ _ h => h) (fun _ h => h) hL hF
    have hvm : t.vm.Alike s.vm := by rw [← e2]; exact X'.warmed.alike.symm
    have hrep' := am_rep.moved hvm hrep
    rw [← e1] at hrep'
    obtain ⟨t2, a1, b1⟩ := kk v' ad' T'.heap (locs ++ L9) ho hext hok hrep' hxt k3 T' rfl X'
    exact ⟨t2, st9 t2 a1, b1⟩
  · obtain ⟨x, ad', ho, hE, hext, hrep, hxt, hF⟩ := hX
    obtain ⟨k1, k2, k3⟩ := vx_keep h0 e1 hS (fun _ _ h => h) (fun _ h => h) hL hF
    have hvm : t.vm.Alike s.vm := by rw [← e2]; exact X'.warmed.alike.symm
    have hrep' := am_rep.moved hvm hrep
    rw [← e1] at hrep'
    obtain ⟨t2, a1, b1⟩ := kx x ad' T'.heap (locs ++ L9) q ce ho hext hrep' hxt k3 (by rw [e1]; exact hce) hcv (by rw [← hE]; exact hcl) T' rfl X'
    exact ⟨t2, st9.trans a1, b1⟩
/-- an answer -/
theorem am_fin {ad0 : Nat → Value} {M0 : am_M} {v : Option Value} (hn : am_now K D s nL ad M H locs ls L st) (hext : ∀ k, ¬ am_tg M0 k = 0 → ad k = ad0 k) (hv : ∀ x, v = some x → am_okv M x) : ∀ t : State, t.heap = H → s.WarmedH t.vm → am_Qc K D ad0 M0 M (.inl v) args s (.returned (v.map (am_cv ad))) t := by
  intro t ht hW
  refine ⟨v, ad, rfl, hext, rfl, hv, ?_, hn.2.1, hn.2.2.1.F ht⟩
  rw [ht]
  exact am_rep.moved hW.alike hn.1
end AL
