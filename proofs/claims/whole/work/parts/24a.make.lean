/-! making objects: a row of new cells at B on top of T -/
abbrev gL : Type := List (Nat × Nat × (Nat → Nat))
def gM (T : gT) (g : Nat) (l : gL) (w : Nat) : gT := (fun k' => if g * 100000 + T.2.1 g ≤ k' then (match l[k' - (g * 100000 + T.2.1 g)]? with | some x => x | none => T.1 k') else T.1 k', va_up T.2.1 g (T.2.1 g + l.length), T.2.2.1 + l.length, T.2.2.2 + w)
def gMf : gL → Nat → (Nat × Nat × (Nat → Nat) → Nat × Nat × (Nat → Nat)) → gL
  | [], _, _ => []
  | x :: r, 0, f => f x :: r
  | x :: r, i + 1, f => x :: gMf r i f
theorem gMf_set : ∀ (l : gL) (i : Nat) (f : Nat × Nat × (Nat → Nat) → Nat × Nat × (Nat → Nat)) (h : i < l.length), gMf l i f = l.set i (f l[i])
  | x :: r, 0, f, h => rfl
  | x :: r, i + 1, f, h => congrArg (x :: ·) (gMf_set r i f (Nat.lt_of_succ_lt_succ h))
def gMs (l : gL) (i j q : Nat) : gL := gMf l i fun x => (x.1, x.2.1, va_up x.2.2 j q)
theorem gM_nx {T : gT} {g w : Nat} {l : gL} : (gM T g l w).2.1 g = T.2.1 g + l.length := by
  unfold gM va_up
  simp
theorem gM_get {T : gT} {g w B i : Nat} {l : gL} {x : Nat × Nat × (Nat → Nat)} (hB : B = g * 100000 + T.2.1 g) (h : l[i]? = some x) : (gM T g l w).1 (B + i) = x := by
  subst hB
  unfold gM
  dsimp only
  rw [if_pos (by omega), show g * 100000 + T.2.1 g + i - (g * 100000 + T.2.1 g) = i by omega, h]
theorem gM_tag {T : gT} {g w B i t : Nat} {l : gL} (hB : B = g * 100000 + T.2.1 g) (h : (l[i]?.map fun x => x.1) = some t) : ((gM T g l w).1 (B + i)).1 = t := by
  cases e : l[i]? with
  | none => rw [e] at h; cases h
  | some x => rw [gM_get hB e]; rw [e] at h; exact Option.some.inj h
theorem gM_len {T : gT} {g w B i t : Nat} {l : gL} (hB : B = g * 100000 + T.2.1 g) (h : (l[i]?.map fun x => x.2.1) = some t) : ((gM T g l w).1 (B + i)).2.1 = t := by
  cases e : l[i]? with
  | none => rw [e] at h; cases h
  | some x => rw [gM_get hB e]; rw [e] at h; exact Option.some.inj h
theorem gM_ref {T : gT} {g w B i j t : Nat} {l : gL} (hB : B = g * 100000 + T.2.1 g) (h : (l[i]?.map fun x => x.2.2 j) = some t) : ((gM T g l w).1 (B + i)).2.2 j = t := by
  cases e : l[i]? with
  | none => rw [e] at h; cases h
  | some x => rw [gM_get hB e]; rw [e] at h; exact Option.some.inj h
theorem gM_out {T : gT} {g w k : Nat} {l : gL} (h : k < g * 100000 + T.2.1 g ∨ g * 100000 + T.2.1 g + l.length ≤ k) : (gM T g l w).1 k = T.1 k := by
  unfold gM
  dsimp only
  by_cases e : g * 100000 + T.2.1 g ≤ k
  · rw [if_pos e, List.getElem?_eq_none (by omega)]
  · rw [if_neg e]
theorem gM_nil {T : gT} {g : Nat} : gM T g [] 0 = T := by
  unfold gM
  refine Prod.ext (funext fun k => ?_) (Prod.ext (funext fun k => ?_) rfl)
  · dsimp only
    by_cases e : g * 100000 + T.2.1 g ≤ k
    · rw [if_pos e]; rfl
    · rw [if_neg e]
  · dsimp only [va_up]
    by_cases e : k = g
    · subst e; simp
    · simp [e]
theorem gM_app {T : gT} {g w w2 : Nat} {l l2 : gL} : gM (gM T g l w) g l2 w2 = gM T g (l ++ l2) (w + w2) := by
  refine Prod.ext (funext fun k => ?_) (Prod.ext (funext fun k => ?_) (Prod.ext ?_ ?_))
  · have e0 : (gM T g l w).2.1 g = T.2.1 g + l.length := gM_nx
    show (if g * 100000 + (gM T g l w).2.1 g ≤ k then (match l2[k - (g * 100000 + (gM T g l w).2.1 g)]? with | some x => x | none => (gM T g l w).1 k) else (gM T g l w).1 k) = (if g * 100000 + T.2.1 g ≤ k then (match (l ++ l2)[k - (g * 100000 + T.2.1 g)]? with | some x => x | none => T.1 k) else T.1 k)
    rw [e0]
    by_cases a1 : g * 100000 + T.2.1 g ≤ k
    · rw [if_pos a1]
      by_cases a2 : g * 100000 + (T.2.1 g + l.length) ≤ k
      · rw [if_pos a2, List.getElem?_append_right (by omega), show k - (g * 100000 + T.2.1 g) - l.length = k - (g * 100000 + (T.2.1 g + l.length)) by omega, gM_out (by omega)]
      · rw [if_neg a2, List.getElem?_append_left (by omega)]
        unfold gM
        dsimp only
        rw [if_pos a1]
    · rw [if_neg a1, if_neg (by omega), gM_out (by omega)]
  · show va_up (gM T g l w).2.1 g ((gM T g l w).2.1 g + l2.length) k = va_up T.2.1 g (T.2.1 g + (l ++ l2).length) k
    rw [gM_nx, List.length_append]
    unfold gM va_up
    by_cases e : k = g
    · simp only [if_pos e]; omega
    · simp only [if_neg e]
  · show T.2.2.1 + l.length + l2.length = T.2.2.1 + (l ++ l2).length
    rw [List.length_append]; omega
  · show T.2.2.2 + w + w2 = T.2.2.2 + (w + w2)
    omega
theorem gM_new {T : gT} {g w t n w2 : Nat} {l : gL} : gTn (gM T g l w) g t n w2 = gM T g (l ++ ([(t, n, fun _ => 0)] : gL)) (w + w2) := by
  rw [← gM_app]
  refine Prod.ext (funext fun k => ?_) rfl
  show (if k = g * 100000 + (gM T g l w).2.1 g then ((t, n, fun _ => 0) : Nat × Nat × (Nat → Nat)) else (gM T g l w).1 k) = (if g * 100000 + (gM T g l w).2.1 g ≤ k then (match ([(t, n, fun _ => 0)] : gL)[k - (g * 100000 + (gM T g l w).2.1 g)]? with | some x => x | none => (gM T g l w).1 k) else (gM T g l w).1 k)
  by_cases e : k = g * 100000 + (gM T g l w).2.1 g
  · rw [if_pos e, if_pos (by omega), show k - (g * 100000 + (gM T g l w).2.1 g) = 0 by omega]; rfl
  · rw [if_neg e]
    by_cases e2 : g * 100000 + (gM T g l w).2.1 g ≤ k
    · rw [if_pos e2, List.getElem?_eq_none (by show 1 ≤ _; omega)]
    · rw [if_neg e2]
theorem gM_set {T : gT} {g w B i j q : Nat} {l : gL} (hB : B = g * 100000 + T.2.1 g) (h : i < l.length) : gTr (gM T g l w) (B + i) j q = gM T g (gMs l i j q) w := by
  have e : l[i]? = some l[i] := List.getElem?_eq_getElem h
  have e2 : gMs l i j q = l.set i (l[i].1, l[i].2.1, va_up l[i].2.2 j q) := by
    unfold gMs
    rw [gMf_set _ _ _ h]
  rw [e2]
  refine Prod.ext (funext fun k => ?_) ?_
  · show (if k = B + i then (((gM T g l w).1 (B + i)).1, ((gM T g l w).1 (B + i)).2.1, va_up ((gM T g l w).1 (B + i)).2.2 j q) else (gM T g l w).1 k) = (gM T g (l.set i (l[i].1, l[i].2.1, va_up l[i].2.2 j q)) w).1 k
    rw [gM_get hB e]
    by_cases a : k = B + i
    · rw [if_pos a, a, gM_get hB (by rw [List.getElem?_set_self h])]
    · rw [if_neg a]
      unfold gM
      dsimp only
      by_cases a2 : g * 100000 + T.2.1 g ≤ k
      · rw [if_pos a2, if_pos a2, List.getElem?_set_ne (by omega)]
      · rw [if_neg a2, if_neg a2]
  · unfold gTr gM
    dsimp only
    rw [List.length_set]
section
variable {d g y pc nx a b : Nat} {L r : List Value} {T : gT} {l : gL} {w B : Nat} {c J : gC} {Q : am_O → am_M → Prop}
theorem gM_key (hB : B = g * 100000 + T.2.1 g) : g * 100000 + (gM T g l w).2.1 g = B + l.length := by rw [gM_nx, hB]; omega
theorem gw_mO {i : Nat} (hi : am_at y pc nx (.new i) 0 a b) (hB : B = g * 100000 + T.2.1 g) (n : Nat) (l2 : gL) (w2 : Nat) (hn : l.length = n) (hf : (T.1 (B + n)).1 = 0) (h2 : l ++ [(10 + a, 0, fun _ => 0)] = l2) (h3 : w + b = w2) (h : gw d g y nx L (.ref (B + n) :: r) (gm (gM T g l2 w2) (gz c (B + n)) (gz J (B + n))) Q) : gw d g y pc L r (gm (gM T g l w) c J) Q := by
  have e : g * 100000 + (gM T g l w).2.1 g = B + n := by rw [gM_key hB, hn]
  refine gw_new hi (by rw [e, gM_out (by omega)]; exact hf) ?_
  rw [e, gM_new, h2, h3]
  exact h
theorem gw_mI {z : Int} {m : Nat} (hi : am_at y pc nx (.newarray .int) 0 a b) (hB : B = g * 100000 + T.2.1 g) (n : Nat) (l2 : gL) (w2 : Nat) (hn : l.length = n) (hf : (T.1 (B + n)).1 = 0) (hz : z = (m : Int)) (hm : m ≤ 1000000) (h2 : l ++ [(1, m, fun _ => 0)] = l2) (h3 : w + m = w2) (h : gw d g y nx L (.ref (B + n) :: r) (gm (gM T g l2 w2) (gz c (B + n)) (gz J (B + n))) Q) : gw d g y pc L (gi z :: r) (gm (gM T g l w) c J) Q := by
  have e : g * 100000 + (gM T g l w).2.1 g = B + n := by rw [gM_key hB, hn]
  refine gw_newI hi hz hm (by rw [e, gM_out (by omega)]; exact hf) ?_
  rw [e, gM_new, h2, h3]
  exact h
theorem gw_mB {z : Int} {m : Nat} (hi : am_at y pc nx (.newarray .byte) 0 a b) (hB : B = g * 100000 + T.2.1 g) (n : Nat) (l2 : gL) (w2 : Nat) (hn : l.length = n) (hf : (T.1 (B + n)).1 = 0) (hz : z = (m : Int)) (hm : m ≤ 1000000) (h2 : l ++ [(2, m, fun _ => 0)] = l2) (h3 : w + m = w2) (h : gw d g y nx L (.ref (B + n) :: r) (gm (gM T g l2 w2) (gz c (B + n)) (gz J (B + n))) Q) : gw d g y pc L (gi z :: r) (gm (gM T g l w) c J) Q := by
  have e : g * 100000 + (gM T g l w).2.1 g = B + n := by rw [gM_key hB, hn]
  refine gw_newB hi hz hm (by rw [e, gM_out (by omega)]; exact hf) ?_
  rw [e, gM_new, h2, h3]
  exact h
theorem gw_mL {z : Int} {m : Nat} (hi : am_at y pc nx (.newarray .long) 0 a b) (hB : B = g * 100000 + T.2.1 g) (n : Nat) (l2 : gL) (w2 : Nat) (hn : l.length = n) (hf : (T.1 (B + n)).1 = 0) (hz : z = (m : Int)) (hm : m ≤ 1000000) (h2 : l ++ [(3, m, fun _ => 0)] = l2) (h3 : w + m = w2) (h : gw d g y nx L (.ref (B + n) :: r) (gm (gM T g l2 w2) (gz c (B + n)) (gz J (B + n))) Q) : gw d g y pc L (gi z :: r) (gm (gM T g l w) c J) Q := by
  have e : g * 100000 + (gM T g l w).2.1 g = B + n := by rw [gM_key hB, hn]
  refine gw_newL hi hz hm (by rw [e, gM_out (by omega)]; exact hf) ?_
  rw [e, gM_new, h2, h3]
  exact h
theorem gw_mQ {z : Int} {i m : Nat} (hi : am_at y pc nx (.anewarray i) 0 a b) (hB : B = g * 100000 + T.2.1 g) (n : Nat) (l2 : gL) (w2 : Nat) (hn : l.length = n) (hf : (T.1 (B + n)).1 = 0) (hz : z = (m : Int)) (hm : m ≤ 1000000) (h2 : l ++ [(4, m, fun _ => 0)] = l2) (h3 : w + m = w2) (h : gw d g y nx L (.ref (B + n) :: r) (gm (gM T g l2 w2) (gz c (B + n)) (gz J (B + n))) Q) : gw d g y pc L (gi z :: r) (gm (gM T g l w) c J) Q := by
  have e : g * 100000 + (gM T g l w).2.1 g = B + n := by rw [gM_key hB, hn]
  refine gw_newQ hi hz hm (by rw [e, gM_out (by omega)]; exact hf) ?_
  rw [e, gM_new, h2, h3]
  exact h
theorem gw_mR {k i q : Nat} (l2 : gL) (hi : am_at y pc nx (.putfield k) 1 a b) (hB : B = g * 100000 + T.2.1 g) (ht : (l[i]?.map fun x => x.1) = some (10 + a)) (h2 : gMs l i b (q + 1) = l2) (h : gw d g y nx L r (gm (gM T g l2 w) c J) Q) : gw d g y pc L (.ref q :: .ref (B + i) :: r) (gm (gM T g l w) c J) Q := by
  have hl : i < l.length := by
    cases e : l[i]? with
    | none => rw [e] at ht; cases ht
    | some x => exact (List.getElem?_eq_some_iff.mp e).1
  refine gw_pr hi (gM_tag hB ht) ?_
  rw [gM_set hB hl, h2]
  exact h
end
