section AM9
variable {K : am_K} {D : va_G} {l : Launch} {P : am_P} {Y : Nat → am_Yt} {V : Nat → Prop}
/-- what the walk of a body owes -/
def am_body (K : am_K) (D : va_G) (l : Launch) (P : am_P) (Y : Nat → am_Yt) (n : Nat) (V : Nat → Prop) : Prop := ∀ (d g y pc : Nat) (L st : List Value) (M : am_M) (o : am_O) (M' : am_M), am_run P n d g y pc L st M = some (o, M') → V y →
  ∀ {p : Program} {e : Env} {R : Room} {s : State} {m : MethodId} {args : Array Value} {below : List Frame} {meth : Method} {c : Code} {ad : Nat → Value} {M0 : am_M} {ad0 : Nat → Value} {H : Heap} {locs : List Loc} {ls : Array Slot} {cells slots mc ms : Nat},
    am_ctx K D p l R s m args meth c (Y y).1.cls (decide ((Y y).1.name = "<init>")) (Y y).2.1 (P y).2.2.1 d → c.exceptionTable.toList = tableOf (Y y).2.2.2 → meth.sig.returnType = (Y y).2.2.1 →
    am_now K D s (P y).2.2.1 ad M H locs ls L st → (∀ k, ¬ am_tg M0 k = 0 → ad k = ad0 k) → am_le M0 M → cells + (am_cc M' - am_cc M) = mc → slots + (am_sl M' - am_sl M) = ms → mc ≤ R.cells → ms ≤ R.slots →
    W p l e R s m args below meth c H locs cells slots (vx_MQ below (am_Qc K D ad0 M0 M' o) (am_XC K D ad0 M0 M' o) args s mc ms (am_A (am_b0 K))) (F0 m pc ls (st.map (am_cv ad)))
/-- the contract of a method, out of its body -/
theorem am_met {n : Nat} (hG : am_good P Y V (am_sr K) (am_ns K) (am_nc K)) (hl : l.stackTraces = false) (hB : am_body K D l P Y n V) {d g y : Nat} {as : List Value} {ad : Nat → Value} {M : am_M} {o : am_O} {M' : am_M} (hrun : am_run P n d g y 0 (am_ent (P y).2.2.1 as) [] M = some (o, M')) (hy : V y) (hok : ∀ v ∈ as, am_okv M v ∧ ∀ x, v ≠ .double x) (hlen : (as.flatMap am_w2).length ≤ (P y).2.2.1) :
    vx_Met l (Y y).1 (am_cw P Y y :: am_W) { frames := d + 1, cells := am_cc M' - am_cc M, slots := am_sl M' - am_sl M, locals := 28 * d + 126 } (am_Pc K D ad M as) (am_Qc K D ad M M' o) (am_XC K D ad M M' o) (am_cc M' - am_cc M) (am_sl M' - am_sl M) (am_A (am_b0 K)) := by
  obtain ⟨g1, g2, g3, g4, g5, g6, g7, g8⟩ := hG y hy
  have body : ∀ (p : Program) (e : Env) (s : State) (m : MethodId) (args : Array Value) (below : List Frame) (meth : Method) (c : Code) (s₁ : State) (rm : Room), rm = { frames := d + 1, cells := am_cc M' - am_cc M, slots := am_sl M' - am_sl M, locals := 28 * d + 126 } → BodyLoose p l (Y y).1 (headSpec (am_cw P Y y :: am_W) rm) (Y y).2.1 (P y).2.2.1 (Y y).2.2.1 e s m args below meth c s₁ → c.maxLocals = (P y).2.2.1 → c.exceptionTable.toList = tableOf (Y y).2.2.2 → am_Pc K D ad M as args s →
      W p l e rm s m args below meth c s.heap [] 0 0 (vx_MQ below (am_Qc K D ad M M' o) (am_XC K D ad M M' o) args s (am_cc M' - am_cc M) (am_sl M' - am_sl M) (am_A (am_b0 K))) (entryFrame m args (P y).2.2.1) := by
    intro p e s m args below meth c s₁ rm hrm B hml htab hP
    obtain ⟨rfl, h2, h3, h4, h5, h6⟩ := hP
    subst hrm
    have hts0 := atoms_spec (ws := am_cw P Y y :: am_W) B.pre
    have hctx : am_ctx K D p l { frames := d + 1, cells := am_cc M' - am_cc M, slots := am_sl M' - am_sl M, locals := 28 * d + 126 } s m (as.map (am_cv ad)).toArray meth c (Y y).1.cls (decide ((Y y).1.name = "<init>")) (Y y).2.1 (P y).2.2.1 d :=
      ⟨B.exec, B.bytes, hml, findClass_of_methodNamed B.named, fun w hw => hts0 w (List.mem_cons_of_mem _ hw), h5, h4, h6, Nat.succ_le_succ (Nat.zero_le _), Nat.le_refl _, Nat.le_refl _, B.notSynchronized, hl, fun hi => by
        rw [(name_of_methodNamed B.named B.method).1]; exact of_decide_eq_true hi⟩
    rw [lg_entry_eq]
    have hrel := am_ent_rel h2.2.2.2.2.2.2 hok hlen
    exact hB d g y 0 _ [] M o M' hrun hy hctx htab B.returns ⟨h2, h3, va_S.rf, hrel, am_ent_ok (fun v hv => (hok v hv).1), fun v hv => by cases hv⟩ (fun _ _ => rfl) (am_le.rf M) (Nat.zero_add _) (Nat.zero_add _) (Nat.le_refl _) (Nat.le_refl _)
  cases hh : (Y y).2.2.2 with
  | nil =>
    have hcw : am_cw P Y y = .code (Y y).1 (Y y).2.1 (P y).2.2.1 (Y y).2.2.1 := by unfold am_cw; rw [hh]
    refine vx_ofW (cc := (Y y).2.1) (maxL := (P y).2.2.1) (ret := (Y y).2.2.1) (ws' := am_W) g2 (by rw [hcw]) ?_
    intro p e s m args below meth c s₁ B hml htab hP
    refine body p e s m args below meth c s₁ _ rfl B hml ?_ hP
    rw [hh]
    cases hc : c.exceptionTable.toList with
    | nil => rfl
    | cons z zs => exact (htab z (by rw [hc]; exact List.mem_cons_self)).elim
  | cons z zs =>
    have hcw : am_cw P Y y = .codeWith (Y y).1 (Y y).2.1 (P y).2.2.1 (Y y).2.2.1 (z :: zs) := by unfold am_cw; rw [hh]
    refine vx_ofWH (cc := (Y y).2.1) (maxL := (P y).2.2.1) (ret := (Y y).2.2.1) (ws' := am_W) (hh := z :: zs) g2 (by rw [hcw]) ?_
    intro p e s m args below meth c s₁ B hml hP
    refine body p e s m args below meth c s₁ _ rfl B hml ?_ hP
    have hts0 := atoms_spec (ws := am_cw P Y y :: am_W) B.pre
    have h9 := hts0 _ List.mem_cons_self
    rw [hcw] at h9
    rw [hh]
    exact vx_table (x := (Y y).1) B h9
end AM9
