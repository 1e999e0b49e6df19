theorem am_run_le {P : am_P} : ∀ (n d g y pc : Nat) (L st : List Value) (M : am_M) (o : am_O) (M' : am_M), am_run P n d g y pc L st M = some (o, M') → am_le M M' := by
  intro n
  induction n with
  | zero => intro d g y pc L st M o M' h; cases h
  | succ n ih =>
    intro d g y pc L st M o M' h
    unfold am_run at h
    split at h
    · cases h
    · split at h
      · split at h
        · cases h
        · rename_i hs
          exact (am_step_le hs).tr (ih _ _ _ _ _ _ _ _ _ h)
      · split at h
        · split at h
          · cases h
          · cases h; exact am_le.rf _
        · split at h
          · split at h
            · cases h; exact am_le.thr
            · cases h
          · split at h
            · cases h
            · split at h
              · cases h
              · split at h
                · split at h
                  · cases h
                  · rename_i hr
                    exact (ih _ _ _ _ _ _ _ _ _ hr).tr (ih _ _ _ _ _ _ _ _ _ h)
                  · rename_i hr
                    split at h
                    · cases h
                    · cases h; exact ih _ _ _ _ _ _ _ _ _ hr
                    · split at h
                      · rename_i hx
                        exact ((ih _ _ _ _ _ _ _ _ _ hr).tr (am_le.exc hx)).tr (ih _ _ _ _ _ _ _ _ _ h)
                      · cases h
                · cases h
/-- what the program's table says of a method in the JVM: its name, its bytes, its answer's type, its handlers -/
abbrev am_Yt : Type := MethodName × ByteArray × Option FieldType × List (Nat × Nat × Nat × Nat)
def am_xn (a : Nat) : String := match a with
  | 0 => "java/lang/IllegalStateException" | 1 => "java/lang/IllegalArgumentException" | 2 => "java/lang/IndexOutOfBoundsException" | _ => "java/util/NoSuchElementException"
def am_names : List String := ["java/lang/RuntimeException", "java/lang/Exception"]
def am_cw (P : am_P) (Y : Nat → am_Yt) (y : Nat) : Jvm.Cond := match (Y y).2.2.2 with
  | [] => .code (Y y).1 (Y y).2.1 (P y).2.2.1 (Y y).2.2.1
  | h :: hh => .codeWith (Y y).1 (Y y).2.1 (P y).2.2.1 (Y y).2.2.1 (h :: hh)
def am_rk (rk : Nat) (rt : Option FieldType) : Prop := match rk with
  | 0 => rt = none | 1 => rt = some .int | 2 => rt = some .long | 3 => ∃ n, rt = some (.object n) | 4 => rt = some .boolean | 5 => rt = some .char | 6 => rt = some .byte | _ => False
/-- the receiver's class -/
def am_rc1 (f : am_F) (cls : String) : Prop := (∃ ci T N, vwCl[ci]? = some (cls, T, N) ∧ f.2.2.2.2.1 = 10 + ci) ∨ (cls = "java/lang/String" ∧ f.2.2.2.2.1 = 40)
def am_pn (yn : MethodName) (n : Nat) : Prop := (parseMethodDescriptor yn.desc).map (fun d => d.parameters.length) = some n
def am_call (P : am_P) (Y : Nat → am_Yt) (ns : List Jvm.Cond) (own : String) (i : Instr) (kd a b : Nat) : Prop :=
  (∃ idx n, kd = 102 ∧ i = .invokevirtual idx ∧ b = n + 1 ∧ am_pn (Y a).1 n ∧ am_rc1 (P a) (Y a).1.cls ∧ Jvm.Cond.methodLink own idx (Y a).1 ∈ am_W ∧ Jvm.Cond.instanceMethod (Y a).1 ∈ am_W ∧ Jvm.Cond.selects (Y a).1.cls (Y a).1 (Y a).1 ∈ am_W ∧ (Y a).2.2.2 = []) ∨
  (∃ idx, kd = 103 ∧ i = .invokestatic idx ∧ am_pn (Y a).1 b ∧ (P a).2.2.2.2.1 = 0 ∧ Jvm.Cond.methodLink own idx (Y a).1 ∈ am_W ∧ Jvm.Cond.static (Y a).1 ∈ am_W) ∨
  (∃ idx n, kd = 104 ∧ i = .invokespecial idx ∧ b = n + 1 ∧ am_pn (Y a).1 n ∧ am_rc1 (P a) (Y a).1.cls ∧ (Y a).1.name = "<init>" ∧ (Y a).2.2.1 = none ∧ Jvm.Cond.methodLink own idx (Y a).1 ∈ am_W ∧ Jvm.Cond.instanceMethod (Y a).1 ∈ am_W ∧ (Y a).2.2.2 = []) ∨
  (∃ idx host, kd = 105 ∧ i = .invokestatic idx ∧ am_pn (Y a).1 b ∧ (P a).2.2.2.2.1 = 0 ∧ Jvm.Cond.methodLinkNest own idx (Y a).1 host ∈ ns ∧ Jvm.Cond.static (Y a).1 ∈ am_W ∧ (Y a).2.2.2 = []) ∨
  (∃ idx host n, kd = 106 ∧ i = .invokespecial idx ∧ b = n + 1 ∧ am_pn (Y a).1 n ∧ am_rc1 (P a) (Y a).1.cls ∧ (Y a).1.name = "<init>" ∧ (Y a).2.2.1 = none ∧ Jvm.Cond.methodLinkNest own idx (Y a).1 host ∈ ns ∧ Jvm.Cond.instanceMethod (Y a).1 ∈ am_W ∧ (Y a).2.2.2 = [])
def am_throw (ns : List Jvm.Cond) (own : String) (cc : ByteArray) (pc : Nat) (i : Instr) (a : Nat) : Prop :=
  ∃ ik ic, i = .new ik ∧ decode cc (pc + 3) = .ok (.dup, 1) ∧ decode cc (pc + 4) = .ok (.invokespecial ic, 3) ∧ decode cc (pc + 7) = .ok (.athrow, 1) ∧
    Jvm.Cond.classLink own ik (am_xn a) ∈ am_W ∧ Jvm.Cond.initialized (am_xn a) ∈ am_W ∧ (∀ w ∈ (vx_at0 own ic (am_xn a) am_names).filter goodWord, w ∈ am_W) ∧ (∀ w ∈ (vx_at0 own ic (am_xn a) am_names).filter (fun w => !goodWord w), w ∈ ns) ∧
    (∀ w ∈ Jvm.Cond.classLink own ik (am_xn a) :: Jvm.Cond.initialized (am_xn a) :: vx_at0 own ic (am_xn a) am_names, vx_ot w = true)
/-- where an exception goes -/
def am_hnd (ns : List Jvm.Cond) (nc : List (String × String)) (own : String) (hh : List (Nat × Nat × Nat × Nat)) (pc E : Nat) (r : Option Nat) : Prop := match r with
  | none => ∀ z ∈ tableOf hh, covers z pc = false ∨ (z.catchType ≠ 0 ∧ ∃ nm : String, Jvm.Cond.classLink own z.catchType nm ∈ am_W ∧ (am_xn E, nm) ∈ nc)
  | some h => ∃ pre x suf name, tableOf hh = pre ++ x :: suf ∧ covers x pc = true ∧ x.catchType ≠ 0 ∧ x.handlerPc = h ∧ Jvm.Cond.classLink own x.catchType name ∈ am_W ∧ Jvm.Cond.castable (am_xn E) name ∈ ns ∧
      ∀ z ∈ pre, covers z pc = false ∨ (z.catchType ≠ 0 ∧ ∃ nm : String, Jvm.Cond.classLink own z.catchType nm ∈ am_W ∧ (am_xn E, nm) ∈ nc)
def am_good (P : am_P) (Y : Nat → am_Yt) (V : Nat → Prop) (sr : am_SR) (ns : List Jvm.Cond) (nc : List (String × String)) : Prop := ∀ y, V y →
  am_cw P Y y ∈ am_W ∧ plainName (Y y).1.cls = true ∧ Jvm.Cond.initialized (Y y).1.cls ∈ am_W ∧ ((Y y).1.cls ≠ "java/lang/invoke/MethodHandle" ∧ (Y y).1.cls ≠ "java/lang/invoke/VarHandle") ∧ (P y).2.2.1 ≤ 9 ∧ am_rk (P y).2.2.2.1 (Y y).2.2.1 ∧
  (∀ pc i kd a b, (P y).1 pc = some (i, kd, a, b) → decode (Y y).2.1 pc = .ok (i, am_len pc i) ∧
    (kd < 100 → am_op sr (Y y).1.cls (decide ((Y y).1.name = "<init>")) pc i kd a b) ∧
    (kd = 100 → i = (match (P y).2.2.2.1 with | 0 => .return_ | 2 => .lreturn | 3 => .areturn | _ => .ireturn)) ∧
    (kd = 101 → am_throw ns (Y y).1.cls (Y y).2.1 pc i a ∧ (Y y).2.2.2 = []) ∧
    (102 ≤ kd → V a ∧ am_call P Y ns (Y y).1.cls i kd a b)) ∧
  (∀ pc E r, (P y).2.1 pc E = some r → am_hnd ns nc (Y y).1.cls (Y y).2.2.2 pc E r)
