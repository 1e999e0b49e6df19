/-! decoding through a window: what a short piece of the code shows, the whole code shows -/
def am_win (B S : ByteArray) (s : Nat) : Prop := ∀ (k : Nat) (b : UInt8), S.data.toList[k]? = some b → B.data.toList[s + k]? = some b
def am_winb (B S : ByteArray) (s : Nat) : Bool := decide ((B.data.toList.drop s).take S.data.toList.length = S.data.toList)
theorem am_winb_ok {B S : ByteArray} {s : Nat} (h : am_winb B S s = true) : am_win B S s := by
  intro k b hk
  have h1 := of_decide_eq_true h
  have hl : k < S.data.toList.length := (List.getElem?_eq_some_iff.mp hk).1
  rw [← h1, List.getElem?_take, if_pos hl, List.getElem?_drop] at hk
  exact hk
abbrev am_De (α : Type) : Type := Jvm.ClassFile.Decoder α
theorem am_u1_eq {S : ByteArray} {p : Nat} : (Jvm.ClassFile.Reader.u1 : am_De Nat) S p = (match S.data.toList[p]? with | some b => .ok (b.toNat, p + 1) | none => .error (.truncated p)) := by
  have e : (Jvm.ClassFile.Reader.u1 : am_De Nat) S p = (if h : p < S.size then (do set (p + 1); Pure.pure (S[p]'h).toNat : am_De Nat) else (throw (Jvm.ClassFile.HasTruncated.truncated p) : am_De Nat)) S p := rfl
  rw [e]
  by_cases h : p < S.size
  · have h1 : S.data.toList[p]? = some (S[p]'h) := by
      rw [Array.getElem?_toList]
      exact Array.getElem?_eq_getElem h
    rw [h1, dif_pos h]
    rfl
  · have h1 : S.data.toList[p]? = none := by
      rw [Array.getElem?_toList]
      exact Array.getElem?_eq_none (Nat.le_of_not_lt h)
    rw [h1, dif_neg h]
    rfl
/-- one reading simulates another, s bytes further on -/
def am_sm (B S : ByteArray) (s : Nat) {α : Type} (r r' : am_De α) : Prop := ∀ (p : Nat) (a : α) (q : Nat), r' S p = .ok (a, q) → r B (s + p) = .ok (a, s + q)
theorem am_sm_u1 {B S : ByteArray} {s : Nat} (w : am_win B S s) : am_sm B S s (Jvm.ClassFile.Reader.u1 : am_De Nat) Jvm.ClassFile.Reader.u1 := by
  intro p a q h
  rw [am_u1_eq] at h ⊢
  cases hb : S.data.toList[p]? with
  | none => rw [hb] at h; cases h
  | some b =>
    rw [hb] at h
    rw [w p b hb]
    cases h
    rfl
theorem am_sm_pure {B S : ByteArray} {s : Nat} {α : Type} (a : α) : am_sm B S s (pure a : am_De α) (pure a) := by
  intro p a' q h
  cases h
  rfl
theorem am_bind_eq {S : ByteArray} {p : Nat} {α β : Type} (r : am_De α) (f : α → am_De β) : (r >>= f) S p = (match r S p with | .ok (a, q) => f a S q | .error e => .error e) := by
  show Except.bind (r S p) _ = _
  cases h : r S p with
  | ok v => rfl
  | error e => rfl
theorem am_sm_bind {B S : ByteArray} {s : Nat} {α β : Type} {r r' : am_De α} {f f' : α → am_De β} (h : am_sm B S s r r') (k : ∀ a, am_sm B S s (f a) (f' a)) : am_sm B S s (r >>= f) (r' >>= f') := by
  intro p b q hh
  rw [am_bind_eq] at hh ⊢
  cases hr : r' S p with
  | error e => rw [hr] at hh; cases hh
  | ok v =>
    obtain ⟨a, q1⟩ := v
    rw [hr] at hh
    rw [h p a q1 hr]
    exact k a q1 b q hh
theorem am_sm_map {B S : ByteArray} {s : Nat} {α β : Type} {r r' : am_De α} (f : α → β) (h : am_sm B S s r r') : am_sm B S s (f <$> r) (f <$> r') := am_sm_bind h fun a => am_sm_pure (f a)
section WIN
variable {B S : ByteArray} {s : Nat}
theorem am_sm_u2 (w : am_win B S s) : am_sm B S s (Jvm.ClassFile.Reader.u2 : am_De Nat) Jvm.ClassFile.Reader.u2 := am_sm_bind (am_sm_u1 w) fun _ => am_sm_bind (am_sm_u1 w) fun _ => am_sm_pure _
theorem am_sm_s1 (w : am_win B S s) : am_sm B S s (Jvm.ClassFile.Reader.s1 : am_De Int) Jvm.ClassFile.Reader.s1 := am_sm_map _ (am_sm_u1 w)
theorem am_sm_s2 (w : am_win B S s) : am_sm B S s (Jvm.ClassFile.Reader.s2 : am_De Int) Jvm.ClassFile.Reader.s2 := am_sm_map _ (am_sm_u2 w)
/-- an opcode's own reader -/
def am_so (B S : ByteArray) (s n : Nat) : Prop := ∀ (pc pc' p : Nat) (a : Instr) (q : Nat), (Jvm.ClassFile.Reader.u1 : am_De Nat) S p = .ok (n, p + 1) → (Jvm.ClassFile.Decoder.instr pc') S p = .ok (a, q) → (Jvm.ClassFile.Decoder.instr pc) B (s + p) = .ok (a, s + q)
theorem am_so_of (w : am_win B S s) {n : Nat} (r : am_De Instr) (e : ∀ (pc : Nat) (C : ByteArray) (p : Nat), (Jvm.ClassFile.Reader.u1 : am_De Nat) C p = .ok (n, p + 1) → (Jvm.ClassFile.Decoder.instr pc) C p = r C (p + 1)) (h : am_sm B S s r r) : am_so B S s n := by
  intro pc pc' p a q hu hi
  rw [e pc' S p hu] at hi
  rw [e pc B (s + p) (am_sm_u1 w p n (p + 1) hu)]
  exact h (p + 1) a q hi
theorem am_instr_eq {pc : Nat} {C : ByteArray} {p n : Nat} {f : Nat → am_De Instr} (hf : Jvm.ClassFile.Decoder.instr pc = (Jvm.ClassFile.Reader.u1 >>= f)) (h : (Jvm.ClassFile.Reader.u1 : am_De Nat) C p = .ok (n, p + 1)) : (Jvm.ClassFile.Decoder.instr pc) C p = f n C (p + 1) := by
  rw [hf, am_bind_eq, h]
theorem am_so_2 (w : am_win B S s) : am_so B S s 2 := am_so_of w (pure (.iconst (-1))) (fun pc C p h => (am_instr_eq rfl h).trans rfl) (am_sm_pure _)
theorem am_so_3 (w : am_win B S s) : am_so B S s 3 := am_so_of w (pure (.iconst 0)) (fun pc C p h => (am_instr_eq rfl h).trans rfl) (am_sm_pure _)
theorem am_so_4 (w : am_win B S s) : am_so B S s 4 := am_so_of w (pure (.iconst 1)) (fun pc C p h => (am_instr_eq rfl h).trans rfl) (am_sm_pure _)
theorem am_so_5 (w : am_win B S s) : am_so B S s 5 := am_so_of w (pure (.iconst 2)) (fun pc C p h => (am_instr_eq rfl h).trans rfl) (am_sm_pure _)
theorem am_so_6 (w : am_win B S s) : am_so B S s 6 := am_so_of w (pure (.iconst 3)) (fun pc C p h => (am_instr_eq rfl h).trans rfl) (am_sm_pure _)
theorem am_so_7 (w : am_win B S s) : am_so B S s 7 := am_so_of w (pure (.iconst 4)) (fun pc C p h => (am_instr_eq rfl h).trans rfl) (am_sm_pure _)
theorem am_so_8 (w : am_win B S s) : am_so B S s 8 := am_so_of w (pure (.iconst 5)) (fun pc C p h => (am_instr_eq rfl h).trans rfl) (am_sm_pure _)
theorem am_so_9 (w : am_win B S s) : am_so B S s 9 := am_so_of w (pure (.lconst 0)) (fun pc C p h => (am_instr_eq rfl h).trans rfl) (am_sm_pure _)
theorem am_so_10 (w : am_win B S s) : am_so B S s 10 := am_so_of w (pure (.lconst 1)) (fun pc C p h => (am_instr_eq rfl h).trans rfl) (am_sm_pure _)
theorem am_so_42 (w : am_win B S s) : am_so B S s 42 := am_so_of w (pure (.aload_n 0)) (fun pc C p h => (am_instr_eq rfl h).trans rfl) (am_sm_pure _)
theorem am_so_43 (w : am_win B S s) : am_so B S s 43 := am_so_of w (pure (.aload_n 1)) (fun pc C p h => (am_instr_eq rfl h).trans rfl) (am_sm_pure _)
theorem am_so_44 (w : am_win B S s) : am_so B S s 44 := am_so_of w (pure (.aload_n 2)) (fun pc C p h => (am_instr_eq rfl h).trans rfl) (am_sm_pure _)
theorem am_so_45 (w : am_win B S s) : am_so B S s 45 := am_so_of w (pure (.aload_n 3)) (fun pc C p h => (am_instr_eq rfl h).trans rfl) (am_sm_pure _)
theorem am_so_46 (w : am_win B S s) : am_so B S s 46 := am_so_of w (pure (.iaload)) (fun pc C p h => (am_instr_eq rfl h).trans rfl) (am_sm_pure _)
theorem am_so_47 (w : am_win B S s) : am_so B S s 47 := am_so_of w (pure (.laload)) (fun pc C p h => (am_instr_eq rfl h).trans rfl) (am_sm_pure _)
theorem am_so_75 (w : am_win B S s) : am_so B S s 75 := am_so_of w (pure (.astore_n 0)) (fun pc C p h => (am_instr_eq rfl h).trans rfl) (am_sm_pure _)
theorem am_so_76 (w : am_win B S s) : am_so B S s 76 := am_so_of w (pure (.astore_n 1)) (fun pc C p h => (am_instr_eq rfl h).trans rfl) (am_sm_pure _)
theorem am_so_77 (w : am_win B S s) : am_so B S s 77 := am_so_of w (pure (.astore_n 2)) (fun pc C p h => (am_instr_eq rfl h).trans rfl) (am_sm_pure _)
theorem am_so_78 (w : am_win B S s) : am_so B S s 78 := am_so_of w (pure (.astore_n 3)) (fun pc C p h => (am_instr_eq rfl h).trans rfl) (am_sm_pure _)
theorem am_so_89 (w : am_win B S s) : am_so B S s 89 := am_so_of w (pure (.dup)) (fun pc C p h => (am_instr_eq rfl h).trans rfl) (am_sm_pure _)
theorem am_so_96 (w : am_win B S s) : am_so B S s 96 := am_so_of w (pure (.iadd)) (fun pc C p h => (am_instr_eq rfl h).trans rfl) (am_sm_pure _)
theorem am_so_100 (w : am_win B S s) : am_so B S s 100 := am_so_of w (pure (.isub)) (fun pc C p h => (am_instr_eq rfl h).trans rfl) (am_sm_pure _)
theorem am_so_126 (w : am_win B S s) : am_so B S s 126 := am_so_of w (pure (.iand)) (fun pc C p h => (am_instr_eq rfl h).trans rfl) (am_sm_pure _)
theorem am_so_133 (w : am_win B S s) : am_so B S s 133 := am_so_of w (pure (.i2l)) (fun pc C p h => (am_instr_eq rfl h).trans rfl) (am_sm_pure _)
theorem am_so_148 (w : am_win B S s) : am_so B S s 148 := am_so_of w (pure (.lcmp)) (fun pc C p h => (am_instr_eq rfl h).trans rfl) (am_sm_pure _)
theorem am_so_172 (w : am_win B S s) : am_so B S s 172 := am_so_of w (pure (.ireturn)) (fun pc C p h => (am_instr_eq rfl h).trans rfl) (am_sm_pure _)
theorem am_so_190 (w : am_win B S s) : am_so B S s 190 := am_so_of w (pure (.arraylength)) (fun pc C p h => (am_instr_eq rfl h).trans rfl) (am_sm_pure _)
theorem am_so_16 (w : am_win B S s) : am_so B S s 16 := am_so_of w (do pure (.bipush (← Jvm.ClassFile.Reader.s1))) (fun pc C p h => (am_instr_eq rfl h).trans rfl) (am_sm_bind (am_sm_s1 w) fun _ => am_sm_pure _)
theorem am_so_21 (w : am_win B S s) : am_so B S s 21 := am_so_of w (do pure (.iload (← Jvm.ClassFile.Reader.u1))) (fun pc C p h => (am_instr_eq rfl h).trans rfl) (am_sm_bind (am_sm_u1 w) fun _ => am_sm_pure _)
theorem am_so_54 (w : am_win B S s) : am_so B S s 54 := am_so_of w (do pure (.istore (← Jvm.ClassFile.Reader.u1))) (fun pc C p h => (am_instr_eq rfl h).trans rfl) (am_sm_bind (am_sm_u1 w) fun _ => am_sm_pure _)
theorem am_so_153 (w : am_win B S s) : am_so B S s 153 := am_so_of w (do pure (.ifCond .eq (← Jvm.ClassFile.Reader.s2))) (fun pc C p h => (am_instr_eq rfl h).trans rfl) (am_sm_bind (am_sm_s2 w) fun _ => am_sm_pure _)
theorem am_so_154 (w : am_win B S s) : am_so B S s 154 := am_so_of w (do pure (.ifCond .ne (← Jvm.ClassFile.Reader.s2))) (fun pc C p h => (am_instr_eq rfl h).trans rfl) (am_sm_bind (am_sm_s2 w) fun _ => am_sm_pure _)
theorem am_so_155 (w : am_win B S s) : am_so B S s 155 := am_so_of w (do pure (.ifCond .lt (← Jvm.ClassFile.Reader.s2))) (fun pc C p h => (am_instr_eq rfl h).trans rfl) (am_sm_bind (am_sm_s2 w) fun _ => am_sm_pure _)
theorem am_so_156 (w : am_win B S s) : am_so B S s 156 := am_so_of w (do pure (.ifCond .ge (← Jvm.ClassFile.Reader.s2))) (fun pc C p h => (am_instr_eq rfl h).trans rfl) (am_sm_bind (am_sm_s2 w) fun _ => am_sm_pure _)
theorem am_so_157 (w : am_win B S s) : am_so B S s 157 := am_so_of w (do pure (.ifCond .gt (← Jvm.ClassFile.Reader.s2))) (fun pc C p h => (am_instr_eq rfl h).trans rfl) (am_sm_bind (am_sm_s2 w) fun _ => am_sm_pure _)
theorem am_so_158 (w : am_win B S s) : am_so B S s 158 := am_so_of w (do pure (.ifCond .le (← Jvm.ClassFile.Reader.s2))) (fun pc C p h => (am_instr_eq rfl h).trans rfl) (am_sm_bind (am_sm_s2 w) fun _ => am_sm_pure _)
theorem am_so_159 (w : am_win B S s) : am_so B S s 159 := am_so_of w (do pure (.if_icmp .eq (← Jvm.ClassFile.Reader.s2))) (fun pc C p h => (am_instr_eq rfl h).trans rfl) (am_sm_bind (am_sm_s2 w) fun _ => am_sm_pure _)
theorem am_so_160 (w : am_win B S s) : am_so B S s 160 := am_so_of w (do pure (.if_icmp .ne (← Jvm.ClassFile.Reader.s2))) (fun pc C p h => (am_instr_eq rfl h).trans rfl) (am_sm_bind (am_sm_s2 w) fun _ => am_sm_pure _)
theorem am_so_161 (w : am_win B S s) : am_so B S s 161 := am_so_of w (do pure (.if_icmp .lt (← Jvm.ClassFile.Reader.s2))) (fun pc C p h => (am_instr_eq rfl h).trans rfl) (am_sm_bind (am_sm_s2 w) fun _ => am_sm_pure _)
theorem am_so_162 (w : am_win B S s) : am_so B S s 162 := am_so_of w (do pure (.if_icmp .ge (← Jvm.ClassFile.Reader.s2))) (fun pc C p h => (am_instr_eq rfl h).trans rfl) (am_sm_bind (am_sm_s2 w) fun _ => am_sm_pure _)
theorem am_so_163 (w : am_win B S s) : am_so B S s 163 := am_so_of w (do pure (.if_icmp .gt (← Jvm.ClassFile.Reader.s2))) (fun pc C p h => (am_instr_eq rfl h).trans rfl) (am_sm_bind (am_sm_s2 w) fun _ => am_sm_pure _)
theorem am_so_164 (w : am_win B S s) : am_so B S s 164 := am_so_of w (do pure (.if_icmp .le (← Jvm.ClassFile.Reader.s2))) (fun pc C p h => (am_instr_eq rfl h).trans rfl) (am_sm_bind (am_sm_s2 w) fun _ => am_sm_pure _)
theorem am_so_167 (w : am_win B S s) : am_so B S s 167 := am_so_of w (do pure (.goto (← Jvm.ClassFile.Reader.s2))) (fun pc C p h => (am_instr_eq rfl h).trans rfl) (am_sm_bind (am_sm_s2 w) fun _ => am_sm_pure _)
theorem am_so_182 (w : am_win B S s) : am_so B S s 182 := am_so_of w (do pure (.invokevirtual (← Jvm.ClassFile.Reader.u2))) (fun pc C p h => (am_instr_eq rfl h).trans rfl) (am_sm_bind (am_sm_u2 w) fun _ => am_sm_pure _)
theorem am_so_183 (w : am_win B S s) : am_so B S s 183 := am_so_of w (do pure (.invokespecial (← Jvm.ClassFile.Reader.u2))) (fun pc C p h => (am_instr_eq rfl h).trans rfl) (am_sm_bind (am_sm_u2 w) fun _ => am_sm_pure _)
theorem am_so_184 (w : am_win B S s) : am_so B S s 184 := am_so_of w (do pure (.invokestatic (← Jvm.ClassFile.Reader.u2))) (fun pc C p h => (am_instr_eq rfl h).trans rfl) (am_sm_bind (am_sm_u2 w) fun _ => am_sm_pure _)
theorem am_so_187 (w : am_win B S s) : am_so B S s 187 := am_so_of w (do pure (.new (← Jvm.ClassFile.Reader.u2))) (fun pc C p h => (am_instr_eq rfl h).trans rfl) (am_sm_bind (am_sm_u2 w) fun _ => am_sm_pure _)
theorem am_so_132 (w : am_win B S s) : am_so B S s 132 := am_so_of w (do pure (.iinc (← Jvm.ClassFile.Reader.u1) (← Jvm.ClassFile.Reader.s1))) (fun pc C p h => (am_instr_eq rfl h).trans rfl) (am_sm_bind (am_sm_u1 w) fun _ => am_sm_bind (am_sm_s1 w) fun _ => am_sm_pure _)
def am_ops : List Nat := [2, 3, 4, 5, 6, 7, 8, 9, 10, 16, 21, 42, 43, 44, 45, 46, 47, 54, 75, 76, 77, 78, 89, 96, 100, 126, 132, 133, 148, 153, 154, 155, 156, 157, 158, 159, 160, 161, 162, 163, 164, 167, 172, 182, 183, 184, 187, 190]
theorem am_so_all (w : am_win B S s) : ∀ n ∈ am_ops, am_so B S s n := List.forall_mem_cons.mpr ⟨am_so_2 w, List.forall_mem_cons.mpr ⟨am_so_3 w, List.forall_mem_cons.mpr ⟨am_so_4 w, List.forall_mem_cons.mpr ⟨am_so_5 w, List.forall_mem_cons.mpr ⟨am_so_6 w, List.forall_mem_cons.mpr ⟨am_so_7 w, List.forall_mem_cons.mpr ⟨am_so_8 w, List.forall_mem_cons.mpr ⟨am_so_9 w, List.forall_mem_cons.mpr ⟨am_so_10 w, List.forall_mem_cons.mpr ⟨am_so_16 w, List.forall_mem_cons.mpr ⟨am_so_21 w, List.forall_mem_cons.mpr ⟨am_so_42 w, List.forall_mem_cons.mpr ⟨am_so_43 w, List.forall_mem_cons.mpr ⟨am_so_44 w, List.forall_mem_cons.mpr ⟨am_so_45 w, List.forall_mem_cons.mpr ⟨am_so_46 w, List.forall_mem_cons.mpr ⟨am_so_47 w, List.forall_mem_cons.mpr ⟨am_so_54 w, List.forall_mem_cons.mpr ⟨am_so_75 w, List.forall_mem_cons.mpr ⟨am_so_76 w, List.forall_mem_cons.mpr ⟨am_so_77 w, List.forall_mem_cons.mpr ⟨am_so_78 w, List.forall_mem_cons.mpr ⟨am_so_89 w, List.forall_mem_cons.mpr ⟨am_so_96 w, List.forall_mem_cons.mpr ⟨am_so_100 w, List.forall_mem_cons.mpr ⟨am_so_126 w, List.forall_mem_cons.mpr ⟨am_so_132 w, List.forall_mem_cons.mpr ⟨am_so_133 w, List.forall_mem_cons.mpr ⟨am_so_148 w, List.forall_mem_cons.mpr ⟨am_so_153 w, List.forall_mem_cons.mpr ⟨am_so_154 w, List.forall_mem_cons.mpr ⟨am_so_155 w, List.forall_mem_cons.mpr ⟨am_so_156 w, List.forall_mem_cons.mpr ⟨am_so_157 w, List.forall_mem_cons.mpr ⟨am_so_158 w, List.forall_mem_cons.mpr ⟨am_so_159 w, List.forall_mem_cons.mpr ⟨am_so_160 w, List.forall_mem_cons.mpr ⟨am_so_161 w, List.forall_mem_cons.mpr ⟨am_so_162 w, List.forall_mem_cons.mpr ⟨am_so_163 w, List.forall_mem_cons.mpr ⟨am_so_164 w, List.forall_mem_cons.mpr ⟨am_so_167 w, List.forall_mem_cons.mpr ⟨am_so_172 w, List.forall_mem_cons.mpr ⟨am_so_182 w, List.forall_mem_cons.mpr ⟨am_so_183 w, List.forall_mem_cons.mpr ⟨am_so_184 w, List.forall_mem_cons.mpr ⟨am_so_187 w, List.forall_mem_cons.mpr ⟨am_so_190 w, fun _ h => absurd h List.not_mem_nil⟩⟩⟩⟩⟩⟩⟩⟩⟩⟩⟩⟩⟩⟩⟩⟩⟩⟩⟩⟩⟩⟩⟩⟩⟩⟩⟩⟩⟩⟩⟩⟩⟩⟩⟩⟩⟩⟩⟩⟩⟩⟩⟩⟩⟩⟩⟩⟩
/-- the window's check of one instruction -/
def am_dwb (S : ByteArray) (s pc : Nat) (i : Instr) : Bool := decide (s ≤ pc) && (match S.data.toList[pc - s]? with | some b => decide (b.toNat ∈ am_ops) | none => false) && decide (decode S (pc - s) = .ok (i, am_len pc i))
theorem am_dwb_ok (w : am_win B S s) {pc : Nat} {i : Instr} (h : am_dwb S s pc i = true) : decode B pc = .ok (i, am_len pc i) := by
  unfold am_dwb at h
  rw [Bool.and_eq_true, Bool.and_eq_true] at h
  obtain ⟨⟨h1, h2⟩, h3⟩ := h
  have h1' := of_decide_eq_true h1
  have h3' := of_decide_eq_true h3
  obtain ⟨k, hk⟩ : ∃ k, pc = s + k := ⟨pc - s, by omega⟩
  subst hk
  rw [Nat.add_sub_cancel_left] at h2 h3'
  generalize am_len (s + k) i = n at h3' ⊢
  split at h2
  · rename_i b hb
    have hn := of_decide_eq_true h2
    have hu : (Jvm.ClassFile.Reader.u1 : am_De Nat) S k = .ok (b.toNat, k + 1) := by rw [am_u1_eq, hb]
    have e : ∀ (C : ByteArray) (p : Nat), decode C p = (match (Jvm.ClassFile.Decoder.instr p) C p with | .ok (a, q) => .ok (a, q - p) | .error e => .error e) := by
      intro C p
      show Except.bind ((Jvm.ClassFile.Decoder.instr p) C p) _ = _
      cases (Jvm.ClassFile.Decoder.instr p) C p with
      | ok v => rfl
      | error e => rfl
    rw [e] at h3' ⊢
    cases hi : (Jvm.ClassFile.Decoder.instr k) S k with
    | error e => rw [hi] at h3'; cases h3'
    | ok v =>
      obtain ⟨a, q⟩ := v
      rw [hi] at h3'
      rw [am_so_all w _ hn (s + k) k k a q hu hi]
      cases h3'
      show Except.ok (i, s + q - (s + k)) = _
      rw [Nat.add_sub_add_left]
  · cases h2
end WIN
/-- as am_ckr, decoded through a window -/
def am_ckrW (P : am_P) (Y : Nat → am_Yt) (nV : Nat) (sr : am_SR) (ns : List Jvm.Cond) (own : String) (ini : Bool) (cc : ByteArray) (rk : Nat) (S : ByteArray) (s : Nat) (r : am_Row) : Bool :=
  am_dwb S s r.1 r.2.1 &&
  (if r.2.2.1 < 100 then am_opb sr own ini r.1 r.2.1 r.2.2.1 r.2.2.2.1 r.2.2.2.2.1 r.2.2.2.2.2
   else if r.2.2.1 = 100 then decide (r.2.1 = am_reti rk)
   else if r.2.2.1 = 101 then false
   else decide (r.2.2.2.1 < nV) && am_callb P Y ns own r.2.1 r.2.2.1 r.2.2.2.1 r.2.2.2.2.1 r.2.2.2.2.2)
theorem am_ckrW_ok {P : am_P} {Y : Nat → am_Yt} {nV : Nat} {sr : am_SR} {ns : List Jvm.Cond} {own : String} {ini : Bool} {cc : ByteArray} {rk : Nat} {hh : Bool} {S : ByteArray} {s : Nat} (hw : am_winb cc S s = true) {l : List am_Row} (h : l.all (am_ckrW P Y nV sr ns own ini cc rk S s) = true) : l.all (am_ckr P Y nV sr ns own ini cc rk hh) = true := by
  rw [List.all_eq_true] at h ⊢
  intro r hr
  have h1 := h r hr
  unfold am_ckrW at h1
  unfold am_ckr
  rw [Bool.and_eq_true] at h1 ⊢
  refine ⟨decide_eq_true (am_dwb_ok (am_winb_ok hw) h1.1), ?_⟩
  have h2 := h1.2
  split
  · rename_i q; rw [if_pos q] at h2; exact h2
  · rename_i q; rw [if_neg q] at h2
    split
    · rename_i q; rw [if_pos q] at h2; exact h2
    · rename_i q; rw [if_neg q] at h2
      split
      · rename_i q; rw [if_pos q] at h2; cases h2
      · rename_i q; rw [if_neg q] at h2; exact h2
