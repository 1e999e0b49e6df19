/-! what the operands mean, by the tables' words -/
def am_len (pc : Nat) (i : Instr) : Nat := match i with
  | .bipush _ => 2 | .ldc _ => 2 | .iload _ => 2 | .lload _ => 2 | .aload _ => 2 | .istore _ => 2 | .lstore _ => 2 | .astore _ => 2 | .newarray _ => 2
  | .sipush _ => 3 | .ldc_w _ => 3 | .ldc2_w _ => 3 | .iinc _ _ => 3 | .ifCond _ _ => 3 | .if_icmp _ _ => 3 | .goto _ => 3 | .ifnull _ => 3 | .ifnonnull _ => 3
  | .getfield _ => 3 | .putfield _ => 3 | .getstatic _ => 3 | .new _ => 3 | .anewarray _ => 3 | .invokevirtual _ => 3 | .invokespecial _ => 3 | .invokestatic _ => 3
  | .tableswitch _ _ _ offs => 13 + (3 - pc % 4) + 4 * offs.size
  | _ => 1
/-- the String constants: owner, place in its pool, number of the text, the text -/
abbrev am_SR : Type := List (String × Nat × Nat × String)
def am_op (sr : am_SR) (own : String) (ini : Bool) (pc : Nat) (i : Instr) (kd a b : Nat) : Prop := match i with
  | .ldc idx => (kd = 1 ∧ Jvm.Cond.constant own idx (Int32.ofNat a) ∈ am_W) ∨ (kd = 2 ∧ ∃ tx, (own, idx, a, tx) ∈ sr)
  | .ldc_w idx => (kd = 1 ∧ Jvm.Cond.constant own idx (Int32.ofNat a) ∈ am_W) ∨ (kd = 2 ∧ ∃ tx, (own, idx, a, tx) ∈ sr)
  | .ldc2_w idx => Jvm.Cond.constantLong own idx (Int64.ofNat a) ∈ am_W
  | .ifCond _ off => (pc : Int) + off = (a : Int)
  | .if_icmp _ off => (pc : Int) + off = (a : Int)
  | .goto off => (pc : Int) + off = (a : Int)
  | .ifnull off => (pc : Int) + off = (a : Int)
  | .ifnonnull off => (pc : Int) + off = (a : Int)
  | .tableswitch dflt _ _ offs => 0 ≤ (pc : Int) + dflt ∧ ∀ off ∈ offs, 0 ≤ (pc : Int) + off
  | .getfield idx => (∃ C T N, vwCl[a]? = some (C, T, N) ∧ b < N ∧ Jvm.Cond.fieldLink own idx (T b).1 (T b).2.1 (T b).2.2.1 ∈ am_W ∧ ((kd = 0 ∧ am_ty a b = .int) ∨ (kd = 1 ∧ am_rf (am_ty a b) = true))) ∨
      (a = 30 ∧ ((b = 0 ∧ kd = 1 ∧ Jvm.Cond.fieldLink own idx "java/lang/String" "value" "[B" ∈ am_W) ∨ (b = 1 ∧ kd = 0 ∧ Jvm.Cond.fieldLink own idx "java/lang/String" "coder" "B" ∈ am_W)))
  | .putfield idx => ∃ C T N, vwCl[a]? = some (C, T, N) ∧ b < N ∧ Jvm.Cond.fieldLink own idx (T b).1 (T b).2.1 (T b).2.2.1 ∈ am_W ∧ ((kd = 0 ∧ am_ty a b = .int) ∨ (kd = 1 ∧ am_rf (am_ty a b) = true)) ∧ ((T b).2.2.2 = true → ini = true ∧ (T b).1 = own)
  | .getstatic idx => (kd = 3 ∧ a = 1 ∧ Jvm.Cond.fieldLink own idx "java/lang/String" "COMPACT_STRINGS" "Z" ∈ am_W) ∨ (kd = 4 ∧ Jvm.Cond.fieldLink own idx "jdk/internal/util/Preconditions" "SIOOBE_FORMATTER" "Ljava/util/function/BiFunction;" ∈ am_W)
  | .new idx => ∃ C T, vwCl[a]? = some (C, T, b) ∧ Jvm.Cond.classLink own idx C ∈ am_W ∧ Jvm.Cond.instantiable C b ∈ am_W ∧ Jvm.Cond.initialized C ∈ am_W
  | .newarray t => Jvm.Cond.arrayClass (newarray.typeOf t) ∈ am_W
  | .anewarray idx => Jvm.Cond.classLink own idx "SnowPlough$Snapshot" ∈ am_W
  | .invokespecial idx => Jvm.Cond.methodLink own idx objectInit ∈ am_W ∧ Jvm.Cond.instanceMethod objectInit ∈ am_W ∧ Jvm.Cond.code objectInit ⟨#[0xb1]⟩ 1 none ∈ am_W
  | .invokestatic idx => (kd = 6 ∧ Jvm.Cond.methodLink own idx arraycopyName ∈ am_W ∧ Jvm.Cond.native arraycopyName ∈ am_W ∧ Jvm.Cond.static arraycopyName ∈ am_W ∧ Jvm.Cond.initialized "java/lang/System" ∈ am_W) ∨
      (kd = 7 ∧ Jvm.Cond.methodLink own idx Lib.Math.max.name ∈ am_W ∧ Jvm.Cond.static Lib.Math.max.name ∈ am_W ∧ Jvm.Cond.initialized "java/lang/Math" ∈ am_W ∧ Jvm.Cond.code Lib.Math.max.name Lib.Math.max.code 2 (some .int) ∈ am_W) ∨
      (kd = 8 ∧ Jvm.Cond.methodLink own idx Lib.Math.min.name ∈ am_W ∧ Jvm.Cond.static Lib.Math.min.name ∈ am_W ∧ Jvm.Cond.initialized "java/lang/Math" ∈ am_W ∧ Jvm.Cond.code Lib.Math.min.name Lib.Math.min.code 2 (some .int) ∈ am_W) ∨
      (kd = 9 ∧ Jvm.Cond.methodLink own idx Lib.MathLoose.max_long.x ∈ am_W ∧ Jvm.Cond.static Lib.MathLoose.max_long.x ∈ am_W ∧ Jvm.Cond.initialized "java/lang/Math" ∈ am_W ∧ Jvm.Cond.code Lib.MathLoose.max_long.x Lib.MathLoose.max_long.code 4 (some .long) ∈ am_W) ∨
      (kd = 10 ∧ Jvm.Cond.methodLink own idx Lib.MathLoose.min_long.x ∈ am_W ∧ Jvm.Cond.static Lib.MathLoose.min_long.x ∈ am_W ∧ Jvm.Cond.initialized "java/lang/Math" ∈ am_W ∧ Jvm.Cond.code Lib.MathLoose.min_long.x Lib.MathLoose.min_long.code 4 (some .long) ∈ am_W)
  | _ => True
/-- what the tables say of the ten classes -/
def am_cls : Prop := ∀ ci C T N, vwCl[ci]? = some (C, T, N) → (∀ w ∈ u_ws C T N, w ∈ am_W) ∧ (∀ k, k < N → parseFieldDescriptor (T k).2.2.1 = some (am_ty ci k)) ∧ (∀ a, a < N → ∀ b, b < N → a ≠ b → (T a).2.1 ≠ (T b).2.1) ∧ (∀ k, k < N → am_rf (am_ty ci k) = true ∨ am_ty ci k = .int)
/-- the constants of the Java heap that the program reads: the script, the texts, three statics -/
abbrev am_K : Type := Nat × Nat × Nat × (Nat → Int32) × (Nat → Nat) × (Nat → Nat) × Value × am_SR × Nat × List Nat × List (List Int32) × List Jvm.Cond × List (String × String)
abbrev am_b0 (K : am_K) : Nat := K.1
abbrev am_sb (K : am_K) : Nat := K.2.1
abbrev am_sL (K : am_K) : Nat := K.2.2.1
abbrev am_sx (K : am_K) : Nat → Int32 := K.2.2.2.1
abbrev am_aK (K : am_K) : Nat → Nat := K.2.2.2.2.1
abbrev am_aV (K : am_K) : Nat → Nat := K.2.2.2.2.2.1
abbrev am_fm (K : am_K) : Value := K.2.2.2.2.2.2.1
abbrev am_sr (K : am_K) : am_SR := K.2.2.2.2.2.2.2.1
abbrev am_nS (K : am_K) : Nat := K.2.2.2.2.2.2.2.2.1
abbrev am_tl (K : am_K) : List Nat := K.2.2.2.2.2.2.2.2.2.1
abbrev am_tb (K : am_K) : List (List Int32) := K.2.2.2.2.2.2.2.2.2.2.1
abbrev am_ns (K : am_K) : List Jvm.Cond := K.2.2.2.2.2.2.2.2.2.2.2.1
abbrev am_nc (K : am_K) : List (String × String) := K.2.2.2.2.2.2.2.2.2.2.2.2
def am_E (K : am_K) (s : State) : Prop :=
  va_X (am_sb K) (am_sL K) (am_sx K) s s.heap ∧ am_sb K < am_b0 K ∧
  vk_S (am_nS K) (am_tl K) (am_tb K) (am_aK K) (am_aV K) (am_A (am_b0 K)) s s.heap ∧
  (∀ q ∈ am_sr K, vk_R q.1 q.2.1 q.2.2.2 (am_aK K q.2.2.1) s ∧ q.2.2.1 < am_nS K) ∧
  va_Z "java/lang/String" "COMPACT_STRINGS" "Z" (.int 1) (am_A (am_b0 K)) s s.heap ∧
  va_Z "jdk/internal/util/Preconditions" "SIOOBE_FORMATTER" "Ljava/util/function/BiFunction;" (am_fm K) (am_A (am_b0 K)) s s.heap ∧
  vx_Zq Bundle.tN "UNASSIGNED_STACK" Bundle.steD (am_A (am_b0 K)) s s.heap ∧
  vx_Zq Bundle.tN "SUPPRESSED_SENTINEL" Bundle.listD (am_A (am_b0 K)) s s.heap ∧
  (∀ w ∈ am_ns K, ((∃ a i x h, w = .methodLinkNest a i x h) ∨ (∃ a b, w = .castable a b) ∨ ∃ x, w = .declares x) ∧ va_Nw w s) ∧
  (∀ q ∈ am_nc K, va_Nc q.1 q.2 s) ∧
  va_AO "SnowPlough$Snapshot" s
theorem am_E.go {K : am_K} {u U : State} (hW : u.WarmedH U.vm) (hq : ∀ q : Nat, q < u.heap.size → ¬ am_A (am_b0 K) q → U.heap[q]? = u.heap[q]?) (h : am_E K u) : am_E K U := by
  have hvm := hW.alike
  obtain ⟨h1, h2, h3, h4, h5, h6, h7, h8, h9, h10, h11⟩ := h
  refine ⟨?_, h2, (vk_S.moved hvm h3).kept hq, fun q hq' => ⟨vk_R.warm hW (h4 q hq').1, (h4 q hq').2⟩, (va_Z.moved hvm h5).kept hq, (va_Z.moved hvm h6).kept hq, (vx_Zq.moved hvm h7).kept hq, (vx_Zq.moved hvm h8).kept hq, ?_, fun q hq' => va_Nc.moved hvm (h10 q hq'), va_AO.moved hvm h11⟩
  · refine (va_X.moved hvm h1).kept (hq _ ?_ (Nat.not_le.mpr h2))
    obtain ⟨scr, q1, -⟩ := h1
    exact (Array.getElem?_eq_some_iff.mp q1).1
  · intro w hw
    obtain ⟨h, hz⟩ := h9 w hw
    refine ⟨h, ?_⟩
    rcases h with ⟨a, i, x, h, rfl⟩ | ⟨a, b, rfl⟩ | ⟨x, rfl⟩
    · exact va_Nw.warmM hW hz
    · exact va_Nw.warmC hW hz
    · exact va_Nw.warmD hW hz
/-- the constants' keys -/
def am_xt (K : am_K) (ad : Nat → Value) (M : am_M) : Prop :=
  (∀ k, am_tg M k = 41 → k = 800000 ∧ am_ln M k = am_sL K ∧ ∀ j, am_I M k j = am_sx K j) ∧
  (∀ k, am_tg M k = 42 → ∃ i, i < am_nS K ∧ k = 910000 + i ∧ am_ln M k = (am_tl K).getD i 0 ∧ ∀ j, am_I M k j = ((am_tb K).getD i []).getD j 0) ∧
  (∀ k, am_tg M k = 40 → ∃ i, i < am_nS K ∧ k = 900000 + i ∧ am_R M k 0 = 910000 + i + 1 ∧ am_I M k 1 = 0) ∧
  (∀ i, i < am_nS K → am_tg M (900000 + i) = 40 ∧ am_tg M (910000 + i) = 42 ∧ ad (900000 + i) = .ref (am_aK K i) ∧ ad (910000 + i) = .ref (am_aV K i)) ∧
  am_tg M 990000 = 43 ∧ ad 990000 = am_fm K ∧ am_tg M 800000 = 41 ∧ ad 800000 = .ref (am_sb K)
/-- the constants' keys stay what they are when an own key, or a new one, changes -/
theorem am_xt.go {K : am_K} {ad ad' : Nat → Value} {M M' : am_M} (h : am_xt K ad M) (h1 : ∀ k, (am_tg M k = 40 ∨ am_tg M k = 41 ∨ am_tg M k = 42 ∨ am_tg M k = 43) → ad' k = ad k ∧ M'.1 k = M.1 k)
    (h2 : ∀ k, (am_tg M' k = 40 ∨ am_tg M' k = 41 ∨ am_tg M' k = 42) → am_tg M k = am_tg M' k) : am_xt K ad' M' := by
  obtain ⟨a1, a2, a3, a4, a5, a6, a7, a8⟩ := h
  refine ⟨fun k e => ?_, fun k e => ?_, fun k e => ?_, fun i hi => ?_, ?_, ?_, ?_, ?_⟩
  · have e0 := (h2 k (Or.inr (Or.inl e))).trans e
    obtain ⟨-, q⟩ := h1 k (Or.inr (Or.inl e0))
    unfold am_ln am_I; rw [q]; exact a1 k e0
  · have e0 := (h2 k (Or.inr (Or.inr e))).trans e
    obtain ⟨-, q⟩ := h1 k (Or.inr (Or.inr (Or.inl e0)))
    unfold am_ln am_I; rw [q]; exact a2 k e0
  · have e0 := (h2 k (Or.inl e)).trans e
    obtain ⟨-, q⟩ := h1 k (Or.inl e0)
    unfold am_R am_I; rw [q]; exact a3 k e0
  · obtain ⟨b1, b2, b3, b4⟩ := a4 i hi
    obtain ⟨q1, q2⟩ := h1 _ (Or.inl b1)
    obtain ⟨q3, q4⟩ := h1 _ (Or.inr (Or.inr (Or.inl b2)))
    refine ⟨?_, ?_, q1.trans b3, q3.trans b4⟩
    · unfold am_tg; rw [q2]; exact b1
    · unfold am_tg; rw [q4]; exact b2
  · obtain ⟨q1, q2⟩ := h1 _ (Or.inr (Or.inr (Or.inr a5)))
    unfold am_tg; rw [q2]; exact a5
  · exact (h1 _ (Or.inr (Or.inr (Or.inr a5)))).1.trans a6
  · obtain ⟨q1, q2⟩ := h1 _ (Or.inr (Or.inl a7))
    unfold am_tg; rw [q2]; exact a7
  · exact (h1 _ (Or.inr (Or.inl a7))).1.trans a8
theorem am_xt_cell {K : am_K} {ad : Nat → Value} {M : am_M} {k : Nat} {c : am_C} (h : am_xt K ad M) (hk : am_own (am_tg M k)) (hc : c.1 = am_tg M k) : am_xt K ad (am_cell M k c) := by
  refine h.go (fun k' e => ⟨rfl, am_cell_ne ?_⟩) (fun k' e => ?_)
  · intro hq
    rw [hq] at e
    unfold am_own at hk
    omega
  · rw [am_tg_cell]
    by_cases hq : k' = k
    · rw [if_pos hq, hc, hq]
    · rw [if_neg hq]
