/-! THE ABSTRACT MACHINE: cells by keys; an int, a long or a key on the stack; no tables of classes. It is tied to the JVM once (part 05). -/
abbrev am_C : Type := Nat × Nat × (Nat → Int32) × (Nat → Int64) × (Nat → Nat)
abbrev am_M : Type := (Nat → am_C) × (Nat → Nat) × Nat × Nat
def am_tg (M : am_M) (k : Nat) : Nat := (M.1 k).1
def am_ln (M : am_M) (k : Nat) : Nat := (M.1 k).2.1
def am_I (M : am_M) (k : Nat) : Nat → Int32 := (M.1 k).2.2.1
def am_J (M : am_M) (k : Nat) : Nat → Int64 := (M.1 k).2.2.2.1
def am_R (M : am_M) (k : Nat) : Nat → Nat := (M.1 k).2.2.2.2
def am_nx (M : am_M) : Nat → Nat := M.2.1
def am_cc (M : am_M) : Nat := M.2.2.1
def am_sl (M : am_M) : Nat := M.2.2.2
def am_cell (M : am_M) (k : Nat) (c : am_C) : am_M := (va_up M.1 k c, M.2)
def am_setI (M : am_M) (k j : Nat) (x : Int32) : am_M := am_cell M k ((M.1 k).1, (M.1 k).2.1, upd (M.1 k).2.2.1 j x, (M.1 k).2.2.2.1, (M.1 k).2.2.2.2)
def am_setJ (M : am_M) (k j : Nat) (x : Int64) : am_M := am_cell M k ((M.1 k).1, (M.1 k).2.1, (M.1 k).2.2.1, vp_updL (M.1 k).2.2.2.1 j x, (M.1 k).2.2.2.2)
def am_setR (M : am_M) (k j : Nat) (x : Nat) : am_M := am_cell M k ((M.1 k).1, (M.1 k).2.1, (M.1 k).2.2.1, (M.1 k).2.2.2.1, va_up (M.1 k).2.2.2.2 j x)
/-- a new cell of sort g: its key, and the memory with it -/
def am_key (M : am_M) (g : Nat) : Nat := g * 100000 + am_nx M g
def am_new (M : am_M) (g : Nat) (t n w : Nat) : am_M := (va_up M.1 (am_key M g) (t, n, fun _ => 0, fun _ => 0, fun _ => 0), va_up M.2.1 g (am_nx M g + 1), M.2.2.1 + 1, M.2.2.2 + w)
/-- an exception's cell, when it is caught -/
def am_exc (M : am_M) : am_M := (va_up M.1 (am_key M 7) (44, 0, fun _ => 0, fun _ => 0, fun _ => 0), va_up M.2.1 7 (am_nx M 7 + 1), M.2.2.1, M.2.2.2)
/-- the room that a throw takes -/
def am_thr (M : am_M) : am_M := (M.1, M.2.1, M.2.2.1 + 1, M.2.2.2 + 6)
def am_rv (r : Nat) : Value := match r with | 0 => .null | k + 1 => .ref k
def am_rc (v : Value) : Nat := match v with | .ref k => k + 1 | _ => 0
def am_U : Value := .float 0
def am_isU (v : Value) : Bool := match v with | .float _ => true | _ => false
def am_isR (v : Value) : Bool := match v with | .ref _ => true | .null => true | _ => false
def am_c1 (v : Value) : Bool := match v with | .int _ => true | .ref _ => true | .null => true | _ => false
def am_st (L : List Value) (i : Nat) (v : Value) : List Value := match i with
  | 0 => L.set 0 v
  | j + 1 => (match L[j]? with | some (.long _) => L.set j am_U | some (.double _) => L.set j am_U | _ => L).set (j + 1) v
def am_st2 (L : List Value) (i : Nat) (v : Value) : List Value := (am_st L i v).set (i + 1) am_U
abbrev am_S : Type := Nat × List Value × List Value × am_M
def am_ldI (L : List Value) (i pc : Nat) (st : List Value) (M : am_M) : Option am_S := match L[i]? with | some (.int x) => some (pc, L, .int x :: st, M) | _ => none
def am_ldL (L : List Value) (i pc : Nat) (st : List Value) (M : am_M) : Option am_S := match L[i]? with | some (.long x) => some (pc, L, .long x :: st, M) | _ => none
def am_ldA (L : List Value) (i pc : Nat) (st : List Value) (M : am_M) : Option am_S := match L[i]? with | some (.ref x) => some (pc, L, .ref x :: st, M) | some .null => some (pc, L, .null :: st, M) | _ => none
def am_stI (L : List Value) (i pc : Nat) (st : List Value) (M : am_M) : Option am_S := match st with | .int x :: r => if i < L.length then some (pc, am_st L i (.int x), r, M) else none | _ => none
def am_stL (L : List Value) (i pc : Nat) (st : List Value) (M : am_M) : Option am_S := match st with | .long x :: r => if i + 1 < L.length then some (pc, am_st2 L i (.long x), r, M) else none | _ => none
def am_stA (L : List Value) (i pc : Nat) (st : List Value) (M : am_M) : Option am_S := match st with | .ref x :: r => if i < L.length then some (pc, am_st L i (.ref x), r, M) else none | .null :: r => if i < L.length then some (pc, am_st L i .null, r, M) else none | _ => none
def am_i2 (f : Int32 → Int32 → Int32) (L : List Value) (pc : Nat) (st : List Value) (M : am_M) : Option am_S := match st with | .int y :: .int x :: r => some (pc, L, .int (f x y) :: r, M) | _ => none
def am_i2d (f : Int32 → Int32 → Int32) (L : List Value) (pc : Nat) (st : List Value) (M : am_M) : Option am_S := match st with | .int y :: .int x :: r => if y = 0 then none else some (pc, L, .int (f x y) :: r, M) | _ => none
def am_l2 (f : Int64 → Int64 → Int64) (L : List Value) (pc : Nat) (st : List Value) (M : am_M) : Option am_S := match st with | .long y :: .long x :: r => some (pc, L, .long (f x y) :: r, M) | _ => none
def am_l2d (f : Int64 → Int64 → Int64) (L : List Value) (pc : Nat) (st : List Value) (M : am_M) : Option am_S := match st with | .long y :: .long x :: r => if y = 0 then none else some (pc, L, .long (f x y) :: r, M) | _ => none
def am_if (c : Int32 → Bool) (t : Nat) (L : List Value) (pc : Nat) (st : List Value) (M : am_M) : Option am_S := match st with | .int x :: r => some (if c x = true then t else pc, L, r, M) | _ => none
def am_icmp (c : Int32 → Int32 → Bool) (t : Nat) (L : List Value) (pc : Nat) (st : List Value) (M : am_M) : Option am_S := match st with | .int y :: .int x :: r => some (if c x y = true then t else pc, L, r, M) | _ => none
def am_cnd (c : Jvm.ClassFile.Cond) (x y : Int32) : Bool := match c with
  | .eq => decide (x = y) | .ne => decide (¬ x = y) | .lt => decide (x < y) | .ge => decide (y ≤ x) | .gt => decide (y < x) | .le => decide (x ≤ y)
def am_ownb (t : Nat) : Bool := decide ((1 ≤ t ∧ t ≤ 4) ∨ (10 ≤ t ∧ t < 20))
def am_in (j : Int32) (n : Nat) : Bool := decide (¬ (j < 0 ∨ n ≤ j.toNatClampNeg))
def am_cat (l : List Value) : Nat := (l.map fun v => v.category).sum
/-- Math.max and Math.min: one step each -/
def am_math (kd : Nat) (L : List Value) (pc : Nat) (st : List Value) (M : am_M) : Option am_S := match kd, st with
  | 7, .int y :: .int x :: r => if am_cat r ≤ 8 then some (pc, L, .int (if x < y then y else x) :: r, M) else none
  | 8, .int y :: .int x :: r => if am_cat r ≤ 8 then some (pc, L, .int (if y < x then y else x) :: r, M) else none
  | 9, .long y :: .long x :: r => if am_cat r ≤ 8 then some (pc, L, .long (if y < x then x else y) :: r, M) else none
  | 10, .long y :: .long x :: r => if am_cat r ≤ 8 then some (pc, L, .long (if y < x then y else x) :: r, M) else none
  | _, _ => none
/-- one instruction that is no call, no return and no throw: kd, a, b are what its operand means (part 03) -/
def am_step (g : Nat) (i : Instr) (kd a b pc : Nat) (L st : List Value) (M : am_M) : Option am_S := match i with
  | .iconst n => some (pc + 1, L, .int (Int32.ofInt n) :: st, M)
  | .bipush n => some (pc + 2, L, .int (Int8.ofInt n).toInt32 :: st, M)
  | .sipush n => some (pc + 3, L, .int (Int16.ofInt n).toInt32 :: st, M)
  | .lconst n => some (pc + 1, L, .long (Int64.ofNat (n : Nat)) :: st, M)
  | .aconst_null => some (pc + 1, L, .null :: st, M)
  | .ldc _ => if kd = 1 then some (pc + 2, L, .int (Int32.ofNat a) :: st, M) else if kd = 2 then some (pc + 2, L, .ref (900000 + a) :: st, M) else none
  | .ldc_w _ => if kd = 1 then some (pc + 3, L, .int (Int32.ofNat a) :: st, M) else if kd = 2 then some (pc + 3, L, .ref (900000 + a) :: st, M) else none
  | .ldc2_w _ => some (pc + 3, L, .long (Int64.ofNat a) :: st, M)
  | .iload_n k => am_ldI L k (pc + 1) st M
  | .iload k => am_ldI L k (pc + 2) st M
  | .lload_n k => am_ldL L k (pc + 1) st M
  | .lload k => am_ldL L k (pc + 2) st M
  | .aload_n k => am_ldA L k (pc + 1) st M
  | .aload k => am_ldA L k (pc + 2) st M
  | .istore_n k => am_stI L k (pc + 1) st M
  | .istore k => am_stI L k (pc + 2) st M
  | .lstore_n k => am_stL L k (pc + 1) st M
  | .lstore k => am_stL L k (pc + 2) st M
  | .astore_n k => am_stA L k (pc + 1) st M
  | .astore k => am_stA L k (pc + 2) st M
  | .iinc k n => match L[k]? with | some (.int x) => some (pc + 3, am_st L k (.int (x + Int32.ofInt n)), st, M) | _ => none
  | .iadd => am_i2 (fun x y => x + y) L (pc + 1) st M
  | .isub => am_i2 (fun x y => x - y) L (pc + 1) st M
  | .imul => am_i2 (fun x y => x * y) L (pc + 1) st M
  | .iand => am_i2 (fun x y => x &&& y) L (pc + 1) st M
  | .ior => am_i2 (fun x y => x ||| y) L (pc + 1) st M
  | .ixor => am_i2 (fun x y => x ^^^ y) L (pc + 1) st M
  | .ishl => am_i2 (fun x y => x <<< (y &&& 31)) L (pc + 1) st M
  | .ishr => am_i2 (fun x y => x >>> (y &&& 31)) L (pc + 1) st M
  | .iushr => am_i2 (fun x y => (x.toUInt32 >>> (y.toUInt32 &&& Int32.toUInt32 31)).toInt32) L (pc + 1) st M
  | .idiv => am_i2d (fun x y => x / y) L (pc + 1) st M
  | .irem => am_i2d (fun x y => x - x / y * y) L (pc + 1) st M
  | .ladd => am_l2 (fun x y => x + y) L (pc + 1) st M
  | .lsub => am_l2 (fun x y => x - y) L (pc + 1) st M
  | .lmul => am_l2 (fun x y => x * y) L (pc + 1) st M
  | .ldiv => am_l2d (fun x y => x / y) L (pc + 1) st M
  | .lcmp => match st with | .long y :: .long x :: r => some (pc + 1, L, .int (lg_cmp x y) :: r, M) | _ => none
  | .i2l => match st with | .int x :: r => some (pc + 1, L, .long x.toInt64 :: r, M) | _ => none
  | .l2i => match st with | .long x :: r => some (pc + 1, L, .int x.toInt32 :: r, M) | _ => none
  | .i2b => match st with | .int x :: r => some (pc + 1, L, .int x.toInt8.toInt32 :: r, M) | _ => none
  | .i2c => match st with | .int x :: r => some (pc + 1, L, .int (x.toUInt32 % 65536).toInt32 :: r, M) | _ => none
  | .dup => match st with | v :: r => if am_c1 v = true then some (pc + 1, L, v :: v :: r, M) else none | _ => none
  | .dup2 => match st with | v :: w :: r => if am_c1 v = true ∧ am_c1 w = true then some (pc + 1, L, v :: w :: v :: w :: r, M) else none | _ => none
  | .pop => match st with | v :: r => if am_c1 v = true then some (pc + 1, L, r, M) else none | _ => none
  | .ifCond c _ => am_if (fun x => am_cnd c x 0) a L (pc + 3) st M
  | .if_icmp c _ => am_icmp (am_cnd c) a L (pc + 3) st M
  | .goto _ => some (a, L, st, M)
  | .tableswitch dflt lo hi offs => match st with
    | .int x :: r => if x.toInt < lo ∨ hi < x.toInt then some (((pc : Int) + dflt).toNat, L, r, M)
      else match offs[(x.toInt - lo).toNat]? with | some off => some (((pc : Int) + off).toNat, L, r, M) | none => none
    | _ => none
  | .ifnull _ => match st with | .null :: r => some (a, L, r, M) | .ref k :: r => if am_ownb (am_tg M k) = true then some (pc + 3, L, r, M) else none | _ => none
  | .ifnonnull _ => match st with | .null :: r => some (pc + 3, L, r, M) | .ref k :: r => if am_ownb (am_tg M k) = true then some (a, L, r, M) else none | _ => none
  | .getfield _ => match st with
    | .ref k :: r => if am_tg M k = 10 + a then some (pc + 3, L, (if kd = 1 then am_rv (am_R M k b) else .int (am_I M k b)) :: r, M) else none
    | _ => none
  | .putfield _ => match st with
    | .int x :: .ref k :: r => if am_tg M k = 10 + a ∧ kd = 0 then some (pc + 3, L, r, am_setI M k b x) else none
    | .ref q :: .ref k :: r => if am_tg M k = 10 + a ∧ kd = 1 then some (pc + 3, L, r, am_setR M k b (q + 1)) else none
    | _ => none
  | .getstatic _ => if kd = 3 then some (pc + 3, L, .int (Int32.ofNat a) :: st, M) else if kd = 4 then some (pc + 3, L, .ref 990000 :: st, M) else none
  | .arraylength => match st with
    | .ref k :: r => if am_tg M k = 1 ∨ am_tg M k = 2 ∨ am_tg M k = 3 ∨ am_tg M k = 4 ∨ am_tg M k = 41 ∨ am_tg M k = 42 then some (pc + 1, L, .int (Int32.ofNat (am_ln M k)) :: r, M) else none
    | _ => none
  | .iaload => match st with | .int j :: .ref k :: r => if (am_tg M k = 1 ∨ am_tg M k = 41) ∧ am_in j (am_ln M k) = true then some (pc + 1, L, .int (am_I M k j.toNatClampNeg) :: r, M) else none | _ => none
  | .baload => match st with | .int j :: .ref k :: r => if (am_tg M k = 2 ∨ am_tg M k = 42) ∧ am_in j (am_ln M k) = true then some (pc + 1, L, .int (am_I M k j.toNatClampNeg) :: r, M) else none | _ => none
  | .laload => match st with | .int j :: .ref k :: r => if am_tg M k = 3 ∧ am_in j (am_ln M k) = true then some (pc + 1, L, .long (am_J M k j.toNatClampNeg) :: r, M) else none | _ => none
  | .aaload => match st with | .int j :: .ref k :: r => if am_tg M k = 4 ∧ am_in j (am_ln M k) = true then some (pc + 1, L, am_rv (am_R M k j.toNatClampNeg) :: r, M) else none | _ => none
  | .iastore => match st with | .int x :: .int j :: .ref k :: r => if am_tg M k = 1 ∧ am_in j (am_ln M k) = true then some (pc + 1, L, r, am_setI M k j.toNatClampNeg x) else none | _ => none
  | .bastore => match st with | .int x :: .int j :: .ref k :: r => if am_tg M k = 2 ∧ am_in j (am_ln M k) = true then some (pc + 1, L, r, am_setI M k j.toNatClampNeg x.toInt8.toInt32) else none | _ => none
  | .lastore => match st with | .long x :: .int j :: .ref k :: r => if am_tg M k = 3 ∧ am_in j (am_ln M k) = true then some (pc + 1, L, r, am_setJ M k j.toNatClampNeg x) else none | _ => none
  | .aastore => match st with | .ref q :: .int j :: .ref k :: r => if am_tg M k = 4 ∧ am_tg M q = 16 ∧ am_in j (am_ln M k) = true then some (pc + 1, L, r, am_setR M k j.toNatClampNeg (q + 1)) else none | _ => none
  | .new _ => if am_tg M (am_key M g) = 0 then some (pc + 3, L, .ref (am_key M g) :: st, am_new M g (10 + a) 0 b) else none
  | .newarray t => match st with
    | .int n :: r => if am_tg M (am_key M g) = 0 ∧ ¬ n < 0 ∧ n.toNatClampNeg ≤ 1000000 then
        (match t with
         | .int => some (pc + 2, L, .ref (am_key M g) :: r, am_new M g 1 n.toNatClampNeg n.toNatClampNeg)
         | .byte => some (pc + 2, L, .ref (am_key M g) :: r, am_new M g 2 n.toNatClampNeg n.toNatClampNeg)
         | .long => some (pc + 2, L, .ref (am_key M g) :: r, am_new M g 3 n.toNatClampNeg n.toNatClampNeg)
         | _ => none) else none
    | _ => none
  | .anewarray _ => match st with
    | .int n :: r => if am_tg M (am_key M g) = 0 ∧ ¬ n < 0 ∧ n.toNatClampNeg ≤ 1000000 then some (pc + 3, L, .ref (am_key M g) :: r, am_new M g 4 n.toNatClampNeg n.toNatClampNeg) else none
    | _ => none
  | .invokespecial _ => if kd = 5 then (match st with | .ref k :: r => if am_ownb (am_tg M k) = true ∧ am_cat r ≤ 8 then some (pc + 3, L, r, M) else none | _ => none) else none
  | .invokestatic _ => if kd = 6 then
      (match st with
       | .int n :: .int dp :: .ref q :: .int sp :: .ref k :: r =>
         if am_tg M k = 1 ∧ am_tg M q = 1 ∧ ¬ k = q ∧ ¬ sp < 0 ∧ ¬ dp < 0 ∧ ¬ n < 0 ∧ sp.toNatClampNeg + n.toNatClampNeg ≤ am_ln M k ∧ dp.toNatClampNeg + n.toNatClampNeg ≤ am_ln M q ∧ am_cat r ≤ 8 then
           some (pc + 3, L, r, am_cell M q ((M.1 q).1, (M.1 q).2.1, va_cpy (am_I M k) (am_I M q) sp.toNatClampNeg dp.toNatClampNeg n.toNatClampNeg, (M.1 q).2.2.2.1, (M.1 q).2.2.2.2)) else none
       | _ => none) else am_math kd L (pc + 3) st M
  | _ => none
/-- what a method's parameters look like in its locals -/
def am_w2 (v : Value) : List Value := match v with | .long x => [.long x, am_U] | v => [v]
def am_ent (maxL : Nat) (as : List Value) : List Value := as.flatMap am_w2 ++ List.replicate (maxL - (as.flatMap am_w2).length) am_U
/-- what a method returns: rk says of which kind its value is (0 none, 1 int, 2 long, 3 reference, 4 boolean, 5 char, 6 byte) -/
def am_ret (rk : Nat) (st : List Value) : Option (Option Value) := match rk, st with
  | 0, [] => some none
  | 1, .int x :: [] => some (some (.int x))
  | 2, .long x :: [] => some (some (.long x))
  | 3, .ref k :: [] => some (some (.ref k))
  | 4, .int x :: [] => if narrow .boolean (.int x) = .int x then some (some (.int x)) else none
  | 5, .int x :: [] => if narrow .char (.int x) = .int x then some (some (.int x)) else none
  | 6, .int x :: [] => if narrow .byte (.int x) = .int x then some (some (.int x)) else none
  | _, _ => none
abbrev am_O : Type := Option Value ⊕ Nat
/-- a method: its instructions, its handlers, its locals' size, its kind of return, its receiver's tag (0: static), the sort of what it makes (0: its caller's) -/
abbrev am_F : Type := (Nat → Option (Instr × Nat × Nat × Nat)) × (Nat → Nat → Option (Option Nat)) × Nat × Nat × Nat × Nat
abbrev am_P : Type := Nat → am_F
def am_nd (v : Value) : Bool := match v with | .double _ => false | _ => true
def am_args (f : am_F) (as : List Value) : Bool := decide ((as.flatMap am_w2).length ≤ f.2.2.1) && as.all am_nd
def am_sort (f : am_F) (g : Nat) : Nat := if f.2.2.2.2.2 = 0 then g else f.2.2.2.2.2
def am_recv (f : am_F) (st : List Value) (b : Nat) (M : am_M) : Bool := if f.2.2.2.2.1 = 0 then true else match st[b - 1]? with
  | some (.ref k) => decide (am_tg M k = f.2.2.2.2.1)
  | _ => false
def am_run (P : am_P) : Nat → Nat → Nat → Nat → Nat → List Value → List Value → am_M → Option (am_O × am_M)
  | 0, _, _, _, _, _, _, _ => none
  | n + 1, d, g, y, pc, L, st, M =>
    match (P y).1 pc with
    | none => none
    | some (i, kd, a, b) =>
      if kd < 100 then
        match am_step g i kd a b pc L st M with
        | none => none
        | some (pc', L', st', M') => am_run P n d g y pc' L' st' M'
      else if kd = 100 then
        match am_ret (P y).2.2.2.1 st with
        | none => none
        | some v => some (.inl v, M)
      else if kd = 101 then
        if 6 ≤ d ∧ am_cat st ≤ 8 then some (.inr a, am_thr M) else none
      else
        match d with
        | 0 => none
        | d' + 1 =>
          if st.length < b ∨ 8 < am_cat (st.drop b) then none
          else if am_recv (P a) st b M = true ∧ am_args (P a) (st.take b).reverse = true then
            match am_run P n d' (am_sort (P a) g) a 0 (am_ent (P a).2.2.1 (st.take b).reverse) [] M with
            | none => none
            | some (.inl v, M1) => am_run P n (d' + 1) g y (pc + 3) L (v.toList ++ st.drop b) M1
            | some (.inr E, M1) =>
              match (P y).2.1 pc E with
              | none => none
              | some none => some (.inr E, M1)
              | some (some h) => if am_tg M1 (am_key M1 7) = 0 then am_run P n (d' + 1) g y h L [.ref (am_key M1 7)] (am_exc M1) else none
          else none
