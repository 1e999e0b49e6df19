/-! A WALK OVER THE ABSTRACT MACHINE: rules, an instruction a rule; every int is Int32.ofInt of a whole number -/
theorem am_run_mono {P : am_P} : ∀ (n d g y pc : Nat) (L st : List Value) (M : am_M) (r : am_O × am_M), am_run P n d g y pc L st M = some r → ∀ m, n ≤ m → am_run P m d g y pc L st M = some r := by
  intro n
  induction n with
  | zero => intro d g y pc L st M r h; cases h
  | succ n ih =>
    intro d g y pc L st M r h m hm
    obtain ⟨m, rfl⟩ : ∃ m', m = m' + 1 := ⟨m - 1, by omega⟩
    have hm' : n ≤ m := by omega
    rw [am_run] at h ⊢
    cases hi : (P y).1 pc with
    | none => rw [hi] at h; cases h
    | some v =>
      obtain ⟨i, kd, a, b⟩ := v
      rw [hi] at h
      dsimp only at h ⊢
      by_cases h1 : kd < 100
      · rw [if_pos h1] at h ⊢
        cases hs : am_step g i kd a b pc L st M with
        | none => rw [hs] at h; cases h
        | some S =>
          rw [hs] at h
          exact ih _ _ _ _ _ _ _ _ h m hm'
      · rw [if_neg h1] at h ⊢
        by_cases h2 : kd = 100
        · rw [if_pos h2] at h ⊢
          exact h
        · rw [if_neg h2] at h ⊢
          by_cases h3 : kd = 101
          · rw [if_pos h3] at h ⊢
            exact h
          · rw [if_neg h3] at h ⊢
            cases d with
            | zero => cases h
            | succ d' =>
              dsimp only at h ⊢
              by_cases h4 : st.length < b ∨ 8 < am_cat (st.drop b)
              · rw [if_pos h4] at h; cases h
              · rw [if_neg h4] at h ⊢
                by_cases h5 : am_recv (P a) st b M = true ∧ am_args (P a) (st.take b).reverse = true
                · rw [if_pos h5] at h ⊢
                  cases hr : am_run P n d' (am_sort (P a) g) a 0 (am_ent (P a).2.2.1 (st.take b).reverse) [] M with
                  | none => rw [hr] at h; cases h
                  | some v =>
                    rw [ih _ _ _ _ _ _ _ _ hr m hm']
                    rw [hr] at h
                    obtain ⟨o, M1⟩ := v
                    cases o with
                    | inl v => exact ih _ _ _ _ _ _ _ _ h m hm'
                    | inr E =>
                      dsimp only at h ⊢
                      cases hh : (P y).2.1 pc E with
                      | none => rw [hh] at h; cases h
                      | some w =>
                        rw [hh] at h
                        cases w with
                        | none => exact h
                        | some q =>
                          dsimp only at h ⊢
                          by_cases h6 : am_tg M1 (am_key M1 7) = 0
                          · rw [if_pos h6] at h ⊢
                            exact ih _ _ _ _ _ _ _ _ h m hm'
                          · rw [if_neg h6] at h; cases h
                · rw [if_neg h5] at h; cases h
def gw (d g y pc : Nat) (L st : List Value) (M : am_M) (Q : am_O → am_M → Prop) : Prop := ∃ (n : Nat) (o : am_O) (M' : am_M), am_run am_Pg n d g y pc L st M = some (o, M') ∧ Q o M'
def am_at (y pc nx : Nat) (i : Instr) (kd a b : Nat) : Prop := (am_Pg y).1 pc = some (i, kd, a, b) ∧ nx = pc + am_len pc i
theorem gw_step {d g y pc nx : Nat} {i : Instr} {kd a b : Nat} {L st : List Value} {M : am_M} {Q : am_O → am_M → Prop} {pc' : Nat} {L' st' : List Value} {M' : am_M} (hi : am_at y pc nx i kd a b) (hk : kd < 100) (hs : am_step g i kd a b pc L st M = some (pc', L', st', M')) (h : gw d g y pc' L' st' M' Q) : gw d g y pc L st M Q := by
  obtain ⟨n, o, M1, h1, h2⟩ := h
  refine ⟨n + 1, o, M1, ?_, h2⟩
  rw [am_run, hi.1]
  dsimp only
  rw [if_pos hk, hs]
  exact h1
/-- memory: what the tables say of each key, and its contents, whole numbers -/
abbrev gT : Type := (Nat → Nat × Nat × (Nat → Nat)) × (Nat → Nat) × Nat × Nat
abbrev gC : Type := Nat → Int → Int
def gm (T : gT) (c J : gC) : am_M := (fun k => ((T.1 k).1, (T.1 k).2.1, fun j => Int32.ofInt (c k (j : Int)), fun j => Int64.ofInt (J k (j : Int)), (T.1 k).2.2), T.2)
abbrev gi (z : Int) : Value := .int (Int32.ofInt z)
abbrev gl (z : Int) : Value := .long (Int64.ofInt z)
theorem gi_add (a b : Int) : gi (a + b) = .int (Int32.ofInt a + Int32.ofInt b) := congrArg Value.int (Int32.ofInt_add a b)
theorem gi_sub (a b : Int) : gi (a - b) = .int (Int32.ofInt a - Int32.ofInt b) := congrArg Value.int (Int32.ofInt_sub a b)
theorem gi_mul (a b : Int) : gi (a * b) = .int (Int32.ofInt a * Int32.ofInt b) := congrArg Value.int (Int32.ofInt_mul a b)
theorem gl_add (a b : Int) : gl (a + b) = .long (Int64.ofInt a + Int64.ofInt b) := congrArg Value.long (Int64.ofInt_add a b)
theorem gl_sub (a b : Int) : gl (a - b) = .long (Int64.ofInt a - Int64.ofInt b) := congrArg Value.long (Int64.ofInt_sub a b)
theorem gl_mul (a b : Int) : gl (a * b) = .long (Int64.ofInt a * Int64.ofInt b) := congrArg Value.long (Int64.ofInt_mul a b)
theorem gi_of (x : Int32) : gi x.toInt = .int x := congrArg Value.int (Int32.ofInt_toInt x)
theorem gl_of (x : Int64) : gl x.toInt = .long x := congrArg Value.long (Int64.ofInt_toInt x)
def gu (c : gC) (k : Nat) (j z : Int) : gC := fun k' j' => if k' = k ∧ j' = j then z else c k' j'
def gz (c : gC) (k : Nat) : gC := fun k' j' => if k' = k then 0 else c k' j'
/-- as System.arraycopy leaves it -/
def gcp (c : gC) (k q : Nat) (sp dp n : Int) : gC := fun k' j' => if k' = q ∧ dp ≤ j' ∧ j' < dp + n then c k (sp + (j' - dp)) else c k' j'
def gTr (T : gT) (k j q : Nat) : gT := (fun k' => if k' = k then ((T.1 k).1, (T.1 k).2.1, va_up (T.1 k).2.2 j q) else T.1 k', T.2)
def gTn (T : gT) (g t n w : Nat) : gT := (fun k' => if k' = g * 100000 + T.2.1 g then (t, n, fun _ => 0) else T.1 k', va_up T.2.1 g (T.2.1 g + 1), T.2.2.1 + 1, T.2.2.2 + w)
def gTe (T : gT) : gT := (fun k' => if k' = 700000 + T.2.1 7 then (44, 0, fun _ => 0) else T.1 k', va_up T.2.1 7 (T.2.1 7 + 1), T.2.2)
def gTt (T : gT) : gT := (T.1, T.2.1, T.2.2.1 + 1, T.2.2.2 + 6)
theorem gm_thr (T : gT) (c J : gC) : am_thr (gm T c J) = gm (gTt T) c J := rfl
theorem gm_setI (T : gT) (c J : gC) (k j : Nat) (z : Int) : am_setI (gm T c J) k j (Int32.ofInt z) = gm T (gu c k (j : Int) z) J := by
  unfold am_setI am_cell gm
  refine Prod.ext (funext fun k' => ?_) rfl
  by_cases hk : k' = k
  · subst hk
    simp only [va_up, if_pos]
    refine Prod.ext rfl (Prod.ext rfl (Prod.ext (funext fun j' => ?_) rfl))
    by_cases hj : j' = j
    · subst hj; simp [upd, gu]
    · have : ¬ ((j' : Int) = (j : Int)) := by omega
      simp [upd, gu, hj, this]
  · simp [va_up, hk, gu]
theorem gm_setJ (T : gT) (c J : gC) (k j : Nat) (z : Int) : am_setJ (gm T c J) k j (Int64.ofInt z) = gm T c (gu J k (j : Int) z) := by
  unfold am_setJ am_cell gm
  refine Prod.ext (funext fun k' => ?_) rfl
  by_cases hk : k' = k
  · subst hk
    simp only [va_up, if_pos]
    refine Prod.ext rfl (Prod.ext rfl (Prod.ext rfl (Prod.ext (funext fun j' => ?_) rfl)))
    by_cases hj : j' = j
    · subst hj; simp [vp_updL, gu]
    · have : ¬ ((j' : Int) = (j : Int)) := by omega
      simp [vp_updL, gu, hj, this]
  · simp [va_up, hk, gu]
theorem gm_setR (T : gT) (c J : gC) (k j q : Nat) : am_setR (gm T c J) k j q = gm (gTr T k j q) c J := by
  unfold am_setR am_cell gm gTr
  refine Prod.ext (funext fun k' => ?_) rfl
  by_cases hk : k' = k
  · subst hk; simp [va_up]
  · simp [va_up, hk]
theorem gm_new (T : gT) (c J : gC) (g t n w : Nat) : am_new (gm T c J) g t n w = gm (gTn T g t n w) (gz c (g * 100000 + T.2.1 g)) (gz J (g * 100000 + T.2.1 g)) := by
  unfold am_new gm gTn am_key am_nx
  refine Prod.ext (funext fun k' => ?_) rfl
  by_cases hk : k' = g * 100000 + T.2.1 g
  · subst hk; simp [va_up, gz]
  · simp [va_up, hk, gz]
theorem gm_exc (T : gT) (c J : gC) : am_exc (gm T c J) = gm (gTe T) (gz c (700000 + T.2.1 7)) (gz J (700000 + T.2.1 7)) := by
  unfold am_exc gm gTe am_key am_nx
  refine Prod.ext (funext fun k' => ?_) rfl
  by_cases hk : k' = 700000 + T.2.1 7
  · subst hk; simp [va_up, gz]
  · simp [va_up, hk, gz]
theorem gi_nat {z : Int} (h0 : 0 ≤ z) (h1 : z < 2147483648) : (Int32.ofInt z).toNatClampNeg = z.toNat := by
  show (Int32.ofInt z).toInt.toNat = z.toNat
  rw [Int32.toInt_ofInt_of_le (by omega) (by omega)]
theorem gi_lt {a b : Int} (ha : -2147483648 ≤ a ∧ a < 2147483648) (hb : -2147483648 ≤ b ∧ b < 2147483648) : Int32.ofInt a < Int32.ofInt b ↔ a < b := by
  rw [Int32.lt_iff_toInt_lt, Int32.toInt_ofInt_of_le (by omega) (by omega), Int32.toInt_ofInt_of_le (by omega) (by omega)]
theorem gi_le {a b : Int} (ha : -2147483648 ≤ a ∧ a < 2147483648) (hb : -2147483648 ≤ b ∧ b < 2147483648) : Int32.ofInt a ≤ Int32.ofInt b ↔ a ≤ b := by
  rw [Int32.le_iff_toInt_le, Int32.toInt_ofInt_of_le (by omega) (by omega), Int32.toInt_ofInt_of_le (by omega) (by omega)]
theorem gi_eq {a b : Int} (ha : -2147483648 ≤ a ∧ a < 2147483648) (hb : -2147483648 ≤ b ∧ b < 2147483648) : Int32.ofInt a = Int32.ofInt b ↔ a = b := by
  refine ⟨fun h => ?_, fun h => by rw [h]⟩
  have := congrArg Int32.toInt h
  rwa [Int32.toInt_ofInt_of_le (by omega) (by omega), Int32.toInt_ofInt_of_le (by omega) (by omega)] at this
theorem gi_in {j : Int} {n : Nat} (h0 : 0 ≤ j) (h1 : j < (n : Int)) (h2 : n < 2147483648) : am_in (Int32.ofInt j) n = true := by
  unfold am_in
  refine decide_eq_true ?_
  rw [gi_nat h0 (by omega)]
  intro h
  rcases h with h | h
  · have : Int32.ofInt j < Int32.ofInt 0 := h
    rw [gi_lt (by omega) (by omega)] at this
    omega
  · omega
theorem gl_cmp {a b : Int} (ha : -9223372036854775808 ≤ a ∧ a < 9223372036854775808) (hb : -9223372036854775808 ≤ b ∧ b < 9223372036854775808) : lg_cmp (Int64.ofInt a) (Int64.ofInt b) = Int32.ofInt (if a < b then -1 else if a = b then 0 else 1) := by
  have e1 : (Int64.ofInt a).toInt = a := Int64.toInt_ofInt_of_le (by omega) (by omega)
  have e2 : (Int64.ofInt b).toInt = b := Int64.toInt_ofInt_of_le (by omega) (by omega)
  have hlt : Int64.ofInt a < Int64.ofInt b ↔ a < b := by rw [Int64.lt_iff_toInt_lt, e1, e2]
  have hgt : Int64.ofInt b < Int64.ofInt a ↔ b < a := by rw [Int64.lt_iff_toInt_lt, e1, e2]
  have heq : Int64.ofInt a = Int64.ofInt b ↔ a = b := ⟨fun h => by have := congrArg Int64.toInt h; rwa [e1, e2] at this, fun h => by rw [h]⟩
  unfold lg_cmp
  by_cases h1 : a < b
  · simp [hlt, hgt, heq, h1, show ¬ b < a by omega, show ¬ a = b by omega]
  · by_cases h2 : a = b
    · subst h2; simp
    · simp [hlt, hgt, heq, h1, h2, show b < a by omega]
def zand (a b : Int) : Int := (Int32.ofInt a &&& Int32.ofInt b).toInt
def zor (a b : Int) : Int := (Int32.ofInt a ||| Int32.ofInt b).toInt
def zxor (a b : Int) : Int := (Int32.ofInt a ^^^ Int32.ofInt b).toInt
def zshl (a b : Int) : Int := (Int32.ofInt a <<< (Int32.ofInt b &&& 31)).toInt
def zshr (a b : Int) : Int := (Int32.ofInt a >>> (Int32.ofInt b &&& 31)).toInt
def zushr (a b : Int) : Int := (((Int32.ofInt a).toUInt32 >>> ((Int32.ofInt b).toUInt32 &&& Int32.toUInt32 31)).toInt32).toInt
def zdiv (a b : Int) : Int := (Int32.ofInt a / Int32.ofInt b).toInt
def zrem (a b : Int) : Int := (Int32.ofInt a - Int32.ofInt a / Int32.ofInt b * Int32.ofInt b).toInt
def zi2b (a : Int) : Int := ((Int32.ofInt a).toInt8.toInt32).toInt
def zi2c (a : Int) : Int := (((Int32.ofInt a).toUInt32 % 65536).toInt32).toInt
def zldiv (a b : Int) : Int := (Int64.ofInt a / Int64.ofInt b).toInt
theorem zrg (x : Int32) : -2147483648 ≤ x.toInt ∧ x.toInt < 2147483648 := ⟨Int32.le_toInt x, Int32.toInt_lt x⟩
/-- a truth value as a number -/
def bi (p : Bool) : Int := if p = true then 1 else 0
theorem bi_rg (p : Bool) : -2147483648 ≤ bi p ∧ bi p < 2147483648 := by cases p <;> decide
/-- a contract's run: from the entry of the method y, at any depth above h -/
def gE (g y h : Nat) (args : List Value) (M : am_M) (Q : am_O → am_M → Prop) : Prop :=
  am_args (am_Pg y) args = true ∧ ((am_Pg y).2.2.2.2.1 = 0 ∨ ∃ k, args[0]? = some (.ref k) ∧ am_tg M k = (am_Pg y).2.2.2.2.1) ∧ ∀ d, h ≤ d → gw d (am_sort (am_Pg y) g) y 0 (am_ent (am_Pg y).2.2.1 args) [] M Q
def gR (v : Value) (M : am_M) : am_O → am_M → Prop := fun o M1 => o = .inl (some v) ∧ M1 = M
def gK (d g y pc nx : Nat) (L rest : List Value) (Q : am_O → am_M → Prop) (o : am_O) (M1 : am_M) : Prop := match o with
  | .inl v => gw d g y nx L (v.toList ++ rest) M1 Q
  | .inr E => (match (am_Pg y).2.1 pc E with | some none => Q (.inr E) M1 | some (some h) => am_tg M1 (am_key M1 7) = 0 ∧ gw d g y h L [.ref (am_key M1 7)] (am_exc M1) Q | none => False)
theorem gw_callG {d g y pc nx a h : Nat} {i : Instr} {kd b : Nat} {L rest args : List Value} {M : am_M} {Q Q1 : am_O → am_M → Prop} (hi : am_at y pc nx i kd a b) (hk : 102 ≤ kd) (hlen : args.length = b) (hnx : nx = pc + 3) (hcat : am_cat rest ≤ 8) (he : gE g a h args M Q1) (hd : h + 1 ≤ d) (hr : ∀ o M1, Q1 o M1 → gK d g y pc nx L rest Q o M1) : gw d g y pc L (args.reverse ++ rest) M Q := by
  obtain ⟨d', rfl⟩ : ∃ d', d = d' + 1 := ⟨d - 1, by omega⟩
  obtain ⟨e1, e2, e3⟩ := he
  obtain ⟨n, o, M1, hrun, hq⟩ := e3 d' (by omega)
  have hK := hr o M1 hq
  have t1 : ((args.reverse ++ rest).take b).reverse = args := by
    rw [List.take_left' (by rw [List.length_reverse]; exact hlen), List.reverse_reverse]
  have t2 : (args.reverse ++ rest).drop b = rest := List.drop_left' (by rw [List.length_reverse]; exact hlen)
  have t3 : ¬ ((args.reverse ++ rest).length < b ∨ 8 < am_cat ((args.reverse ++ rest).drop b)) := by
    rw [t2, List.length_append, List.length_reverse, hlen]
    omega
  have t4 : am_recv (am_Pg a) (args.reverse ++ rest) b M = true := by
    unfold am_recv
    split
    · rfl
    · rename_i hne
      rcases e2 with e2 | ⟨k, e4, e5⟩
      · exact absurd e2 hne
      · have hb : b - 1 < args.reverse.length := by
          rw [List.length_reverse, hlen]
          have : 0 < args.length := (List.getElem?_eq_some_iff.mp e4).1
          omega
        rw [List.getElem?_append_left hb, List.getElem?_reverse (by rw [List.length_reverse] at hb; exact hb), hlen]
        rw [List.length_reverse, hlen] at hb
        rw [show b - 1 - (b - 1) = 0 by omega, e4]
        exact decide_eq_true e5
  cases o with
  | inl v =>
    obtain ⟨n2, o2, M2, h3, h4⟩ := hK
    refine ⟨max n n2 + 1, o2, M2, ?_, h4⟩
    rw [am_run, hi.1]
    dsimp only
    rw [if_neg (by omega), if_neg (by omega), if_neg (by omega), if_neg t3, t1, t2, if_pos ⟨t4, e1⟩, am_run_mono _ _ _ _ _ _ _ _ _ hrun _ (Nat.le_max_left n n2)]
    dsimp only
    rw [← hnx]
    exact am_run_mono _ _ _ _ _ _ _ _ _ h3 _ (Nat.le_max_right n n2)
  | inr E =>
    unfold gK at hK
    dsimp only at hK
    cases hh : (am_Pg y).2.1 pc E with
    | none => rw [hh] at hK; cases hK
    | some w =>
      rw [hh] at hK
      cases w with
      | none =>
        refine ⟨n + 1, _, M1, ?_, hK⟩
        rw [am_run, hi.1]
        dsimp only
        rw [if_neg (by omega), if_neg (by omega), if_neg (by omega), if_neg t3, t1, if_pos ⟨t4, e1⟩, hrun]
        dsimp only
        rw [hh]
      | some q =>
        obtain ⟨h7, n2, o2, M2, h3, h4⟩ := hK
        refine ⟨max n n2 + 1, o2, M2, ?_, h4⟩
        rw [am_run, hi.1]
        dsimp only
        rw [if_neg (by omega), if_neg (by omega), if_neg (by omega), if_neg t3, t1, if_pos ⟨t4, e1⟩, am_run_mono _ _ _ _ _ _ _ _ _ hrun _ (Nat.le_max_left n n2)]
        dsimp only
        rw [hh]
        dsimp only
        rw [if_pos h7]
        exact am_run_mono _ _ _ _ _ _ _ _ _ h3 _ (Nat.le_max_right n n2)
theorem gw_retG {d g y pc nx b a : Nat} {i : Instr} {L st : List Value} {M : am_M} {Q : am_O → am_M → Prop} {v : Option Value} (hi : am_at y pc nx i 100 a b) (hr : am_ret (am_Pg y).2.2.2.1 st = some v) (h : Q (.inl v) M) : gw d g y pc L st M Q := by
  refine ⟨1, _, M, ?_, h⟩
  rw [am_run, hi.1]
  dsimp only
  rw [if_neg (by omega), if_pos rfl, hr]
theorem gw_thr {d g y pc nx b a : Nat} {i : Instr} {L st : List Value} {T : gT} {c J : gC} {Q : am_O → am_M → Prop} (hi : am_at y pc nx i 101 a b) (hd : 6 ≤ d) (hc : am_cat st ≤ 8) (h : Q (.inr a) (gm (gTt T) c J)) : gw d g y pc L st (gm T c J) Q := by
  refine ⟨1, _, _, ?_, h⟩
  rw [am_run, hi.1]
  dsimp only
  rw [if_neg (by omega), if_neg (by omega), if_pos rfl, if_pos ⟨hd, hc⟩]
  rfl
def am_nl (v : Value) : Bool := match v with | .long _ => false | .double _ => false | _ => true
theorem am_sx0i {g kd a b pc : Nat} {z : Int32} {w : Value} {R r : List Value} {M : am_M} : am_step g (.istore_n 0) kd a b pc (w :: R) (.int z :: r) M = some (pc + am_len pc (.istore_n 0), .int z :: R, r, M) := rfl
theorem am_sx0s {g kd a b pc : Nat} {z : Nat} {w : Value} {R r : List Value} {M : am_M} : am_step g (.astore_n 0) kd a b pc (w :: R) (.ref z :: r) M = some (pc + am_len pc (.astore_n 0), .ref z :: R, r, M) := rfl
theorem am_sx0z {g kd a b pc : Nat} {w : Value} {R r : List Value} {M : am_M} : am_step g (.astore_n 0) kd a b pc (w :: R) (.null :: r) M = some (pc + am_len pc (.astore_n 0), .null :: R, r, M) := rfl
theorem am_sx0l {g kd a b pc : Nat} {z : Int64} {w u : Value} {R r : List Value} {M : am_M} : am_step g (.lstore_n 0) kd a b pc (w :: u :: R) (.long z :: r) M = some (pc + am_len pc (.lstore_n 0), .long z :: am_U :: R, r, M) := rfl
theorem am_sx0n {g kd a b pc : Nat} {z : Int32} {n : Int} {R r : List Value} {M : am_M} : am_step g (.iinc 0 n) kd a b pc (.int z :: R) r M = some (pc + am_len pc (.iinc 0 n), .int (z + Int32.ofInt n) :: R, r, M) := rfl
theorem am_sx1i {g kd a b pc : Nat} {z : Int32} {v0 : Value} {w : Value} {R r : List Value} {M : am_M} (hv : am_nl v0 = true) : am_step g (.istore_n 1) kd a b pc (v0 :: w :: R) (.int z :: r) M = some (pc + am_len pc (.istore_n 1), v0 :: .int z :: R, r, M) := by cases v0 <;> first | rfl | cases hv
theorem am_sx1s {g kd a b pc : Nat} {z : Nat} {v0 : Value} {w : Value} {R r : List Value} {M : am_M} (hv : am_nl v0 = true) : am_step g (.astore_n 1) kd a b pc (v0 :: w :: R) (.ref z :: r) M = some (pc + am_len pc (.astore_n 1), v0 :: .ref z :: R, r, M) := by cases v0 <;> first | rfl | cases hv
theorem am_sx1z {g kd a b pc : Nat} {v0 : Value} {w : Value} {R r : List Value} {M : am_M} (hv : am_nl v0 = true) : am_step g (.astore_n 1) kd a b pc (v0 :: w :: R) (.null :: r) M = some (pc + am_len pc (.astore_n 1), v0 :: .null :: R, r, M) := by cases v0 <;> first | rfl | cases hv
theorem am_sx1l {g kd a b pc : Nat} {z : Int64} {v0 : Value} {w u : Value} {R r : List Value} {M : am_M} (hv : am_nl v0 = true) : am_step g (.lstore_n 1) kd a b pc (v0 :: w :: u :: R) (.long z :: r) M = some (pc + am_len pc (.lstore_n 1), v0 :: .long z :: am_U :: R, r, M) := by cases v0 <;> first | rfl | cases hv
theorem am_sx1n {g kd a b pc : Nat} {z : Int32} {n : Int} {v0 : Value} {R r : List Value} {M : am_M} (hv : am_nl v0 = true) : am_step g (.iinc 1 n) kd a b pc (v0 :: .int z :: R) r M = some (pc + am_len pc (.iinc 1 n), v0 :: .int (z + Int32.ofInt n) :: R, r, M) := by cases v0 <;> first | rfl | cases hv
theorem am_sx2i {g kd a b pc : Nat} {z : Int32} {v0 v1 : Value} {w : Value} {R r : List Value} {M : am_M} (hv : am_nl v1 = true) : am_step g (.istore_n 2) kd a b pc (v0 :: v1 :: w :: R) (.int z :: r) M = some (pc + am_len pc (.istore_n 2), v0 :: v1 :: .int z :: R, r, M) := by cases v1 <;> first | rfl | cases hv
theorem am_sx2s {g kd a b pc : Nat} {z : Nat} {v0 v1 : Value} {w : Value} {R r : List Value} {M : am_M} (hv : am_nl v1 = true) : am_step g (.astore_n 2) kd a b pc (v0 :: v1 :: w :: R) (.ref z :: r) M = some (pc + am_len pc (.astore_n 2), v0 :: v1 :: .ref z :: R, r, M) := by cases v1 <;> first | rfl | cases hv
theorem am_sx2z {g kd a b pc : Nat} {v0 v1 : Value} {w : Value} {R r : List Value} {M : am_M} (hv : am_nl v1 = true) : am_step g (.astore_n 2) kd a b pc (v0 :: v1 :: w :: R) (.null :: r) M = some (pc + am_len pc (.astore_n 2), v0 :: v1 :: .null :: R, r, M) := by cases v1 <;> first | rfl | cases hv
theorem am_sx2l {g kd a b pc : Nat} {z : Int64} {v0 v1 : Value} {w u : Value} {R r : List Value} {M : am_M} (hv : am_nl v1 = true) : am_step g (.lstore_n 2) kd a b pc (v0 :: v1 :: w :: u :: R) (.long z :: r) M = some (pc + am_len pc (.lstore_n 2), v0 :: v1 :: .long z :: am_U :: R, r, M) := by cases v1 <;> first | rfl | cases hv
theorem am_sx2n {g kd a b pc : Nat} {z : Int32} {n : Int} {v0 v1 : Value} {R r : List Value} {M : am_M} (hv : am_nl v1 = true) : am_step g (.iinc 2 n) kd a b pc (v0 :: v1 :: .int z :: R) r M = some (pc + am_len pc (.iinc 2 n), v0 :: v1 :: .int (z + Int32.ofInt n) :: R, r, M) := by cases v1 <;> first | rfl | cases hv
theorem am_sx3i {g kd a b pc : Nat} {z : Int32} {v0 v1 v2 : Value} {w : Value} {R r : List Value} {M : am_M} (hv : am_nl v2 = true) : am_step g (.istore_n 3) kd a b pc (v0 :: v1 :: v2 :: w :: R) (.int z :: r) M = some (pc + am_len pc (.istore_n 3), v0 :: v1 :: v2 :: .int z :: R, r, M) := by cases v2 <;> first | rfl | cases hv
theorem am_sx3s {g kd a b pc : Nat} {z : Nat} {v0 v1 v2 : Value} {w : Value} {R r : List Value} {M : am_M} (hv : am_nl v2 = true) : am_step g (.astore_n 3) kd a b pc (v0 :: v1 :: v2 :: w :: R) (.ref z :: r) M = some (pc + am_len pc (.astore_n 3), v0 :: v1 :: v2 :: .ref z :: R, r, M) := by cases v2 <;> first | rfl | cases hv
theorem am_sx3z {g kd a b pc : Nat} {v0 v1 v2 : Value} {w : Value} {R r : List Value} {M : am_M} (hv : am_nl v2 = true) : am_step g (.astore_n 3) kd a b pc (v0 :: v1 :: v2 :: w :: R) (.null :: r) M = some (pc + am_len pc (.astore_n 3), v0 :: v1 :: v2 :: .null :: R, r, M) := by cases v2 <;> first | rfl | cases hv
theorem am_sx3l {g kd a b pc : Nat} {z : Int64} {v0 v1 v2 : Value} {w u : Value} {R r : List Value} {M : am_M} (hv : am_nl v2 = true) : am_step g (.lstore_n 3) kd a b pc (v0 :: v1 :: v2 :: w :: u :: R) (.long z :: r) M = some (pc + am_len pc (.lstore_n 3), v0 :: v1 :: v2 :: .long z :: am_U :: R, r, M) := by cases v2 <;> first | rfl | cases hv
theorem am_sx3n {g kd a b pc : Nat} {z : Int32} {n : Int} {v0 v1 v2 : Value} {R r : List Value} {M : am_M} (hv : am_nl v2 = true) : am_step g (.iinc 3 n) kd a b pc (v0 :: v1 :: v2 :: .int z :: R) r M = some (pc + am_len pc (.iinc 3 n), v0 :: v1 :: v2 :: .int (z + Int32.ofInt n) :: R, r, M) := by cases v2 <;> first | rfl | cases hv
theorem am_sx4i {g kd a b pc : Nat} {z : Int32} {v0 v1 v2 v3 : Value} {w : Value} {R r : List Value} {M : am_M} (hv : am_nl v3 = true) : am_step g (.istore 4) kd a b pc (v0 :: v1 :: v2 :: v3 :: w :: R) (.int z :: r) M = some (pc + am_len pc (.istore 4), v0 :: v1 :: v2 :: v3 :: .int z :: R, r, M) := by cases v3 <;> first | rfl | cases hv
theorem am_sx4s {g kd a b pc : Nat} {z : Nat} {v0 v1 v2 v3 : Value} {w : Value} {R r : List Value} {M : am_M} (hv : am_nl v3 = true) : am_step g (.astore 4) kd a b pc (v0 :: v1 :: v2 :: v3 :: w :: R) (.ref z :: r) M = some (pc + am_len pc (.astore 4), v0 :: v1 :: v2 :: v3 :: .ref z :: R, r, M) := by cases v3 <;> first | rfl | cases hv
theorem am_sx4z {g kd a b pc : Nat} {v0 v1 v2 v3 : Value} {w : Value} {R r : List Value} {M : am_M} (hv : am_nl v3 = true) : am_step g (.astore 4) kd a b pc (v0 :: v1 :: v2 :: v3 :: w :: R) (.null :: r) M = some (pc + am_len pc (.astore 4), v0 :: v1 :: v2 :: v3 :: .null :: R, r, M) := by cases v3 <;> first | rfl | cases hv
theorem am_sx4l {g kd a b pc : Nat} {z : Int64} {v0 v1 v2 v3 : Value} {w u : Value} {R r : List Value} {M : am_M} (hv : am_nl v3 = true) : am_step g (.lstore 4) kd a b pc (v0 :: v1 :: v2 :: v3 :: w :: u :: R) (.long z :: r) M = some (pc + am_len pc (.lstore 4), v0 :: v1 :: v2 :: v3 :: .long z :: am_U :: R, r, M) := by cases v3 <;> first | rfl | cases hv
theorem am_sx4n {g kd a b pc : Nat} {z : Int32} {n : Int} {v0 v1 v2 v3 : Value} {R r : List Value} {M : am_M} (hv : am_nl v3 = true) : am_step g (.iinc 4 n) kd a b pc (v0 :: v1 :: v2 :: v3 :: .int z :: R) r M = some (pc + am_len pc (.iinc 4 n), v0 :: v1 :: v2 :: v3 :: .int (z + Int32.ofInt n) :: R, r, M) := by cases v3 <;> first | rfl | cases hv
theorem am_sx5i {g kd a b pc : Nat} {z : Int32} {v0 v1 v2 v3 v4 : Value} {w : Value} {R r : List Value} {M : am_M} (hv : am_nl v4 = true) : am_step g (.istore 5) kd a b pc (v0 :: v1 :: v2 :: v3 :: v4 :: w :: R) (.int z :: r) M = some (pc + am_len pc (.istore 5), v0 :: v1 :: v2 :: v3 :: v4 :: .int z :: R, r, M) := by cases v4 <;> first | rfl | cases hv
theorem am_sx5s {g kd a b pc : Nat} {z : Nat} {v0 v1 v2 v3 v4 : Value} {w : Value} {R r : List Value} {M : am_M} (hv : am_nl v4 = true) : am_step g (.astore 5) kd a b pc (v0 :: v1 :: v2 :: v3 :: v4 :: w :: R) (.ref z :: r) M = some (pc + am_len pc (.astore 5), v0 :: v1 :: v2 :: v3 :: v4 :: .ref z :: R, r, M) := by cases v4 <;> first | rfl | cases hv
theorem am_sx5z {g kd a b pc : Nat} {v0 v1 v2 v3 v4 : Value} {w : Value} {R r : List Value} {M : am_M} (hv : am_nl v4 = true) : am_step g (.astore 5) kd a b pc (v0 :: v1 :: v2 :: v3 :: v4 :: w :: R) (.null :: r) M = some (pc + am_len pc (.astore 5), v0 :: v1 :: v2 :: v3 :: v4 :: .null :: R, r, M) := by cases v4 <;> first | rfl | cases hv
theorem am_sx5l {g kd a b pc : Nat} {z : Int64} {v0 v1 v2 v3 v4 : Value} {w u : Value} {R r : List Value} {M : am_M} (hv : am_nl v4 = true) : am_step g (.lstore 5) kd a b pc (v0 :: v1 :: v2 :: v3 :: v4 :: w :: u :: R) (.long z :: r) M = some (pc + am_len pc (.lstore 5), v0 :: v1 :: v2 :: v3 :: v4 :: .long z :: am_U :: R, r, M) := by cases v4 <;> first | rfl | cases hv
theorem am_sx5n {g kd a b pc : Nat} {z : Int32} {n : Int} {v0 v1 v2 v3 v4 : Value} {R r : List Value} {M : am_M} (hv : am_nl v4 = true) : am_step g (.iinc 5 n) kd a b pc (v0 :: v1 :: v2 :: v3 :: v4 :: .int z :: R) r M = some (pc + am_len pc (.iinc 5 n), v0 :: v1 :: v2 :: v3 :: v4 :: .int (z + Int32.ofInt n) :: R, r, M) := by cases v4 <;> first | rfl | cases hv
theorem am_sx6i {g kd a b pc : Nat} {z : Int32} {v0 v1 v2 v3 v4 v5 : Value} {w : Value} {R r : List Value} {M : am_M} (hv : am_nl v5 = true) : am_step g (.istore 6) kd a b pc (v0 :: v1 :: v2 :: v3 :: v4 :: v5 :: w :: R) (.int z :: r) M = some (pc + am_len pc (.istore 6), v0 :: v1 :: v2 :: v3 :: v4 :: v5 :: .int z :: R, r, M) := by cases v5 <;> first | rfl | cases hv
theorem am_sx6s {g kd a b pc : Nat} {z : Nat} {v0 v1 v2 v3 v4 v5 : Value} {w : Value} {R r : List Value} {M : am_M} (hv : am_nl v5 = true) : am_step g (.astore 6) kd a b pc (v0 :: v1 :: v2 :: v3 :: v4 :: v5 :: w :: R) (.ref z :: r) M = some (pc + am_len pc (.astore 6), v0 :: v1 :: v2 :: v3 :: v4 :: v5 :: .ref z :: R, r, M) := by cases v5 <;> first | rfl | cases hv
theorem am_sx6z {g kd a b pc : Nat} {v0 v1 v2 v3 v4 v5 : Value} {w : Value} {R r : List Value} {M : am_M} (hv : am_nl v5 = true) : am_step g (.astore 6) kd a b pc (v0 :: v1 :: v2 :: v3 :: v4 :: v5 :: w :: R) (.null :: r) M = some (pc + am_len pc (.astore 6), v0 :: v1 :: v2 :: v3 :: v4 :: v5 :: .null :: R, r, M) := by cases v5 <;> first | rfl | cases hv
theorem am_sx6l {g kd a b pc : Nat} {z : Int64} {v0 v1 v2 v3 v4 v5 : Value} {w u : Value} {R r : List Value} {M : am_M} (hv : am_nl v5 = true) : am_step g (.lstore 6) kd a b pc (v0 :: v1 :: v2 :: v3 :: v4 :: v5 :: w :: u :: R) (.long z :: r) M = some (pc + am_len pc (.lstore 6), v0 :: v1 :: v2 :: v3 :: v4 :: v5 :: .long z :: am_U :: R, r, M) := by cases v5 <;> first | rfl | cases hv
theorem am_sx6n {g kd a b pc : Nat} {z : Int32} {n : Int} {v0 v1 v2 v3 v4 v5 : Value} {R r : List Value} {M : am_M} (hv : am_nl v5 = true) : am_step g (.iinc 6 n) kd a b pc (v0 :: v1 :: v2 :: v3 :: v4 :: v5 :: .int z :: R) r M = some (pc + am_len pc (.iinc 6 n), v0 :: v1 :: v2 :: v3 :: v4 :: v5 :: .int (z + Int32.ofInt n) :: R, r, M) := by cases v5 <;> first | rfl | cases hv
theorem am_sx7i {g kd a b pc : Nat} {z : Int32} {v0 v1 v2 v3 v4 v5 v6 : Value} {w : Value} {R r : List Value} {M : am_M} (hv : am_nl v6 = true) : am_step g (.istore 7) kd a b pc (v0 :: v1 :: v2 :: v3 :: v4 :: v5 :: v6 :: w :: R) (.int z :: r) M = some (pc + am_len pc (.istore 7), v0 :: v1 :: v2 :: v3 :: v4 :: v5 :: v6 :: .int z :: R, r, M) := by cases v6 <;> first | rfl | cases hv
theorem am_sx7s {g kd a b pc : Nat} {z : Nat} {v0 v1 v2 v3 v4 v5 v6 : Value} {w : Value} {R r : List Value} {M : am_M} (hv : am_nl v6 = true) : am_step g (.astore 7) kd a b pc (v0 :: v1 :: v2 :: v3 :: v4 :: v5 :: v6 :: w :: R) (.ref z :: r) M = some (pc + am_len pc (.astore 7), v0 :: v1 :: v2 :: v3 :: v4 :: v5 :: v6 :: .ref z :: R, r, M) := by cases v6 <;> first | rfl | cases hv
theorem am_sx7z {g kd a b pc : Nat} {v0 v1 v2 v3 v4 v5 v6 : Value} {w : Value} {R r : List Value} {M : am_M} (hv : am_nl v6 = true) : am_step g (.astore 7) kd a b pc (v0 :: v1 :: v2 :: v3 :: v4 :: v5 :: v6 :: w :: R) (.null :: r) M = some (pc + am_len pc (.astore 7), v0 :: v1 :: v2 :: v3 :: v4 :: v5 :: v6 :: .null :: R, r, M) := by cases v6 <;> first | rfl | cases hv
theorem am_sx7l {g kd a b pc : Nat} {z : Int64} {v0 v1 v2 v3 v4 v5 v6 : Value} {w u : Value} {R r : List Value} {M : am_M} (hv : am_nl v6 = true) : am_step g (.lstore 7) kd a b pc (v0 :: v1 :: v2 :: v3 :: v4 :: v5 :: v6 :: w :: u :: R) (.long z :: r) M = some (pc + am_len pc (.lstore 7), v0 :: v1 :: v2 :: v3 :: v4 :: v5 :: v6 :: .long z :: am_U :: R, r, M) := by cases v6 <;> first | rfl | cases hv
theorem am_sx7n {g kd a b pc : Nat} {z : Int32} {n : Int} {v0 v1 v2 v3 v4 v5 v6 : Value} {R r : List Value} {M : am_M} (hv : am_nl v6 = true) : am_step g (.iinc 7 n) kd a b pc (v0 :: v1 :: v2 :: v3 :: v4 :: v5 :: v6 :: .int z :: R) r M = some (pc + am_len pc (.iinc 7 n), v0 :: v1 :: v2 :: v3 :: v4 :: v5 :: v6 :: .int (z + Int32.ofInt n) :: R, r, M) := by cases v6 <;> first | rfl | cases hv
theorem am_sx8i {g kd a b pc : Nat} {z : Int32} {v0 v1 v2 v3 v4 v5 v6 v7 : Value} {w : Value} {R r : List Value} {M : am_M} (hv : am_nl v7 = true) : am_step g (.istore 8) kd a b pc (v0 :: v1 :: v2 :: v3 :: v4 :: v5 :: v6 :: v7 :: w :: R) (.int z :: r) M = some (pc + am_len pc (.istore 8), v0 :: v1 :: v2 :: v3 :: v4 :: v5 :: v6 :: v7 :: .int z :: R, r, M) := by cases v7 <;> first | rfl | cases hv
theorem am_sx8s {g kd a b pc : Nat} {z : Nat} {v0 v1 v2 v3 v4 v5 v6 v7 : Value} {w : Value} {R r : List Value} {M : am_M} (hv : am_nl v7 = true) : am_step g (.astore 8) kd a b pc (v0 :: v1 :: v2 :: v3 :: v4 :: v5 :: v6 :: v7 :: w :: R) (.ref z :: r) M = some (pc + am_len pc (.astore 8), v0 :: v1 :: v2 :: v3 :: v4 :: v5 :: v6 :: v7 :: .ref z :: R, r, M) := by cases v7 <;> first | rfl | cases hv
theorem am_sx8z {g kd a b pc : Nat} {v0 v1 v2 v3 v4 v5 v6 v7 : Value} {w : Value} {R r : List Value} {M : am_M} (hv : am_nl v7 = true) : am_step g (.astore 8) kd a b pc (v0 :: v1 :: v2 :: v3 :: v4 :: v5 :: v6 :: v7 :: w :: R) (.null :: r) M = some (pc + am_len pc (.astore 8), v0 :: v1 :: v2 :: v3 :: v4 :: v5 :: v6 :: v7 :: .null :: R, r, M) := by cases v7 <;> first | rfl | cases hv
theorem am_sx8n {g kd a b pc : Nat} {z : Int32} {n : Int} {v0 v1 v2 v3 v4 v5 v6 v7 : Value} {R r : List Value} {M : am_M} (hv : am_nl v7 = true) : am_step g (.iinc 8 n) kd a b pc (v0 :: v1 :: v2 :: v3 :: v4 :: v5 :: v6 :: v7 :: .int z :: R) r M = some (pc + am_len pc (.iinc 8 n), v0 :: v1 :: v2 :: v3 :: v4 :: v5 :: v6 :: v7 :: .int (z + Int32.ofInt n) :: R, r, M) := by cases v7 <;> first | rfl | cases hv
section GW
variable {d g y pc nx a b kd : Nat} {L r : List Value} {T : gT} {c J : gC} {Q : am_O → am_M → Prop}
theorem gw_il0 {z : Int} {R : List Value} (hi : am_at y pc nx (.iload_n 0) 0 a b) (h : gw d g y nx (gi z :: R) (gi z :: r) (gm T c J) Q) : gw d g y pc (gi z :: R) r (gm T c J) Q := gw_step hi (by decide) rfl (by rw [hi.2] at h; exact h)
theorem gw_ll0 {z : Int} {R : List Value} (hi : am_at y pc nx (.lload_n 0) 0 a b) (h : gw d g y nx (gl z :: R) (gl z :: r) (gm T c J) Q) : gw d g y pc (gl z :: R) r (gm T c J) Q := gw_step hi (by decide) rfl (by rw [hi.2] at h; exact h)
theorem gw_al0 {z : Nat} {R : List Value} (hi : am_at y pc nx (.aload_n 0) 0 a b) (h : gw d g y nx (.ref z :: R) (.ref z :: r) (gm T c J) Q) : gw d g y pc (.ref z :: R) r (gm T c J) Q := gw_step hi (by decide) rfl (by rw [hi.2] at h; exact h)
theorem gw_is0 {z : Int} {w : Value} {R : List Value} (hi : am_at y pc nx (.istore_n 0) 0 a b) (h : gw d g y nx (gi z :: R) r (gm T c J) Q) : gw d g y pc (w :: R) (gi z :: r) (gm T c J) Q := gw_step hi (by decide) (am_sx0i) (by rw [hi.2] at h; exact h)
theorem gw_as0 {z : Nat} {w : Value} {R : List Value} (hi : am_at y pc nx (.astore_n 0) 0 a b) (h : gw d g y nx (.ref z :: R) r (gm T c J) Q) : gw d g y pc (w :: R) (.ref z :: r) (gm T c J) Q := gw_step hi (by decide) (am_sx0s) (by rw [hi.2] at h; exact h)
theorem gw_az0 {w : Value} {R : List Value} (hi : am_at y pc nx (.astore_n 0) 0 a b) (h : gw d g y nx (.null :: R) r (gm T c J) Q) : gw d g y pc (w :: R) (.null :: r) (gm T c J) Q := gw_step hi (by decide) (am_sx0z) (by rw [hi.2] at h; exact h)
theorem gw_ls0 {z : Int} {w u : Value} {R : List Value} (hi : am_at y pc nx (.lstore_n 0) 0 a b) (h : gw d g y nx (gl z :: am_U :: R) r (gm T c J) Q) : gw d g y pc (w :: u :: R) (gl z :: r) (gm T c J) Q := gw_step hi (by decide) (am_sx0l) (by rw [hi.2] at h; exact h)
theorem gw_inc0 {z n : Int} {R : List Value} (hi : am_at y pc nx (.iinc 0 n) 0 a b) (h : gw d g y nx (gi (z + n) :: R) r (gm T c J) Q) : gw d g y pc (gi z :: R) r (gm T c J) Q := gw_step hi (by decide) (rfl) (by rw [hi.2] at h; rw [gi_add] at h; exact h)
theorem gw_il1 {z : Int} {v0 : Value} {R : List Value} (hi : am_at y pc nx (.iload_n 1) 0 a b) (h : gw d g y nx (v0 :: gi z :: R) (gi z :: r) (gm T c J) Q) : gw d g y pc (v0 :: gi z :: R) r (gm T c J) Q := gw_step hi (by decide) rfl (by rw [hi.2] at h; exact h)
theorem gw_ll1 {z : Int} {v0 : Value} {R : List Value} (hi : am_at y pc nx (.lload_n 1) 0 a b) (h : gw d g y nx (v0 :: gl z :: R) (gl z :: r) (gm T c J) Q) : gw d g y pc (v0 :: gl z :: R) r (gm T c J) Q := gw_step hi (by decide) rfl (by rw [hi.2] at h; exact h)
theorem gw_al1 {z : Nat} {v0 : Value} {R : List Value} (hi : am_at y pc nx (.aload_n 1) 0 a b) (h : gw d g y nx (v0 :: .ref z :: R) (.ref z :: r) (gm T c J) Q) : gw d g y pc (v0 :: .ref z :: R) r (gm T c J) Q := gw_step hi (by decide) rfl (by rw [hi.2] at h; exact h)
theorem gw_is1 {z : Int} {v0 : Value} {w : Value} {R : List Value} (hi : am_at y pc nx (.istore_n 1) 0 a b) (hv : am_nl v0 = true := by first | rfl | assumption) (h : gw d g y nx (v0 :: gi z :: R) r (gm T c J) Q) : gw d g y pc (v0 :: w :: R) (gi z :: r) (gm T c J) Q := gw_step hi (by decide) (am_sx1i hv) (by rw [hi.2] at h; exact h)
theorem gw_as1 {z : Nat} {v0 : Value} {w : Value} {R : List Value} (hi : am_at y pc nx (.astore_n 1) 0 a b) (hv : am_nl v0 = true := by first | rfl | assumption) (h : gw d g y nx (v0 :: .ref z :: R) r (gm T c J) Q) : gw d g y pc (v0 :: w :: R) (.ref z :: r) (gm T c J) Q := gw_step hi (by decide) (am_sx1s hv) (by rw [hi.2] at h; exact h)
theorem gw_az1 {v0 : Value} {w : Value} {R : List Value} (hi : am_at y pc nx (.astore_n 1) 0 a b) (hv : am_nl v0 = true := by first | rfl | assumption) (h : gw d g y nx (v0 :: .null :: R) r (gm T c J) Q) : gw d g y pc (v0 :: w :: R) (.null :: r) (gm T c J) Q := gw_step hi (by decide) (am_sx1z hv) (by rw [hi.2] at h; exact h)
theorem gw_ls1 {z : Int} {v0 : Value} {w u : Value} {R : List Value} (hi : am_at y pc nx (.lstore_n 1) 0 a b) (hv : am_nl v0 = true := by first | rfl | assumption) (h : gw d g y nx (v0 :: gl z :: am_U :: R) r (gm T c J) Q) : gw d g y pc (v0 :: w :: u :: R) (gl z :: r) (gm T c J) Q := gw_step hi (by decide) (am_sx1l hv) (by rw [hi.2] at h; exact h)
theorem gw_inc1 {z n : Int} {v0 : Value} {R : List Value} (hi : am_at y pc nx (.iinc 1 n) 0 a b) (hv : am_nl v0 = true := by first | rfl | assumption) (h : gw d g y nx (v0 :: gi (z + n) :: R) r (gm T c J) Q) : gw d g y pc (v0 :: gi z :: R) r (gm T c J) Q := gw_step hi (by decide) (am_sx1n hv) (by rw [hi.2] at h; rw [gi_add] at h; exact h)
theorem gw_il2 {z : Int} {v0 v1 : Value} {R : List Value} (hi : am_at y pc nx (.iload_n 2) 0 a b) (h : gw d g y nx (v0 :: v1 :: gi z :: R) (gi z :: r) (gm T c J) Q) : gw d g y pc (v0 :: v1 :: gi z :: R) r (gm T c J) Q := gw_step hi (by decide) rfl (by rw [hi.2] at h; exact h)
theorem gw_ll2 {z : Int} {v0 v1 : Value} {R : List Value} (hi : am_at y pc nx (.lload_n 2) 0 a b) (h : gw d g y nx (v0 :: v1 :: gl z :: R) (gl z :: r) (gm T c J) Q) : gw d g y pc (v0 :: v1 :: gl z :: R) r (gm T c J) Q := gw_step hi (by decide) rfl (by rw [hi.2] at h; exact h)
theorem gw_al2 {z : Nat} {v0 v1 : Value} {R : List Value} (hi : am_at y pc nx (.aload_n 2) 0 a b) (h : gw d g y nx (v0 :: v1 :: .ref z :: R) (.ref z :: r) (gm T c J) Q) : gw d g y pc (v0 :: v1 :: .ref z :: R) r (gm T c J) Q := gw_step hi (by decide) rfl (by rw [hi.2] at h; exact h)
theorem gw_is2 {z : Int} {v0 v1 : Value} {w : Value} {R : List Value} (hi : am_at y pc nx (.istore_n 2) 0 a b) (hv : am_nl v1 = true := by first | rfl | assumption) (h : gw d g y nx (v0 :: v1 :: gi z :: R) r (gm T c J) Q) : gw d g y pc (v0 :: v1 :: w :: R) (gi z :: r) (gm T c J) Q := gw_step hi (by decide) (am_sx2i hv) (by rw [hi.2] at h; exact h)
theorem gw_as2 {z : Nat} {v0 v1 : Value} {w : Value} {R : List Value} (hi : am_at y pc nx (.astore_n 2) 0 a b) (hv : am_nl v1 = true := by first | rfl | assumption) (h : gw d g y nx (v0 :: v1 :: .ref z :: R) r (gm T c J) Q) : gw d g y pc (v0 :: v1 :: w :: R) (.ref z :: r) (gm T c J) Q := gw_step hi (by decide) (am_sx2s hv) (by rw [hi.2] at h; exact h)
theorem gw_az2 {v0 v1 : Value} {w : Value} {R : List Value} (hi : am_at y pc nx (.astore_n 2) 0 a b) (hv : am_nl v1 = true := by first | rfl | assumption) (h : gw d g y nx (v0 :: v1 :: .null :: R) r (gm T c J) Q) : gw d g y pc (v0 :: v1 :: w :: R) (.null :: r) (gm T c J) Q := gw_step hi (by decide) (am_sx2z hv) (by rw [hi.2] at h; exact h)
theorem gw_ls2 {z : Int} {v0 v1 : Value} {w u : Value} {R : List Value} (hi : am_at y pc nx (.lstore_n 2) 0 a b) (hv : am_nl v1 = true := by first | rfl | assumption) (h : gw d g y nx (v0 :: v1 :: gl z :: am_U :: R) r (gm T c J) Q) : gw d g y pc (v0 :: v1 :: w :: u :: R) (gl z :: r) (gm T c J) Q := gw_step hi (by decide) (am_sx2l hv) (by rw [hi.2] at h; exact h)
theorem gw_inc2 {z n : Int} {v0 v1 : Value} {R : List Value} (hi : am_at y pc nx (.iinc 2 n) 0 a b) (hv : am_nl v1 = true := by first | rfl | assumption) (h : gw d g y nx (v0 :: v1 :: gi (z + n) :: R) r (gm T c J) Q) : gw d g y pc (v0 :: v1 :: gi z :: R) r (gm T c J) Q := gw_step hi (by decide) (am_sx2n hv) (by rw [hi.2] at h; rw [gi_add] at h; exact h)
theorem gw_il3 {z : Int} {v0 v1 v2 : Value} {R : List Value} (hi : am_at y pc nx (.iload_n 3) 0 a b) (h : gw d g y nx (v0 :: v1 :: v2 :: gi z :: R) (gi z :: r) (gm T c J) Q) : gw d g y pc (v0 :: v1 :: v2 :: gi z :: R) r (gm T c J) Q := gw_step hi (by decide) rfl (by rw [hi.2] at h; exact h)
theorem gw_ll3 {z : Int} {v0 v1 v2 : Value} {R : List Value} (hi : am_at y pc nx (.lload_n 3) 0 a b) (h : gw d g y nx (v0 :: v1 :: v2 :: gl z :: R) (gl z :: r) (gm T c J) Q) : gw d g y pc (v0 :: v1 :: v2 :: gl z :: R) r (gm T c J) Q := gw_step hi (by decide) rfl (by rw [hi.2] at h; exact h)
theorem gw_al3 {z : Nat} {v0 v1 v2 : Value} {R : List Value} (hi : am_at y pc nx (.aload_n 3) 0 a b) (h : gw d g y nx (v0 :: v1 :: v2 :: .ref z :: R) (.ref z :: r) (gm T c J) Q) : gw d g y pc (v0 :: v1 :: v2 :: .ref z :: R) r (gm T c J) Q := gw_step hi (by decide) rfl (by rw [hi.2] at h; exact h)
theorem gw_is3 {z : Int} {v0 v1 v2 : Value} {w : Value} {R : List Value} (hi : am_at y pc nx (.istore_n 3) 0 a b) (hv : am_nl v2 = true := by first | rfl | assumption) (h : gw d g y nx (v0 :: v1 :: v2 :: gi z :: R) r (gm T c J) Q) : gw d g y pc (v0 :: v1 :: v2 :: w :: R) (gi z :: r) (gm T c J) Q := gw_step hi (by decide) (am_sx3i hv) (by rw [hi.2] at h; exact h)
theorem gw_as3 {z : Nat} {v0 v1 v2 : Value} {w : Value} {R : List Value} (hi : am_at y pc nx (.astore_n 3) 0 a b) (hv : am_nl v2 = true := by first | rfl | assumption) (h : gw d g y nx (v0 :: v1 :: v2 :: .ref z :: R) r (gm T c J) Q) : gw d g y pc (v0 :: v1 :: v2 :: w :: R) (.ref z :: r) (gm T c J) Q := gw_step hi (by decide) (am_sx3s hv) (by rw [hi.2] at h; exact h)
theorem gw_az3 {v0 v1 v2 : Value} {w : Value} {R : List Value} (hi : am_at y pc nx (.astore_n 3) 0 a b) (hv : am_nl v2 = true := by first | rfl | assumption) (h : gw d g y nx (v0 :: v1 :: v2 :: .null :: R) r (gm T c J) Q) : gw d g y pc (v0 :: v1 :: v2 :: w :: R) (.null :: r) (gm T c J) Q := gw_step hi (by decide) (am_sx3z hv) (by rw [hi.2] at h; exact h)
theorem gw_ls3 {z : Int} {v0 v1 v2 : Value} {w u : Value} {R : List Value} (hi : am_at y pc nx (.lstore_n 3) 0 a b) (hv : am_nl v2 = true := by first | rfl | assumption) (h : gw d g y nx (v0 :: v1 :: v2 :: gl z :: am_U :: R) r (gm T c J) Q) : gw d g y pc (v0 :: v1 :: v2 :: w :: u :: R) (gl z :: r) (gm T c J) Q := gw_step hi (by decide) (am_sx3l hv) (by rw [hi.2] at h; exact h)
theorem gw_inc3 {z n : Int} {v0 v1 v2 : Value} {R : List Value} (hi : am_at y pc nx (.iinc 3 n) 0 a b) (hv : am_nl v2 = true := by first | rfl | assumption) (h : gw d g y nx (v0 :: v1 :: v2 :: gi (z + n) :: R) r (gm T c J) Q) : gw d g y pc (v0 :: v1 :: v2 :: gi z :: R) r (gm T c J) Q := gw_step hi (by decide) (am_sx3n hv) (by rw [hi.2] at h; rw [gi_add] at h; exact h)
theorem gw_il4 {z : Int} {v0 v1 v2 v3 : Value} {R : List Value} (hi : am_at y pc nx (.iload 4) 0 a b) (h : gw d g y nx (v0 :: v1 :: v2 :: v3 :: gi z :: R) (gi z :: r) (gm T c J) Q) : gw d g y pc (v0 :: v1 :: v2 :: v3 :: gi z :: R) r (gm T c J) Q := gw_step hi (by decide) rfl (by rw [hi.2] at h; exact h)
theorem gw_ll4 {z : Int} {v0 v1 v2 v3 : Value} {R : List Value} (hi : am_at y pc nx (.lload 4) 0 a b) (h : gw d g y nx (v0 :: v1 :: v2 :: v3 :: gl z :: R) (gl z :: r) (gm T c J) Q) : gw d g y pc (v0 :: v1 :: v2 :: v3 :: gl z :: R) r (gm T c J) Q := gw_step hi (by decide) rfl (by rw [hi.2] at h; exact h)
theorem gw_al4 {z : Nat} {v0 v1 v2 v3 : Value} {R : List Value} (hi : am_at y pc nx (.aload 4) 0 a b) (h : gw d g y nx (v0 :: v1 :: v2 :: v3 :: .ref z :: R) (.ref z :: r) (gm T c J) Q) : gw d g y pc (v0 :: v1 :: v2 :: v3 :: .ref z :: R) r (gm T c J) Q := gw_step hi (by decide) rfl (by rw [hi.2] at h; exact h)
theorem gw_is4 {z : Int} {v0 v1 v2 v3 : Value} {w : Value} {R : List Value} (hi : am_at y pc nx (.istore 4) 0 a b) (hv : am_nl v3 = true := by first | rfl | assumption) (h : gw d g y nx (v0 :: v1 :: v2 :: v3 :: gi z :: R) r (gm T c J) Q) : gw d g y pc (v0 :: v1 :: v2 :: v3 :: w :: R) (gi z :: r) (gm T c J) Q := gw_step hi (by decide) (am_sx4i hv) (by rw [hi.2] at h; exact h)
theorem gw_as4 {z : Nat} {v0 v1 v2 v3 : Value} {w : Value} {R : List Value} (hi : am_at y pc nx (.astore 4) 0 a b) (hv : am_nl v3 = true := by first | rfl | assumption) (h : gw d g y nx (v0 :: v1 :: v2 :: v3 :: .ref z :: R) r (gm T c J) Q) : gw d g y pc (v0 :: v1 :: v2 :: v3 :: w :: R) (.ref z :: r) (gm T c J) Q := gw_step hi (by decide) (am_sx4s hv) (by rw [hi.2] at h; exact h)
theorem gw_az4 {v0 v1 v2 v3 : Value} {w : Value} {R : List Value} (hi : am_at y pc nx (.astore 4) 0 a b) (hv : am_nl v3 = true := by first | rfl | assumption) (h : gw d g y nx (v0 :: v1 :: v2 :: v3 :: .null :: R) r (gm T c J) Q) : gw d g y pc (v0 :: v1 :: v2 :: v3 :: w :: R) (.null :: r) (gm T c J) Q := gw_step hi (by decide) (am_sx4z hv) (by rw [hi.2] at h; exact h)
theorem gw_ls4 {z : Int} {v0 v1 v2 v3 : Value} {w u : Value} {R : List Value} (hi : am_at y pc nx (.lstore 4) 0 a b) (hv : am_nl v3 = true := by first | rfl | assumption) (h : gw d g y nx (v0 :: v1 :: v2 :: v3 :: gl z :: am_U :: R) r (gm T c J) Q) : gw d g y pc (v0 :: v1 :: v2 :: v3 :: w :: u :: R) (gl z :: r) (gm T c J) Q := gw_step hi (by decide) (am_sx4l hv) (by rw [hi.2] at h; exact h)
theorem gw_inc4 {z n : Int} {v0 v1 v2 v3 : Value} {R : List Value} (hi : am_at y pc nx (.iinc 4 n) 0 a b) (hv : am_nl v3 = true := by first | rfl | assumption) (h : gw d g y nx (v0 :: v1 :: v2 :: v3 :: gi (z + n) :: R) r (gm T c J) Q) : gw d g y pc (v0 :: v1 :: v2 :: v3 :: gi z :: R) r (gm T c J) Q := gw_step hi (by decide) (am_sx4n hv) (by rw [hi.2] at h; rw [gi_add] at h; exact h)
theorem gw_il5 {z : Int} {v0 v1 v2 v3 v4 : Value} {R : List Value} (hi : am_at y pc nx (.iload 5) 0 a b) (h : gw d g y nx (v0 :: v1 :: v2 :: v3 :: v4 :: gi z :: R) (gi z :: r) (gm T c J) Q) : gw d g y pc (v0 :: v1 :: v2 :: v3 :: v4 :: gi z :: R) r (gm T c J) Q := gw_step hi (by decide) rfl (by rw [hi.2] at h; exact h)
theorem gw_ll5 {z : Int} {v0 v1 v2 v3 v4 : Value} {R : List Value} (hi : am_at y pc nx (.lload 5) 0 a b) (h : gw d g y nx (v0 :: v1 :: v2 :: v3 :: v4 :: gl z :: R) (gl z :: r) (gm T c J) Q) : gw d g y pc (v0 :: v1 :: v2 :: v3 :: v4 :: gl z :: R) r (gm T c J) Q := gw_step hi (by decide) rfl (by rw [hi.2] at h; exact h)
theorem gw_al5 {z : Nat} {v0 v1 v2 v3 v4 : Value} {R : List Value} (hi : am_at y pc nx (.aload 5) 0 a b) (h : gw d g y nx (v0 :: v1 :: v2 :: v3 :: v4 :: .ref z :: R) (.ref z :: r) (gm T c J) Q) : gw d g y pc (v0 :: v1 :: v2 :: v3 :: v4 :: .ref z :: R) r (gm T c J) Q := gw_step hi (by decide) rfl (by rw [hi.2] at h; exact h)
theorem gw_is5 {z : Int} {v0 v1 v2 v3 v4 : Value} {w : Value} {R : List Value} (hi : am_at y pc nx (.istore 5) 0 a b) (hv : am_nl v4 = true := by first | rfl | assumption) (h : gw d g y nx (v0 :: v1 :: v2 :: v3 :: v4 :: gi z :: R) r (gm T c J) Q) : gw d g y pc (v0 :: v1 :: v2 :: v3 :: v4 :: w :: R) (gi z :: r) (gm T c J) Q := gw_step hi (by decide) (am_sx5i hv) (by rw [hi.2] at h; exact h)
theorem gw_as5 {z : Nat} {v0 v1 v2 v3 v4 : Value} {w : Value} {R : List Value} (hi : am_at y pc nx (.astore 5) 0 a b) (hv : am_nl v4 = true := by first | rfl | assumption) (h : gw d g y nx (v0 :: v1 :: v2 :: v3 :: v4 :: .ref z :: R) r (gm T c J) Q) : gw d g y pc (v0 :: v1 :: v2 :: v3 :: v4 :: w :: R) (.ref z :: r) (gm T c J) Q := gw_step hi (by decide) (am_sx5s hv) (by rw [hi.2] at h; exact h)
theorem gw_az5 {v0 v1 v2 v3 v4 : Value} {w : Value} {R : List Value} (hi : am_at y pc nx (.astore 5) 0 a b) (hv : am_nl v4 = true := by first | rfl | assumption) (h : gw d g y nx (v0 :: v1 :: v2 :: v3 :: v4 :: .null :: R) r (gm T c J) Q) : gw d g y pc (v0 :: v1 :: v2 :: v3 :: v4 :: w :: R) (.null :: r) (gm T c J) Q := gw_step hi (by decide) (am_sx5z hv) (by rw [hi.2] at h; exact h)
theorem gw_ls5 {z : Int} {v0 v1 v2 v3 v4 : Value} {w u : Value} {R : List Value} (hi : am_at y pc nx (.lstore 5) 0 a b) (hv : am_nl v4 = true := by first | rfl | assumption) (h : gw d g y nx (v0 :: v1 :: v2 :: v3 :: v4 :: gl z :: am_U :: R) r (gm T c J) Q) : gw d g y pc (v0 :: v1 :: v2 :: v3 :: v4 :: w :: u :: R) (gl z :: r) (gm T c J) Q := gw_step hi (by decide) (am_sx5l hv) (by rw [hi.2] at h; exact h)
theorem gw_inc5 {z n : Int} {v0 v1 v2 v3 v4 : Value} {R : List Value} (hi : am_at y pc nx (.iinc 5 n) 0 a b) (hv : am_nl v4 = true := by first | rfl | assumption) (h : gw d g y nx (v0 :: v1 :: v2 :: v3 :: v4 :: gi (z + n) :: R) r (gm T c J) Q) : gw d g y pc (v0 :: v1 :: v2 :: v3 :: v4 :: gi z :: R) r (gm T c J) Q := gw_step hi (by decide) (am_sx5n hv) (by rw [hi.2] at h; rw [gi_add] at h; exact h)
theorem gw_il6 {z : Int} {v0 v1 v2 v3 v4 v5 : Value} {R : List Value} (hi : am_at y pc nx (.iload 6) 0 a b) (h : gw d g y nx (v0 :: v1 :: v2 :: v3 :: v4 :: v5 :: gi z :: R) (gi z :: r) (gm T c J) Q) : gw d g y pc (v0 :: v1 :: v2 :: v3 :: v4 :: v5 :: gi z :: R) r (gm T c J) Q := gw_step hi (by decide) rfl (by rw [hi.2] at h; exact h)
theorem gw_ll6 {z : Int} {v0 v1 v2 v3 v4 v5 : Value} {R : List Value} (hi : am_at y pc nx (.lload 6) 0 a b) (h : gw d g y nx (v0 :: v1 :: v2 :: v3 :: v4 :: v5 :: gl z :: R) (gl z :: r) (gm T c J) Q) : gw d g y pc (v0 :: v1 :: v2 :: v3 :: v4 :: v5 :: gl z :: R) r (gm T c J) Q := gw_step hi (by decide) rfl (by rw [hi.2] at h; exact h)
theorem gw_al6 {z : Nat} {v0 v1 v2 v3 v4 v5 : Value} {R : List Value} (hi : am_at y pc nx (.aload 6) 0 a b) (h : gw d g y nx (v0 :: v1 :: v2 :: v3 :: v4 :: v5 :: .ref z :: R) (.ref z :: r) (gm T c J) Q) : gw d g y pc (v0 :: v1 :: v2 :: v3 :: v4 :: v5 :: .ref z :: R) r (gm T c J) Q := gw_step hi (by decide) rfl (by rw [hi.2] at h; exact h)
theorem gw_is6 {z : Int} {v0 v1 v2 v3 v4 v5 : Value} {w : Value} {R : List Value} (hi : am_at y pc nx (.istore 6) 0 a b) (hv : am_nl v5 = true := by first | rfl | assumption) (h : gw d g y nx (v0 :: v1 :: v2 :: v3 :: v4 :: v5 :: gi z :: R) r (gm T c J) Q) : gw d g y pc (v0 :: v1 :: v2 :: v3 :: v4 :: v5 :: w :: R) (gi z :: r) (gm T c J) Q := gw_step hi (by decide) (am_sx6i hv) (by rw [hi.2] at h; exact h)
theorem gw_as6 {z : Nat} {v0 v1 v2 v3 v4 v5 : Value} {w : Value} {R : List Value} (hi : am_at y pc nx (.astore 6) 0 a b) (hv : am_nl v5 = true := by first | rfl | assumption) (h : gw d g y nx (v0 :: v1 :: v2 :: v3 :: v4 :: v5 :: .ref z :: R) r (gm T c J) Q) : gw d g y pc (v0 :: v1 :: v2 :: v3 :: v4 :: v5 :: w :: R) (.ref z :: r) (gm T c J) Q := gw_step hi (by decide) (am_sx6s hv) (by rw [hi.2] at h; exact h)
theorem gw_az6 {v0 v1 v2 v3 v4 v5 : Value} {w : Value} {R : List Value} (hi : am_at y pc nx (.astore 6) 0 a b) (hv : am_nl v5 = true := by first | rfl | assumption) (h : gw d g y nx (v0 :: v1 :: v2 :: v3 :: v4 :: v5 :: .null :: R) r (gm T c J) Q) : gw d g y pc (v0 :: v1 :: v2 :: v3 :: v4 :: v5 :: w :: R) (.null :: r) (gm T c J) Q := gw_step hi (by decide) (am_sx6z hv) (by rw [hi.2] at h; exact h)
theorem gw_ls6 {z : Int} {v0 v1 v2 v3 v4 v5 : Value} {w u : Value} {R : List Value} (hi : am_at y pc nx (.lstore 6) 0 a b) (hv : am_nl v5 = true := by first | rfl | assumption) (h : gw d g y nx (v0 :: v1 :: v2 :: v3 :: v4 :: v5 :: gl z :: am_U :: R) r (gm T c J) Q) : gw d g y pc (v0 :: v1 :: v2 :: v3 :: v4 :: v5 :: w :: u :: R) (gl z :: r) (gm T c J) Q := gw_step hi (by decide) (am_sx6l hv) (by rw [hi.2] at h; exact h)
theorem gw_inc6 {z n : Int} {v0 v1 v2 v3 v4 v5 : Value} {R : List Value} (hi : am_at y pc nx (.iinc 6 n) 0 a b) (hv : am_nl v5 = true := by first | rfl | assumption) (h : gw d g y nx (v0 :: v1 :: v2 :: v3 :: v4 :: v5 :: gi (z + n) :: R) r (gm T c J) Q) : gw d g y pc (v0 :: v1 :: v2 :: v3 :: v4 :: v5 :: gi z :: R) r (gm T c J) Q := gw_step hi (by decide) (am_sx6n hv) (by rw [hi.2] at h; rw [gi_add] at h; exact h)
theorem gw_il7 {z : Int} {v0 v1 v2 v3 v4 v5 v6 : Value} {R : List Value} (hi : am_at y pc nx (.iload 7) 0 a b) (h : gw d g y nx (v0 :: v1 :: v2 :: v3 :: v4 :: v5 :: v6 :: gi z :: R) (gi z :: r) (gm T c J) Q) : gw d g y pc (v0 :: v1 :: v2 :: v3 :: v4 :: v5 :: v6 :: gi z :: R) r (gm T c J) Q := gw_step hi (by decide) rfl (by rw [hi.2] at h; exact h)
theorem gw_ll7 {z : Int} {v0 v1 v2 v3 v4 v5 v6 : Value} {R : List Value} (hi : am_at y pc nx (.lload 7) 0 a b) (h : gw d g y nx (v0 :: v1 :: v2 :: v3 :: v4 :: v5 :: v6 :: gl z :: R) (gl z :: r) (gm T c J) Q) : gw d g y pc (v0 :: v1 :: v2 :: v3 :: v4 :: v5 :: v6 :: gl z :: R) r (gm T c J) Q := gw_step hi (by decide) rfl (by rw [hi.2] at h; exact h)
theorem gw_al7 {z : Nat} {v0 v1 v2 v3 v4 v5 v6 : Value} {R : List Value} (hi : am_at y pc nx (.aload 7) 0 a b) (h : gw d g y nx (v0 :: v1 :: v2 :: v3 :: v4 :: v5 :: v6 :: .ref z :: R) (.ref z :: r) (gm T c J) Q) : gw d g y pc (v0 :: v1 :: v2 :: v3 :: v4 :: v5 :: v6 :: .ref z :: R) r (gm T c J) Q := gw_step hi (by decide) rfl (by rw [hi.2] at h; exact h)
theorem gw_is7 {z : Int} {v0 v1 v2 v3 v4 v5 v6 : Value} {w : Value} {R : List Value} (hi : am_at y pc nx (.istore 7) 0 a b) (hv : am_nl v6 = true := by first | rfl | assumption) (h : gw d g y nx (v0 :: v1 :: v2 :: v3 :: v4 :: v5 :: v6 :: gi z :: R) r (gm T c J) Q) : gw d g y pc (v0 :: v1 :: v2 :: v3 :: v4 :: v5 :: v6 :: w :: R) (gi z :: r) (gm T c J) Q := gw_step hi (by decide) (am_sx7i hv) (by rw [hi.2] at h; exact h)
theorem gw_as7 {z : Nat} {v0 v1 v2 v3 v4 v5 v6 : Value} {w : Value} {R : List Value} (hi : am_at y pc nx (.astore 7) 0 a b) (hv : am_nl v6 = true := by first | rfl | assumption) (h : gw d g y nx (v0 :: v1 :: v2 :: v3 :: v4 :: v5 :: v6 :: .ref z :: R) r (gm T c J) Q) : gw d g y pc (v0 :: v1 :: v2 :: v3 :: v4 :: v5 :: v6 :: w :: R) (.ref z :: r) (gm T c J) Q := gw_step hi (by decide) (am_sx7s hv) (by rw [hi.2] at h; exact h)
theorem gw_az7 {v0 v1 v2 v3 v4 v5 v6 : Value} {w : Value} {R : List Value} (hi : am_at y pc nx (.astore 7) 0 a b) (hv : am_nl v6 = true := by first | rfl | assumption) (h : gw d g y nx (v0 :: v1 :: v2 :: v3 :: v4 :: v5 :: v6 :: .null :: R) r (gm T c J) Q) : gw d g y pc (v0 :: v1 :: v2 :: v3 :: v4 :: v5 :: v6 :: w :: R) (.null :: r) (gm T c J) Q := gw_step hi (by decide) (am_sx7z hv) (by rw [hi.2] at h; exact h)
theorem gw_ls7 {z : Int} {v0 v1 v2 v3 v4 v5 v6 : Value} {w u : Value} {R : List Value} (hi : am_at y pc nx (.lstore 7) 0 a b) (hv : am_nl v6 = true := by first | rfl | assumption) (h : gw d g y nx (v0 :: v1 :: v2 :: v3 :: v4 :: v5 :: v6 :: gl z :: am_U :: R) r (gm T c J) Q) : gw d g y pc (v0 :: v1 :: v2 :: v3 :: v4 :: v5 :: v6 :: w :: u :: R) (gl z :: r) (gm T c J) Q := gw_step hi (by decide) (am_sx7l hv) (by rw [hi.2] at h; exact h)
theorem gw_inc7 {z n : Int} {v0 v1 v2 v3 v4 v5 v6 : Value} {R : List Value} (hi : am_at y pc nx (.iinc 7 n) 0 a b) (hv : am_nl v6 = true := by first | rfl | assumption) (h : gw d g y nx (v0 :: v1 :: v2 :: v3 :: v4 :: v5 :: v6 :: gi (z + n) :: R) r (gm T c J) Q) : gw d g y pc (v0 :: v1 :: v2 :: v3 :: v4 :: v5 :: v6 :: gi z :: R) r (gm T c J) Q := gw_step hi (by decide) (am_sx7n hv) (by rw [hi.2] at h; rw [gi_add] at h; exact h)
theorem gw_il8 {z : Int} {v0 v1 v2 v3 v4 v5 v6 v7 : Value} {R : List Value} (hi : am_at y pc nx (.iload 8) 0 a b) (h : gw d g y nx (v0 :: v1 :: v2 :: v3 :: v4 :: v5 :: v6 :: v7 :: gi z :: R) (gi z :: r) (gm T c J) Q) : gw d g y pc (v0 :: v1 :: v2 :: v3 :: v4 :: v5 :: v6 :: v7 :: gi z :: R) r (gm T c J) Q := gw_step hi (by decide) rfl (by rw [hi.2] at h; exact h)
theorem gw_al8 {z : Nat} {v0 v1 v2 v3 v4 v5 v6 v7 : Value} {R : List Value} (hi : am_at y pc nx (.aload 8) 0 a b) (h : gw d g y nx (v0 :: v1 :: v2 :: v3 :: v4 :: v5 :: v6 :: v7 :: .ref z :: R) (.ref z :: r) (gm T c J) Q) : gw d g y pc (v0 :: v1 :: v2 :: v3 :: v4 :: v5 :: v6 :: v7 :: .ref z :: R) r (gm T c J) Q := gw_step hi (by decide) rfl (by rw [hi.2] at h; exact h)
theorem gw_is8 {z : Int} {v0 v1 v2 v3 v4 v5 v6 v7 : Value} {w : Value} {R : List Value} (hi : am_at y pc nx (.istore 8) 0 a b) (hv : am_nl v7 = true := by first | rfl | assumption) (h : gw d g y nx (v0 :: v1 :: v2 :: v3 :: v4 :: v5 :: v6 :: v7 :: gi z :: R) r (gm T c J) Q) : gw d g y pc (v0 :: v1 :: v2 :: v3 :: v4 :: v5 :: v6 :: v7 :: w :: R) (gi z :: r) (gm T c J) Q := gw_step hi (by decide) (am_sx8i hv) (by rw [hi.2] at h; exact h)
theorem gw_as8 {z : Nat} {v0 v1 v2 v3 v4 v5 v6 v7 : Value} {w : Value} {R : List Value} (hi : am_at y pc nx (.astore 8) 0 a b) (hv : am_nl v7 = true := by first | rfl | assumption) (h : gw d g y nx (v0 :: v1 :: v2 :: v3 :: v4 :: v5 :: v6 :: v7 :: .ref z :: R) r (gm T c J) Q) : gw d g y pc (v0 :: v1 :: v2 :: v3 :: v4 :: v5 :: v6 :: v7 :: w :: R) (.ref z :: r) (gm T c J) Q := gw_step hi (by decide) (am_sx8s hv) (by rw [hi.2] at h; exact h)
theorem gw_az8 {v0 v1 v2 v3 v4 v5 v6 v7 : Value} {w : Value} {R : List Value} (hi : am_at y pc nx (.astore 8) 0 a b) (hv : am_nl v7 = true := by first | rfl | assumption) (h : gw d g y nx (v0 :: v1 :: v2 :: v3 :: v4 :: v5 :: v6 :: v7 :: .null :: R) r (gm T c J) Q) : gw d g y pc (v0 :: v1 :: v2 :: v3 :: v4 :: v5 :: v6 :: v7 :: w :: R) (.null :: r) (gm T c J) Q := gw_step hi (by decide) (am_sx8z hv) (by rw [hi.2] at h; exact h)
theorem gw_inc8 {z n : Int} {v0 v1 v2 v3 v4 v5 v6 v7 : Value} {R : List Value} (hi : am_at y pc nx (.iinc 8 n) 0 a b) (hv : am_nl v7 = true := by first | rfl | assumption) (h : gw d g y nx (v0 :: v1 :: v2 :: v3 :: v4 :: v5 :: v6 :: v7 :: gi (z + n) :: R) r (gm T c J) Q) : gw d g y pc (v0 :: v1 :: v2 :: v3 :: v4 :: v5 :: v6 :: v7 :: gi z :: R) r (gm T c J) Q := gw_step hi (by decide) (am_sx8n hv) (by rw [hi.2] at h; rw [gi_add] at h; exact h)
end GW
