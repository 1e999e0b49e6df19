/-! the check of a whole method -/
abbrev am_Row : Type := Nat × Instr × Nat × Nat × Nat × List (Nat × Nat)
def am_ft (ch : List (List am_Row)) (pc : Nat) : Option (Instr × Nat × Nat × Nat) := match ch[pc / 16]? with
  | some l => (l.find? fun r => r.1 == pc).map fun r => (r.2.1, r.2.2.1, r.2.2.2.1, r.2.2.2.2.1)
  | none => none
theorem am_ft_in {ch : List (List am_Row)} {pc : Nat} {i : Instr} {kd a b : Nat} (h : am_ft ch pc = some (i, kd, a, b)) : ∃ l ∈ ch, ∃ ws, (pc, i, kd, a, b, ws) ∈ l := by
  unfold am_ft at h
  split at h
  · rename_i l hl
    obtain ⟨⟨r1, r2, r3, r4, r5, r6⟩, h1, h2⟩ := Option.map_eq_some_iff.mp h
    have h3 := List.mem_of_find?_eq_some h1
    have h4 := List.find?_some h1
    simp only [beq_iff_eq] at h4
    cases h2
    subst h4
    exact ⟨l, List.mem_of_getElem? hl, r6, h3⟩
  · cases h
def am_pnb (yn : MethodName) (n : Nat) : Bool := decide ((parseMethodDescriptor yn.desc).map (fun d => d.parameters.length) = some n)
theorem am_pnb_ok {yn : MethodName} {n : Nat} (h : am_pnb yn n = true) : am_pn yn n := by
  have h1 := of_decide_eq_true h
  exact h1
def am_rcb (tag : Nat) (cls : String) : Bool := if tag = 40 then decide (cls = "java/lang/String") else decide (10 ≤ tag) && (match vwCl[tag - 10]? with | some (C, _, _) => decide (C = cls) | none => false)
theorem am_rcb_ok {f : am_F} {cls : String} (h : am_rcb f.2.2.2.2.1 cls = true) : am_rc1 f cls := by
  unfold am_rcb at h
  split at h
  · rename_i ht
    exact Or.inr ⟨of_decide_eq_true h, ht⟩
  · rw [Bool.and_eq_true] at h
    have h1 := of_decide_eq_true h.1
    have h2 := h.2
    split at h2
    · rename_i C T N hl
      have h3 := of_decide_eq_true h2
      subst h3
      exact Or.inl ⟨_, T, N, hl, by omega⟩
    · cases h2
def am_nsb (ns : List Jvm.Cond) (w : Jvm.Cond) : Bool := ns.any fun v => decide (v = w)
theorem am_nsb_ok {ns : List Jvm.Cond} {w : Jvm.Cond} (h : am_nsb ns w = true) : w ∈ ns := by
  obtain ⟨v, h1, h2⟩ := List.any_eq_true.mp h
  rw [← of_decide_eq_true h2]; exact h1
def am_callb (P : am_P) (Y : Nat → am_Yt) (ns : List Jvm.Cond) (own : String) (i : Instr) (kd a b : Nat) (ws : List (Nat × Nat)) : Bool := match i with
  | .invokevirtual idx => decide (kd = 102) && decide (1 ≤ b) && am_pnb (Y a).1 (b - 1) && am_rcb (P a).2.2.2.2.1 (Y a).1.cls && am_wk (am_wi ws 0) (.methodLink own idx (Y a).1) && am_wk (am_wi ws 1) (.instanceMethod (Y a).1) && am_wk (am_wi ws 2) (.selects (Y a).1.cls (Y a).1 (Y a).1) && (Y a).2.2.2.isEmpty
  | .invokestatic idx => am_pnb (Y a).1 b && decide ((P a).2.2.2.2.1 = 0) && ((decide (kd = 103) && am_wk (am_wi ws 0) (.methodLink own idx (Y a).1) && am_wk (am_wi ws 1) (.static (Y a).1)) ||
      (decide (kd = 105) && am_nsb ns (.methodLinkNest own idx (Y a).1 "SnowPlough") && am_wk (am_wi ws 1) (.static (Y a).1) && (Y a).2.2.2.isEmpty))
  | .invokespecial idx => decide (1 ≤ b) && am_pnb (Y a).1 (b - 1) && am_rcb (P a).2.2.2.2.1 (Y a).1.cls && decide ((Y a).1.name = "<init>") && decide ((Y a).2.2.1 = none) && (Y a).2.2.2.isEmpty &&
      ((decide (kd = 104) && am_wk (am_wi ws 0) (.methodLink own idx (Y a).1) && am_wk (am_wi ws 1) (.instanceMethod (Y a).1)) ||
       (decide (kd = 106) && am_nsb ns (.methodLinkNest own idx (Y a).1 "SnowPlough") && am_wk (am_wi ws 1) (.instanceMethod (Y a).1)))
  | _ => false
theorem am_callb_ok {P : am_P} {Y : Nat → am_Yt} {ns : List Jvm.Cond} {own : String} {i : Instr} {kd a b : Nat} {ws : List (Nat × Nat)} (h : am_callb P Y ns own i kd a b ws = true) : am_call P Y ns own i kd a b := by
  unfold am_callb at h
  split at h
  · rename_i idx
    simp only [Bool.and_eq_true, decide_eq_true_eq, List.isEmpty_iff] at h
    obtain ⟨⟨⟨⟨⟨⟨⟨h1, h2⟩, h3⟩, h4⟩, h5⟩, h6⟩, h7⟩, h8⟩ := h
    exact Or.inl ⟨idx, b - 1, h1, rfl, by omega, am_pnb_ok h3, am_rcb_ok h4, am_wk_ok h5, am_wk_ok h6, am_wk_ok h7, h8⟩
  · rename_i idx
    simp only [Bool.and_eq_true, Bool.or_eq_true, decide_eq_true_eq, List.isEmpty_iff] at h
    obtain ⟨⟨h1, h2⟩, ⟨⟨h3, h4⟩, h5⟩ | ⟨⟨⟨h3, h4⟩, h5⟩, h6⟩⟩ := h
    · exact Or.inr (Or.inl ⟨idx, h3, rfl, am_pnb_ok h1, h2, am_wk_ok h4, am_wk_ok h5⟩)
    · exact Or.inr (Or.inr (Or.inr (Or.inl ⟨idx, _, h3, rfl, am_pnb_ok h1, h2, am_nsb_ok h4, am_wk_ok h5, h6⟩)))
  · rename_i idx
    simp only [Bool.and_eq_true, Bool.or_eq_true, decide_eq_true_eq, List.isEmpty_iff] at h
    obtain ⟨⟨⟨⟨⟨⟨h1, h2⟩, h3⟩, h4⟩, h5⟩, h6⟩, ⟨⟨h7, h8⟩, h9⟩ | ⟨⟨h7, h8⟩, h9⟩⟩ := h
    · exact Or.inr (Or.inr (Or.inl ⟨idx, b - 1, h7, rfl, by omega, am_pnb_ok h2, am_rcb_ok h3, h4, h5, am_wk_ok h8, am_wk_ok h9, h6⟩))
    · exact Or.inr (Or.inr (Or.inr (Or.inr ⟨idx, _, b - 1, h7, rfl, by omega, am_pnb_ok h2, am_rcb_ok h3, h4, h5, am_nsb_ok h8, am_wk_ok h9, h6⟩)))
  · cases h
/-- the words that every throw wants, whoever throws -/
def am_mem (w : Jvm.Cond) : Bool := am_T2.any fun l => l.any fun v => decide (v = w)
theorem am_mem_ok {w : Jvm.Cond} (h : am_mem w = true) : w ∈ lw_tbl := by
  obtain ⟨l, h1, h2⟩ := List.any_eq_true.mp h
  obtain ⟨v, h3, h4⟩ := List.any_eq_true.mp h2
  obtain ⟨j, h5⟩ := List.mem_iff_getElem?.mp h1
  obtain ⟨i, h6⟩ := List.mem_iff_getElem?.mp h3
  rw [← of_decide_eq_true h4]
  exact am_T2_in h5 h6
def am_oth (X : String) (names : List String) : List Jvm.Cond := ((Bundle.throwableAtoms ++ Bundle.chain0Atoms X names) ++ (Bundle.ownAtoms0 "" 0 X names).drop ((Bundle.throwableAtoms ++ Bundle.chain0Atoms X names).length + 1)).filter vx_no
def am_thq (ns : List Jvm.Cond) : Bool := [0, 1, 2, 3].all fun a => (am_oth (am_xn a) am_names).all fun w => vx_ot w && (if goodWord w = true then am_mem w else am_nsb ns w)
theorem am_at0_in {own X : String} {ic : Nat} {names : List String} {w : Jvm.Cond} (h : w ∈ vx_at0 own ic X names) : w = .methodLink own ic (Bundle.init0 X) ∨ w ∈ am_oth X names := by
  unfold vx_at0 at h
  unfold am_oth
  rw [List.mem_filter] at h ⊢
  have h1 := h.1
  unfold Bundle.ownAtoms0 at h1 ⊢
  rw [List.mem_append] at h1
  rcases h1 with h1 | h1
  · exact Or.inr ⟨List.mem_append_left _ h1, h.2⟩
  · rcases List.mem_cons.mp h1 with h2 | h2
    · exact Or.inl h2
    · refine Or.inr ⟨List.mem_append_right _ ?_, h.2⟩
      rw [List.drop_length_add_append]
      exact h2
def am_throwb (own : String) (cc : ByteArray) (pc : Nat) (i : Instr) (a b : Nat) (ws : List (Nat × Nat)) : Bool := match i with
  | .new ik => decide (decode cc (pc + 3) = .ok (.dup, 1)) && decide (decode cc (pc + 4) = .ok (.invokespecial b, 3)) && decide (decode cc (pc + 7) = .ok (.athrow, 1)) &&
      am_wk (am_wi ws 0) (.classLink own ik (am_xn a)) && am_wk (am_wi ws 1) (.initialized (am_xn a)) && am_wk (am_wi ws 2) (.methodLink own b (Bundle.init0 (am_xn a))) && decide (a ≤ 3)
  | _ => false
theorem am_throwb_ok {ns : List Jvm.Cond} (hT : am_thq ns = true) {own : String} {cc : ByteArray} {pc : Nat} {i : Instr} {a b : Nat} {ws : List (Nat × Nat)} (h : am_throwb own cc pc i a b ws = true) : am_throw ns own cc pc i a := by
  unfold am_throwb at h
  split at h
  · rename_i ik
    simp only [Bool.and_eq_true] at h
    obtain ⟨⟨⟨⟨⟨⟨h1, h2⟩, h3⟩, h4⟩, h5⟩, h6⟩, h7⟩ := h
    have ha := of_decide_eq_true h7
    have hm : a ∈ [0, 1, 2, 3] := by
      rcases (show a = 0 ∨ a = 1 ∨ a = 2 ∨ a = 3 by omega) with e | e | e | e <;> rw [e] <;> decide
    have hall := List.all_eq_true.mp (List.all_eq_true.mp hT a hm)
    have key : ∀ w ∈ vx_at0 own b (am_xn a) am_names, vx_ot w = true ∧ (goodWord w = true → w ∈ am_W) ∧ (goodWord w = false → w ∈ ns) := by
      intro w hw
      rcases am_at0_in hw with e | e1
      · have g := am_wk_ok h6
        rw [← e] at g
        have gg := am_W_good _ g
        exact ⟨by unfold vx_ot; rw [gg, Bool.or_true], fun _ => g, fun z => by rw [gg] at z; cases z⟩
      · have g := hall w e1
        rw [Bool.and_eq_true] at g
        obtain ⟨g1, g2⟩ := g
        refine ⟨g1, fun z => ?_, fun z => ?_⟩
        · rw [if_pos z] at g2; exact am_W_of (am_mem_ok g2) z
        · rw [if_neg (by rw [z]; decide)] at g2; exact am_nsb_ok g2
    refine ⟨ik, b, rfl, of_decide_eq_true h1, of_decide_eq_true h2, of_decide_eq_true h3, am_wk_ok h4, am_wk_ok h5, fun w hw => ?_, fun w hw => ?_, fun w hw => ?_⟩
    · obtain ⟨q1, q2⟩ := List.mem_filter.mp hw
      exact (key w q1).2.1 q2
    · obtain ⟨q1, q2⟩ := List.mem_filter.mp hw
      refine (key w q1).2.2 ?_
      cases hg : goodWord w
      · rfl
      · rw [hg] at q2; cases q2
    · rcases List.mem_cons.mp hw with e | hw
      · rw [e]; unfold vx_ot; rw [am_W_good _ (am_wk_ok h4), Bool.or_true]
      · rcases List.mem_cons.mp hw with e | hw
        · rw [e]; unfold vx_ot; rw [am_W_good _ (am_wk_ok h5), Bool.or_true]
        · exact (key w hw).1
  · cases h
def am_reti (rk : Nat) : Instr := match rk with | 0 => .return_ | 2 => .lreturn | 3 => .areturn | _ => .ireturn
def am_ckr (P : am_P) (Y : Nat → am_Yt) (nV : Nat) (sr : am_SR) (ns : List Jvm.Cond) (own : String) (ini : Bool) (cc : ByteArray) (rk : Nat) (hh : Bool) (r : am_Row) : Bool :=
  decide (decode cc r.1 = .ok (r.2.1, am_len r.1 r.2.1)) &&
  (if r.2.2.1 < 100 then am_opb sr own ini r.1 r.2.1 r.2.2.1 r.2.2.2.1 r.2.2.2.2.1 r.2.2.2.2.2
   else if r.2.2.1 = 100 then decide (r.2.1 = am_reti rk)
   else if r.2.2.1 = 101 then am_throwb own cc r.1 r.2.1 r.2.2.2.1 r.2.2.2.2.1 r.2.2.2.2.2 && hh
   else decide (r.2.2.2.1 < nV) && am_callb P Y ns own r.2.1 r.2.2.1 r.2.2.2.1 r.2.2.2.2.1 r.2.2.2.2.2)
theorem am_ckr_ok {ns : List Jvm.Cond} (hT : am_thq ns = true) {P : am_P} {Y : Nat → am_Yt} {nV : Nat} {sr : am_SR} {own : String} {ini : Bool} {cc : ByteArray} {rk : Nat} {hl : List (Nat × Nat × Nat × Nat)} {pc : Nat} {i : Instr} {kd a b : Nat} {ws : List (Nat × Nat)} (h : am_ckr P Y nV sr ns own ini cc rk hl.isEmpty (pc, i, kd, a, b, ws) = true) :
    decode cc pc = .ok (i, am_len pc i) ∧ (kd < 100 → am_op sr own ini pc i kd a b) ∧ (kd = 100 → i = am_reti rk) ∧ (kd = 101 → am_throw ns own cc pc i a ∧ hl = []) ∧ (102 ≤ kd → a < nV ∧ am_call P Y ns own i kd a b) := by
  unfold am_ckr at h
  rw [Bool.and_eq_true] at h
  obtain ⟨h1, h2⟩ := h
  refine ⟨of_decide_eq_true h1, fun hk => ?_, fun hk => ?_, fun hk => ?_, fun hk => ?_⟩
  · dsimp only at h2
    rw [if_pos hk] at h2
    exact am_opb_ok h2
  · dsimp only at h2
    rw [if_neg (by omega), if_pos hk] at h2
    exact of_decide_eq_true h2
  · dsimp only at h2
    rw [if_neg (by omega), if_neg (by omega), if_pos hk, Bool.and_eq_true] at h2
    exact ⟨am_throwb_ok hT h2.1, List.isEmpty_iff.mp h2.2⟩
  · dsimp only at h2
    rw [if_neg (by omega), if_neg (by omega), if_neg (by omega), Bool.and_eq_true] at h2
    exact ⟨of_decide_eq_true h2.1, am_callb_ok h2.2⟩
/-- the heads of a method -/
def am_rkb (rk : Nat) (rt : Option FieldType) : Bool := match rk with
  | 0 => decide (rt = none) | 1 => decide (rt = some .int) | 2 => decide (rt = some .long) | 3 => (match rt with | some (.object _) => true | _ => false) | 4 => decide (rt = some .boolean) | 5 => decide (rt = some .char) | 6 => decide (rt = some .byte) | _ => false
theorem am_rkb_ok {rk : Nat} {rt : Option FieldType} (h : am_rkb rk rt = true) : am_rk rk rt := by
  unfold am_rkb at h
  unfold am_rk
  split at h
  · have h1 := of_decide_eq_true h; exact h1
  · have h1 := of_decide_eq_true h; exact h1
  · have h1 := of_decide_eq_true h; exact h1
  · split at h
    · exact ⟨_, rfl⟩
    · cases h
  · have h1 := of_decide_eq_true h; exact h1
  · have h1 := of_decide_eq_true h; exact h1
  · have h1 := of_decide_eq_true h; exact h1
  · cases h
/-- the handlers of a method: each with the number of the exception that it takes -/
abbrev am_Hd : Type := (Nat × Nat × Nat × Nat) × Nat
def am_hdl : List am_Hd → Nat → Nat → Option Nat
  | [], _, _ => none
  | q :: r, pc, E => if (decide (q.1.1 ≤ pc) && decide (pc < q.1.2.1)) = true ∧ q.2 = E then some q.1.2.2.1 else am_hdl r pc E
def am_hdf (hs : List am_Hd) (pc E : Nat) : Option (Option Nat) := if E ≤ 3 then some (am_hdl hs pc E) else none
def am_hck (ns : List Jvm.Cond) (nc : List (String × String)) (own : String) : List am_Hd → List (Nat × Nat) → Bool
  | [], _ => true
  | z :: hs, q :: qs => decide (z.1.2.2.2 ≠ 0) && am_wk q (.classLink own z.1.2.2.2 (am_xn z.2)) && am_nsb ns (.castable (am_xn z.2) (am_xn z.2)) && ([0, 1, 2, 3].all fun E => decide (E = z.2) || nc.any fun r => decide (r = (am_xn E, am_xn z.2))) && am_hck ns nc own hs qs
  | _ :: _, [] => false
theorem am_hck_ok {ns : List Jvm.Cond} {nc : List (String × String)} {own : String} {pc E : Nat} (hE : E ≤ 3) : ∀ {hs : List am_Hd} {qs : List (Nat × Nat)}, am_hck ns nc own hs qs = true → am_hnd ns nc own (hs.map Prod.fst) pc E (am_hdl hs pc E) := by
  intro hs
  induction hs with
  | nil => intro qs h z hz; cases hz
  | cons z hs ih =>
    intro qs h
    cases qs with
    | nil => cases h
    | cons q qs =>
      unfold am_hck at h
      simp only [Bool.and_eq_true] at h
      obtain ⟨⟨⟨⟨h1, h2⟩, h3⟩, h4⟩, h5⟩ := h
      have h1' := of_decide_eq_true h1
      unfold am_hdl
      by_cases hc : (decide (z.1.1 ≤ pc) && decide (pc < z.1.2.1)) = true ∧ z.2 = E
      · rw [if_pos hc]
        refine ⟨[], ⟨z.1.1, z.1.2.1, z.1.2.2.1, z.1.2.2.2⟩, tableOf ((hs.map Prod.fst)), am_xn z.2, rfl, hc.1, h1', rfl, am_wk_ok h2, ?_, fun w hw => by cases hw⟩
        rw [← hc.2]; exact am_nsb_ok h3
      · rw [if_neg hc]
        have hz : covers (⟨z.1.1, z.1.2.1, z.1.2.2.1, z.1.2.2.2⟩ : ExceptionTableEntry) pc = false ∨ (z.1.2.2.2 ≠ 0 ∧ ∃ nm : String, Jvm.Cond.classLink own z.1.2.2.2 nm ∈ am_W ∧ (am_xn E, nm) ∈ nc) := by
          by_cases hcov : (decide (z.1.1 ≤ pc) && decide (pc < z.1.2.1)) = true
          · right
            refine ⟨h1', am_xn z.2, am_wk_ok h2, ?_⟩
            have hne : ¬ E = z.2 := fun e => hc ⟨hcov, e.symm⟩
            have hm : E ∈ [0, 1, 2, 3] := by
              rcases (show E = 0 ∨ E = 1 ∨ E = 2 ∨ E = 3 by omega) with e | e | e | e <;> rw [e] <;> decide
            have h6 := List.all_eq_true.mp h4 E hm
            simp only [Bool.or_eq_true, decide_eq_true_eq] at h6
            rcases h6 with h6 | h6
            · exact absurd h6 hne
            · obtain ⟨r, g1, g2⟩ := List.any_eq_true.mp h6
              rw [← of_decide_eq_true g2]; exact g1
          · left
            show (decide (z.1.1 ≤ pc) && decide (pc < z.1.2.1)) = false
            exact eq_false_of_ne_true hcov
        have ih' := ih h5
        cases hr : am_hdl hs pc E with
        | none =>
          rw [hr] at ih'
          intro w hw
          rcases List.mem_cons.mp hw with e | e
          · rw [e]; exact hz
          · exact ih' w e
        | some h9 =>
          rw [hr] at ih'
          obtain ⟨pre, x, suf, name, z1, z2, z3, z4, z5, z6, z7⟩ := ih'
          refine ⟨⟨z.1.1, z.1.2.1, z.1.2.2.1, z.1.2.2.2⟩ :: pre, x, suf, name, ?_, z2, z3, z4, z5, z6, fun w hw => ?_⟩
          · show _ :: tableOf (hs.map Prod.fst) = _
            rw [z1]; rfl
          · rcases List.mem_cons.mp hw with e | e
            · rw [e]; exact hz
            · exact z7 w e
/-- a method's whole row in the table: its chunks, its handlers, its locals' size, its return's kind, its receiver's tag, its sort; its name, its bytes, its return's type; where its code's word and its class's word lie, and its handlers' words -/
abbrev am_Mt : Type := (List (List am_Row) × List am_Hd × Nat × Nat × Nat × Nat) × (MethodName × ByteArray × Option FieldType) × (Nat × Nat) × (Nat × Nat) × List (Nat × Nat)
def am_mF (t : am_Mt) : am_F := (am_ft t.1.1, am_hdf t.1.2.1, t.1.2.2.1, t.1.2.2.2.1, t.1.2.2.2.2.1, t.1.2.2.2.2.2)
def am_mY (t : am_Mt) : am_Yt := (t.2.1.1, t.2.1.2.1, t.2.1.2.2, t.1.2.1.map Prod.fst)
def am_mZ : am_Mt := (([], [], 0, 0, 0, 0), (⟨"", "", ""⟩, ⟨#[]⟩, none), (0, 0), (0, 0), [])
/-- a program out of a table of methods; those below nV may be called -/
def am_pP (tb : Nat → am_Mt) : am_P := fun y => am_mF (tb y)
def am_pY (tb : Nat → am_Mt) : Nat → am_Yt := fun y => am_mY (tb y)
def am_ckb (tb : Nat → am_Mt) (nV : Nat) (sr : am_SR) (ns : List Jvm.Cond) (nc : List (String × String)) (t : am_Mt) : Bool :=
  am_rkb t.1.2.2.2.1 t.2.1.2.2 && (t.1.1.all fun l => l.all fun r => am_ckr (am_pP tb) (am_pY tb) nV sr ns t.2.1.1.cls (decide (t.2.1.1.name = "<init>")) t.2.1.2.1 t.1.2.2.2.1 (t.1.2.1.map Prod.fst).isEmpty r) && am_hck ns nc t.2.1.1.cls t.1.2.1 t.2.2.2.2
theorem am_ckb_ok {ns : List Jvm.Cond} (hT : am_thq ns = true) {tb : Nat → am_Mt} {nV : Nat} {sr : am_SR} {nc : List (String × String)} {y : Nat} {t : am_Mt} (ht : tb y = t) (h : am_ckb tb nV sr ns nc t = true) : am_rows (am_pP tb) (am_pY tb) (fun y => y < nV) sr ns nc y := by
  subst ht
  unfold am_ckb at h
  simp only [Bool.and_eq_true] at h
  obtain ⟨⟨h1, h2⟩, h3⟩ := h
  refine ⟨am_rkb_ok h1, fun pc i kd a b hf => ?_, fun pc E r hr => ?_⟩
  · obtain ⟨l, hl, ws, hw⟩ := am_ft_in hf
    have h4 := List.all_eq_true.mp (List.all_eq_true.mp h2 l hl) _ hw
    exact am_ckr_ok hT h4
  · have h5 : am_hdf (tb y).1.2.1 pc E = some r := hr
    unfold am_hdf at h5
    split at h5
    · rename_i hE
      cases h5
      exact am_hck_ok hE h3
    · cases h5
def am_ckh (tb : Nat → am_Mt) (t : am_Mt) (y : Nat) : Bool :=
  am_wk t.2.2.1 (am_cw (am_pP tb) (am_pY tb) y) && plainName t.2.1.1.cls && am_wk t.2.2.2.1 (.initialized t.2.1.1.cls) && decide (t.2.1.1.cls ≠ "java/lang/invoke/MethodHandle") && decide (t.2.1.1.cls ≠ "java/lang/invoke/VarHandle") && decide (t.1.2.2.1 ≤ 9)
theorem am_ckh_ok {tb : Nat → am_Mt} {nV : Nat} {sr : am_SR} {ns : List Jvm.Cond} {nc : List (String × String)} (h : ∀ y, y < nV → am_ckh tb (tb y) y = true ∧ am_rows (am_pP tb) (am_pY tb) (fun y => y < nV) sr ns nc y) : am_good (am_pP tb) (am_pY tb) (fun y => y < nV) sr ns nc := by
  intro y hy
  obtain ⟨h1, h2, h3, h4⟩ := h y hy
  unfold am_ckh at h1
  simp only [Bool.and_eq_true, decide_eq_true_eq] at h1
  obtain ⟨⟨⟨⟨⟨g1, g2⟩, g3⟩, g4⟩, g5⟩, g6⟩ := h1
  exact ⟨am_wk_ok g1, g2, am_wk_ok g3, ⟨g4, g5⟩, g6, h2, h3, h4⟩
