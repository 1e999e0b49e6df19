/-! THE PROGRAM'S TABLE, and how it is checked against the Statement's words -/
/-- the tables' words in two steps -/
def am_T2 : List (List Jvm.Cond) := [k2_sels lw_privs_1, k2_sels lw_privs_2, k2_sels lw_privs_3, k2_sels lw_privs_4, k2_sels lw_privs_5, k2_sels lw_privs_6, k2_sels lw_privs_7, k2_sels lw_privs_8, tables_1_1, tables_1_2, tables_1_3, tables_1_4, tables_1_5, tables_1_6, tables_1_7, tables_1_8, tables_1_9, tables_1_10]
theorem am_T2_in {j i : Nat} {l : List Jvm.Cond} {w : Jvm.Cond} (h : am_T2[j]? = some l) (h' : l[i]? = some w) : w ∈ lw_tbl := by
  have h1 : l ∈ am_T2 := List.mem_of_getElem? h
  have h2 : w ∈ l := List.mem_of_getElem? h'
  have h3 : lw_tbl = am_T2.flatten := by
    unfold lw_tbl am_T2 lw_privs tables_1
    simp only [k2_sels, List.map_append, List.flatten_cons, List.flatten_nil, List.append_nil, List.append_assoc]
  rw [h3]
  exact List.mem_flatten.mpr ⟨l, h1, h2⟩
def am_wk (q : Nat × Nat) (w : Jvm.Cond) : Bool := match am_T2[q.1]? with
  | some l => decide (l[q.2]? = some w) && goodWord w
  | none => false
theorem am_wk_ok {q : Nat × Nat} {w : Jvm.Cond} (h : am_wk q w = true) : w ∈ am_W := by
  unfold am_wk at h
  split at h
  · rename_i l hl
    rw [Bool.and_eq_true] at h
    exact am_W_of (am_T2_in hl (of_decide_eq_true h.1)) h.2
  · cases h
abbrev am_wi (ws : List (Nat × Nat)) (i : Nat) : Nat × Nat := ws.getD i (99, 0)
def am_fdb (own : String) (idx a b : Nat) (ws : List (Nat × Nat)) (kd : Nat) : Bool := match vwCl[a]? with
  | some (_, T, N) => decide (b < N) && am_wk (am_wi ws 0) (.fieldLink own idx (T b).1 (T b).2.1 (T b).2.2.1) && ((decide (kd = 0) && decide (am_ty a b = .int)) || (decide (kd = 1) && am_rf (am_ty a b)))
  | none => false
theorem am_fdb_ok {own : String} {idx a b : Nat} {ws : List (Nat × Nat)} {kd : Nat} (h : am_fdb own idx a b ws kd = true) : ∃ C T N, vwCl[a]? = some (C, T, N) ∧ b < N ∧ Jvm.Cond.fieldLink own idx (T b).1 (T b).2.1 (T b).2.2.1 ∈ am_W ∧ ((kd = 0 ∧ am_ty a b = .int) ∨ (kd = 1 ∧ am_rf (am_ty a b) = true)) := by
  unfold am_fdb at h
  split at h
  · rename_i C T N hl
    simp only [Bool.and_eq_true, Bool.or_eq_true, decide_eq_true_eq] at h
    exact ⟨C, T, N, hl, h.1.1, am_wk_ok h.1.2, h.2⟩
  · cases h
def am_opb (sr : am_SR) (own : String) (ini : Bool) (pc : Nat) (i : Instr) (kd a b : Nat) (ws : List (Nat × Nat)) : Bool := match i with
  | .ldc idx => (decide (kd = 1) && am_wk (am_wi ws 0) (.constant own idx (Int32.ofNat a))) || (decide (kd = 2) && sr.any fun q => decide (q.1 = own) && decide (q.2.1 = idx) && decide (q.2.2.1 = a))
  | .ldc_w idx => (decide (kd = 1) && am_wk (am_wi ws 0) (.constant own idx (Int32.ofNat a))) || (decide (kd = 2) && sr.any fun q => decide (q.1 = own) && decide (q.2.1 = idx) && decide (q.2.2.1 = a))
  | .ldc2_w idx => am_wk (am_wi ws 0) (.constantLong own idx (Int64.ofNat a))
  | .ifCond _ off => decide ((pc : Int) + off = (a : Int))
  | .if_icmp _ off => decide ((pc : Int) + off = (a : Int))
  | .goto off => decide ((pc : Int) + off = (a : Int))
  | .ifnull off => decide ((pc : Int) + off = (a : Int))
  | .ifnonnull off => decide ((pc : Int) + off = (a : Int))
  | .tableswitch dflt _ _ offs => decide (0 ≤ (pc : Int) + dflt) && offs.toList.all fun off => decide (0 ≤ (pc : Int) + off)
  | .getfield idx => if a = 30 then (decide (b = 0) && decide (kd = 1) && am_wk (am_wi ws 0) (.fieldLink own idx "java/lang/String" "value" "[B")) || (decide (b = 1) && decide (kd = 0) && am_wk (am_wi ws 0) (.fieldLink own idx "java/lang/String" "coder" "B"))
    else am_fdb own idx a b ws kd
  | .putfield idx => am_fdb own idx a b ws kd && (match vwCl[a]? with | some (_, T, _) => !(T b).2.2.2 || (ini && decide ((T b).1 = own)) | none => false)
  | .getstatic idx => (decide (kd = 3) && decide (a = 1) && am_wk (am_wi ws 0) (.fieldLink own idx "java/lang/String" "COMPACT_STRINGS" "Z")) || (decide (kd = 4) && am_wk (am_wi ws 0) (.fieldLink own idx "jdk/internal/util/Preconditions" "SIOOBE_FORMATTER" "Ljava/util/function/BiFunction;"))
  | .new idx => (match vwCl[a]? with | some (C, _, N) => decide (N = b) && am_wk (am_wi ws 0) (.classLink own idx C) && am_wk (am_wi ws 1) (.instantiable C b) && am_wk (am_wi ws 2) (.initialized C) | none => false)
  | .newarray t => am_wk (am_wi ws 0) (.arrayClass (newarray.typeOf t))
  | .anewarray idx => am_wk (am_wi ws 0) (.classLink own idx "SnowPlough$Snapshot")
  | .invokespecial idx => am_wk (am_wi ws 0) (.methodLink own idx objectInit) && am_wk (am_wi ws 1) (.instanceMethod objectInit) && am_wk (am_wi ws 2) (.code objectInit ⟨#[0xb1]⟩ 1 none)
  | .invokestatic idx => (decide (kd = 6) && am_wk (am_wi ws 0) (.methodLink own idx arraycopyName) && am_wk (am_wi ws 1) (.native arraycopyName) && am_wk (am_wi ws 2) (.static arraycopyName) && am_wk (am_wi ws 3) (.initialized "java/lang/System")) ||
      ((decide (kd = 7) && am_wk (am_wi ws 0) (.methodLink own idx Lib.Math.max.name) && am_wk (am_wi ws 1) (.static Lib.Math.max.name) && am_wk (am_wi ws 2) (.initialized "java/lang/Math") && am_wk (am_wi ws 3) (.code Lib.Math.max.name Lib.Math.max.code 2 (some .int))) ||
      ((decide (kd = 8) && am_wk (am_wi ws 0) (.methodLink own idx Lib.Math.min.name) && am_wk (am_wi ws 1) (.static Lib.Math.min.name) && am_wk (am_wi ws 2) (.initialized "java/lang/Math") && am_wk (am_wi ws 3) (.code Lib.Math.min.name Lib.Math.min.code 2 (some .int))) ||
      ((decide (kd = 9) && am_wk (am_wi ws 0) (.methodLink own idx Lib.MathLoose.max_long.x) && am_wk (am_wi ws 1) (.static Lib.MathLoose.max_long.x) && am_wk (am_wi ws 2) (.initialized "java/lang/Math") && am_wk (am_wi ws 3) (.code Lib.MathLoose.max_long.x Lib.MathLoose.max_long.code 4 (some .long))) ||
      (decide (kd = 10) && am_wk (am_wi ws 0) (.methodLink own idx Lib.MathLoose.min_long.x) && am_wk (am_wi ws 1) (.static Lib.MathLoose.min_long.x) && am_wk (am_wi ws 2) (.initialized "java/lang/Math") && am_wk (am_wi ws 3) (.code Lib.MathLoose.min_long.x Lib.MathLoose.min_long.code 4 (some .long))))))
  | _ => true
theorem am_any_sr {sr : am_SR} {own : String} {idx a : Nat} (h : (sr.any fun q => decide (q.1 = own) && decide (q.2.1 = idx) && decide (q.2.2.1 = a)) = true) : ∃ tx, (own, idx, a, tx) ∈ sr := by
  obtain ⟨⟨q1, q2, q3, q4⟩, h1, h2⟩ := List.any_eq_true.mp h
  simp only [Bool.and_eq_true, decide_eq_true_eq] at h2
  obtain ⟨⟨rfl, rfl⟩, rfl⟩ := h2
  exact ⟨q4, h1⟩
set_option maxHeartbeats 2000000 in
theorem am_opb_ok {sr : am_SR} {own : String} {ini : Bool} {pc : Nat} {i : Instr} {kd a b : Nat} {ws : List (Nat × Nat)} (h : am_opb sr own ini pc i kd a b ws = true) : am_op sr own ini pc i kd a b := by
  unfold am_opb at h
  split at h
  · rw [Bool.or_eq_true, Bool.and_eq_true, Bool.and_eq_true] at h
    exact h.imp (fun h => ⟨of_decide_eq_true h.1, am_wk_ok h.2⟩) (fun h => ⟨of_decide_eq_true h.1, am_any_sr h.2⟩)
  · rw [Bool.or_eq_true, Bool.and_eq_true, Bool.and_eq_true] at h
    exact h.imp (fun h => ⟨of_decide_eq_true h.1, am_wk_ok h.2⟩) (fun h => ⟨of_decide_eq_true h.1, am_any_sr h.2⟩)
  · exact am_wk_ok h
  · have h1 := of_decide_eq_true h; exact h1
  · have h1 := of_decide_eq_true h; exact h1
  · have h1 := of_decide_eq_true h; exact h1
  · have h1 := of_decide_eq_true h; exact h1
  · have h1 := of_decide_eq_true h; exact h1
  · rw [Bool.and_eq_true] at h
    exact ⟨of_decide_eq_true h.1, fun off ho => of_decide_eq_true (List.all_eq_true.mp h.2 off (Array.mem_toList_iff.mpr ho))⟩
  · split at h
    · rename_i ha
      simp only [Bool.and_eq_true, Bool.or_eq_true, decide_eq_true_eq] at h
      exact Or.inr ⟨ha, h.imp (fun h => ⟨h.1.1, h.1.2, am_wk_ok h.2⟩) (fun h => ⟨h.1.1, h.1.2, am_wk_ok h.2⟩)⟩
    · exact Or.inl (am_fdb_ok h)
  · rw [Bool.and_eq_true] at h
    obtain ⟨C, T, N, h1, h2, h3, h4⟩ := am_fdb_ok h.1
    refine ⟨C, T, N, h1, h2, h3, h4, fun hT => ?_⟩
    have h5 := h.2
    rw [h1] at h5
    simp only [Bool.or_eq_true, Bool.and_eq_true, decide_eq_true_eq, Bool.not_eq_true'] at h5
    rcases h5 with h5 | h5
    · rw [hT] at h5; cases h5
    · exact h5
  · simp only [Bool.and_eq_true, Bool.or_eq_true, decide_eq_true_eq] at h
    exact h.imp (fun h => ⟨h.1.1, h.1.2, am_wk_ok h.2⟩) (fun h => ⟨h.1, am_wk_ok h.2⟩)
  · split at h
    · rename_i C T N hl
      simp only [Bool.and_eq_true, decide_eq_true_eq] at h
      obtain ⟨⟨⟨rfl, h2⟩, h3⟩, h4⟩ := h
      exact ⟨C, T, hl, am_wk_ok h2, am_wk_ok h3, am_wk_ok h4⟩
    · cases h
  · exact am_wk_ok h
  · exact am_wk_ok h
  · simp only [Bool.and_eq_true] at h
    exact ⟨am_wk_ok h.1.1, am_wk_ok h.1.2, am_wk_ok h.2⟩
  · simp only [Bool.and_eq_true, Bool.or_eq_true, decide_eq_true_eq] at h
    have e : ∀ {k : Nat} {w1 w2 w3 w4 : Jvm.Cond}, ((((kd = k ∧ am_wk (am_wi ws 0) w1 = true) ∧ am_wk (am_wi ws 1) w2 = true) ∧ am_wk (am_wi ws 2) w3 = true) ∧ am_wk (am_wi ws 3) w4 = true) → kd = k ∧ w1 ∈ am_W ∧ w2 ∈ am_W ∧ w3 ∈ am_W ∧ w4 ∈ am_W := fun h => ⟨h.1.1.1.1, am_wk_ok h.1.1.1.2, am_wk_ok h.1.1.2, am_wk_ok h.1.2, am_wk_ok h.2⟩
    exact h.imp e (fun h => h.imp e (fun h => h.imp e (fun h => h.imp e e)))
  · rename_i n1 n2 n3 n4 n5 n6 n7 n8 n9 n10 n11 n12 n13 n14 n15 n16 n17
    unfold am_op
    split <;> first | trivial | (exfalso; solve | exact n1 _ rfl | exact n2 _ rfl | exact n3 _ rfl | exact n4 _ _ rfl | exact n5 _ _ rfl | exact n6 _ rfl | exact n7 _ rfl | exact n8 _ rfl | exact n9 _ _ _ _ rfl | exact n10 _ rfl | exact n11 _ rfl | exact n12 _ rfl | exact n13 _ rfl | exact n14 _ rfl | exact n15 _ rfl | exact n16 _ rfl | exact n17 _ rfl)
