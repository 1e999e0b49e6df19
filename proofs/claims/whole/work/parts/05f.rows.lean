theorem am_ldI_inv {L : List Value} {i pc : Nat} {st : List Value} {M : am_M} {S : am_S} (h : am_ldI L i pc st M = some S) : ∃ x, L[i]? = some (.int x) ∧ S = (pc, L, .int x :: st, M) := by
  unfold am_ldI at h; split at h
  · rename_i x hx; cases h; exact ⟨x, hx, rfl⟩
  · cases h
theorem am_ldL_inv {L : List Value} {i pc : Nat} {st : List Value} {M : am_M} {S : am_S} (h : am_ldL L i pc st M = some S) : ∃ x, L[i]? = some (.long x) ∧ S = (pc, L, .long x :: st, M) := by
  unfold am_ldL at h; split at h
  · rename_i x hx; cases h; exact ⟨x, hx, rfl⟩
  · cases h
theorem am_ldA_inv {L : List Value} {i pc : Nat} {st : List Value} {M : am_M} {S : am_S} (h : am_ldA L i pc st M = some S) : (∃ x, L[i]? = some (.ref x) ∧ S = (pc, L, .ref x :: st, M)) ∨ (L[i]? = some .null ∧ S = (pc, L, .null :: st, M)) := by
  unfold am_ldA at h; split at h
  · rename_i x hx; cases h; exact Or.inl ⟨x, hx, rfl⟩
  · rename_i hx; cases h; exact Or.inr ⟨hx, rfl⟩
  · cases h
theorem am_stI_inv {L : List Value} {i pc : Nat} {st : List Value} {M : am_M} {S : am_S} (h : am_stI L i pc st M = some S) : ∃ x r, st = .int x :: r ∧ i < L.length ∧ S = (pc, am_st L i (.int x), r, M) := by
  unfold am_stI at h; split at h
  · split at h
    · rename_i hi; cases h; exact ⟨_, _, rfl, hi, rfl⟩
    · cases h
  · cases h
theorem am_stL_inv {L : List Value} {i pc : Nat} {st : List Value} {M : am_M} {S : am_S} (h : am_stL L i pc st M = some S) : ∃ x r, st = .long x :: r ∧ i + 1 < L.length ∧ S = (pc, am_st2 L i (.long x), r, M) := by
  unfold am_stL at h; split at h
  · split at h
    · rename_i hi; cases h; exact ⟨_, _, rfl, hi, rfl⟩
    · cases h
  · cases h
theorem am_stA_inv {L : List Value} {i pc : Nat} {st : List Value} {M : am_M} {S : am_S} (h : am_stA L i pc st M = some S) : (∃ x r, st = .ref x :: r ∧ i < L.length ∧ S = (pc, am_st L i (.ref x), r, M)) ∨ (∃ r, st = .null :: r ∧ i < L.length ∧ S = (pc, am_st L i .null, r, M)) := by
  unfold am_stA at h; split at h
  · split at h
    · rename_i hi; cases h; exact Or.inl ⟨_, _, rfl, hi, rfl⟩
    · cases h
  · split at h
    · rename_i hi; cases h; exact Or.inr ⟨_, rfl, hi, rfl⟩
    · cases h
  · cases h
theorem am_i2_inv {f : Int32 → Int32 → Int32} {L : List Value} {pc : Nat} {st : List Value} {M : am_M} {S : am_S} (h : am_i2 f L pc st M = some S) : ∃ x y r, st = .int y :: .int x :: r ∧ S = (pc, L, .int (f x y) :: r, M) := by
  unfold am_i2 at h; split at h
  · cases h; exact ⟨_, _, _, rfl, rfl⟩
  · cases h
theorem am_i2d_inv {f : Int32 → Int32 → Int32} {L : List Value} {pc : Nat} {st : List Value} {M : am_M} {S : am_S} (h : am_i2d f L pc st M = some S) : ∃ x y r, st = .int y :: .int x :: r ∧ ¬ y = 0 ∧ S = (pc, L, .int (f x y) :: r, M) := by
  unfold am_i2d at h; split at h
  · split at h
    · cases h
    · rename_i hy; cases h; exact ⟨_, _, _, rfl, hy, rfl⟩
  · cases h
theorem am_l2_inv {f : Int64 → Int64 → Int64} {L : List Value} {pc : Nat} {st : List Value} {M : am_M} {S : am_S} (h : am_l2 f L pc st M = some S) : ∃ x y r, st = .long y :: .long x :: r ∧ S = (pc, L, .long (f x y) :: r, M) := by
  unfold am_l2 at h; split at h
  · cases h; exact ⟨_, _, _, rfl, rfl⟩
  · cases h
theorem am_l2d_inv {f : Int64 → Int64 → Int64} {L : List Value} {pc : Nat} {st : List Value} {M : am_M} {S : am_S} (h : am_l2d f L pc st M = some S) : ∃ x y r, st = .long y :: .long x :: r ∧ ¬ y = 0 ∧ S = (pc, L, .long (f x y) :: r, M) := by
  unfold am_l2d at h; split at h
  · split at h
    · cases h
    · rename_i hy; cases h; exact ⟨_, _, _, rfl, hy, rfl⟩
  · cases h
theorem am_if_inv {f : Int32 → Bool} {t : Nat} {L : List Value} {pc : Nat} {st : List Value} {M : am_M} {S : am_S} (h : am_if f t L pc st M = some S) : ∃ x r, st = .int x :: r ∧ S = (if f x = true then t else pc, L, r, M) := by
  unfold am_if at h; split at h
  · cases h; exact ⟨_, _, rfl, rfl⟩
  · cases h
theorem am_icmp_inv {f : Int32 → Int32 → Bool} {t : Nat} {L : List Value} {pc : Nat} {st : List Value} {M : am_M} {S : am_S} (h : am_icmp f t L pc st M = some S) : ∃ x y r, st = .int y :: .int x :: r ∧ S = (if f x y = true then t else pc, L, r, M) := by
  unfold am_icmp at h; split at h
  · cases h; exact ⟨_, _, _, rfl, rfl⟩
  · cases h
section AO
variable {K : am_K} {D : va_G} {p : Program} {l : Launch} {e : Env} {R : Room} {s : State} {m : MethodId} {args : Array Value} {below : List Frame} {meth : Method} {c : Code} {own : String} {ini : Bool} {cc : ByteArray} {nL d : Nat}
variable {ad : Nat → Value} {M : am_M} {H : Heap} {locs : List Loc} {ls : Array Slot} {L st : List Value} {cells slots : Nat} {Q : State → Prop} {pc : Nat} {rest : List Value}
/-- the frame at another instruction, the memory the same -/
abbrev am_k0 (K : am_K) (D : va_G) (p : Program) (l : Launch) (e : Env) (R : Room) (s : State) (m : MethodId) (args : Array Value) (below : List Frame) (meth : Method) (c : Code) (nL : Nat) (ad : Nat → Value) (H : Heap) (locs : List Loc) (cells slots : Nat) (Q : State → Prop) (S : am_S) : Prop :=
  ∀ (H1 : Heap) (locs1 : List Loc) (ls1 : Array Slot), am_now K D s nL ad S.2.2.2 H1 locs1 ls1 S.2.1 S.2.2.1 → W p l e R s m args below meth c H1 locs1 cells slots Q (F0 m S.1 ls1 (S.2.2.1.map (am_cv ad)))
theorem am_now.tl {v : Value} (h : am_now K D s nL ad M H locs ls L (v :: rest)) : am_now K D s nL ad M H locs ls L rest := h.stk fun w hw => h.2.2.2.2.2 w (List.mem_cons_of_mem _ hw)
theorem am_now.tl2 {v w : Value} (h : am_now K D s nL ad M H locs ls L (v :: w :: rest)) : am_now K D s nL ad M H locs ls L rest := h.tl.tl
theorem am_now.pushI {x : Int32} (h : am_now K D s nL ad M H locs ls L rest) : am_now K D s nL ad M H locs ls L (.int x :: rest) := h.stk fun w hw => by
  rcases List.mem_cons.mp hw with q | q
  · rw [q]; trivial
  · exact h.2.2.2.2.2 w q
theorem am_now.pushL {x : Int64} (h : am_now K D s nL ad M H locs ls L rest) : am_now K D s nL ad M H locs ls L (.long x :: rest) := h.stk fun w hw => by
  rcases List.mem_cons.mp hw with q | q
  · rw [q]; trivial
  · exact h.2.2.2.2.2 w q
theorem am_now.push {v : Value} (h : am_now K D s nL ad M H locs ls L rest) (hv : am_okv M v) : am_now K D s nL ad M H locs ls L (v :: rest) := h.stk fun w hw => by
  rcases List.mem_cons.mp hw with q | q
  · rw [q]; exact hv
  · exact h.2.2.2.2.2 w q
/-- loads -/
theorem am_op_ldI (hc : am_ctx K D p l R s m args meth c own ini cc nL d) {i w : Nat} {S : am_S} (hs : am_ldI L i w st M = some S) (hn : am_now K D s nL ad M H locs ls L st)
    (hrow : ∀ x : Int32, ls[i]? = some (.val (.int x)) → W p l e R s m args below meth c H locs cells slots Q (F0 m w ls (.int x :: st.map (am_cv ad))) → W p l e R s m args below meth c H locs cells slots Q (F0 m pc ls (st.map (am_cv ad))))
    (kk : am_k0 K D p l e R s m args below meth c nL ad H locs cells slots Q S) : W p l e R s m args below meth c H locs cells slots Q (F0 m pc ls (st.map (am_cv ad))) := by
  obtain ⟨x, hx, rfl⟩ := am_ldI_inv hs
  exact hrow x (hn.2.2.2.1.at hx rfl) (kk H locs ls hn.pushI)
theorem am_op_ldL (hc : am_ctx K D p l R s m args meth c own ini cc nL d) {i w : Nat} {S : am_S} (hs : am_ldL L i w st M = some S) (hn : am_now K D s nL ad M H locs ls L st)
    (hrow : ∀ x : Int64, ls[i]? = some (.val (.long x)) → W p l e R s m args below meth c H locs cells slots Q (F0 m w ls (.long x :: st.map (am_cv ad))) → W p l e R s m args below meth c H locs cells slots Q (F0 m pc ls (st.map (am_cv ad))))
    (kk : am_k0 K D p l e R s m args below meth c nL ad H locs cells slots Q S) : W p l e R s m args below meth c H locs cells slots Q (F0 m pc ls (st.map (am_cv ad))) := by
  obtain ⟨x, hx, rfl⟩ := am_ldL_inv hs
  exact hrow x (hn.2.2.2.1.at hx rfl) (kk H locs ls hn.pushL)
theorem am_op_ldA (hc : am_ctx K D p l R s m args meth c own ini cc nL d) {i w : Nat} {S : am_S} (hs : am_ldA L i w st M = some S) (hn : am_now K D s nL ad M H locs ls L st)
    (hrow : ∀ x : Nat, ls[i]? = some (.val (.ref x)) → W p l e R s m args below meth c H locs cells slots Q (F0 m w ls (.ref x :: st.map (am_cv ad))) → W p l e R s m args below meth c H locs cells slots Q (F0 m pc ls (st.map (am_cv ad))))
    (hrow0 : ls[i]? = some (.val .null) → W p l e R s m args below meth c H locs cells slots Q (F0 m w ls (.null :: st.map (am_cv ad))) → W p l e R s m args below meth c H locs cells slots Q (F0 m pc ls (st.map (am_cv ad))))
    (kk : am_k0 K D p l e R s m args below meth c nL ad H locs cells slots Q S) : W p l e R s m args below meth c H locs cells slots Q (F0 m pc ls (st.map (am_cv ad))) := by
  rcases am_ldA_inv hs with ⟨x, hx, rfl⟩ | ⟨hx, rfl⟩
  · have hok := hn.2.2.2.2.1 _ (List.mem_of_getElem? hx)
    have h1 := hn.2.2.2.1.at hx rfl
    have h2 := kk H locs ls (hn.push hok)
    dsimp only at h2
    rw [List.map_cons] at h2
    rcases hn.1.2.2.2.2.2.2 x hok with ⟨a, q⟩ | q
    · rw [show am_cv ad (.ref x) = .ref a from q] at h1 h2
      exact hrow a h1 h2
    · rw [show am_cv ad (.ref x) = .null from q] at h1 h2
      exact hrow0 h1 h2
  · exact hrow0 (hn.2.2.2.1.at hx rfl) (kk H locs ls (hn.push trivial))
/-- stores -/
theorem am_op_stI (hc : am_ctx K D p l R s m args meth c own ini cc nL d) {i w : Nat} {S : am_S} (hs : am_stI L i w st M = some S) (hn : am_now K D s nL ad M H locs ls L st)
    (hrow : ∀ (x : Int32) (r : List Value), i < nL → (∀ ls' : Array Slot, lv_has ls' nL ((i, .int x) :: (am_lv ad L).filter (fun q => !(q.1 == i) && !(q.1 + 1 == i && q.2.category == 2))) → W p l e R s m args below meth c H locs cells slots Q (F0 m w ls' r)) → W p l e R s m args below meth c H locs cells slots Q (F0 m pc ls (.int x :: r)))
    (kk : am_k0 K D p l e R s m args below meth c nL ad H locs cells slots Q S) : W p l e R s m args below meth c H locs cells slots Q (F0 m pc ls (st.map (am_cv ad))) := by
  obtain ⟨x, r, rfl, hi, rfl⟩ := am_stI_inv hs
  have hL := hn.2.2.2.1.2
  refine hrow x (r.map (am_cv ad)) (by rw [← hL]; exact hi) fun ls' hls => kk H locs ls' ⟨hn.1, hn.2.1, hn.2.2.1, am_lrel.st hn.1.2.2.2.2.2.2 hL hn.2.2.2.2.1 (v := .int x) hls, am_ok_st hn.2.2.2.2.1 trivial, hn.tl.2.2.2.2.2⟩
theorem am_op_stL (hc : am_ctx K D p l R s m args meth c own ini cc nL d) {i w : Nat} {S : am_S} (hs : am_stL L i w st M = some S) (hn : am_now K D s nL ad M H locs ls L st)
    (hrow : ∀ (x : Int64) (r : List Value), i + 1 < nL → (∀ ls' : Array Slot, lv_has ls' nL ((i, .long x) :: (am_lv ad L).filter (fun q => !(q.1 == i) && (!(q.1 == i + 1) && !(q.1 + 1 == i && q.2.category == 2)))) → W p l e R s m args below meth c H locs cells slots Q (F0 m w ls' r)) → W p l e R s m args below meth c H locs cells slots Q (F0 m pc ls (.long x :: r)))
    (kk : am_k0 K D p l e R s m args below meth c nL ad H locs cells slots Q S) : W p l e R s m args below meth c H locs cells slots Q (F0 m pc ls (st.map (am_cv ad))) := by
  obtain ⟨x, r, rfl, hi, rfl⟩ := am_stL_inv hs
  have hL := hn.2.2.2.1.2
  refine hrow x (r.map (am_cv ad)) (by rw [← hL]; exact hi) fun ls' hls => kk H locs ls' ⟨hn.1, hn.2.1, hn.2.2.1, am_lrel.st2 hn.1.2.2.2.2.2.2 hL hn.2.2.2.2.1 (v := .long x) hls, am_ok_st2 hn.2.2.2.2.1 trivial, hn.tl.2.2.2.2.2⟩
theorem am_op_stA (hc : am_ctx K D p l R s m args meth c own ini cc nL d) {i w : Nat} {S : am_S} (hs : am_stA L i w st M = some S) (hn : am_now K D s nL ad M H locs ls L st)
    (hrow : ∀ (x : Nat) (r : List Value), i < nL → (∀ ls' : Array Slot, lv_has ls' nL ((i, .ref x) :: (am_lv ad L).filter (fun q => !(q.1 == i) && !(q.1 + 1 == i && q.2.category == 2))) → W p l e R s m args below meth c H locs cells slots Q (F0 m w ls' r)) → W p l e R s m args below meth c H locs cells slots Q (F0 m pc ls (.ref x :: r)))
    (hrow0 : ∀ (r : List Value), i < nL → (∀ ls' : Array Slot, lv_has ls' nL ((i, .null) :: (am_lv ad L).filter (fun q => !(q.1 == i) && !(q.1 + 1 == i && q.2.category == 2))) → W p l e R s m args below meth c H locs cells slots Q (F0 m w ls' r)) → W p l e R s m args below meth c H locs cells slots Q (F0 m pc ls (.null :: r)))
    (kk : am_k0 K D p l e R s m args below meth c nL ad H locs cells slots Q S) : W p l e R s m args below meth c H locs cells slots Q (F0 m pc ls (st.map (am_cv ad))) := by
  have hL := hn.2.2.2.1.2
  rcases am_stA_inv hs with ⟨x, r, rfl, hi, rfl⟩ | ⟨r, rfl, hi, rfl⟩
  · have hok := hn.2.2.2.2.2 _ List.mem_cons_self
    have fin : ∀ v : Value, am_cv ad (.ref x) = v → ∀ ls' : Array Slot, lv_has ls' nL ((i, v) :: (am_lv ad L).filter (fun q => !(q.1 == i) && !(q.1 + 1 == i && q.2.category == 2))) → W p l e R s m args below meth c H locs cells slots Q (F0 m w ls' (r.map (am_cv ad))) := fun v hv ls' hls =>
      kk H locs ls' ⟨hn.1, hn.2.1, hn.2.2.1, am_lrel.st hn.1.2.2.2.2.2.2 hL hn.2.2.2.2.1 (v := .ref x) (by rw [hv]; exact hls), am_ok_st hn.2.2.2.2.1 hok, hn.tl.2.2.2.2.2⟩
    rw [List.map_cons]
    rcases hn.1.2.2.2.2.2.2 x hok with ⟨a, q⟩ | q
    · rw [show am_cv ad (.ref x) = .ref a from q]
      exact hrow a _ (by rw [← hL]; exact hi) (fin _ q)
    · rw [show am_cv ad (.ref x) = .null from q]
      exact hrow0 _ (by rw [← hL]; exact hi) (fin _ q)
  · exact hrow0 (r.map (am_cv ad)) (by rw [← hL]; exact hi) fun ls' hls => kk H locs ls' ⟨hn.1, hn.2.1, hn.2.2.1, am_lrel.st hn.1.2.2.2.2.2.2 hL hn.2.2.2.2.1 (v := .null) hls, am_ok_st hn.2.2.2.2.1 trivial, hn.tl.2.2.2.2.2⟩
/-- two numbers -/
theorem am_op_i2 {f : Int32 → Int32 → Int32} {w : Nat} {S : am_S} (hs : am_i2 f L w st M = some S) (hn : am_now K D s nL ad M H locs ls L st)
    (hrow : ∀ (x y : Int32) (r : List Value), W p l e R s m args below meth c H locs cells slots Q (F0 m w ls (.int (f x y) :: r)) → W p l e R s m args below meth c H locs cells slots Q (F0 m pc ls (.int y :: .int x :: r)))
    (kk : am_k0 K D p l e R s m args below meth c nL ad H locs cells slots Q S) : W p l e R s m args below meth c H locs cells slots Q (F0 m pc ls (st.map (am_cv ad))) := by
  obtain ⟨x, y, r, rfl, rfl⟩ := am_i2_inv hs
  exact hrow x y _ (kk H locs ls hn.tl2.pushI)
theorem am_op_i2d {f : Int32 → Int32 → Int32} {w : Nat} {S : am_S} (hs : am_i2d f L w st M = some S) (hn : am_now K D s nL ad M H locs ls L st)
    (hrow : ∀ (x y : Int32) (r : List Value), ¬ y = 0 → W p l e R s m args below meth c H locs cells slots Q (F0 m w ls (.int (f x y) :: r)) → W p l e R s m args below meth c H locs cells slots Q (F0 m pc ls (.int y :: .int x :: r)))
    (kk : am_k0 K D p l e R s m args below meth c nL ad H locs cells slots Q S) : W p l e R s m args below meth c H locs cells slots Q (F0 m pc ls (st.map (am_cv ad))) := by
  obtain ⟨x, y, r, rfl, hy, rfl⟩ := am_i2d_inv hs
  exact hrow x y _ hy (kk H locs ls hn.tl2.pushI)
theorem am_op_l2 {f : Int64 → Int64 → Int64} {w : Nat} {S : am_S} (hs : am_l2 f L w st M = some S) (hn : am_now K D s nL ad M H locs ls L st)
    (hrow : ∀ (x y : Int64) (r : List Value), W p l e R s m args below meth c H locs cells slots Q (F0 m w ls (.long (f x y) :: r)) → W p l e R s m args below meth c H locs cells slots Q (F0 m pc ls (.long y :: .long x :: r)))
    (kk : am_k0 K D p l e R s m args below meth c nL ad H locs cells slots Q S) : W p l e R s m args below meth c H locs cells slots Q (F0 m pc ls (st.map (am_cv ad))) := by
  obtain ⟨x, y, r, rfl, rfl⟩ := am_l2_inv hs
  exact hrow x y _ (kk H locs ls hn.tl2.pushL)
theorem am_op_l2d {f : Int64 → Int64 → Int64} {w : Nat} {S : am_S} (hs : am_l2d f L w st M = some S) (hn : am_now K D s nL ad M H locs ls L st)
    (hrow : ∀ (x y : Int64) (r : List Value), ¬ y = 0 → W p l e R s m args below meth c H locs cells slots Q (F0 m w ls (.long (f x y) :: r)) → W p l e R s m args below meth c H locs cells slots Q (F0 m pc ls (.long y :: .long x :: r)))
    (kk : am_k0 K D p l e R s m args below meth c nL ad H locs cells slots Q S) : W p l e R s m args below meth c H locs cells slots Q (F0 m pc ls (st.map (am_cv ad))) := by
  obtain ⟨x, y, r, rfl, hy, rfl⟩ := am_l2d_inv hs
  exact hrow x y _ hy (kk H locs ls hn.tl2.pushL)
theorem am_op_if {P : Int32 → Prop} {f : Int32 → Bool} (hf : ∀ x, f x = true ↔ P x) {t w : Nat} {S : am_S} (hs : am_if f t L w st M = some S) (hn : am_now K D s nL ad M H locs ls L st)
    (hrow : ∀ (x : Int32) (r : List Value), (P x → W p l e R s m args below meth c H locs cells slots Q (F0 m t ls r)) → (¬ P x → W p l e R s m args below meth c H locs cells slots Q (F0 m w ls r)) → W p l e R s m args below meth c H locs cells slots Q (F0 m pc ls (.int x :: r)))
    (kk : am_k0 K D p l e R s m args below meth c nL ad H locs cells slots Q S) : W p l e R s m args below meth c H locs cells slots Q (F0 m pc ls (st.map (am_cv ad))) := by
  obtain ⟨x, r, rfl, rfl⟩ := am_if_inv hs
  refine hrow x _ (fun hp => ?_) (fun hp => ?_)
  · have h := kk H locs ls hn.tl
    dsimp only at h
    rw [if_pos ((hf x).mpr hp)] at h
    exact h
  · have h := kk H locs ls hn.tl
    dsimp only at h
    rw [if_neg (fun z => hp ((hf x).mp z))] at h
    exact h
theorem am_op_icmp {P : Int32 → Int32 → Prop} {f : Int32 → Int32 → Bool} (hf : ∀ x y, f x y = true ↔ P x y) {t w : Nat} {S : am_S} (hs : am_icmp f t L w st M = some S) (hn : am_now K D s nL ad M H locs ls L st)
    (hrow : ∀ (x y : Int32) (r : List Value), (P x y → W p l e R s m args below meth c H locs cells slots Q (F0 m t ls r)) → (¬ P x y → W p l e R s m args below meth c H locs cells slots Q (F0 m w ls r)) → W p l e R s m args below meth c H locs cells slots Q (F0 m pc ls (.int y :: .int x :: r)))
    (kk : am_k0 K D p l e R s m args below meth c nL ad H locs cells slots Q S) : W p l e R s m args below meth c H locs cells slots Q (F0 m pc ls (st.map (am_cv ad))) := by
  obtain ⟨x, y, r, rfl, rfl⟩ := am_icmp_inv hs
  refine hrow x y _ (fun hp => ?_) (fun hp => ?_)
  · have h := kk H locs ls hn.tl2
    dsimp only at h
    rw [if_pos ((hf x y).mpr hp)] at h
    exact h
  · have h := kk H locs ls hn.tl2
    dsimp only at h
    rw [if_neg (fun z => hp ((hf x y).mp z))] at h
    exact h
theorem am_c1_cat (hn : am_now K D s nL ad M H locs ls L st) {v : Value} (hv : am_okv M v) (h : am_c1 v = true) : (am_cv ad v).category = 1 := by
  rw [am_cv_cat hn.1.2.2.2.2.2.2 hv]
  cases v <;> first | rfl | cases h
end AO
