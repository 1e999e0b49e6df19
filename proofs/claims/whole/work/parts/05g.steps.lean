section AG
variable {K : am_K} {D : va_G} {p : Program} {l : Launch} {e : Env} {R : Room} {s : State} {m : MethodId} {args : Array Value} {below : List Frame} {meth : Method} {c : Code} {own : String} {ini : Bool} {cc : ByteArray} {nL d : Nat}
variable {ad : Nat → Value} {M : am_M} {H : Heap} {locs : List Loc} {ls : Array Slot} {L st : List Value} {cells slots : Nat} {Q : State → Prop} {pc : Nat} {rest : List Value}
/-- the frame behind an instruction that may make a cell -/
abbrev am_kG (K : am_K) (D : va_G) (p : Program) (l : Launch) (e : Env) (R : Room) (s : State) (m : MethodId) (args : Array Value) (below : List Frame) (meth : Method) (c : Code) (nL : Nat) (ad : Nat → Value) (M : am_M) (cells slots : Nat) (Q : State → Prop) (S : am_S) : Prop :=
  ∀ (ad' : Nat → Value) (H1 : Heap) (locs1 : List Loc) (ls1 : Array Slot), (∀ k, ¬ am_tg M k = 0 → ad' k = ad k) → am_now K D s nL ad' S.2.2.2 H1 locs1 ls1 S.2.1 S.2.2.1 →
    W p l e R s m args below meth c H1 locs1 (cells + (am_cc S.2.2.2 - am_cc M)) (slots + (am_sl S.2.2.2 - am_sl M)) Q (F0 m S.1 ls1 (S.2.2.1.map (am_cv ad')))
theorem am_k0_of {S : am_S} (kk : am_kG K D p l e R s m args below meth c nL ad M cells slots Q S) (h : am_cc S.2.2.2 = am_cc M ∧ am_sl S.2.2.2 = am_sl M) : am_k0 K D p l e R s m args below meth c nL ad H locs cells slots Q S := by
  intro H1 locs1 ls1 hn
  have h9 := kk ad H1 locs1 ls1 (fun _ _ => rfl) hn
  rw [h.1, h.2, Nat.sub_self, Nat.sub_self, Nat.add_zero, Nat.add_zero] at h9
  exact h9
theorem am_ldcSW (hexec : p.tables.exec = Jvm.exec) (hb : c.code = cc) {tx : String} {index q : Nat} {rest : List Value} (hown : s.vm.findClass own = some m.cls) (hZ : vk_R own index tx q s) (hdg : decode cc pc = .ok (.ldc_w index, 3))
    (k : W p l e R s m args below meth c H locs cells slots Q (F0 m (pc + 3) ls (.ref q :: rest))) : W p l e R s m args below meth c H locs cells slots Q (F0 m pc ls rest) := by
  intro T hT X
  obtain ⟨t, a1, b1⟩ := k T hT X
  exact ⟨t, X.ldcStringW hexec hown (text := tx) (a := q) hZ.1 hZ.2 (g := F0 m pc ls rest) rfl (by rw [hb]; exact hdg) t a1, b1⟩
theorem am_s_iconst (hc : am_ctx K D p l R s m args meth c own ini cc nL d) (hcls : am_cls) {g kd a b : Nat} {n : Int} {S : am_S} (hdg : decode cc pc = .ok (.iconst n, am_len pc (.iconst n))) (hop : am_op (am_sr K) own ini pc (.iconst n) kd a b) (hs : am_step g (.iconst n) kd a b pc L st M = some S) (hn : am_now K D s nL ad M H locs ls L st)
    (hr1 : cells + (am_cc S.2.2.2 - am_cc M) ≤ R.cells) (hr2 : slots + (am_sl S.2.2.2 - am_sl M) ≤ R.slots) (kk : am_kG K D p l e R s m args below meth c nL ad M cells slots Q S) :
    W p l e R s m args below meth c H locs cells slots Q (F0 m pc ls (st.map (am_cv ad))) := by
  obtain ⟨hx, hb, hml, hown, hts, hK, hE, hb0, hR1, hR2, hd1, hlk, hst9, hini⟩ := id hc
  obtain rfl : S = _ := (Option.some.inj hs).symm
  exact lv_iconst hx hb hdg rfl (am_k0_of (H := H) (locs := locs) kk ⟨rfl, rfl⟩ H locs ls hn.pushI)
theorem am_s_bipush (hc : am_ctx K D p l R s m args meth c own ini cc nL d) (hcls : am_cls) {g kd a b : Nat} {n : Int} {S : am_S} (hdg : decode cc pc = .ok (.bipush n, am_len pc (.bipush n))) (hop : am_op (am_sr K) own ini pc (.bipush n) kd a b) (hs : am_step g (.bipush n) kd a b pc L st M = some S) (hn : am_now K D s nL ad M H locs ls L st)
    (hr1 : cells + (am_cc S.2.2.2 - am_cc M) ≤ R.cells) (hr2 : slots + (am_sl S.2.2.2 - am_sl M) ≤ R.slots) (kk : am_kG K D p l e R s m args below meth c nL ad M cells slots Q S) :
    W p l e R s m args below meth c H locs cells slots Q (F0 m pc ls (st.map (am_cv ad))) := by
  obtain ⟨hx, hb, hml, hown, hts, hK, hE, hb0, hR1, hR2, hd1, hlk, hst9, hini⟩ := id hc
  obtain rfl : S = _ := (Option.some.inj hs).symm
  exact lv_bipush hx hb hdg rfl (am_k0_of (H := H) (locs := locs) kk ⟨rfl, rfl⟩ H locs ls hn.pushI)
theorem am_s_sipush (hc : am_ctx K D p l R s m args meth c own ini cc nL d) (hcls : am_cls) {g kd a b : Nat} {n : Int} {S : am_S} (hdg : decode cc pc = .ok (.sipush n, am_len pc (.sipush n))) (hop : am_op (am_sr K) own ini pc (.sipush n) kd a b) (hs : am_step g (.sipush n) kd a b pc L st M = some S) (hn : am_now K D s nL ad M H locs ls L st)
    (hr1 : cells + (am_cc S.2.2.2 - am_cc M) ≤ R.cells) (hr2 : slots + (am_sl S.2.2.2 - am_sl M) ≤ R.slots) (kk : am_kG K D p l e R s m args below meth c nL ad M cells slots Q S) :
    W p l e R s m args below meth c H locs cells slots Q (F0 m pc ls (st.map (am_cv ad))) := by
  obtain ⟨hx, hb, hml, hown, hts, hK, hE, hb0, hR1, hR2, hd1, hlk, hst9, hini⟩ := id hc
  obtain rfl : S = _ := (Option.some.inj hs).symm
  exact lv_sipush hx hb hdg rfl (am_k0_of (H := H) (locs := locs) kk ⟨rfl, rfl⟩ H locs ls hn.pushI)
theorem am_s_lconst (hc : am_ctx K D p l R s m args meth c own ini cc nL d) (hcls : am_cls) {g kd a b : Nat} {n : Fin 2} {S : am_S} (hdg : decode cc pc = .ok (.lconst n, am_len pc (.lconst n))) (hop : am_op (am_sr K) own ini pc (.lconst n) kd a b) (hs : am_step g (.lconst n) kd a b pc L st M = some S) (hn : am_now K D s nL ad M H locs ls L st)
    (hr1 : cells + (am_cc S.2.2.2 - am_cc M) ≤ R.cells) (hr2 : slots + (am_sl S.2.2.2 - am_sl M) ≤ R.slots) (kk : am_kG K D p l e R s m args below meth c nL ad M cells slots Q S) :
    W p l e R s m args below meth c H locs cells slots Q (F0 m pc ls (st.map (am_cv ad))) := by
  obtain ⟨hx, hb, hml, hown, hts, hK, hE, hb0, hR1, hR2, hd1, hlk, hst9, hini⟩ := id hc
  obtain rfl : S = _ := (Option.some.inj hs).symm
  exact lv_lconst hx hb hdg rfl (am_k0_of (H := H) (locs := locs) kk ⟨rfl, rfl⟩ H locs ls hn.pushL)
theorem am_s_aconst_null (hc : am_ctx K D p l R s m args meth c own ini cc nL d) (hcls : am_cls) {g kd a b : Nat}  {S : am_S} (hdg : decode cc pc = .ok (.aconst_null, am_len pc (.aconst_null))) (hop : am_op (am_sr K) own ini pc (.aconst_null) kd a b) (hs : am_step g (.aconst_null) kd a b pc L st M = some S) (hn : am_now K D s nL ad M H locs ls L st)
    (hr1 : cells + (am_cc S.2.2.2 - am_cc M) ≤ R.cells) (hr2 : slots + (am_sl S.2.2.2 - am_sl M) ≤ R.slots) (kk : am_kG K D p l e R s m args below meth c nL ad M cells slots Q S) :
    W p l e R s m args below meth c H locs cells slots Q (F0 m pc ls (st.map (am_cv ad))) := by
  obtain ⟨hx, hb, hml, hown, hts, hK, hE, hb0, hR1, hR2, hd1, hlk, hst9, hini⟩ := id hc
  obtain rfl : S = _ := (Option.some.inj hs).symm
  exact lv_null hx hb hdg (am_k0_of (H := H) (locs := locs) kk ⟨rfl, rfl⟩ H locs ls (hn.push trivial))
theorem am_s_ldc (hc : am_ctx K D p l R s m args meth c own ini cc nL d) (hcls : am_cls) {g kd a b : Nat} {idx : Nat} {S : am_S} (hdg : decode cc pc = .ok (.ldc idx, am_len pc (.ldc idx))) (hop : am_op (am_sr K) own ini pc (.ldc idx) kd a b) (hs : am_step g (.ldc idx) kd a b pc L st M = some S) (hn : am_now K D s nL ad M H locs ls L st)
    (hr1 : cells + (am_cc S.2.2.2 - am_cc M) ≤ R.cells) (hr2 : slots + (am_sl S.2.2.2 - am_sl M) ≤ R.slots) (kk : am_kG K D p l e R s m args below meth c nL ad M cells slots Q S) :
    W p l e R s m args below meth c H locs cells slots Q (F0 m pc ls (st.map (am_cv ad))) := by
  obtain ⟨hx, hb, hml, hown, hts, hK, hE, hb0, hR1, hR2, hd1, hlk, hst9, hini⟩ := id hc
  rcases hop with ⟨rfl, hw⟩ | ⟨rfl, tx, hw⟩
  · obtain rfl : S = (pc + 2, L, .int (Int32.ofNat a) :: st, M) := (Option.some.inj hs).symm
    exact lv_ldc hx hb hown (hts _ hw) hdg (am_k0_of (H := H) (locs := locs) kk ⟨rfl, rfl⟩ H locs ls hn.pushI)
  · obtain rfl : S = (pc + 2, L, .ref (900000 + a) :: st, M) := (Option.some.inj hs).symm
    obtain ⟨r1, r2⟩ := hE.2.2.2.1 _ hw
    obtain ⟨t1, t2, t3, t4⟩ := hn.2.1.2.2.2.1 a r2
    have h := am_k0_of (H := H) (locs := locs) kk ⟨rfl, rfl⟩ H locs ls (hn.push (v := .ref (900000 + a)) (by show ¬ am_tg M (900000 + a) = 0; rw [t1]; decide))
    dsimp only at h
    rw [List.map_cons, show am_cv ad (.ref (900000 + a)) = .ref (am_aK K a) from t3] at h
    exact va_ldcS hx hb hown r1 hdg h
theorem am_s_ldc_w (hc : am_ctx K D p l R s m args meth c own ini cc nL d) (hcls : am_cls) {g kd a b : Nat} {idx : Nat} {S : am_S} (hdg : decode cc pc = .ok (.ldc_w idx, am_len pc (.ldc_w idx))) (hop : am_op (am_sr K) own ini pc (.ldc_w idx) kd a b) (hs : am_step g (.ldc_w idx) kd a b pc L st M = some S) (hn : am_now K D s nL ad M H locs ls L st)
    (hr1 : cells + (am_cc S.2.2.2 - am_cc M) ≤ R.cells) (hr2 : slots + (am_sl S.2.2.2 - am_sl M) ≤ R.slots) (kk : am_kG K D p l e R s m args below meth c nL ad M cells slots Q S) :
    W p l e R s m args below meth c H locs cells slots Q (F0 m pc ls (st.map (am_cv ad))) := by
  obtain ⟨hx, hb, hml, hown, hts, hK, hE, hb0, hR1, hR2, hd1, hlk, hst9, hini⟩ := id hc
  rcases hop with ⟨rfl, hw⟩ | ⟨rfl, tx, hw⟩
  · obtain rfl : S = (pc + 3, L, .int (Int32.ofNat a) :: st, M) := (Option.some.inj hs).symm
    exact lv_ldcw hx hb hown (hts _ hw) hdg (am_k0_of (H := H) (locs := locs) kk ⟨rfl, rfl⟩ H locs ls hn.pushI)
  · obtain rfl : S = (pc + 3, L, .ref (900000 + a) :: st, M) := (Option.some.inj hs).symm
    obtain ⟨r1, r2⟩ := hE.2.2.2.1 _ hw
    obtain ⟨t1, t2, t3, t4⟩ := hn.2.1.2.2.2.1 a r2
    have h := am_k0_of (H := H) (locs := locs) kk ⟨rfl, rfl⟩ H locs ls (hn.push (v := .ref (900000 + a)) (by show ¬ am_tg M (900000 + a) = 0; rw [t1]; decide))
    dsimp only at h
    rw [List.map_cons, show am_cv ad (.ref (900000 + a)) = .ref (am_aK K a) from t3] at h
    exact am_ldcSW hx hb hown r1 hdg h
theorem am_s_ldc2_w (hc : am_ctx K D p l R s m args meth c own ini cc nL d) (hcls : am_cls) {g kd a b : Nat} {idx : Nat} {S : am_S} (hdg : decode cc pc = .ok (.ldc2_w idx, am_len pc (.ldc2_w idx))) (hop : am_op (am_sr K) own ini pc (.ldc2_w idx) kd a b) (hs : am_step g (.ldc2_w idx) kd a b pc L st M = some S) (hn : am_now K D s nL ad M H locs ls L st)
    (hr1 : cells + (am_cc S.2.2.2 - am_cc M) ≤ R.cells) (hr2 : slots + (am_sl S.2.2.2 - am_sl M) ≤ R.slots) (kk : am_kG K D p l e R s m args below meth c nL ad M cells slots Q S) :
    W p l e R s m args below meth c H locs cells slots Q (F0 m pc ls (st.map (am_cv ad))) := by
  obtain ⟨hx, hb, hml, hown, hts, hK, hE, hb0, hR1, hR2, hd1, hlk, hst9, hini⟩ := id hc
  obtain rfl : S = _ := (Option.some.inj hs).symm
  exact lv_ldc2 hx hb hown (hts _ hop) hdg (am_k0_of (H := H) (locs := locs) kk ⟨rfl, rfl⟩ H locs ls hn.pushL)
theorem am_s_iload_n (hc : am_ctx K D p l R s m args meth c own ini cc nL d) (hcls : am_cls) {g kd a b : Nat} {k : Fin 4} {S : am_S} (hdg : decode cc pc = .ok (.iload_n k, am_len pc (.iload_n k))) (hop : am_op (am_sr K) own ini pc (.iload_n k) kd a b) (hs : am_step g (.iload_n k) kd a b pc L st M = some S) (hn : am_now K D s nL ad M H locs ls L st)
    (hr1 : cells + (am_cc S.2.2.2 - am_cc M) ≤ R.cells) (hr2 : slots + (am_sl S.2.2.2 - am_sl M) ≤ R.slots) (kk : am_kG K D p l e R s m args below meth c nL ad M cells slots Q S) :
    W p l e R s m args below meth c H locs cells slots Q (F0 m pc ls (st.map (am_cv ad))) := by
  obtain ⟨hx, hb, hml, hown, hts, hK, hE, hb0, hR1, hR2, hd1, hlk, hst9, hini⟩ := id hc
  have hs : am_ldI L k (pc + 1) st M = some S := hs
  exact am_op_ldI hc hs hn (fun x h1 h2 => lv_iload_n hx hb hdg rfl h1 h2) (am_k0_of kk (by obtain ⟨_, _, rfl⟩ := am_ldI_inv hs; exact ⟨rfl, rfl⟩))
theorem am_s_iload (hc : am_ctx K D p l R s m args meth c own ini cc nL d) (hcls : am_cls) {g kd a b : Nat} {k : Nat} {S : am_S} (hdg : decode cc pc = .ok (.iload k, am_len pc (.iload k))) (hop : am_op (am_sr K) own ini pc (.iload k) kd a b) (hs : am_step g (.iload k) kd a b pc L st M = some S) (hn : am_now K D s nL ad M H locs ls L st)
    (hr1 : cells + (am_cc S.2.2.2 - am_cc M) ≤ R.cells) (hr2 : slots + (am_sl S.2.2.2 - am_sl M) ≤ R.slots) (kk : am_kG K D p l e R s m args below meth c nL ad M cells slots Q S) :
    W p l e R s m args below meth c H locs cells slots Q (F0 m pc ls (st.map (am_cv ad))) := by
  obtain ⟨hx, hb, hml, hown, hts, hK, hE, hb0, hR1, hR2, hd1, hlk, hst9, hini⟩ := id hc
  have hs : am_ldI L k (pc + 2) st M = some S := hs
  exact am_op_ldI hc hs hn (fun x h1 h2 => lv_iload hx hb hdg h1 h2) (am_k0_of kk (by obtain ⟨_, _, rfl⟩ := am_ldI_inv hs; exact ⟨rfl, rfl⟩))
theorem am_s_lload_n (hc : am_ctx K D p l R s m args meth c own ini cc nL d) (hcls : am_cls) {g kd a b : Nat} {k : Fin 4} {S : am_S} (hdg : decode cc pc = .ok (.lload_n k, am_len pc (.lload_n k))) (hop : am_op (am_sr K) own ini pc (.lload_n k) kd a b) (hs : am_step g (.lload_n k) kd a b pc L st M = some S) (hn : am_now K D s nL ad M H locs ls L st)
    (hr1 : cells + (am_cc S.2.2.2 - am_cc M) ≤ R.cells) (hr2 : slots + (am_sl S.2.2.2 - am_sl M) ≤ R.slots) (kk : am_kG K D p l e R s m args below meth c nL ad M cells slots Q S) :
    W p l e R s m args below meth c H locs cells slots Q (F0 m pc ls (st.map (am_cv ad))) := by
  obtain ⟨hx, hb, hml, hown, hts, hK, hE, hb0, hR1, hR2, hd1, hlk, hst9, hini⟩ := id hc
  have hs : am_ldL L k (pc + 1) st M = some S := hs
  exact am_op_ldL hc hs hn (fun x h1 h2 => lv_lload_n hx hb hdg rfl h1 h2) (am_k0_of kk (by obtain ⟨_, _, rfl⟩ := am_ldL_inv hs; exact ⟨rfl, rfl⟩))
theorem am_s_lload (hc : am_ctx K D p l R s m args meth c own ini cc nL d) (hcls : am_cls) {g kd a b : Nat} {k : Nat} {S : am_S} (hdg : decode cc pc = .ok (.lload k, am_len pc (.lload k))) (hop : am_op (am_sr K) own ini pc (.lload k) kd a b) (hs : am_step g (.lload k) kd a b pc L st M = some S) (hn : am_now K D s nL ad M H locs ls L st)
    (hr1 : cells + (am_cc S.2.2.2 - am_cc M) ≤ R.cells) (hr2 : slots + (am_sl S.2.2.2 - am_sl M) ≤ R.slots) (kk : am_kG K D p l e R s m args below meth c nL ad M cells slots Q S) :
    W p l e R s m args below meth c H locs cells slots Q (F0 m pc ls (st.map (am_cv ad))) := by
  obtain ⟨hx, hb, hml, hown, hts, hK, hE, hb0, hR1, hR2, hd1, hlk, hst9, hini⟩ := id hc
  have hs : am_ldL L k (pc + 2) st M = some S := hs
  exact am_op_ldL hc hs hn (fun x h1 h2 => lv_lload hx hb hdg h1 h2) (am_k0_of kk (by obtain ⟨_, _, rfl⟩ := am_ldL_inv hs; exact ⟨rfl, rfl⟩))
theorem am_s_aload_n (hc : am_ctx K D p l R s m args meth c own ini cc nL d) (hcls : am_cls) {g kd a b : Nat} {k : Fin 4} {S : am_S} (hdg : decode cc pc = .ok (.aload_n k, am_len pc (.aload_n k))) (hop : am_op (am_sr K) own ini pc (.aload_n k) kd a b) (hs : am_step g (.aload_n k) kd a b pc L st M = some S) (hn : am_now K D s nL ad M H locs ls L st)
    (hr1 : cells + (am_cc S.2.2.2 - am_cc M) ≤ R.cells) (hr2 : slots + (am_sl S.2.2.2 - am_sl M) ≤ R.slots) (kk : am_kG K D p l e R s m args below meth c nL ad M cells slots Q S) :
    W p l e R s m args below meth c H locs cells slots Q (F0 m pc ls (st.map (am_cv ad))) := by
  obtain ⟨hx, hb, hml, hown, hts, hK, hE, hb0, hR1, hR2, hd1, hlk, hst9, hini⟩ := id hc
  have hs : am_ldA L k (pc + 1) st M = some S := hs
  exact am_op_ldA hc hs hn (fun x h1 h2 => lv_aload_n hx hb hdg rfl h1 h2) (fun h1 h2 => lv_aload_nN hx hb hdg rfl h1 h2) (am_k0_of kk (by rcases am_ldA_inv hs with ⟨_, _, rfl⟩ | ⟨_, rfl⟩ <;> exact ⟨rfl, rfl⟩))
theorem am_s_aload (hc : am_ctx K D p l R s m args meth c own ini cc nL d) (hcls : am_cls) {g kd a b : Nat} {k : Nat} {S : am_S} (hdg : decode cc pc = .ok (.aload k, am_len pc (.aload k))) (hop : am_op (am_sr K) own ini pc (.aload k) kd a b) (hs : am_step g (.aload k) kd a b pc L st M = some S) (hn : am_now K D s nL ad M H locs ls L st)
    (hr1 : cells + (am_cc S.2.2.2 - am_cc M) ≤ R.cells) (hr2 : slots + (am_sl S.2.2.2 - am_sl M) ≤ R.slots) (kk : am_kG K D p l e R s m args below meth c nL ad M cells slots Q S) :
    W p l e R s m args below meth c H locs cells slots Q (F0 m pc ls (st.map (am_cv ad))) := by
  obtain ⟨hx, hb, hml, hown, hts, hK, hE, hb0, hR1, hR2, hd1, hlk, hst9, hini⟩ := id hc
  have hs : am_ldA L k (pc + 2) st M = some S := hs
  exact am_op_ldA hc hs hn (fun x h1 h2 => lv_aload hx hb hdg h1 h2) (fun h1 h2 => lv_aloadN hx hb hdg h1 h2) (am_k0_of kk (by rcases am_ldA_inv hs with ⟨_, _, rfl⟩ | ⟨_, rfl⟩ <;> exact ⟨rfl, rfl⟩))
theorem am_s_istore_n (hc : am_ctx K D p l R s m args meth c own ini cc nL d) (hcls : am_cls) {g kd a b : Nat} {k : Fin 4} {S : am_S} (hdg : decode cc pc = .ok (.istore_n k, am_len pc (.istore_n k))) (hop : am_op (am_sr K) own ini pc (.istore_n k) kd a b) (hs : am_step g (.istore_n k) kd a b pc L st M = some S) (hn : am_now K D s nL ad M H locs ls L st)
    (hr1 : cells + (am_cc S.2.2.2 - am_cc M) ≤ R.cells) (hr2 : slots + (am_sl S.2.2.2 - am_sl M) ≤ R.slots) (kk : am_kG K D p l e R s m args below meth c nL ad M cells slots Q S) :
    W p l e R s m args below meth c H locs cells slots Q (F0 m pc ls (st.map (am_cv ad))) := by
  obtain ⟨hx, hb, hml, hown, hts, hK, hE, hb0, hR1, hR2, hd1, hlk, hst9, hini⟩ := id hc
  have hs : am_stI L k (pc + 1) st M = some S := hs
  exact am_op_stI hc hs hn (fun x r h1 h2 => lv_istore_n hx hb hdg rfl hn.2.2.2.1.1 h1 rfl h2) (am_k0_of kk (by obtain ⟨_, _, _, _, rfl⟩ := am_stI_inv hs; exact ⟨rfl, rfl⟩))
theorem am_s_istore (hc : am_ctx K D p l R s m args meth c own ini cc nL d) (hcls : am_cls) {g kd a b : Nat} {k : Nat} {S : am_S} (hdg : decode cc pc = .ok (.istore k, am_len pc (.istore k))) (hop : am_op (am_sr K) own ini pc (.istore k) kd a b) (hs : am_step g (.istore k) kd a b pc L st M = some S) (hn : am_now K D s nL ad M H locs ls L st)
    (hr1 : cells + (am_cc S.2.2.2 - am_cc M) ≤ R.cells) (hr2 : slots + (am_sl S.2.2.2 - am_sl M) ≤ R.slots) (kk : am_kG K D p l e R s m args below meth c nL ad M cells slots Q S) :
    W p l e R s m args below meth c H locs cells slots Q (F0 m pc ls (st.map (am_cv ad))) := by
  obtain ⟨hx, hb, hml, hown, hts, hK, hE, hb0, hR1, hR2, hd1, hlk, hst9, hini⟩ := id hc
  have hs : am_stI L k (pc + 2) st M = some S := hs
  exact am_op_stI hc hs hn (fun x r h1 h2 => lv_istore hx hb hdg hn.2.2.2.1.1 h1 rfl h2) (am_k0_of kk (by obtain ⟨_, _, _, _, rfl⟩ := am_stI_inv hs; exact ⟨rfl, rfl⟩))
theorem am_s_lstore_n (hc : am_ctx K D p l R s m args meth c own ini cc nL d) (hcls : am_cls) {g kd a b : Nat} {k : Fin 4} {S : am_S} (hdg : decode cc pc = .ok (.lstore_n k, am_len pc (.lstore_n k))) (hop : am_op (am_sr K) own ini pc (.lstore_n k) kd a b) (hs : am_step g (.lstore_n k) kd a b pc L st M = some S) (hn : am_now K D s nL ad M H locs ls L st)
    (hr1 : cells + (am_cc S.2.2.2 - am_cc M) ≤ R.cells) (hr2 : slots + (am_sl S.2.2.2 - am_sl M) ≤ R.slots) (kk : am_kG K D p l e R s m args below meth c nL ad M cells slots Q S) :
    W p l e R s m args below meth c H locs cells slots Q (F0 m pc ls (st.map (am_cv ad))) := by
  obtain ⟨hx, hb, hml, hown, hts, hK, hE, hb0, hR1, hR2, hd1, hlk, hst9, hini⟩ := id hc
  have hs : am_stL L k (pc + 1) st M = some S := hs
  exact am_op_stL hc hs hn (fun x r h1 h2 => lv_lstore_n hx hb hdg rfl hn.2.2.2.1.1 h1 rfl h2) (am_k0_of kk (by obtain ⟨_, _, _, _, rfl⟩ := am_stL_inv hs; exact ⟨rfl, rfl⟩))
theorem am_s_lstore (hc : am_ctx K D p l R s m args meth c own ini cc nL d) (hcls : am_cls) {g kd a b : Nat} {k : Nat} {S : am_S} (hdg : decode cc pc = .ok (.lstore k, am_len pc (.lstore k))) (hop : am_op (am_sr K) own ini pc (.lstore k) kd a b) (hs : am_step g (.lstore k) kd a b pc L st M = some S) (hn : am_now K D s nL ad M H locs ls L st)
    (hr1 : cells + (am_cc S.2.2.2 - am_cc M) ≤ R.cells) (hr2 : slots + (am_sl S.2.2.2 - am_sl M) ≤ R.slots) (kk : am_kG K D p l e R s m args below meth c nL ad M cells slots Q S) :
    W p l e R s m args below meth c H locs cells slots Q (F0 m pc ls (st.map (am_cv ad))) := by
  obtain ⟨hx, hb, hml, hown, hts, hK, hE, hb0, hR1, hR2, hd1, hlk, hst9, hini⟩ := id hc
  have hs : am_stL L k (pc + 2) st M = some S := hs
  exact am_op_stL hc hs hn (fun x r h1 h2 => lv_lstore hx hb hdg hn.2.2.2.1.1 h1 rfl h2) (am_k0_of kk (by obtain ⟨_, _, _, _, rfl⟩ := am_stL_inv hs; exact ⟨rfl, rfl⟩))
theorem am_s_astore_n (hc : am_ctx K D p l R s m args meth c own ini cc nL d) (hcls : am_cls) {g kd a b : Nat} {k : Fin 4} {S : am_S} (hdg : decode cc pc = .ok (.astore_n k, am_len pc (.astore_n k))) (hop : am_op (am_sr K) own ini pc (.astore_n k) kd a b) (hs : am_step g (.astore_n k) kd a b pc L st M = some S) (hn : am_now K D s nL ad M H locs ls L st)
    (hr1 : cells + (am_cc S.2.2.2 - am_cc M) ≤ R.cells) (hr2 : slots + (am_sl S.2.2.2 - am_sl M) ≤ R.slots) (kk : am_kG K D p l e R s m args below meth c nL ad M cells slots Q S) :
    W p l e R s m args below meth c H locs cells slots Q (F0 m pc ls (st.map (am_cv ad))) := by
  obtain ⟨hx, hb, hml, hown, hts, hK, hE, hb0, hR1, hR2, hd1, hlk, hst9, hini⟩ := id hc
  have hs : am_stA L k (pc + 1) st M = some S := hs
  exact am_op_stA hc hs hn (fun x r h1 h2 => lv_astore_n hx hb hdg rfl hn.2.2.2.1.1 h1 rfl h2) (fun r h1 h2 => lv_astore_nN hx hb hdg rfl hn.2.2.2.1.1 h1 rfl h2) (am_k0_of kk (by rcases am_stA_inv hs with ⟨_, _, _, _, rfl⟩ | ⟨_, _, _, rfl⟩ <;> exact ⟨rfl, rfl⟩))
theorem am_s_astore (hc : am_ctx K D p l R s m args meth c own ini cc nL d) (hcls : am_cls) {g kd a b : Nat} {k : Nat} {S : am_S} (hdg : decode cc pc = .ok (.astore k, am_len pc (.astore k))) (hop : am_op (am_sr K) own ini pc (.astore k) kd a b) (hs : am_step g (.astore k) kd a b pc L st M = some S) (hn : am_now K D s nL ad M H locs ls L st)
    (hr1 : cells + (am_cc S.2.2.2 - am_cc M) ≤ R.cells) (hr2 : slots + (am_sl S.2.2.2 - am_sl M) ≤ R.slots) (kk : am_kG K D p l e R s m args below meth c nL ad M cells slots Q S) :
    W p l e R s m args below meth c H locs cells slots Q (F0 m pc ls (st.map (am_cv ad))) := by
  obtain ⟨hx, hb, hml, hown, hts, hK, hE, hb0, hR1, hR2, hd1, hlk, hst9, hini⟩ := id hc
  have hs : am_stA L k (pc + 2) st M = some S := hs
  exact am_op_stA hc hs hn (fun x r h1 h2 => lv_astore hx hb hdg hn.2.2.2.1.1 h1 rfl h2) (fun r h1 h2 => lv_astoreN hx hb hdg hn.2.2.2.1.1 h1 rfl h2) (am_k0_of kk (by rcases am_stA_inv hs with ⟨_, _, _, _, rfl⟩ | ⟨_, _, _, rfl⟩ <;> exact ⟨rfl, rfl⟩))
theorem am_s_iinc (hc : am_ctx K D p l R s m args meth c own ini cc nL d) (hcls : am_cls) {g kd a b : Nat} {k : Nat} {n : Int} {S : am_S} (hdg : decode cc pc = .ok (.iinc k n, am_len pc (.iinc k n))) (hop : am_op (am_sr K) own ini pc (.iinc k n) kd a b) (hs : am_step g (.iinc k n) kd a b pc L st M = some S) (hn : am_now K D s nL ad M H locs ls L st)
    (hr1 : cells + (am_cc S.2.2.2 - am_cc M) ≤ R.cells) (hr2 : slots + (am_sl S.2.2.2 - am_sl M) ≤ R.slots) (kk : am_kG K D p l e R s m args below meth c nL ad M cells slots Q S) :
    W p l e R s m args below meth c H locs cells slots Q (F0 m pc ls (st.map (am_cv ad))) := by
  obtain ⟨hx, hb, hml, hown, hts, hK, hE, hb0, hR1, hR2, hd1, hlk, hst9, hini⟩ := id hc
  have hs : (match (generalizing := false) L[k]? with | some (.int x) => some (pc + 3, am_st L k (.int (x + Int32.ofInt n)), st, M) | _ => none) = some S := hs
  split at hs
  · rename_i x hx9
    obtain rfl : S = _ := (Option.some.inj hs).symm
    have hL := hn.2.2.2.1.2
    obtain ⟨j, hj⟩ := List.getElem?_of_mem (am_lv_mem.mpr ⟨_, hx9, rfl, rfl⟩ : (k, am_cv ad (.int x)) ∈ am_lv ad L)
    refine lv_iinc hx hb hdg hn.2.2.2.1.1 hj rfl (by rw [← hL]; exact (List.getElem?_eq_some_iff.mp hx9).1) rfl fun ls' hls => ?_
    exact am_k0_of (H := H) (locs := locs) kk ⟨rfl, rfl⟩ H locs ls' ⟨hn.1, hn.2.1, hn.2.2.1, am_lrel.st hn.1.2.2.2.2.2.2 hL hn.2.2.2.2.1 (v := .int (x + Int32.ofInt n)) hls, am_ok_st hn.2.2.2.2.1 trivial, hn.2.2.2.2.2⟩
  · cases hs
theorem am_s_iadd (hc : am_ctx K D p l R s m args meth c own ini cc nL d) (hcls : am_cls) {g kd a b : Nat}  {S : am_S} (hdg : decode cc pc = .ok (.iadd, am_len pc (.iadd))) (hop : am_op (am_sr K) own ini pc (.iadd) kd a b) (hs : am_step g (.iadd) kd a b pc L st M = some S) (hn : am_now K D s nL ad M H locs ls L st)
    (hr1 : cells + (am_cc S.2.2.2 - am_cc M) ≤ R.cells) (hr2 : slots + (am_sl S.2.2.2 - am_sl M) ≤ R.slots) (kk : am_kG K D p l e R s m args below meth c nL ad M cells slots Q S) :
    W p l e R s m args below meth c H locs cells slots Q (F0 m pc ls (st.map (am_cv ad))) := by
  obtain ⟨hx, hb, hml, hown, hts, hK, hE, hb0, hR1, hR2, hd1, hlk, hst9, hini⟩ := id hc
  have hs : am_i2 (fun x y => x + y) L (pc + 1) st M = some S := hs
  exact am_op_i2 hs hn (fun x y r h => lv_iadd hx hb hdg h) (am_k0_of kk (by obtain ⟨_, _, _, _, rfl⟩ := am_i2_inv hs; exact ⟨rfl, rfl⟩))
theorem am_s_isub (hc : am_ctx K D p l R s m args meth c own ini cc nL d) (hcls : am_cls) {g kd a b : Nat}  {S : am_S} (hdg : decode cc pc = .ok (.isub, am_len pc (.isub))) (hop : am_op (am_sr K) own ini pc (.isub) kd a b) (hs : am_step g (.isub) kd a b pc L st M = some S) (hn : am_now K D s nL ad M H locs ls L st)
    (hr1 : cells + (am_cc S.2.2.2 - am_cc M) ≤ R.cells) (hr2 : slots + (am_sl S.2.2.2 - am_sl M) ≤ R.slots) (kk : am_kG K D p l e R s m args below meth c nL ad M cells slots Q S) :
    W p l e R s m args below meth c H locs cells slots Q (F0 m pc ls (st.map (am_cv ad))) := by
  obtain ⟨hx, hb, hml, hown, hts, hK, hE, hb0, hR1, hR2, hd1, hlk, hst9, hini⟩ := id hc
  have hs : am_i2 (fun x y => x - y) L (pc + 1) st M = some S := hs
  exact am_op_i2 hs hn (fun x y r h => lv_isub hx hb hdg h) (am_k0_of kk (by obtain ⟨_, _, _, _, rfl⟩ := am_i2_inv hs; exact ⟨rfl, rfl⟩))
theorem am_s_imul (hc : am_ctx K D p l R s m args meth c own ini cc nL d) (hcls : am_cls) {g kd a b : Nat}  {S : am_S} (hdg : decode cc pc = .ok (.imul, am_len pc (.imul))) (hop : am_op (am_sr K) own ini pc (.imul) kd a b) (hs : am_step g (.imul) kd a b pc L st M = some S) (hn : am_now K D s nL ad M H locs ls L st)
    (hr1 : cells + (am_cc S.2.2.2 - am_cc M) ≤ R.cells) (hr2 : slots + (am_sl S.2.2.2 - am_sl M) ≤ R.slots) (kk : am_kG K D p l e R s m args below meth c nL ad M cells slots Q S) :
    W p l e R s m args below meth c H locs cells slots Q (F0 m pc ls (st.map (am_cv ad))) := by
  obtain ⟨hx, hb, hml, hown, hts, hK, hE, hb0, hR1, hR2, hd1, hlk, hst9, hini⟩ := id hc
  have hs : am_i2 (fun x y => x * y) L (pc + 1) st M = some S := hs
  exact am_op_i2 hs hn (fun x y r h => lv_imul hx hb hdg h) (am_k0_of kk (by obtain ⟨_, _, _, _, rfl⟩ := am_i2_inv hs; exact ⟨rfl, rfl⟩))
theorem am_s_iand (hc : am_ctx K D p l R s m args meth c own ini cc nL d) (hcls : am_cls) {g kd a b : Nat}  {S : am_S} (hdg : decode cc pc = .ok (.iand, am_len pc (.iand))) (hop : am_op (am_sr K) own ini pc (.iand) kd a b) (hs : am_step g (.iand) kd a b pc L st M = some S) (hn : am_now K D s nL ad M H locs ls L st)
    (hr1 : cells + (am_cc S.2.2.2 - am_cc M) ≤ R.cells) (hr2 : slots + (am_sl S.2.2.2 - am_sl M) ≤ R.slots) (kk : am_kG K D p l e R s m args below meth c nL ad M cells slots Q S) :
    W p l e R s m args below meth c H locs cells slots Q (F0 m pc ls (st.map (am_cv ad))) := by
  obtain ⟨hx, hb, hml, hown, hts, hK, hE, hb0, hR1, hR2, hd1, hlk, hst9, hini⟩ := id hc
  have hs : am_i2 (fun x y => x &&& y) L (pc + 1) st M = some S := hs
  exact am_op_i2 hs hn (fun x y r h => lv_iand hx hb hdg h) (am_k0_of kk (by obtain ⟨_, _, _, _, rfl⟩ := am_i2_inv hs; exact ⟨rfl, rfl⟩))
theorem am_s_ior (hc : am_ctx K D p l R s m args meth c own ini cc nL d) (hcls : am_cls) {g kd a b : Nat}  {S : am_S} (hdg : decode cc pc = .ok (.ior, am_len pc (.ior))) (hop : am_op (am_sr K) own ini pc (.ior) kd a b) (hs : am_step g (.ior) kd a b pc L st M = some S) (hn : am_now K D s nL ad M H locs ls L st)
    (hr1 : cells + (am_cc S.2.2.2 - am_cc M) ≤ R.cells) (hr2 : slots + (am_sl S.2.2.2 - am_sl M) ≤ R.slots) (kk : am_kG K D p l e R s m args below meth c nL ad M cells slots Q S) :
    W p l e R s m args below meth c H locs cells slots Q (F0 m pc ls (st.map (am_cv ad))) := by
  obtain ⟨hx, hb, hml, hown, hts, hK, hE, hb0, hR1, hR2, hd1, hlk, hst9, hini⟩ := id hc
  have hs : am_i2 (fun x y => x ||| y) L (pc + 1) st M = some S := hs
  exact am_op_i2 hs hn (fun x y r h => lv_ior hx hb hdg h) (am_k0_of kk (by obtain ⟨_, _, _, _, rfl⟩ := am_i2_inv hs; exact ⟨rfl, rfl⟩))
theorem am_s_ixor (hc : am_ctx K D p l R s m args meth c own ini cc nL d) (hcls : am_cls) {g kd a b : Nat}  {S : am_S} (hdg : decode cc pc = .ok (.ixor, am_len pc (.ixor))) (hop : am_op (am_sr K) own ini pc (.ixor) kd a b) (hs : am_step g (.ixor) kd a b pc L st M = some S) (hn : am_now K D s nL ad M H locs ls L st)
    (hr1 : cells + (am_cc S.2.2.2 - am_cc M) ≤ R.cells) (hr2 : slots + (am_sl S.2.2.2 - am_sl M) ≤ R.slots) (kk : am_kG K D p l e R s m args below meth c nL ad M cells slots Q S) :
    W p l e R s m args below meth c H locs cells slots Q (F0 m pc ls (st.map (am_cv ad))) := by
  obtain ⟨hx, hb, hml, hown, hts, hK, hE, hb0, hR1, hR2, hd1, hlk, hst9, hini⟩ := id hc
  have hs : am_i2 (fun x y => x ^^^ y) L (pc + 1) st M = some S := hs
  exact am_op_i2 hs hn (fun x y r h => lv_ixor hx hb hdg h) (am_k0_of kk (by obtain ⟨_, _, _, _, rfl⟩ := am_i2_inv hs; exact ⟨rfl, rfl⟩))
theorem am_s_ishl (hc : am_ctx K D p l R s m args meth c own ini cc nL d) (hcls : am_cls) {g kd a b : Nat}  {S : am_S} (hdg : decode cc pc = .ok (.ishl, am_len pc (.ishl))) (hop : am_op (am_sr K) own ini pc (.ishl) kd a b) (hs : am_step g (.ishl) kd a b pc L st M = some S) (hn : am_now K D s nL ad M H locs ls L st)
    (hr1 : cells + (am_cc S.2.2.2 - am_cc M) ≤ R.cells) (hr2 : slots + (am_sl S.2.2.2 - am_sl M) ≤ R.slots) (kk : am_kG K D p l e R s m args below meth c nL ad M cells slots Q S) :
    W p l e R s m args below meth c H locs cells slots Q (F0 m pc ls (st.map (am_cv ad))) := by
  obtain ⟨hx, hb, hml, hown, hts, hK, hE, hb0, hR1, hR2, hd1, hlk, hst9, hini⟩ := id hc
  have hs : am_i2 (fun x y => x <<< (y &&& 31)) L (pc + 1) st M = some S := hs
  exact am_op_i2 hs hn (fun x y r h => lv_ishl hx hb hdg h) (am_k0_of kk (by obtain ⟨_, _, _, _, rfl⟩ := am_i2_inv hs; exact ⟨rfl, rfl⟩))
theorem am_s_ishr (hc : am_ctx K D p l R s m args meth c own ini cc nL d) (hcls : am_cls) {g kd a b : Nat}  {S : am_S} (hdg : decode cc pc = .ok (.ishr, am_len pc (.ishr))) (hop : am_op (am_sr K) own ini pc (.ishr) kd a b) (hs : am_step g (.ishr) kd a b pc L st M = some S) (hn : am_now K D s nL ad M H locs ls L st)
    (hr1 : cells + (am_cc S.2.2.2 - am_cc M) ≤ R.cells) (hr2 : slots + (am_sl S.2.2.2 - am_sl M) ≤ R.slots) (kk : am_kG K D p l e R s m args below meth c nL ad M cells slots Q S) :
    W p l e R s m args below meth c H locs cells slots Q (F0 m pc ls (st.map (am_cv ad))) := by
  obtain ⟨hx, hb, hml, hown, hts, hK, hE, hb0, hR1, hR2, hd1, hlk, hst9, hini⟩ := id hc
  have hs : am_i2 (fun x y => x >>> (y &&& 31)) L (pc + 1) st M = some S := hs
  exact am_op_i2 hs hn (fun x y r h => lv_ishr hx hb hdg h) (am_k0_of kk (by obtain ⟨_, _, _, _, rfl⟩ := am_i2_inv hs; exact ⟨rfl, rfl⟩))
theorem am_s_iushr (hc : am_ctx K D p l R s m args meth c own ini cc nL d) (hcls : am_cls) {g kd a b : Nat}  {S : am_S} (hdg : decode cc pc = .ok (.iushr, am_len pc (.iushr))) (hop : am_op (am_sr K) own ini pc (.iushr) kd a b) (hs : am_step g (.iushr) kd a b pc L st M = some S) (hn : am_now K D s nL ad M H locs ls L st)
    (hr1 : cells + (am_cc S.2.2.2 - am_cc M) ≤ R.cells) (hr2 : slots + (am_sl S.2.2.2 - am_sl M) ≤ R.slots) (kk : am_kG K D p l e R s m args below meth c nL ad M cells slots Q S) :
    W p l e R s m args below meth c H locs cells slots Q (F0 m pc ls (st.map (am_cv ad))) := by
  obtain ⟨hx, hb, hml, hown, hts, hK, hE, hb0, hR1, hR2, hd1, hlk, hst9, hini⟩ := id hc
  have hs : am_i2 (fun x y => (x.toUInt32 >>> (y.toUInt32 &&& Int32.toUInt32 31)).toInt32) L (pc + 1) st M = some S := hs
  exact am_op_i2 hs hn (fun x y r h => lv_iushr hx hb hdg rfl h) (am_k0_of kk (by obtain ⟨_, _, _, _, rfl⟩ := am_i2_inv hs; exact ⟨rfl, rfl⟩))
theorem am_s_idiv (hc : am_ctx K D p l R s m args meth c own ini cc nL d) (hcls : am_cls) {g kd a b : Nat}  {S : am_S} (hdg : decode cc pc = .ok (.idiv, am_len pc (.idiv))) (hop : am_op (am_sr K) own ini pc (.idiv) kd a b) (hs : am_step g (.idiv) kd a b pc L st M = some S) (hn : am_now K D s nL ad M H locs ls L st)
    (hr1 : cells + (am_cc S.2.2.2 - am_cc M) ≤ R.cells) (hr2 : slots + (am_sl S.2.2.2 - am_sl M) ≤ R.slots) (kk : am_kG K D p l e R s m args below meth c nL ad M cells slots Q S) :
    W p l e R s m args below meth c H locs cells slots Q (F0 m pc ls (st.map (am_cv ad))) := by
  obtain ⟨hx, hb, hml, hown, hts, hK, hE, hb0, hR1, hR2, hd1, hlk, hst9, hini⟩ := id hc
  have hs : am_i2d (fun x y => x / y) L (pc + 1) st M = some S := hs
  exact am_op_i2d hs hn (fun x y r h1 h => lv_idiv hx hb hdg h1 h) (am_k0_of kk (by obtain ⟨_, _, _, _, _, rfl⟩ := am_i2d_inv hs; exact ⟨rfl, rfl⟩))
theorem am_s_irem (hc : am_ctx K D p l R s m args meth c own ini cc nL d) (hcls : am_cls) {g kd a b : Nat}  {S : am_S} (hdg : decode cc pc = .ok (.irem, am_len pc (.irem))) (hop : am_op (am_sr K) own ini pc (.irem) kd a b) (hs : am_step g (.irem) kd a b pc L st M = some S) (hn : am_now K D s nL ad M H locs ls L st)
    (hr1 : cells + (am_cc S.2.2.2 - am_cc M) ≤ R.cells) (hr2 : slots + (am_sl S.2.2.2 - am_sl M) ≤ R.slots) (kk : am_kG K D p l e R s m args below meth c nL ad M cells slots Q S) :
    W p l e R s m args below meth c H locs cells slots Q (F0 m pc ls (st.map (am_cv ad))) := by
  obtain ⟨hx, hb, hml, hown, hts, hK, hE, hb0, hR1, hR2, hd1, hlk, hst9, hini⟩ := id hc
  have hs : am_i2d (fun x y => x - x / y * y) L (pc + 1) st M = some S := hs
  exact am_op_i2d hs hn (fun x y r h1 h => lv_irem hx hb hdg h1 h) (am_k0_of kk (by obtain ⟨_, _, _, _, _, rfl⟩ := am_i2d_inv hs; exact ⟨rfl, rfl⟩))
theorem am_s_ladd (hc : am_ctx K D p l R s m args meth c own ini cc nL d) (hcls : am_cls) {g kd a b : Nat}  {S : am_S} (hdg : decode cc pc = .ok (.ladd, am_len pc (.ladd))) (hop : am_op (am_sr K) own ini pc (.ladd) kd a b) (hs : am_step g (.ladd) kd a b pc L st M = some S) (hn : am_now K D s nL ad M H locs ls L st)
    (hr1 : cells + (am_cc S.2.2.2 - am_cc M) ≤ R.cells) (hr2 : slots + (am_sl S.2.2.2 - am_sl M) ≤ R.slots) (kk : am_kG K D p l e R s m args below meth c nL ad M cells slots Q S) :
    W p l e R s m args below meth c H locs cells slots Q (F0 m pc ls (st.map (am_cv ad))) := by
  obtain ⟨hx, hb, hml, hown, hts, hK, hE, hb0, hR1, hR2, hd1, hlk, hst9, hini⟩ := id hc
  have hs : am_l2 (fun x y => x + y) L (pc + 1) st M = some S := hs
  exact am_op_l2 hs hn (fun x y r h => lv_ladd hx hb hdg h) (am_k0_of kk (by obtain ⟨_, _, _, _, rfl⟩ := am_l2_inv hs; exact ⟨rfl, rfl⟩))
theorem am_s_lsub (hc : am_ctx K D p l R s m args meth c own ini cc nL d) (hcls : am_cls) {g kd a b : Nat}  {S : am_S} (hdg : decode cc pc = .ok (.lsub, am_len pc (.lsub))) (hop : am_op (am_sr K) own ini pc (.lsub) kd a b) (hs : am_step g (.lsub) kd a b pc L st M = some S) (hn : am_now K D s nL ad M H locs ls L st)
    (hr1 : cells + (am_cc S.2.2.2 - am_cc M) ≤ R.cells) (hr2 : slots + (am_sl S.2.2.2 - am_sl M) ≤ R.slots) (kk : am_kG K D p l e R s m args below meth c nL ad M cells slots Q S) :
    W p l e R s m args below meth c H locs cells slots Q (F0 m pc ls (st.map (am_cv ad))) := by
  obtain ⟨hx, hb, hml, hown, hts, hK, hE, hb0, hR1, hR2, hd1, hlk, hst9, hini⟩ := id hc
  have hs : am_l2 (fun x y => x - y) L (pc + 1) st M = some S := hs
  exact am_op_l2 hs hn (fun x y r h => lv_lsub hx hb hdg h) (am_k0_of kk (by obtain ⟨_, _, _, _, rfl⟩ := am_l2_inv hs; exact ⟨rfl, rfl⟩))
theorem am_s_lmul (hc : am_ctx K D p l R s m args meth c own ini cc nL d) (hcls : am_cls) {g kd a b : Nat}  {S : am_S} (hdg : decode cc pc = .ok (.lmul, am_len pc (.lmul))) (hop : am_op (am_sr K) own ini pc (.lmul) kd a b) (hs : am_step g (.lmul) kd a b pc L st M = some S) (hn : am_now K D s nL ad M H locs ls L st)
    (hr1 : cells + (am_cc S.2.2.2 - am_cc M) ≤ R.cells) (hr2 : slots + (am_sl S.2.2.2 - am_sl M) ≤ R.slots) (kk : am_kG K D p l e R s m args below meth c nL ad M cells slots Q S) :
    W p l e R s m args below meth c H locs cells slots Q (F0 m pc ls (st.map (am_cv ad))) := by
  obtain ⟨hx, hb, hml, hown, hts, hK, hE, hb0, hR1, hR2, hd1, hlk, hst9, hini⟩ := id hc
  have hs : am_l2 (fun x y => x * y) L (pc + 1) st M = some S := hs
  exact am_op_l2 hs hn (fun x y r h => lv_lmul hx hb hdg h) (am_k0_of kk (by obtain ⟨_, _, _, _, rfl⟩ := am_l2_inv hs; exact ⟨rfl, rfl⟩))
theorem am_s_ldiv (hc : am_ctx K D p l R s m args meth c own ini cc nL d) (hcls : am_cls) {g kd a b : Nat}  {S : am_S} (hdg : decode cc pc = .ok (.ldiv, am_len pc (.ldiv))) (hop : am_op (am_sr K) own ini pc (.ldiv) kd a b) (hs : am_step g (.ldiv) kd a b pc L st M = some S) (hn : am_now K D s nL ad M H locs ls L st)
    (hr1 : cells + (am_cc S.2.2.2 - am_cc M) ≤ R.cells) (hr2 : slots + (am_sl S.2.2.2 - am_sl M) ≤ R.slots) (kk : am_kG K D p l e R s m args below meth c nL ad M cells slots Q S) :
    W p l e R s m args below meth c H locs cells slots Q (F0 m pc ls (st.map (am_cv ad))) := by
  obtain ⟨hx, hb, hml, hown, hts, hK, hE, hb0, hR1, hR2, hd1, hlk, hst9, hini⟩ := id hc
  have hs : am_l2d (fun x y => x / y) L (pc + 1) st M = some S := hs
  exact am_op_l2d hs hn (fun x y r h1 h => lv_ldiv hx hb hdg h1 h) (am_k0_of kk (by obtain ⟨_, _, _, _, _, rfl⟩ := am_l2d_inv hs; exact ⟨rfl, rfl⟩))
theorem am_s_lcmp (hc : am_ctx K D p l R s m args meth c own ini cc nL d) (hcls : am_cls) {g kd a b : Nat}  {S : am_S} (hdg : decode cc pc = .ok (.lcmp, am_len pc (.lcmp))) (hop : am_op (am_sr K) own ini pc (.lcmp) kd a b) (hs : am_step g (.lcmp) kd a b pc L st M = some S) (hn : am_now K D s nL ad M H locs ls L st)
    (hr1 : cells + (am_cc S.2.2.2 - am_cc M) ≤ R.cells) (hr2 : slots + (am_sl S.2.2.2 - am_sl M) ≤ R.slots) (kk : am_kG K D p l e R s m args below meth c nL ad M cells slots Q S) :
    W p l e R s m args below meth c H locs cells slots Q (F0 m pc ls (st.map (am_cv ad))) := by
  obtain ⟨hx, hb, hml, hown, hts, hK, hE, hb0, hR1, hR2, hd1, hlk, hst9, hini⟩ := id hc
  have hs : (match (generalizing := false) st with | .long y :: .long x :: r => some (pc + 1, L, .int (lg_cmp x y) :: r, M) | _ => none) = some S := hs
  split at hs
  · obtain rfl : S = _ := (Option.some.inj hs).symm
    exact W.lcmp hx hb hdg (am_k0_of (H := H) (locs := locs) kk ⟨rfl, rfl⟩ H locs ls hn.tl2.pushI)
  · cases hs
theorem am_s_i2l (hc : am_ctx K D p l R s m args meth c own ini cc nL d) (hcls : am_cls) {g kd a b : Nat}  {S : am_S} (hdg : decode cc pc = .ok (.i2l, am_len pc (.i2l))) (hop : am_op (am_sr K) own ini pc (.i2l) kd a b) (hs : am_step g (.i2l) kd a b pc L st M = some S) (hn : am_now K D s nL ad M H locs ls L st)
    (hr1 : cells + (am_cc S.2.2.2 - am_cc M) ≤ R.cells) (hr2 : slots + (am_sl S.2.2.2 - am_sl M) ≤ R.slots) (kk : am_kG K D p l e R s m args below meth c nL ad M cells slots Q S) :
    W p l e R s m args below meth c H locs cells slots Q (F0 m pc ls (st.map (am_cv ad))) := by
  obtain ⟨hx, hb, hml, hown, hts, hK, hE, hb0, hR1, hR2, hd1, hlk, hst9, hini⟩ := id hc
  have hs : (match (generalizing := false) st with | .int x :: r => some (pc + 1, L, .long x.toInt64 :: r, M) | _ => none) = some S := hs
  split at hs
  · obtain rfl : S = _ := (Option.some.inj hs).symm
    exact lv_i2l hx hb hdg rfl (am_k0_of (H := H) (locs := locs) kk ⟨rfl, rfl⟩ H locs ls hn.tl.pushL)
  · cases hs
theorem am_s_l2i (hc : am_ctx K D p l R s m args meth c own ini cc nL d) (hcls : am_cls) {g kd a b : Nat}  {S : am_S} (hdg : decode cc pc = .ok (.l2i, am_len pc (.l2i))) (hop : am_op (am_sr K) own ini pc (.l2i) kd a b) (hs : am_step g (.l2i) kd a b pc L st M = some S) (hn : am_now K D s nL ad M H locs ls L st)
    (hr1 : cells + (am_cc S.2.2.2 - am_cc M) ≤ R.cells) (hr2 : slots + (am_sl S.2.2.2 - am_sl M) ≤ R.slots) (kk : am_kG K D p l e R s m args below meth c nL ad M cells slots Q S) :
    W p l e R s m args below meth c H locs cells slots Q (F0 m pc ls (st.map (am_cv ad))) := by
  obtain ⟨hx, hb, hml, hown, hts, hK, hE, hb0, hR1, hR2, hd1, hlk, hst9, hini⟩ := id hc
  have hs : (match (generalizing := false) st with | .long x :: r => some (pc + 1, L, .int x.toInt32 :: r, M) | _ => none) = some S := hs
  split at hs
  · obtain rfl : S = _ := (Option.some.inj hs).symm
    exact lv_l2i hx hb hdg rfl (am_k0_of (H := H) (locs := locs) kk ⟨rfl, rfl⟩ H locs ls hn.tl.pushI)
  · cases hs
theorem am_s_i2b (hc : am_ctx K D p l R s m args meth c own ini cc nL d) (hcls : am_cls) {g kd a b : Nat}  {S : am_S} (hdg : decode cc pc = .ok (.i2b, am_len pc (.i2b))) (hop : am_op (am_sr K) own ini pc (.i2b) kd a b) (hs : am_step g (.i2b) kd a b pc L st M = some S) (hn : am_now K D s nL ad M H locs ls L st)
    (hr1 : cells + (am_cc S.2.2.2 - am_cc M) ≤ R.cells) (hr2 : slots + (am_sl S.2.2.2 - am_sl M) ≤ R.slots) (kk : am_kG K D p l e R s m args below meth c nL ad M cells slots Q S) :
    W p l e R s m args below meth c H locs cells slots Q (F0 m pc ls (st.map (am_cv ad))) := by
  obtain ⟨hx, hb, hml, hown, hts, hK, hE, hb0, hR1, hR2, hd1, hlk, hst9, hini⟩ := id hc
  have hs : (match (generalizing := false) st with | .int x :: r => some (pc + 1, L, .int x.toInt8.toInt32 :: r, M) | _ => none) = some S := hs
  split at hs
  · obtain rfl : S = _ := (Option.some.inj hs).symm
    exact lv_i2b hx hb hdg rfl (am_k0_of (H := H) (locs := locs) kk ⟨rfl, rfl⟩ H locs ls hn.tl.pushI)
  · cases hs
theorem am_s_i2c (hc : am_ctx K D p l R s m args meth c own ini cc nL d) (hcls : am_cls) {g kd a b : Nat}  {S : am_S} (hdg : decode cc pc = .ok (.i2c, am_len pc (.i2c))) (hop : am_op (am_sr K) own ini pc (.i2c) kd a b) (hs : am_step g (.i2c) kd a b pc L st M = some S) (hn : am_now K D s nL ad M H locs ls L st)
    (hr1 : cells + (am_cc S.2.2.2 - am_cc M) ≤ R.cells) (hr2 : slots + (am_sl S.2.2.2 - am_sl M) ≤ R.slots) (kk : am_kG K D p l e R s m args below meth c nL ad M cells slots Q S) :
    W p l e R s m args below meth c H locs cells slots Q (F0 m pc ls (st.map (am_cv ad))) := by
  obtain ⟨hx, hb, hml, hown, hts, hK, hE, hb0, hR1, hR2, hd1, hlk, hst9, hini⟩ := id hc
  have hs : (match (generalizing := false) st with | .int x :: r => some (pc + 1, L, .int (x.toUInt32 % 65536).toInt32 :: r, M) | _ => none) = some S := hs
  split at hs
  · obtain rfl : S = _ := (Option.some.inj hs).symm
    exact lv_i2c hx hb hdg rfl (am_k0_of (H := H) (locs := locs) kk ⟨rfl, rfl⟩ H locs ls hn.tl.pushI)
  · cases hs
theorem am_s_dup (hc : am_ctx K D p l R s m args meth c own ini cc nL d) (hcls : am_cls) {g kd a b : Nat}  {S : am_S} (hdg : decode cc pc = .ok (.dup, am_len pc (.dup))) (hop : am_op (am_sr K) own ini pc (.dup) kd a b) (hs : am_step g (.dup) kd a b pc L st M = some S) (hn : am_now K D s nL ad M H locs ls L st)
    (hr1 : cells + (am_cc S.2.2.2 - am_cc M) ≤ R.cells) (hr2 : slots + (am_sl S.2.2.2 - am_sl M) ≤ R.slots) (kk : am_kG K D p l e R s m args below meth c nL ad M cells slots Q S) :
    W p l e R s m args below meth c H locs cells slots Q (F0 m pc ls (st.map (am_cv ad))) := by
  obtain ⟨hx, hb, hml, hown, hts, hK, hE, hb0, hR1, hR2, hd1, hlk, hst9, hini⟩ := id hc
  have hs : (match (generalizing := false) st with | v :: r => if am_c1 v = true then some (pc + 1, L, v :: v :: r, M) else none | _ => none) = some S := hs
  split at hs
  · split at hs
    · rename_i hq
      obtain rfl : S = _ := (Option.some.inj hs).symm
      have hv := hn.2.2.2.2.2 _ List.mem_cons_self
      exact lv_dup hx hb hdg (am_c1_cat hn hv hq) (am_k0_of (H := H) (locs := locs) kk ⟨rfl, rfl⟩ H locs ls (hn.push hv))
    · cases hs
  · cases hs
theorem am_s_pop (hc : am_ctx K D p l R s m args meth c own ini cc nL d) (hcls : am_cls) {g kd a b : Nat}  {S : am_S} (hdg : decode cc pc = .ok (.pop, am_len pc (.pop))) (hop : am_op (am_sr K) own ini pc (.pop) kd a b) (hs : am_step g (.pop) kd a b pc L st M = some S) (hn : am_now K D s nL ad M H locs ls L st)
    (hr1 : cells + (am_cc S.2.2.2 - am_cc M) ≤ R.cells) (hr2 : slots + (am_sl S.2.2.2 - am_sl M) ≤ R.slots) (kk : am_kG K D p l e R s m args below meth c nL ad M cells slots Q S) :
    W p l e R s m args below meth c H locs cells slots Q (F0 m pc ls (st.map (am_cv ad))) := by
  obtain ⟨hx, hb, hml, hown, hts, hK, hE, hb0, hR1, hR2, hd1, hlk, hst9, hini⟩ := id hc
  have hs : (match (generalizing := false) st with | v :: r => if am_c1 v = true then some (pc + 1, L, r, M) else none | _ => none) = some S := hs
  split at hs
  · split at hs
    · rename_i hq
      obtain rfl : S = _ := (Option.some.inj hs).symm
      have hv := hn.2.2.2.2.2 _ List.mem_cons_self
      exact lv_pop hx hb hdg (am_c1_cat hn hv hq) (am_k0_of (H := H) (locs := locs) kk ⟨rfl, rfl⟩ H locs ls hn.tl)
    · cases hs
  · cases hs
theorem am_s_dup2 (hc : am_ctx K D p l R s m args meth c own ini cc nL d) (hcls : am_cls) {g kd a b : Nat}  {S : am_S} (hdg : decode cc pc = .ok (.dup2, am_len pc (.dup2))) (hop : am_op (am_sr K) own ini pc (.dup2) kd a b) (hs : am_step g (.dup2) kd a b pc L st M = some S) (hn : am_now K D s nL ad M H locs ls L st)
    (hr1 : cells + (am_cc S.2.2.2 - am_cc M) ≤ R.cells) (hr2 : slots + (am_sl S.2.2.2 - am_sl M) ≤ R.slots) (kk : am_kG K D p l e R s m args below meth c nL ad M cells slots Q S) :
    W p l e R s m args below meth c H locs cells slots Q (F0 m pc ls (st.map (am_cv ad))) := by
  obtain ⟨hx, hb, hml, hown, hts, hK, hE, hb0, hR1, hR2, hd1, hlk, hst9, hini⟩ := id hc
  have hs : (match (generalizing := false) st with | v :: w :: r => if am_c1 v = true ∧ am_c1 w = true then some (pc + 1, L, v :: w :: v :: w :: r, M) else none | _ => none) = some S := hs
  split at hs
  · split at hs
    · rename_i hq
      obtain rfl : S = _ := (Option.some.inj hs).symm
      have hv := hn.2.2.2.2.2 _ List.mem_cons_self
      have hw := hn.2.2.2.2.2 _ (List.mem_cons_of_mem _ List.mem_cons_self)
      exact lv_dup2_11 hx hb hdg (am_c1_cat hn hv hq.1) (am_c1_cat hn hw hq.2) (am_k0_of (H := H) (locs := locs) kk ⟨rfl, rfl⟩ H locs ls ((hn.push hw).push hv))
    · cases hs
  · cases hs
theorem am_s_if_eq (hc : am_ctx K D p l R s m args meth c own ini cc nL d) (hcls : am_cls) {g kd a b : Nat} {off : Int} {S : am_S} (hdg : decode cc pc = .ok (.ifCond .eq off, am_len pc (.ifCond .eq off))) (hop : am_op (am_sr K) own ini pc (.ifCond .eq off) kd a b) (hs : am_step g (.ifCond .eq off) kd a b pc L st M = some S) (hn : am_now K D s nL ad M H locs ls L st)
    (hr1 : cells + (am_cc S.2.2.2 - am_cc M) ≤ R.cells) (hr2 : slots + (am_sl S.2.2.2 - am_sl M) ≤ R.slots) (kk : am_kG K D p l e R s m args below meth c nL ad M cells slots Q S) :
    W p l e R s m args below meth c H locs cells slots Q (F0 m pc ls (st.map (am_cv ad))) := by
  obtain ⟨hx, hb, hml, hown, hts, hK, hE, hb0, hR1, hR2, hd1, hlk, hst9, hini⟩ := id hc
  have hs : am_if (fun x => am_cnd .eq x 0) a L (pc + 3) st M = some S := hs
  exact am_op_if (P := fun x => x = 0) (fun x => by simp [am_cnd]) hs hn (fun x r h1 h2 => lv_if_eq hx hb hdg hop h1 h2) (am_k0_of kk (by obtain ⟨_, _, _, rfl⟩ := am_if_inv hs; exact ⟨rfl, rfl⟩))
theorem am_s_icmp_eq (hc : am_ctx K D p l R s m args meth c own ini cc nL d) (hcls : am_cls) {g kd a b : Nat} {off : Int} {S : am_S} (hdg : decode cc pc = .ok (.if_icmp .eq off, am_len pc (.if_icmp .eq off))) (hop : am_op (am_sr K) own ini pc (.if_icmp .eq off) kd a b) (hs : am_step g (.if_icmp .eq off) kd a b pc L st M = some S) (hn : am_now K D s nL ad M H locs ls L st)
    (hr1 : cells + (am_cc S.2.2.2 - am_cc M) ≤ R.cells) (hr2 : slots + (am_sl S.2.2.2 - am_sl M) ≤ R.slots) (kk : am_kG K D p l e R s m args below meth c nL ad M cells slots Q S) :
    W p l e R s m args below meth c H locs cells slots Q (F0 m pc ls (st.map (am_cv ad))) := by
  obtain ⟨hx, hb, hml, hown, hts, hK, hE, hb0, hR1, hR2, hd1, hlk, hst9, hini⟩ := id hc
  have hs : am_icmp (am_cnd .eq) a L (pc + 3) st M = some S := hs
  exact am_op_icmp (P := fun x y => x = y) (fun x y => by simp [am_cnd]) hs hn (fun x y r h1 h2 => lv_icmp_eq hx hb hdg hop h1 h2) (am_k0_of kk (by obtain ⟨_, _, _, _, rfl⟩ := am_icmp_inv hs; exact ⟨rfl, rfl⟩))
theorem am_s_if_ne (hc : am_ctx K D p l R s m args meth c own ini cc nL d) (hcls : am_cls) {g kd a b : Nat} {off : Int} {S : am_S} (hdg : decode cc pc = .ok (.ifCond .ne off, am_len pc (.ifCond .ne off))) (hop : am_op (am_sr K) own ini pc (.ifCond .ne off) kd a b) (hs : am_step g (.ifCond .ne off) kd a b pc L st M = some S) (hn : am_now K D s nL ad M H locs ls L st)
    (hr1 : cells + (am_cc S.2.2.2 - am_cc M) ≤ R.cells) (hr2 : slots + (am_sl S.2.2.2 - am_sl M) ≤ R.slots) (kk : am_kG K D p l e R s m args below meth c nL ad M cells slots Q S) :
    W p l e R s m args below meth c H locs cells slots Q (F0 m pc ls (st.map (am_cv ad))) := by
  obtain ⟨hx, hb, hml, hown, hts, hK, hE, hb0, hR1, hR2, hd1, hlk, hst9, hini⟩ := id hc
  have hs : am_if (fun x => am_cnd .ne x 0) a L (pc + 3) st M = some S := hs
  exact am_op_if (P := fun x => ¬ x = 0) (fun x => by simp [am_cnd]) hs hn (fun x r h1 h2 => lv_if_ne hx hb hdg hop h1 (fun z => h2 (fun w => w z))) (am_k0_of kk (by obtain ⟨_, _, _, rfl⟩ := am_if_inv hs; exact ⟨rfl, rfl⟩))
theorem am_s_icmp_ne (hc : am_ctx K D p l R s m args meth c own ini cc nL d) (hcls : am_cls) {g kd a b : Nat} {off : Int} {S : am_S} (hdg : decode cc pc = .ok (.if_icmp .ne off, am_len pc (.if_icmp .ne off))) (hop : am_op (am_sr K) own ini pc (.if_icmp .ne off) kd a b) (hs : am_step g (.if_icmp .ne off) kd a b pc L st M = some S) (hn : am_now K D s nL ad M H locs ls L st)
    (hr1 : cells + (am_cc S.2.2.2 - am_cc M) ≤ R.cells) (hr2 : slots + (am_sl S.2.2.2 - am_sl M) ≤ R.slots) (kk : am_kG K D p l e R s m args below meth c nL ad M cells slots Q S) :
    W p l e R s m args below meth c H locs cells slots Q (F0 m pc ls (st.map (am_cv ad))) := by
  obtain ⟨hx, hb, hml, hown, hts, hK, hE, hb0, hR1, hR2, hd1, hlk, hst9, hini⟩ := id hc
  have hs : am_icmp (am_cnd .ne) a L (pc + 3) st M = some S := hs
  exact am_op_icmp (P := fun x y => ¬ x = y) (fun x y => by simp [am_cnd]) hs hn (fun x y r h1 h2 => lv_icmp_ne hx hb hdg hop h1 (fun z => h2 (fun w => w z))) (am_k0_of kk (by obtain ⟨_, _, _, _, rfl⟩ := am_icmp_inv hs; exact ⟨rfl, rfl⟩))
theorem am_s_if_lt (hc : am_ctx K D p l R s m args meth c own ini cc nL d) (hcls : am_cls) {g kd a b : Nat} {off : Int} {S : am_S} (hdg : decode cc pc = .ok (.ifCond .lt off, am_len pc (.ifCond .lt off))) (hop : am_op (am_sr K) own ini pc (.ifCond .lt off) kd a b) (hs : am_step g (.ifCond .lt off) kd a b pc L st M = some S) (hn : am_now K D s nL ad M H locs ls L st)
    (hr1 : cells + (am_cc S.2.2.2 - am_cc M) ≤ R.cells) (hr2 : slots + (am_sl S.2.2.2 - am_sl M) ≤ R.slots) (kk : am_kG K D p l e R s m args below meth c nL ad M cells slots Q S) :
    W p l e R s m args below meth c H locs cells slots Q (F0 m pc ls (st.map (am_cv ad))) := by
  obtain ⟨hx, hb, hml, hown, hts, hK, hE, hb0, hR1, hR2, hd1, hlk, hst9, hini⟩ := id hc
  have hs : am_if (fun x => am_cnd .lt x 0) a L (pc + 3) st M = some S := hs
  exact am_op_if (P := fun x => x < 0) (fun x => by simp [am_cnd]) hs hn (fun x r h1 h2 => lv_if_lt hx hb hdg hop h1 h2) (am_k0_of kk (by obtain ⟨_, _, _, rfl⟩ := am_if_inv hs; exact ⟨rfl, rfl⟩))
theorem am_s_icmp_lt (hc : am_ctx K D p l R s m args meth c own ini cc nL d) (hcls : am_cls) {g kd a b : Nat} {off : Int} {S : am_S} (hdg : decode cc pc = .ok (.if_icmp .lt off, am_len pc (.if_icmp .lt off))) (hop : am_op (am_sr K) own ini pc (.if_icmp .lt off) kd a b) (hs : am_step g (.if_icmp .lt off) kd a b pc L st M = some S) (hn : am_now K D s nL ad M H locs ls L st)
    (hr1 : cells + (am_cc S.2.2.2 - am_cc M) ≤ R.cells) (hr2 : slots + (am_sl S.2.2.2 - am_sl M) ≤ R.slots) (kk : am_kG K D p l e R s m args below meth c nL ad M cells slots Q S) :
    W p l e R s m args below meth c H locs cells slots Q (F0 m pc ls (st.map (am_cv ad))) := by
  obtain ⟨hx, hb, hml, hown, hts, hK, hE, hb0, hR1, hR2, hd1, hlk, hst9, hini⟩ := id hc
  have hs : am_icmp (am_cnd .lt) a L (pc + 3) st M = some S := hs
  exact am_op_icmp (P := fun x y => x < y) (fun x y => by simp [am_cnd]) hs hn (fun x y r h1 h2 => lv_icmp_lt hx hb hdg hop h1 h2) (am_k0_of kk (by obtain ⟨_, _, _, _, rfl⟩ := am_icmp_inv hs; exact ⟨rfl, rfl⟩))
theorem am_s_if_ge (hc : am_ctx K D p l R s m args meth c own ini cc nL d) (hcls : am_cls) {g kd a b : Nat} {off : Int} {S : am_S} (hdg : decode cc pc = .ok (.ifCond .ge off, am_len pc (.ifCond .ge off))) (hop : am_op (am_sr K) own ini pc (.ifCond .ge off) kd a b) (hs : am_step g (.ifCond .ge off) kd a b pc L st M = some S) (hn : am_now K D s nL ad M H locs ls L st)
    (hr1 : cells + (am_cc S.2.2.2 - am_cc M) ≤ R.cells) (hr2 : slots + (am_sl S.2.2.2 - am_sl M) ≤ R.slots) (kk : am_kG K D p l e R s m args below meth c nL ad M cells slots Q S) :
    W p l e R s m args below meth c H locs cells slots Q (F0 m pc ls (st.map (am_cv ad))) := by
  obtain ⟨hx, hb, hml, hown, hts, hK, hE, hb0, hR1, hR2, hd1, hlk, hst9, hini⟩ := id hc
  have hs : am_if (fun x => am_cnd .ge x 0) a L (pc + 3) st M = some S := hs
  exact am_op_if (P := fun x => 0 ≤ x) (fun x => by simp [am_cnd]) hs hn (fun x r h1 h2 => lv_if_ge hx hb hdg hop h1 h2) (am_k0_of kk (by obtain ⟨_, _, _, rfl⟩ := am_if_inv hs; exact ⟨rfl, rfl⟩))
theorem am_s_icmp_ge (hc : am_ctx K D p l R s m args meth c own ini cc nL d) (hcls : am_cls) {g kd a b : Nat} {off : Int} {S : am_S} (hdg : decode cc pc = .ok (.if_icmp .ge off, am_len pc (.if_icmp .ge off))) (hop : am_op (am_sr K) own ini pc (.if_icmp .ge off) kd a b) (hs : am_step g (.if_icmp .ge off) kd a b pc L st M = some S) (hn : am_now K D s nL ad M H locs ls L st)
    (hr1 : cells + (am_cc S.2.2.2 - am_cc M) ≤ R.cells) (hr2 : slots + (am_sl S.2.2.2 - am_sl M) ≤ R.slots) (kk : am_kG K D p l e R s m args below meth c nL ad M cells slots Q S) :
    W p l e R s m args below meth c H locs cells slots Q (F0 m pc ls (st.map (am_cv ad))) := by
  obtain ⟨hx, hb, hml, hown, hts, hK, hE, hb0, hR1, hR2, hd1, hlk, hst9, hini⟩ := id hc
  have hs : am_icmp (am_cnd .ge) a L (pc + 3) st M = some S := hs
  exact am_op_icmp (P := fun x y => y ≤ x) (fun x y => by simp [am_cnd]) hs hn (fun x y r h1 h2 => lv_icmp_ge hx hb hdg hop h1 h2) (am_k0_of kk (by obtain ⟨_, _, _, _, rfl⟩ := am_icmp_inv hs; exact ⟨rfl, rfl⟩))
theorem am_s_if_gt (hc : am_ctx K D p l R s m args meth c own ini cc nL d) (hcls : am_cls) {g kd a b : Nat} {off : Int} {S : am_S} (hdg : decode cc pc = .ok (.ifCond .gt off, am_len pc (.ifCond .gt off))) (hop : am_op (am_sr K) own ini pc (.ifCond .gt off) kd a b) (hs : am_step g (.ifCond .gt off) kd a b pc L st M = some S) (hn : am_now K D s nL ad M H locs ls L st)
    (hr1 : cells + (am_cc S.2.2.2 - am_cc M) ≤ R.cells) (hr2 : slots + (am_sl S.2.2.2 - am_sl M) ≤ R.slots) (kk : am_kG K D p l e R s m args below meth c nL ad M cells slots Q S) :
    W p l e R s m args below meth c H locs cells slots Q (F0 m pc ls (st.map (am_cv ad))) := by
  obtain ⟨hx, hb, hml, hown, hts, hK, hE, hb0, hR1, hR2, hd1, hlk, hst9, hini⟩ := id hc
  have hs : am_if (fun x => am_cnd .gt x 0) a L (pc + 3) st M = some S := hs
  exact am_op_if (P := fun x => 0 < x) (fun x => by simp [am_cnd]) hs hn (fun x r h1 h2 => lv_if_gt hx hb hdg hop h1 h2) (am_k0_of kk (by obtain ⟨_, _, _, rfl⟩ := am_if_inv hs; exact ⟨rfl, rfl⟩))
theorem am_s_icmp_gt (hc : am_ctx K D p l R s m args meth c own ini cc nL d) (hcls : am_cls) {g kd a b : Nat} {off : Int} {S : am_S} (hdg : decode cc pc = .ok (.if_icmp .gt off, am_len pc (.if_icmp .gt off))) (hop : am_op (am_sr K) own ini pc (.if_icmp .gt off) kd a b) (hs : am_step g (.if_icmp .gt off) kd a b pc L st M = some S) (hn : am_now K D s nL ad M H locs ls L st)
    (hr1 : cells + (am_cc S.2.2.2 - am_cc M) ≤ R.cells) (hr2 : slots + (am_sl S.2.2.2 - am_sl M) ≤ R.slots) (kk : am_kG K D p l e R s m args below meth c nL ad M cells slots Q S) :
    W p l e R s m args below meth c H locs cells slots Q (F0 m pc ls (st.map (am_cv ad))) := by
  obtain ⟨hx, hb, hml, hown, hts, hK, hE, hb0, hR1, hR2, hd1, hlk, hst9, hini⟩ := id hc
  have hs : am_icmp (am_cnd .gt) a L (pc + 3) st M = some S := hs
  exact am_op_icmp (P := fun x y => y < x) (fun x y => by simp [am_cnd]) hs hn (fun x y r h1 h2 => lv_icmp_gt hx hb hdg hop h1 h2) (am_k0_of kk (by obtain ⟨_, _, _, _, rfl⟩ := am_icmp_inv hs; exact ⟨rfl, rfl⟩))
theorem am_s_if_le (hc : am_ctx K D p l R s m args meth c own ini cc nL d) (hcls : am_cls) {g kd a b : Nat} {off : Int} {S : am_S} (hdg : decode cc pc = .ok (.ifCond .le off, am_len pc (.ifCond .le off))) (hop : am_op (am_sr K) own ini pc (.ifCond .le off) kd a b) (hs : am_step g (.ifCond .le off) kd a b pc L st M = some S) (hn : am_now K D s nL ad M H locs ls L st)
    (hr1 : cells + (am_cc S.2.2.2 - am_cc M) ≤ R.cells) (hr2 : slots + (am_sl S.2.2.2 - am_sl M) ≤ R.slots) (kk : am_kG K D p l e R s m args below meth c nL ad M cells slots Q S) :
    W p l e R s m args below meth c H locs cells slots Q (F0 m pc ls (st.map (am_cv ad))) := by
  obtain ⟨hx, hb, hml, hown, hts, hK, hE, hb0, hR1, hR2, hd1, hlk, hst9, hini⟩ := id hc
  have hs : am_if (fun x => am_cnd .le x 0) a L (pc + 3) st M = some S := hs
  exact am_op_if (P := fun x => x ≤ 0) (fun x => by simp [am_cnd]) hs hn (fun x r h1 h2 => lv_if_le hx hb hdg hop h1 h2) (am_k0_of kk (by obtain ⟨_, _, _, rfl⟩ := am_if_inv hs; exact ⟨rfl, rfl⟩))
theorem am_s_icmp_le (hc : am_ctx K D p l R s m args meth c own ini cc nL d) (hcls : am_cls) {g kd a b : Nat} {off : Int} {S : am_S} (hdg : decode cc pc = .ok (.if_icmp .le off, am_len pc (.if_icmp .le off))) (hop : am_op (am_sr K) own ini pc (.if_icmp .le off) kd a b) (hs : am_step g (.if_icmp .le off) kd a b pc L st M = some S) (hn : am_now K D s nL ad M H locs ls L st)
    (hr1 : cells + (am_cc S.2.2.2 - am_cc M) ≤ R.cells) (hr2 : slots + (am_sl S.2.2.2 - am_sl M) ≤ R.slots) (kk : am_kG K D p l e R s m args below meth c nL ad M cells slots Q S) :
    W p l e R s m args below meth c H locs cells slots Q (F0 m pc ls (st.map (am_cv ad))) := by
  obtain ⟨hx, hb, hml, hown, hts, hK, hE, hb0, hR1, hR2, hd1, hlk, hst9, hini⟩ := id hc
  have hs : am_icmp (am_cnd .le) a L (pc + 3) st M = some S := hs
  exact am_op_icmp (P := fun x y => x ≤ y) (fun x y => by simp [am_cnd]) hs hn (fun x y r h1 h2 => lv_icmp_le hx hb hdg hop h1 h2) (am_k0_of kk (by obtain ⟨_, _, _, _, rfl⟩ := am_icmp_inv hs; exact ⟨rfl, rfl⟩))
theorem am_s_goto (hc : am_ctx K D p l R s m args meth c own ini cc nL d) (hcls : am_cls) {g kd a b : Nat} {off : Int} {S : am_S} (hdg : decode cc pc = .ok (.goto off, am_len pc (.goto off))) (hop : am_op (am_sr K) own ini pc (.goto off) kd a b) (hs : am_step g (.goto off) kd a b pc L st M = some S) (hn : am_now K D s nL ad M H locs ls L st)
    (hr1 : cells + (am_cc S.2.2.2 - am_cc M) ≤ R.cells) (hr2 : slots + (am_sl S.2.2.2 - am_sl M) ≤ R.slots) (kk : am_kG K D p l e R s m args below meth c nL ad M cells slots Q S) :
    W p l e R s m args below meth c H locs cells slots Q (F0 m pc ls (st.map (am_cv ad))) := by
  obtain ⟨hx, hb, hml, hown, hts, hK, hE, hb0, hR1, hR2, hd1, hlk, hst9, hini⟩ := id hc
  obtain rfl : S = (a, L, st, M) := (Option.some.inj hs).symm
  exact lv_goto hx hb hdg hop (am_k0_of (H := H) (locs := locs) kk ⟨rfl, rfl⟩ H locs ls hn)
theorem am_s_tableswitch (hc : am_ctx K D p l R s m args meth c own ini cc nL d) (hcls : am_cls) {g kd a b : Nat} {dflt lo hi : Int} {offs : Array Int} {S : am_S} (hdg : decode cc pc = .ok (.tableswitch dflt lo hi offs, am_len pc (.tableswitch dflt lo hi offs))) (hop : am_op (am_sr K) own ini pc (.tableswitch dflt lo hi offs) kd a b) (hs : am_step g (.tableswitch dflt lo hi offs) kd a b pc L st M = some S) (hn : am_now K D s nL ad M H locs ls L st)
    (hr1 : cells + (am_cc S.2.2.2 - am_cc M) ≤ R.cells) (hr2 : slots + (am_sl S.2.2.2 - am_sl M) ≤ R.slots) (kk : am_kG K D p l e R s m args below meth c nL ad M cells slots Q S) :
    W p l e R s m args below meth c H locs cells slots Q (F0 m pc ls (st.map (am_cv ad))) := by
  obtain ⟨hx, hb, hml, hown, hts, hK, hE, hb0, hR1, hR2, hd1, hlk, hst9, hini⟩ := id hc
  have hs : (match (generalizing := false) st with
    | .int x :: r => if x.toInt < lo ∨ hi < x.toInt then some (((pc : Int) + dflt).toNat, L, r, M)
      else match (generalizing := false) offs[(x.toInt - lo).toNat]? with | some off => some (((pc : Int) + off).toNat, L, r, M) | none => none
    | _ => none) = some S := hs
  obtain ⟨h01, h02⟩ := hop
  split at hs
  · split at hs
    · rename_i hq
      obtain rfl : S = _ := (Option.some.inj hs).symm
      exact lv_tableOut hx hb hdg hq (by dsimp only; omega) (am_k0_of (H := H) (locs := locs) kk ⟨rfl, rfl⟩ H locs ls hn.tl)
    · rename_i hq
      split at hs
      · rename_i off ho
        obtain rfl : S = _ := (Option.some.inj hs).symm
        have h03 := h02 off (Array.mem_of_getElem? ho)
        exact lv_tableIn hx hb hdg (fun z => hq (Or.inl z)) (fun z => hq (Or.inr z)) ho (by dsimp only; omega) (am_k0_of (H := H) (locs := locs) kk ⟨rfl, rfl⟩ H locs ls hn.tl)
      · cases hs
  · cases hs
theorem am_s_ifnull (hc : am_ctx K D p l R s m args meth c own ini cc nL d) (hcls : am_cls) {g kd a b : Nat} {off : Int} {S : am_S} (hdg : decode cc pc = .ok (.ifnull off, am_len pc (.ifnull off))) (hop : am_op (am_sr K) own ini pc (.ifnull off) kd a b) (hs : am_step g (.ifnull off) kd a b pc L st M = some S) (hn : am_now K D s nL ad M H locs ls L st)
    (hr1 : cells + (am_cc S.2.2.2 - am_cc M) ≤ R.cells) (hr2 : slots + (am_sl S.2.2.2 - am_sl M) ≤ R.slots) (kk : am_kG K D p l e R s m args below meth c nL ad M cells slots Q S) :
    W p l e R s m args below meth c H locs cells slots Q (F0 m pc ls (st.map (am_cv ad))) := by
  obtain ⟨hx, hb, hml, hown, hts, hK, hE, hb0, hR1, hR2, hd1, hlk, hst9, hini⟩ := id hc
  have hs : (match (generalizing := false) st with | .null :: r => some (a, L, r, M) | .ref k :: r => if am_ownb (am_tg M k) = true then some (pc + 3, L, r, M) else none | _ => none) = some S := hs
  split at hs
  · obtain rfl : S = _ := (Option.some.inj hs).symm
    exact lv_ifnullN hx hb hdg hop (am_k0_of (H := H) (locs := locs) kk ⟨rfl, rfl⟩ H locs ls hn.tl)
  · rename_i k r hdum
    split at hs
    · rename_i hq
      obtain rfl : S = _ := (Option.some.inj hs).symm
      obtain ⟨a9, y1, -⟩ := am_own_ref hn.1 (am_ownb_iff hq)
      rw [List.map_cons, show am_cv ad (.ref k) = .ref a9 from y1]
      exact lv_ifnull hx hb hdg (am_k0_of (H := H) (locs := locs) kk ⟨rfl, rfl⟩ H locs ls hn.tl)
    · cases hs
  · cases hs
theorem am_s_ifnonnull (hc : am_ctx K D p l R s m args meth c own ini cc nL d) (hcls : am_cls) {g kd a b : Nat} {off : Int} {S : am_S} (hdg : decode cc pc = .ok (.ifnonnull off, am_len pc (.ifnonnull off))) (hop : am_op (am_sr K) own ini pc (.ifnonnull off) kd a b) (hs : am_step g (.ifnonnull off) kd a b pc L st M = some S) (hn : am_now K D s nL ad M H locs ls L st)
    (hr1 : cells + (am_cc S.2.2.2 - am_cc M) ≤ R.cells) (hr2 : slots + (am_sl S.2.2.2 - am_sl M) ≤ R.slots) (kk : am_kG K D p l e R s m args below meth c nL ad M cells slots Q S) :
    W p l e R s m args below meth c H locs cells slots Q (F0 m pc ls (st.map (am_cv ad))) := by
  obtain ⟨hx, hb, hml, hown, hts, hK, hE, hb0, hR1, hR2, hd1, hlk, hst9, hini⟩ := id hc
  have hs : (match (generalizing := false) st with | .null :: r => some (pc + 3, L, r, M) | .ref k :: r => if am_ownb (am_tg M k) = true then some (a, L, r, M) else none | _ => none) = some S := hs
  split at hs
  · obtain rfl : S = _ := (Option.some.inj hs).symm
    exact lv_ifnonnullN hx hb hdg (am_k0_of (H := H) (locs := locs) kk ⟨rfl, rfl⟩ H locs ls hn.tl)
  · rename_i k r hdum
    split at hs
    · rename_i hq
      obtain rfl : S = _ := (Option.some.inj hs).symm
      obtain ⟨a9, y1, -⟩ := am_own_ref hn.1 (am_ownb_iff hq)
      rw [List.map_cons, show am_cv ad (.ref k) = .ref a9 from y1]
      exact lv_ifnonnull hx hb hdg hop (am_k0_of (H := H) (locs := locs) kk ⟨rfl, rfl⟩ H locs ls hn.tl)
    · cases hs
  · cases hs
theorem am_s_getfield (hc : am_ctx K D p l R s m args meth c own ini cc nL d) (hcls : am_cls) {g kd a b : Nat} {idx : Nat} {S : am_S} (hdg : decode cc pc = .ok (.getfield idx, am_len pc (.getfield idx))) (hop : am_op (am_sr K) own ini pc (.getfield idx) kd a b) (hs : am_step g (.getfield idx) kd a b pc L st M = some S) (hn : am_now K D s nL ad M H locs ls L st)
    (hr1 : cells + (am_cc S.2.2.2 - am_cc M) ≤ R.cells) (hr2 : slots + (am_sl S.2.2.2 - am_sl M) ≤ R.slots) (kk : am_kG K D p l e R s m args below meth c nL ad M cells slots Q S) :
    W p l e R s m args below meth c H locs cells slots Q (F0 m pc ls (st.map (am_cv ad))) := by
  obtain ⟨hx, hb, hml, hown, hts, hK, hE, hb0, hR1, hR2, hd1, hlk, hst9, hini⟩ := id hc
  have hs : (match (generalizing := false) st with
    | .ref k :: r => if am_tg M k = 10 + a then some (pc + 3, L, (if kd = 1 then am_rv (am_R M k b) else .int (am_I M k b)) :: r, M) else none
    | _ => none) = some S := hs
  split at hs
  · split at hs
    · rename_i hq
      obtain rfl : S = _ := (Option.some.inj hs).symm
      exact am_op_get hc hcls hdg hop hn hq (fun hn' => am_k0_of (H := H) (locs := locs) kk ⟨rfl, rfl⟩ H locs ls hn')
    · cases hs
  · cases hs
theorem am_s_getstatic (hc : am_ctx K D p l R s m args meth c own ini cc nL d) (hcls : am_cls) {g kd a b : Nat} {idx : Nat} {S : am_S} (hdg : decode cc pc = .ok (.getstatic idx, am_len pc (.getstatic idx))) (hop : am_op (am_sr K) own ini pc (.getstatic idx) kd a b) (hs : am_step g (.getstatic idx) kd a b pc L st M = some S) (hn : am_now K D s nL ad M H locs ls L st)
    (hr1 : cells + (am_cc S.2.2.2 - am_cc M) ≤ R.cells) (hr2 : slots + (am_sl S.2.2.2 - am_sl M) ≤ R.slots) (kk : am_kG K D p l e R s m args below meth c nL ad M cells slots Q S) :
    W p l e R s m args below meth c H locs cells slots Q (F0 m pc ls (st.map (am_cv ad))) := by
  obtain ⟨hx, hb, hml, hown, hts, hK, hE, hb0, hR1, hR2, hd1, hlk, hst9, hini⟩ := id hc
  rcases hop with ⟨rfl, rfl, hw⟩ | ⟨rfl, hw⟩
  · obtain rfl : S = (pc + 3, L, .int 1 :: st, M) := (Option.some.inj hs).symm
    exact va_gets hx hb hE.2.2.2.2.1 hn.2.2.1 hown (hts _ hw) (fun _ h => h) hdg (am_k0_of (H := H) (locs := locs) kk ⟨rfl, rfl⟩ H locs ls hn.pushI)
  · obtain rfl : S = (pc + 3, L, .ref 990000 :: st, M) := (Option.some.inj hs).symm
    obtain ⟨-, -, -, -, t1, t2, -⟩ := hn.2.1
    have h := am_k0_of (H := H) (locs := locs) kk ⟨rfl, rfl⟩ H locs ls (hn.push (v := .ref 990000) (by show ¬ am_tg M 990000 = 0; rw [t1]; decide))
    dsimp only at h
    rw [List.map_cons, show am_cv ad (.ref 990000) = am_fm K from t2] at h
    exact va_gets hx hb hE.2.2.2.2.2.1 hn.2.2.1 hown (hts _ hw) (fun _ h => h) hdg h
end AG
