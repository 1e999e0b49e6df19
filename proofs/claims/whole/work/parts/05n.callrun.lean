theorem am_words {P : am_P} {Y : Nat → am_Yt} {s : State} {args : Array Value} {y : Nat} (hts : ∀ w ∈ am_W, w.before args s = true) (h : am_cw P Y y ∈ am_W) : ∀ w ∈ am_cw P Y y :: am_W, ∀ (a' : Array Value) (U : State), s.WarmedH U.vm → w.before a' U = true :=
  pay_in hts (am_W_in fun w hw => by
    rcases List.mem_cons.mp hw with q | q
    · rw [q]; exact h
    · exact q)
theorem am_split (st : List Value) (b : Nat) (f : Value → Value) : st.map f = ((st.take b).reverse.map f).reverse ++ (st.drop b).map f := by
  rw [← List.map_reverse, List.reverse_reverse, ← List.map_append, List.take_append_drop]
theorem am_pn_len {yn : MethodName} {n : Nat} (h : am_pn yn n) : ∀ sig, parseMethodDescriptor yn.desc = some sig → n = sig.parameters.length := by
  intro sig hs
  unfold am_pn at h
  rw [hs] at h
  exact (Option.some.inj h).symm
section AMS
variable {K : am_K} {D : va_G} {l : Launch} {P : am_P} {Y : Nat → am_Yt} {V : Nat → Prop}
variable {p : Program} {e : Env} {R : Room} {s : State} {m : MethodId} {args : Array Value} {below : List Frame} {meth : Method} {c : Code} {own : String} {ini : Bool} {cc : ByteArray} {nL d : Nat}
variable {ad : Nat → Value} {M : am_M} {H : Heap} {locs : List Loc} {ls : Array Slot} {L st : List Value} {cells slots : Nat} {Q : State → Prop} {pc : Nat}
/-- the receiver's cell -/
theorem am_recv_cell (hc : am_ctx K D p l R s m args meth c own ini cc nL d) (hn : am_now K D s nL ad M H locs ls L st) {f : am_F} {cls : String} (hr : am_rc1 f cls) {k : Nat} (hk : am_tg M k = f.2.2.2.2.1) :
    ∃ (a : Nat) (cell : Cell), ad k = .ref a ∧ H[a]? = some cell ∧ cell.vm.isStatics = false ∧ s.vm.findClass cls = some cell.cls := by
  obtain ⟨hx, hb, hml, hown, hts, hK, hE, hb0, -⟩ := hc
  rcases hr with ⟨ci, T, N, hcl, ht⟩ | ⟨rfl, ht⟩
  · obtain ⟨⟨q, z1, z2, cell, z3, z4, z5, -⟩, -⟩ := hn.1.2.2.2.2.1 k ci (cls, T, N) (hk.trans ht) hcl
    exact ⟨q, cell, z1, z3, by rw [z5]; rfl, by rw [z4]; exact (hK.1 ci _ hcl).2.1⟩
  · obtain ⟨i, hi, rfl, -⟩ := hn.2.1.2.2.1 k (hk.trans ht)
    obtain ⟨t1, t2, t3, t4⟩ := hn.2.1.2.2.2.1 i hi
    obtain ⟨cell, q1, q2, q3⟩ := vk_recv hE.2.2.1 hi hn.2.2.1
    exact ⟨_, cell, t3, q1, q2, q3⟩
/-- A CALL of any kind: it runs -/
theorem am_callrun {n d' g y kd a b : Nat} {i : Instr} {o : am_O} {M1 : am_M} (hG : am_good P Y V (am_sr K) (am_ns K) (am_nc K)) (hl : l.stackTraces = false) (hB : am_body K D l P Y n V)
    (hc : am_ctx K D p l R s m args meth c own ini cc nL (d' + 1)) (hn : am_now K D s nL ad M H locs ls L st) (hdg : decode cc pc = .ok (i, am_len pc i)) (hV : V a) (hcall : am_call P Y (am_ns K) own i kd a b)
    (hlen : b ≤ st.length) (hcat : am_cat (st.drop b) ≤ 8) (hrecv : am_recv (P a) st b M = true) (hargs : am_args (P a) (st.take b).reverse = true)
    (hrun : am_run P n d' g a 0 (am_ent (P a).2.2.1 (st.take b).reverse) [] M = some (o, M1)) (hf : cells + (am_cc M1 - am_cc M) ≤ R.cells ∧ slots + (am_sl M1 - am_sl M) ≤ R.slots) :
    ∃ a9 : Array Value, vx_Run p l e R s m args below meth c H locs cells slots (am_cc M1 - am_cc M) (am_sl M1 - am_sl M) (F0 m pc ls (st.map (am_cv ad))) ((st.drop b).map (am_cv ad)) (am_Qc K D ad M M1 o a9) (am_XC K D ad M M1 o) (am_A (am_b0 K)) := by
  obtain ⟨hx, hb, hml, hown, hts, hK, hE, hb0, hR1, hR2, hd1, hlk, hst9, hini⟩ := id hc
  obtain ⟨g1, g2, g3, g4, g5, g6, g7, g8⟩ := hG a hV
  have htk : ∀ v ∈ (st.take b).reverse, v ∈ st := fun v hv => List.mem_of_mem_take (List.mem_reverse.mp hv)
  unfold am_args at hargs
  rw [Bool.and_eq_true] at hargs
  have hfit : ((st.take b).reverse.flatMap am_w2).length ≤ (P a).2.2.1 := of_decide_eq_true hargs.1
  have hnd : ∀ v ∈ (st.take b).reverse, ∀ x, v ≠ .double x := fun v hv x e => by
    have := List.all_eq_true.mp hargs.2 v hv
    rw [e] at this; cases this
  have hM := am_met (ad := ad) hG hl hB hrun hV (fun v hv => ⟨hn.2.2.2.2.2 v (htk v hv), hnd v hv⟩) hfit
  have hws := am_words (args := args) hts g1
  have hcw0 : am_cw P Y a ∈ am_cw P Y a :: am_W := List.mem_cons_self
  have hloc : 8 + ((P a).2.2.1 + 11) + (28 * d' + 126) ≤ R.locals := by omega
  have hsz : ls.size = nL := hn.2.2.2.1.1.1
  have hdcat := am_cat_cv hn.1.2.2.2.2.2.2 (l := st.drop b) (fun v hv => hn.2.2.2.2.2 v (List.mem_of_mem_drop hv))
  have hW : 2 * (F0 m pc ls (st.map (am_cv ad))).monitorRoom + (((st.drop b).map (am_cv ad)).map fun v => v.category).sum ≤ 8 := by
    show 2 * 0 + _ ≤ 8
    rw [hdcat]; omega
  have hfix : CallFix p m c cc nL s args am_W own := ⟨hx, hb, hml, hown, hts⟩
  have hPc : ∀ U : State, U.heap = H → s.WarmedH U.vm → am_Pc K D ad M (st.take b).reverse ((st.take b).reverse.map (am_cv ad)).toArray U := by
    intro U hU hWm
    refine ⟨rfl, by rw [hU]; exact am_rep.moved hWm.alike hn.1, hn.2.1, hE.go hWm (fun q h1 h2 => by rw [hU]; exact hn.2.2.1.2.1 q h1 h2), va_K.moved hWm.alike hK, by rw [hU]; exact Nat.le_trans hb0 hn.2.2.1.1⟩
  have hlen2 : (st.take b).reverse.length = b := by rw [List.length_reverse, List.length_take]; omega
  have hsp := am_split st b (am_cv ad)
  -- a receiver, and the others
  have hsplit : ∀ n', b = n' + 1 → ∃ v0 As, (st.take b).reverse = v0 :: As ∧ As.length = n' ∧ st[b - 1]? = some v0 := by
    intro n' hbn
    cases hq : (st.take b).reverse with
    | nil => rw [hq] at hlen2; simp at hlen2; omega
    | cons v0 As =>
      refine ⟨v0, As, rfl, by rw [hq] at hlen2; simp at hlen2; omega, ?_⟩
      have h1 : (st.take b).reverse[0]? = some v0 := by rw [hq]; rfl
      rw [List.getElem?_reverse (by rw [List.length_take]; omega), List.length_take, List.getElem?_take] at h1
      rw [show min b st.length - 1 - 0 = b - 1 by omega, if_pos (by omega)] at h1
      exact h1
  rcases hcall with ⟨idx, n', rfl, rfl, hbn, hpn, hrc, w1, w2, w3, hh0⟩ | ⟨idx, rfl, rfl, hpn, ht0, w1, w2⟩ | ⟨idx, n', rfl, rfl, hbn, hpn, hrc, hin, hrt, w1, w2, hh0⟩ | ⟨idx, host, rfl, rfl, hpn, ht0, w1, w2, hh0⟩ | ⟨idx, host, n', rfl, rfl, hbn, hpn, hrc, hin, hrt, w1, w2, hh0⟩
  · obtain ⟨v0, As, hq, hAs, hv0⟩ := hsplit n' hbn
    have hcwe : am_cw P Y a = .code (Y a).1 (Y a).2.1 (P a).2.2.1 (Y a).2.2.1 := by unfold am_cw; rw [hh0]
    have htag : (P a).2.2.2.2.1 ≠ 0 := by rcases hrc with ⟨ci, T, N, -, h⟩ | ⟨-, h⟩ <;> omega
    unfold am_recv at hrecv
    rw [if_neg htag, hv0] at hrecv
    cases v0 with
    | ref k =>
      obtain ⟨ar, cell, r1, r2, r3, r4⟩ := am_recv_cell hc hn hrc (of_decide_eq_true hrecv)
      rw [hq] at hPc hsp
      refine ⟨_, vx_runV (C := (Y a).1.cls) (b := ar) (As := As.map (am_cv ad)) (n := n') hfix hM ⟨⟨rfl, rfl, by show d' + 1 + 1 ≤ _; exact hd1, hloc, hws, by rw [← hcwe]; exact hcw0, by rw [← hcwe]; exact hts _ g1, hts _ g3, g4, am_pn_len hpn, hts _ w1⟩, hts _ w2, hts _ w3⟩ ⟨am_Pc_blind, ⟨cell, r2, r3, r4⟩, fun U h1 h2 => ?_⟩ rfl (by rw [List.length_map]; exact hAs) hsz ?_ hW hdg hf⟩
      · have := hPc U h1 h2
        rw [List.map_cons, show am_cv ad (.ref k) = .ref ar from r1] at this
        rw [hq]; exact this
      · show st.map (am_cv ad) = _
        rw [hsp, List.map_cons, List.reverse_cons, List.append_assoc, show am_cv ad (.ref k) = .ref ar from r1]; rfl
    | _ => cases hrecv
  · cases hh : (Y a).2.2.2 with
    | nil =>
      have hcwe : am_cw P Y a = .code (Y a).1 (Y a).2.1 (P a).2.2.1 (Y a).2.2.1 := by unfold am_cw; rw [hh]
      refine ⟨_, vx_runS (As := (st.take b).reverse.map (am_cv ad)) (n := b) hfix hM ⟨⟨rfl, rfl, by show d' + 1 + 1 ≤ _; exact hd1, hloc, hws, by rw [← hcwe]; exact hcw0, by rw [← hcwe]; exact hts _ g1, hts _ g3, g4, am_pn_len hpn, hts _ w1⟩, hts _ w2⟩ ⟨am_Pc_blind, hPc⟩ rfl (by rw [List.length_map]; exact hlen2) hsz hsp hW hdg hf⟩
    | cons z zs =>
      have hcwe : am_cw P Y a = .codeWith (Y a).1 (Y a).2.1 (P a).2.2.1 (Y a).2.2.1 (z :: zs) := by unfold am_cw; rw [hh]
      refine ⟨_, vx_runSX (hh := z :: zs) (As := (st.take b).reverse.map (am_cv ad)) (n := b) hfix hM ⟨⟨rfl, rfl, by show d' + 1 + 1 ≤ _; exact hd1, hloc, hws, by rw [← hcwe]; exact hcw0⟩, by rw [← hcwe]; exact hts _ g1, hts _ g3, g4, am_pn_len hpn, hts _ w1, hts _ w2⟩ ⟨am_Pc_blind, hPc⟩ rfl (by rw [List.length_map]; exact hlen2) hsz hsp hW hdg hf⟩
  · obtain ⟨v0, As, hq, hAs, hv0⟩ := hsplit n' hbn
    have hcwe : am_cw P Y a = .code (Y a).1 (Y a).2.1 (P a).2.2.1 none := by unfold am_cw; rw [hh0, hrt]
    have htag : (P a).2.2.2.2.1 ≠ 0 := by rcases hrc with ⟨ci, T, N, -, h⟩ | ⟨-, h⟩ <;> omega
    unfold am_recv at hrecv
    rw [if_neg htag, hv0] at hrecv
    cases v0 with
    | ref k =>
      obtain ⟨ar, cell, r1, r2, r3, r4⟩ := am_recv_cell hc hn hrc (of_decide_eq_true hrecv)
      rw [hq] at hPc hsp
      refine ⟨_, vx_runI (b := ar) (As := As.map (am_cv ad)) (n := n') hfix hM ⟨⟨rfl, rfl, by show d' + 1 + 1 ≤ _; exact hd1, hloc, hws, by rw [← hcwe]; exact hcw0, by rw [← hcwe]; exact hts _ g1, hts _ g3, g4, am_pn_len hpn, hts _ w1⟩, hin, hts _ w2⟩ ⟨am_Pc_blind, fun U h1 h2 => ?_⟩ rfl (by rw [List.length_map]; exact hAs) hsz ?_ hW hdg hf⟩
      · have := hPc U h1 h2
        rw [List.map_cons, show am_cv ad (.ref k) = .ref ar from r1] at this
        rw [hq]; exact this
      · show st.map (am_cv ad) = _
        rw [hsp, List.map_cons, List.reverse_cons, List.append_assoc, show am_cv ad (.ref k) = .ref ar from r1]; rfl
    | _ => cases hrecv
  · have hcwe : am_cw P Y a = .code (Y a).1 (Y a).2.1 (P a).2.2.1 (Y a).2.2.1 := by unfold am_cw; rw [hh0]
    refine ⟨_, vx_runSN (host := host) (As := (st.take b).reverse.map (am_cv ad)) (n := b) hfix hM ⟨⟨⟨rfl, rfl, by show d' + 1 + 1 ≤ _; exact hd1, hloc, hws, by rw [← hcwe]; exact hcw0⟩, by rw [← hcwe]; exact hts _ g1, hts _ g3, g4, am_pn_len hpn, va_Nw.use rfl (hE.2.2.2.2.2.2.2.2.1 _ w1).2⟩, hts _ w2, trivial⟩ ⟨am_Pc_blind, hPc⟩ rfl (by rw [List.length_map]; exact hlen2) hsz hsp hW hdg hf⟩
  · obtain ⟨v0, As, hq, hAs, hv0⟩ := hsplit n' hbn
    have hcwe : am_cw P Y a = .code (Y a).1 (Y a).2.1 (P a).2.2.1 none := by unfold am_cw; rw [hh0, hrt]
    have htag : (P a).2.2.2.2.1 ≠ 0 := by rcases hrc with ⟨ci, T, N, -, h⟩ | ⟨-, h⟩ <;> omega
    unfold am_recv at hrecv
    rw [if_neg htag, hv0] at hrecv
    cases v0 with
    | ref k =>
      obtain ⟨ar, cell, r1, r2, r3, r4⟩ := am_recv_cell hc hn hrc (of_decide_eq_true hrecv)
      rw [hq] at hPc hsp
      refine ⟨_, vx_runIN (host := host) (b := ar) (As := As.map (am_cv ad)) (n := n') hfix hM ⟨⟨⟨rfl, rfl, by show d' + 1 + 1 ≤ _; exact hd1, hloc, hws, by rw [← hcwe]; exact hcw0⟩, by rw [← hcwe]; exact hts _ g1, hts _ g3, g4, am_pn_len hpn, va_Nw.use rfl (hE.2.2.2.2.2.2.2.2.1 _ w1).2⟩, hin, hts _ w2⟩ ⟨am_Pc_blind, fun U h1 h2 => ?_⟩ rfl (by rw [List.length_map]; exact hAs) hsz ?_ hW hdg hf⟩
      · have := hPc U h1 h2
        rw [List.map_cons, show am_cv ad (.ref k) = .ref ar from r1] at this
        rw [hq]; exact this
      · show st.map (am_cv ad) = _
        rw [hsp, List.map_cons, List.reverse_cons, List.append_assoc, show am_cv ad (.ref k) = .ref ar from r1]; rfl
    | _ => cases hrecv
end AMS
