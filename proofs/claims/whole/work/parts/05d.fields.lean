/-- what holds of a method's frame from its entry to its end -/
def am_ctx (K : am_K) (D : va_G) (p : Program) (l : Launch) (R : Room) (s : State) (m : MethodId) (args : Array Value) (meth : Method) (c : Code) (own : String) (ini : Bool) (cc : ByteArray) (nL d : Nat) : Prop :=
  p.tables.exec = Jvm.exec ∧ c.code = cc ∧ c.maxLocals = nL ∧ s.vm.findClass own = some m.cls ∧ (∀ w ∈ am_W, w.before args s = true) ∧ va_K D vwCl [] s ∧ am_E K s ∧ am_b0 K ≤ s.heap.size ∧ 1 ≤ R.frames ∧ 28 * d + 126 ≤ R.locals ∧ d + 1 ≤ R.frames ∧ meth.locks = false ∧ l.stackTraces = false ∧ (ini = true → meth.name = "<init>")
/-- what holds at a point of the walk -/
def am_now (K : am_K) (D : va_G) (s : State) (nL : Nat) (ad : Nat → Value) (M : am_M) (H : Heap) (locs : List Loc) (ls : Array Slot) (L st : List Value) : Prop :=
  am_rep D (am_b0 K) s ad M H ∧ am_xt K ad M ∧ va_S (am_A (am_b0 K)) s.heap H locs ∧ am_lrel ad ls nL L ∧ (∀ v ∈ L, am_okv M v) ∧ (∀ v ∈ st, am_okv M v)
theorem am_now.stk {K : am_K} {D : va_G} {s : State} {nL : Nat} {ad : Nat → Value} {M : am_M} {H : Heap} {locs : List Loc} {ls : Array Slot} {L st st' : List Value} (h : am_now K D s nL ad M H locs ls L st) (h' : ∀ v ∈ st', am_okv M v) : am_now K D s nL ad M H locs ls L st' :=
  ⟨h.1, h.2.1, h.2.2.1, h.2.2.2.1, h.2.2.2.2.1, h'⟩
theorem am_arr_set {s : State} {H1 : Heap} {a b0 : Nat} {cell : Cell} {ty : FieldType} {n j : Nat} {f f' : Nat → Value} {v : Value} (hb : b0 ≤ a) (e : H1[a]? = some (cell.setSlot j v)) (h : am_isA s cell ty) (hv : cell.vm = .none) (hn : cell.slots.size = n) (hj : j < n) (hf : ∀ j, j < n → cell.slots[j]? = some (f j)) (h1 : f' j = v) (h2 : ∀ i, i ≠ j → f' i = f i) : am_arr s H1 (.ref a) b0 ty n f' := by
  refine ⟨a, _, rfl, hb, e, h, hv, by show (cell.slots.setIfInBounds j v).size = n; simpa using hn, fun i hi => ?_⟩
  by_cases hij : i = j
  · subst hij
    rw [h1]
    exact Cell.slots_setSlot_self v (by omega)
  · rw [h2 i hij, slot_ne _ _ (Ne.symm hij)]
    exact hf i hi
theorem am_in_iff {j : Int32} {n : Nat} (h : am_in j n = true) : ¬ (j < 0 ∨ n ≤ j.toNatClampNeg) := of_decide_eq_true h
theorem am_ownb_iff {t : Nat} (h : am_ownb t = true) : am_own t := by
  unfold am_ownb at h
  unfold am_own
  simpa using h
theorem am_rv_rc (v : Nat) : am_rv (v + 1) = .ref v := rfl
section AM
variable {K : am_K} {D : va_G} {p : Program} {l : Launch} {e : Env} {R : Room} {s : State} {m : MethodId} {args : Array Value} {below : List Frame} {meth : Method} {c : Code} {own : String} {ini : Bool} {cc : ByteArray} {nL d : Nat}
variable {ad : Nat → Value} {M : am_M} {H : Heap} {locs : List Loc} {ls : Array Slot} {L st : List Value} {cells slots : Nat} {Q : State → Prop} {pc : Nat} {rest : List Value}
/-- an array is read -/
theorem am_r_ald {k : Nat} {j : Int32} {ty : FieldType} {n : Nat} {f : Nat → Value} (hb0 : am_arr s H (ad k) (am_b0 K) ty n f) (hin : am_in j n = true) :
    ∃ a cell, ad k = .ref a ∧ H[a]? = some cell ∧ s.isArrayOf cell ty ∧ cell.vm ≠ .unknown ∧ ¬ (j < 0 ∨ cell.slots.size ≤ j.toNatClampNeg) ∧ cell.slots[j.toNatClampNeg]? = some (f j.toNatClampNeg) := by
  obtain ⟨a, cell, e1, e2, e3, e4, e5, e6, e7⟩ := hb0
  have h := am_in_iff hin
  refine ⟨a, cell, e1, e3, e4.1, (by rw [e5]; intro z; cases z), (by rw [e6]; exact h), e7 _ (Nat.not_le.mp fun q => h (Or.inr q))⟩
theorem am_op_get (hc : am_ctx K D p l R s m args meth c own ini cc nL d) (hcls : am_cls) {sr : am_SR} {idx kd a b k : Nat} (hdg : decode cc pc = .ok (.getfield idx, 3)) (hop : am_op sr own ini pc (.getfield idx) kd a b) (hn : am_now K D s nL ad M H locs ls L (.ref k :: rest)) (htg : am_tg M k = 10 + a)
    (kk : am_now K D s nL ad M H locs ls L ((if kd = 1 then am_rv (am_R M k b) else .int (am_I M k b)) :: rest) → W p l e R s m args below meth c H locs cells slots Q (F0 m (pc + 3) ls (((if kd = 1 then am_rv (am_R M k b) else .int (am_I M k b)) :: rest).map (am_cv ad)))) :
    W p l e R s m args below meth c H locs cells slots Q (F0 m pc ls ((Value.ref k :: rest).map (am_cv ad))) := by
  obtain ⟨hx, hb, hml, hown, hts, hK, hE, hb0, -⟩ := hc
  have hrest : ∀ v ∈ rest, am_okv M v := fun v hv => hn.2.2.2.2.2 v (List.mem_cons_of_mem _ hv)
  rcases hop with ⟨C, T, N, hcl, hbN, hw, hkd⟩ | ⟨rfl, hop⟩
  · obtain ⟨⟨q, z1, z2, z3⟩, z4⟩ := hn.1.2.2.2.2.1 k a (C, T, N) htg hcl
    obtain ⟨u1, u2, u3, u4⟩ := hcls a C T N hcl
    have hP : va_P D vwCl [(q, .inr (a, (List.range N).map (am_fv ad M k a)))] H := by
      intro i x hi
      have hz : i < 1 := (List.getElem?_eq_some_iff.mp hi).1
      rw [show i = 0 by omega] at hi
      cases hi
      exact ⟨(C, T, N), hcl, z3.to (fun j hj => by simp [vp_V, hj])⟩
    have hv : am_fv ad M k a b = am_cv ad (if kd = 1 then am_rv (am_R M k b) else .int (am_I M k b)) := by
      rcases hkd with ⟨rfl, h⟩ | ⟨rfl, h⟩
      · simp [am_fv, h, am_rf, am_cv]
      · simp [am_fv, h]
    rw [List.map_cons, show am_cv ad (.ref k) = .ref q from z1]
    refine va_get (D := D) (ci := a) (v := am_fv ad M k a b) (C := C) (T := T) (N := N) hx hb hts u1 hown hK hP 0 rfl hcl b hbN (hts _ hw) (fun _ h9 => h9) (by simp [hbN]) hdg ?_
    rw [hv]
    refine kk (hn.stk fun v hv => ?_)
    rcases List.mem_cons.mp hv with h | h
    · rw [h]
      rcases hkd with ⟨rfl, -⟩ | ⟨rfl, -⟩
      · trivial
      · exact z4 b
    · exact hrest v h
  · obtain ⟨i, hi, rfl, g1, g2⟩ := hn.2.1.2.2.1 k htg
    obtain ⟨t1, t2, t3, t4⟩ := hn.2.1.2.2.2.1 i hi
    obtain ⟨-, -, hS, -⟩ := hE
    obtain ⟨s1, s2, s3, s4⟩ := hS.1 i hi
    rw [List.map_cons, show am_cv ad (.ref (900000 + i)) = .ref (am_aK K i) from t3]
    rcases hop with ⟨rfl, rfl, hw⟩ | ⟨rfl, rfl, hw⟩
    · refine vk_getf hx hb s3 hn.2.2.1 hown (hts _ hw) (fun _ h => h) hdg ?_
      have e1 : am_cv ad (if (1 : Nat) = 1 then am_rv (am_R M (900000 + i) 0) else .int (am_I M (900000 + i) 0)) = .ref (am_aV K i) := by
        rw [if_pos rfl, g1]; exact t4
      have h := kk (hn.stk fun v hv => by
        rcases List.mem_cons.mp hv with h | h
        · rw [h, if_pos rfl, g1]
          show ¬ am_tg M (910000 + i) = 0
          rw [t2]; decide
        · exact hrest v h)
      rw [List.map_cons, e1] at h
      exact h
    · refine vk_getf hx hb s2 hn.2.2.1 hown (hts _ hw) (fun _ h => h) hdg ?_
      have e1 : am_cv ad (if (0 : Nat) = 1 then am_rv (am_R M (900000 + i) 1) else .int (am_I M (900000 + i) 1)) = .int 0 := by
        rw [if_neg (by decide), g2]; rfl
      have h := kk (hn.stk fun v hv => by
        rcases List.mem_cons.mp hv with h | h
        · rw [h, if_neg (by decide)]; trivial
        · exact hrest v h)
      rw [List.map_cons, e1] at h
      exact h
theorem am_put_cell {k ci : Nat} {C : String} {T : u_T} {N q : Nat} {H1 : Heap} {cl2 : am_C} (hn : am_now K D s nL ad M H locs ls L st) (htg : am_tg M k = 10 + ci) (hcl : vwCl[ci]? = some (C, T, N)) (hq : ad k = .ref q)
    (oq : ∀ x, x ≠ q → H1[x]? = H[x]?) (hz : H1.size = H.size) (ht : cl2.1 = am_tg M k) (hl : cl2.2.1 = am_ln M k) (hr : ∀ j, am_okv M (am_rv (cl2.2.2.2.2 j)))
    (hob : t_OB q (D.1 ci) N (D.2 ci) H1 (am_fv ad (am_cell M k cl2) k ci)) {i : Nat} : am_now K D s nL ad (am_cell M k cl2) H1 (locs ++ [⟨q, i⟩]) ls L (st.tail.tail) := by
  obtain ⟨n1, n2, n3, n4, n5, n6⟩ := hn
  have hci : ci < 10 := (List.getElem?_eq_some_iff.mp hcl).1
  have hown : am_own (am_tg M k) := Or.inr (by omega)
  obtain ⟨a, y1, y2, y3⟩ := am_own_ref n1 hown
  have hqa : q = a := by rw [hq] at y1; cases y1; rfl
  refine ⟨am_rep_cell n1 hown hq ht hl oq (fun h => by omega) (fun h => by omega) (fun h => by omega) (fun h => by omega) (fun ci' r h hr' => ?_), am_xt_cell n2 hown ht, ?_, n4, fun v hv => am_okv_cell ht (n5 v hv), fun v hv => am_okv_cell ht (n6 v (List.mem_of_mem_tail (List.mem_of_mem_tail hv)))⟩
  · have hcc : ci' = ci := by omega
    subst hcc
    rw [hcl] at hr'
    cases hr'
    exact ⟨hob, hr⟩
  · refine ⟨by rw [hz]; exact n3.1, fun x h1 h2 => ?_, fun x hx => ?_⟩
    · rw [oq x (fun e => h2 (by rw [e, hqa]; exact y2))]
      exact n3.2.1 x h1 h2
    · rcases List.mem_append.mp hx with h | h
      · exact n3.2.2 x h
      · rw [List.mem_singleton.mp h]
        show am_b0 K ≤ q
        rw [hqa]; exact y2
/-- a field is written -/
theorem am_op_put (hc : am_ctx K D p l R s m args meth c own ini cc nL d) (hcls : am_cls) {sr : am_SR} {idx kd a b k : Nat} {v : Value} {cl2 : am_C} (hdg : decode cc pc = .ok (.putfield idx, 3)) (hop : am_op sr own ini pc (.putfield idx) kd a b) (hn : am_now K D s nL ad M H locs ls L (v :: .ref k :: rest)) (htg : am_tg M k = 10 + a)
    (ht : cl2.1 = am_tg M k) (hl : cl2.2.1 = am_ln M k) (hr : ∀ j, am_okv M (am_rv (cl2.2.2.2.2 j)))
    (hval : am_fv ad (am_cell M k cl2) k a b = am_cv ad v) (hoth : ∀ j, j ≠ b → am_fv ad (am_cell M k cl2) k a j = am_fv ad M k a j)
    (hfit : narrow (am_ty a b) (am_cv ad v) = am_cv ad v ∧ fits (am_ty a b) (am_cv ad v) = true)
    (kk : ∀ (H1 : Heap) (locs1 : List Loc), am_now K D s nL ad (am_cell M k cl2) H1 locs1 ls L rest → W p l e R s m args below meth c H1 locs1 cells slots Q (F0 m (pc + 3) ls (rest.map (am_cv ad)))) :
    W p l e R s m args below meth c H locs cells slots Q (F0 m pc ls ((v :: Value.ref k :: rest).map (am_cv ad))) := by
  obtain ⟨hx, hb, hml, hown, hts, hK, hE, hb0, hR1, hR2, hd1, hlk, hst9, hini⟩ := hc
  obtain ⟨C, T, N, hcl, hbN, hw, hkd, hfinal⟩ := hop
  obtain ⟨⟨q, z1, z2, z3⟩, z4⟩ := hn.1.2.2.2.2.1 k a (C, T, N) htg hcl
  obtain ⟨u1, u2, u3, u4⟩ := hcls a C T N hcl
  have hap := va_apart (own := own) hts u1 (am_ty a) u2 u3 hK hcl
  obtain ⟨cell, q1, q2, q3, q4⟩ := z3
  obtain ⟨hS, hfc, kC, hkC, hkind⟩ := hK.1 a _ hcl
  obtain ⟨cf, kf, fi, f, hi, hsl⟩ := hS b hbN
  rw [List.map_cons, List.map_cons, show am_cv ad (.ref k) = .ref q from z1]
  have fin : ∀ H' : Heap, H'[q]? = some (cell.setSlot f.slot (am_cv ad v)) → H'.size = H.size → (∀ x, x ≠ q → H'[x]? = H[x]?) → W p l e R s m args below meth c H' (locs ++ [⟨q, f.slot⟩]) cells slots Q (F0 m (pc + 3) ls (rest.map (am_cv ad))) := by
    intro H' e1 e2 e3
    refine kk H' _ (am_put_cell (st := v :: .ref k :: rest) hn htg hcl z1 e3 e2 ht hl hr ?_)
    rw [hsl] at e1
    refine ⟨_, e1, q2, q3, fun j hj => ?_⟩
    have h9 := t_set q4 hap hbN (am_cv ad v) j hj
    rw [h9]
    by_cases hjb : j = b
    · subst hjb; simp [updV, hval]
    · simp [updV, hjb, hoth j hjb]
  cases hfl : (T b).2.2.2 with
  | false =>
    have hlay := hts _ (u1 _ (u_in_lay hbN))
    unfold u_lay at hlay
    rw [if_neg (by rw [hfl]; decide)] at hlay
    have hst := (u_facts hfc hkC (u_lays hts u1 hbN) hi).1
    have h6 := u_store hfc hkC hkind hlay hi (u2 b hbN) hfit.1 hfit.2
    exact W.putK hx hb (f := f) ⟨hown, hts _ hw, ⟨_, _, _, hi⟩, hst⟩ (by rw [q2]; exact h6) q1 q3 (by rw [hsl]; exact k2_hasslot (q4 b hbN)) rfl rfl hdg fin
  | true =>
    obtain ⟨hi1, hdecl⟩ := hfinal hfl
    have hlay := hts _ (u1 _ (u_in_lay hbN))
    unfold u_lay at hlay
    rw [if_pos hfl] at hlay
    have hst := (u_facts hfc hkC (u_lays hts u1 hbN) hi).1
    have hcf : m.cls = cf := by
      obtain ⟨_, _, c', _, _, _, -, -, hf', -, -, -, hown2, -⟩ := Cond.laysFinal_spec hlay
      have e1 : c' = cf := by have := hi.symm.trans hf'; simp at this; exact this.1.symm
      rw [hdecl] at hown2
      rw [← e1]; exact Option.some.inj (hown.symm.trans hown2)
    have h6 := u_fits hfc hkC hkind (Or.inr hlay) hi (u2 b hbN) hfit.1 hfit.2
    exact W.putFinK hx hb hown (hts _ hw) hi hst hcf (hini hi1) (by rw [q2]; exact h6) q1 q3 (by rw [hsl]; exact k2_hasslot (q4 b hbN)) rfl rfl hdg fin
end AM
