theorem am_new_eq {M : am_M} {g t n w : Nat} : (am_new M g t n w).1 (am_key M g) = (t, n, fun _ => 0, fun _ => 0, fun _ => 0) := by
  simp [am_new, va_up]
theorem am_new_ne {M : am_M} {g t n w k : Nat} (h : k ≠ am_key M g) : (am_new M g t n w).1 k = M.1 k := by
  simp [am_new, va_up, h]
theorem am_okv_new {M : am_M} {g t n w : Nat} (hk : am_tg M (am_key M g) = 0) {v : Value} (h : am_okv M v) : am_okv (am_new M g t n w) v := by
  cases v with
  | ref q =>
    have hq : q ≠ am_key M g := fun e => h (by rw [e]; exact hk)
    show ¬ ((am_new M g t n w).1 q).1 = 0
    rw [am_new_ne hq]; exact h
  | _ => trivial
theorem am_cv_up {M : am_M} {ad : Nat → Value} {k : Nat} {x : Value} (hk : am_tg M k = 0) {v : Value} (h : am_okv M v) : am_cv (va_up ad k x) v = am_cv ad v := by
  refine am_cv_ext (M := M) (fun q hq => ?_) h
  have hne : q ≠ k := fun e => hq (by rw [e]; exact hk)
  simp [va_up, hne]
/-- a new own cell -/
theorem am_rep_new {D : va_G} {b0 : Nat} {s : State} {ad : Nat → Value} {M : am_M} {H H1 : Heap} (h : am_rep D b0 s ad M H) {g t n w : Nat} (hk : am_tg M (am_key M g) = 0) (z : H1.size = H.size + 1) (o : ∀ q, q < H.size → H1[q]? = H[q]?) (ht : am_own t) (hb : b0 ≤ H.size)
    (g1 : t = 1 → am_arr s H1 (.ref H.size) b0 .int n (fun _ => .int 0)) (g2 : t = 2 → am_arr s H1 (.ref H.size) b0 .byte n (fun _ => .int 0)) (g3 : t = 3 → am_arr s H1 (.ref H.size) b0 .long n (fun _ => .long 0)) (g4 : t = 4 → am_arr s H1 (.ref H.size) b0 (.object "SnowPlough$Snapshot") n (fun _ => .null))
    (g5 : ∀ ci r, t = 10 + ci → vwCl[ci]? = some r → t_OB H.size (D.1 ci) r.2.2 (D.2 ci) H1 (fun j => if am_rf (am_ty ci j) = true then .null else .int 0)) :
    am_rep D b0 s (va_up ad (am_key M g) (.ref H.size)) (am_new M g t n w) H1 := by
  have h0 := h
  obtain ⟨h1, h2, h3, h4, h5, h6, h7⟩ := h
  have hself : va_up ad (am_key M g) (.ref H.size) (am_key M g) = .ref H.size := by simp [va_up]
  have hoth : ∀ k, k ≠ am_key M g → va_up ad (am_key M g) (.ref H.size) k = ad k := fun k hk => by simp [va_up, hk]
  have key : ∀ {v : Value} {ty : FieldType} {n : Nat} {f : Nat → Value}, am_arr s H v b0 ty n f → am_arr s H1 v b0 ty n f := by
    intro v ty n f hh
    refine hh.kept (fun a e => ?_)
    obtain ⟨a', cell, e1, e2, e3, -⟩ := hh
    rw [e] at e1; cases e1
    exact o a (Array.getElem?_eq_some_iff.mp e3).1
  have hold : ∀ k, k ≠ am_key M g → am_own (am_tg M k) → va_up ad (am_key M g) (.ref H.size) k ≠ .ref H.size := by
    intro k hk1 hk2 e
    rw [hoth k hk1] at e
    obtain ⟨a, y1, y2, y3⟩ := am_own_ref h0 hk2
    rw [y1] at e
    have e2 := Value.ref.inj e
    rw [e2] at y3
    exact absurd y3 (Nat.lt_irrefl _)
  refine ⟨fun k e => ?_, fun k e => ?_, fun k e => ?_, fun k e => ?_, fun k ci r e1 e2 => ?_, fun k k' e1 e2 e3 => ?_, fun k e => ?_⟩
  · by_cases hq : k = am_key M g
    · subst hq
      unfold am_tg at e; unfold am_ln am_I; rw [am_new_eq] at e ⊢; rw [hself]; exact g1 e
    · unfold am_tg at e; unfold am_ln am_I; rw [am_new_ne hq] at e ⊢; rw [hoth k hq]; exact key (h1 k e)
  · by_cases hq : k = am_key M g
    · subst hq
      unfold am_tg at e; unfold am_ln am_I; rw [am_new_eq] at e ⊢; rw [hself]; exact g2 e
    · unfold am_tg at e; unfold am_ln am_I; rw [am_new_ne hq] at e ⊢; rw [hoth k hq]; exact key (h2 k e)
  · by_cases hq : k = am_key M g
    · subst hq
      unfold am_tg at e; unfold am_ln am_J; rw [am_new_eq] at e ⊢; rw [hself]; exact g3 e
    · unfold am_tg at e; unfold am_ln am_J; rw [am_new_ne hq] at e ⊢; rw [hoth k hq]; exact key (h3 k e)
  · by_cases hq : k = am_key M g
    · subst hq
      unfold am_tg at e; unfold am_ln am_R; rw [am_new_eq] at e ⊢; rw [hself]; exact ⟨g4 e, fun _ => trivial⟩
    · unfold am_tg at e; unfold am_ln am_R; rw [am_new_ne hq] at e ⊢; rw [hoth k hq]
      obtain ⟨q1, q2⟩ := h4 k e
      refine ⟨?_, fun j => am_okv_new hk (q2 j)⟩
      have hf : (fun j => am_cv (va_up ad (am_key M g) (.ref H.size)) (am_rv ((M.1 k).2.2.2.2 j))) = (fun j => am_cv ad (am_rv (am_R M k j))) := by
        funext j; exact am_cv_up hk (q2 j)
      rw [hf]; exact key q1
  · by_cases hq : k = am_key M g
    · subst hq
      unfold am_tg at e1; rw [am_new_eq] at e1
      refine ⟨⟨H.size, hself, hb, ?_⟩, fun j => by unfold am_R; rw [am_new_eq]; trivial⟩
      have hf : am_fv (va_up ad (am_key M g) (.ref H.size)) (am_new M g t n w) (am_key M g) ci = (fun j => if am_rf (am_ty ci j) = true then .null else .int 0) := by
        funext j; unfold am_fv am_R am_I; rw [am_new_eq]; rfl
      rw [hf]; exact g5 ci r e1 e2
    · unfold am_tg at e1; rw [am_new_ne hq] at e1
      obtain ⟨⟨a, y1, y2, y3⟩, y4⟩ := h5 k ci r e1 e2
      refine ⟨⟨a, by rw [hoth k hq]; exact y1, y2, ?_⟩, fun j => by unfold am_R; rw [am_new_ne hq]; exact am_okv_new hk (y4 j)⟩
      have hf : am_fv (va_up ad (am_key M g) (.ref H.size)) (am_new M g t n w) k ci = am_fv ad M k ci := by
        funext j
        unfold am_fv am_R am_I; rw [am_new_ne hq]
        have hcv := am_cv_up (ad := ad) (x := .ref H.size) hk (y4 j)
        unfold am_R at hcv; rw [hcv]
      rw [hf]
      obtain ⟨cell, x1, x2⟩ := y3
      exact ⟨cell, by rw [o a (Array.getElem?_eq_some_iff.mp x1).1]; exact x1, x2⟩
  · unfold am_tg at e1 e2
    by_cases hq : k = am_key M g <;> by_cases hq' : k' = am_key M g
    · rw [hq, hq']
    · rw [am_new_ne hq'] at e2
      rw [hq, hself] at e3
      exact absurd e3.symm (hold k' hq' e2)
    · rw [am_new_ne hq] at e1
      rw [hq', hself] at e3
      exact absurd e3 (hold k hq e1)
    · rw [am_new_ne hq] at e1; rw [am_new_ne hq'] at e2
      rw [hoth k hq, hoth k' hq'] at e3
      exact h6 k k' e1 e2 e3
  · by_cases hq : k = am_key M g
    · rw [hq, hself]; exact Or.inl ⟨_, rfl⟩
    · unfold am_tg at e; rw [am_new_ne hq] at e; rw [hoth k hq]; exact h7 k e
theorem am_xt_new {K : am_K} {ad : Nat → Value} {M : am_M} {g t n w : Nat} {x : Value} (h : am_xt K ad M) (hk : am_tg M (am_key M g) = 0) (ht : am_own t) : am_xt K (va_up ad (am_key M g) x) (am_new M g t n w) := by
  refine h.go (fun k' e => ?_) (fun k' e => ?_)
  · have hq : k' ≠ am_key M g := fun q => by rw [q, hk] at e; omega
    exact ⟨by simp [va_up, hq], am_new_ne hq⟩
  · by_cases hq : k' = am_key M g
    · unfold am_own at ht
      unfold am_tg at e; rw [hq, am_new_eq] at e; simp only at e; omega
    · unfold am_tg; rw [am_new_ne hq]
section AN
variable {K : am_K} {D : va_G} {p : Program} {l : Launch} {e : Env} {R : Room} {s : State} {m : MethodId} {args : Array Value} {below : List Frame} {meth : Method} {c : Code} {own : String} {ini : Bool} {cc : ByteArray} {nL d : Nat}
variable {ad : Nat → Value} {M : am_M} {H : Heap} {locs : List Loc} {ls : Array Slot} {L st : List Value} {cells slots : Nat} {Q : State → Prop} {pc : Nat} {rest : List Value}
theorem am_now_new {g t n w : Nat} {H1 : Heap} (hc : am_b0 K ≤ s.heap.size) (hn : am_now K D s nL ad M H locs ls L st) (hk : am_tg M (am_key M g) = 0) (ht : am_own t) (z : H1.size = H.size + 1) (o : ∀ q, q < H.size → H1[q]? = H[q]?) (hr : am_rep D (am_b0 K) s (va_up ad (am_key M g) (.ref H.size)) (am_new M g t n w) H1) {st' : List Value} (hst : ∀ v ∈ st', v ∈ st) :
    am_now K D s nL (va_up ad (am_key M g) (.ref H.size)) (am_new M g t n w) H1 locs ls L (.ref (am_key M g) :: st') := by
  obtain ⟨n1, n2, n3, n4, n5, n6⟩ := hn
  refine ⟨hr, am_xt_new n2 hk ht, ⟨by rw [z]; exact Nat.le_succ_of_le n3.1, fun x h1 h2 => (o x (Nat.lt_of_lt_of_le h1 n3.1)).trans (n3.2.1 x h1 h2), n3.2.2⟩, n4.ext (M := M) (fun q hq => ?_) n5, fun v hv => am_okv_new hk (n5 v hv), fun v hv => ?_⟩
  · have hne : q ≠ am_key M g := fun e => hq (by rw [e]; exact hk)
    simp [va_up, hne]
  · rcases List.mem_cons.mp hv with h | h
    · rw [h]
      show ¬ ((am_new M g t n w).1 (am_key M g)).1 = 0
      rw [am_new_eq]
      unfold am_own at ht
      simp only
      omega
    · exact am_okv_new hk (n6 v (hst v h))
theorem am_map_up {g : Nat} {x : Value} (hk : am_tg M (am_key M g) = 0) (h : ∀ v ∈ rest, am_okv M v) : rest.map (am_cv (va_up ad (am_key M g) x)) = rest.map (am_cv ad) :=
  List.map_congr_left fun v hv => am_cv_up hk (h v hv)
/-- new C -/
theorem am_op_new (hc : am_ctx K D p l R s m args meth c own ini cc nL d) (hcls : am_cls) {sr : am_SR} {idx kd a b g : Nat} (hdg : decode cc pc = .ok (.new idx, 3)) (hop : am_op sr own ini pc (.new idx) kd a b) (hn : am_now K D s nL ad M H locs ls L st) (hk : am_tg M (am_key M g) = 0)
    (hr1 : cells + 1 ≤ R.cells) (hr2 : slots + b ≤ R.slots)
    (kk : ∀ (H1 : Heap) (ad' : Nat → Value), (∀ k, ¬ am_tg M k = 0 → ad' k = ad k) → am_now K D s nL ad' (am_new M g (10 + a) 0 b) H1 locs ls L (.ref (am_key M g) :: st) → W p l e R s m args below meth c H1 locs (cells + 1) (slots + b) Q (F0 m (pc + 3) ls ((Value.ref (am_key M g) :: st).map (am_cv ad')))) :
    W p l e R s m args below meth c H locs cells slots Q (F0 m pc ls (st.map (am_cv ad))) := by
  obtain ⟨hx, hb, hml, hown, hts, hK, hE, hb0, -⟩ := hc
  obtain ⟨C, T, hcl, w1, w2, w3⟩ := hop
  obtain ⟨u1, u2, u3, u4⟩ := hcls a C T b hcl
  have hKn := hK.1 a _ hcl
  have hci : a < 10 := (List.getElem?_eq_some_iff.mp hcl).1
  have htt : am_own (10 + a) := Or.inr (by omega)
  refine W.newcK hx hb hown (hts _ w1) (hts _ w2) (hts _ w3) rfl hdg hr1 hr2 hKn.2.1 rfl fun H1 kC hkC e1 z1 o1 => ?_
  have hbH : am_b0 K ≤ H.size := Nat.le_trans hb0 hn.2.2.1.1
  have hrep := am_rep_new hn.1 (g := g) (t := 10 + a) (n := 0) (w := b) (H1 := H1) hk z1 o1 htt hbH (fun h => by omega) (fun h => by omega) (fun h => by omega) (fun h => by omega) (fun ci r h hr => by
    have hcc : ci = a := by omega
    subst hcc
    rw [hcl] at hr
    cases hr
    refine (u_born (am_ty ci) hts u1 hKn hkC e1 u2).to (fun j hj => ?_)
    rcases u4 j hj with h9 | h9
    · rw [if_pos h9]
      cases hty : am_ty ci j <;> rw [hty] at h9 <;> first | rfl | cases h9
    · rw [h9]; rfl)
  have hnow := am_now_new hb0 hn hk htt z1 o1 hrep (fun v h => h)
  have h := kk H1 _ (fun q hq => by
    have hne : q ≠ am_key M g := fun e => hq (by rw [e]; exact hk)
    simp [va_up, hne]) hnow
  rw [List.map_cons, am_map_up hk hn.2.2.2.2.2] at h
  have hcv : am_cv (va_up ad (am_key M g) (.ref H.size)) (.ref (am_key M g)) = .ref H.size := by simp [am_cv, va_up]
  rw [hcv] at h
  exact h
/-- a new array of numbers -/
theorem am_op_newa (hc : am_ctx K D p l R s m args meth c own ini cc nL d) {t : ArrayType} {tt N : Nat} {n : Int32} {g : Nat} (hw : Jvm.Cond.arrayClass (newarray.typeOf t) ∈ am_W) (hdg : decode cc pc = .ok (.newarray t, 2)) (hn : am_now K D s nL ad M H locs ls L (.int n :: rest)) (hk : am_tg M (am_key M g) = 0) (h0 : ¬ n < 0) (hN : n.toNatClampNeg = N) (hbig : N ≤ 1000000)
    (htt : (t = .int ∧ tt = 1) ∨ (t = .byte ∧ tt = 2) ∨ (t = .long ∧ tt = 3))
    (hr1 : cells + 1 ≤ R.cells) (hr2 : slots + N ≤ R.slots)
    (kk : ∀ (H1 : Heap) (ad' : Nat → Value), (∀ k, ¬ am_tg M k = 0 → ad' k = ad k) → am_now K D s nL ad' (am_new M g tt N N) H1 locs ls L (.ref (am_key M g) :: rest) → W p l e R s m args below meth c H1 locs (cells + 1) (slots + N) Q (F0 m (pc + 2) ls ((Value.ref (am_key M g) :: rest).map (am_cv ad')))) :
    W p l e R s m args below meth c H locs cells slots Q (F0 m pc ls ((Value.int n :: rest).map (am_cv ad))) := by
  obtain ⟨hx, hb, hml, hown, hts, hK, hE, hb0, -⟩ := hc
  subst hN
  have hrest : ∀ v ∈ rest, am_okv M v := fun v hv => hn.2.2.2.2.2 v (List.mem_cons_of_mem _ hv)
  have hto : am_own tt := Or.inl (by rcases htt with ⟨-, h⟩ | ⟨-, h⟩ | ⟨-, h⟩ <;> omega)
  have hby : n.toNatClampNeg * componentBytes (newarray.typeOf t) ≤ 536870912 := by
    rcases htt with ⟨h, -⟩ | ⟨h, -⟩ | ⟨h, -⟩ <;> subst h
    · show n.toNatClampNeg * 4 ≤ _; omega
    · show n.toNatClampNeg * 1 ≤ _; omega
    · show n.toNatClampNeg * 8 ≤ _; omega
  refine va_newaK hx hb (hts _ hw) rfl hdg rfl h0 rfl hby hr1 hr2 rfl fun H1 cA e1 z1 o1 hAr hNm => ?_
  have hbH : am_b0 K ≤ H.size := Nat.le_trans hb0 hn.2.2.1.1
  have harr : am_arr s H1 (.ref H.size) (am_b0 K) (newarray.typeOf t) n.toNatClampNeg (fun _ => defaultValue (newarray.typeOf t)) :=
    ⟨H.size, _, rfl, hbH, e1, ⟨hAr _ _, fun C hC => by rcases htt with ⟨h, -⟩ | ⟨h, -⟩ | ⟨h, -⟩ <;> subst h <;> cases hC⟩, rfl, arrV_size _ _ _, fun j hj => arrV_read _ _ hj⟩
  have hrep := am_rep_new hn.1 (g := g) (t := tt) (n := n.toNatClampNeg) (w := n.toNatClampNeg) (H1 := H1) hk z1 o1 hto hbH
    (fun h => by rcases htt with ⟨h1, h2⟩ | ⟨h1, h2⟩ | ⟨h1, h2⟩ <;> first | omega | (subst h1; exact harr))
    (fun h => by rcases htt with ⟨h1, h2⟩ | ⟨h1, h2⟩ | ⟨h1, h2⟩ <;> first | omega | (subst h1; exact harr))
    (fun h => by rcases htt with ⟨h1, h2⟩ | ⟨h1, h2⟩ | ⟨h1, h2⟩ <;> first | omega | (subst h1; exact harr))
    (fun h => by rcases htt with ⟨h1, h2⟩ | ⟨h1, h2⟩ | ⟨h1, h2⟩ <;> omega)
    (fun ci r h => by rcases htt with ⟨h1, h2⟩ | ⟨h1, h2⟩ | ⟨h1, h2⟩ <;> omega)
  have hnow := am_now_new hb0 hn hk hto z1 o1 hrep (st' := rest) (fun v h => List.mem_cons_of_mem _ h)
  have h := kk H1 _ (fun q hq => by
    have hne : q ≠ am_key M g := fun e => hq (by rw [e]; exact hk)
    simp [va_up, hne]) hnow
  rw [List.map_cons, am_map_up hk hrest] at h
  have hcv : am_cv (va_up ad (am_key M g) (.ref H.size)) (.ref (am_key M g)) = .ref H.size := by simp [am_cv, va_up]
  rw [hcv] at h
  exact h
theorem am_op_newq (hc : am_ctx K D p l R s m args meth c own ini cc nL d) {idx N : Nat} {n : Int32} {g : Nat} (hw : Jvm.Cond.classLink own idx "SnowPlough$Snapshot" ∈ am_W) (hdg : decode cc pc = .ok (.anewarray idx, 3)) (hn : am_now K D s nL ad M H locs ls L (.int n :: rest)) (hk : am_tg M (am_key M g) = 0) (h0 : ¬ n < 0) (hN : n.toNatClampNeg = N) (hbig : N ≤ 1000000)
    (hr1 : cells + 1 ≤ R.cells) (hr2 : slots + N ≤ R.slots)
    (kk : ∀ (H1 : Heap) (ad' : Nat → Value), (∀ k, ¬ am_tg M k = 0 → ad' k = ad k) → am_now K D s nL ad' (am_new M g 4 N N) H1 locs ls L (.ref (am_key M g) :: rest) → W p l e R s m args below meth c H1 locs (cells + 1) (slots + N) Q (F0 m (pc + 3) ls ((Value.ref (am_key M g) :: rest).map (am_cv ad')))) :
    W p l e R s m args below meth c H locs cells slots Q (F0 m pc ls ((Value.int n :: rest).map (am_cv ad))) := by
  obtain ⟨hx, hb, hml, hown, hts, hK, hE, hb0, -⟩ := hc
  subst hN
  have hrest : ∀ v ∈ rest, am_okv M v := fun v hv => hn.2.2.2.2.2 v (List.mem_cons_of_mem _ hv)
  have hto : am_own 4 := Or.inl (by omega)
  refine W.anew hx hb hown (hts _ hw) (va_AO.use hE.2.2.2.2.2.2.2.2.2.2) rfl hdg rfl h0 (by omega) hr1 hr2 fun cA kA comp f1 f2 f3 f4 => ?_
  generalize hH1 : H.push ({ cls := cA, slots := Array.replicate n.toNatClampNeg .null, vm := .none } : Cell) = H1
  have z1 : H1.size = H.size + 1 := by rw [← hH1, Array.size_push]
  have e1 : H1[H.size]? = some (arrV cA n.toNatClampNeg (fun _ => .null)) := by rw [← hH1, Array.getElem?_push_size, ← arrV_new]
  have o1 : ∀ q : Nat, q < H.size → H1[q]? = H[q]? := fun q hq => by rw [← hH1, Array.getElem?_push, if_neg (Nat.ne_of_lt hq)]
  have hbH : am_b0 K ≤ H.size := Nat.le_trans hb0 hn.2.2.1.1
  have harr : am_arr s H1 (.ref H.size) (am_b0 K) (.object "SnowPlough$Snapshot") n.toNatClampNeg (fun _ => .null) :=
    ⟨H.size, _, rfl, hbH, e1, ⟨⟨(fun k h => by cases h), kA, f2, comp, f3⟩, fun C hC => by cases hC; exact ⟨kA, comp, f2, f3, f4⟩⟩, rfl, arrV_size _ _ _, fun j hj => arrV_read _ _ hj⟩
  have hrep := am_rep_new hn.1 (g := g) (t := 4) (n := n.toNatClampNeg) (w := n.toNatClampNeg) (H1 := H1) hk z1 o1 hto hbH (fun h => by omega) (fun h => by omega) (fun h => by omega) (fun _ => harr) (fun ci r h => by omega)
  have hnow := am_now_new hb0 hn hk hto z1 o1 hrep (st' := rest) (fun v h => List.mem_cons_of_mem _ h)
  have h := kk H1 _ (fun q hq => by
    have hne : q ≠ am_key M g := fun e => hq (by rw [e]; exact hk)
    simp [va_up, hne]) hnow
  rw [List.map_cons, am_map_up hk hrest] at h
  have hcv : am_cv (va_up ad (am_key M g) (.ref H.size)) (.ref (am_key M g)) = .ref H.size := by simp [am_cv, va_up]
  rw [hcv] at h
  exact h
/-- an own array is written -/
theorem am_arr_put {k a : Nat} {c2 : am_C} {H1 : Heap} {locs1 : List Loc} (hn : am_now K D s nL ad M H locs ls L st) (htg : am_tg M k = 1 ∨ am_tg M k = 2 ∨ am_tg M k = 3 ∨ am_tg M k = 4) (ha : ad k = .ref a) (ht : c2.1 = am_tg M k) (hl : c2.2.1 = am_ln M k) (oq : ∀ x, x ≠ a → H1[x]? = H[x]?) (hz : H1.size = H.size) (hlo : ∀ z ∈ locs1, z ∈ locs ∨ z.base = a)
    (g1 : am_tg M k = 1 → am_arr s H1 (ad k) (am_b0 K) .int (am_ln M k) (fun j => .int (c2.2.2.1 j)))
    (g2 : am_tg M k = 2 → am_arr s H1 (ad k) (am_b0 K) .byte (am_ln M k) (fun j => .int (c2.2.2.1 j)))
    (g3 : am_tg M k = 3 → am_arr s H1 (ad k) (am_b0 K) .long (am_ln M k) (fun j => .long (c2.2.2.2.1 j)))
    (g4 : am_tg M k = 4 → am_arr s H1 (ad k) (am_b0 K) (.object "SnowPlough$Snapshot") (am_ln M k) (fun j => am_cv ad (am_rv (c2.2.2.2.2 j))) ∧ ∀ j, am_okv M (am_rv (c2.2.2.2.2 j))) {st' : List Value} (hst : ∀ v ∈ st', v ∈ st) :
    am_now K D s nL ad (am_cell M k c2) H1 locs1 ls L st' := by
  obtain ⟨n1, n2, n3, n4, n5, n6⟩ := hn
  have hown : am_own (am_tg M k) := Or.inl (by omega)
  obtain ⟨a', y1, y2, y3⟩ := am_own_ref n1 hown
  have hqa : a = a' := by rw [ha] at y1; cases y1; rfl
  refine ⟨am_rep_cell n1 hown ha ht hl oq g1 g2 g3 g4 (fun ci r h => by omega), am_xt_cell n2 hown ht, ⟨by rw [hz]; exact n3.1, fun x h1 h2 => ?_, fun x hx => ?_⟩, n4, fun v hv => am_okv_cell ht (n5 v hv), fun v hv => am_okv_cell ht (n6 v (hst v hv))⟩
  · rw [oq x (fun e => h2 (by rw [e, hqa]; exact y2))]
    exact n3.2.1 x h1 h2
  · rcases hlo x hx with h | h
    · exact n3.2.2 x h
    · show am_b0 K ≤ x.base
      rw [h, hqa]; exact y2
end AN
