section AH
variable {K : am_K} {D : va_G} {p : Program} {l : Launch} {e : Env} {R : Room} {s : State} {m : MethodId} {args : Array Value} {below : List Frame} {meth : Method} {c : Code} {own : String} {ini : Bool} {cc : ByteArray} {nL d : Nat}
variable {ad : Nat → Value} {M : am_M} {H : Heap} {locs : List Loc} {ls : Array Slot} {L st : List Value} {cells slots : Nat} {Q : State → Prop} {pc : Nat} {rest : List Value}
theorem am_rf_fit {t : FieldType} (h : am_rf t = true) {v : Value} (hv : (∃ a, v = .ref a) ∨ v = .null) : narrow t v = v ∧ fits t v = true := by
  rcases hv with ⟨a, rfl⟩ | rfl <;> cases t <;> first | exact ⟨rfl, rfl⟩ | cases h
theorem am_setI_fv {k ci b : Nat} {x : Int32} : am_fv ad (am_setI M k b x) k ci b = if am_rf (am_ty ci b) = true then am_cv ad (am_rv (am_R M k b)) else .int x := by
  unfold am_fv am_setI am_R am_I; rw [am_cell_eq]; simp [upd]
theorem am_setI_fv2 {k ci b j : Nat} {x : Int32} (h : j ≠ b) : am_fv ad (am_setI M k b x) k ci j = am_fv ad M k ci j := by
  unfold am_fv am_setI am_R am_I; rw [am_cell_eq]; simp [upd, h]
theorem am_setR_fv {k ci b : Nat} {x : Nat} : am_fv ad (am_setR M k b x) k ci b = if am_rf (am_ty ci b) = true then am_cv ad (am_rv x) else .int (am_I M k b) := by
  unfold am_fv am_setR am_R am_I; rw [am_cell_eq]; simp [va_up]
theorem am_setR_fv2 {k ci b j : Nat} {x : Nat} (h : j ≠ b) : am_fv ad (am_setR M k b x) k ci j = am_fv ad M k ci j := by
  unfold am_fv am_setR am_R am_I; rw [am_cell_eq]; simp [va_up, h]
theorem am_s_putfield (hc : am_ctx K D p l R s m args meth c own ini cc nL d) (hcls : am_cls) {g kd a b : Nat} {idx : Nat} {S : am_S} (hdg : decode cc pc = .ok (.putfield idx, am_len pc (.putfield idx))) (hop : am_op (am_sr K) own ini pc (.putfield idx) kd a b) (hs : am_step g (.putfield idx) kd a b pc L st M = some S) (hn : am_now K D s nL ad M H locs ls L st)
    (hr1 : cells + (am_cc S.2.2.2 - am_cc M) ≤ R.cells) (hr2 : slots + (am_sl S.2.2.2 - am_sl M) ≤ R.slots) (kk : am_kG K D p l e R s m args below meth c nL ad M cells slots Q S) :
    W p l e R s m args below meth c H locs cells slots Q (F0 m pc ls (st.map (am_cv ad))) := by
  obtain ⟨hx, hb, hml, hown, hts, hK, hE, hb0, hR1, hR2, hd1, hlk, hst9, hini⟩ := id hc
  have hs : (match (generalizing := false) st with
    | .int x :: .ref k :: r => if am_tg M k = 10 + a ∧ kd = 0 then some (pc + 3, L, r, am_setI M k b x) else none
    | .ref q :: .ref k :: r => if am_tg M k = 10 + a ∧ kd = 1 then some (pc + 3, L, r, am_setR M k b (q + 1)) else none
    | _ => none) = some S := hs
  obtain ⟨C, T, N, hcl, hbN, hw, hkd, hfin⟩ := id hop
  split at hs
  · rename_i x k r hdum
    split at hs
    · rename_i hq
      obtain ⟨hq1, rfl⟩ := hq
      obtain rfl : S = _ := (Option.some.inj hs).symm
      have hty : am_ty a b = .int := by
        rcases hkd with ⟨-, h⟩ | ⟨h, -⟩
        · exact h
        · cases h
      have z4 := (hn.1.2.2.2.2.1 k a (C, T, N) hq1 hcl).2
      refine am_op_put (cl2 := ((M.1 k).1, (M.1 k).2.1, upd (M.1 k).2.2.1 b x, (M.1 k).2.2.2.1, (M.1 k).2.2.2.2)) hc hcls hdg hop hn hq1 rfl rfl z4 ?_ (fun j hj => am_setI_fv2 hj) ?_ (fun H1 locs1 hn' => am_k0_of (H := H) (locs := locs) kk ⟨rfl, rfl⟩ H1 locs1 ls hn')
      · show am_fv ad (am_setI M k b x) k a b = _
        rw [am_setI_fv, hty]; rfl
      · rw [hty]; exact ⟨rfl, rfl⟩
    · cases hs
  · rename_i q k r hdum
    split at hs
    · rename_i hq
      obtain ⟨hq1, rfl⟩ := hq
      obtain rfl : S = _ := (Option.some.inj hs).symm
      have hty : am_rf (am_ty a b) = true := by
        rcases hkd with ⟨h, -⟩ | ⟨-, h⟩
        · cases h
        · exact h
      have z4 := (hn.1.2.2.2.2.1 k a (C, T, N) hq1 hcl).2
      have hok := hn.2.2.2.2.2 _ List.mem_cons_self
      refine am_op_put (cl2 := ((M.1 k).1, (M.1 k).2.1, (M.1 k).2.2.1, (M.1 k).2.2.2.1, va_up (M.1 k).2.2.2.2 b (q + 1))) hc hcls hdg hop hn hq1 rfl rfl (fun j => ?_) ?_ (fun j hj => am_setR_fv2 hj) (am_rf_fit hty (hn.1.2.2.2.2.2.2 q hok)) (fun H1 locs1 hn' => am_k0_of (H := H) (locs := locs) kk ⟨rfl, rfl⟩ H1 locs1 ls hn')
      · show am_okv M (am_rv (va_up (am_R M k) b (q + 1) j))
        by_cases hj : j = b
        · subst hj; simp only [va_up, if_pos]; exact hok
        · simp only [va_up, if_neg hj]; exact z4 j
      · show am_fv ad (am_setR M k b (q + 1)) k a b = _
        rw [am_setR_fv, if_pos hty]; rfl
    · cases hs
  · cases hs
theorem am_s_arraylength (hc : am_ctx K D p l R s m args meth c own ini cc nL d) (hcls : am_cls) {g kd a b : Nat}  {S : am_S} (hdg : decode cc pc = .ok (.arraylength, am_len pc (.arraylength))) (hop : am_op (am_sr K) own ini pc (.arraylength) kd a b) (hs : am_step g (.arraylength) kd a b pc L st M = some S) (hn : am_now K D s nL ad M H locs ls L st)
    (hr1 : cells + (am_cc S.2.2.2 - am_cc M) ≤ R.cells) (hr2 : slots + (am_sl S.2.2.2 - am_sl M) ≤ R.slots) (kk : am_kG K D p l e R s m args below meth c nL ad M cells slots Q S) :
    W p l e R s m args below meth c H locs cells slots Q (F0 m pc ls (st.map (am_cv ad))) := by
  obtain ⟨hx, hb, hml, hown, hts, hK, hE, hb0, hR1, hR2, hd1, hlk, hst9, hini⟩ := id hc
  have hs : (match (generalizing := false) st with
    | .ref k :: r => if am_tg M k = 1 ∨ am_tg M k = 2 ∨ am_tg M k = 3 ∨ am_tg M k = 4 ∨ am_tg M k = 41 ∨ am_tg M k = 42 then some (pc + 1, L, .int (Int32.ofNat (am_ln M k)) :: r, M) else none
    | _ => none) = some S := hs
  split at hs
  · rename_i k r hdum
    split at hs
    · rename_i hq
      obtain rfl : S = _ := (Option.some.inj hs).symm
      have hk := am_k0_of (H := H) (locs := locs) kk ⟨rfl, rfl⟩ H locs ls (hn.tl.pushI (x := Int32.ofNat (am_ln M k)))
      have key : ∀ {ty : FieldType} {f : Nat → Value}, am_arr s H (ad k) (am_b0 K) ty (am_ln M k) f → W p l e R s m args below meth c H locs cells slots Q (F0 m pc ls ((Value.ref k :: r).map (am_cv ad))) := by
        intro ty f hh
        obtain ⟨a9, cell, e1, e2, e3, e4, e5, e6, e7⟩ := hh
        rw [List.map_cons, show am_cv ad (.ref k) = .ref a9 from e1]
        exact W.alen hx hb e3 e4.1 (by rw [e6]) rfl rfl hdg hk
      rcases hq with h | h | h | h | h | h
      · exact key (hn.1.1 k h)
      · exact key (hn.1.2.1 k h)
      · exact key (hn.1.2.2.1 k h)
      · exact key (hn.1.2.2.2.1 k h).1
      · obtain ⟨rfl, g2, g3⟩ := hn.2.1.1 k h
        obtain ⟨-, -, -, -, -, -, -, t8⟩ := hn.2.1
        obtain ⟨scr, s1, s2, s3, s4, s5⟩ := hE.1
        rw [List.map_cons, show am_cv ad (.ref 800000) = .ref (am_sb K) from t8]
        refine W.alen hx hb (by rw [hn.2.2.1.2.1 _ (Array.getElem?_eq_some_iff.mp s1).1 (Nat.not_le.mpr hE.2.1)]; exact s1) s2 (by rw [s4, ← g2]) rfl rfl hdg hk
      · obtain ⟨i, hi, rfl, g2, g3⟩ := hn.2.1.2.1 k h
        obtain ⟨t1, t2, t3, t4⟩ := hn.2.1.2.2.2.1 i hi
        rw [List.map_cons, show am_cv ad (.ref (910000 + i)) = .ref (am_aV K i) from t4]
        exact va_tlen hx hb (hE.2.2.1.1 i hi).2.2.2 hn.2.2.1 (by rw [← g2]) hdg hk
    · cases hs
  · cases hs
theorem am_s_iaload (hc : am_ctx K D p l R s m args meth c own ini cc nL d) (hcls : am_cls) {g kd a b : Nat}  {S : am_S} (hdg : decode cc pc = .ok (.iaload, am_len pc (.iaload))) (hop : am_op (am_sr K) own ini pc (.iaload) kd a b) (hs : am_step g (.iaload) kd a b pc L st M = some S) (hn : am_now K D s nL ad M H locs ls L st)
    (hr1 : cells + (am_cc S.2.2.2 - am_cc M) ≤ R.cells) (hr2 : slots + (am_sl S.2.2.2 - am_sl M) ≤ R.slots) (kk : am_kG K D p l e R s m args below meth c nL ad M cells slots Q S) :
    W p l e R s m args below meth c H locs cells slots Q (F0 m pc ls (st.map (am_cv ad))) := by
  obtain ⟨hx, hb, hml, hown, hts, hK, hE, hb0, hR1, hR2, hd1, hlk, hst9, hini⟩ := id hc
  have hs : (match (generalizing := false) st with | .int j :: .ref k :: r => if (am_tg M k = 1 ∨ am_tg M k = 41) ∧ am_in j (am_ln M k) = true then some (pc + 1, L, .int (am_I M k j.toNatClampNeg) :: r, M) else none | _ => none) = some S := hs
  split at hs
  · rename_i j k r hdum
    split at hs
    · rename_i hq
      obtain ⟨hq1, hq2⟩ := hq
      obtain rfl : S = _ := (Option.some.inj hs).symm
      have hk := am_k0_of (H := H) (locs := locs) kk ⟨rfl, rfl⟩ H locs ls (hn.tl2.pushI (x := am_I M k j.toNatClampNeg))
      rcases hq1 with h | h
      · obtain ⟨a9, cell, e1, e3, e4, e5, e6, e7⟩ := am_r_ald (K := K) (hn.1.1 k h) hq2
        rw [List.map_cons, List.map_cons, show am_cv ad (.ref k) = .ref a9 from e1]
        exact W.iald hx hb e3 e4 e5 e6 e7 rfl rfl hdg hk
      · obtain ⟨rfl, g2, g3⟩ := hn.2.1.1 k h
        obtain ⟨-, -, -, -, -, -, -, t8⟩ := hn.2.1
        rw [List.map_cons, List.map_cons, show am_cv ad (.ref 800000) = .ref (am_sb K) from t8]
        obtain ⟨scr, s1, -⟩ := id hE.1
        refine va_sld hx hb hE.1 (Array.getElem?_eq_some_iff.mp s1).1 (Nat.not_le.mpr hE.2.1) hn.2.2.1 (by rw [← g2]; exact am_in_iff hq2) hdg ?_
        rw [← g3]; exact hk
    · cases hs
  · cases hs
theorem am_s_baload (hc : am_ctx K D p l R s m args meth c own ini cc nL d) (hcls : am_cls) {g kd a b : Nat}  {S : am_S} (hdg : decode cc pc = .ok (.baload, am_len pc (.baload))) (hop : am_op (am_sr K) own ini pc (.baload) kd a b) (hs : am_step g (.baload) kd a b pc L st M = some S) (hn : am_now K D s nL ad M H locs ls L st)
    (hr1 : cells + (am_cc S.2.2.2 - am_cc M) ≤ R.cells) (hr2 : slots + (am_sl S.2.2.2 - am_sl M) ≤ R.slots) (kk : am_kG K D p l e R s m args below meth c nL ad M cells slots Q S) :
    W p l e R s m args below meth c H locs cells slots Q (F0 m pc ls (st.map (am_cv ad))) := by
  obtain ⟨hx, hb, hml, hown, hts, hK, hE, hb0, hR1, hR2, hd1, hlk, hst9, hini⟩ := id hc
  have hs : (match (generalizing := false) st with | .int j :: .ref k :: r => if (am_tg M k = 2 ∨ am_tg M k = 42) ∧ am_in j (am_ln M k) = true then some (pc + 1, L, .int (am_I M k j.toNatClampNeg) :: r, M) else none | _ => none) = some S := hs
  split at hs
  · rename_i j k r hdum
    split at hs
    · rename_i hq
      obtain ⟨hq1, hq2⟩ := hq
      obtain rfl : S = _ := (Option.some.inj hs).symm
      have hk := am_k0_of (H := H) (locs := locs) kk ⟨rfl, rfl⟩ H locs ls (hn.tl2.pushI (x := am_I M k j.toNatClampNeg))
      rcases hq1 with h | h
      · obtain ⟨a9, cell, e1, e3, e4, e5, e6, e7⟩ := am_r_ald (K := K) (hn.1.2.1 k h) hq2
        rw [List.map_cons, List.map_cons, show am_cv ad (.ref k) = .ref a9 from e1]
        exact W.bald hx hb e3 e4 e5 e6 e7 rfl rfl hdg hk
      · obtain ⟨i, hi, rfl, g2, g3⟩ := hn.2.1.2.1 k h
        obtain ⟨t1, t2, t3, t4⟩ := hn.2.1.2.2.2.1 i hi
        rw [List.map_cons, List.map_cons, show am_cv ad (.ref (910000 + i)) = .ref (am_aV K i) from t4]
        refine va_tb hx hb (hE.2.2.1.1 i hi).2.2.2 hn.2.2.1 (by rw [← g2]; exact am_in_iff hq2) rfl hdg ?_
        rw [← g3]; exact hk
    · cases hs
  · cases hs
theorem am_s_laload (hc : am_ctx K D p l R s m args meth c own ini cc nL d) (hcls : am_cls) {g kd a b : Nat}  {S : am_S} (hdg : decode cc pc = .ok (.laload, am_len pc (.laload))) (hop : am_op (am_sr K) own ini pc (.laload) kd a b) (hs : am_step g (.laload) kd a b pc L st M = some S) (hn : am_now K D s nL ad M H locs ls L st)
    (hr1 : cells + (am_cc S.2.2.2 - am_cc M) ≤ R.cells) (hr2 : slots + (am_sl S.2.2.2 - am_sl M) ≤ R.slots) (kk : am_kG K D p l e R s m args below meth c nL ad M cells slots Q S) :
    W p l e R s m args below meth c H locs cells slots Q (F0 m pc ls (st.map (am_cv ad))) := by
  obtain ⟨hx, hb, hml, hown, hts, hK, hE, hb0, hR1, hR2, hd1, hlk, hst9, hini⟩ := id hc
  have hs : (match (generalizing := false) st with | .int j :: .ref k :: r => if am_tg M k = 3 ∧ am_in j (am_ln M k) = true then some (pc + 1, L, .long (am_J M k j.toNatClampNeg) :: r, M) else none | _ => none) = some S := hs
  split at hs
  · rename_i j k r hdum
    split at hs
    · rename_i hq
      obtain ⟨hq1, hq2⟩ := hq
      obtain rfl : S = _ := (Option.some.inj hs).symm
      obtain ⟨a9, cell, e1, e3, e4, e5, e6, e7⟩ := am_r_ald (K := K) (hn.1.2.2.1 k hq1) hq2
      rw [List.map_cons, List.map_cons, show am_cv ad (.ref k) = .ref a9 from e1]
      exact W.lald hx hb e3 e4 e5 e6 e7 rfl rfl hdg (am_k0_of (H := H) (locs := locs) kk ⟨rfl, rfl⟩ H locs ls (hn.tl2.pushL (x := am_J M k j.toNatClampNeg)))
    · cases hs
  · cases hs
theorem am_s_aaload (hc : am_ctx K D p l R s m args meth c own ini cc nL d) (hcls : am_cls) {g kd a b : Nat}  {S : am_S} (hdg : decode cc pc = .ok (.aaload, am_len pc (.aaload))) (hop : am_op (am_sr K) own ini pc (.aaload) kd a b) (hs : am_step g (.aaload) kd a b pc L st M = some S) (hn : am_now K D s nL ad M H locs ls L st)
    (hr1 : cells + (am_cc S.2.2.2 - am_cc M) ≤ R.cells) (hr2 : slots + (am_sl S.2.2.2 - am_sl M) ≤ R.slots) (kk : am_kG K D p l e R s m args below meth c nL ad M cells slots Q S) :
    W p l e R s m args below meth c H locs cells slots Q (F0 m pc ls (st.map (am_cv ad))) := by
  obtain ⟨hx, hb, hml, hown, hts, hK, hE, hb0, hR1, hR2, hd1, hlk, hst9, hini⟩ := id hc
  have hs : (match (generalizing := false) st with | .int j :: .ref k :: r => if am_tg M k = 4 ∧ am_in j (am_ln M k) = true then some (pc + 1, L, am_rv (am_R M k j.toNatClampNeg) :: r, M) else none | _ => none) = some S := hs
  split at hs
  · rename_i j k r hdum
    split at hs
    · rename_i hq
      obtain ⟨hq1, hq2⟩ := hq
      obtain rfl : S = _ := (Option.some.inj hs).symm
      obtain ⟨q1, q2⟩ := hn.1.2.2.2.1 k hq1
      obtain ⟨a9, cell, e1, e3, e4, e5, e6, e7⟩ := am_r_ald (K := K) q1 hq2
      have hk := am_k0_of (H := H) (locs := locs) kk ⟨rfl, rfl⟩ H locs ls (hn.tl2.push (q2 j.toNatClampNeg))
      rw [List.map_cons, List.map_cons, show am_cv ad (.ref k) = .ref a9 from e1]
      exact W.aald hx hb e3 e4 rfl e5 e6 e7 rfl rfl hdg hk
    · cases hs
  · cases hs
theorem am_s_iastore (hc : am_ctx K D p l R s m args meth c own ini cc nL d) (hcls : am_cls) {g kd a b : Nat}  {S : am_S} (hdg : decode cc pc = .ok (.iastore, am_len pc (.iastore))) (hop : am_op (am_sr K) own ini pc (.iastore) kd a b) (hs : am_step g (.iastore) kd a b pc L st M = some S) (hn : am_now K D s nL ad M H locs ls L st)
    (hr1 : cells + (am_cc S.2.2.2 - am_cc M) ≤ R.cells) (hr2 : slots + (am_sl S.2.2.2 - am_sl M) ≤ R.slots) (kk : am_kG K D p l e R s m args below meth c nL ad M cells slots Q S) :
    W p l e R s m args below meth c H locs cells slots Q (F0 m pc ls (st.map (am_cv ad))) := by
  obtain ⟨hx, hb, hml, hown, hts, hK, hE, hb0, hR1, hR2, hd1, hlk, hst9, hini⟩ := id hc
  have hs : (match (generalizing := false) st with | .int x :: .int j :: .ref k :: r => if am_tg M k = 1 ∧ am_in j (am_ln M k) = true then some (pc + 1, L, r, am_setI M k j.toNatClampNeg x) else none | _ => none) = some S := hs
  split at hs
  · rename_i x j k r hdum
    split at hs
    · rename_i hq
      obtain rfl : S = _ := (Option.some.inj hs).symm
      obtain ⟨hq1, hq2⟩ := hq
      obtain ⟨a9, cell, e1, e2, e3, e4, e5, e6, e7⟩ := hn.1.1 k hq1
      have hin := am_in_iff hq2
      rw [List.map_cons, List.map_cons, List.map_cons, show am_cv ad (.ref k) = .ref a9 from e1]
      refine W.iast hx hb e3 e4.1 (by rw [e5]; intro z; cases z) (by rw [e6]; exact hin) rfl rfl hdg fun H1 y1 y2 y3 => ?_
      refine am_k0_of (H := H) (locs := locs) kk ⟨rfl, rfl⟩ H1 _ ls (am_arr_put (c2 := ((M.1 k).1, (M.1 k).2.1, upd (M.1 k).2.2.1 j.toNatClampNeg x, (M.1 k).2.2.2.1, (M.1 k).2.2.2.2)) hn (by omega) e1 rfl rfl y3 y2 (fun z hz => (List.mem_append.mp hz).elim Or.inl (fun h => Or.inr (by rw [List.mem_singleton.mp h]))) (fun _ => by rw [e1]; exact am_arr_set e2 y1 e4 e5 e6 (Nat.not_le.mp fun q => hin (Or.inr q)) e7 (by simp [upd]) (fun i hi => by simp [upd, hi, am_I])) (fun h => by rw [hq1] at h; cases h) (fun h => by rw [hq1] at h; cases h) (fun h => by rw [hq1] at h; cases h) (fun v hv => List.mem_cons_of_mem _ (List.mem_cons_of_mem _ (List.mem_cons_of_mem _ hv))))
    · cases hs
  · cases hs
theorem am_s_bastore (hc : am_ctx K D p l R s m args meth c own ini cc nL d) (hcls : am_cls) {g kd a b : Nat}  {S : am_S} (hdg : decode cc pc = .ok (.bastore, am_len pc (.bastore))) (hop : am_op (am_sr K) own ini pc (.bastore) kd a b) (hs : am_step g (.bastore) kd a b pc L st M = some S) (hn : am_now K D s nL ad M H locs ls L st)
    (hr1 : cells + (am_cc S.2.2.2 - am_cc M) ≤ R.cells) (hr2 : slots + (am_sl S.2.2.2 - am_sl M) ≤ R.slots) (kk : am_kG K D p l e R s m args below meth c nL ad M cells slots Q S) :
    W p l e R s m args below meth c H locs cells slots Q (F0 m pc ls (st.map (am_cv ad))) := by
  obtain ⟨hx, hb, hml, hown, hts, hK, hE, hb0, hR1, hR2, hd1, hlk, hst9, hini⟩ := id hc
  have hs : (match (generalizing := false) st with | .int x :: .int j :: .ref k :: r => if am_tg M k = 2 ∧ am_in j (am_ln M k) = true then some (pc + 1, L, r, am_setI M k j.toNatClampNeg x.toInt8.toInt32) else none | _ => none) = some S := hs
  split at hs
  · rename_i x j k r hdum
    split at hs
    · rename_i hq
      obtain rfl : S = _ := (Option.some.inj hs).symm
      obtain ⟨hq1, hq2⟩ := hq
      obtain ⟨a9, cell, e1, e2, e3, e4, e5, e6, e7⟩ := hn.1.2.1 k hq1
      have hin := am_in_iff hq2
      rw [List.map_cons, List.map_cons, List.map_cons, show am_cv ad (.ref k) = .ref a9 from e1]
      refine W.bast hx hb e3 e4.1 (by rw [e5]; intro z; cases z) (by rw [e6]; exact hin) rfl rfl hdg fun H1 y1 y2 y3 => ?_
      refine am_k0_of (H := H) (locs := locs) kk ⟨rfl, rfl⟩ H1 _ ls (am_arr_put (c2 := ((M.1 k).1, (M.1 k).2.1, upd (M.1 k).2.2.1 j.toNatClampNeg x.toInt8.toInt32, (M.1 k).2.2.2.1, (M.1 k).2.2.2.2)) hn (by omega) e1 rfl rfl y3 y2 (fun z hz => (List.mem_append.mp hz).elim Or.inl (fun h => Or.inr (by rw [List.mem_singleton.mp h]))) (fun h => by rw [hq1] at h; cases h) (fun _ => by rw [e1]; exact am_arr_set e2 y1 e4 e5 e6 (Nat.not_le.mp fun q => hin (Or.inr q)) e7 (by simp [upd, narrow]) (fun i hi => by simp [upd, hi, am_I])) (fun h => by rw [hq1] at h; cases h) (fun h => by rw [hq1] at h; cases h) (fun v hv => List.mem_cons_of_mem _ (List.mem_cons_of_mem _ (List.mem_cons_of_mem _ hv))))
    · cases hs
  · cases hs
theorem am_s_lastore (hc : am_ctx K D p l R s m args meth c own ini cc nL d) (hcls : am_cls) {g kd a b : Nat}  {S : am_S} (hdg : decode cc pc = .ok (.lastore, am_len pc (.lastore))) (hop : am_op (am_sr K) own ini pc (.lastore) kd a b) (hs : am_step g (.lastore) kd a b pc L st M = some S) (hn : am_now K D s nL ad M H locs ls L st)
    (hr1 : cells + (am_cc S.2.2.2 - am_cc M) ≤ R.cells) (hr2 : slots + (am_sl S.2.2.2 - am_sl M) ≤ R.slots) (kk : am_kG K D p l e R s m args below meth c nL ad M cells slots Q S) :
    W p l e R s m args below meth c H locs cells slots Q (F0 m pc ls (st.map (am_cv ad))) := by
  obtain ⟨hx, hb, hml, hown, hts, hK, hE, hb0, hR1, hR2, hd1, hlk, hst9, hini⟩ := id hc
  have hs : (match (generalizing := false) st with | .long x :: .int j :: .ref k :: r => if am_tg M k = 3 ∧ am_in j (am_ln M k) = true then some (pc + 1, L, r, am_setJ M k j.toNatClampNeg x) else none | _ => none) = some S := hs
  split at hs
  · rename_i x j k r hdum
    split at hs
    · rename_i hq
      obtain rfl : S = _ := (Option.some.inj hs).symm
      obtain ⟨hq1, hq2⟩ := hq
      obtain ⟨a9, cell, e1, e2, e3, e4, e5, e6, e7⟩ := hn.1.2.2.1 k hq1
      have hin := am_in_iff hq2
      rw [List.map_cons, List.map_cons, List.map_cons, show am_cv ad (.ref k) = .ref a9 from e1]
      refine W.last hx hb e3 e4.1 (by rw [e5]; intro z; cases z) (by rw [e6]; exact hin) rfl rfl hdg fun H1 y1 y2 y3 => ?_
      refine am_k0_of (H := H) (locs := locs) kk ⟨rfl, rfl⟩ H1 _ ls (am_arr_put (c2 := ((M.1 k).1, (M.1 k).2.1, (M.1 k).2.2.1, vp_updL (M.1 k).2.2.2.1 j.toNatClampNeg x, (M.1 k).2.2.2.2)) hn (by omega) e1 rfl rfl y3 y2 (fun z hz => (List.mem_append.mp hz).elim Or.inl (fun h => Or.inr (by rw [List.mem_singleton.mp h]))) (fun h => by rw [hq1] at h; cases h) (fun h => by rw [hq1] at h; cases h) (fun _ => by rw [e1]; exact am_arr_set e2 y1 e4 e5 e6 (Nat.not_le.mp fun q => hin (Or.inr q)) e7 (by simp [vp_updL]) (fun i hi => by simp [vp_updL, hi, am_J])) (fun h => by rw [hq1] at h; cases h) (fun v hv => List.mem_cons_of_mem _ (List.mem_cons_of_mem _ (List.mem_cons_of_mem _ hv))))
    · cases hs
  · cases hs
theorem am_s_aastore (hc : am_ctx K D p l R s m args meth c own ini cc nL d) (hcls : am_cls) {g kd a b : Nat}  {S : am_S} (hdg : decode cc pc = .ok (.aastore, am_len pc (.aastore))) (hop : am_op (am_sr K) own ini pc (.aastore) kd a b) (hs : am_step g (.aastore) kd a b pc L st M = some S) (hn : am_now K D s nL ad M H locs ls L st)
    (hr1 : cells + (am_cc S.2.2.2 - am_cc M) ≤ R.cells) (hr2 : slots + (am_sl S.2.2.2 - am_sl M) ≤ R.slots) (kk : am_kG K D p l e R s m args below meth c nL ad M cells slots Q S) :
    W p l e R s m args below meth c H locs cells slots Q (F0 m pc ls (st.map (am_cv ad))) := by
  obtain ⟨hx, hb, hml, hown, hts, hK, hE, hb0, hR1, hR2, hd1, hlk, hst9, hini⟩ := id hc
  have hs : (match (generalizing := false) st with | .ref x :: .int j :: .ref k :: r => if am_tg M k = 4 ∧ am_tg M x = 16 ∧ am_in j (am_ln M k) = true then some (pc + 1, L, r, am_setR M k j.toNatClampNeg (x + 1)) else none | _ => none) = some S := hs
  split at hs
  · rename_i x j k r hdum
    split at hs
    · rename_i hq
      obtain rfl : S = _ := (Option.some.inj hs).symm
      obtain ⟨hq1, hqx, hq2⟩ := hq
      obtain ⟨⟨a9, cell, e1, e2, e3, e4, e5, e6, e7⟩, q2⟩ := hn.1.2.2.2.1 k hq1
      have hin := am_in_iff hq2
      have hcl : vwCl[6]? = some (RX6, TX6, 2) := rfl
      obtain ⟨⟨v9, z1, z2, cellV, g1, g2, g3, -⟩, -⟩ := hn.1.2.2.2.2.1 x 6 (RX6, TX6, 2) (by rw [hqx]) hcl
      have hcls6 := (hK.1 6 _ hcl).2
      obtain ⟨kC, hkC, -⟩ := hcls6.2
      obtain ⟨kA, comp, k1, k2, k3⟩ := e4.2 _ rfl
      have hcomp : comp = D.1 6 := Option.some.inj (k3.symm.trans hcls6.1)
      subst hcomp
      have ho4 := e4.1.1
      rw [List.map_cons, List.map_cons, List.map_cons, show am_cv ad (.ref k) = .ref a9 from e1, show am_cv ad (.ref x) = .ref v9 from z1]
      refine W.aast hx hb e3 ho4 (by rw [e5]; intro z; cases z) k1 k2 rfl hkC ⟨fun q => hin (Or.inl q), by rw [e6]; exact Nat.not_le.mp fun q => hin (Or.inr q)⟩ g1 (fun q h => by rw [g3] at h; cases h) (by rw [g2]; exact hkC) (by rw [g2]; exact va_assign hcls6) rfl rfl hdg fun H1 y1 y2 y3 => ?_
      refine am_k0_of (H := H) (locs := locs) kk ⟨rfl, rfl⟩ H1 _ ls (am_arr_put (c2 := ((M.1 k).1, (M.1 k).2.1, (M.1 k).2.2.1, (M.1 k).2.2.2.1, va_up (M.1 k).2.2.2.2 j.toNatClampNeg (x + 1))) hn (by omega) e1 rfl rfl y3 y2 (fun z hz => (List.mem_append.mp hz).elim Or.inl (fun h => Or.inr (by rw [List.mem_singleton.mp h]))) (fun h => by rw [hq1] at h; cases h) (fun h => by rw [hq1] at h; cases h) (fun h => by rw [hq1] at h; cases h) (fun _ => ⟨by rw [e1]; exact am_arr_set e2 y1 e4 e5 e6 (Nat.not_le.mp fun q => hin (Or.inr q)) e7 (by simp only [va_up, if_pos]; exact z1) (fun i hi => by simp [va_up, hi, am_R]), fun i => ?_⟩) (fun v hv => List.mem_cons_of_mem _ (List.mem_cons_of_mem _ (List.mem_cons_of_mem _ hv))))
      by_cases hi : i = j.toNatClampNeg
      · subst hi
        simp only [va_up, if_pos]
        show ¬ am_tg M x = 0
        rw [hqx]; decide
      · simp only [va_up, if_neg hi]
        exact q2 i
    · cases hs
  · cases hs
theorem am_s_new (hc : am_ctx K D p l R s m args meth c own ini cc nL d) (hcls : am_cls) {g kd a b : Nat} {idx : Nat} {S : am_S} (hdg : decode cc pc = .ok (.new idx, am_len pc (.new idx))) (hop : am_op (am_sr K) own ini pc (.new idx) kd a b) (hs : am_step g (.new idx) kd a b pc L st M = some S) (hn : am_now K D s nL ad M H locs ls L st)
    (hr1 : cells + (am_cc S.2.2.2 - am_cc M) ≤ R.cells) (hr2 : slots + (am_sl S.2.2.2 - am_sl M) ≤ R.slots) (kk : am_kG K D p l e R s m args below meth c nL ad M cells slots Q S) :
    W p l e R s m args below meth c H locs cells slots Q (F0 m pc ls (st.map (am_cv ad))) := by
  obtain ⟨hx, hb, hml, hown, hts, hK, hE, hb0, hR1, hR2, hd1, hlk, hst9, hini⟩ := id hc
  have hs : (if am_tg M (am_key M g) = 0 then some (pc + 3, L, .ref (am_key M g) :: st, am_new M g (10 + a) 0 b) else none) = some S := hs
  split at hs
  · rename_i hq
    obtain rfl : S = _ := (Option.some.inj hs).symm
    have hd1 : am_cc (am_new M g (10 + a) 0 b) - am_cc M = 1 := by show am_cc M + 1 - am_cc M = 1; omega
    have hd2 : am_sl (am_new M g (10 + a) 0 b) - am_sl M = b := by show am_sl M + b - am_sl M = b; omega
    dsimp only at hr1 hr2
    rw [hd1] at hr1; rw [hd2] at hr2
    refine am_op_new hc hcls hdg hop hn hq hr1 hr2 (fun H1 ad' h1 h2 => ?_)
    have h9 := kk ad' H1 locs ls h1 h2
    dsimp only at h9
    rw [hd1, hd2] at h9
    exact h9
  · cases hs
theorem am_s_newarray (hc : am_ctx K D p l R s m args meth c own ini cc nL d) (hcls : am_cls) {g kd a b : Nat} {t : ArrayType} {S : am_S} (hdg : decode cc pc = .ok (.newarray t, am_len pc (.newarray t))) (hop : am_op (am_sr K) own ini pc (.newarray t) kd a b) (hs : am_step g (.newarray t) kd a b pc L st M = some S) (hn : am_now K D s nL ad M H locs ls L st)
    (hr1 : cells + (am_cc S.2.2.2 - am_cc M) ≤ R.cells) (hr2 : slots + (am_sl S.2.2.2 - am_sl M) ≤ R.slots) (kk : am_kG K D p l e R s m args below meth c nL ad M cells slots Q S) :
    W p l e R s m args below meth c H locs cells slots Q (F0 m pc ls (st.map (am_cv ad))) := by
  obtain ⟨hx, hb, hml, hown, hts, hK, hE, hb0, hR1, hR2, hd1, hlk, hst9, hini⟩ := id hc
  have hs : (match (generalizing := false) st with
    | .int n :: r => if am_tg M (am_key M g) = 0 ∧ ¬ n < 0 ∧ n.toNatClampNeg ≤ 1000000 then
        (match (generalizing := false) t with
         | .int => some (pc + 2, L, .ref (am_key M g) :: r, am_new M g 1 n.toNatClampNeg n.toNatClampNeg)
         | .byte => some (pc + 2, L, .ref (am_key M g) :: r, am_new M g 2 n.toNatClampNeg n.toNatClampNeg)
         | .long => some (pc + 2, L, .ref (am_key M g) :: r, am_new M g 3 n.toNatClampNeg n.toNatClampNeg)
         | _ => none) else none
    | _ => none) = some S := hs
  split at hs
  · rename_i n r hdum
    split at hs
    · rename_i hq
      obtain ⟨hq1, hq2, hq3⟩ := hq
      cases t with
      | byte =>
        obtain rfl : S = _ := (Option.some.inj hs).symm
        have hd1 : am_cc (am_new M g 2 n.toNatClampNeg n.toNatClampNeg) - am_cc M = 1 := by show am_cc M + 1 - am_cc M = 1; omega
        have hd2 : am_sl (am_new M g 2 n.toNatClampNeg n.toNatClampNeg) - am_sl M = n.toNatClampNeg := by show am_sl M + n.toNatClampNeg - am_sl M = n.toNatClampNeg; omega
        dsimp only at hr1 hr2
        rw [hd1] at hr1; rw [hd2] at hr2
        refine am_op_newa (t := .byte) (tt := 2) hc hop hdg hn hq1 hq2 rfl hq3 (by simp) hr1 hr2 (fun H1 ad' h1 h2 => ?_)
        have h9 := kk ad' H1 locs ls h1 h2
        dsimp only at h9
        rw [hd1, hd2] at h9
        exact h9
      | int =>
        obtain rfl : S = _ := (Option.some.inj hs).symm
        have hd1 : am_cc (am_new M g 1 n.toNatClampNeg n.toNatClampNeg) - am_cc M = 1 := by show am_cc M + 1 - am_cc M = 1; omega
        have hd2 : am_sl (am_new M g 1 n.toNatClampNeg n.toNatClampNeg) - am_sl M = n.toNatClampNeg := by show am_sl M + n.toNatClampNeg - am_sl M = n.toNatClampNeg; omega
        dsimp only at hr1 hr2
        rw [hd1] at hr1; rw [hd2] at hr2
        refine am_op_newa (t := .int) (tt := 1) hc hop hdg hn hq1 hq2 rfl hq3 (by simp) hr1 hr2 (fun H1 ad' h1 h2 => ?_)
        have h9 := kk ad' H1 locs ls h1 h2
        dsimp only at h9
        rw [hd1, hd2] at h9
        exact h9
      | long =>
        obtain rfl : S = _ := (Option.some.inj hs).symm
        have hd1 : am_cc (am_new M g 3 n.toNatClampNeg n.toNatClampNeg) - am_cc M = 1 := by show am_cc M + 1 - am_cc M = 1; omega
        have hd2 : am_sl (am_new M g 3 n.toNatClampNeg n.toNatClampNeg) - am_sl M = n.toNatClampNeg := by show am_sl M + n.toNatClampNeg - am_sl M = n.toNatClampNeg; omega
        dsimp only at hr1 hr2
        rw [hd1] at hr1; rw [hd2] at hr2
        refine am_op_newa (t := .long) (tt := 3) hc hop hdg hn hq1 hq2 rfl hq3 (by simp) hr1 hr2 (fun H1 ad' h1 h2 => ?_)
        have h9 := kk ad' H1 locs ls h1 h2
        dsimp only at h9
        rw [hd1, hd2] at h9
        exact h9
      | _ => cases hs
    · cases hs
  · cases hs
theorem am_s_anewarray (hc : am_ctx K D p l R s m args meth c own ini cc nL d) (hcls : am_cls) {g kd a b : Nat} {idx : Nat} {S : am_S} (hdg : decode cc pc = .ok (.anewarray idx, am_len pc (.anewarray idx))) (hop : am_op (am_sr K) own ini pc (.anewarray idx) kd a b) (hs : am_step g (.anewarray idx) kd a b pc L st M = some S) (hn : am_now K D s nL ad M H locs ls L st)
    (hr1 : cells + (am_cc S.2.2.2 - am_cc M) ≤ R.cells) (hr2 : slots + (am_sl S.2.2.2 - am_sl M) ≤ R.slots) (kk : am_kG K D p l e R s m args below meth c nL ad M cells slots Q S) :
    W p l e R s m args below meth c H locs cells slots Q (F0 m pc ls (st.map (am_cv ad))) := by
  obtain ⟨hx, hb, hml, hown, hts, hK, hE, hb0, hR1, hR2, hd1, hlk, hst9, hini⟩ := id hc
  have hs : (match (generalizing := false) st with
    | .int n :: r => if am_tg M (am_key M g) = 0 ∧ ¬ n < 0 ∧ n.toNatClampNeg ≤ 1000000 then some (pc + 3, L, .ref (am_key M g) :: r, am_new M g 4 n.toNatClampNeg n.toNatClampNeg) else none
    | _ => none) = some S := hs
  split at hs
  · rename_i n r hdum
    split at hs
    · rename_i hq
      obtain ⟨hq1, hq2, hq3⟩ := hq
      obtain rfl : S = _ := (Option.some.inj hs).symm
      have hd1 : am_cc (am_new M g 4 n.toNatClampNeg n.toNatClampNeg) - am_cc M = 1 := by show am_cc M + 1 - am_cc M = 1; omega
      have hd2 : am_sl (am_new M g 4 n.toNatClampNeg n.toNatClampNeg) - am_sl M = n.toNatClampNeg := by show am_sl M + n.toNatClampNeg - am_sl M = n.toNatClampNeg; omega
      dsimp only at hr1 hr2
      rw [hd1] at hr1; rw [hd2] at hr2
      refine am_op_newq hc hop hdg hn hq1 hq2 rfl hq3 hr1 hr2 (fun H1 ad' h1 h2 => ?_)
      have h9 := kk ad' H1 locs ls h1 h2
      dsimp only at h9
      rw [hd1, hd2] at h9
      exact h9
    · cases hs
  · cases hs
theorem am_s_invokespecial (hc : am_ctx K D p l R s m args meth c own ini cc nL d) (hcls : am_cls) {g kd a b : Nat} {idx : Nat} {S : am_S} (hdg : decode cc pc = .ok (.invokespecial idx, am_len pc (.invokespecial idx))) (hop : am_op (am_sr K) own ini pc (.invokespecial idx) kd a b) (hs : am_step g (.invokespecial idx) kd a b pc L st M = some S) (hn : am_now K D s nL ad M H locs ls L st)
    (hr1 : cells + (am_cc S.2.2.2 - am_cc M) ≤ R.cells) (hr2 : slots + (am_sl S.2.2.2 - am_sl M) ≤ R.slots) (kk : am_kG K D p l e R s m args below meth c nL ad M cells slots Q S) :
    W p l e R s m args below meth c H locs cells slots Q (F0 m pc ls (st.map (am_cv ad))) := by
  obtain ⟨hx, hb, hml, hown, hts, hK, hE, hb0, hR1, hR2, hd1, hlk, hst9, hini⟩ := id hc
  have hs : (if kd = 5 then (match (generalizing := false) st with | .ref k :: r => if am_ownb (am_tg M k) = true ∧ am_cat r ≤ 8 then some (pc + 3, L, r, M) else none | _ => none) else none) = some S := hs
  split at hs
  · split at hs
    · rename_i k r hdum
      split at hs
      · rename_i hq
        obtain ⟨hq1, hq2⟩ := hq
        obtain rfl : S = _ := (Option.some.inj hs).symm
        obtain ⟨a9, y1, -⟩ := am_own_ref hn.1 (am_ownb_iff hq1)
        rw [List.map_cons, show am_cv ad (.ref k) = .ref a9 from y1]
        have hcat := am_cat_cv hn.1.2.2.2.2.2.2 (l := r) (fun v hv => hn.2.2.2.2.2 v (List.mem_cons_of_mem _ hv))
        have hsz : ls.size = c.maxLocals := by rw [hml]; exact hn.2.2.2.1.1.1
        refine W.objInit hx hb hown (hts _ hop.1) (hts _ hop.2.1) (hts _ hop.2.2) rfl hsz rfl hdg (by omega) (by show 2 * 0 + _ + 12 ≤ _; rw [hcat]; omega) ?_
        exact am_k0_of (H := H) (locs := locs) kk ⟨rfl, rfl⟩ H locs ls hn.tl
      · cases hs
    · cases hs
  · cases hs
theorem am_copied {s : State} {ck cq : Cell} {nk nq sp dp n b0 aq : Nat} {f g : Nat → Int32} {H1 : Heap} (hk : ∀ j, j < nk → ck.slots[j]? = some (.int (f j))) (h4 : sp + n ≤ nk) (h5 : dp + n ≤ nq) (hb : b0 ≤ aq) (e : H1[aq]? = some (cq.storeRun dp (ck.stretch sp n))) (f4 : am_isA s cq .int) (f5 : cq.vm = .none) (f6 : cq.slots.size = nq) (f7 : ∀ j, j < nq → cq.slots[j]? = some (.int (g j))) :
    am_arr s H1 (.ref aq) b0 .int nq (fun j => .int (va_cpy f g sp dp n j)) := by
  obtain ⟨q1, q2, q3, -, -⟩ := Cell.storeRun_facts cq dp (ck.stretch sp n)
  refine ⟨aq, _, rfl, hb, e, ?_, q2.trans f5, q3.trans f6, fun j hj => ?_⟩
  · obtain ⟨⟨o1, o2⟩, o3⟩ := f4
    exact ⟨⟨fun k => by rw [q2]; exact o1 k, by rw [q1]; exact o2⟩, fun C hC => by rw [q1]; exact o3 C hC⟩
  · rw [Cell.storeRun_get _ _ _ _ (by rw [Cell.stretch_length, f6]; exact h5), Cell.stretch_length]
    by_cases h : dp ≤ j ∧ j < dp + n
    · rw [if_pos h]
      have hc : va_cpy f g sp dp n j = f (sp + (j - dp)) := by simp [va_cpy, h]
      dsimp only
      rw [hc]
      simp only [Cell.stretch, List.getElem?_map, List.getElem?_range (show j - dp < n by omega), Option.map_some]
      rw [Array.getD_eq_getD_getElem?, hk _ (by omega)]
      rfl
    · rw [if_neg h, f7 j hj]
      have hc : va_cpy f g sp dp n j = g j := by simp only [va_cpy]; rw [if_neg h]
      dsimp only
      rw [hc]
theorem am_s_invokestatic (hc : am_ctx K D p l R s m args meth c own ini cc nL d) (hcls : am_cls) {g kd a b : Nat} {idx : Nat} {S : am_S} (hdg : decode cc pc = .ok (.invokestatic idx, am_len pc (.invokestatic idx))) (hop : am_op (am_sr K) own ini pc (.invokestatic idx) kd a b) (hs : am_step g (.invokestatic idx) kd a b pc L st M = some S) (hn : am_now K D s nL ad M H locs ls L st)
    (hr1 : cells + (am_cc S.2.2.2 - am_cc M) ≤ R.cells) (hr2 : slots + (am_sl S.2.2.2 - am_sl M) ≤ R.slots) (kk : am_kG K D p l e R s m args below meth c nL ad M cells slots Q S) :
    W p l e R s m args below meth c H locs cells slots Q (F0 m pc ls (st.map (am_cv ad))) := by
  obtain ⟨hx, hb, hml, hown, hts, hK, hE, hb0, hR1, hR2, hd1, hlk, hst9, hini⟩ := id hc
  have hs : (if kd = 6 then
      (match (generalizing := false) st with
       | .int n :: .int dp :: .ref q :: .int sp :: .ref k :: r =>
         if am_tg M k = 1 ∧ am_tg M q = 1 ∧ ¬ k = q ∧ ¬ sp < 0 ∧ ¬ dp < 0 ∧ ¬ n < 0 ∧ sp.toNatClampNeg + n.toNatClampNeg ≤ am_ln M k ∧ dp.toNatClampNeg + n.toNatClampNeg ≤ am_ln M q ∧ am_cat r ≤ 8 then
           some (pc + 3, L, r, am_cell M q ((M.1 q).1, (M.1 q).2.1, va_cpy (am_I M k) (am_I M q) sp.toNatClampNeg dp.toNatClampNeg n.toNatClampNeg, (M.1 q).2.2.2.1, (M.1 q).2.2.2.2)) else none
       | _ => none) else am_math kd L (pc + 3) st M) = some S := hs
  have nn : ∀ z : Int32, ¬ z < 0 → z.toInt = (z.toNatClampNeg : Int) := by
    intro z hz
    have hz0 : (0 : Int) ≤ z.toInt := by
      have := Int32.not_lt.mp hz
      simpa using Int32.le_iff_toInt_le.mp this
    show z.toInt = ((z.toInt.toNat : Nat) : Int)
    omega
  split at hs
  · rename_i hk6
    rw [hk6] at hop
    have hop := hop.resolve_right (fun z => by rcases z with z | z | z | z <;> exact absurd z.1 (by decide))
    replace hop := hop.2
    split at hs
    · rename_i n dp q sp k r hdum
      split at hs
      · rename_i hq
        obtain ⟨hk1, hq1, hkq, h1, h2, h3, h4, h5, h6⟩ := hq
        obtain rfl : S = _ := (Option.some.inj hs).symm
        obtain ⟨ak, ck, e1, e2, e3, e4, e5, e6, e7⟩ := hn.1.1 k hk1
        obtain ⟨aq, cq, f1, f2, f3, f4, f5, f6, f7⟩ := hn.1.1 q hq1
        obtain ⟨ho0, k0, hk0, cm0, hkk0⟩ := id e4.1
        obtain ⟨ho1, k1, hk19, cm1, hkk1⟩ := id f4.1
        have hcat := am_cat_cv hn.1.2.2.2.2.2.2 (l := r) (fun v hv => hn.2.2.2.2.2 v (by simp [hv]))
        have hsz : ls.size = c.maxLocals := by rw [hml]; exact hn.2.2.2.1.1.1
        simp only [List.map_cons]
        rw [show am_cv ad (.ref k) = .ref ak from e1, show am_cv ad (.ref q) = .ref aq from f1]
        intro T hT X
        obtain ⟨vm', X', step⟩ := X.arraycopy hx hown (hts _ hop.1) (hts _ hop.2.1) (hts _ hop.2.2.1) (hts _ hop.2.2.2) (src := ak) (dst := aq) (cs := ck) (cd := cq) (srcPos := sp) (destPos := dp) (n := n) (by rw [hT]; exact e3) (by rw [hT]; exact f3)
          ho0 ho1 (by rw [e5]; intro z; cases z) (by rw [f5]; intro z; cases z) hk0 hk19 hkk0 hkk1 (by simp [refKind]) h1 h2 h3
          (by rw [nn sp h1, nn n h3, e6]; omega) (by rw [nn dp h2, nn n h3, f6]; omega)
          (fun vm₁ _ i hi => by
            have e : ck.slots.getD (sp.toNatClampNeg + i) .null = .int (am_I M k (sp.toNatClampNeg + i)) := by
              rw [Array.getD_eq_getD_getElem?, e7 _ (by omega)]
              rfl
            rw [e]
            exact ⟨rfl, trivial⟩)
          (g := F0 m pc ls (.int n :: .int dp :: .ref aq :: .int sp :: .ref ak :: r.map (am_cv ad))) rfl hsz (rest := r.map (am_cv ad)) rfl (by rw [hb]; exact hdg) (by omega) (by show 2 * 0 + _ + (5 + 2 + 11) ≤ _; rw [hcat]; omega)
        have hl : aq < H.size := (Array.getElem?_eq_some_iff.mp f3).1
        generalize hNC : copied ck cq sp dp n = nc at X' step
        generalize hLO : (List.map (fun q => (⟨aq, dp.toNatClampNeg + q.2⟩ : Loc)) (ck.stretch sp.toNatClampNeg n.toNatClampNeg).zipIdx) = lo at X'
        have hlo : ∀ z ∈ lo, z.base = aq := by
          intro z hz
          rw [← hLO] at hz
          obtain ⟨w, -, hw⟩ := List.mem_map.mp hz
          rw [← hw]
        have hheap : ((T.setVm vm').setCell aq nc).heap = H.setIfInBounds aq nc := by rw [← hT]; rfl
        have oq : ∀ x : Nat, x ≠ aq → (H.setIfInBounds aq nc)[x]? = H[x]? := fun x hx => by simp [Array.getElem?_setIfInBounds, Ne.symm hx]
        have hself : (H.setIfInBounds aq nc)[aq]? = some nc := by simp [Array.getElem?_setIfInBounds, hl]
        have hk := am_k0_of (H := H) (locs := locs) kk ⟨rfl, rfl⟩ (H.setIfInBounds aq nc) (locs ++ lo) ls (am_arr_put (c2 := ((M.1 q).1, (M.1 q).2.1, va_cpy (am_I M k) (am_I M q) sp.toNatClampNeg dp.toNatClampNeg n.toNatClampNeg, (M.1 q).2.2.2.1, (M.1 q).2.2.2.2)) hn (by omega) f1 rfl rfl oq (by simp)
          (fun z hz => (List.mem_append.mp hz).elim Or.inl (fun h => Or.inr (hlo z h)))
          (fun _ => by rw [f1]; exact am_copied e7 h4 h5 f2 (by rw [hself, ← hNC]) f4 f5 f6 f7) (fun h => by omega) (fun h => by omega) (fun h => by omega) (st' := r) (fun v hv => by simp [hv]))
        obtain ⟨t, a1, b1⟩ := hk _ hheap X'
        exact ⟨t, step t a1, b1⟩
      · cases hs
    · cases hs
  · rename_i hk6
    have hsz : c.maxLocals = ls.size := by rw [hml]; exact hn.2.2.2.1.1.1.symm
    have hc0 : cells ≤ R.cells := by omega
    have hs0 : slots ≤ R.slots := by omega
    unfold am_math at hs
    split at hs
    · split at hs
      · rename_i y x r hdum hcr
        obtain rfl : S = _ := (Option.some.inj hs).symm
        have hcat := am_cat_cv hn.1.2.2.2.2.2.2 (l := r) (fun v hv => hn.2.2.2.2.2 v (by simp [hv]))
        rcases hop with z | ⟨-, w1, w2, w3, w4⟩ | z | z | z
        · exact absurd z.1 (by decide)
        · exact va_mmax hx hb hsz hown (hts _ w1) (hts _ w2) (hts _ w3) (hts _ w4) hR1 (by rw [hcat]; omega) hc0 hs0 hdg (am_k0_of (H := H) (locs := locs) kk ⟨rfl, rfl⟩ H locs ls hn.tl2.pushI)
        · exact absurd z.1 (by decide)
        · exact absurd z.1 (by decide)
        · exact absurd z.1 (by decide)
      · cases hs
    · split at hs
      · rename_i y x r hdum hcr
        obtain rfl : S = _ := (Option.some.inj hs).symm
        have hcat := am_cat_cv hn.1.2.2.2.2.2.2 (l := r) (fun v hv => hn.2.2.2.2.2 v (by simp [hv]))
        rcases hop with z | z | ⟨-, w1, w2, w3, w4⟩ | z | z
        · exact absurd z.1 (by decide)
        · exact absurd z.1 (by decide)
        · exact va_mmin hx hb hsz hown (hts _ w1) (hts _ w2) (hts _ w3) (hts _ w4) hR1 (by rw [hcat]; omega) hc0 hs0 hdg (am_k0_of (H := H) (locs := locs) kk ⟨rfl, rfl⟩ H locs ls hn.tl2.pushI)
        · exact absurd z.1 (by decide)
        · exact absurd z.1 (by decide)
      · cases hs
    · split at hs
      · rename_i y x r hdum hcr
        obtain rfl : S = _ := (Option.some.inj hs).symm
        have hcat := am_cat_cv hn.1.2.2.2.2.2.2 (l := r) (fun v hv => hn.2.2.2.2.2 v (by simp [hv]))
        rcases hop with z | z | z | ⟨-, w1, w2, w3, w4⟩ | z
        · exact absurd z.1 (by decide)
        · exact absurd z.1 (by decide)
        · exact absurd z.1 (by decide)
        · exact va_mmax_long hx hb hsz hown (hts _ w1) (hts _ w2) (hts _ w3) (hts _ w4) hR1 (by rw [hcat]; omega) hc0 hs0 hdg (am_k0_of (H := H) (locs := locs) kk ⟨rfl, rfl⟩ H locs ls hn.tl2.pushL)
        · exact absurd z.1 (by decide)
      · cases hs
    · split at hs
      · rename_i y x r hdum hcr
        obtain rfl : S = _ := (Option.some.inj hs).symm
        have hcat := am_cat_cv hn.1.2.2.2.2.2.2 (l := r) (fun v hv => hn.2.2.2.2.2 v (by simp [hv]))
        rcases hop with z | z | z | z | ⟨-, w1, w2, w3, w4⟩
        · exact absurd z.1 (by decide)
        · exact absurd z.1 (by decide)
        · exact absurd z.1 (by decide)
        · exact absurd z.1 (by decide)
        · exact va_mmin_long hx hb hsz hown (hts _ w1) (hts _ w2) (hts _ w3) (hts _ w4) hR1 (by rw [hcat]; omega) hc0 hs0 hdg (am_k0_of (H := H) (locs := locs) kk ⟨rfl, rfl⟩ H locs ls hn.tl2.pushL)
      · cases hs
    · cases hs
end AH
