/-! from a run of the abstract machine, whose own cells are of the law's sort, to the law's own walk -/
set_option maxHeartbeats 4000000 in
/-- from a run of the abstract machine to the law's own -/
theorem am_startB {p : Program} {e : Env} {s : State} {m : MethodId} {below : List Frame} {meth : Method} {c : Code} (l : Launch) (hflags : l.flags = flags0) {b L : Nat} {xs : Nat → Int32} (C0 : lw_At p s m meth c b L xs) (htab : c.exceptionTable.toList = []) (hname : meth.name ≠ "<init>")
    {n : Nat} {M' : am_M} (hrun : am_run am_Pg n 13 5 am_nV 0 (am_ent 7 [.ref 800000]) [] (am_M0 L xs) = some (.inl (some (.int 1)), M')) (hcc : am_cc M' ≤ 601024) (hsl : am_sl M' ≤ 7293034) :
    W p l e room_1 s m #[Value.ref b] below meth c s.heap [] 0 0 (lw_Z below #[Value.ref b] s) (entryFrame m ([Value.ref b] : List Value).toArray 7) := by
  obtain ⟨hx, hb, hr, hml, hown, hts, hX, hbl, hlocks, hgv⟩ := id C0
  have hn : ∀ w ∈ am_n1, w.before #[Value.ref b] s = true := flat_of_before _ hgv
  obtain ⟨adK, adV, fm, hfm, hE⟩ := am_E_start hX hbl hts hn
  have hW : ∀ w ∈ am_W, w.before #[Value.ref b] s = true := fun w hw => hts w (List.mem_filter.mp hw).1
  obtain ⟨dC, dI, hKc⟩ : ∃ (dC : Nat → ClassId) (dI : Nat → Nat → Nat), ∀ (k : Nat) (q : vw_C), vwCl[k]? = some q → u_Kn s q.1 q.2.1 q.2.2 (dC k) (dI k) := by
    have h0 : ∀ k : Nat, ∃ d : ClassId × (Nat → Nat), ∀ q : vw_C, vwCl[k]? = some q → u_Kn s q.1 q.2.1 q.2.2 d.1 d.2 := by
      intro k
      cases hq : vwCl[k]? with
      | none => exact ⟨(0, fun _ => 0), fun q h => by cases h⟩
      | some q =>
        obtain ⟨C, T, N⟩ := q
        have hc := am_cls_at hq
        obtain ⟨cC, iS, h⟩ := u_known (C := C) (T := T) (N := N) (n := N) hW hc.1 (hW _ hc.2.1)
        exact ⟨(cC, iS), fun q' h' => by cases h'; exact h⟩
    obtain ⟨d, hd⟩ := Classical.axiomOfChoice h0
    exact ⟨fun k => (d k).1, fun k => (d k).2, fun k q h => hd k q h⟩
  have hK : va_K (dC, dI) vwCl [] s := ⟨hKc, fun k q h => by simp at h⟩
  have hst := am_notrace hflags
  have hw := am_walk (K := (s.heap.size, b, L, xs, adK, adV, fm, am_SRL, 20, am_tlen, am_tbyt, am_NS, am_NC)) (D := (dC, dI)) (l := l) (V2 := fun _ => True) am_good_ok (fun y _ => am_rows_ok y) (fun _ _ => trivial) hst am_cls_ok n
  have hmap : ([Value.ref b] : List Value) = ([Value.ref 800000] : List Value).map (am_cv (am_ad0 b fm adK adV)) := rfl
  have hrep := am_rep_start (D := (dC, dI)) (s := s) (b := b) (L := L) (xs := xs) (adK := adK) (adV := adV) (b0 := s.heap.size) (H := s.heap) hfm
  have hxt := am_xt_start (b := b) (L := L) (b0 := s.heap.size) (xs := xs) (fm := fm) (adK := adK) (adV := adV) (sr := am_SRL) (ns := am_NS) (nc := am_NC)
  have hok : ∀ v ∈ ([Value.ref 800000] : List Value), am_okv (am_M0 L xs) v ∧ ∀ x, v ≠ .double x := by
    intro v hv
    rw [List.mem_singleton.mp hv]
    refine ⟨?_, fun x h => by cases h⟩
    show ¬ am_tg (am_M0 L xs) 800000 = 0
    rw [am_M0_tg]
    decide
  have hlen : (([Value.ref 800000] : List Value).flatMap am_w2).length ≤ 7 := by decide
  have hctx : am_ctx (s.heap.size, b, L, xs, adK, adV, fm, am_SRL, 20, am_tlen, am_tbyt, am_NS, am_NC) (dC, dI) p l room_1 s m #[Value.ref b] meth c (am_Yg am_nV).1.cls (decide ((am_Yg am_nV).1.name = "<init>")) (am_Yg am_nV).2.1 (am_Pg am_nV).2.2.1 13 :=
    ⟨hx, hb, hml, hown, hW, hK, hE, Nat.le_refl _, by decide, by decide, by decide, hlocks, hst, fun h => absurd h (by decide)⟩
  rw [hmap, lg_entry_eq]
  have hrel := am_ent_rel hrep.2.2.2.2.2.2 hok hlen
  have hfin := hw 13 5 am_nV 0 (am_ent 7 [.ref 800000]) [] (am_M0 L xs) _ M' hrun trivial (p := p) (e := e) (R := room_1) (s := s) (m := m) (args := #[Value.ref b]) (below := below) (meth := meth) (c := c) (ad := am_ad0 b fm adK adV) (M0 := am_M0 L xs) (ad0 := am_ad0 b fm adK adV) (H := s.heap) (locs := []) (cells := 0) (slots := 0) (mc := am_cc M') (ms := am_sl M') hctx htab hr ⟨hrep, hxt, va_S.rf, hrel, am_ent_ok (fun v hv => (hok v hv).1), fun v hv => by cases hv⟩ (fun _ _ => rfl) (am_le.rf _) (by show 0 + (am_cc M' - 0) = am_cc M'; omega) (by show 0 + (am_sl M' - 0) = am_sl M'; omega) hcc hsl
  intro T hT X
  obtain ⟨t, st, o, h1, h2, h3⟩ := hfin T hT X
  refine ⟨t, st, o, h1, h2, ?_⟩
  rcases h3 with ⟨⟨v, ad', ho, -, hoc, -, -, -, -⟩, LL, ⟨-, hWm, hsame⟩, hfree⟩ | ⟨q, -, E, ce, LL, ⟨a, ad', ho, -⟩, -⟩
  · cases ho
    refine ⟨hoc, ⟨_, hoc⟩, hWm, ?_⟩
    obtain ⟨g1, g2, g3, g4, g5, g6⟩ := hsame
    refine ⟨g1, g2, Nat.le_trans g3 (Nat.add_le_add_left hcc _), g4, Nat.le_trans g5 hsl, fun a c0 hc0 => ?_⟩
    obtain ⟨c', q1, q2, q3, q4⟩ := g6 a c0 hc0
    refine ⟨c', q1, q2, q3, fun i _ => q4 i fun hin => ?_⟩
    have hlt : a < s.heap.size := (Array.getElem?_eq_some_iff.mp hc0).1
    exact absurd (hfree _ hin) (Nat.not_le.mpr hlt)
  · cases ho
