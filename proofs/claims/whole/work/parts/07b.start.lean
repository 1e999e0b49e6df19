/-! THE CLAIM OUT OF ONE RUN OF THE ABSTRACT MACHINE -/
def am_clsb (ci : Nat) : Bool := match vwCl[ci]? with
  | some (C, T, N) => (u_ws C T N).all (fun w => am_mem w && goodWord w) && am_mem (.instantiable C N) && goodWord (.instantiable C N) && (List.range N).all (fun k => decide (parseFieldDescriptor (T k).2.2.1 = some (am_ty ci k)) && (am_rf (am_ty ci k) || decide (am_ty ci k = .int))) && (List.range N).all (fun a => (List.range N).all fun b => decide (a = b) || decide ((T a).2.1 ≠ (T b).2.1))
  | none => true
theorem am_clsb_ok : (List.range 10).all am_clsb = true := by decide +kernel
theorem am_cls_at {ci : Nat} {C : String} {T : u_T} {N : Nat} (h : vwCl[ci]? = some (C, T, N)) : (∀ w ∈ u_ws C T N, w ∈ am_W) ∧ Jvm.Cond.instantiable C N ∈ am_W ∧ (∀ k, k < N → parseFieldDescriptor (T k).2.2.1 = some (am_ty ci k)) ∧ (∀ a, a < N → ∀ b, b < N → a ≠ b → (T a).2.1 ≠ (T b).2.1) ∧ (∀ k, k < N → am_rf (am_ty ci k) = true ∨ am_ty ci k = .int) := by
  have hl : ci < 10 := (List.getElem?_eq_some_iff.mp h).1
  have hc := List.all_eq_true.mp am_clsb_ok ci (List.mem_range.mpr hl)
  unfold am_clsb at hc
  rw [h] at hc
  simp only [Bool.and_eq_true] at hc
  obtain ⟨⟨⟨⟨h1, h2⟩, h3⟩, h4⟩, h5⟩ := hc
  refine ⟨fun w hw => ?_, am_W_of (am_mem_ok h2) h3, fun k hk => ?_, fun a ha b hb hne => ?_, fun k hk => ?_⟩
  · have h6 := List.all_eq_true.mp h1 w hw
    rw [Bool.and_eq_true] at h6
    exact am_W_of (am_mem_ok h6.1) h6.2
  · have h6 := List.all_eq_true.mp h4 k (List.mem_range.mpr hk)
    rw [Bool.and_eq_true] at h6
    exact of_decide_eq_true h6.1
  · have h6 := List.all_eq_true.mp (List.all_eq_true.mp h5 a (List.mem_range.mpr ha)) b (List.mem_range.mpr hb)
    rw [Bool.or_eq_true] at h6
    exact h6.elim (fun h => absurd (of_decide_eq_true h) hne) of_decide_eq_true
  · have h6 := List.all_eq_true.mp h4 k (List.mem_range.mpr hk)
    rw [Bool.and_eq_true, Bool.or_eq_true] at h6
    exact h6.2.imp id of_decide_eq_true
theorem am_cls_ok : am_cls := fun _ _ _ _ h => ⟨(am_cls_at h).1, (am_cls_at h).2.2.1, (am_cls_at h).2.2.2.1, (am_cls_at h).2.2.2.2⟩
def am_srb (q : String × Nat × Nat × String) : Bool := am_mem (.stringRef q.1 q.2.1 q.2.2.2) && decide (q.2.2.1 < 20) && (decide (am_tm q.2.2.1 = .string q.1 q.2.1) || am_n1.any fun w => decide (w = .eq (am_tm q.2.2.1) (.string q.1 q.2.1)))
theorem am_srb_ok : am_SRL.all am_srb = true := by decide +kernel
def am_nsf (w : Jvm.Cond) : Bool := match w with
  | .methodLinkNest _ _ _ _ => true
  | .castable _ _ => true
  | .declares _ => true
  | _ => false
theorem am_nsf_ok {w : Jvm.Cond} (h : am_nsf w = true) : (∃ a i x h, w = .methodLinkNest a i x h) ∨ (∃ a b, w = .castable a b) ∨ ∃ x, w = .declares x := by
  unfold am_nsf at h
  split at h
  · exact Or.inl ⟨_, _, _, _, rfl⟩
  · exact Or.inr (Or.inl ⟨_, _, rfl⟩)
  · exact Or.inr (Or.inr ⟨_, rfl⟩)
  · cases h
theorem am_NS_ok : (am_NS.all fun w => am_nsf w && am_mem w) = true := by decide +kernel
theorem am_NC_ok : (am_NC.all fun q => am_n1.any fun w => decide (w = .not (.castable q.1 q.2))) = true := by decide +kernel
theorem am_wq1 : am_mem (.laysStatic "java/lang/String" "COMPACT_STRINGS" "Z") = true := by decide +kernel
theorem am_wq2 : am_mem (.initialized "java/lang/String") = true := by decide +kernel
theorem am_wq3 : am_mem (.laysStatic "jdk/internal/util/Preconditions" "SIOOBE_FORMATTER" "Ljava/util/function/BiFunction;") = true := by decide +kernel
theorem am_wq4 : am_mem (.initialized "jdk/internal/util/Preconditions") = true := by decide +kernel
theorem am_wq5 : am_mem (.laysStatic Bundle.tN "UNASSIGNED_STACK" Bundle.steD) = true := by decide +kernel
theorem am_wq6 : am_mem (.initialized Bundle.tN) = true := by decide +kernel
theorem am_wq7 : am_mem (.laysStatic Bundle.tN "SUPPRESSED_SENTINEL" Bundle.listD) = true := by decide +kernel
theorem am_wq8 : am_mem (.arrayOver (.object "SnowPlough$Snapshot")) = true := by decide +kernel
def am_n1q (w : Jvm.Cond) : Bool := am_n1.any fun v => decide (v = w)
theorem am_wq9 : am_n1q (.eq (.static "java/lang/String" "COMPACT_STRINGS" "Z") (.int 1)) = true := by decide +kernel
theorem am_wq10 : am_n1q (.isRef (.static "jdk/internal/util/Preconditions" "SIOOBE_FORMATTER" "Ljava/util/function/BiFunction;")) = true := by decide +kernel
theorem am_wq11 : am_n1q (.isRef (.static Bundle.tN "UNASSIGNED_STACK" Bundle.steD)) = true := by decide +kernel
theorem am_wq12 : am_n1q (.isRef (.static Bundle.tN "SUPPRESSED_SENTINEL" Bundle.listD)) = true := by decide +kernel
theorem am_notrace {l : Launch} (h : l.flags = flags0) : l.stackTraces = false := by
  unfold Launch.stackTraces
  rw [h]
  decide +kernel
/-- the start's facts, for the machine's constants -/
theorem am_E_start {s : State} {b L : Nat} {xs : Nat → Int32} (hX : va_X b L xs s s.heap) (hbl : b < s.heap.size) (hts : ∀ w ∈ lw_tbl, w.before #[Value.ref b] s = true) (hn : ∀ w ∈ am_n1, w.before #[Value.ref b] s = true) :
    ∃ (adK adV : Nat → Nat) (fm : Value), (fm = .null ∨ ∃ t, fm = .ref t) ∧ am_E (s.heap.size, b, L, xs, adK, adV, fm, am_SRL, 20, am_tlen, am_tbyt, am_NS, am_NC) s := by
  have hA : ∀ a : Nat, a < s.heap.size → ¬ am_A s.heap.size a := fun a h => Nat.not_le.mpr h
  obtain ⟨adK, adV, hS, hev⟩ := am_texts hn hA
  have hnq : ∀ {w : Jvm.Cond}, am_n1q w = true → w.before #[Value.ref b] s = true := fun h => hn _ (am_any_in h)
  have htq : ∀ {w : Jvm.Cond}, am_mem w = true → w.before #[Value.ref b] s = true := fun h => hts _ (am_mem_ok h)
  obtain ⟨fm, hfm, hZ⟩ : ∃ fm : Value, (fm = .null ∨ ∃ t, fm = .ref t) ∧ va_Z "jdk/internal/util/Preconditions" "SIOOBE_FORMATTER" "Ljava/util/function/BiFunction;" fm (am_A s.heap.size) s s.heap := by
    rcases va_Zqof (htq am_wq3) (htq am_wq4) (hnq am_wq10) hA with h | ⟨t, h⟩
    · exact ⟨.null, Or.inl rfl, h⟩
    · exact ⟨.ref t, Or.inr ⟨t, rfl⟩, h⟩
  refine ⟨adK, adV, fm, hfm, hX, hbl, hS, fun q hq => ?_, va_Zof (htq am_wq1) (htq am_wq2) (va_eqi (hnq am_wq9)) hA, hZ, vx_Zqof (htq am_wq5) (htq am_wq6) (hnq am_wq11) hA, vx_Zqof (htq am_wq7) (htq am_wq6) (hnq am_wq12) hA, fun w hw => ?_, fun q hq => ?_, va_AO.of (htq am_wq8)⟩
  · have h := List.all_eq_true.mp am_srb_ok q hq
    unfold am_srb at h
    rw [Bool.and_eq_true, Bool.and_eq_true, Bool.or_eq_true] at h
    obtain ⟨⟨h1, h2⟩, h3⟩ := h
    have h2' := of_decide_eq_true h2
    refine ⟨vk_R.of (htq h1) ?_, h2'⟩
    rcases h3 with h3 | h3
    · rw [← of_decide_eq_true h3]; exact hev _ h2'
    · exact va_eqR (hn _ (am_any_in h3)) (hev _ h2')
  · have h := List.all_eq_true.mp am_NS_ok w hw
    rw [Bool.and_eq_true] at h
    have h1 := am_nsf_ok h.1
    refine ⟨h1, ?_⟩
    have h2 := htq h.2
    rcases h1 with ⟨a, i, x, h, rfl⟩ | ⟨a, b, rfl⟩ | ⟨x, rfl⟩ <;> exact va_Nw.of rfl h2
  · exact va_Nc.of (hn _ (am_any_in (List.all_eq_true.mp am_NC_ok q hq)))
theorem am_M0_tg (L : Nat) (xs : Nat → Int32) (k : Nat) : am_tg (am_M0 L xs) k = if k = 800000 then 41 else if 900000 ≤ k ∧ k < 900020 then 40 else if 910000 ≤ k ∧ k < 910020 then 42 else if k = 990000 then 43 else 0 := by
  unfold am_tg am_M0
  dsimp only
  split
  · rfl
  · split
    · rfl
    · split
      · rfl
      · split <;> rfl
theorem am_rep_start {D : va_G} {s : State} {b L : Nat} {xs : Nat → Int32} {fm : Value} {adK adV : Nat → Nat} {b0 : Nat} {H : Heap} (hfm : fm = .null ∨ ∃ t, fm = .ref t) : am_rep D b0 s (am_ad0 b fm adK adV) (am_M0 L xs) H := by
  have hno : ∀ k, ¬ am_own (am_tg (am_M0 L xs) k) := by
    intro k h
    rw [am_M0_tg] at h
    unfold am_own at h
    split at h
    · omega
    · split at h
      · omega
      · split at h
        · omega
        · split at h <;> omega
  refine ⟨fun k h => absurd (Or.inl (by omega)) (hno k), fun k h => absurd (Or.inl (by omega)) (hno k), fun k h => absurd (Or.inl (by omega)) (hno k), fun k h => absurd (Or.inl (by omega)) (hno k), fun k ci r h h2 => absurd (Or.inr ?_) (hno k), fun k k' h => absurd h (hno k), fun k h => ?_⟩
  · have hl : ci < 10 := (List.getElem?_eq_some_iff.mp h2).1
    omega
  · rw [am_M0_tg] at h
    unfold am_ad0
    split at h
    · rename_i h1; rw [if_pos h1]; exact Or.inl ⟨_, rfl⟩
    · rename_i h1; rw [if_neg h1]
      split at h
      · rename_i h2; rw [if_pos h2]; exact Or.inl ⟨_, rfl⟩
      · rename_i h2; rw [if_neg h2]
        split at h
        · rename_i h3; rw [if_pos h3]; exact Or.inl ⟨_, rfl⟩
        · rename_i h3; rw [if_neg h3]
          split at h
          · rename_i h4; rw [if_pos h4]
            exact hfm.elim Or.inr Or.inl
          · exact absurd rfl h
theorem am_xt_start {b L b0 : Nat} {xs : Nat → Int32} {fm : Value} {adK adV : Nat → Nat} {sr : am_SR} {ns : List Jvm.Cond} {nc : List (String × String)} : am_xt (b0, b, L, xs, adK, adV, fm, sr, 20, am_tlen, am_tbyt, ns, nc) (am_ad0 b fm adK adV) (am_M0 L xs) := by
  refine ⟨fun k h => ?_, fun k h => ?_, fun k h => ?_, fun i hi => ?_, ?_, ?_, ?_, ?_⟩
  · rw [am_M0_tg] at h
    by_cases h1 : k = 800000
    · refine ⟨h1, ?_, fun j => ?_⟩
      · unfold am_ln am_M0; dsimp only; rw [if_pos h1]
      · unfold am_I am_M0; dsimp only; rw [if_pos h1]
    · rw [if_neg h1] at h
      split at h
      · omega
      · split at h
        · omega
        · split at h <;> omega
  · rw [am_M0_tg] at h
    by_cases h1 : k = 800000
    · rw [if_pos h1] at h; omega
    · rw [if_neg h1] at h
      by_cases h2 : 900000 ≤ k ∧ k < 900020
      · rw [if_pos h2] at h; omega
      · rw [if_neg h2] at h
        by_cases h3 : 910000 ≤ k ∧ k < 910020
        · refine ⟨k - 910000, by show _ < 20; omega, by omega, ?_, fun j => ?_⟩
          · unfold am_ln am_M0; dsimp only; rw [if_neg h1, if_neg h2, if_pos h3]
          · unfold am_I am_M0; dsimp only; rw [if_neg h1, if_neg h2, if_pos h3]
        · rw [if_neg h3] at h
          split at h <;> omega
  · rw [am_M0_tg] at h
    by_cases h1 : k = 800000
    · rw [if_pos h1] at h; omega
    · rw [if_neg h1] at h
      by_cases h2 : 900000 ≤ k ∧ k < 900020
      · refine ⟨k - 900000, by show _ < 20; omega, by omega, ?_, ?_⟩
        · unfold am_R am_M0; dsimp only; rw [if_neg h1, if_pos h2]; rfl
        · unfold am_I am_M0; dsimp only; rw [if_neg h1, if_pos h2]
      · rw [if_neg h2] at h
        split at h
        · omega
        · split at h <;> omega
  · have hi' : i < 20 := hi
    refine ⟨?_, ?_, ?_, ?_⟩
    · rw [am_M0_tg, if_neg (by omega), if_pos (by omega)]
    · rw [am_M0_tg, if_neg (by omega), if_neg (by omega), if_pos (by omega)]
    · unfold am_ad0
      rw [if_neg (by omega), if_pos (by omega), Nat.add_sub_cancel_left]
    · unfold am_ad0
      rw [if_neg (by omega), if_neg (by omega), if_pos (by omega), Nat.add_sub_cancel_left]
  · rw [am_M0_tg]; rfl
  · unfold am_ad0; rfl
  · rw [am_M0_tg]; rfl
  · unfold am_ad0; rfl
set_option maxHeartbeats 4000000 in
/-- from a run of the abstract machine to the law's own -/
theorem am_start {p : Program} {e : Env} {s : State} {m : MethodId} {below : List Frame} {meth : Method} {c : Code} (l : Launch) (hflags : l.flags = flags0) {b L : Nat} {xs : Nat → Int32} (C0 : lw_At p s m meth c b L xs) (htab : c.exceptionTable.toList = []) (hname : meth.name ≠ "<init>")
    {n : Nat} {M' : am_M} (hrun : am_run am_Pg n 13 0 am_nV 0 (am_ent 7 [.ref 800000]) [] (am_M0 L xs) = some (.inl (some (.int 1)), M')) (hcc : am_cc M' ≤ 601024) (hsl : am_sl M' ≤ 7293034) :
    W p l e room_1 s m #[Value.ref b] below meth c s.heap [] 0 0 (lw_Z below #[Value.ref b] s) (entryFrame m ([Value.ref b] : List Value).toArray 7) := by
  obtain ⟨hx, hb, hr, hml, hown, hts, hX, hbl, hlocks, hgv⟩ := id C0
  have hn : ∀ w ∈ am_n1, w.before #[Value.ref b] s = true := flat_of_before _ hgv
  obtain ⟨adK, adV, fm, hfm, hE⟩ := am_E_start hX hbl hts hn
  have hW : ∀ w ∈ am_W, w.before #[Value.ref b] s = true := fun w hw => hts w (List.mem_filter.mp hw).1
  obtain ⟨dC, dI, hKc⟩ : ∃ (dC : Nat → ClassId) (dI : Nat → Nat → Nat), ∀ (k : Nat) (q : vw_C), vwCl[k]? = some q → u_Kn s q.1 q.2.1 q.2.2 (dC k) (dI k) := by
    have h0 : ∀ k : Nat, ∃ d : ClassId × (Nat → Nat), ∀ q : vw_C, vwCl[k]? = some q → u_Kn s q.1 q.2.1 q.2.2 d.1 d.2 := by
      intro k
      cases hq : vwCl[k]? with
      | none => exact ⟨(0, fun _ => 0), fun q h => by cases h⟩
      | some q =>
        obtain ⟨C, T, N⟩ := q
        have hc := am_cls_at hq
        obtain ⟨cC, iS, h⟩ := u_known (C := C) (T := T) (N := N) (n := N) hW hc.1 (hW _ hc.2.1)
        exact ⟨(cC, iS), fun q' h' => by cases h'; exact h⟩
    obtain ⟨d, hd⟩ := Classical.axiomOfChoice h0
    exact ⟨fun k => (d k).1, fun k => (d k).2, fun k q h => hd k q h⟩
  have hK : va_K (dC, dI) vwCl [] s := ⟨hKc, fun k q h => by simp at h⟩
  have hst := am_notrace hflags
  have hw := am_walk (K := (s.heap.size, b, L, xs, adK, adV, fm, am_SRL, 20, am_tlen, am_tbyt, am_NS, am_NC)) (D := (dC, dI)) (l := l) (V2 := fun _ => True) am_good_ok (fun y _ => am_rows_ok y) (fun _ _ => trivial) hst am_cls_ok n
  have hmap : ([Value.ref b] : List Value) = ([Value.ref 800000] : List Value).map (am_cv (am_ad0 b fm adK adV)) := rfl
  have hrep := am_rep_start (D := (dC, dI)) (s := s) (b := b) (L := L) (xs := xs) (adK := adK) (adV := adV) (b0 := s.heap.size) (H := s.heap) hfm
  have hxt := am_xt_start (b := b) (L := L) (b0 := s.heap.size) (xs := xs) (fm := fm) (adK := adK) (adV := adV) (sr := am_SRL) (ns := am_NS) (nc := am_NC)
  have hok : ∀ v ∈ ([Value.ref 800000] : List Value), am_okv (am_M0 L xs) v ∧ ∀ x, v ≠ .double x := by
    intro v hv
    rw [List.mem_singleton.mp hv]
    refine ⟨?_, fun x h => by cases h⟩
    show ¬ am_tg (am_M0 L xs) 800000 = 0
    rw [am_M0_tg]
    decide
  have hlen : (([Value.ref 800000] : List Value).flatMap am_w2).length ≤ 7 := by decide
  have hctx : am_ctx (s.heap.size, b, L, xs, adK, adV, fm, am_SRL, 20, am_tlen, am_tbyt, am_NS, am_NC) (dC, dI) p l room_1 s m #[Value.ref b] meth c (am_Yg am_nV).1.cls (decide ((am_Yg am_nV).1.name = "<init>")) (am_Yg am_nV).2.1 (am_Pg am_nV).2.2.1 13 :=
    ⟨hx, hb, hml, hown, hW, hK, hE, Nat.le_refl _, by decide, by decide, by decide, hlocks, hst, fun h => absurd h (by decide)⟩
  rw [hmap, lg_entry_eq]
  have hrel := am_ent_rel hrep.2.2.2.2.2.2 hok hlen
  have hfin := hw 13 0 am_nV 0 (am_ent 7 [.ref 800000]) [] (am_M0 L xs) _ M' hrun trivial (p := p) (e := e) (R := room_1) (s := s) (m := m) (args := #[Value.ref b]) (below := below) (meth := meth) (c := c) (ad := am_ad0 b fm adK adV) (M0 := am_M0 L xs) (ad0 := am_ad0 b fm adK adV) (H := s.heap) (locs := []) (cells := 0) (slots := 0) (mc := am_cc M') (ms := am_sl M') hctx htab hr ⟨hrep, hxt, va_S.rf, hrel, am_ent_ok (fun v hv => (hok v hv).1), fun v hv => by cases hv⟩ (fun _ _ => rfl) (am_le.rf _) (by show 0 + (am_cc M' - 0) = am_cc M'; omega) (by show 0 + (am_sl M' - 0) = am_sl M'; omega) hcc hsl
  intro T hT X
  obtain ⟨t, st, o, h1, h2, h3⟩ := hfin T hT X
  refine ⟨t, st, o, h1, h2, ?_⟩
  rcases h3 with ⟨⟨v, ad', ho, -, hoc, -, -, -, -⟩, LL, ⟨-, hWm, hsame⟩, hfree⟩ | ⟨q, -, E, ce, LL, ⟨a, ad', ho, -⟩, -⟩
  · cases ho
    refine ⟨hoc, ⟨_, hoc⟩, hWm, ?_⟩
    obtain ⟨g1, g2, g3, g4, g5, g6⟩ := hsame
    refine ⟨g1, g2, Nat.le_trans g3 (Nat.add_le_add_left hcc _), g4, Nat.le_trans g5 hsl, fun a c0 hc0 => ?_⟩
    obtain ⟨c', q1, q2, q3, q4⟩ := g6 a c0 hc0
    refine ⟨c', q1, q2, q3, fun i _ => q4 i fun hin => ?_⟩
    have hlt : a < s.heap.size := (Array.getElem?_eq_some_iff.mp hc0).1
    exact absurd (hfree _ hin) (Nat.not_le.mpr hlt)
  · cases ho
