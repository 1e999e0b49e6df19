/-! the law's case: a name looked up -/
theorem wnm_nm {c m : gC} {n : Int} (hn : n = c 100000 1) (h9 : ∀ k, 0 ≤ k → k < n → c 100001 k = m 200009 k) : (wnm c 100000 = -1 ∧ fok m n = false) ∨ (fok m n = true ∧ NMR (wnm c 100000) (fin m n) ∧ ¬ wnm c 100000 = -1) := by
  have e1 : ff (fun i => !(decide (97 ≤ c (100000 + 1) i) && decide (c (100000 + 1) i ≤ 122))) (c 100000 1) 0 = ff (fbd m) n 0 := by
    rw [← hn]
    refine ff_congr fun j j0 j1 => ?_
    unfold fbd inr
    rw [show (100000 : Nat) + 1 = 100001 from rfl, h9 j j0 j1]
  by_cases w : (1 ≤ n ∧ n ≤ 6) ∧ ff (fbd m) n 0 = -1
  · have hf : fok m n = true := by
      unfold fok
      rw [Bool.and_eq_true, inr_t, decide_eq_true_eq]
      exact w
    obtain ⟨f1, f2⟩ := fok_l hf
    have ew : wnm c 100000 = itI (fun i s => s * 27 + c 100001 i - 97 + 1) 0 n := by
      unfold wnm
      rw [e1, ← hn, if_pos w]
    obtain ⟨k, rfl⟩ : ∃ k : Nat, n = (k : Int) := ⟨n.toNat, by omega⟩
    have a1 : ∀ j : Nat, j ≤ k → itI (fun i s => s * 27 + c 100001 i - 97 + 1) 0 (j : Int) = wv (fun i => c 100001 i - 96) j := by
      intro j
      induction j with
      | zero => intro _; rfl
      | succ j ih =>
        intro hj
        rw [show ((j + 1 : Nat) : Int) = (j : Int) + 1 from rfl, itI_s _ _ (by omega), ih (by omega)]
        show wv (fun i => c 100001 i - 96) j * 27 + c 100001 (j : Int) - 97 + 1 = wv (fun i => c 100001 i - 96) j * 27 + (c 100001 (j : Int) - 96)
        omega
    have a2 : ∀ j : Nat, itI (fpk m (k : Int)) 0 (j : Int) = wv (pad (fun i => c 100001 i - 96) k) j := by
      intro j
      induction j with
      | zero => rfl
      | succ j ih =>
        rw [show ((j + 1 : Nat) : Int) = (j : Int) + 1 from rfl, itI_s _ _ (by omega), ih]
        show fpk m (k : Int) (j : Int) (wv (pad (fun i => c 100001 i - 96) k) j) = wv (pad (fun i => c 100001 i - 96) k) j * 27 + pad (fun i => c 100001 i - 96) k (j : Int)
        generalize wv (pad (fun i => c 100001 i - 96) k) j = w0
        unfold fpk pad
        by_cases q : (j : Int) < (k : Int)
        · rw [if_pos q, if_pos q]
          dsimp only
          rw [h9 _ (by omega) q]
          omega
        · rw [if_neg q, if_neg q]; omega
    have nm : NMR (wnm c 100000) (fin m (k : Int)) := by
      refine ⟨fun i => c 100001 i - 96, k, ⟨by omega, fun j j0 j1 => ?_⟩, by rw [ew]; exact a1 k (Nat.le_refl _), a2 6⟩
      have := f2 j j0 j1
      rw [← h9 j j0 j1] at this
      dsimp only
      omega
    have := (NMR_rg nm).1
    exact Or.inr ⟨hf, nm, by omega⟩
  · refine Or.inl ⟨?_, ?_⟩
    · unfold wnm
      rw [e1, ← hn, if_neg w]
    · cases hf : fok m n with
      | false => rfl
      | true =>
        unfold fok at hf
        rw [Bool.and_eq_true, inr_t, decide_eq_true_eq] at hf
        exact absurd hf w
theorem IV_fd {n L : Nat} {T : gT} {c c' : gC} (h : IV n L T c) (hn : n ≤ 990) (e : ∀ k : Nat, ¬ k = 100000 → ¬ k = 500001 → c' k = c k) (e1 : c' 100000 1 = 0) (e5 : ∀ j, ¬ j = 0 → ¬ j = 15 → c' 500001 j = c 500001 j) (e15 : c' 500001 15 = 0) (hr : RG c') : IV n L T c' := by
  obtain ⟨⟨bt, br⟩, mi, io1, io2⟩ := IV_in h
  refine IV_io h hn (fun k k0 _ _ k3 => e k k0 k3) e5 hr (by unfold BR; rw [e1]; omega) ⟨hr, by rw [e15]; omega, fun k k0 k1 => by rw [e _ (by decide) (by decide)]; exact mi.2.2 k k0 k1⟩ ⟨by rw [e1, e15], fun k k0 k1 => ?_⟩
  rw [e1] at k1
  omega
def fdv (c : gC) (b : Bool) : Int := if b = true then ff (fun i => decide ((gu c 100000 1 0) (100014 + 4) i = wnm c 100000)) ((gu c 100000 1 0) 100014 2) 0 else ff (fun i => decide ((gu c 100000 1 0) (100014 + 1) i = wnm c 100000)) ((gu c 100000 1 0) 100014 1) 0
theorem fdv_m {n L : Nat} {T : gT} {c m : gC} {b : Bool} {v : Int} (h : IV n L T c) (em : m 200000 = c 200000) (hv : NMR (wnm c 100000) v) : fdv c b = if b = true then mfr m 200000 v else mfn m 200000 v := by
  obtain ⟨G, Lo, lv⟩ := IV_LV h
  obtain ⟨⟨sw, n1, n2⟩, -⟩ := lv
  have c1 : c 100014 1 = c 200000 0 := (IV_NN h).1.1.1
  have c2 : c 100014 2 = c 200000 1 := (IV_NN h).1.1.2
  have k1 : ∀ k : Nat, ¬ k = 100000 → gu c 100000 1 0 k = c k := fun k hk => funext fun j => gu_k hk
  unfold fdv
  rw [k1 (100014 + 4) (by decide), k1 100014 (by decide), k1 (100014 + 1) (by decide)]
  cases b with
  | true =>
    rw [if_pos rfl, if_pos rfl]
    unfold mfr
    rw [em, c2]
    refine ff_congr fun j j0 j1 => ?_
    have x := NMR_inj (n2 j j0 j1).1 hv
    rw [Int.add_zero]
    by_cases w : c (100014 + 4) j = wnm c 100000
    · rw [decide_eq_true w, decide_eq_true (x.1 w)]
    · rw [decide_eq_false w, decide_eq_false (fun y => w (x.2 y))]
  | false =>
    rw [if_neg (by decide), if_neg (by decide)]
    unfold mfn
    rw [em, c1]
    refine ff_congr fun j j0 j1 => ?_
    have x := NMR_inj (n1 j j0 j1) hv
    by_cases w : c (100014 + 1) j = wnm c 100000
    · rw [decide_eq_true w, decide_eq_true (x.1 w)]
    · rw [decide_eq_false w, decide_eq_false (fun y => w (x.2 y))]
def RFd (c0 : gC) (b : Bool) (T : gT) (c J : gC) : (Int ⊕ Nat) → gT → gC → gC → Prop := fun r T1 c1 J1 => J1 = J ∧ c1 = gu c 100000 1 0 ∧ ((¬ wnm c 100000 = -1 ∧ r = .inl (fdv c b) ∧ T1 = T) ∨ (wnm c 100000 = -1 ∧ r = .inr 1 ∧ T1 = gTt T))
set_option maxHeartbeats 1000000 in
theorem op_7 {L : Nat} : OPC L 517 := by
  intro n T c J i u5 u6 Q hn h hL hi hu hv hend
  have rg := IV_RG h
  have hs1 := rg 800000 (i + 1)
  obtain ⟨⟨bt, br⟩, mi, io1, io2⟩ := IV_in h
  have fx := IV_fx h hn
  have br0 := br
  have hV := IV_NW h
  have v0 := hV.1
  have WN := fun {m : gC} (e : m 200009 = c 200009) => wnm_nm (c := c) (m := m) (n := c 100000 1) rfl (fun k k0 k1 => by rw [e]; exact (io2 k k0 k1).1)
  have hw : -2147483648 ≤ wnm c 100000 ∧ wnm c 100000 < 2147483648 := by
    rcases WN (m := c) rfl with w | w
    · omega
    · have := (NMR_rg w.2.1).1
      omega
  generalize hp : decide (¬ c 800000 (i + 1) = 0) = b
  have rd : RG (gu c 100000 1 0) := RG_gu rg (by decide)
  have kd : ∀ k : Nat, ¬ k = 100000 → gu c 100000 1 0 k = c k := fun k hk => funext fun j => gu_k hk
  have fr : -2147483648 ≤ fdv c b ∧ fdv c b < 2147483648 := by
    have nr := (IV_NR h)
    have q1 := ff_rg (p := fun i => decide ((gu c 100000 1 0) (100014 + 4) i = wnm c 100000)) (N := (gu c 100000 1 0) 100014 2) (i := 0) (by decide)
    have q2 := ff_rg (p := fun i => decide ((gu c 100000 1 0) (100014 + 1) i = wnm c 100000)) (N := (gu c 100000 1 0) 100014 1) (i := 0) (by decide)
    have c1 : c 100014 1 = c 200000 0 := (IV_NN h).1.1.1
    have c2 : c 100014 2 = c 200000 1 := (IV_NN h).1.1.2
    rw [kd 100014 (by decide)] at q1 q2
    unfold fdv
    rw [kd 100014 (by decide)]
    split <;> omega
  have h1 : gE 5 104 6 [.ref 500000, gi (bi b)] (gm T c J) (gP (RFd c b T c J)) := gE_mono (c_x_find (IV_XT h) bt (IV_NT h) rg br (IV_NR h) hw) fun o M1 q => by
    rcases q with ⟨q1, rfl, rfl⟩ | ⟨q1, rfl, rfl⟩
    · exact ⟨gTt T, _, J, rfl, Or.inr ⟨1, rfl, fx.1, rfl, rfl, Or.inr ⟨q1, rfl, rfl⟩⟩⟩
    · exact ⟨T, _, J, rfl, Or.inl ⟨fdv c b, rfl, fr, IV_out h, rfl, rfl, Or.inl ⟨q1, rfl, rfl⟩⟩⟩
  refine lc_7 (p := b) hp.symm hs1 (R := RFd c b T c J) (hm := fun _ => 1) (HW := 7) (HM := 2) (E := fun T c _ => IV (n + 1) L T c) (hHW := by omega) (hHM := by omega) (hL := h.2) (hL2 := hL) (hi := hi) (hu := hu) (hv := hv) (h1 := w_find h1 (fun E T1 c1 J1 q => ?_)) (h2 := fun v T1 d J1 hR => ?_) (h3 := fun X T1 d J1 hR => ?_) (hend := fun z T2 c2 J2 k b q hk hb => hend T2 c2 J2 k b q.2.2.2 hk hb)
  · obtain ⟨-, -, ⟨-, e, -⟩ | ⟨-, e, -⟩⟩ := q
    · cases e
    · exact Sum.inr.inj e
  · obtain ⟨rfl, rfl, ⟨hp1, e, rfl⟩ | ⟨-, e, -⟩⟩ := hR
    · have ev : v = fdv c b := Sum.inl.inj e
      subst ev
      have y15 : gu c 100000 1 0 500001 15 = c 100000 1 := by rw [kd _ (by decide), ← io1]
      refine ⟨⟨h.2, kd _ (by decide)⟩, gE_mono (m_x_find (IV_MT h) rd (NW_of hV (kd _ (by decide))) (by rw [y15]; exact br0)) fun o M1 q => ?_⟩
      have d1 : ∀ k : Nat, ¬ k = 500001 → gu (gu c 100000 1 0) 500001 15 0 k = gu c 100000 1 0 k := fun k hk => funext fun j => gu_k hk
      rw [y15] at q
      have wn := WN (m := gu c 100000 1 0) (kd _ (by decide))
      have e9 : fin (gu (gu c 100000 1 0) 500001 15 0) (c 100000 1) = fin (gu c 100000 1 0) (c 100000 1) := by
        unfold fin fpk
        rw [d1 _ (by decide)]
      rw [e9] at q
      have i2 : IV n L T1 (tw (gu (gu c 100000 1 0) 500001 15 0) 0) := by
        refine IV_fd h (by omega) (fun k k0 k1 => by rw [tw_k k1, d1 k k1, kd k k0]) (by rw [tw_k (by decide), d1 _ (by decide), gu_s]) (fun j j0 j1 => ?_) ?_ (tw_RG (RG_gu rd (by decide)) (by decide))
        · unfold tw; rw [gu_j j0, gu_j j1, kd _ (by decide)]
        · unfold tw; rw [gu_j (by decide), gu_s]
      rcases q with ⟨q1, rfl, rfl⟩ | ⟨q1, -⟩
      · rcases wn with w | w
        · exact absurd w.1 hp1
        · refine ⟨_, _, _, ?_, rfl, ⟨⟨IV_MT h, IV_RG i2⟩, tw_0, IV_out h, IV_up i2 (by omega)⟩, gu_s, fr⟩
          rw [fdv_m (m := tw (gu (gu c 100000 1 0) 500001 15 0) 0) h (by rw [tw_k (by decide), d1 _ (by decide), kd _ (by decide)]) w.2.1]
      · rcases wn with w | w
        · exact absurd w.1 hp1
        · rw [w.1] at q1; cases q1
    · cases e
  · obtain ⟨rfl, rfl, ⟨-, e, -⟩ | ⟨hp1, e, rfl⟩⟩ := hR
    · cases e
    · have i1 := IV_te h hn
      have smd : SAM (gu c 100000 1 0) (gz (gu c 100000 1 0) (700000 + T.2.1 7)) := SAM_gz (by omega)
      have sm : SAM c (gz c (700000 + T.2.1 7)) := SAM_gz (by omega)
      have kz : ∀ k : Nat, ¬ k = 100000 → gz (gu c 100000 1 0) (700000 + T.2.1 7) k = gz c (700000 + T.2.1 7) k := fun k hk => funext fun j => by
        unfold gz
        split
        · rfl
        · exact gu_k hk
      have rz : RG (gz (gu c 100000 1 0) (700000 + T.2.1 7)) := RG_gz rd
      have k9 : ∀ k : Nat, (k < 700000 ∨ 800000 ≤ k) → ¬ k = 100000 → gz (gu c 100000 1 0) (700000 + T.2.1 7) k = c k := fun k hk h0 => (smd k hk).trans (kd k h0)
      have y15 : gz (gu c 100000 1 0) (700000 + T.2.1 7) 500001 15 = c 100000 1 := by rw [k9 _ (by decide) (by decide), ← io1]
      refine ⟨⟨by decide, by decide⟩, ⟨i1.2, k9 _ (by decide) (by decide)⟩, gE_mono (m_x_find (IV_MT i1) rz (NW_of hV (k9 _ (by decide) (by decide))) (by rw [y15]; exact br0)) fun o M1 q => ?_⟩
      rw [y15] at q
      have wn := WN (m := gz (gu c 100000 1 0) (700000 + T.2.1 7)) (k9 _ (by decide) (by decide))
      have d1 : ∀ k : Nat, ¬ k = 500001 → gu (gz (gu c 100000 1 0) (700000 + T.2.1 7)) 500001 15 0 k = gz (gu c 100000 1 0) (700000 + T.2.1 7) k := fun k hk => funext fun j => gu_k hk
      rcases q with ⟨q1, -⟩ | ⟨q1, rfl, rfl⟩
      · rcases wn with w | w
        · rw [w.2] at q1; cases q1
        · exact absurd hp1 w.2.2
      · have i2 : IV (n + 1) L (gTe (gTt T)) (tw (gu (gz (gu c 100000 1 0) (700000 + T.2.1 7)) 500001 15 0) 1) := by
          refine IV_fd i1 (by omega) (fun k k0 k1 => by rw [tw_k k1, d1 k k1, kz k k0]) (by rw [tw_k (by decide), d1 _ (by decide), smd _ (Or.inl (by decide)), gu_s]) (fun j j0 j1 => ?_) ?_ (tw_RG (RG_gu rz (by decide)) (by decide))
          · unfold tw; rw [gu_j j0, gu_j j1, kz _ (by decide)]
          · unfold tw; rw [gu_j (by decide), gu_s]
        exact ⟨_, _, _, _, rfl, rfl, ⟨IV_MT i1, IV_RG i2⟩, tw_0, IV_out i1, i2⟩
