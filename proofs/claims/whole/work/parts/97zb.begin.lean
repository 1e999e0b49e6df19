/-! the memory in which the law begins, and the objects that it makes -/
def T00 (L : Nat) : gT := (fun k => if k = 800000 then (41, L, fun _ => 0) else if 900000 ≤ k ∧ k < 900020 then (40, 0, fun j => if j = 0 then 910000 + (k - 900000) + 1 else 0) else if 910000 ≤ k ∧ k < 910020 then (42, am_tlen.getD (k - 910000) 0, fun _ => 0) else if k = 990000 then (43, 0, fun _ => 0) else (0, 0, fun _ => 0), fun _ => 0, 0, 0)
def c00 (xs : Nat → Int32) : gC := fun k j => if k = 800000 then (xs j.toNat).toInt else if 900000 ≤ k ∧ k < 900020 then 0 else if 910000 ≤ k ∧ k < 910020 then ((am_tbyt.getD (k - 910000) []).getD j.toNat 0).toInt else 0
theorem cell_ext {t n : Nat} {a a' : Nat → Int32} {b : Nat → Int64} {r : Nat → Nat} (h : ∀ j, a j = a' j) : (t, n, a, b, r) = (t, n, a', b, r) := by rw [show a = a' from funext h]
theorem M0_gm {L : Nat} {xs : Nat → Int32} : am_M0 L xs = gm (T00 L) (c00 xs) (fun _ _ => 0) := by
  refine Prod.ext (funext fun k => ?_) rfl
  show _ = (((T00 L).1 k).1, ((T00 L).1 k).2.1, (fun j : Nat => Int32.ofInt (c00 xs k (j : Int))), (fun _ : Nat => (0 : Int64)), ((T00 L).1 k).2.2)
  unfold am_M0 T00 c00
  dsimp only
  have z32 : Int32.ofInt 0 = 0 := rfl
  by_cases h1 : k = 800000
  · rw [if_pos h1, if_pos h1]
    refine cell_ext fun j => ?_
    show xs j = Int32.ofInt (if k = 800000 then _ else _)
    rw [if_pos h1, Int32.ofInt_toInt, Int.toNat_natCast]
  · rw [if_neg h1, if_neg h1]
    by_cases h2 : 900000 ≤ k ∧ k < 900020
    · rw [if_pos h2, if_pos h2]
      refine cell_ext fun j => ?_
      show (0 : Int32) = Int32.ofInt (if k = 800000 then _ else if 900000 ≤ k ∧ k < 900020 then _ else _)
      rw [if_neg h1, if_pos h2, z32]
    · rw [if_neg h2, if_neg h2]
      by_cases h3 : 910000 ≤ k ∧ k < 910020
      · rw [if_pos h3, if_pos h3]
        try dsimp only
        refine cell_ext fun j => ?_
        show (am_tbyt.getD (k - 910000) []).getD j 0 = Int32.ofInt (if k = 800000 then _ else if 900000 ≤ k ∧ k < 900020 then _ else if 910000 ≤ k ∧ k < 910020 then _ else _)
        rw [if_neg h1, if_neg h2, if_pos h3, Int32.ofInt_toInt, Int.toNat_natCast]
      · rw [if_neg h3, if_neg h3]
        by_cases h4 : k = 990000
        · rw [if_pos h4, if_pos h4]
          refine cell_ext fun j => ?_
          show (0 : Int32) = Int32.ofInt (if k = 800000 then _ else if 900000 ≤ k ∧ k < 900020 then _ else if 910000 ≤ k ∧ k < 910020 then _ else _)
          rw [if_neg h1, if_neg h2, if_neg h3, z32]
        · rw [if_neg h4, if_neg h4]
          refine cell_ext fun j => ?_
          show (0 : Int32) = Int32.ofInt (if k = 800000 then _ else if 900000 ≤ k ∧ k < 900020 then _ else if 910000 ≤ k ∧ k < 910020 then _ else _)
          rw [if_neg h1, if_neg h2, if_neg h3, z32]
theorem i32_rg (x : Int32) : -2147483648 ≤ x.toInt ∧ x.toInt < 2147483648 := ⟨Int32.le_toInt x, Int32.toInt_lt x⟩
theorem c00_RG {xs : Nat → Int32} : RG (c00 xs) := fun k j => by
  unfold c00
  split
  · exact i32_rg _
  · split
    · decide
    · split
      · exact i32_rg _
      · decide
theorem c00_t {xs : Nat → Int32} {n : Nat} (hn : n < 20) (j : Int) : c00 xs (910000 + n) j = txb n j := by
  unfold c00 txb
  rw [if_neg (by omega), if_neg (by omega), if_pos (by omega), Nat.add_sub_cancel_left]
theorem txb_rg : ∀ n : Nat, n < 20 → ∀ j : Nat, j < am_tlen.getD n 0 → 0 ≤ ((am_tbyt.getD n []).getD j 0).toInt ∧ ((am_tbyt.getD n []).getD j 0).toInt < 128 := by decide +kernel
theorem tlen_rg : ∀ n : Nat, n < 20 → am_tlen.getD n 0 < 1000 := by decide +kernel
theorem c00_TX {xs : Nat → Int32} : TX (c00 xs) := fun n hn j _ _ => c00_t hn j
theorem c00_LT {L : Nat} {xs : Nat → Int32} : LT (T00 L) (c00 xs) := fun n hn => by
  have e1 : (T00 L).1 (900000 + n) = (40, 0, fun j => if j = 0 then 910000 + n + 1 else 0) := by
    unfold T00
    dsimp only
    rw [if_neg (by omega), if_pos (by omega), Nat.add_sub_cancel_left]
  have e2 : (T00 L).1 (910000 + n) = (42, am_tlen.getD n 0, fun _ => 0) := by
    unfold T00
    dsimp only
    rw [if_neg (by omega), if_neg (by omega), if_pos (by omega), Nat.add_sub_cancel_left]
  unfold ST
  rw [e1, e2]
  refine ⟨rfl, ?_, ?_, rfl, rfl, tlen_rg n hn, fun j j0 j1 => ?_⟩
  · show (if (0 : Nat) = 0 then 910000 + n + 1 else 0) = 910000 + n + 1
    rw [if_pos rfl]
  · unfold c00
    rw [if_neg (by omega), if_pos (by omega)]
  · rw [c00_t hn]
    exact txb_rg n hn j.toNat (by omega)
theorem T00_z {L k : Nat} (h : ¬ k = 800000) (h2 : k < 900000) : (T00 L).1 k = (0, 0, fun _ => 0) := by
  unfold T00
  dsimp only
  rw [if_neg h, if_neg (by omega), if_neg (by omega), if_neg (by omega)]
theorem gTn_e {T : gT} {g t n w k : Nat} (h : k = g * 100000 + T.2.1 g) : (gTn T g t n w).1 k = (t, n, fun _ => 0) := if_pos h
def mT (T : gT) : gT := gTr (gTr (gTr (gTr (gTr (gTr (gTr (gTr (gTr (gTr (gTr (gTr (T) 500001 1 (200000 + 0 + 1)) 500001 2 (200000 + 1 + 1)) 500001 3 (200000 + 2 + 1)) 500001 4 (200000 + 0 + 1)) 500001 5 (200000 + 3 + 1)) 500001 6 (200000 + 4 + 1)) 500001 8 (200000 + 5 + 1)) 500001 10 (200000 + 6 + 1)) 500001 11 (200000 + 7 + 1)) 500001 12 (200000 + 8 + 1)) 500001 14 (200000 + 9 + 1)) 500001 24 (200000 + 10 + 1)
theorem mT_k {T : gT} {k : Nat} (h : ¬ k = 500001) : (mT T).1 k = T.1 k := by
  unfold mT
  simp (disch := omega) only [gTr_k]
def T01 (L : Nat) : gT := gTn (T00 L) 5 18 0 11
def T02 (L : Nat) : gT := gM (xT (T01 L)) 1 mkX 4620
def T03 (L : Nat) : gT := gTn (T02 L) 5 19 0 26
def T04 (L : Nat) : gT := gM (mT (T03 L)) 2 mkM 55193
def T05 (L : Nat) : gT := gTn (T04 L) 5 3 1 1
theorem T01_n {L : Nat} : (T01 L).2.1 1 = 0 ∧ (T01 L).2.1 5 = 1 := ⟨rfl, rfl⟩
theorem T01_k {L k : Nat} (h : ¬ k = 500000) : (T01 L).1 k = (T00 L).1 k := gTn_k (by show ¬ k = 5 * 100000 + 0; omega)
theorem T01_x {L : Nat} : ((T01 L).1 500000).1 = 18 := by
  have e : (T01 L).1 500000 = (18, 0, fun _ => 0) := gTn_e (T := T00 L) (g := 5) (by show 500000 = 5 * 100000 + 0; omega)
  rw [e]
theorem T02_n {L : Nat} : (T02 L).2.1 5 = 1 ∧ (T02 L).2.1 2 = 0 := ⟨rfl, rfl⟩
theorem T02_k {L k : Nat} (h : ¬ (100000 ≤ k ∧ k < 100054)) (h2 : ¬ k = 500000) : (T02 L).1 k = (T01 L).1 k := mkX_k (T := T01 L) rfl (by omega) h2
theorem T03_n {L : Nat} : (T03 L).2.1 5 = 2 ∧ (T03 L).2.1 2 = 0 := ⟨rfl, rfl⟩
theorem T03_k {L k : Nat} (h : ¬ k = 500001) : (T03 L).1 k = (T02 L).1 k := gTn_k (by rw [T02_n.1]; omega)
theorem T03_x {L : Nat} : (T03 L).1 500001 = (19, 0, fun _ => 0) := gTn_e (T := T02 L) (g := 5) (by rw [T02_n.1])
theorem T04_n {L : Nat} : (T04 L).2.1 5 = 2 := rfl
theorem T04_k {L k : Nat} (h : ¬ (200000 ≤ k ∧ k < 200011)) (h2 : ¬ k = 500001) : (T04 L).1 k = (T03 L).1 k := by
  have e : (T04 L).1 k = (mT (T03 L)).1 k := gM_out (by show k < 2 * 100000 + (T03 L).2.1 2 ∨ 2 * 100000 + (T03 L).2.1 2 + 11 ≤ k; rw [T03_n.2]; omega)
  rw [e, mT_k h2]
theorem T05_k {L k : Nat} (h : ¬ k = 500002) : (T05 L).1 k = (T04 L).1 k := gTn_k (by rw [T04_n]; omega)
theorem T05_o {L : Nat} : ((T05 L).1 500002).1 = 3 ∧ ((T05 L).1 500002).2.1 = 1 := by
  have e : (T05 L).1 500002 = (3, 1, fun _ => 0) := gTn_e (T := T04 L) (g := 5) (by rw [T04_n])
  rw [e]
  exact ⟨rfl, rfl⟩
theorem T05_2 {L k : Nat} (h1 : ¬ k = 500002) (h2 : ¬ (200000 ≤ k ∧ k < 200011)) (h3 : ¬ k = 500001) : (T05 L).1 k = (T02 L).1 k := by
  rw [T05_k h1, T04_k h2 h3, T03_k h3]
theorem T05_0 {L k : Nat} (h1 : ¬ (500000 ≤ k ∧ k < 500003)) (h2 : ¬ (200000 ≤ k ∧ k < 200011)) (h3 : ¬ (100000 ≤ k ∧ k < 100054)) : (T05 L).1 k = (T00 L).1 k := by
  rw [T05_2 (by omega) h2 (by omega), T02_k h3 (by omega), T01_k (by omega)]
theorem T05_z {L k : Nat} (h : (300000 ≤ k ∧ k < 500000) ∨ (700000 ≤ k ∧ k < 800000)) : ((T05 L).1 k).1 = 0 := by
  rw [T05_0 (by omega) (by omega) (by omega), T00_z (by omega) (by omega)]
theorem T05_X {L : Nat} : XT (T05 L) := XT_of (mkX_XT (T := T01 L) (w := 4620) rfl T01_x) (T05_2 (by decide) (by decide) (by decide))
theorem T05_H {L : Nat} : HT (T05 L) := by
  have h := (mkX_CT (T := xT (T01 L)) (w := 4620) rfl).1.2.2.2.2.2.2
  unfold HT at h ⊢
  rw [T05_2 (by decide) (by decide) (by decide), T05_2 (by decide) (by decide) (by decide)]
  exact h
theorem T05_C {L : Nat} : CT (T05 L) := CT_of (mkX_CT (T := xT (T01 L)) (w := 4620) rfl).1 (fun k k0 k1 => T05_2 (by omega) (by omega) (by omega)) T05_H
theorem T05_P {L : Nat} : PT (T05 L) 100051 12 := PT_of (mkX_CT (T := xT (T01 L)) (w := 4620) rfl).2.1 (fun k hk => T05_2 (by omega) (by omega) (by omega))
theorem T04_a {L i t n : Nat} (h : i < 11) (h1 : (mkM[i]?.map fun x => x.1) = some t) (h2 : (mkM[i]?.map fun x => x.2.1) = some n) : ((T05 L).1 (200000 + i)).1 = t ∧ ((T05 L).1 (200000 + i)).2.1 = n := by
  rw [T05_k (by omega)]
  exact ⟨gM_tag (T := mT (T03 L)) (B := 200000) (by show 200000 = 2 * 100000 + (T03 L).2.1 2; rw [T03_n.2]) h1, gM_len (T := mT (T03 L)) (B := 200000) (by show 200000 = 2 * 100000 + (T03 L).2.1 2; rw [T03_n.2]) h2⟩
theorem T05_M {L : Nat} : MT (T05 L) 200000 := by
  have e : (T05 L).1 500001 = (mT (T03 L)).1 500001 := by
    rw [T05_k (by decide)]
    exact gM_out (by show 500001 < 2 * 100000 + (T03 L).2.1 2 ∨ 2 * 100000 + (T03 L).2.1 2 + 11 ≤ 500001; rw [T03_n.2]; decide)
  have ma : MA (T05 L) := ⟨T04_a (i := 0) (by decide) rfl rfl, T04_a (i := 1) (by decide) rfl rfl, T04_a (i := 2) (by decide) rfl rfl, T04_a (i := 3) (by decide) rfl rfl, T04_a (i := 4) (by decide) rfl rfl, T04_a (i := 5) (by decide) rfl rfl, T04_a (i := 6) (by decide) rfl rfl, T04_a (i := 7) (by decide) rfl rfl, T04_a (i := 8) (by decide) rfl rfl, T04_a (i := 9) (by decide) rfl rfl, T04_a (i := 10) (by decide) rfl rfl⟩
  unfold MT
  rw [e]
  unfold mT
  simp only [gTr_s]
  rw [T03_x]
  exact ⟨rfl, ⟨rfl, rfl, rfl, rfl, rfl, rfl, rfl, rfl, rfl, rfl, rfl⟩, rfl, Or.inl trivial, ma⟩
theorem mT_2 {T : gT} : (mT T).2 = T.2 := rfl
theorem xT_2 {T : gT} : (xT T).2 = T.2 := rfl
theorem mkX_len : mkX.length = 54 := by decide +kernel
theorem T05_s {L s : Nat} (h1 : ¬ s = 1) (h2 : ¬ s = 2) (h5 : ¬ s = 5) : (T05 L).2.1 s = 0 := by
  have e5 : (T05 L).2.1 s = (T04 L).2.1 s := va_up_ne _ _ h5
  have e4 : (T04 L).2.1 s = (mT (T03 L)).2.1 s := va_up_ne _ _ h2
  have e3 : (T03 L).2.1 s = (T02 L).2.1 s := va_up_ne _ _ h5
  have e2 : (T02 L).2.1 s = (xT (T01 L)).2.1 s := va_up_ne _ _ h1
  have e1 : (T01 L).2.1 s = (T00 L).2.1 s := va_up_ne _ _ h5
  rw [e5, e4, mT_2, e3, e2, xT_2, e1]
  rfl
theorem T05_c {L : Nat} : (T05 L).2.2.1 = 68 ∧ (T05 L).2.2.2 = 59851 := by
  have a5 : (T05 L).2.2.1 = (T04 L).2.2.1 + 1 := rfl
  have a4 : (T04 L).2.2.1 = (mT (T03 L)).2.2.1 + 11 := rfl
  have a3 : (T03 L).2.2.1 = (T02 L).2.2.1 + 1 := rfl
  have a2 : (T02 L).2.2.1 = (xT (T01 L)).2.2.1 + mkX.length := rfl
  have a1 : (T01 L).2.2.1 = 0 + 1 := rfl
  have b5 : (T05 L).2.2.2 = (T04 L).2.2.2 + 1 := rfl
  have b4 : (T04 L).2.2.2 = (mT (T03 L)).2.2.2 + 55193 := rfl
  have b3 : (T03 L).2.2.2 = (T02 L).2.2.2 + 26 := rfl
  have b2 : (T02 L).2.2.2 = (xT (T01 L)).2.2.2 + 4620 := rfl
  have b1 : (T01 L).2.2.2 = 0 + 11 := rfl
  rw [mT_2] at a4 b4
  rw [xT_2, mkX_len] at a2
  rw [xT_2] at b2
  omega
theorem T05_F {L : Nat} : FRE 0 12 (T05 L) := by
  have s7 : (T05 L).2.1 7 = 0 := T05_s (by decide) (by decide) (by decide)
  have s4 : (T05 L).2.1 4 = 0 := T05_s (by decide) (by decide) (by decide)
  have s3 : (T05 L).2.1 3 = 0 := T05_s (by decide) (by decide) (by decide)
  obtain ⟨c1, c2⟩ := T05_c (L := L)
  unfold FRE
  rw [s7, s4, s3, c1, c2]
  exact ⟨⟨fun k k0 k1 => T05_z (by omega), Nat.le_refl _⟩, fun k k0 k1 => T05_z (by omega), ⟨0, ⟨by decide, Nat.le_refl _⟩, by decide⟩, by decide, by decide⟩
theorem T05_R {L : Nat} {c : gC} (h1 : c 100052 1 = 0) (h2 : c 100052 2 = 0) : HR (T05 L) c := by
  have s3 : (T05 L).2.1 3 = 0 := T05_s (by decide) (by decide) (by decide)
  refine ⟨0, T05_H, by decide, s3, fun k k0 k1 => T05_z (by omega), fun i hi => absurd hi (by omega), fun i _ => ?_, by omega, by omega, by omega⟩
  rw [T05_2 (by decide) (by decide) (by decide)]
  exact (mkX_CT (T := xT (T01 L)) (w := 4620) rfl).2.2 i
