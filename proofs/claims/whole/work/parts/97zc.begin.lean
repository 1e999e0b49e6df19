/-! the law, from its first instruction -/
theorem all_ops {L : Nat} : ∀ k, k < 64 → OPC L (lawpc.getD k 0)
  | 0, _ => op_0
  | 1, _ => op_1
  | 2, _ => op_2
  | 3, _ => op_3
  | 4, _ => op_4
  | 5, _ => op_5
  | 6, _ => op_6
  | 7, _ => op_7
  | 8, _ => op_8
  | 9, _ => op_9
  | 10, _ => op_10
  | 11, _ => op_11
  | 12, _ => op_12
  | 13, _ => op_13
  | 14, _ => op_14
  | 15, _ => op_15
  | 16, _ => op_16
  | 17, _ => op_17
  | 18, _ => op_18
  | 19, _ => op_19
  | 20, _ => op_20
  | 21, _ => op_21
  | 22, _ => op_22
  | 23, _ => op_23
  | 24, _ => op_24
  | 25, _ => op_25
  | 26, _ => op_26
  | 27, _ => op_27
  | 28, _ => op_28
  | 29, _ => op_29
  | 30, _ => op_30
  | 31, _ => op_31
  | 32, _ => op_32
  | 33, _ => op_33
  | 34, _ => op_34
  | 35, _ => op_35
  | 36, _ => op_36
  | 37, _ => op_37
  | 38, _ => op_38
  | 39, _ => op_39
  | 40, _ => op_40
  | 41, _ => op_41
  | 42, _ => op_42
  | 43, _ => op_43
  | 44, _ => op_44
  | 45, _ => op_45
  | 46, _ => op_46
  | 47, _ => op_47
  | 48, _ => op_48
  | 49, _ => op_49
  | 50, _ => op_50
  | 51, _ => op_51
  | 52, _ => op_52
  | 53, _ => op_53
  | 54, _ => op_54
  | 55, _ => op_55
  | 56, _ => op_56
  | 57, _ => op_57
  | 58, _ => op_58
  | 59, _ => op_59
  | 60, _ => op_60
  | 61, _ => op_61
  | 62, _ => op_62
  | 63, _ => op_63
  | k + 64, h => absurd h (by omega)
theorem T01_LT {L : Nat} {xs : Nat → Int32} : LT (T01 L) (gz (c00 xs) 500000) := LT_of c00_LT (fun k hk => T01_k (by omega)) fun k hk j => gz_k (by omega)
theorem T01_TX {xs : Nat → Int32} : TX (gz (c00 xs) 500000) := TX_o c00_TX fun k hk => funext fun j => gz_k (by omega)
theorem KWS_of {c d : gC} (hT : TX d) (h0 : c (100032 + 1) 0 = nmo d 0 4) (h1 : c (100032 + 1) 1 = nmo d 1 4) (h2 : c (100032 + 1) 2 = nmo d 2 6) (h3 : c (100032 + 1) 3 = nmo d 3 5) (h4 : c (100032 + 1) 4 = nmo d 4 5) (h5 : c (100032 + 1) 5 = nmo d 5 4) (h6 : c (100032 + 1) 6 = nmo d 6 6) (h7 : c (100032 + 1) 7 = nmo d 7 4) (h8 : c (100032 + 1) 8 = nmo d 8 4) : KWS c := by
  intro i hi
  have q := fun (n : Nat) (hn : n < 20) => nmo_wv hT hn (am_tlen.getD n 0) (Nat.le_refl _)
  rcases (show i = 0 ∨ i = 1 ∨ i = 2 ∨ i = 3 ∨ i = 4 ∨ i = 5 ∨ i = 6 ∨ i = 7 ∨ i = 8 by omega) with e | e | e | e | e | e | e | e | e <;> subst e
  · exact h0.trans (q 0 (by decide))
  · exact h1.trans (q 1 (by decide))
  · exact h2.trans (q 2 (by decide))
  · exact h3.trans (q 3 (by decide))
  · exact h4.trans (q 4 (by decide))
  · exact h5.trans (q 5 (by decide))
  · exact h6.trans (q 6 (by decide))
  · exact h7.trans (q 7 (by decide))
  · exact h8.trans (q 8 (by decide))
set_option maxHeartbeats 1000000 in
theorem law_begin {L : Nat} {xs : Nat → Int32} (hL : L ≤ 3072) : gw 13 5 388 0 (am_ent 7 [.ref 800000]) [] (am_M0 L xs) LEND := by
  rw [M0_gm]
  show gw 13 5 388 0 [.ref 800000, am_U, am_U, am_U, am_U, am_U, am_U] [] _ _
  refine gw_new at388_0 (by rw [show 5 * 100000 + (T00 L).2.1 5 = 500000 from rfl, T00_z (by decide) (by decide)]) ?_
  show gw 13 5 388 3 [.ref 800000, am_U, am_U, am_U, am_U, am_U, am_U] [.ref 500000] (gm (T01 L) (gz (c00 xs) 500000) (gz (fun _ _ => 0) 500000)) LEND
  refine gw_dupr at388_3 ?_
  refine gw_call1 at388_4 (c_i8 (T := T01 L) rfl (fun i hi => by rw [T01_k (by omega), T00_z (by omega) (by omega)]) T01_x (RG_gz c00_RG) T01_LT) (by omega) (Nat.le_of_ble_eq_true rfl) (fun o M1 q => ?_)
  obtain ⟨rfl, c2, J2, rfl, k1, k2, k3, k4, k5, k6, k7, k8, k9, k10, k11, k12, k13⟩ := q
  show gw 13 5 388 7 [.ref 800000, am_U, am_U, am_U, am_U, am_U, am_U] [.ref 500000] (gm (T02 L) c2 J2) LEND
  refine gw_as1 at388_7 (h := ?_)
  refine gw_new at388_8 (by rw [T02_n.1, T02_k (by omega) (by omega), T01_k (by omega), T00_z (by omega) (by omega)]) ?_
  rw [T02_n.1]
  show gw 13 5 388 11 [.ref 800000, .ref 500000, am_U, am_U, am_U, am_U, am_U] [.ref 500001] (gm (T03 L) (gz c2 500001) (gz J2 500001)) LEND
  refine gw_dupr at388_11 ?_
  refine gw_call1 at388_12 (m_init (T := T03 L) (by rw [T03_n.2]) (fun i hi => by rw [T03_k (by omega), T02_k (by omega) (by omega), T01_k (by omega), T00_z (by omega) (by omega)]) (by rw [T03_x]) (RG_gz k1)) (by omega) (Nat.le_of_ble_eq_true rfl) (fun o M1 q => ?_)
  obtain ⟨rfl, c4, J4, rfl, l1, l2, l3, l4, l5, l6⟩ := q
  show gw 13 5 388 15 [.ref 800000, .ref 500000, am_U, am_U, am_U, am_U, am_U] [.ref 500001] (gm (T04 L) c4 J4) LEND
  refine gw_as2 at388_15 (h := ?_)
  refine gw_const at388_16 ?_
  refine gw_newL (n := 1) at388_17 rfl (by decide) (by rw [T04_n, T04_k (by omega) (by omega), T03_k (by omega), T02_k (by omega) (by omega), T01_k (by omega), T00_z (by omega) (by omega)]) ?_
  rw [T04_n]
  show gw 13 5 388 19 [.ref 800000, .ref 500000, .ref 500001, am_U, am_U, am_U, am_U] [.ref 500002] (gm (T05 L) (gz c4 500002) (gz J4 500002)) LEND
  refine gw_as3 at388_19 (h := ?_)
  refine gw_const at388_20 (gw_is4 at388_21 (h := ?_))
  -- the memory
  have z2 : ∀ k : Nat, ¬ k = 500002 → gz c4 500002 k = c4 k := fun k hk => funext fun j => gz_k hk
  have z1 : ∀ k : Nat, ¬ k = 500001 → gz c2 500001 k = c2 k := fun k hk => funext fun j => gz_k hk
  have e2 : ∀ k : Nat, (k < 200000 ∨ 200011 ≤ k) → ¬ k = 500001 → ¬ k = 500002 → gz c4 500002 k = c2 k := fun k hk h1 h2 => (z2 k h2).trans ((l2 k hk h1).1.trans (z1 k h1))
  have e0 : ∀ k : Nat, 900000 ≤ k → gz c4 500002 k = gz (c00 xs) 500000 k := fun k hk => (e2 k (by omega) (by omega) (by omega)).trans (k2 k (by omega) (by omega)).1
  have m5 : ∀ j, ¬ j = 22 → gz c4 500002 500001 j = 0 := fun j hj => by rw [z2 _ (by decide), l3 j hj, gz_s]
  have x1 : ∀ k : Nat, k < 200000 → gz c4 500002 k = c2 k := fun k hk => e2 k (by omega) (by omega) (by omega)
  have iv : IV 0 L (T05 L) (gz c4 500002) := by
    refine IV_first (z0 := gz c2 500001) T05_X T05_C T05_M T05_o T05_P (LT_of T01_LT (fun k hk => by rw [T05_2 (by omega) (by omega) (by omega), T02_k (by omega) (by omega)]) fun k hk j => by rw [e0 k hk]) (T05_R (by rw [x1 _ (by decide)]; exact k13.1) (by rw [x1 _ (by decide)]; exact k13.2)) T05_F ?_ (RG_gz l1) (TX_o T01_TX fun k hk => e0 k (by omega)) ?_ (by rw [e2 _ (by decide) (by decide) (by decide)]; exact k4) (by rw [x1 _ (by decide)]; exact k5.1) (by rw [x1 _ (by decide)]; exact k5.2) ?_ ?_ (by rw [x1 _ (by decide)]; exact k8.1.1) (fun i i0 i1 j => by rw [x1 _ (by omega)]; exact k8.2 i i0 i1 j) (by rw [x1 _ (by decide)]; exact k9.1) (by rw [x1 _ (by decide)]; exact k9.2.1) (FW_of k10 fun x a b => x1 x (by omega)) (by rw [x1 _ (by decide)]; exact k12.1) (fun j j0 j1 => by rw [x1 _ (by decide)]; exact k12.2.1 j j0 j1) (fun i i0 i1 j => by rw [x1 _ (by omega)]; exact k12.2.2 i i0 i1 j) (by rw [x1 _ (by decide)]; exact k13.1) (by rw [x1 _ (by decide)]; exact k13.2) m5 (by rw [z2 _ (by decide)]; exact l4) (fun j j0 j1 => by rw [z2 _ (by decide)]; exact l5 j j0 j1) (fun i i0 i1 j => by rw [z2 _ (by omega)]; exact l6 i i0 i1 j)
    · rw [T05_0 (by decide) (by decide) (by decide)]
      exact ⟨rfl, rfl⟩
    · have r := k9.2.2
      exact KWS_of T01_TX (by rw [x1 _ (by decide)]; exact r.1) (by rw [x1 _ (by decide)]; exact r.2.1) (by rw [x1 _ (by decide)]; exact r.2.2.1) (by rw [x1 _ (by decide)]; exact r.2.2.2.1) (by rw [x1 _ (by decide)]; exact r.2.2.2.2.1) (by rw [x1 _ (by decide)]; exact r.2.2.2.2.2.1) (by rw [x1 _ (by decide)]; exact r.2.2.2.2.2.2.1) (by rw [x1 _ (by decide)]; exact r.2.2.2.2.2.2.2.1) (by rw [x1 _ (by decide)]; exact r.2.2.2.2.2.2.2.2)
    · unfold FN
      rw [x1 100002 (by decide), x1 (100002 + 10) (by decide), x1 (100002 + 11) (by decide)]
      exact ⟨k6.1, fun i i0 i1 j => by rw [x1 _ (by omega)]; exact k6.2.1 i i0 i1 j, k6.2.2⟩
    · unfold FN
      rw [x1 100014 (by decide), x1 (100014 + 10) (by decide), x1 (100014 + 11) (by decide)]
      exact ⟨k7.1, fun i i0 i1 j => by rw [x1 _ (by omega)]; exact k7.2.1 i i0 i1 j, k7.2.2⟩
  have h9 := lw_loop hL all_ops (L / 6 + 1) 0 (T05 L) (gz c4 500002) (gz J4 500002) am_U am_U (by omega) (by omega) iv rfl rfl
  rw [show 6 * ((0 : Nat) : Int) = 0 from rfl] at h9
  exact h9
