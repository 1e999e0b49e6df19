/-! the law's loop -/
theorem zand_63 (a : Int) : 0 ≤ zand a 63 ∧ zand a 63 < 64 := by
  unfold zand
  show 0 ≤ ((Int32.ofInt a &&& Int32.ofInt 63).toBitVec).toInt ∧ ((Int32.ofInt a &&& Int32.ofInt 63).toBitVec).toInt < 64
  rw [Int32.toBitVec_and]
  have h1 : ((Int32.ofInt a).toBitVec &&& (Int32.ofInt 63).toBitVec).toNat = (Int32.ofInt a).toBitVec.toNat % 64 := by
    rw [BitVec.toNat_and, show (Int32.ofInt 63).toBitVec.toNat = 2 ^ 6 - 1 from rfl, Nat.and_two_pow_sub_one_eq_mod]
  rw [BitVec.toInt_eq_toNat_of_lt (by rw [h1]; omega), h1]
  omega
def lawpc : List Nat := [312, 416, 452, 465, 478, 491, 504, 517, 589, 602, 658, 714, 770, 826, 894, 950, 1018, 1086, 1166, 1222, 1235, 1291, 1347, 1403, 1471, 1527, 1583, 1596, 1609, 1622, 1635, 1648, 1704, 1760, 1816, 1830, 1898, 1954, 2038, 2122, 2178, 2222, 2278, 2291, 2304, 2360, 2416, 2472, 2556, 2600, 2613, 2626, 2682, 2738, 2794, 2850, 2863, 2926, 2982, 3050, 3118, 3186, 3242, 3298]
/-- how it ends: true, within its room -/
def LEND : am_O → am_M → Prop := fun o M' => o = .inl (some (gi 1)) ∧ am_cc M' ≤ 601024 ∧ am_sl M' ≤ 7293034
theorem IV_end {n L : Nat} {T : gT} {c J : gC} (h : IV n L T c) (hn : n ≤ 600) : LEND (.inl (some (gi (bi true)))) (gm T c J) := by
  obtain ⟨⟨G, Lo, R, Z, ⟨⟨-, -, -, -, ⟨m, hm⟩⟩, ⟨-, -, ⟨q, ⟨q1, q2⟩, -⟩, f1, f2⟩⟩, -⟩, -⟩ := h
  have e3 := hm.2.2.1
  have e4 := hm.2.1
  refine ⟨rfl, ?_, ?_⟩
  · show T.2.2.1 ≤ 601024
    omega
  · show T.2.2.2 ≤ 7293034
    omega
set_option maxHeartbeats 4000000 in
theorem lw_sw {L : Nat} (hops : ∀ k, k < 64 → OPC L (lawpc.getD k 0)) {n : Nat} {T : gT} {c J : gC} {i : Int} {u5 u6 : Value} {Q : am_O → am_M → Prop} (hn : n < 900) (h : IV n L T c) (hL : L ≤ 3072) (hi : 0 ≤ i ∧ i + 6 ≤ (L : Int)) (hu : am_nl u5 = true) (hv : am_nl u6 = true) (hend : ∀ T2 c2 J2 (k b : Value), IV (n + 1) L T2 c2 → am_nl k = true → am_nl b = true → gw 13 5 388 3366 [.ref 800000, .ref 500000, .ref 500001, .ref 500002, gi i, k, b] [] (gm T2 c2 J2) Q) {z : Int} (hz : 0 ≤ z ∧ z < 64) : gw 13 5 388 40 [.ref 800000, .ref 500000, .ref 500001, .ref 500002, gi i, u5, u6] [gi z] (gm T c J) Q := by
  have key : ∀ k : Nat, k < 64 → (if (k : Int) < 0 ∨ 63 < (k : Int) then some (((40 : Nat) : Int) + 3326).toNat else ((#[272, 376, 412, 425, 438, 451, 464, 477, 549, 562, 618, 674, 730, 786, 854, 910, 978, 1046, 1126, 1182, 1195, 1251, 1307, 1363, 1431, 1487, 1543, 1556, 1569, 1582, 1595, 1608, 1664, 1720, 1776, 1790, 1858, 1914, 1998, 2082, 2138, 2182, 2238, 2251, 2264, 2320, 2376, 2432, 2516, 2560, 2573, 2586, 2642, 2698, 2754, 2810, 2823, 2886, 2942, 3010, 3078, 3146, 3202, 3258] : Array Int)[((k : Int) - 0).toNat]?).map fun o => (((40 : Nat) : Int) + o).toNat) = some (lawpc.getD k 0) := by decide +kernel
  have e : ((z.toNat : Nat) : Int) = z := by omega
  have k1 := key z.toNat (by omega)
  rw [e] at k1
  exact gw_sw at388_40 (by omega) k1 (hops z.toNat (by omega) hn h hL hi hu hv hend)
set_option maxHeartbeats 1000000 in
theorem lw_loop {L : Nat} (hL : L ≤ 3072) (hops : ∀ k, k < 64 → OPC L (lawpc.getD k 0)) : ∀ (r n : Nat) (T : gT) (c J : gC) (u5 u6 : Value), L ≤ 6 * (n + r) → n ≤ 512 → IV n L T c → am_nl u5 = true → am_nl u6 = true → gw 13 5 388 23 [.ref 800000, .ref 500000, .ref 500001, .ref 500002, gi (6 * (n : Int)), u5, u6] [] (gm T c J) LEND := by
  intro r
  induction r with
  | zero =>
    intro n T c J u5 u6 h1 h2 h hu hv
    refine gw_il4 at388_23 (gw_al0 at388_25 (gw_len (n := L) (z := (L : Int)) at388_26 (Or.inr (Or.inr (Or.inr (Or.inr (Or.inl h.2.1))))) h.2.2 rfl (gw_bip at388_27 (by decide) (gw_isub at388_29 ?_))))
    refine gw_cgt at388_30 (by omega) (by omega) (fun q => ?_) (fun q => absurd (show (L : Int) - 6 < 6 * (n : Int) by omega) q)
    exact gw_const at388_3372 (gw_r1 at388_3373 am_r388.2.1 (IV_end h (by omega)))
  | succ r ih =>
    intro n T c J u5 u6 h1 h2 h hu hv
    refine gw_il4 at388_23 (gw_al0 at388_25 (gw_len (n := L) (z := (L : Int)) at388_26 (Or.inr (Or.inr (Or.inr (Or.inr (Or.inl h.2.1))))) h.2.2 rfl (gw_bip at388_27 (by decide) (gw_isub at388_29 ?_))))
    refine gw_cgt at388_30 (by omega) (by omega) (fun q => ?_) (fun q => ?_)
    · exact gw_const at388_3372 (gw_r1 at388_3373 am_r388.2.1 (IV_end h (by omega)))
    · refine gw_al0 at388_33 (gw_il4 at388_34 (gw_ia at388_36 (Or.inr h.2.1) h.2.2 (by omega) (by omega) (by omega) (gw_bip at388_37 (by decide) (gw_iand at388_39 ?_))))
      refine lw_sw hops (by omega) h hL (by omega) hu hv (fun T2 c2 J2 k b h3 hk hb => ?_) (zand_63 _)
      refine gw_inc4 at388_3366 (h := gw_goto at388_3369 ?_)
      have h9 := ih (n + 1) T2 c2 J2 k b (by omega) (by omega) h3 hk hb
      rw [show 6 * ((n + 1 : Nat) : Int) = 6 * (n : Int) + 6 by omega] at h9
      exact h9
