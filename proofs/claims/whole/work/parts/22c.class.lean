/-! the class: centre, paths, plans -/
theorem fpx_len {c : gC} {f t i : Int} (hi : i ≤ 24) : 0 ≤ (fpx c f t i).2.2 100026 5 ∧ (fpx c f t i).2.2 100026 5 ≤ 24 := by
  refine itI_inv2 (fun x : Int × Int × gC => 0 ≤ x.2.2 100026 5 ∧ x.2.2 100026 5 ≤ 24) (N := 24) ?_ (fun j x h0 h1 h => ?_) hi
  · dsimp only; rw [gu_s]; omega
  · unfold fps
    split
    · exact h
    · split
      · exact h
      · dsimp only; rw [gu_s]; omega
def bcn (z : Int) : Int :=
  let a := z - zand (zushr z 1) 1431655765
  let b := zand a 858993459 + zand (zushr a 2) 858993459
  let e := zand (b + zushr b 4) 252645135
  let f := e + zushr e 8
  zand (f + zushr f 16) 63
theorem XT_nT {T : gT} {n : Nat} (h : XT T) (hf : T.2.1 4 < 100000) : XT (nT T n) := by
  unfold XT at h ⊢
  rw [nT_k (by omega) (by omega)]
  exact h
set_option maxHeartbeats 1000000 in
theorem c_x_centre {g : Nat} {T : gT} {c J : gC} (hX : XT T) (hT : NT T 100014) (hc : RG c) (hN : NR c 100014) (hW : WT T 100034) (hwn : (T.1 100034).2.2 0 = 100014 + 1) {B : Int} (hR : WR c 100034 B) (hRT : RT T) (hS : SR c) : gE g 120 5 [.ref 500000] (gm T c J) (fun o M1 => o = .inl (some (gi (am1 100000000 (fun n => far (rfr c) n (rfr c 100014 1)) (rfr c 100014 1)).1)) ∧ M1 = gm T (rfr c) J) := by
  have hn1 := hN.1
  obtain ⟨f1, f2, f3⟩ := rfr_ok hc hS hN
  have f4 : NR (rfr c) 100014 := NF_NR (fun i a b j => f3 i (by omega) (by omega) (by omega) j) hN
  have f5 : WR (rfr c) 100034 B := WR_arg hR (fun k a b j => f3 k (by omega) (by omega) (by omega) j)
  have fn1 := f4.1
  refine gE_mk am_r120 rfl (Or.inr ⟨_, rfl, (by first | exact XT_0 hX | exact XT_r4 hX | exact XT_r5 hX | exact XT_r7 hX | exact NT_0 hT | exact WT_0 hW | exact RT_0 hRT | exact RT_r4 hRT | exact RT_t4 hRT | exact RT_l4 hRT)⟩) (fun d hd => ?_)
  show gw d g 120 0 [.ref 500000, am_U, am_U, am_U, am_U, am_U] [] _ _
  refine gw_al0 at120_0 ?_
  refine gw_call1 at120_1 (c_fresh hX hT hc hN hRT) (by omega) (Nat.le_of_ble_eq_true rfl) (fun o M1 q1 => ?_)
  obtain ⟨rfl, rfl⟩ := q1
  show gw _ _ _ _ _ (.ref 100026 :: []) _ _
  refine gw_as1 at120_4 (h := (gw_const at120_5 (gw_is2 at120_6 (h := (gw_ldc (z := 100000000) at120_7 (by decide) (gw_is3 at120_9 (h := (gw_const at120_10 (gw_is4 at120_11 (h := ?_))))))))))
  have lp13 : ∀ n : Int, 0 ≤ n → n ≤ 10 → n ≤ rfr c 100014 1 → ∀ (u l : Int) (w : Value), am_nl w = true → (u, l) = am1 100000000 (fun n => far (rfr c) n (rfr c 100014 1)) n → gw d g 120 13 [.ref 500000, .ref 100026, gi u, gi l, gi n, w] [] (gm T (rfr c) J) (fun o M1 => o = .inl (some (gi (am1 100000000 (fun n => far (rfr c) n (rfr c 100014 1)) (rfr c 100014 1)).1)) ∧ M1 = gm T (rfr c) J) := by
    refine ind_up 10 ?_
    intro n hn0 hn2 ih hn3 u l w hw hz
    have hs1 : u = (am1 100000000 (fun n => far (rfr c) n (rfr c 100014 1)) n).1 := by rw [← hz]
    have hs2 : l = (am1 100000000 (fun n => far (rfr c) n (rfr c 100014 1)) n).2 := by rw [← hz]
    clear hz
    have hl1 : 0 ≤ l ∧ l ≤ 100000000 := by
      rw [hs2]
      exact ⟨am1_0le hn0 (by omega) (fun a => (far_rg f2 a _).1), am1_le hn0⟩
    refine gw_il4 at120_13 ?_
    refine gw_al0 at120_15 (gw_gr at120_16 (by first | exact XT_0 hX | exact XT_r4 hX | exact XT_r5 hX | exact XT_r7 hX | exact NT_0 hT | exact WT_0 hW | exact RT_0 hRT | exact RT_r4 hRT | exact RT_t4 hRT | exact RT_l4 hRT) (by first | exact XT_0 hX | exact XT_r4 hX | exact XT_r5 hX | exact XT_r7 hX | exact NT_0 hT | exact WT_0 hW | exact RT_0 hRT | exact RT_r4 hRT | exact RT_t4 hRT | exact RT_l4 hRT) (gw_gf (j := 1) at120_19 (by first | exact XT_0 hX | exact XT_r4 hX | exact XT_r5 hX | exact XT_r7 hX | exact NT_0 hT | exact WT_0 hW | exact RT_0 hRT | exact RT_r4 hRT | exact RT_t4 hRT | exact RT_l4 hRT) rfl ?_))
    refine gw_cge at120_22 (by first | omega | exact f1 _ _ | (have := far_rg f2 n (rfr c 100014 1); omega)) (by first | omega | exact f1 _ _ | (have := far_rg f2 n (rfr c 100014 1); omega)) (fun q22 => ?_) (fun q22 => ?_)
    · refine gw_il2 at120_51 (gw_ri at120_52 am_r120.2.1 ?_)
      refine ⟨?_, rfl⟩
      rw [hs1, show rfr c 100014 1 = n by omega]
    · refine gw_al1 at120_25 (gw_il4 at120_26 (gw_callP2 at120_28 (c_farthestFrom hRT f1 f2 hT f4 (by omega)) (by omega) (Nat.le_of_ble_eq_true rfl) (gw_is5 at120_31 (h := (gw_il5 at120_33 (gw_il3 at120_35 ?_))))))
      refine gw_cge at120_36 (by first | omega | exact f1 _ _ | (have := far_rg f2 n (rfr c 100014 1); omega)) (by first | omega | exact f1 _ _ | (have := far_rg f2 n (rfr c 100014 1); omega)) (fun q36 => ?_) (fun q36 => ?_)
      · refine gw_inc4 at120_45 (h := (gw_goto at120_48 ?_))
        refine ih (n + 1) (by omega) (by omega) (by omega) _ _ _ rfl ?_
        first | rw [am1_lt hn0 (by rw [← hs2]; omega)] | (rw [am1_ge hn0 (by rw [← hs2]; omega), hs1, hs2])
      · refine gw_il5 at120_39 (gw_is3 at120_41 (h := (gw_il4 at120_42 (gw_is2 at120_44 (h := (gw_inc4 at120_45 (h := (gw_goto at120_48 ?_))))))))
        refine ih (n + 1) (by omega) (by omega) (by omega) _ _ _ rfl ?_
        first | rw [am1_lt hn0 (by rw [← hs2]; omega)] | (rw [am1_ge hn0 (by rw [← hs2]; omega), hs1, hs2])
  exact lp13 0 (by omega) (by omega) (by omega) _ _ _ rfl rfl
set_option maxHeartbeats 1000000 in
theorem c_routesTo {g : Nat} {T : gT} {c J : gC} (hX : XT T) (hT : NT T 100014) (hc : RG c) (hN : NR c 100014) (hW : WT T 100034) (hwn : (T.1 100034).2.2 0 = 100014 + 1) {B : Int} (hR : WR c 100034 B) (hRT : RT T) (hS : SR c) {z : Int} (hz : -2147483648 ≤ z ∧ z < 2147483648) : gE g 172 7 [.ref 500000, gi z] (gm T c J) (fun o M1 => ((0 ≤ z ∧ z < c 100014 1) ∧ (fpx (rfr c) (rfr c 100034 2) z 24).1 = z ∧ o = .inl (some (.ref 100026)) ∧ M1 = gm T (fpx (rfr c) (rfr c 100034 2) z 24).2.2 J) ∨ ((0 ≤ z ∧ z < c 100014 1) ∧ ¬ (fpx (rfr c) (rfr c 100034 2) z 24).1 = z ∧ o = .inr 3 ∧ M1 = gm (gTt T) (fpx (rfr c) (rfr c 100034 2) z 24).2.2 J) ∨ (¬ (0 ≤ z ∧ z < c 100014 1) ∧ o = .inr 2 ∧ M1 = gm (gTt T) c J)) := by
  have hn1 := hN.1
  obtain ⟨f1, f2, f3⟩ := rfr_ok hc hS hN
  have f4 : NR (rfr c) 100014 := NF_NR (fun i a b j => f3 i (by omega) (by omega) (by omega) j) hN
  have f5 : WR (rfr c) 100034 B := WR_arg hR (fun k a b j => f3 k (by omega) (by omega) (by omega) j)
  have fn1 := f4.1
  have hw2 := f5.2.2.1
  refine gE_mk am_r172 rfl (Or.inr ⟨_, rfl, (by first | exact XT_0 hX | exact XT_r4 hX | exact XT_r5 hX | exact XT_r7 hX | exact NT_0 hT | exact WT_0 hW | exact RT_0 hRT | exact RT_r4 hRT | exact RT_t4 hRT | exact RT_l4 hRT)⟩) (fun d hd => ?_)
  show gw d g 172 0 [.ref 500000, gi z, am_U] [] _ _
  refine gw_al0 at172_0 (gw_il1 at172_1 ?_)
  refine gw_call2 at172_2 (c_ckNode hX hT hc hN (by omega)) (by omega) (Nat.le_of_ble_eq_true rfl) (fun o M1 q2 => ?_)
  rcases q2 with ⟨hp2, rfl, rfl⟩ | ⟨hp2, rfl, rfl⟩
  · show gw _ _ _ _ _ [] _ _
    refine gw_al0 at172_5 ?_
    refine gw_call1 at172_6 (c_fresh hX hT hc hN hRT) (by omega) (Nat.le_of_ble_eq_true rfl) (fun o M1 q6 => ?_)
    obtain ⟨rfl, rfl⟩ := q6
    show gw _ _ _ _ _ (.ref 100026 :: []) _ _
    refine gw_as2 at172_9 (h := (gw_al2 at172_10 (gw_al0 at172_11 (gw_gr at172_12 (by first | exact XT_0 hX | exact XT_r4 hX | exact XT_r5 hX | exact XT_r7 hX | exact NT_0 hT | exact WT_0 hW | exact RT_0 hRT | exact RT_r4 hRT | exact RT_t4 hRT | exact RT_l4 hRT) (by first | exact XT_0 hX | exact XT_r4 hX | exact XT_r5 hX | exact XT_r7 hX | exact NT_0 hT | exact WT_0 hW | exact RT_0 hRT | exact RT_r4 hRT | exact RT_t4 hRT | exact RT_l4 hRT) (gw_gf (j := 2) at172_15 (by first | exact XT_0 hX | exact XT_r4 hX | exact XT_r5 hX | exact XT_r7 hX | exact NT_0 hT | exact WT_0 hW | exact RT_0 hRT | exact RT_r4 hRT | exact RT_t4 hRT | exact RT_l4 hRT) rfl (gw_il1 at172_18 ?_))))))
    refine gw_call3 at172_19 (c_findPath hRT f1 f2 hT f4 (by omega) (by omega)) (by omega) (Nat.le_of_ble_eq_true rfl) (fun o M1 q19 => ?_)
    obtain ⟨rfl, rfl⟩ := q19
    show gw _ _ _ _ _ (gi _ :: []) _ _
    refine gw_bne at172_22 (fun q22 => ?_) (fun q22 => ?_)
    · refine gw_al2 at172_33 (gw_rr at172_34 am_r172.2.1 ?_)
      exact Or.inl ⟨hp2, of_decide_eq_true q22, rfl, rfl⟩
    · refine gw_thr at172_25 (by omega) (Nat.le_of_ble_eq_true rfl) ?_
      exact Or.inr (Or.inl ⟨hp2, of_decide_eq_false q22, rfl, rfl⟩)
  · refine gK_thr (am_h172 _ (by decide)) ?_
    exact Or.inr (Or.inr ⟨hp2, rfl, rfl⟩)
set_option maxHeartbeats 1000000 in
theorem c_x_pathArc {g : Nat} {T : gT} {c J : gC} (hX : XT T) (hT : NT T 100014) (hc : RG c) (hN : NR c 100014) (hW : WT T 100034) (hwn : (T.1 100034).2.2 0 = 100014 + 1) {B : Int} (hR : WR c 100034 B) (hRT : RT T) (hS : SR c) {z p i : Int} (hz : -2147483648 ≤ z ∧ z < 2147483648) (hp : -2147483648 ≤ p ∧ p < 2147483648) (hi : -2147483648 ≤ i ∧ i < 2147483648) : gE g 114 7 [.ref 500000, gi z, gi p, gi i] (gm T c J) (fun o M1 => ((0 ≤ z ∧ z < c 100014 1) ∧ (0 ≤ p ∧ p < c 100014 1) ∧ (0 ≤ i ∧ i < (fpx (rfr c) z p 24).2.2 100026 5) ∧ o = .inl (some (gi ((fpx (rfr c) z p 24).2.2 100029 i))) ∧ M1 = gm T (fpx (rfr c) z p 24).2.2 J) ∨ ((0 ≤ z ∧ z < c 100014 1) ∧ (0 ≤ p ∧ p < c 100014 1) ∧ ¬ (0 ≤ i ∧ i < (fpx (rfr c) z p 24).2.2 100026 5) ∧ o = .inr 3 ∧ M1 = gm (gTt T) (fpx (rfr c) z p 24).2.2 J) ∨ (¬ ((0 ≤ z ∧ z < c 100014 1) ∧ (0 ≤ p ∧ p < c 100014 1)) ∧ o = .inr 2 ∧ M1 = gm (gTt T) c J)) := by
  have hn1 := hN.1
  obtain ⟨f1, f2, f3⟩ := rfr_ok hc hS hN
  have f4 : NR (rfr c) 100014 := NF_NR (fun i a b j => f3 i (by omega) (by omega) (by omega) j) hN
  have f5 : WR (rfr c) 100034 B := WR_arg hR (fun k a b j => f3 k (by omega) (by omega) (by omega) j)
  have fn1 := f4.1
  have hle := fpx_len (c := rfr c) (f := z) (t := p) (i := 24) (by omega)
  refine gE_mk am_r114 rfl (Or.inr ⟨_, rfl, (by first | exact XT_0 hX | exact XT_r4 hX | exact XT_r5 hX | exact XT_r7 hX | exact NT_0 hT | exact WT_0 hW | exact RT_0 hRT | exact RT_r4 hRT | exact RT_t4 hRT | exact RT_l4 hRT)⟩) (fun d hd => ?_)
  show gw d g 114 0 [.ref 500000, gi z, gi p, gi i, am_U] [] _ _
  refine gw_al0 at114_0 (gw_il1 at114_1 ?_)
  refine gw_call2 at114_2 (c_ckNode hX hT hc hN (by omega)) (by omega) (Nat.le_of_ble_eq_true rfl) (fun o M1 q2 => ?_)
  rcases q2 with ⟨hp2, rfl, rfl⟩ | ⟨hp2, rfl, rfl⟩
  · show gw _ _ _ _ _ [] _ _
    refine gw_al0 at114_5 (gw_il2 at114_6 ?_)
    refine gw_call2 at114_7 (c_ckNode hX hT hc hN (by omega)) (by omega) (Nat.le_of_ble_eq_true rfl) (fun o M1 q7 => ?_)
    rcases q7 with ⟨hp7, rfl, rfl⟩ | ⟨hp7, rfl, rfl⟩
    · show gw _ _ _ _ _ [] _ _
      refine gw_al0 at114_10 ?_
      refine gw_call1 at114_11 (c_fresh hX hT hc hN hRT) (by omega) (Nat.le_of_ble_eq_true rfl) (fun o M1 q11 => ?_)
      obtain ⟨rfl, rfl⟩ := q11
      show gw _ _ _ _ _ (.ref 100026 :: []) _ _
      refine gw_as4 at114_14 (h := (gw_al4 at114_16 (gw_il1 at114_18 (gw_il2 at114_19 ?_))))
      refine gw_call3 at114_20 (c_findPath hRT f1 f2 hT f4 (by omega) (by omega)) (by omega) (Nat.le_of_ble_eq_true rfl) (fun o M1 q20 => ?_)
      obtain ⟨rfl, rfl⟩ := q20
      have hf9 := fpx_ok (f := z) (t := p) (i := 24) f4 f1 (by omega) (by omega)
      show gw _ _ _ _ _ (gi _ :: []) _ _
      refine gw_popi at114_23 (gw_il3 at114_24 ?_)
      refine gw_zlt at114_25 (by first | omega | exact f1 _ _ | exact hf9.1 _ _) (fun q25 => ?_) (fun q25 => ?_)
      · refine gw_thr at114_37 (by omega) (Nat.le_of_ble_eq_true rfl) ?_
        exact Or.inr (Or.inl ⟨hp2, hp7, by omega, rfl, rfl⟩)
      · refine gw_il3 at114_28 (gw_al4 at114_29 (gw_gf (j := 5) at114_31 (by first | exact XT_0 hX | exact XT_r4 hX | exact XT_r5 hX | exact XT_r7 hX | exact NT_0 hT | exact WT_0 hW | exact RT_0 hRT | exact RT_r4 hRT | exact RT_t4 hRT | exact RT_l4 hRT) rfl ?_))
        refine gw_clt at114_34 (by first | omega | exact f1 _ _ | exact hf9.1 _ _) (by first | omega | exact f1 _ _ | exact hf9.1 _ _) (fun q34 => ?_) (fun q34 => ?_)
        · refine gw_al4 at114_45 (gw_gr at114_47 (by first | exact XT_0 hX | exact XT_r4 hX | exact XT_r5 hX | exact XT_r7 hX | exact NT_0 hT | exact WT_0 hW | exact RT_0 hRT | exact RT_r4 hRT | exact RT_t4 hRT | exact RT_l4 hRT) (by first | exact XT_0 hX | exact XT_r4 hX | exact XT_r5 hX | exact XT_r7 hX | exact NT_0 hT | exact WT_0 hW | exact RT_0 hRT | exact RT_r4 hRT | exact RT_t4 hRT | exact RT_l4 hRT) (gw_il3 at114_50 (gw_ia at114_51 (by first | exact Or.inl (by first | exact XT_0 hX | exact XT_r4 hX | exact XT_r5 hX | exact XT_r7 hX | exact NT_0 hT | exact WT_0 hW | exact RT_0 hRT | exact RT_r4 hRT | exact RT_t4 hRT | exact RT_l4 hRT) | exact Or.inr (by first | exact XT_0 hX | exact XT_r4 hX | exact XT_r5 hX | exact XT_r7 hX | exact NT_0 hT | exact WT_0 hW | exact RT_0 hRT | exact RT_r4 hRT | exact RT_t4 hRT | exact RT_l4 hRT)) (by first | exact XT_0 hX | exact XT_r4 hX | exact XT_r5 hX | exact XT_r7 hX | exact NT_0 hT | exact WT_0 hW | exact RT_0 hRT | exact RT_r4 hRT | exact RT_t4 hRT | exact RT_l4 hRT) (by first | omega | exact f1 _ _ | exact hf9.1 _ _) (by first | omega | exact f1 _ _ | exact hf9.1 _ _) (by omega) (gw_ri at114_52 am_r114.2.1 ?_))))
          exact Or.inl ⟨hp2, hp7, by omega, rfl, rfl⟩
        · refine gw_thr at114_37 (by omega) (Nat.le_of_ble_eq_true rfl) ?_
          exact Or.inr (Or.inl ⟨hp2, hp7, by omega, rfl, rfl⟩)
    · refine gK_thr (am_h114 _ (by decide)) ?_
      exact Or.inr (Or.inr ⟨fun h => hp7 h.2, rfl, rfl⟩)
  · refine gK_thr (am_h114 _ (by decide)) ?_
    exact Or.inr (Or.inr ⟨fun h => hp2 h.1, rfl, rfl⟩)
set_option maxHeartbeats 1000000 in
theorem c_bitCount {g : Nat} {T : gT} {c J : gC} {z : Int} (hz : -2147483648 ≤ z ∧ z < 2147483648) : gE g 332 0 [gi z] (gm T c J) (gR (gi (bcn z)) (gm T c J)) := by
  refine gE_mk am_r332 rfl (Or.inl rfl) (fun d hd => ?_)
  show gw d g 332 0 [gi z] [] _ _
  refine gw_il0 at332_0 (gw_il0 at332_1 (gw_const at332_2 (gw_iushr at332_3 (gw_ldcw (z := 1431655765) at332_4 (by decide) (gw_iand at332_7 (gw_isub at332_8 (gw_is0 at332_9 (h := (gw_il0 at332_10 (gw_ldcw (z := 858993459) at332_11 (by decide) (gw_iand at332_14 (gw_il0 at332_15 (gw_const at332_16 (gw_iushr at332_17 (gw_ldcw (z := 858993459) at332_18 (by decide) (gw_iand at332_21 (gw_iadd at332_22 (gw_is0 at332_23 (h := (gw_il0 at332_24 (gw_il0 at332_25 (gw_const at332_26 (gw_iushr at332_27 (gw_iadd at332_28 (gw_ldcw (z := 252645135) at332_29 (by decide) (gw_iand at332_32 (gw_is0 at332_33 (h := (gw_il0 at332_34 (gw_il0 at332_35 (gw_bip at332_36 (by decide) (gw_iushr at332_38 (gw_iadd at332_39 (gw_is0 at332_40 (h := (gw_il0 at332_41 (gw_il0 at332_42 (gw_bip at332_43 (by decide) (gw_iushr at332_45 (gw_iadd at332_46 (gw_is0 at332_47 (h := (gw_il0 at332_48 (gw_bip at332_49 (by decide) (gw_iand at332_51 (gw_ri at332_52 am_r332.2.1 (gR_i ?_)))))))))))))))))))))))))))))))))))))))))))))))
  rfl
