/-! the class: a plan is solved -/
theorem slw_ok {c : gC} {R Z : Nat} {z K : Int} (hc : RG c) (hA : PR c) (hQ : PQ c R Z) (hR : R = 100051 ∨ 400000 ≤ R ∧ R < 500000) (hz : 1 ≤ z ∧ z ≤ 3) (hK : 0 ≤ K ∧ K ≤ 100000000) : RG (slw c R z K) ∧ PR (slw c R z K) ∧ PQ (slw c R z K) R Z ∧ ∀ k : Nat, ¬ (100045 ≤ k ∧ k ≤ 100048) → ∀ j, slw c R z K k j = c k j := by
  have hn := hQ.1
  obtain ⟨h1, h2, -, -, -⟩ : (0 ≤ zshl 1 (c 100044 8) ∧ True) ∧ True ∧ True ∧ True ∧ True := ⟨⟨by have := shl_rg hn; omega, trivial⟩, trivial, trivial, trivial, trivial⟩
  have hx : ∀ X : gC, X = (if K < 100000000 then cho c R ((z - 1) * 12) else c) → RG X ∧ PR X ∧ OF c X := by
    intro X hX
    subst hX
    split
    · obtain ⟨-, -, q1, q2, q3⟩ := chx_ok (R := R) hc hA hQ (p := (z - 1) * 12) (by omega) (i := c 100044 8) hn.1 (by omega)
      exact ⟨q2, q3, q1⟩
    · exact ⟨hc, hA, fun _ _ _ => rfl⟩
  unfold slw
  generalize hX : (if K < 100000000 then cho c R ((z - 1) * 12) else c) = X
  obtain ⟨g1, g2, g3⟩ := hx X hX.symm
  refine ⟨RG_gu (RG_gu (RG_gu g1 (by split <;> omega)) (by split <;> omega)) (hc _ _), ⟨fun i a b => ?_, fun i a b => ?_⟩, ?_, fun k hk j => ?_⟩
  · rw [gu_k (by omega)]
    have := g2.1 i a b
    unfold gu
    split
    · split <;> omega
    · rw [if_neg (by omega)]; omega
  · rw [gu_k (by omega), gu_k (by omega), gu_k (by omega)]; exact g2.2 i a b
  · have e : ∀ k : Nat, ¬ (100045 ≤ k ∧ k ≤ 100048) → ∀ j, gu (gu (gu X 100047 (z - 1) (if 100000000 ≤ K then -1 else K)) 100046 (z - 1) (if K < 100000000 then c 100044 8 else 0)) 100045 (z - 1) (c 100014 0) k j = c k j := fun k hk j => by
      rw [gu_k (by omega), gu_k (by omega), gu_k (by omega)]; exact g3 k (by omega) j
    refine ⟨by rw [e _ (by omega)]; exact hQ.1, fun i a b => ?_, fun i a b => ?_⟩
    · rw [e _ (by omega), e _ (by omega)]; exact hQ.2.1 i a b
    · rw [e _ (by omega)]; exact hQ.2.2 i a b
  · rw [gu_k (by omega), gu_k (by omega), gu_k (by omega)]; exact g3 k (by omega) j
theorem slk_rg {c : gC} {R Z : Nat} (hS : SR c) (hQ : PQ c R Z) (hK : PW (zshl 1 (c 100044 8)) (c 100044 8) Z) : 0 ≤ slk c R ∧ slk c R ≤ 100000000 := by
  have hsn := shl_rg hQ.1
  unfold slk
  split
  · omega
  · exact bst_rg hS hQ hK (by omega) hsn.2.1
/-- what solve leaves: shape and numbers, from T and c to T' and c' -/
def slR (T : gT) (c J : gC) (R Z : Nat) (z : Int) (T' : gT) (c' J' : gC) (R' Z' : Nat) : Prop :=
  ((¬ (1 ≤ z ∧ z ≤ 3) ∨ c 100045 (z - 1) = c 100014 0) ∧ T' = T ∧ c' = c ∧ J' = J ∧ R' = R ∧ Z' = Z) ∨
  ((1 ≤ z ∧ z ≤ 3) ∧ ¬ c 100045 (z - 1) = c 100014 0) ∧
   (((zshl 1 (sc1 c z 100044 8) * sc1 c z 100044 8) ≤ (Z : Int) ∧ T' = T ∧ c' = slw (fil (sc1 c z) R) R z (slk (fil (sc1 c z) R) R) ∧ J' = J ∧ R' = R ∧ Z' = Z) ∨
    ((Z : Int) < (zshl 1 (sc1 c z 100044 8) * sc1 c z 100044 8) ∧ T' = nT T (zshl 1 (sc1 c z 100044 8) * sc1 c z 100044 8).toNat ∧ c' = slw (fil (gz (sc1 c z) (4 * 100000 + T.2.1 4)) (4 * 100000 + T.2.1 4)) (4 * 100000 + T.2.1 4) z (slk (fil (gz (sc1 c z) (4 * 100000 + T.2.1 4)) (4 * 100000 + T.2.1 4)) (4 * 100000 + T.2.1 4)) ∧ J' = gz J (4 * 100000 + T.2.1 4) ∧ R' = (4 * 100000 + T.2.1 4) ∧ Z' = (zshl 1 (sc1 c z 100044 8) * sc1 c z 100044 8).toNat))
theorem slR_ok {T : gT} {c J : gC} {R Z : Nat} {z : Int} {T' : gT} {c' J' : gC} {R' Z' : Nat} (hP : PT T R Z) (hc : RG c) (hS : SR c) (hA : PR c) (hQ : PQ c R Z) (hf : T.2.1 4 < 100000) (h : slR T c J R Z z T' c' J' R' Z') : PT T' R' Z' ∧ (∀ k : Nat, k < 400000 ∨ 500000 ≤ k → ¬ k = 100044 → T'.1 k = T.1 k) ∧ RG c' ∧ PR c' ∧ PQ c' R' Z' ∧ ∀ k : Nat, ¬ (100044 ≤ k ∧ k ≤ 100051) → ¬ (400000 ≤ k ∧ k < 500000) → ∀ j, c' k j = c k j := by
  have hk := (PT_k hP).1
  obtain ⟨s1, s2, s3, s4, s5⟩ : RG (sc1 c z) ∧ SR (sc1 c z) ∧ PR (sc1 c z) ∧ PQ (sc1 c z) R Z ∧ PF c (sc1 c z) := col_all hc hS hA hk hQ
  have hsn := shl_rg s4.1
  have hn := s4.1
  rcases h with ⟨-, rfl, rfl, rfl, rfl, rfl⟩ | ⟨⟨hz, -⟩, ⟨h1, rfl, rfl, rfl, rfl, rfl⟩ | ⟨h1, rfl, rfl, rfl, rfl, rfl⟩⟩
  · exact ⟨hP, fun _ _ _ => rfl, hc, hA, hQ, fun _ _ _ _ => rfl⟩
  · have hp1 := PW_of (by omega) (by omega) h1
    obtain ⟨f1, f2, f3, f4, f5⟩ := fil_all s1 s2 s3 hk s4 hp1
    obtain ⟨g1, g2, g3, g4⟩ := slw_ok f1 f3 f4 hk hz (slk_rg f2 f4 (by rw [f5 100044 (by omega)]; exact hp1))
    exact ⟨hP, fun _ _ _ => rfl, g1, g2, g3, fun k a b j => by rw [g4 k (by omega), f5 k (by omega)]; exact s5 k (by omega) (by omega) (by omega) j⟩
  · obtain ⟨e1, e2, e3, e4⟩ := gz_all (n := (zshl 1 (sc1 c z 100044 8) * sc1 c z 100044 8).toNat) s1 s2 s3 s4 (q := (4 * 100000 + T.2.1 4)) (by omega)
    have e8 : gz (sc1 c z) (4 * 100000 + T.2.1 4) 100044 8 = sc1 c z 100044 8 := gz_k (by omega)
    have hp1 : PW (zshl 1 (gz (sc1 c z) (4 * 100000 + T.2.1 4) 100044 8)) (gz (sc1 c z) (4 * 100000 + T.2.1 4) 100044 8) (zshl 1 (sc1 c z 100044 8) * sc1 c z 100044 8).toNat := by rw [e8]; exact PW_of (by omega) (by omega) (by omega)
    obtain ⟨f1, f2, f3, f4, f5⟩ := fil_all e1 e2 e3 (Or.inr (by omega)) e4 hp1
    obtain ⟨g1, g2, g3, g4⟩ := slw_ok f1 f3 f4 (Or.inr (by omega)) hz (slk_rg f2 f4 (by rw [f5 100044 (by omega)]; exact hp1))
    exact ⟨PT_nT hP hf (by omega), fun k a b => nT_k (by omega) b, g1, g2, g3, fun k a b j => by rw [g4 k (by omega), f5 k (by omega), gz_k (by omega)]; exact s5 k (by omega) (by omega) (by omega) j⟩
set_option maxHeartbeats 1000000 in
theorem c_solved {g : Nat} {T : gT} {c J : gC} (hX : XT T) (hT : NT T 100014) (hc : RG c) (hN : NR c 100014) (hW : WT T 100034) (hwn : (T.1 100034).2.2 0 = 100014 + 1) {B : Int} (hR : WR c 100034 B) (hRT : RT T) (hS : SR c) {R Z : Nat} (hP : PT T R Z) (hAp : PR c) (hQ : PQ c R Z) (hD : -1 ≤ c 100014 3 ∧ c 100014 3 < 10) (hf : T.2.1 4 < 100000) (hf0 : (T.1 (4 * 100000 + T.2.1 4)).1 = 0) {z : Int} (hz : -2147483648 ≤ z ∧ z < 2147483648) : gE g 173 7 [.ref 500000, gi z] (gm T c J) (fun o M1 => ((1 ≤ z ∧ z ≤ 3) ∧ bcn (mskI (fun a => hA c 100014 a && decide (cl c 100014 a ≤ z)) 24) ≤ 12 ∧ ∃ (T1 : gT) (c1 J1 : gC) (R1 Z1 : Nat), slR T (rfr c) J R Z z T1 c1 J1 R1 Z1 ∧ o = .inl (some (.ref 100044)) ∧ M1 = gm T1 c1 J1) ∨ ((1 ≤ z ∧ z ≤ 3) ∧ ¬ bcn (mskI (fun a => hA c 100014 a && decide (cl c 100014 a ≤ z)) 24) ≤ 12 ∧ o = .inr 0 ∧ M1 = gm (gTt T) c J) ∨ (¬ (1 ≤ z ∧ z ≤ 3) ∧ o = .inr 1 ∧ M1 = gm (gTt T) c J)) := by
  have hn1 := hN.1
  obtain ⟨f1, f2, f3⟩ := rfr_ok hc hS hN
  have f4 : NR (rfr c) 100014 := NF_NR (fun i a b j => f3 i (by omega) (by omega) (by omega) j) hN
  have f5 : WR (rfr c) 100034 B := WR_arg hR (fun k a b j => f3 k (by omega) (by omega) (by omega) j)
  have fn1 := f4.1
  have hk := (PT_k hP).1
  have f6 : PR (rfr c) := PR_cg (f3 100046 (by omega) (by omega) (by omega)) (f3 100048 (by omega) (by omega) (by omega)) hAp
  have f7 : PQ (rfr c) R Z := ⟨by rw [f3 100044 (by omega) (by omega) (by omega)]; exact hQ.1, fun i a b => by rw [f3 100049 (by omega) (by omega) (by omega), f3 100050 (by omega) (by omega) (by omega)]; exact hQ.2.1 i a b, fun i a b => by rw [f3 R (by omega) (by omega) (by omega)]; exact hQ.2.2 i a b⟩
  have f8 : -1 ≤ rfr c 100014 3 ∧ rfr c 100014 3 < 10 := by rw [f3 100014 (by omega) (by omega) (by omega)]; exact hD
  refine gE_mk am_r173 rfl (Or.inr ⟨_, rfl, (by first | exact XT_0 hX | exact XT_r4 hX | exact XT_r7 hX | exact XT_r8 hX | exact XT_0 (XT_nT hX hf) | exact XT_r8 (XT_nT hX hf))⟩) (fun d hd => ?_)
  show gw d g 173 0 [.ref 500000, gi z] [] _ _
  refine gw_il1 at173_0 ?_
  refine gw_call1 at173_1 (c_ckClass (by omega)) (by omega) (Nat.le_of_ble_eq_true rfl) (fun o M1 q1 => ?_)
  rcases q1 with ⟨hp1, rfl, rfl⟩ | ⟨hp1, rfl, rfl⟩
  · show gw _ _ _ _ _ [] _ _
    refine gw_al0 at173_4 (gw_gr at173_5 (by first | exact XT_0 hX | exact XT_r4 hX | exact XT_r7 hX | exact XT_r8 hX | exact XT_0 (XT_nT hX hf) | exact XT_r8 (XT_nT hX hf)) (by first | exact XT_0 hX | exact XT_r4 hX | exact XT_r7 hX | exact XT_r8 hX | exact XT_0 (XT_nT hX hf) | exact XT_r8 (XT_nT hX hf)) (gw_il1 at173_8 (gw_callP2 at173_9 (c_arcsUpTo hT hc hN (by omega)) (by omega) (Nat.le_of_ble_eq_true rfl) (gw_callP1 at173_12 (c_bitCount (mskI_rg _ _)) (by omega) (Nat.le_of_ble_eq_true rfl) (gw_bip at173_15 (by decide) ?_)))))
    refine gw_cle at173_17 (by first | omega | exact zrg _) (by first | omega | exact zrg _) (fun q17 => ?_) (fun q17 => ?_)
    · refine gw_al0 at173_28 (gw_gr at173_29 (by first | exact XT_0 hX | exact XT_r4 hX | exact XT_r7 hX | exact XT_r8 hX | exact XT_0 (XT_nT hX hf) | exact XT_r8 (XT_nT hX hf)) (by first | exact XT_0 hX | exact XT_r4 hX | exact XT_r7 hX | exact XT_r8 hX | exact XT_0 (XT_nT hX hf) | exact XT_r8 (XT_nT hX hf)) ?_)
      refine gw_call1 at173_32 (c_refresh hRT hc hT hN) (by omega) (Nat.le_of_ble_eq_true rfl) (fun o M1 q32 => ?_)
      obtain ⟨rfl, rfl⟩ := q32
      show gw _ _ _ _ _ [] _ _
      refine gw_al0 at173_35 (gw_gr at173_36 (by first | exact XT_0 hX | exact XT_r4 hX | exact XT_r7 hX | exact XT_r8 hX | exact XT_0 (XT_nT hX hf) | exact XT_r8 (XT_nT hX hf)) (by first | exact XT_0 hX | exact XT_r4 hX | exact XT_r7 hX | exact XT_r8 hX | exact XT_0 (XT_nT hX hf) | exact XT_r8 (XT_nT hX hf)) (gw_il1 at173_39 ?_))
      refine gw_call2 at173_40 (c_solve hP hRT f1 f2 f6 f7 hT f4 f8 hf hf0 (by omega)) (by omega) (Nat.le_of_ble_eq_true rfl) (fun o M1 q40 => ?_)
      obtain ⟨rfl, hq⟩ := q40
      show gw _ _ _ _ _ [] _ _
      rcases hq with ⟨hq1, rfl⟩ | ⟨hq1, ⟨hq2, rfl⟩ | ⟨hq2, rfl⟩⟩
      · skip
        refine gw_al0 at173_43 (gw_gr at173_44 (by first | exact XT_0 hX | exact XT_r4 hX | exact XT_r7 hX | exact XT_r8 hX | exact XT_0 (XT_nT hX hf) | exact XT_r8 (XT_nT hX hf)) (by first | exact XT_0 hX | exact XT_r4 hX | exact XT_r7 hX | exact XT_r8 hX | exact XT_0 (XT_nT hX hf) | exact XT_r8 (XT_nT hX hf)) (gw_rr at173_47 am_r173.2.1 ?_))
        first | exact Or.inl ⟨hp1, by omega, _, _, _, _, _, Or.inl ⟨hq1, rfl, rfl, rfl, rfl, rfl⟩, rfl, rfl⟩ | exact Or.inl ⟨hp1, by omega, _, _, _, _, _, Or.inr ⟨hq1, Or.inl ⟨hq2, rfl, rfl, rfl, rfl, rfl⟩⟩, rfl, rfl⟩ | exact Or.inl ⟨hp1, by omega, _, _, _, _, _, Or.inr ⟨hq1, Or.inr ⟨hq2, rfl, rfl, rfl, rfl, rfl⟩⟩, rfl, rfl⟩
      · skip
        refine gw_al0 at173_43 (gw_gr at173_44 (by first | exact XT_0 hX | exact XT_r4 hX | exact XT_r7 hX | exact XT_r8 hX | exact XT_0 (XT_nT hX hf) | exact XT_r8 (XT_nT hX hf)) (by first | exact XT_0 hX | exact XT_r4 hX | exact XT_r7 hX | exact XT_r8 hX | exact XT_0 (XT_nT hX hf) | exact XT_r8 (XT_nT hX hf)) (gw_rr at173_47 am_r173.2.1 ?_))
        first | exact Or.inl ⟨hp1, by omega, _, _, _, _, _, Or.inl ⟨hq1, rfl, rfl, rfl, rfl, rfl⟩, rfl, rfl⟩ | exact Or.inl ⟨hp1, by omega, _, _, _, _, _, Or.inr ⟨hq1, Or.inl ⟨hq2, rfl, rfl, rfl, rfl, rfl⟩⟩, rfl, rfl⟩ | exact Or.inl ⟨hp1, by omega, _, _, _, _, _, Or.inr ⟨hq1, Or.inr ⟨hq2, rfl, rfl, rfl, rfl, rfl⟩⟩, rfl, rfl⟩
      · skip
        refine gw_al0 at173_43 (gw_gr at173_44 (by first | exact XT_0 hX | exact XT_r4 hX | exact XT_r7 hX | exact XT_r8 hX | exact XT_0 (XT_nT hX hf) | exact XT_r8 (XT_nT hX hf)) (by first | exact XT_0 hX | exact XT_r4 hX | exact XT_r7 hX | exact XT_r8 hX | exact XT_0 (XT_nT hX hf) | exact XT_r8 (XT_nT hX hf)) (gw_rr at173_47 am_r173.2.1 ?_))
        first | exact Or.inl ⟨hp1, by omega, _, _, _, _, _, Or.inl ⟨hq1, rfl, rfl, rfl, rfl, rfl⟩, rfl, rfl⟩ | exact Or.inl ⟨hp1, by omega, _, _, _, _, _, Or.inr ⟨hq1, Or.inl ⟨hq2, rfl, rfl, rfl, rfl, rfl⟩⟩, rfl, rfl⟩ | exact Or.inl ⟨hp1, by omega, _, _, _, _, _, Or.inr ⟨hq1, Or.inr ⟨hq2, rfl, rfl, rfl, rfl, rfl⟩⟩, rfl, rfl⟩
    · refine gw_thr at173_20 (by omega) (Nat.le_of_ble_eq_true rfl) ?_
      exact Or.inr (Or.inl ⟨hp1, by omega, rfl, rfl⟩)
  · refine gK_thr (am_h173 _ (by decide)) ?_
    exact Or.inr (Or.inr ⟨hp1, rfl, rfl⟩)
