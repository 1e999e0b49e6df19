/-! the class: a network is written; only the names in use count -/
def NMc (c : gC) (k : Nat) : Prop := (∀ i : Int, 0 ≤ i → i < c k 1 → 0 ≤ c (k + 1) i) ∧ ∀ i : Int, 0 ≤ i → i < c k 2 → 0 ≤ c (k + 4) i
theorem wNMc {c m : gC} {k b : Nat} (hb : b + 2 ≤ k ∨ k + 12 ≤ b) (hM : NMc c k) (o : WOK c b m) : NMc m k := ⟨fun i h1 h2 => by rw [o.2.2 (k + 1) (by omega) (by omega)]; rw [o.2.2 k (by omega) (by omega)] at h2; exact hM.1 i h1 h2, fun i h1 h2 => by rw [o.2.2 (k + 4) (by omega) (by omega)]; rw [o.2.2 k (by omega) (by omega)] at h2; exact hM.2 i h1 h2⟩
set_option maxHeartbeats 1000000 in
theorem c_wnnB {g : Nat} {T : gT} {c J : gC} {k b : Nat} (hT : NT T k) (hb1 : b + 2 ≤ 900000) (hb2 : b + 2 ≤ k ∨ k + 12 ≤ b) (hB : BT T b) (hL : LT T c) (hc : RG c) (hR : BR c b) (hN : NR c k) (hM : NMc c k) {z : Int} (hz : -2147483648 ≤ z ∧ z < 2147483648) : gE g 34 2 [.ref k, .ref b, gi z] (gm T c J) (fun o M1 => o = .inl none ∧ M1 = gm T (wnn k b z c) J) := by
  have h1 := hN.1
  refine gE_mk am_r34 rfl (Or.inr ⟨_, rfl, (by first | exact NT_0 hT | exact NT_r7 hT | exact NT_t7 hT | exact NT_l7 hT)⟩) (fun d hd => ?_)
  show gw d g 34 0 [.ref k, .ref b, gi z] [] _ _
  refine gw_il2 at34_0 ?_
  refine gw_zlt at34_1 (by first | omega | exact hc _ _) (fun q1 => ?_) (fun q1 => ?_)
  · refine gw_rv at34_22 am_r34.2.1 ?_
    refine ⟨rfl, ?_⟩
    unfold wnn
    first | (rw [if_pos (by omega)]; done) | (rw [if_neg (by omega)]; done)
  · refine gw_il2 at34_4 (gw_al0 at34_5 (gw_gf (j := 1) at34_6 (by first | exact NT_0 hT | exact NT_r7 hT | exact NT_t7 hT | exact NT_l7 hT) rfl ?_))
    refine gw_cge at34_9 (by first | omega | exact hc _ _) (by first | omega | exact hc _ _) (fun q9 => ?_) (fun q9 => ?_)
    · refine gw_rv at34_22 am_r34.2.1 ?_
      refine ⟨rfl, ?_⟩
      unfold wnn
      first | (rw [if_pos (by omega)]; done) | (rw [if_neg (by omega)]; done)
    · refine gw_al1 at34_12 (gw_al0 at34_13 (gw_gr at34_14 (by first | exact NT_0 hT | exact NT_r7 hT | exact NT_t7 hT | exact NT_l7 hT) (by first | exact NT_0 hT | exact NT_r7 hT | exact NT_t7 hT | exact NT_l7 hT) (gw_il2 at34_17 ?_)))
      have h2 := hM.1 z (by omega) (by omega)
      refine gw_ia at34_18 (by first | exact Or.inl (by first | exact NT_0 hT | exact NT_r7 hT | exact NT_t7 hT | exact NT_l7 hT) | exact Or.inr (by first | exact NT_0 hT | exact NT_r7 hT | exact NT_t7 hT | exact NT_l7 hT)) (by first | exact NT_0 hT | exact NT_r7 hT | exact NT_t7 hT | exact NT_l7 hT) (by first | omega | exact hc _ _) (by first | omega | exact hc _ _) (by omega) ?_
      refine gw_call2 at34_19 (c_putName hB hc hR ⟨hM.1 z (by omega) (by omega), (hc _ _).2⟩) (by omega) (Nat.le_of_ble_eq_true rfl) (fun o M1 q19 => ?_)
      obtain ⟨rfl, rfl⟩ := q19
      show gw _ _ _ _ _ [] (gm T (pna c b (c (k + 1) z)) J) _
      refine gw_rv at34_22 am_r34.2.1 ?_
      refine ⟨rfl, ?_⟩
      unfold wnn
      first | (rw [if_pos (by omega)]; done) | (rw [if_neg (by omega)]; done)
set_option maxHeartbeats 1000000 in
theorem c_wnoB {g : Nat} {T : gT} {c J : gC} {k b : Nat} (hT : NT T k) (hb1 : b + 2 ≤ 900000) (hb2 : b + 2 ≤ k ∨ k + 12 ≤ b) (hB : BT T b) (hL : LT T c) (hc : RG c) (hR : BR c b) (hN : NR c k) (hM : NMc c k) : gE g 30 5 [.ref k, .ref b] (gm T c J) (fun o M1 => o = .inl none ∧ M1 = gm T (wno k b c) J) := by
  have h1 := hN.1
  refine gE_mk am_r30 rfl (Or.inr ⟨_, rfl, (by first | exact NT_0 hT | exact NT_r7 hT | exact NT_t7 hT | exact NT_l7 hT | exact NT_r8 hT | exact NT_t8 hT | exact NT_l8 hT | exact NT_r9 hT | exact NT_t9 hT | exact NT_l9 hT)⟩) (fun d hd => ?_)
  show gw d g 30 0 [.ref k, .ref b, am_U] [] _ _
  refine gw_const at30_0 (gw_is2 at30_1 (h := ?_))
  have lp2 : ∀ i : Int, 0 ≤ i → i ≤ 10 → i ≤ c k 1 → gw d g 30 2 [.ref k, .ref b, gi i] [] (gm T (itI (wnf k b) c i) J) (fun o M1 => o = .inl none ∧ M1 = gm T (wno k b c) J) := by
    refine ind_up 10 ?_
    intro i hi0 hi1 ih hi2
    have o1 : WOK c b (itI (wnf k b) c i) := wi _ (WOK_0 hc hR) (fun _ _ h => wnf_ok h) i
    refine gw_il2 at30_2 ?_
    refine gw_al0 at30_3 (gw_gf (j := 1) at30_4 (by first | exact NT_0 hT | exact NT_r7 hT | exact NT_t7 hT | exact NT_l7 hT | exact NT_r8 hT | exact NT_t8 hT | exact NT_l8 hT | exact NT_r9 hT | exact NT_t9 hT | exact NT_l9 hT) rfl ?_)
    rw [o1.2.2 k (by omega) (by omega)]
    refine gw_cge at30_7 (by first | omega | exact o2.1 _ _ | exact o4.1 _ _ | exact o6.1 _ _) (by first | omega | exact o2.1 _ _ | exact o4.1 _ _ | exact o6.1 _ _) (fun q7 => ?_) (fun q7 => ?_)
    · refine gw_rv at30_70 am_r30.2.1 ?_
      refine ⟨rfl, ?_⟩
      unfold wno
      rw [show c k 1 = i by omega]
    · refine gw_al1 at30_10 (gw_ldcs (q := 900009) at30_11 rfl ?_)
      refine gw_call2 at30_13 (c_txt 9 (by omega) hB hb1 hL o1) (by omega) (Nat.le_of_ble_eq_true rfl) (fun o M1 q13 => ?_)
      obtain ⟨rfl, rfl⟩ := q13
      show gw _ _ _ _ _ [] (gm T (txt b 9 (itI (wnf k b) c i)) J) _
      have o2 := wt 9 o1
      refine gw_al1 at30_16 (gw_al0 at30_17 (gw_gr at30_18 (by first | exact NT_0 hT | exact NT_r7 hT | exact NT_t7 hT | exact NT_l7 hT | exact NT_r8 hT | exact NT_t8 hT | exact NT_l8 hT | exact NT_r9 hT | exact NT_t9 hT | exact NT_l9 hT) (by first | exact NT_0 hT | exact NT_r7 hT | exact NT_t7 hT | exact NT_l7 hT | exact NT_r8 hT | exact NT_t8 hT | exact NT_l8 hT | exact NT_r9 hT | exact NT_t9 hT | exact NT_l9 hT) (gw_il2 at30_21 (gw_ia at30_22 (by first | exact Or.inl (by first | exact NT_0 hT | exact NT_r7 hT | exact NT_t7 hT | exact NT_l7 hT | exact NT_r8 hT | exact NT_t8 hT | exact NT_l8 hT | exact NT_r9 hT | exact NT_t9 hT | exact NT_l9 hT) | exact Or.inr (by first | exact NT_0 hT | exact NT_r7 hT | exact NT_t7 hT | exact NT_l7 hT | exact NT_r8 hT | exact NT_t8 hT | exact NT_l8 hT | exact NT_r9 hT | exact NT_t9 hT | exact NT_l9 hT)) (by first | exact NT_0 hT | exact NT_r7 hT | exact NT_t7 hT | exact NT_l7 hT | exact NT_r8 hT | exact NT_t8 hT | exact NT_l8 hT | exact NT_r9 hT | exact NT_t9 hT | exact NT_l9 hT) (by first | omega | exact o2.1 _ _ | exact o4.1 _ _ | exact o6.1 _ _) (by first | omega | exact o2.1 _ _ | exact o4.1 _ _ | exact o6.1 _ _) (by omega) ?_))))
      refine gw_call2 at30_23 (c_putName hB o2.1 o2.2.1 ⟨by rw [o2.2.2 (k + 1) (by omega) (by omega)]; have := hM.1 i hi0 (by omega); omega, (o2.1 _ _).2⟩) (by omega) (Nat.le_of_ble_eq_true rfl) (fun o M1 q23 => ?_)
      obtain ⟨rfl, rfl⟩ := q23
      show gw _ _ _ _ _ [] (gm T (A1 (k + 1) b i (txt b 9 (itI (wnf k b) c i))) J) _
      have o3 : WOK c b (A1 (k + 1) b i (txt b 9 (itI (wnf k b) c i))) := wa o2
      refine gw_al1 at30_26 (gw_ldcs (q := 900010) at30_27 rfl ?_)
      refine gw_call2 at30_29 (c_txt 10 (by omega) hB hb1 hL o3) (by omega) (Nat.le_of_ble_eq_true rfl) (fun o M1 q29 => ?_)
      obtain ⟨rfl, rfl⟩ := q29
      show gw _ _ _ _ _ [] (gm T (txt b 10 (A1 (k + 1) b i (txt b 9 (itI (wnf k b) c i)))) J) _
      have o4 := wt 10 o3
      refine gw_al1 at30_32 (gw_al0 at30_33 (gw_gr at30_34 (by first | exact NT_0 hT | exact NT_r7 hT | exact NT_t7 hT | exact NT_l7 hT | exact NT_r8 hT | exact NT_t8 hT | exact NT_l8 hT | exact NT_r9 hT | exact NT_t9 hT | exact NT_l9 hT) (by first | exact NT_0 hT | exact NT_r7 hT | exact NT_t7 hT | exact NT_l7 hT | exact NT_r8 hT | exact NT_t8 hT | exact NT_l8 hT | exact NT_r9 hT | exact NT_t9 hT | exact NT_l9 hT) (gw_il2 at30_37 (gw_ia at30_38 (by first | exact Or.inl (by first | exact NT_0 hT | exact NT_r7 hT | exact NT_t7 hT | exact NT_l7 hT | exact NT_r8 hT | exact NT_t8 hT | exact NT_l8 hT | exact NT_r9 hT | exact NT_t9 hT | exact NT_l9 hT) | exact Or.inr (by first | exact NT_0 hT | exact NT_r7 hT | exact NT_t7 hT | exact NT_l7 hT | exact NT_r8 hT | exact NT_t8 hT | exact NT_l8 hT | exact NT_r9 hT | exact NT_t9 hT | exact NT_l9 hT)) (by first | exact NT_0 hT | exact NT_r7 hT | exact NT_t7 hT | exact NT_l7 hT | exact NT_r8 hT | exact NT_t8 hT | exact NT_l8 hT | exact NT_r9 hT | exact NT_t9 hT | exact NT_l9 hT) (by first | omega | exact o2.1 _ _ | exact o4.1 _ _ | exact o6.1 _ _) (by first | omega | exact o2.1 _ _ | exact o4.1 _ _ | exact o6.1 _ _) (by omega) ?_))))
      refine gw_call2 at30_39 (c_putNumber hB o4.1 o4.2.1 ⟨by rw [o4.2.2 (k + 2) (by omega) (by omega)]; have := hN.2.2.1 i hi0 (by omega); omega, (o4.1 _ _).2⟩) (by omega) (Nat.le_of_ble_eq_true rfl) (fun o M1 q39 => ?_)
      obtain ⟨rfl, rfl⟩ := q39
      show gw _ _ _ _ _ [] (gm T (P1 (k + 2) b i (txt b 10 (A1 (k + 1) b i (txt b 9 (itI (wnf k b) c i))))) J) _
      have o5 : WOK c b (P1 (k + 2) b i (txt b 10 (A1 (k + 1) b i (txt b 9 (itI (wnf k b) c i))))) := wp o4
      refine gw_al1 at30_42 (gw_ldcs (q := 900010) at30_43 rfl ?_)
      refine gw_call2 at30_45 (c_txt 10 (by omega) hB hb1 hL o5) (by omega) (Nat.le_of_ble_eq_true rfl) (fun o M1 q45 => ?_)
      obtain ⟨rfl, rfl⟩ := q45
      show gw _ _ _ _ _ [] (gm T (txt b 10 (P1 (k + 2) b i (txt b 10 (A1 (k + 1) b i (txt b 9 (itI (wnf k b) c i)))))) J) _
      have o6 := wt 10 o5
      refine gw_al1 at30_48 (gw_al0 at30_49 (gw_gr at30_50 (by first | exact NT_0 hT | exact NT_r7 hT | exact NT_t7 hT | exact NT_l7 hT | exact NT_r8 hT | exact NT_t8 hT | exact NT_l8 hT | exact NT_r9 hT | exact NT_t9 hT | exact NT_l9 hT) (by first | exact NT_0 hT | exact NT_r7 hT | exact NT_t7 hT | exact NT_l7 hT | exact NT_r8 hT | exact NT_t8 hT | exact NT_l8 hT | exact NT_r9 hT | exact NT_t9 hT | exact NT_l9 hT) (gw_il2 at30_53 (gw_ia at30_54 (by first | exact Or.inl (by first | exact NT_0 hT | exact NT_r7 hT | exact NT_t7 hT | exact NT_l7 hT | exact NT_r8 hT | exact NT_t8 hT | exact NT_l8 hT | exact NT_r9 hT | exact NT_t9 hT | exact NT_l9 hT) | exact Or.inr (by first | exact NT_0 hT | exact NT_r7 hT | exact NT_t7 hT | exact NT_l7 hT | exact NT_r8 hT | exact NT_t8 hT | exact NT_l8 hT | exact NT_r9 hT | exact NT_t9 hT | exact NT_l9 hT)) (by first | exact NT_0 hT | exact NT_r7 hT | exact NT_t7 hT | exact NT_l7 hT | exact NT_r8 hT | exact NT_t8 hT | exact NT_l8 hT | exact NT_r9 hT | exact NT_t9 hT | exact NT_l9 hT) (by first | omega | exact o2.1 _ _ | exact o4.1 _ _ | exact o6.1 _ _) (by first | omega | exact o2.1 _ _ | exact o4.1 _ _ | exact o6.1 _ _) (by omega) ?_))))
      refine gw_call2 at30_55 (c_putNumber hB o6.1 o6.2.1 ⟨by rw [o6.2.2 (k + 3) (by omega) (by omega)]; have := hN.2.2.1 i hi0 (by omega); omega, (o6.1 _ _).2⟩) (by omega) (Nat.le_of_ble_eq_true rfl) (fun o M1 q55 => ?_)
      obtain ⟨rfl, rfl⟩ := q55
      show gw _ _ _ _ _ [] (gm T (P1 (k + 3) b i (txt b 10 (P1 (k + 2) b i (txt b 10 (A1 (k + 1) b i (txt b 9 (itI (wnf k b) c i))))))) J) _
      have o7 : WOK c b (P1 (k + 3) b i (txt b 10 (P1 (k + 2) b i (txt b 10 (A1 (k + 1) b i (txt b 9 (itI (wnf k b) c i))))))) := wp o6
      refine gw_al1 at30_58 (gw_ldcs (q := 900011) at30_59 rfl ?_)
      refine gw_call2 at30_61 (c_txt 11 (by omega) hB hb1 hL o7) (by omega) (Nat.le_of_ble_eq_true rfl) (fun o M1 q61 => ?_)
      obtain ⟨rfl, rfl⟩ := q61
      show gw _ _ _ _ _ [] (gm T (wnf k b i (itI (wnf k b) c i)) J) _
      refine gw_inc2 at30_64 (h := (gw_goto at30_67 ?_))
      have e := ih (i + 1) (by omega) (by omega) (by omega)
      rw [itI_s _ _ hi0] at e
      exact e
  exact lp2 0 (by omega) (by omega) (by omega)
set_option maxHeartbeats 1000000 in
theorem c_wsnB {g : Nat} {T : gT} {c J : gC} {k b : Nat} (hT : NT T k) (hb1 : b + 2 ≤ 900000) (hb2 : b + 2 ≤ k ∨ k + 12 ≤ b) (hB : BT T b) (hL : LT T c) (hc : RG c) (hR : BR c b) (hN : NR c k) (hM : NMc c k) (hsn : ∀ i : Int, 0 ≤ i → i < c k 2 → 0 ≤ c (k + 9) i) : gE g 33 5 [.ref k, .ref b] (gm T c J) (fun o M1 => o = .inl none ∧ M1 = gm T (wsn k b c) J) := by
  have h1 := hN.2.1
  refine gE_mk am_r33 rfl (Or.inr ⟨_, rfl, (by first | exact NT_0 hT | exact NT_r10 hT | exact NT_t10 hT | exact NT_l10 hT | exact NT_r15 hT | exact NT_t15 hT | exact NT_l15 hT)⟩) (fun d hd => ?_)
  show gw d g 33 0 [.ref k, .ref b, am_U] [] _ _
  refine gw_const at33_0 (gw_is2 at33_1 (h := ?_))
  have lp2 : ∀ i : Int, 0 ≤ i → i ≤ 12 → i ≤ c k 2 → gw d g 33 2 [.ref k, .ref b, gi i] [] (gm T (itI (wsf k b) c i) J) (fun o M1 => o = .inl none ∧ M1 = gm T (wsn k b c) J) := by
    refine ind_up 12 ?_
    intro i hi0 hi1 ih hi2
    have o1 : WOK c b (itI (wsf k b) c i) := wi _ (WOK_0 hc hR) (fun _ _ h => wsf_ok h) i
    refine gw_il2 at33_2 ?_
    refine gw_al0 at33_3 (gw_gf (j := 2) at33_4 (by first | exact NT_0 hT | exact NT_r10 hT | exact NT_t10 hT | exact NT_l10 hT | exact NT_r15 hT | exact NT_t15 hT | exact NT_l15 hT) rfl ?_)
    rw [o1.2.2 k (by omega) (by omega)]
    refine gw_cge at33_7 (by first | omega | exact o1.1 _ _ | exact o2.1 _ _ | exact o4.1 _ _) (by first | omega | exact o1.1 _ _ | exact o2.1 _ _ | exact o4.1 _ _) (fun q7 => ?_) (fun q7 => ?_)
    · refine gw_rv at33_63 am_r33.2.1 ?_
      refine ⟨rfl, ?_⟩
      unfold wsn
      rw [show c k 2 = i by omega]
    · refine gw_al0 at33_10 (gw_gr at33_11 (by first | exact NT_0 hT | exact NT_r10 hT | exact NT_t10 hT | exact NT_l10 hT | exact NT_r15 hT | exact NT_t15 hT | exact NT_l15 hT) (by first | exact NT_0 hT | exact NT_r10 hT | exact NT_t10 hT | exact NT_l10 hT | exact NT_r15 hT | exact NT_t15 hT | exact NT_l15 hT) (gw_il2 at33_14 (gw_ia at33_15 (by first | exact Or.inl (by first | exact NT_0 hT | exact NT_r10 hT | exact NT_t10 hT | exact NT_l10 hT | exact NT_r15 hT | exact NT_t15 hT | exact NT_l15 hT) | exact Or.inr (by first | exact NT_0 hT | exact NT_r10 hT | exact NT_t10 hT | exact NT_l10 hT | exact NT_r15 hT | exact NT_t15 hT | exact NT_l15 hT)) (by first | exact NT_0 hT | exact NT_r10 hT | exact NT_t10 hT | exact NT_l10 hT | exact NT_r15 hT | exact NT_t15 hT | exact NT_l15 hT) (by first | omega | exact o1.1 _ _ | exact o2.1 _ _ | exact o4.1 _ _) (by first | omega | exact o1.1 _ _ | exact o2.1 _ _ | exact o4.1 _ _) (by omega) ?_)))
      refine gw_zeq at33_16 (by first | omega | exact o1.1 _ _ | exact o2.1 _ _ | exact o4.1 _ _) (fun q16 => ?_) (fun q16 => ?_)
      · refine gw_inc2 at33_57 (h := (gw_goto at33_60 ?_))
        have e := ih (i + 1) (by omega) (by omega) (by omega)
        rw [itI_s _ _ hi0] at e
        first | (rw [show wsf k b i (itI (wsf k b) c i) = (itI (wsf k b) c i) from if_pos (by assumption)] at e; exact e) | (rw [show wsf k b i (itI (wsf k b) c i) = txt b 11 (P1 (k + 9) b i (txt b 10 (A1 (k + 4) b i (txt b 17 (itI (wsf k b) c i))))) from if_neg (by assumption)] at e; exact e)
      · refine gw_al1 at33_19 (gw_ldcs (q := 900017) at33_20 rfl ?_)
        refine gw_call2 at33_22 (c_txt 17 (by omega) hB hb1 hL o1) (by omega) (Nat.le_of_ble_eq_true rfl) (fun o M1 q22 => ?_)
        obtain ⟨rfl, rfl⟩ := q22
        show gw _ _ _ _ _ [] (gm T (txt b 17 (itI (wsf k b) c i)) J) _
        have o2 := wt 17 o1
        refine gw_al1 at33_25 (gw_al0 at33_26 (gw_gr at33_27 (by first | exact NT_0 hT | exact NT_r10 hT | exact NT_t10 hT | exact NT_l10 hT | exact NT_r15 hT | exact NT_t15 hT | exact NT_l15 hT) (by first | exact NT_0 hT | exact NT_r10 hT | exact NT_t10 hT | exact NT_l10 hT | exact NT_r15 hT | exact NT_t15 hT | exact NT_l15 hT) (gw_il2 at33_30 (gw_ia at33_31 (by first | exact Or.inl (by first | exact NT_0 hT | exact NT_r10 hT | exact NT_t10 hT | exact NT_l10 hT | exact NT_r15 hT | exact NT_t15 hT | exact NT_l15 hT) | exact Or.inr (by first | exact NT_0 hT | exact NT_r10 hT | exact NT_t10 hT | exact NT_l10 hT | exact NT_r15 hT | exact NT_t15 hT | exact NT_l15 hT)) (by first | exact NT_0 hT | exact NT_r10 hT | exact NT_t10 hT | exact NT_l10 hT | exact NT_r15 hT | exact NT_t15 hT | exact NT_l15 hT) (by first | omega | exact o1.1 _ _ | exact o2.1 _ _ | exact o4.1 _ _) (by first | omega | exact o1.1 _ _ | exact o2.1 _ _ | exact o4.1 _ _) (by omega) ?_))))
        refine gw_call2 at33_32 (c_putName hB o2.1 o2.2.1 ⟨by rw [o2.2.2 (k + 4) (by omega) (by omega)]; have := hM.2 i hi0 (by omega); omega, (o2.1 _ _).2⟩) (by omega) (Nat.le_of_ble_eq_true rfl) (fun o M1 q32 => ?_)
        obtain ⟨rfl, rfl⟩ := q32
        show gw _ _ _ _ _ [] (gm T (A1 (k + 4) b i (txt b 17 (itI (wsf k b) c i))) J) _
        have o3 : WOK c b (A1 (k + 4) b i (txt b 17 (itI (wsf k b) c i))) := wa o2
        refine gw_al1 at33_35 (gw_ldcs (q := 900010) at33_36 rfl ?_)
        refine gw_call2 at33_38 (c_txt 10 (by omega) hB hb1 hL o3) (by omega) (Nat.le_of_ble_eq_true rfl) (fun o M1 q38 => ?_)
        obtain ⟨rfl, rfl⟩ := q38
        show gw _ _ _ _ _ [] (gm T (txt b 10 (A1 (k + 4) b i (txt b 17 (itI (wsf k b) c i)))) J) _
        have o4 := wt 10 o3
        refine gw_al1 at33_41 (gw_al0 at33_42 (gw_gr at33_43 (by first | exact NT_0 hT | exact NT_r10 hT | exact NT_t10 hT | exact NT_l10 hT | exact NT_r15 hT | exact NT_t15 hT | exact NT_l15 hT) (by first | exact NT_0 hT | exact NT_r10 hT | exact NT_t10 hT | exact NT_l10 hT | exact NT_r15 hT | exact NT_t15 hT | exact NT_l15 hT) (gw_il2 at33_46 (gw_ia at33_47 (by first | exact Or.inl (by first | exact NT_0 hT | exact NT_r10 hT | exact NT_t10 hT | exact NT_l10 hT | exact NT_r15 hT | exact NT_t15 hT | exact NT_l15 hT) | exact Or.inr (by first | exact NT_0 hT | exact NT_r10 hT | exact NT_t10 hT | exact NT_l10 hT | exact NT_r15 hT | exact NT_t15 hT | exact NT_l15 hT)) (by first | exact NT_0 hT | exact NT_r10 hT | exact NT_t10 hT | exact NT_l10 hT | exact NT_r15 hT | exact NT_t15 hT | exact NT_l15 hT) (by first | omega | exact o1.1 _ _ | exact o2.1 _ _ | exact o4.1 _ _) (by first | omega | exact o1.1 _ _ | exact o2.1 _ _ | exact o4.1 _ _) (by omega) ?_))))
        refine gw_call2 at33_48 (c_putNumber hB o4.1 o4.2.1 ⟨by rw [o4.2.2 (k + 9) (by omega) (by omega)]; have := hsn i hi0 (by omega); omega, (o4.1 _ _).2⟩) (by omega) (Nat.le_of_ble_eq_true rfl) (fun o M1 q48 => ?_)
        obtain ⟨rfl, rfl⟩ := q48
        show gw _ _ _ _ _ [] (gm T (P1 (k + 9) b i (txt b 10 (A1 (k + 4) b i (txt b 17 (itI (wsf k b) c i))))) J) _
        have o5 : WOK c b (P1 (k + 9) b i (txt b 10 (A1 (k + 4) b i (txt b 17 (itI (wsf k b) c i))))) := wp o4
        refine gw_al1 at33_51 (gw_ldcs (q := 900011) at33_52 rfl ?_)
        refine gw_call2 at33_54 (c_txt 11 (by omega) hB hb1 hL o5) (by omega) (Nat.le_of_ble_eq_true rfl) (fun o M1 q54 => ?_)
        obtain ⟨rfl, rfl⟩ := q54
        show gw _ _ _ _ _ [] (gm T (txt b 11 (P1 (k + 9) b i (txt b 10 (A1 (k + 4) b i (txt b 17 (itI (wsf k b) c i)))))) J) _
        refine gw_inc2 at33_57 (h := (gw_goto at33_60 ?_))
        have e := ih (i + 1) (by omega) (by omega) (by omega)
        rw [itI_s _ _ hi0] at e
        first | (rw [show wsf k b i (itI (wsf k b) c i) = (itI (wsf k b) c i) from if_pos (by assumption)] at e; exact e) | (rw [show wsf k b i (itI (wsf k b) c i) = txt b 11 (P1 (k + 9) b i (txt b 10 (A1 (k + 4) b i (txt b 17 (itI (wsf k b) c i))))) from if_neg (by assumption)] at e; exact e)
  exact lp2 0 (by omega) (by omega) (by omega)

set_option maxHeartbeats 1000000 in
theorem c_wseB {g : Nat} {T : gT} {c J : gC} {k b : Nat} (hT : NT T k) (hb1 : b + 2 ≤ 900000) (hb2 : b + 2 ≤ k ∨ k + 12 ≤ b) (hB : BT T b) (hL : LT T c) (hc : RG c) (hR : BR c b) (hN : NR c k) (hM : NMc c k) (hF : 0 ≤ c k 4) : gE g 32 6 [.ref k, .ref b] (gm T c J) (fun o M1 => o = .inl none ∧ M1 = gm T (wse k b c) J) := by
  have h1 := hN.1
  have o0 := WOK_0 hc hR
  refine gE_mk am_r32 rfl (Or.inr ⟨_, rfl, (by first | exact NT_0 hT | exact NT_r16 hT | exact NT_t16 hT | exact NT_l16 hT | exact NT_r17 hT | exact NT_t17 hT | exact NT_l17 hT)⟩) (fun d hd => ?_)
  show gw d g 32 0 [.ref k, .ref b] [] _ _
  refine gw_al1 at32_0 (gw_ldcs (q := 900003) at32_1 rfl ?_)
  refine gw_call2 at32_3 (c_txt 3 (by omega) hB hb1 hL o0) (by omega) (Nat.le_of_ble_eq_true rfl) (fun o M1 q3 => ?_)
  obtain ⟨rfl, rfl⟩ := q3
  show gw _ _ _ _ _ [] (gm T (txt b 3 c) J) _
  have o1 := wt 3 o0
  refine gw_al1 at32_6 (gw_al0 at32_7 (gw_gr at32_8 (by first | exact NT_0 hT | exact NT_r16 hT | exact NT_t16 hT | exact NT_l16 hT | exact NT_r17 hT | exact NT_t17 hT | exact NT_l17 hT) (by first | exact NT_0 hT | exact NT_r16 hT | exact NT_t16 hT | exact NT_l16 hT | exact NT_r17 hT | exact NT_t17 hT | exact NT_l17 hT) ?_))
  refine gw_call2 at32_11 (c_wrw (n := 4) hb1 hB (LT_W hb1 hL o1) o1.1 o1.2.1 (NT_t16 hT) (NT_l16 hT) (by omega) (by omega) (by intro i q0 q1; rw [o1.2.2 (k + 10) (by omega) (by omega)]; exact (hN.2.2.2.2.1 i q0 (by omega)).1)) (by omega) (Nat.le_of_ble_eq_true rfl) (fun o M1 q11 => ?_)
  obtain ⟨rfl, rfl⟩ := q11
  show gw _ _ _ _ _ [] (gm T (wse0 k b c) J) _
  have o2 : WOK c b (wse0 k b c) := wse0_ok o0
  refine gw_al0 at32_14 (gw_gf (j := 1) at32_15 (by first | exact NT_0 hT | exact NT_r16 hT | exact NT_t16 hT | exact NT_l16 hT | exact NT_r17 hT | exact NT_t17 hT | exact NT_l17 hT) rfl ?_)
  refine gw_zle at32_18 (by first | omega | exact hc _ _ | exact o2.1 _ _) (fun q18 => ?_) (fun q18 => ?_)
  · try rw [← wse1_f (by omega)]
    have o5 : WOK c b (wse1 k b c) := wse1_ok o0
    refine gw_al1 at32_42 (gw_ldcs (q := 900015) at32_43 rfl ?_)
    refine gw_call2 at32_45 (c_txt 15 (by omega) hB hb1 hL o5) (by omega) (Nat.le_of_ble_eq_true rfl) (fun o M1 q45 => ?_)
    obtain ⟨rfl, rfl⟩ := q45
    show gw _ _ _ _ _ [] (gm T (txt b 15 (wse1 k b c)) J) _
    have o6 := wt 15 o5
    refine gw_al1 at32_48 (gw_al0 at32_49 (gw_gf (j := 4) at32_50 (by first | exact NT_0 hT | exact NT_r16 hT | exact NT_t16 hT | exact NT_l16 hT | exact NT_r17 hT | exact NT_t17 hT | exact NT_l17 hT) rfl ?_))
    refine gw_call2 at32_53 (c_putNumber hB o6.1 o6.2.1 ⟨by rw [o6.2.2 k (by omega) (by omega)]; exact hF, (o6.1 _ _).2⟩) (by omega) (Nat.le_of_ble_eq_true rfl) (fun o M1 q53 => ?_)
    obtain ⟨rfl, rfl⟩ := q53
    show gw _ _ _ _ _ [] (gm T (P1 k b 4 (txt b 15 (wse1 k b c))) J) _
    have o7 : WOK c b (P1 k b 4 (txt b 15 (wse1 k b c))) := wp o6
    refine gw_al1 at32_56 (gw_ldcs (q := 900016) at32_57 rfl ?_)
    refine gw_call2 at32_59 (c_txt 16 (by omega) hB hb1 hL o7) (by omega) (Nat.le_of_ble_eq_true rfl) (fun o M1 q59 => ?_)
    obtain ⟨rfl, rfl⟩ := q59
    show gw _ _ _ _ _ [] (gm T (wse2 k b c) J) _
    have o8 : WOK c b (wse2 k b c) := wse2_ok o0
    refine gw_al1 at32_62 (gw_al0 at32_63 (gw_gr at32_64 (by first | exact NT_0 hT | exact NT_r16 hT | exact NT_t16 hT | exact NT_l16 hT | exact NT_r17 hT | exact NT_t17 hT | exact NT_l17 hT) (by first | exact NT_0 hT | exact NT_r16 hT | exact NT_t16 hT | exact NT_l16 hT | exact NT_r17 hT | exact NT_t17 hT | exact NT_l17 hT) ?_))
    refine gw_call2 at32_67 (c_wrw (n := 3) hb1 hB (LT_W hb1 hL o8) o8.1 o8.2.1 (NT_t17 hT) (NT_l17 hT) (by omega) (by omega) (by intro i q0 q1; rw [o8.2.2 (k + 11) (by omega) (by omega)]; exact (hN.2.2.2.2.2 i q0 (by omega)).1)) (by omega) (Nat.le_of_ble_eq_true rfl) (fun o M1 q67 => ?_)
    obtain ⟨rfl, rfl⟩ := q67
    show gw _ _ _ _ _ [] (gm T (wse k b c) J) _
    refine gw_rv at32_70 am_r32.2.1 ?_
    exact ⟨rfl, rfl⟩
  · refine gw_al1 at32_21 (gw_ldcs (q := 900014) at32_22 rfl ?_)
    refine gw_call2 at32_24 (c_txt 14 (by omega) hB hb1 hL o2) (by omega) (Nat.le_of_ble_eq_true rfl) (fun o M1 q24 => ?_)
    obtain ⟨rfl, rfl⟩ := q24
    show gw _ _ _ _ _ [] (gm T (txt b 14 (wse0 k b c)) J) _
    have o3 := wt 14 o2
    refine gw_al0 at32_27 (gw_al1 at32_28 (gw_al0 at32_29 (gw_gf (j := 3) at32_30 (by first | exact NT_0 hT | exact NT_r16 hT | exact NT_t16 hT | exact NT_l16 hT | exact NT_r17 hT | exact NT_t17 hT | exact NT_l17 hT) rfl ?_)))
    refine gw_call3 at32_33 (c_wnnB hT hb1 hb2 hB (LT_W hb1 hL o3) o3.1 o3.2.1 (wNR hb2 hN o3) (wNMc hb2 hM o3) (o3.1 _ _)) (by omega) (Nat.le_of_ble_eq_true rfl) (fun o M1 q33 => ?_)
    obtain ⟨rfl, rfl⟩ := q33
    show gw _ _ _ _ _ [] (gm T (W1 k k b 3 (txt b 14 (wse0 k b c))) J) _
    have o4 : WOK c b (W1 k k b 3 (txt b 14 (wse0 k b c))) := wnn_ok o3
    refine gw_al1 at32_36 (gw_ldcs (q := 900011) at32_37 rfl ?_)
    refine gw_call2 at32_39 (c_txt 11 (by omega) hB hb1 hL o4) (by omega) (Nat.le_of_ble_eq_true rfl) (fun o M1 q39 => ?_)
    obtain ⟨rfl, rfl⟩ := q39
    show gw _ _ _ _ _ [] (gm T (txt b 11 (W1 k k b 3 (txt b 14 (wse0 k b c)))) J) _
    have e39 : txt b 11 (W1 k k b 3 (txt b 14 (wse0 k b c))) = wse1 k b c := (wse1_t (by omega)).symm
    rw [e39]
    try rw [← wse1_f (by omega)]
    have o5 : WOK c b (wse1 k b c) := wse1_ok o0
    refine gw_al1 at32_42 (gw_ldcs (q := 900015) at32_43 rfl ?_)
    refine gw_call2 at32_45 (c_txt 15 (by omega) hB hb1 hL o5) (by omega) (Nat.le_of_ble_eq_true rfl) (fun o M1 q45 => ?_)
    obtain ⟨rfl, rfl⟩ := q45
    show gw _ _ _ _ _ [] (gm T (txt b 15 (wse1 k b c)) J) _
    have o6 := wt 15 o5
    refine gw_al1 at32_48 (gw_al0 at32_49 (gw_gf (j := 4) at32_50 (by first | exact NT_0 hT | exact NT_r16 hT | exact NT_t16 hT | exact NT_l16 hT | exact NT_r17 hT | exact NT_t17 hT | exact NT_l17 hT) rfl ?_))
    refine gw_call2 at32_53 (c_putNumber hB o6.1 o6.2.1 ⟨by rw [o6.2.2 k (by omega) (by omega)]; exact hF, (o6.1 _ _).2⟩) (by omega) (Nat.le_of_ble_eq_true rfl) (fun o M1 q53 => ?_)
    obtain ⟨rfl, rfl⟩ := q53
    show gw _ _ _ _ _ [] (gm T (P1 k b 4 (txt b 15 (wse1 k b c))) J) _
    have o7 : WOK c b (P1 k b 4 (txt b 15 (wse1 k b c))) := wp o6
    refine gw_al1 at32_56 (gw_ldcs (q := 900016) at32_57 rfl ?_)
    refine gw_call2 at32_59 (c_txt 16 (by omega) hB hb1 hL o7) (by omega) (Nat.le_of_ble_eq_true rfl) (fun o M1 q59 => ?_)
    obtain ⟨rfl, rfl⟩ := q59
    show gw _ _ _ _ _ [] (gm T (wse2 k b c) J) _
    have o8 : WOK c b (wse2 k b c) := wse2_ok o0
    refine gw_al1 at32_62 (gw_al0 at32_63 (gw_gr at32_64 (by first | exact NT_0 hT | exact NT_r16 hT | exact NT_t16 hT | exact NT_l16 hT | exact NT_r17 hT | exact NT_t17 hT | exact NT_l17 hT) (by first | exact NT_0 hT | exact NT_r16 hT | exact NT_t16 hT | exact NT_l16 hT | exact NT_r17 hT | exact NT_t17 hT | exact NT_l17 hT) ?_))
    refine gw_call2 at32_67 (c_wrw (n := 3) hb1 hB (LT_W hb1 hL o8) o8.1 o8.2.1 (NT_t17 hT) (NT_l17 hT) (by omega) (by omega) (by intro i q0 q1; rw [o8.2.2 (k + 11) (by omega) (by omega)]; exact (hN.2.2.2.2.2 i q0 (by omega)).1)) (by omega) (Nat.le_of_ble_eq_true rfl) (fun o M1 q67 => ?_)
    obtain ⟨rfl, rfl⟩ := q67
    show gw _ _ _ _ _ [] (gm T (wse k b c) J) _
    refine gw_rv at32_70 am_r32.2.1 ?_
    exact ⟨rfl, rfl⟩
set_option maxHeartbeats 1000000 in
theorem c_wroB {g : Nat} {T : gT} {c J : gC} {k b : Nat} (hT : NT T k) (hb1 : b + 2 ≤ 900000) (hb2 : b + 2 ≤ k ∨ k + 12 ≤ b) (hB : BT T b) (hL : LT T c) (hc : RG c) (hR : BR c b) (hN : NR c k) (hM : NMc c k) : gE g 31 5 [.ref k, .ref b] (gm T c J) (fun o M1 => o = .inl none ∧ M1 = gm T (wro k b c) J) := by
  have h1 := hN.2.1
  refine gE_mk am_r31 rfl (Or.inr ⟨_, rfl, (by first | exact NT_0 hT | exact NT_r10 hT | exact NT_t10 hT | exact NT_l10 hT | exact NT_r11 hT | exact NT_t11 hT | exact NT_l11 hT | exact NT_r12 hT | exact NT_t12 hT | exact NT_l12 hT | exact NT_r13 hT | exact NT_t13 hT | exact NT_l13 hT | exact NT_r14 hT | exact NT_t14 hT | exact NT_l14 hT)⟩) (fun d hd => ?_)
  show gw d g 31 0 [.ref k, .ref b, am_U] [] _ _
  refine gw_const at31_0 (gw_is2 at31_1 (h := ?_))
  have lp2 : ∀ i : Int, 0 ≤ i → i ≤ 12 → i ≤ c k 2 → gw d g 31 2 [.ref k, .ref b, gi i] [] (gm T (itI (wdf k b) c i) J) (fun o M1 => o = .inl none ∧ M1 = gm T (wro k b c) J) := by
    refine ind_up 12 ?_
    intro i hi0 hi1 ih hi2
    have o1 : WOK c b (itI (wdf k b) c i) := wi _ (WOK_0 hc hR) (fun _ _ h => wdf_ok h) i
    refine gw_il2 at31_2 ?_
    refine gw_al0 at31_3 (gw_gf (j := 2) at31_4 (by first | exact NT_0 hT | exact NT_r10 hT | exact NT_t10 hT | exact NT_l10 hT | exact NT_r11 hT | exact NT_t11 hT | exact NT_l11 hT | exact NT_r12 hT | exact NT_t12 hT | exact NT_l12 hT | exact NT_r13 hT | exact NT_t13 hT | exact NT_l13 hT | exact NT_r14 hT | exact NT_t14 hT | exact NT_l14 hT) rfl ?_)
    rw [o1.2.2 k (by omega) (by omega)]
    refine gw_cge at31_7 (by first | omega | exact o1.1 _ _ | exact o2.1 _ _ | exact o4.1 _ _ | exact o6.1 _ _ | exact o8.1 _ _ | exact o10.1 _ _ | exact o11.1 _ _) (by first | omega | exact o1.1 _ _ | exact o2.1 _ _ | exact o4.1 _ _ | exact o6.1 _ _ | exact o8.1 _ _ | exact o10.1 _ _ | exact o11.1 _ _) (fun q7 => ?_) (fun q7 => ?_)
    · refine gw_rv at31_120 am_r31.2.1 ?_
      refine ⟨rfl, ?_⟩
      unfold wro
      rw [show c k 2 = i by omega]
    · refine gw_al1 at31_10 (gw_ldcs (q := 900012) at31_11 rfl ?_)
      refine gw_call2 at31_13 (c_txt 12 (by omega) hB hb1 hL o1) (by omega) (Nat.le_of_ble_eq_true rfl) (fun o M1 q13 => ?_)
      obtain ⟨rfl, rfl⟩ := q13
      show gw _ _ _ _ _ [] (gm T (txt b 12 (itI (wdf k b) c i)) J) _
      have o2 := wt 12 o1
      refine gw_al1 at31_16 (gw_al0 at31_17 (gw_gr at31_18 (by first | exact NT_0 hT | exact NT_r10 hT | exact NT_t10 hT | exact NT_l10 hT | exact NT_r11 hT | exact NT_t11 hT | exact NT_l11 hT | exact NT_r12 hT | exact NT_t12 hT | exact NT_l12 hT | exact NT_r13 hT | exact NT_t13 hT | exact NT_l13 hT | exact NT_r14 hT | exact NT_t14 hT | exact NT_l14 hT) (by first | exact NT_0 hT | exact NT_r10 hT | exact NT_t10 hT | exact NT_l10 hT | exact NT_r11 hT | exact NT_t11 hT | exact NT_l11 hT | exact NT_r12 hT | exact NT_t12 hT | exact NT_l12 hT | exact NT_r13 hT | exact NT_t13 hT | exact NT_l13 hT | exact NT_r14 hT | exact NT_t14 hT | exact NT_l14 hT) (gw_il2 at31_21 (gw_ia at31_22 (by first | exact Or.inl (by first | exact NT_0 hT | exact NT_r10 hT | exact NT_t10 hT | exact NT_l10 hT | exact NT_r11 hT | exact NT_t11 hT | exact NT_l11 hT | exact NT_r12 hT | exact NT_t12 hT | exact NT_l12 hT | exact NT_r13 hT | exact NT_t13 hT | exact NT_l13 hT | exact NT_r14 hT | exact NT_t14 hT | exact NT_l14 hT) | exact Or.inr (by first | exact NT_0 hT | exact NT_r10 hT | exact NT_t10 hT | exact NT_l10 hT | exact NT_r11 hT | exact NT_t11 hT | exact NT_l11 hT | exact NT_r12 hT | exact NT_t12 hT | exact NT_l12 hT | exact NT_r13 hT | exact NT_t13 hT | exact NT_l13 hT | exact NT_r14 hT | exact NT_t14 hT | exact NT_l14 hT)) (by first | exact NT_0 hT | exact NT_r10 hT | exact NT_t10 hT | exact NT_l10 hT | exact NT_r11 hT | exact NT_t11 hT | exact NT_l11 hT | exact NT_r12 hT | exact NT_t12 hT | exact NT_l12 hT | exact NT_r13 hT | exact NT_t13 hT | exact NT_l13 hT | exact NT_r14 hT | exact NT_t14 hT | exact NT_l14 hT) (by first | omega | exact o1.1 _ _ | exact o2.1 _ _ | exact o4.1 _ _ | exact o6.1 _ _ | exact o8.1 _ _ | exact o10.1 _ _ | exact o11.1 _ _) (by first | omega | exact o1.1 _ _ | exact o2.1 _ _ | exact o4.1 _ _ | exact o6.1 _ _ | exact o8.1 _ _ | exact o10.1 _ _ | exact o11.1 _ _) (by omega) ?_))))
      refine gw_call2 at31_23 (c_putName hB o2.1 o2.2.1 ⟨by rw [o2.2.2 (k + 4) (by omega) (by omega)]; have := hM.2 i hi0 (by omega); omega, (o2.1 _ _).2⟩) (by omega) (Nat.le_of_ble_eq_true rfl) (fun o M1 q23 => ?_)
      obtain ⟨rfl, rfl⟩ := q23
      show gw _ _ _ _ _ [] (gm T (A1 (k + 4) b i (txt b 12 (itI (wdf k b) c i))) J) _
      have o3 : WOK c b (A1 (k + 4) b i (txt b 12 (itI (wdf k b) c i))) := wa o2
      refine gw_al1 at31_26 (gw_ldcs (q := 900010) at31_27 rfl ?_)
      refine gw_call2 at31_29 (c_txt 10 (by omega) hB hb1 hL o3) (by omega) (Nat.le_of_ble_eq_true rfl) (fun o M1 q29 => ?_)
      obtain ⟨rfl, rfl⟩ := q29
      show gw _ _ _ _ _ [] (gm T (txt b 10 (A1 (k + 4) b i (txt b 12 (itI (wdf k b) c i)))) J) _
      have o4 := wt 10 o3
      refine gw_al0 at31_32 (gw_al1 at31_33 (gw_al0 at31_34 (gw_gr at31_35 (by first | exact NT_0 hT | exact NT_r10 hT | exact NT_t10 hT | exact NT_l10 hT | exact NT_r11 hT | exact NT_t11 hT | exact NT_l11 hT | exact NT_r12 hT | exact NT_t12 hT | exact NT_l12 hT | exact NT_r13 hT | exact NT_t13 hT | exact NT_l13 hT | exact NT_r14 hT | exact NT_t14 hT | exact NT_l14 hT) (by first | exact NT_0 hT | exact NT_r10 hT | exact NT_t10 hT | exact NT_l10 hT | exact NT_r11 hT | exact NT_t11 hT | exact NT_l11 hT | exact NT_r12 hT | exact NT_t12 hT | exact NT_l12 hT | exact NT_r13 hT | exact NT_t13 hT | exact NT_l13 hT | exact NT_r14 hT | exact NT_t14 hT | exact NT_l14 hT) (gw_il2 at31_38 (gw_ia at31_39 (by first | exact Or.inl (by first | exact NT_0 hT | exact NT_r10 hT | exact NT_t10 hT | exact NT_l10 hT | exact NT_r11 hT | exact NT_t11 hT | exact NT_l11 hT | exact NT_r12 hT | exact NT_t12 hT | exact NT_l12 hT | exact NT_r13 hT | exact NT_t13 hT | exact NT_l13 hT | exact NT_r14 hT | exact NT_t14 hT | exact NT_l14 hT) | exact Or.inr (by first | exact NT_0 hT | exact NT_r10 hT | exact NT_t10 hT | exact NT_l10 hT | exact NT_r11 hT | exact NT_t11 hT | exact NT_l11 hT | exact NT_r12 hT | exact NT_t12 hT | exact NT_l12 hT | exact NT_r13 hT | exact NT_t13 hT | exact NT_l13 hT | exact NT_r14 hT | exact NT_t14 hT | exact NT_l14 hT)) (by first | exact NT_0 hT | exact NT_r10 hT | exact NT_t10 hT | exact NT_l10 hT | exact NT_r11 hT | exact NT_t11 hT | exact NT_l11 hT | exact NT_r12 hT | exact NT_t12 hT | exact NT_l12 hT | exact NT_r13 hT | exact NT_t13 hT | exact NT_l13 hT | exact NT_r14 hT | exact NT_t14 hT | exact NT_l14 hT) (by first | omega | exact o1.1 _ _ | exact o2.1 _ _ | exact o4.1 _ _ | exact o6.1 _ _ | exact o8.1 _ _ | exact o10.1 _ _ | exact o11.1 _ _) (by first | omega | exact o1.1 _ _ | exact o2.1 _ _ | exact o4.1 _ _ | exact o6.1 _ _ | exact o8.1 _ _ | exact o10.1 _ _ | exact o11.1 _ _) (by omega) ?_)))))
      refine gw_call3 at31_40 (c_wnnB hT hb1 hb2 hB (LT_W hb1 hL o4) o4.1 o4.2.1 (wNR hb2 hN o4) (wNMc hb2 hM o4) (o4.1 _ _)) (by omega) (Nat.le_of_ble_eq_true rfl) (fun o M1 q40 => ?_)
      obtain ⟨rfl, rfl⟩ := q40
      show gw _ _ _ _ _ [] (gm T (W1 k (k + 5) b i (txt b 10 (A1 (k + 4) b i (txt b 12 (itI (wdf k b) c i))))) J) _
      have o5 : WOK c b (W1 k (k + 5) b i (txt b 10 (A1 (k + 4) b i (txt b 12 (itI (wdf k b) c i))))) := wnn_ok o4
      refine gw_al1 at31_43 (gw_ldcs (q := 900010) at31_44 rfl ?_)
      refine gw_call2 at31_46 (c_txt 10 (by omega) hB hb1 hL o5) (by omega) (Nat.le_of_ble_eq_true rfl) (fun o M1 q46 => ?_)
      obtain ⟨rfl, rfl⟩ := q46
      show gw _ _ _ _ _ [] (gm T (txt b 10 (W1 k (k + 5) b i (txt b 10 (A1 (k + 4) b i (txt b 12 (itI (wdf k b) c i)))))) J) _
      have o6 := wt 10 o5
      refine gw_al0 at31_49 (gw_al1 at31_50 (gw_al0 at31_51 (gw_gr at31_52 (by first | exact NT_0 hT | exact NT_r10 hT | exact NT_t10 hT | exact NT_l10 hT | exact NT_r11 hT | exact NT_t11 hT | exact NT_l11 hT | exact NT_r12 hT | exact NT_t12 hT | exact NT_l12 hT | exact NT_r13 hT | exact NT_t13 hT | exact NT_l13 hT | exact NT_r14 hT | exact NT_t14 hT | exact NT_l14 hT) (by first | exact NT_0 hT | exact NT_r10 hT | exact NT_t10 hT | exact NT_l10 hT | exact NT_r11 hT | exact NT_t11 hT | exact NT_l11 hT | exact NT_r12 hT | exact NT_t12 hT | exact NT_l12 hT | exact NT_r13 hT | exact NT_t13 hT | exact NT_l13 hT | exact NT_r14 hT | exact NT_t14 hT | exact NT_l14 hT) (gw_il2 at31_55 (gw_ia at31_56 (by first | exact Or.inl (by first | exact NT_0 hT | exact NT_r10 hT | exact NT_t10 hT | exact NT_l10 hT | exact NT_r11 hT | exact NT_t11 hT | exact NT_l11 hT | exact NT_r12 hT | exact NT_t12 hT | exact NT_l12 hT | exact NT_r13 hT | exact NT_t13 hT | exact NT_l13 hT | exact NT_r14 hT | exact NT_t14 hT | exact NT_l14 hT) | exact Or.inr (by first | exact NT_0 hT | exact NT_r10 hT | exact NT_t10 hT | exact NT_l10 hT | exact NT_r11 hT | exact NT_t11 hT | exact NT_l11 hT | exact NT_r12 hT | exact NT_t12 hT | exact NT_l12 hT | exact NT_r13 hT | exact NT_t13 hT | exact NT_l13 hT | exact NT_r14 hT | exact NT_t14 hT | exact NT_l14 hT)) (by first | exact NT_0 hT | exact NT_r10 hT | exact NT_t10 hT | exact NT_l10 hT | exact NT_r11 hT | exact NT_t11 hT | exact NT_l11 hT | exact NT_r12 hT | exact NT_t12 hT | exact NT_l12 hT | exact NT_r13 hT | exact NT_t13 hT | exact NT_l13 hT | exact NT_r14 hT | exact NT_t14 hT | exact NT_l14 hT) (by first | omega | exact o1.1 _ _ | exact o2.1 _ _ | exact o4.1 _ _ | exact o6.1 _ _ | exact o8.1 _ _ | exact o10.1 _ _ | exact o11.1 _ _) (by first | omega | exact o1.1 _ _ | exact o2.1 _ _ | exact o4.1 _ _ | exact o6.1 _ _ | exact o8.1 _ _ | exact o10.1 _ _ | exact o11.1 _ _) (by omega) ?_)))))
      refine gw_call3 at31_57 (c_wnnB hT hb1 hb2 hB (LT_W hb1 hL o6) o6.1 o6.2.1 (wNR hb2 hN o6) (wNMc hb2 hM o6) (o6.1 _ _)) (by omega) (Nat.le_of_ble_eq_true rfl) (fun o M1 q57 => ?_)
      obtain ⟨rfl, rfl⟩ := q57
      show gw _ _ _ _ _ [] (gm T (W1 k (k + 6) b i (txt b 10 (W1 k (k + 5) b i (txt b 10 (A1 (k + 4) b i (txt b 12 (itI (wdf k b) c i))))))) J) _
      have o7 : WOK c b (W1 k (k + 6) b i (txt b 10 (W1 k (k + 5) b i (txt b 10 (A1 (k + 4) b i (txt b 12 (itI (wdf k b) c i))))))) := wnn_ok o6
      refine gw_al1 at31_60 (gw_ldcs (q := 900010) at31_61 rfl ?_)
      refine gw_call2 at31_63 (c_txt 10 (by omega) hB hb1 hL o7) (by omega) (Nat.le_of_ble_eq_true rfl) (fun o M1 q63 => ?_)
      obtain ⟨rfl, rfl⟩ := q63
      show gw _ _ _ _ _ [] (gm T (txt b 10 (W1 k (k + 6) b i (txt b 10 (W1 k (k + 5) b i (txt b 10 (A1 (k + 4) b i (txt b 12 (itI (wdf k b) c i)))))))) J) _
      have o8 := wt 10 o7
      refine gw_al1 at31_66 (gw_al0 at31_67 (gw_gr at31_68 (by first | exact NT_0 hT | exact NT_r10 hT | exact NT_t10 hT | exact NT_l10 hT | exact NT_r11 hT | exact NT_t11 hT | exact NT_l11 hT | exact NT_r12 hT | exact NT_t12 hT | exact NT_l12 hT | exact NT_r13 hT | exact NT_t13 hT | exact NT_l13 hT | exact NT_r14 hT | exact NT_t14 hT | exact NT_l14 hT) (by first | exact NT_0 hT | exact NT_r10 hT | exact NT_t10 hT | exact NT_l10 hT | exact NT_r11 hT | exact NT_t11 hT | exact NT_l11 hT | exact NT_r12 hT | exact NT_t12 hT | exact NT_l12 hT | exact NT_r13 hT | exact NT_t13 hT | exact NT_l13 hT | exact NT_r14 hT | exact NT_t14 hT | exact NT_l14 hT) (gw_il2 at31_71 (gw_ia at31_72 (by first | exact Or.inl (by first | exact NT_0 hT | exact NT_r10 hT | exact NT_t10 hT | exact NT_l10 hT | exact NT_r11 hT | exact NT_t11 hT | exact NT_l11 hT | exact NT_r12 hT | exact NT_t12 hT | exact NT_l12 hT | exact NT_r13 hT | exact NT_t13 hT | exact NT_l13 hT | exact NT_r14 hT | exact NT_t14 hT | exact NT_l14 hT) | exact Or.inr (by first | exact NT_0 hT | exact NT_r10 hT | exact NT_t10 hT | exact NT_l10 hT | exact NT_r11 hT | exact NT_t11 hT | exact NT_l11 hT | exact NT_r12 hT | exact NT_t12 hT | exact NT_l12 hT | exact NT_r13 hT | exact NT_t13 hT | exact NT_l13 hT | exact NT_r14 hT | exact NT_t14 hT | exact NT_l14 hT)) (by first | exact NT_0 hT | exact NT_r10 hT | exact NT_t10 hT | exact NT_l10 hT | exact NT_r11 hT | exact NT_t11 hT | exact NT_l11 hT | exact NT_r12 hT | exact NT_t12 hT | exact NT_l12 hT | exact NT_r13 hT | exact NT_t13 hT | exact NT_l13 hT | exact NT_r14 hT | exact NT_t14 hT | exact NT_l14 hT) (by first | omega | exact o1.1 _ _ | exact o2.1 _ _ | exact o4.1 _ _ | exact o6.1 _ _ | exact o8.1 _ _ | exact o10.1 _ _ | exact o11.1 _ _) (by first | omega | exact o1.1 _ _ | exact o2.1 _ _ | exact o4.1 _ _ | exact o6.1 _ _ | exact o8.1 _ _ | exact o10.1 _ _ | exact o11.1 _ _) (by omega) ?_))))
      refine gw_call2 at31_73 (c_putNumber hB o8.1 o8.2.1 ⟨by rw [o8.2.2 (k + 7) (by omega) (by omega)]; have := hN.2.2.2.1 i hi0 (by omega); omega, (o8.1 _ _).2⟩) (by omega) (Nat.le_of_ble_eq_true rfl) (fun o M1 q73 => ?_)
      obtain ⟨rfl, rfl⟩ := q73
      show gw _ _ _ _ _ [] (gm T (P1 (k + 7) b i (txt b 10 (W1 k (k + 6) b i (txt b 10 (W1 k (k + 5) b i (txt b 10 (A1 (k + 4) b i (txt b 12 (itI (wdf k b) c i))))))))) J) _
      have o9 : WOK c b (P1 (k + 7) b i (txt b 10 (W1 k (k + 6) b i (txt b 10 (W1 k (k + 5) b i (txt b 10 (A1 (k + 4) b i (txt b 12 (itI (wdf k b) c i))))))))) := wp o8
      refine gw_al1 at31_76 (gw_ldcs (q := 900010) at31_77 rfl ?_)
      refine gw_call2 at31_79 (c_txt 10 (by omega) hB hb1 hL o9) (by omega) (Nat.le_of_ble_eq_true rfl) (fun o M1 q79 => ?_)
      obtain ⟨rfl, rfl⟩ := q79
      show gw _ _ _ _ _ [] (gm T (txt b 10 (P1 (k + 7) b i (txt b 10 (W1 k (k + 6) b i (txt b 10 (W1 k (k + 5) b i (txt b 10 (A1 (k + 4) b i (txt b 12 (itI (wdf k b) c i)))))))))) J) _
      have o10 := wt 10 o9
      refine gw_al1 at31_82 (gw_al0 at31_83 (gw_gr at31_84 (by first | exact NT_0 hT | exact NT_r10 hT | exact NT_t10 hT | exact NT_l10 hT | exact NT_r11 hT | exact NT_t11 hT | exact NT_l11 hT | exact NT_r12 hT | exact NT_t12 hT | exact NT_l12 hT | exact NT_r13 hT | exact NT_t13 hT | exact NT_l13 hT | exact NT_r14 hT | exact NT_t14 hT | exact NT_l14 hT) (by first | exact NT_0 hT | exact NT_r10 hT | exact NT_t10 hT | exact NT_l10 hT | exact NT_r11 hT | exact NT_t11 hT | exact NT_l11 hT | exact NT_r12 hT | exact NT_t12 hT | exact NT_l12 hT | exact NT_r13 hT | exact NT_t13 hT | exact NT_l13 hT | exact NT_r14 hT | exact NT_t14 hT | exact NT_l14 hT) (gw_il2 at31_87 (gw_ia at31_88 (by first | exact Or.inl (by first | exact NT_0 hT | exact NT_r10 hT | exact NT_t10 hT | exact NT_l10 hT | exact NT_r11 hT | exact NT_t11 hT | exact NT_l11 hT | exact NT_r12 hT | exact NT_t12 hT | exact NT_l12 hT | exact NT_r13 hT | exact NT_t13 hT | exact NT_l13 hT | exact NT_r14 hT | exact NT_t14 hT | exact NT_l14 hT) | exact Or.inr (by first | exact NT_0 hT | exact NT_r10 hT | exact NT_t10 hT | exact NT_l10 hT | exact NT_r11 hT | exact NT_t11 hT | exact NT_l11 hT | exact NT_r12 hT | exact NT_t12 hT | exact NT_l12 hT | exact NT_r13 hT | exact NT_t13 hT | exact NT_l13 hT | exact NT_r14 hT | exact NT_t14 hT | exact NT_l14 hT)) (by first | exact NT_0 hT | exact NT_r10 hT | exact NT_t10 hT | exact NT_l10 hT | exact NT_r11 hT | exact NT_t11 hT | exact NT_l11 hT | exact NT_r12 hT | exact NT_t12 hT | exact NT_l12 hT | exact NT_r13 hT | exact NT_t13 hT | exact NT_l13 hT | exact NT_r14 hT | exact NT_t14 hT | exact NT_l14 hT) (by first | omega | exact o1.1 _ _ | exact o2.1 _ _ | exact o4.1 _ _ | exact o6.1 _ _ | exact o8.1 _ _ | exact o10.1 _ _ | exact o11.1 _ _) (by first | omega | exact o1.1 _ _ | exact o2.1 _ _ | exact o4.1 _ _ | exact o6.1 _ _ | exact o8.1 _ _ | exact o10.1 _ _ | exact o11.1 _ _) (by omega) ?_))))
      refine gw_call2 at31_89 (c_putNumber hB o10.1 o10.2.1 ⟨by rw [o10.2.2 (k + 8) (by omega) (by omega)]; have := hN.2.2.2.1 i hi0 (by omega); omega, (o10.1 _ _).2⟩) (by omega) (Nat.le_of_ble_eq_true rfl) (fun o M1 q89 => ?_)
      obtain ⟨rfl, rfl⟩ := q89
      show gw _ _ _ _ _ [] (gm T (wd0 k b i (itI (wdf k b) c i)) J) _
      have o11 : WOK c b (wd0 k b i (itI (wdf k b) c i)) := wd0_ok o1
      refine gw_al1 at31_92 (gw_al0 at31_93 (gw_gf (j := 6) at31_94 (by first | exact NT_0 hT | exact NT_r10 hT | exact NT_t10 hT | exact NT_l10 hT | exact NT_r11 hT | exact NT_t11 hT | exact NT_l11 hT | exact NT_r12 hT | exact NT_t12 hT | exact NT_l12 hT | exact NT_r13 hT | exact NT_t13 hT | exact NT_l13 hT | exact NT_r14 hT | exact NT_t14 hT | exact NT_l14 hT) rfl (gw_il2 at31_97 (gw_callP2 at31_98 (c_contains) (by omega) (Nat.le_of_ble_eq_true rfl) ?_))))
      refine gw_beq at31_101 (fun q101 => ?_) (fun q101 => ?_)
      · refine gw_ldcs (q := 900011) at31_109 rfl ?_
        refine gw_call2 at31_111 (c_txt 11 (by omega) hB hb1 hL o11) (by omega) (Nat.le_of_ble_eq_true rfl) (fun o M1 q111 => ?_)
        obtain ⟨rfl, rfl⟩ := q111
        show gw _ _ _ _ _ [] (gm T (txt b 11 (wd0 k b i (itI (wdf k b) c i))) J) _
        refine gw_inc2 at31_114 (h := (gw_goto at31_117 ?_))
        have e := ih (i + 1) (by omega) (by omega) (by omega)
        rw [itI_s _ _ hi0, wdf_f (by assumption)] at e
        exact e
      · refine gw_ldcs (q := 900013) at31_104 rfl (gw_goto at31_106 ?_)
        refine gw_call2 at31_111 (c_txt 13 (by omega) hB hb1 hL o11) (by omega) (Nat.le_of_ble_eq_true rfl) (fun o M1 q111 => ?_)
        obtain ⟨rfl, rfl⟩ := q111
        show gw _ _ _ _ _ [] (gm T (txt b 13 (wd0 k b i (itI (wdf k b) c i))) J) _
        refine gw_inc2 at31_114 (h := (gw_goto at31_117 ?_))
        have e := ih (i + 1) (by omega) (by omega) (by omega)
        rw [itI_s _ _ hi0, wdf_t (by assumption)] at e
        exact e
  exact lp2 0 (by omega) (by omega) (by omega)

set_option maxHeartbeats 1000000 in
theorem c_x_writeB {g : Nat} {T : gT} {c J : gC} (hX : XT T) (hT : NT T 100014) (hW : WT T 100034) (hB : BT T 100030) (hL : LT T c) (hc : RG c) (hN : NR c 100014) (hM : NMc c 100014) (hF : 0 ≤ c 100014 4) (hsn : ∀ i : Int, 0 ≤ i → i < c 100014 2 → 0 ≤ c (100014 + 9) i) (hw7 : 0 ≤ c 100034 7) : gE g 159 7 [.ref 500000] (gm T c J) (fun o M1 => o = .inl (some (gi (wnt c 100030 1))) ∧ M1 = gm T (wnt c) J) := by
  have o0 : WOK c 100030 (gu c 100030 1 0) := ⟨RG_gu hc (by omega), ⟨by rw [gu_s]; omega, by rw [gu_s]; omega⟩, fun x h1 h2 j => gu_k h1⟩
  refine gE_mk am_r159 rfl (Or.inr ⟨_, rfl, (by first | exact XT_0 hX | exact XT_r1 hX | exact XT_r4 hX | exact XT_r5 hX | exact hB.1 | exact WT_0 hW)⟩) (fun d hd => ?_)
  show gw d g 159 0 [.ref 500000] [] _ _
  refine gw_al0 at159_0 (gw_gr at159_1 (by first | exact XT_0 hX | exact XT_r1 hX | exact XT_r4 hX | exact XT_r5 hX | exact hB.1 | exact WT_0 hW) (by first | exact XT_0 hX | exact XT_r1 hX | exact XT_r4 hX | exact XT_r5 hX | exact hB.1 | exact WT_0 hW) (gw_const at159_4 (gw_pf (j := 1) at159_5 (by first | exact XT_0 hX | exact XT_r1 hX | exact XT_r4 hX | exact XT_r5 hX | exact hB.1 | exact WT_0 hW) rfl (gw_al0 at159_8 (gw_gr at159_9 (by first | exact XT_0 hX | exact XT_r1 hX | exact XT_r4 hX | exact XT_r5 hX | exact hB.1 | exact WT_0 hW) (by first | exact XT_0 hX | exact XT_r1 hX | exact XT_r4 hX | exact XT_r5 hX | exact hB.1 | exact WT_0 hW) (gw_al0 at159_12 (gw_gr at159_13 (by first | exact XT_0 hX | exact XT_r1 hX | exact XT_r4 hX | exact XT_r5 hX | exact hB.1 | exact WT_0 hW) (by first | exact XT_0 hX | exact XT_r1 hX | exact XT_r4 hX | exact XT_r5 hX | exact hB.1 | exact WT_0 hW) ?_)))))))
  refine gw_call2 at159_16 (c_wnoB hT (by omega) (Or.inr (by omega)) hB (LT_W (by omega) hL o0) o0.1 o0.2.1 (wNR (Or.inr (by omega)) hN o0) (wNMc (Or.inr (by omega)) hM o0)) (by omega) (Nat.le_of_ble_eq_true rfl) (fun o M1 q16 => ?_)
  obtain ⟨rfl, rfl⟩ := q16
  show gw _ _ _ _ _ [] (gm T (wno 100014 100030 (gu c 100030 1 0)) J) _
  have o1 : WOK c 100030 (wno 100014 100030 (gu c 100030 1 0)) := wno_ok o0
  refine gw_al0 at159_19 (gw_gr at159_20 (by first | exact XT_0 hX | exact XT_r1 hX | exact XT_r4 hX | exact XT_r5 hX | exact hB.1 | exact WT_0 hW) (by first | exact XT_0 hX | exact XT_r1 hX | exact XT_r4 hX | exact XT_r5 hX | exact hB.1 | exact WT_0 hW) (gw_al0 at159_23 (gw_gr at159_24 (by first | exact XT_0 hX | exact XT_r1 hX | exact XT_r4 hX | exact XT_r5 hX | exact hB.1 | exact WT_0 hW) (by first | exact XT_0 hX | exact XT_r1 hX | exact XT_r4 hX | exact XT_r5 hX | exact hB.1 | exact WT_0 hW) ?_)))
  refine gw_call2 at159_27 (c_wroB hT (by omega) (Or.inr (by omega)) hB (LT_W (by omega) hL o1) o1.1 o1.2.1 (wNR (Or.inr (by omega)) hN o1) (wNMc (Or.inr (by omega)) hM o1)) (by omega) (Nat.le_of_ble_eq_true rfl) (fun o M1 q27 => ?_)
  obtain ⟨rfl, rfl⟩ := q27
  show gw _ _ _ _ _ [] (gm T (wro 100014 100030 (wno 100014 100030 (gu c 100030 1 0))) J) _
  have o2 : WOK c 100030 (wro 100014 100030 (wno 100014 100030 (gu c 100030 1 0))) := wro_ok o1
  refine gw_al0 at159_30 (gw_gr at159_31 (by first | exact XT_0 hX | exact XT_r1 hX | exact XT_r4 hX | exact XT_r5 hX | exact hB.1 | exact WT_0 hW) (by first | exact XT_0 hX | exact XT_r1 hX | exact XT_r4 hX | exact XT_r5 hX | exact hB.1 | exact WT_0 hW) (gw_al0 at159_34 (gw_gr at159_35 (by first | exact XT_0 hX | exact XT_r1 hX | exact XT_r4 hX | exact XT_r5 hX | exact hB.1 | exact WT_0 hW) (by first | exact XT_0 hX | exact XT_r1 hX | exact XT_r4 hX | exact XT_r5 hX | exact hB.1 | exact WT_0 hW) ?_)))
  refine gw_call2 at159_38 (c_wseB hT (by omega) (Or.inr (by omega)) hB (LT_W (by omega) hL o2) o2.1 o2.2.1 (wNR (Or.inr (by omega)) hN o2) (wNMc (Or.inr (by omega)) hM o2) (by rw [o2.2.2 100014 (by omega) (by omega)]; exact hF)) (by omega) (Nat.le_of_ble_eq_true rfl) (fun o M1 q38 => ?_)
  obtain ⟨rfl, rfl⟩ := q38
  show gw _ _ _ _ _ [] (gm T (wse 100014 100030 (wro 100014 100030 (wno 100014 100030 (gu c 100030 1 0)))) J) _
  have o3 : WOK c 100030 (wse 100014 100030 (wro 100014 100030 (wno 100014 100030 (gu c 100030 1 0)))) := wse_ok o2
  refine gw_al0 at159_41 (gw_gr at159_42 (by first | exact XT_0 hX | exact XT_r1 hX | exact XT_r4 hX | exact XT_r5 hX | exact hB.1 | exact WT_0 hW) (by first | exact XT_0 hX | exact XT_r1 hX | exact XT_r4 hX | exact XT_r5 hX | exact hB.1 | exact WT_0 hW) (gw_al0 at159_45 (gw_gr at159_46 (by first | exact XT_0 hX | exact XT_r1 hX | exact XT_r4 hX | exact XT_r5 hX | exact hB.1 | exact WT_0 hW) (by first | exact XT_0 hX | exact XT_r1 hX | exact XT_r4 hX | exact XT_r5 hX | exact hB.1 | exact WT_0 hW) ?_)))
  refine gw_call2 at159_49 (c_wsnB hT (by omega) (Or.inr (by omega)) hB (LT_W (by omega) hL o3) o3.1 o3.2.1 (wNR (Or.inr (by omega)) hN o3) (wNMc (Or.inr (by omega)) hM o3) (fun i a b => by rw [o3.2.2 (100014 + 9) (by omega) (by omega)]; exact hsn i a (by rw [o3.2.2 100014 (by omega) (by omega)] at b; exact b))) (by omega) (Nat.le_of_ble_eq_true rfl) (fun o M1 q49 => ?_)
  obtain ⟨rfl, rfl⟩ := q49
  show gw _ _ _ _ _ [] (gm T (wsn 100014 100030 (wse 100014 100030 (wro 100014 100030 (wno 100014 100030 (gu c 100030 1 0))))) J) _
  have o4 : WOK c 100030 (wsn 100014 100030 (wse 100014 100030 (wro 100014 100030 (wno 100014 100030 (gu c 100030 1 0))))) := wsn_ok o3
  refine gw_al0 at159_52 (gw_gr at159_53 (by first | exact XT_0 hX | exact XT_r1 hX | exact XT_r4 hX | exact XT_r5 hX | exact hB.1 | exact WT_0 hW) (by first | exact XT_0 hX | exact XT_r1 hX | exact XT_r4 hX | exact XT_r5 hX | exact hB.1 | exact WT_0 hW) (gw_ldcsw (q := 900018) at159_56 rfl ?_))
  refine gw_call2 at159_59 (c_txt 18 (by omega) hB (by omega) hL o4) (by omega) (Nat.le_of_ble_eq_true rfl) (fun o M1 q59 => ?_)
  obtain ⟨rfl, rfl⟩ := q59
  show gw _ _ _ _ _ [] (gm T (txt 100030 18 (wsn 100014 100030 (wse 100014 100030 (wro 100014 100030 (wno 100014 100030 (gu c 100030 1 0)))))) J) _
  have o5 := wt 18 o4
  refine gw_al0 at159_62 (gw_gr at159_63 (by first | exact XT_0 hX | exact XT_r1 hX | exact XT_r4 hX | exact XT_r5 hX | exact hB.1 | exact WT_0 hW) (by first | exact XT_0 hX | exact XT_r1 hX | exact XT_r4 hX | exact XT_r5 hX | exact hB.1 | exact WT_0 hW) (gw_al0 at159_66 (gw_gr at159_67 (by first | exact XT_0 hX | exact XT_r1 hX | exact XT_r4 hX | exact XT_r5 hX | exact hB.1 | exact WT_0 hW) (by first | exact XT_0 hX | exact XT_r1 hX | exact XT_r4 hX | exact XT_r5 hX | exact hB.1 | exact WT_0 hW) (gw_gf (j := 7) at159_70 (by first | exact XT_0 hX | exact XT_r1 hX | exact XT_r4 hX | exact XT_r5 hX | exact hB.1 | exact WT_0 hW) rfl ?_))))
  refine gw_call2 at159_73 (c_putNumber hB o5.1 o5.2.1 ⟨by rw [o5.2.2 100034 (by omega) (by omega)]; exact hw7, (o5.1 _ _).2⟩) (by omega) (Nat.le_of_ble_eq_true rfl) (fun o M1 q73 => ?_)
  obtain ⟨rfl, rfl⟩ := q73
  show gw _ _ _ _ _ [] (gm T (P1 100034 100030 7 (txt 100030 18 (wsn 100014 100030 (wse 100014 100030 (wro 100014 100030 (wno 100014 100030 (gu c 100030 1 0))))))) J) _
  have o6 : WOK c 100030 (P1 100034 100030 7 (txt 100030 18 (wsn 100014 100030 (wse 100014 100030 (wro 100014 100030 (wno 100014 100030 (gu c 100030 1 0))))))) := wp o5
  refine gw_al0 at159_76 (gw_gr at159_77 (by first | exact XT_0 hX | exact XT_r1 hX | exact XT_r4 hX | exact XT_r5 hX | exact hB.1 | exact WT_0 hW) (by first | exact XT_0 hX | exact XT_r1 hX | exact XT_r4 hX | exact XT_r5 hX | exact hB.1 | exact WT_0 hW) (gw_ldcsw (q := 900011) at159_80 rfl ?_))
  refine gw_call2 at159_83 (c_txt 11 (by omega) hB (by omega) hL o6) (by omega) (Nat.le_of_ble_eq_true rfl) (fun o M1 q83 => ?_)
  obtain ⟨rfl, rfl⟩ := q83
  show gw _ _ _ _ _ [] (gm T (wnt c) J) _
  refine gw_al0 at159_86 (gw_gr at159_87 (by first | exact XT_0 hX | exact XT_r1 hX | exact XT_r4 hX | exact XT_r5 hX | exact hB.1 | exact WT_0 hW) (by first | exact XT_0 hX | exact XT_r1 hX | exact XT_r4 hX | exact XT_r5 hX | exact hB.1 | exact WT_0 hW) (gw_gf (j := 1) at159_90 (by first | exact XT_0 hX | exact XT_r1 hX | exact XT_r4 hX | exact XT_r5 hX | exact hB.1 | exact WT_0 hW) rfl (gw_ri at159_93 am_r159.2.1 ?_)))
  exact ⟨rfl, rfl⟩

