/-! network: settings and roads are written -/
theorem wNR {c m : gC} {k b : Nat} (hb : b + 2 ≤ k ∨ k + 12 ≤ b) (hN : NR c k) (o : WOK c b m) : NR m k := NF_NR (fun i h1 h2 j => o.2.2 i (by omega) (by omega) j) hN
theorem wNM {c m : gC} {k b : Nat} (hb : b + 2 ≤ k ∨ k + 12 ≤ b) (hM : NM c k) (o : WOK c b m) : NM m k := ⟨fun i h1 h2 => by rw [o.2.2 (k + 1) (by omega) (by omega)]; exact hM.1 i h1 h2, fun i h1 h2 => by rw [o.2.2 (k + 4) (by omega) (by omega)]; exact hM.2 i h1 h2⟩
def W1 (k q b : Nat) (i : Int) (m : gC) : gC := wnn k b (m q i) m
def wse0 (k b : Nat) (m : gC) : gC := wrw b (k + 10) 4 (txt b 3 m)
def wse1 (k b : Nat) (m : gC) : gC := if 0 < wse0 k b m k 1 then txt b 11 (W1 k k b 3 (txt b 14 (wse0 k b m))) else wse0 k b m
def wse2 (k b : Nat) (m : gC) : gC := txt b 16 (P1 k b 4 (txt b 15 (wse1 k b m)))
def wse (k b : Nat) (m : gC) : gC := wrw b (k + 11) 3 (wse2 k b m)
theorem wse0_ok {c m : gC} {k b : Nat} (h : WOK c b m) : WOK c b (wse0 k b m) := wrw_ok (wt 3 h)
theorem wse1_ok {c m : gC} {k b : Nat} (h : WOK c b m) : WOK c b (wse1 k b m) := by
  unfold wse1
  split
  · exact wt 11 (wnn_ok (wt 14 (wse0_ok h)))
  · exact wse0_ok h
theorem wse1_t {m : gC} {k b : Nat} (h : 0 < wse0 k b m k 1) : wse1 k b m = txt b 11 (W1 k k b 3 (txt b 14 (wse0 k b m))) := if_pos h
theorem wse1_f {m : gC} {k b : Nat} (h : ¬ 0 < wse0 k b m k 1) : wse1 k b m = wse0 k b m := if_neg h
theorem wse2_ok {c m : gC} {k b : Nat} (h : WOK c b m) : WOK c b (wse2 k b m) := wt 16 (wp (wt 15 (wse1_ok h)))
theorem wse_ok {c m : gC} {k b : Nat} (h : WOK c b m) : WOK c b (wse k b m) := wrw_ok (wse2_ok h)
def wd0 (k b : Nat) (i : Int) (m : gC) : gC := P1 (k + 8) b i (txt b 10 (P1 (k + 7) b i (txt b 10 (W1 k (k + 6) b i (txt b 10 (W1 k (k + 5) b i (txt b 10 (A1 (k + 4) b i (txt b 12 m)))))))))
def wdf (k b : Nat) (i : Int) (m : gC) : gC := if tb (wd0 k b i m k 6) i = true then txt b 13 (wd0 k b i m) else txt b 11 (wd0 k b i m)
theorem wd0_ok {c m : gC} {k b : Nat} {i : Int} (h : WOK c b m) : WOK c b (wd0 k b i m) := wp (wt 10 (wp (wt 10 (wnn_ok (wt 10 (wnn_ok (wt 10 (wa (wt 12 h)))))))))
theorem wdf_ok {c m : gC} {k b : Nat} {i : Int} (h : WOK c b m) : WOK c b (wdf k b i m) := by
  unfold wdf
  split
  · exact wt 13 (wd0_ok h)
  · exact wt 11 (wd0_ok h)
theorem wdf_t {m : gC} {k b : Nat} {i : Int} (h : tb (wd0 k b i m k 6) i = true) : wdf k b i m = txt b 13 (wd0 k b i m) := if_pos h
theorem wdf_f {m : gC} {k b : Nat} {i : Int} (h : tb (wd0 k b i m k 6) i = false) : wdf k b i m = txt b 11 (wd0 k b i m) := if_neg (by rw [h]; exact Bool.false_ne_true)
def wro (k b : Nat) (m : gC) : gC := itI (wdf k b) m (m k 2)
set_option maxHeartbeats 1000000 in
theorem c_wse {g : Nat} {T : gT} {c J : gC} {k b : Nat} (hT : NT T k) (hb1 : b + 2 ≤ 900000) (hb2 : b + 2 ≤ k ∨ k + 12 ≤ b) (hB : BT T b) (hL : LT T c) (hc : RG c) (hR : BR c b) (hN : NR c k) (hM : NM c k) (hF : 0 ≤ c k 4) : gE g 32 6 [.ref k, .ref b] (gm T c J) (fun o M1 => o = .inl none ∧ M1 = gm T (wse k b c) J) := by
  have h1 := hN.1
  have o0 := WOK_0 hc hR
  refine gE_mk am_r32 rfl (Or.inr ⟨_, rfl, (by first | exact NT_0 hT | exact NT_r16 hT | exact NT_t16 hT | exact NT_l16 hT | exact NT_r17 hT | exact NT_t17 hT | exact NT_l17 hT)⟩) (fun d hd => ?_)
  show gw d g 32 0 [.ref k, .ref b] [] _ _
  refine gw_al1 at32_0 (gw_ldcs (q := 900003) at32_1 rfl ?_)
  refine gw_call2 at32_3 (c_txt 3 (by omega) hB hb1 hL o0) (by omega) (Nat.le_of_ble_eq_true rfl) (fun o M1 q3 => ?_)
  obtain ⟨rfl, rfl⟩ := q3
  show gw _ _ _ _ _ [] (gm T (txt b 3 c) J) _
  have o1 := wt 3 o0
  refine gw_al1 at32_6 (gw_al0 at32_7 (gw_gr at32_8 (by first | exact NT_0 hT | exact NT_r16 hT | exact NT_t16 hT | exact NT_l16 hT | exact NT_r17 hT | exact NT_t17 hT | exact NT_l17 hT) (by first | exact NT_0 hT | exact NT_r16 hT | exact NT_t16 hT | exact NT_l16 hT | exact NT_r17 hT | exact NT_t17 hT | exact NT_l17 hT) ?_))
  refine gw_call2 at32_11 (c_wrw (n := 4) hb1 hB (LT_W hb1 hL o1) o1.1 o1.2.1 (NT_t16 hT) (NT_l16 hT) (by omega) (by omega) (by intro i q0 q1; rw [o1.2.2 (k + 10) (by omega) (by omega)]; exact (hN.2.2.2.2.1 i q0 (by omega)).1)) (by omega) (Nat.le_of_ble_eq_true rfl) (fun o M1 q11 => ?_)
  obtain ⟨rfl, rfl⟩ := q11
  show gw _ _ _ _ _ [] (gm T (wse0 k b c) J) _
  have o2 : WOK c b (wse0 k b c) := wse0_ok o0
  refine gw_al0 at32_14 (gw_gf (j := 1) at32_15 (by first | exact NT_0 hT | exact NT_r16 hT | exact NT_t16 hT | exact NT_l16 hT | exact NT_r17 hT | exact NT_t17 hT | exact NT_l17 hT) rfl ?_)
  refine gw_zle at32_18 (by first | omega | exact hc _ _ | exact o2.1 _ _) (fun q18 => ?_) (fun q18 => ?_)
  · try rw [← wse1_f (by omega)]
    have o5 : WOK c b (wse1 k b c) := wse1_ok o0
    refine gw_al1 at32_42 (gw_ldcs (q := 900015) at32_43 rfl ?_)
    refine gw_call2 at32_45 (c_txt 15 (by omega) hB hb1 hL o5) (by omega) (Nat.le_of_ble_eq_true rfl) (fun o M1 q45 => ?_)
    obtain ⟨rfl, rfl⟩ := q45
    show gw _ _ _ _ _ [] (gm T (txt b 15 (wse1 k b c)) J) _
    have o6 := wt 15 o5
    refine gw_al1 at32_48 (gw_al0 at32_49 (gw_gf (j := 4) at32_50 (by first | exact NT_0 hT | exact NT_r16 hT | exact NT_t16 hT | exact NT_l16 hT | exact NT_r17 hT | exact NT_t17 hT | exact NT_l17 hT) rfl ?_))
    refine gw_call2 at32_53 (c_putNumber hB o6.1 o6.2.1 ⟨by rw [o6.2.2 k (by omega) (by omega)]; exact hF, (o6.1 _ _).2⟩) (by omega) (Nat.le_of_ble_eq_true rfl) (fun o M1 q53 => ?_)
    obtain ⟨rfl, rfl⟩ := q53
    show gw _ _ _ _ _ [] (gm T (P1 k b 4 (txt b 15 (wse1 k b c))) J) _
    have o7 : WOK c b (P1 k b 4 (txt b 15 (wse1 k b c))) := wp o6
    refine gw_al1 at32_56 (gw_ldcs (q := 900016) at32_57 rfl ?_)
    refine gw_call2 at32_59 (c_txt 16 (by omega) hB hb1 hL o7) (by omega) (Nat.le_of_ble_eq_true rfl) (fun o M1 q59 => ?_)
    obtain ⟨rfl, rfl⟩ := q59
    show gw _ _ _ _ _ [] (gm T (wse2 k b c) J) _
    have o8 : WOK c b (wse2 k b c) := wse2_ok o0
    refine gw_al1 at32_62 (gw_al0 at32_63 (gw_gr at32_64 (by first | exact NT_0 hT | exact NT_r16 hT | exact NT_t16 hT | exact NT_l16 hT | exact NT_r17 hT | exact NT_t17 hT | exact NT_l17 hT) (by first | exact NT_0 hT | exact NT_r16 hT | exact NT_t16 hT | exact NT_l16 hT | exact NT_r17 hT | exact NT_t17 hT | exact NT_l17 hT) ?_))
    refine gw_call2 at32_67 (c_wrw (n := 3) hb1 hB (LT_W hb1 hL o8) o8.1 o8.2.1 (NT_t17 hT) (NT_l17 hT) (by omega) (by omega) (by intro i q0 q1; rw [o8.2.2 (k + 11) (by omega) (by omega)]; exact (hN.2.2.2.2.2 i q0 (by omega)).1)) (by omega) (Nat.le_of_ble_eq_true rfl) (fun o M1 q67 => ?_)
    obtain ⟨rfl, rfl⟩ := q67
    show gw _ _ _ _ _ [] (gm T (wse k b c) J) _
    refine gw_rv at32_70 am_r32.2.1 ?_
    exact ⟨rfl, rfl⟩
  · refine gw_al1 at32_21 (gw_ldcs (q := 900014) at32_22 rfl ?_)
    refine gw_call2 at32_24 (c_txt 14 (by omega) hB hb1 hL o2) (by omega) (Nat.le_of_ble_eq_true rfl) (fun o M1 q24 => ?_)
    obtain ⟨rfl, rfl⟩ := q24
    show gw _ _ _ _ _ [] (gm T (txt b 14 (wse0 k b c)) J) _
    have o3 := wt 14 o2
    refine gw_al0 at32_27 (gw_al1 at32_28 (gw_al0 at32_29 (gw_gf (j := 3) at32_30 (by first | exact NT_0 hT | exact NT_r16 hT | exact NT_t16 hT | exact NT_l16 hT | exact NT_r17 hT | exact NT_t17 hT | exact NT_l17 hT) rfl ?_)))
    refine gw_call3 at32_33 (c_wnn hT hb1 hb2 hB (LT_W hb1 hL o3) o3.1 o3.2.1 (wNR hb2 hN o3) (wNM hb2 hM o3) (o3.1 _ _)) (by omega) (Nat.le_of_ble_eq_true rfl) (fun o M1 q33 => ?_)
    obtain ⟨rfl, rfl⟩ := q33
    show gw _ _ _ _ _ [] (gm T (W1 k k b 3 (txt b 14 (wse0 k b c))) J) _
    have o4 : WOK c b (W1 k k b 3 (txt b 14 (wse0 k b c))) := wnn_ok o3
    refine gw_al1 at32_36 (gw_ldcs (q := 900011) at32_37 rfl ?_)
    refine gw_call2 at32_39 (c_txt 11 (by omega) hB hb1 hL o4) (by omega) (Nat.le_of_ble_eq_true rfl) (fun o M1 q39 => ?_)
    obtain ⟨rfl, rfl⟩ := q39
    show gw _ _ _ _ _ [] (gm T (txt b 11 (W1 k k b 3 (txt b 14 (wse0 k b c)))) J) _
    have e39 : txt b 11 (W1 k k b 3 (txt b 14 (wse0 k b c))) = wse1 k b c := (wse1_t (by omega)).symm
    rw [e39]
    try rw [← wse1_f (by omega)]
    have o5 : WOK c b (wse1 k b c) := wse1_ok o0
    refine gw_al1 at32_42 (gw_ldcs (q := 900015) at32_43 rfl ?_)
    refine gw_call2 at32_45 (c_txt 15 (by omega) hB hb1 hL o5) (by omega) (Nat.le_of_ble_eq_true rfl) (fun o M1 q45 => ?_)
    obtain ⟨rfl, rfl⟩ := q45
    show gw _ _ _ _ _ [] (gm T (txt b 15 (wse1 k b c)) J) _
    have o6 := wt 15 o5
    refine gw_al1 at32_48 (gw_al0 at32_49 (gw_gf (j := 4) at32_50 (by first | exact NT_0 hT | exact NT_r16 hT | exact NT_t16 hT | exact NT_l16 hT | exact NT_r17 hT | exact NT_t17 hT | exact NT_l17 hT) rfl ?_))
    refine gw_call2 at32_53 (c_putNumber hB o6.1 o6.2.1 ⟨by rw [o6.2.2 k (by omega) (by omega)]; exact hF, (o6.1 _ _).2⟩) (by omega) (Nat.le_of_ble_eq_true rfl) (fun o M1 q53 => ?_)
    obtain ⟨rfl, rfl⟩ := q53
    show gw _ _ _ _ _ [] (gm T (P1 k b 4 (txt b 15 (wse1 k b c))) J) _
    have o7 : WOK c b (P1 k b 4 (txt b 15 (wse1 k b c))) := wp o6
    refine gw_al1 at32_56 (gw_ldcs (q := 900016) at32_57 rfl ?_)
    refine gw_call2 at32_59 (c_txt 16 (by omega) hB hb1 hL o7) (by omega) (Nat.le_of_ble_eq_true rfl) (fun o M1 q59 => ?_)
    obtain ⟨rfl, rfl⟩ := q59
    show gw _ _ _ _ _ [] (gm T (wse2 k b c) J) _
    have o8 : WOK c b (wse2 k b c) := wse2_ok o0
    refine gw_al1 at32_62 (gw_al0 at32_63 (gw_gr at32_64 (by first | exact NT_0 hT | exact NT_r16 hT | exact NT_t16 hT | exact NT_l16 hT | exact NT_r17 hT | exact NT_t17 hT | exact NT_l17 hT) (by first | exact NT_0 hT | exact NT_r16 hT | exact NT_t16 hT | exact NT_l16 hT | exact NT_r17 hT | exact NT_t17 hT | exact NT_l17 hT) ?_))
    refine gw_call2 at32_67 (c_wrw (n := 3) hb1 hB (LT_W hb1 hL o8) o8.1 o8.2.1 (NT_t17 hT) (NT_l17 hT) (by omega) (by omega) (by intro i q0 q1; rw [o8.2.2 (k + 11) (by omega) (by omega)]; exact (hN.2.2.2.2.2 i q0 (by omega)).1)) (by omega) (Nat.le_of_ble_eq_true rfl) (fun o M1 q67 => ?_)
    obtain ⟨rfl, rfl⟩ := q67
    show gw _ _ _ _ _ [] (gm T (wse k b c) J) _
    refine gw_rv at32_70 am_r32.2.1 ?_
    exact ⟨rfl, rfl⟩
set_option maxHeartbeats 1000000 in
theorem c_wro {g : Nat} {T : gT} {c J : gC} {k b : Nat} (hT : NT T k) (hb1 : b + 2 ≤ 900000) (hb2 : b + 2 ≤ k ∨ k + 12 ≤ b) (hB : BT T b) (hL : LT T c) (hc : RG c) (hR : BR c b) (hN : NR c k) (hM : NM c k) : gE g 31 5 [.ref k, .ref b] (gm T c J) (fun o M1 => o = .inl none ∧ M1 = gm T (wro k b c) J) := by
  have h1 := hN.2.1
  refine gE_mk am_r31 rfl (Or.inr ⟨_, rfl, (by first | exact NT_0 hT | exact NT_r10 hT | exact NT_t10 hT | exact NT_l10 hT | exact NT_r11 hT | exact NT_t11 hT | exact NT_l11 hT | exact NT_r12 hT | exact NT_t12 hT | exact NT_l12 hT | exact NT_r13 hT | exact NT_t13 hT | exact NT_l13 hT | exact NT_r14 hT | exact NT_t14 hT | exact NT_l14 hT)⟩) (fun d hd => ?_)
  show gw d g 31 0 [.ref k, .ref b, am_U] [] _ _
  refine gw_const at31_0 (gw_is2 at31_1 (h := ?_))
  have lp2 : ∀ i : Int, 0 ≤ i → i ≤ 12 → i ≤ c k 2 → gw d g 31 2 [.ref k, .ref b, gi i] [] (gm T (itI (wdf k b) c i) J) (fun o M1 => o = .inl none ∧ M1 = gm T (wro k b c) J) := by
    refine ind_up 12 ?_
    intro i hi0 hi1 ih hi2
    have o1 : WOK c b (itI (wdf k b) c i) := wi _ (WOK_0 hc hR) (fun _ _ h => wdf_ok h) i
    refine gw_il2 at31_2 ?_
    refine gw_al0 at31_3 (gw_gf (j := 2) at31_4 (by first | exact NT_0 hT | exact NT_r10 hT | exact NT_t10 hT | exact NT_l10 hT | exact NT_r11 hT | exact NT_t11 hT | exact NT_l11 hT | exact NT_r12 hT | exact NT_t12 hT | exact NT_l12 hT | exact NT_r13 hT | exact NT_t13 hT | exact NT_l13 hT | exact NT_r14 hT | exact NT_t14 hT | exact NT_l14 hT) rfl ?_)
    rw [o1.2.2 k (by omega) (by omega)]
    refine gw_cge at31_7 (by first | omega | exact o1.1 _ _ | exact o2.1 _ _ | exact o4.1 _ _ | exact o6.1 _ _ | exact o8.1 _ _ | exact o10.1 _ _ | exact o11.1 _ _) (by first | omega | exact o1.1 _ _ | exact o2.1 _ _ | exact o4.1 _ _ | exact o6.1 _ _ | exact o8.1 _ _ | exact o10.1 _ _ | exact o11.1 _ _) (fun q7 => ?_) (fun q7 => ?_)
    · refine gw_rv at31_120 am_r31.2.1 ?_
      refine ⟨rfl, ?_⟩
      unfold wro
      rw [show c k 2 = i by omega]
    · refine gw_al1 at31_10 (gw_ldcs (q := 900012) at31_11 rfl ?_)
      refine gw_call2 at31_13 (c_txt 12 (by omega) hB hb1 hL o1) (by omega) (Nat.le_of_ble_eq_true rfl) (fun o M1 q13 => ?_)
      obtain ⟨rfl, rfl⟩ := q13
      show gw _ _ _ _ _ [] (gm T (txt b 12 (itI (wdf k b) c i)) J) _
      have o2 := wt 12 o1
      refine gw_al1 at31_16 (gw_al0 at31_17 (gw_gr at31_18 (by first | exact NT_0 hT | exact NT_r10 hT | exact NT_t10 hT | exact NT_l10 hT | exact NT_r11 hT | exact NT_t11 hT | exact NT_l11 hT | exact NT_r12 hT | exact NT_t12 hT | exact NT_l12 hT | exact NT_r13 hT | exact NT_t13 hT | exact NT_l13 hT | exact NT_r14 hT | exact NT_t14 hT | exact NT_l14 hT) (by first | exact NT_0 hT | exact NT_r10 hT | exact NT_t10 hT | exact NT_l10 hT | exact NT_r11 hT | exact NT_t11 hT | exact NT_l11 hT | exact NT_r12 hT | exact NT_t12 hT | exact NT_l12 hT | exact NT_r13 hT | exact NT_t13 hT | exact NT_l13 hT | exact NT_r14 hT | exact NT_t14 hT | exact NT_l14 hT) (gw_il2 at31_21 (gw_ia at31_22 (by first | exact Or.inl (by first | exact NT_0 hT | exact NT_r10 hT | exact NT_t10 hT | exact NT_l10 hT | exact NT_r11 hT | exact NT_t11 hT | exact NT_l11 hT | exact NT_r12 hT | exact NT_t12 hT | exact NT_l12 hT | exact NT_r13 hT | exact NT_t13 hT | exact NT_l13 hT | exact NT_r14 hT | exact NT_t14 hT | exact NT_l14 hT) | exact Or.inr (by first | exact NT_0 hT | exact NT_r10 hT | exact NT_t10 hT | exact NT_l10 hT | exact NT_r11 hT | exact NT_t11 hT | exact NT_l11 hT | exact NT_r12 hT | exact NT_t12 hT | exact NT_l12 hT | exact NT_r13 hT | exact NT_t13 hT | exact NT_l13 hT | exact NT_r14 hT | exact NT_t14 hT | exact NT_l14 hT)) (by first | exact NT_0 hT | exact NT_r10 hT | exact NT_t10 hT | exact NT_l10 hT | exact NT_r11 hT | exact NT_t11 hT | exact NT_l11 hT | exact NT_r12 hT | exact NT_t12 hT | exact NT_l12 hT | exact NT_r13 hT | exact NT_t13 hT | exact NT_l13 hT | exact NT_r14 hT | exact NT_t14 hT | exact NT_l14 hT) (by first | omega | exact o1.1 _ _ | exact o2.1 _ _ | exact o4.1 _ _ | exact o6.1 _ _ | exact o8.1 _ _ | exact o10.1 _ _ | exact o11.1 _ _) (by first | omega | exact o1.1 _ _ | exact o2.1 _ _ | exact o4.1 _ _ | exact o6.1 _ _ | exact o8.1 _ _ | exact o10.1 _ _ | exact o11.1 _ _) (by omega) ?_))))
      refine gw_call2 at31_23 (c_putName hB o2.1 o2.2.1 ⟨by rw [o2.2.2 (k + 4) (by omega) (by omega)]; have := hM.2 i hi0 (by omega); omega, (o2.1 _ _).2⟩) (by omega) (Nat.le_of_ble_eq_true rfl) (fun o M1 q23 => ?_)
      obtain ⟨rfl, rfl⟩ := q23
      show gw _ _ _ _ _ [] (gm T (A1 (k + 4) b i (txt b 12 (itI (wdf k b) c i))) J) _
      have o3 : WOK c b (A1 (k + 4) b i (txt b 12 (itI (wdf k b) c i))) := wa o2
      refine gw_al1 at31_26 (gw_ldcs (q := 900010) at31_27 rfl ?_)
      refine gw_call2 at31_29 (c_txt 10 (by omega) hB hb1 hL o3) (by omega) (Nat.le_of_ble_eq_true rfl) (fun o M1 q29 => ?_)
      obtain ⟨rfl, rfl⟩ := q29
      show gw _ _ _ _ _ [] (gm T (txt b 10 (A1 (k + 4) b i (txt b 12 (itI (wdf k b) c i)))) J) _
      have o4 := wt 10 o3
      refine gw_al0 at31_32 (gw_al1 at31_33 (gw_al0 at31_34 (gw_gr at31_35 (by first | exact NT_0 hT | exact NT_r10 hT | exact NT_t10 hT | exact NT_l10 hT | exact NT_r11 hT | exact NT_t11 hT | exact NT_l11 hT | exact NT_r12 hT | exact NT_t12 hT | exact NT_l12 hT | exact NT_r13 hT | exact NT_t13 hT | exact NT_l13 hT | exact NT_r14 hT | exact NT_t14 hT | exact NT_l14 hT) (by first | exact NT_0 hT | exact NT_r10 hT | exact NT_t10 hT | exact NT_l10 hT | exact NT_r11 hT | exact NT_t11 hT | exact NT_l11 hT | exact NT_r12 hT | exact NT_t12 hT | exact NT_l12 hT | exact NT_r13 hT | exact NT_t13 hT | exact NT_l13 hT | exact NT_r14 hT | exact NT_t14 hT | exact NT_l14 hT) (gw_il2 at31_38 (gw_ia at31_39 (by first | exact Or.inl (by first | exact NT_0 hT | exact NT_r10 hT | exact NT_t10 hT | exact NT_l10 hT | exact NT_r11 hT | exact NT_t11 hT | exact NT_l11 hT | exact NT_r12 hT | exact NT_t12 hT | exact NT_l12 hT | exact NT_r13 hT | exact NT_t13 hT | exact NT_l13 hT | exact NT_r14 hT | exact NT_t14 hT | exact NT_l14 hT) | exact Or.inr (by first | exact NT_0 hT | exact NT_r10 hT | exact NT_t10 hT | exact NT_l10 hT | exact NT_r11 hT | exact NT_t11 hT | exact NT_l11 hT | exact NT_r12 hT | exact NT_t12 hT | exact NT_l12 hT | exact NT_r13 hT | exact NT_t13 hT | exact NT_l13 hT | exact NT_r14 hT | exact NT_t14 hT | exact NT_l14 hT)) (by first | exact NT_0 hT | exact NT_r10 hT | exact NT_t10 hT | exact NT_l10 hT | exact NT_r11 hT | exact NT_t11 hT | exact NT_l11 hT | exact NT_r12 hT | exact NT_t12 hT | exact NT_l12 hT | exact NT_r13 hT | exact NT_t13 hT | exact NT_l13 hT | exact NT_r14 hT | exact NT_t14 hT | exact NT_l14 hT) (by first | omega | exact o1.1 _ _ | exact o2.1 _ _ | exact o4.1 _ _ | exact o6.1 _ _ | exact o8.1 _ _ | exact o10.1 _ _ | exact o11.1 _ _) (by first | omega | exact o1.1 _ _ | exact o2.1 _ _ | exact o4.1 _ _ | exact o6.1 _ _ | exact o8.1 _ _ | exact o10.1 _ _ | exact o11.1 _ _) (by omega) ?_)))))
      refine gw_call3 at31_40 (c_wnn hT hb1 hb2 hB (LT_W hb1 hL o4) o4.1 o4.2.1 (wNR hb2 hN o4) (wNM hb2 hM o4) (o4.1 _ _)) (by omega) (Nat.le_of_ble_eq_true rfl) (fun o M1 q40 => ?_)
      obtain ⟨rfl, rfl⟩ := q40
      show gw _ _ _ _ _ [] (gm T (W1 k (k + 5) b i (txt b 10 (A1 (k + 4) b i (txt b 12 (itI (wdf k b) c i))))) J) _
      have o5 : WOK c b (W1 k (k + 5) b i (txt b 10 (A1 (k + 4) b i (txt b 12 (itI (wdf k b) c i))))) := wnn_ok o4
      refine gw_al1 at31_43 (gw_ldcs (q := 900010) at31_44 rfl ?_)
      refine gw_call2 at31_46 (c_txt 10 (by omega) hB hb1 hL o5) (by omega) (Nat.le_of_ble_eq_true rfl) (fun o M1 q46 => ?_)
      obtain ⟨rfl, rfl⟩ := q46
      show gw _ _ _ _ _ [] (gm T (txt b 10 (W1 k (k + 5) b i (txt b 10 (A1 (k + 4) b i (txt b 12 (itI (wdf k b) c i)))))) J) _
      have o6 := wt 10 o5
      refine gw_al0 at31_49 (gw_al1 at31_50 (gw_al0 at31_51 (gw_gr at31_52 (by first | exact NT_0 hT | exact NT_r10 hT | exact NT_t10 hT | exact NT_l10 hT | exact NT_r11 hT | exact NT_t11 hT | exact NT_l11 hT | exact NT_r12 hT | exact NT_t12 hT | exact NT_l12 hT | exact NT_r13 hT | exact NT_t13 hT | exact NT_l13 hT | exact NT_r14 hT | exact NT_t14 hT | exact NT_l14 hT) (by first | exact NT_0 hT | exact NT_r10 hT | exact NT_t10 hT | exact NT_l10 hT | exact NT_r11 hT | exact NT_t11 hT | exact NT_l11 hT | exact NT_r12 hT | exact NT_t12 hT | exact NT_l12 hT | exact NT_r13 hT | exact NT_t13 hT | exact NT_l13 hT | exact NT_r14 hT | exact NT_t14 hT | exact NT_l14 hT) (gw_il2 at31_55 (gw_ia at31_56 (by first | exact Or.inl (by first | exact NT_0 hT | exact NT_r10 hT | exact NT_t10 hT | exact NT_l10 hT | exact NT_r11 hT | exact NT_t11 hT | exact NT_l11 hT | exact NT_r12 hT | exact NT_t12 hT | exact NT_l12 hT | exact NT_r13 hT | exact NT_t13 hT | exact NT_l13 hT | exact NT_r14 hT | exact NT_t14 hT | exact NT_l14 hT) | exact Or.inr (by first | exact NT_0 hT | exact NT_r10 hT | exact NT_t10 hT | exact NT_l10 hT | exact NT_r11 hT | exact NT_t11 hT | exact NT_l11 hT | exact NT_r12 hT | exact NT_t12 hT | exact NT_l12 hT | exact NT_r13 hT | exact NT_t13 hT | exact NT_l13 hT | exact NT_r14 hT | exact NT_t14 hT | exact NT_l14 hT)) (by first | exact NT_0 hT | exact NT_r10 hT | exact NT_t10 hT | exact NT_l10 hT | exact NT_r11 hT | exact NT_t11 hT | exact NT_l11 hT | exact NT_r12 hT | exact NT_t12 hT | exact NT_l12 hT | exact NT_r13 hT | exact NT_t13 hT | exact NT_l13 hT | exact NT_r14 hT | exact NT_t14 hT | exact NT_l14 hT) (by first | omega | exact o1.1 _ _ | exact o2.1 _ _ | exact o4.1 _ _ | exact o6.1 _ _ | exact o8.1 _ _ | exact o10.1 _ _ | exact o11.1 _ _) (by first | omega | exact o1.1 _ _ | exact o2.1 _ _ | exact o4.1 _ _ | exact o6.1 _ _ | exact o8.1 _ _ | exact o10.1 _ _ | exact o11.1 _ _) (by omega) ?_)))))
      refine gw_call3 at31_57 (c_wnn hT hb1 hb2 hB (LT_W hb1 hL o6) o6.1 o6.2.1 (wNR hb2 hN o6) (wNM hb2 hM o6) (o6.1 _ _)) (by omega) (Nat.le_of_ble_eq_true rfl) (fun o M1 q57 => ?_)
      obtain ⟨rfl, rfl⟩ := q57
      show gw _ _ _ _ _ [] (gm T (W1 k (k + 6) b i (txt b 10 (W1 k (k + 5) b i (txt b 10 (A1 (k + 4) b i (txt b 12 (itI (wdf k b) c i))))))) J) _
      have o7 : WOK c b (W1 k (k + 6) b i (txt b 10 (W1 k (k + 5) b i (txt b 10 (A1 (k + 4) b i (txt b 12 (itI (wdf k b) c i))))))) := wnn_ok o6
      refine gw_al1 at31_60 (gw_ldcs (q := 900010) at31_61 rfl ?_)
      refine gw_call2 at31_63 (c_txt 10 (by omega) hB hb1 hL o7) (by omega) (Nat.le_of_ble_eq_true rfl) (fun o M1 q63 => ?_)
      obtain ⟨rfl, rfl⟩ := q63
      show gw _ _ _ _ _ [] (gm T (txt b 10 (W1 k (k + 6) b i (txt b 10 (W1 k (k + 5) b i (txt b 10 (A1 (k + 4) b i (txt b 12 (itI (wdf k b) c i)))))))) J) _
      have o8 := wt 10 o7
      refine gw_al1 at31_66 (gw_al0 at31_67 (gw_gr at31_68 (by first | exact NT_0 hT | exact NT_r10 hT | exact NT_t10 hT | exact NT_l10 hT | exact NT_r11 hT | exact NT_t11 hT | exact NT_l11 hT | exact NT_r12 hT | exact NT_t12 hT | exact NT_l12 hT | exact NT_r13 hT | exact NT_t13 hT | exact NT_l13 hT | exact NT_r14 hT | exact NT_t14 hT | exact NT_l14 hT) (by first | exact NT_0 hT | exact NT_r10 hT | exact NT_t10 hT | exact NT_l10 hT | exact NT_r11 hT | exact NT_t11 hT | exact NT_l11 hT | exact NT_r12 hT | exact NT_t12 hT | exact NT_l12 hT | exact NT_r13 hT | exact NT_t13 hT | exact NT_l13 hT | exact NT_r14 hT | exact NT_t14 hT | exact NT_l14 hT) (gw_il2 at31_71 (gw_ia at31_72 (by first | exact Or.inl (by first | exact NT_0 hT | exact NT_r10 hT | exact NT_t10 hT | exact NT_l10 hT | exact NT_r11 hT | exact NT_t11 hT | exact NT_l11 hT | exact NT_r12 hT | exact NT_t12 hT | exact NT_l12 hT | exact NT_r13 hT | exact NT_t13 hT | exact NT_l13 hT | exact NT_r14 hT | exact NT_t14 hT | exact NT_l14 hT) | exact Or.inr (by first | exact NT_0 hT | exact NT_r10 hT | exact NT_t10 hT | exact NT_l10 hT | exact NT_r11 hT | exact NT_t11 hT | exact NT_l11 hT | exact NT_r12 hT | exact NT_t12 hT | exact NT_l12 hT | exact NT_r13 hT | exact NT_t13 hT | exact NT_l13 hT | exact NT_r14 hT | exact NT_t14 hT | exact NT_l14 hT)) (by first | exact NT_0 hT | exact NT_r10 hT | exact NT_t10 hT | exact NT_l10 hT | exact NT_r11 hT | exact NT_t11 hT | exact NT_l11 hT | exact NT_r12 hT | exact NT_t12 hT | exact NT_l12 hT | exact NT_r13 hT | exact NT_t13 hT | exact NT_l13 hT | exact NT_r14 hT | exact NT_t14 hT | exact NT_l14 hT) (by first | omega | exact o1.1 _ _ | exact o2.1 _ _ | exact o4.1 _ _ | exact o6.1 _ _ | exact o8.1 _ _ | exact o10.1 _ _ | exact o11.1 _ _) (by first | omega | exact o1.1 _ _ | exact o2.1 _ _ | exact o4.1 _ _ | exact o6.1 _ _ | exact o8.1 _ _ | exact o10.1 _ _ | exact o11.1 _ _) (by omega) ?_))))
      refine gw_call2 at31_73 (c_putNumber hB o8.1 o8.2.1 ⟨by rw [o8.2.2 (k + 7) (by omega) (by omega)]; have := hN.2.2.2.1 i hi0 (by omega); omega, (o8.1 _ _).2⟩) (by omega) (Nat.le_of_ble_eq_true rfl) (fun o M1 q73 => ?_)
      obtain ⟨rfl, rfl⟩ := q73
      show gw _ _ _ _ _ [] (gm T (P1 (k + 7) b i (txt b 10 (W1 k (k + 6) b i (txt b 10 (W1 k (k + 5) b i (txt b 10 (A1 (k + 4) b i (txt b 12 (itI (wdf k b) c i))))))))) J) _
      have o9 : WOK c b (P1 (k + 7) b i (txt b 10 (W1 k (k + 6) b i (txt b 10 (W1 k (k + 5) b i (txt b 10 (A1 (k + 4) b i (txt b 12 (itI (wdf k b) c i))))))))) := wp o8
      refine gw_al1 at31_76 (gw_ldcs (q := 900010) at31_77 rfl ?_)
      refine gw_call2 at31_79 (c_txt 10 (by omega) hB hb1 hL o9) (by omega) (Nat.le_of_ble_eq_true rfl) (fun o M1 q79 => ?_)
      obtain ⟨rfl, rfl⟩ := q79
      show gw _ _ _ _ _ [] (gm T (txt b 10 (P1 (k + 7) b i (txt b 10 (W1 k (k + 6) b i (txt b 10 (W1 k (k + 5) b i (txt b 10 (A1 (k + 4) b i (txt b 12 (itI (wdf k b) c i)))))))))) J) _
      have o10 := wt 10 o9
      refine gw_al1 at31_82 (gw_al0 at31_83 (gw_gr at31_84 (by first | exact NT_0 hT | exact NT_r10 hT | exact NT_t10 hT | exact NT_l10 hT | exact NT_r11 hT | exact NT_t11 hT | exact NT_l11 hT | exact NT_r12 hT | exact NT_t12 hT | exact NT_l12 hT | exact NT_r13 hT | exact NT_t13 hT | exact NT_l13 hT | exact NT_r14 hT | exact NT_t14 hT | exact NT_l14 hT) (by first | exact NT_0 hT | exact NT_r10 hT | exact NT_t10 hT | exact NT_l10 hT | exact NT_r11 hT | exact NT_t11 hT | exact NT_l11 hT | exact NT_r12 hT | exact NT_t12 hT | exact NT_l12 hT | exact NT_r13 hT | exact NT_t13 hT | exact NT_l13 hT | exact NT_r14 hT | exact NT_t14 hT | exact NT_l14 hT) (gw_il2 at31_87 (gw_ia at31_88 (by first | exact Or.inl (by first | exact NT_0 hT | exact NT_r10 hT | exact NT_t10 hT | exact NT_l10 hT | exact NT_r11 hT | exact NT_t11 hT | exact NT_l11 hT | exact NT_r12 hT | exact NT_t12 hT | exact NT_l12 hT | exact NT_r13 hT | exact NT_t13 hT | exact NT_l13 hT | exact NT_r14 hT | exact NT_t14 hT | exact NT_l14 hT) | exact Or.inr (by first | exact NT_0 hT | exact NT_r10 hT | exact NT_t10 hT | exact NT_l10 hT | exact NT_r11 hT | exact NT_t11 hT | exact NT_l11 hT | exact NT_r12 hT | exact NT_t12 hT | exact NT_l12 hT | exact NT_r13 hT | exact NT_t13 hT | exact NT_l13 hT | exact NT_r14 hT | exact NT_t14 hT | exact NT_l14 hT)) (by first | exact NT_0 hT | exact NT_r10 hT | exact NT_t10 hT | exact NT_l10 hT | exact NT_r11 hT | exact NT_t11 hT | exact NT_l11 hT | exact NT_r12 hT | exact NT_t12 hT | exact NT_l12 hT | exact NT_r13 hT | exact NT_t13 hT | exact NT_l13 hT | exact NT_r14 hT | exact NT_t14 hT | exact NT_l14 hT) (by first | omega | exact o1.1 _ _ | exact o2.1 _ _ | exact o4.1 _ _ | exact o6.1 _ _ | exact o8.1 _ _ | exact o10.1 _ _ | exact o11.1 _ _) (by first | omega | exact o1.1 _ _ | exact o2.1 _ _ | exact o4.1 _ _ | exact o6.1 _ _ | exact o8.1 _ _ | exact o10.1 _ _ | exact o11.1 _ _) (by omega) ?_))))
      refine gw_call2 at31_89 (c_putNumber hB o10.1 o10.2.1 ⟨by rw [o10.2.2 (k + 8) (by omega) (by omega)]; have := hN.2.2.2.1 i hi0 (by omega); omega, (o10.1 _ _).2⟩) (by omega) (Nat.le_of_ble_eq_true rfl) (fun o M1 q89 => ?_)
      obtain ⟨rfl, rfl⟩ := q89
      show gw _ _ _ _ _ [] (gm T (wd0 k b i (itI (wdf k b) c i)) J) _
      have o11 : WOK c b (wd0 k b i (itI (wdf k b) c i)) := wd0_ok o1
      refine gw_al1 at31_92 (gw_al0 at31_93 (gw_gf (j := 6) at31_94 (by first | exact NT_0 hT | exact NT_r10 hT | exact NT_t10 hT | exact NT_l10 hT | exact NT_r11 hT | exact NT_t11 hT | exact NT_l11 hT | exact NT_r12 hT | exact NT_t12 hT | exact NT_l12 hT | exact NT_r13 hT | exact NT_t13 hT | exact NT_l13 hT | exact NT_r14 hT | exact NT_t14 hT | exact NT_l14 hT) rfl (gw_il2 at31_97 (gw_callP2 at31_98 (c_contains) (by omega) (Nat.le_of_ble_eq_true rfl) ?_))))
      refine gw_beq at31_101 (fun q101 => ?_) (fun q101 => ?_)
      · refine gw_ldcs (q := 900011) at31_109 rfl ?_
        refine gw_call2 at31_111 (c_txt 11 (by omega) hB hb1 hL o11) (by omega) (Nat.le_of_ble_eq_true rfl) (fun o M1 q111 => ?_)
        obtain ⟨rfl, rfl⟩ := q111
        show gw _ _ _ _ _ [] (gm T (txt b 11 (wd0 k b i (itI (wdf k b) c i))) J) _
        refine gw_inc2 at31_114 (h := (gw_goto at31_117 ?_))
        have e := ih (i + 1) (by omega) (by omega) (by omega)
        rw [itI_s _ _ hi0, wdf_f (by assumption)] at e
        exact e
      · refine gw_ldcs (q := 900013) at31_104 rfl (gw_goto at31_106 ?_)
        refine gw_call2 at31_111 (c_txt 13 (by omega) hB hb1 hL o11) (by omega) (Nat.le_of_ble_eq_true rfl) (fun o M1 q111 => ?_)
        obtain ⟨rfl, rfl⟩ := q111
        show gw _ _ _ _ _ [] (gm T (txt b 13 (wd0 k b i (itI (wdf k b) c i))) J) _
        refine gw_inc2 at31_114 (h := (gw_goto at31_117 ?_))
        have e := ih (i + 1) (by omega) (by omega) (by omega)
        rw [itI_s _ _ hi0, wdf_t (by assumption)] at e
        exact e
  exact lp2 0 (by omega) (by omega) (by omega)
