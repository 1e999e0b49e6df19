/-! making the parser -/
def nmo (c : gC) (n i : Nat) : Int := itI (fun j s => s * 27 + c (910000 + n) j - 97 + 1) 0 (i : Int)
theorem nmo_of {c c' : gC} {n i : Nat} (h : ∀ j, c' (910000 + n) j = c (910000 + n) j) : nmo c' n i = nmo c n i := by
  unfold nmo
  exact itI_congr fun j _ _ => by funext s; rw [h]
theorem LT_of {T T' : gT} {c c' : gC} (h : LT T c) (e : ∀ k, 900000 ≤ k → T'.1 k = T.1 k) (e2 : ∀ k, 900000 ≤ k → ∀ j, c' k j = c k j) : LT T' c' := by
  intro n hn
  have := h n hn
  unfold ST at this ⊢
  rw [e _ (by omega), e _ (by omega)]
  simp only [e2 _ (show 900000 ≤ 900000 + n by omega), e2 _ (show 900000 ≤ 910000 + n by omega)]
  exact this
theorem nmo_rg {c : gC} {n : Nat} {m : Nat} (hm : m ≤ 6) (h : ∀ j : Int, 0 ≤ j → j < (m : Int) → 0 ≤ c (910000 + n) j ∧ c (910000 + n) j < 128) : -2147483648 ≤ nmo c n m ∧ nmo c n m < 2147483648 := by
  have key : -2000000000 ≤ nmo c n m ∧ nmo c n m ≤ 2000000000 := by
    unfold nmo
    have := itI_inv3 (f := fun j s => s * 27 + c (910000 + n) j - 97 + 1) (x := (0 : Int)) (fun k v => -4 * bw k + 4 ≤ v ∧ v ≤ 2 * bw k - 2) (N := (m : Int)) (by decide) (fun j s h0 h1 hv => ?_) (k := (m : Int)) (by omega) (Int.le_refl _)
    · have hb := bw_le (m : Int)
      try dsimp only at this
      omega
    · have hb := bw_s h0 (by omega)
      have hb2 := bw_le j
      have := h j h0 h1
      try dsimp only at hv ⊢
      omega
  omega
set_option maxHeartbeats 1000000 in
theorem c_nameOf {g : Nat} {T : gT} {c J : gC} (hL : LT T c) {n m : Nat} (hn : n < 20) (hm : am_tlen.getD n 0 = m) : gE g 37 4 [.ref (900000 + n)] (gm T c J) (gR (gi (nmo c n m)) (gm T c J)) := by
  have hS := hL n hn
  rw [hm] at hS
  refine gE_mk am_r37 rfl (Or.inl rfl) (fun d hd => ?_)
  show gw d g 37 0 [.ref (900000 + n), am_U, am_U] [] _ _
  refine gw_const at37_0 (gw_is1 at37_1 (h := (gw_const at37_2 (gw_is2 at37_3 (h := ?_)))))
  have lp4 : ∀ i : Int, 0 ≤ i → i ≤ (m : Int) → gw d g 37 4 [.ref (900000 + n), gi (itI (fun j s => s * 27 + c (910000 + n) j - 97 + 1) 0 i), gi i] [] (gm T c J) (gR (gi (nmo c n m)) (gm T c J)) := by
    have hm2 := hS.2.2.2.2.2.1
    refine ind_up (m : Int) ?_
    intro i hi0 hi1 ih
    refine gw_il2 at37_4 ?_
    refine gw_al0 at37_5 (gw_callP1 at37_6 (c_length hS) (by omega) (Nat.le_of_ble_eq_true rfl) ?_)
    refine gw_cge at37_9 (by first | omega | exact hc _ _ | exact bi_rg _ | exact zrg _) (by first | omega | exact hc _ _ | exact bi_rg _ | exact zrg _) (fun q9 => ?_) (fun q9 => ?_)
    · refine gw_il1 at37_28 (gw_ri at37_29 am_r37.2.1 (gR_i ?_))
      have e : i = (m : Int) := by omega
      rw [e]
      rfl
    · refine gw_il1 at37_12 (gw_al0 at37_13 (gw_il2 at37_14 (gw_callP2 at37_15 (c_charAt hS (by omega)) (by omega) (Nat.le_of_ble_eq_true rfl) (gw_callP2 at37_18 (c_nameWith) (by omega) (Nat.le_of_ble_eq_true rfl) (gw_is1 at37_21 (h := (gw_inc2 at37_22 (h := (gw_goto at37_25 ?_)))))))))
      have h8 := ih (i + 1) (by omega) (by omega)
      rw [itI_s _ _ hi0] at h8
      exact h8
  exact lp4 0 (by omega) (by omega)
set_option maxHeartbeats 1000000 in
theorem c_i3 {g : Nat} {T : gT} {c J : gC} {w B b n : Nat} (hB : B = g * 100000 + T.2.1 g) (hF : ∀ i, 1 ≤ i → i < 2 → (T.1 (B + i)).1 = 0) (hB2 : B + 2 ≤ 900000) (hc : RG c) (hL : LT T c) : gE g 36 5 [.ref (B + 0), .ref b, .ref n] (gm (gM T g [(13, 0, fun _ => 0)] w) c J) (fun o M1 => o = .inl none ∧ ∃ c1 J1 : gC, M1 = gm (gM T g (mkA B b n) (w + 9)) c1 J1 ∧ (c1 B 3 = 0 ∧ c1 B 4 = -1 ∧ c1 (B + 1) 0 = nmo c 0 4 ∧ c1 (B + 1) 1 = nmo c 1 4 ∧ c1 (B + 1) 2 = nmo c 2 6 ∧ c1 (B + 1) 3 = nmo c 3 5 ∧ c1 (B + 1) 4 = nmo c 4 5 ∧ c1 (B + 1) 5 = nmo c 5 4 ∧ c1 (B + 1) 6 = nmo c 6 6 ∧ c1 (B + 1) 7 = nmo c 7 4 ∧ c1 (B + 1) 8 = nmo c 8 4) ∧ RG c1 ∧ (∀ k, k < B ∨ B + 2 ≤ k → c1 k = c k ∧ J1 k = J k)) := by
  have k0 : -2147483648 ≤ nmo c 0 4 ∧ nmo c 0 4 < 2147483648 := nmo_rg (by decide) (hL 0 (by decide)).2.2.2.2.2.2
  have k1 : -2147483648 ≤ nmo c 1 4 ∧ nmo c 1 4 < 2147483648 := nmo_rg (by decide) (hL 1 (by decide)).2.2.2.2.2.2
  have k2 : -2147483648 ≤ nmo c 2 6 ∧ nmo c 2 6 < 2147483648 := nmo_rg (by decide) (hL 2 (by decide)).2.2.2.2.2.2
  have k3 : -2147483648 ≤ nmo c 3 5 ∧ nmo c 3 5 < 2147483648 := nmo_rg (by decide) (hL 3 (by decide)).2.2.2.2.2.2
  have k4 : -2147483648 ≤ nmo c 4 5 ∧ nmo c 4 5 < 2147483648 := nmo_rg (by decide) (hL 4 (by decide)).2.2.2.2.2.2
  have k5 : -2147483648 ≤ nmo c 5 4 ∧ nmo c 5 4 < 2147483648 := nmo_rg (by decide) (hL 5 (by decide)).2.2.2.2.2.2
  have k6 : -2147483648 ≤ nmo c 6 6 ∧ nmo c 6 6 < 2147483648 := nmo_rg (by decide) (hL 6 (by decide)).2.2.2.2.2.2
  have k7 : -2147483648 ≤ nmo c 7 4 ∧ nmo c 7 4 < 2147483648 := nmo_rg (by decide) (hL 7 (by decide)).2.2.2.2.2.2
  have k8 : -2147483648 ≤ nmo c 8 4 ∧ nmo c 8 4 < 2147483648 := nmo_rg (by decide) (hL 8 (by decide)).2.2.2.2.2.2
  refine gE_mk am_r36 rfl (Or.inr ⟨_, rfl, (gM_tag hB rfl)⟩) (fun d hd => ?_)
  show gw d g 36 0 [.ref (B + 0), .ref b, .ref n] [] _ _
  refine gw_al0 at36_0 (gw_objI at36_1 (by rw [gM_tag (i := 0) (t := 13) hB rfl]; rfl) (Nat.le_of_ble_eq_true rfl) (gw_al0 at36_4 (gw_bip at36_5 (by decide) (gw_mI (m := 9) at36_7 hB 1 [(13, 0, fun _ => 0), (1, 9, fun _ => 0)] (w + 9) rfl (hF _ (by omega) (by omega)) (by omega) (by omega) rfl rfl (gw_mR (i := 0) [(13, 0, va_up (fun _ => 0) 2 (B + 1 + 1)), (1, 9, fun _ => 0)] at36_9 hB rfl rfl (gw_al0 at36_12 (gw_const at36_13 (gw_pf (j := 3) at36_14 (by first | exact gM_tag hB rfl | exact gM_len (t := 9) hB rfl | exact gM_ref hB rfl) rfl (gw_al0 at36_17 (gw_const at36_18 (gw_pf (j := 4) at36_19 (by first | exact gM_tag hB rfl | exact gM_len (t := 9) hB rfl | exact gM_ref hB rfl) rfl (gw_al0 at36_22 (gw_const at36_23 (gw_pf (j := 5) at36_24 (by first | exact gM_tag hB rfl | exact gM_len (t := 9) hB rfl | exact gM_ref hB rfl) rfl (gw_al0 at36_27 (gw_const at36_28 (gw_pf (j := 6) at36_29 (by first | exact gM_tag hB rfl | exact gM_len (t := 9) hB rfl | exact gM_ref hB rfl) rfl (gw_al0 at36_32 (gw_const at36_33 (gw_pf (j := 7) at36_34 (by first | exact gM_tag hB rfl | exact gM_len (t := 9) hB rfl | exact gM_ref hB rfl) rfl (gw_al0 at36_37 (gw_const at36_38 (gw_pf (j := 8) at36_39 (by first | exact gM_tag hB rfl | exact gM_len (t := 9) hB rfl | exact gM_ref hB rfl) rfl (gw_al0 at36_42 (gw_const at36_43 (gw_pf (j := 9) at36_44 (by first | exact gM_tag hB rfl | exact gM_len (t := 9) hB rfl | exact gM_ref hB rfl) rfl (gw_al0 at36_47 (gw_const at36_48 (gw_pf (j := 10) at36_49 (by first | exact gM_tag hB rfl | exact gM_len (t := 9) hB rfl | exact gM_ref hB rfl) rfl (gw_al0 at36_52 (gw_al1 at36_53 (gw_mR (i := 0) [(13, 0, va_up (va_up (fun _ => 0) 2 (B + 1 + 1)) 0 (b + 1)), (1, 9, fun _ => 0)] at36_54 hB rfl rfl (gw_al0 at36_57 (gw_al2 at36_58 (gw_mR (i := 0) [(13, 0, va_up (va_up (va_up (fun _ => 0) 2 (B + 1 + 1)) 0 (b + 1)) 1 (n + 1)), (1, 9, fun _ => 0)] at36_59 hB rfl rfl (gw_al0 at36_62 (gw_gr at36_63 (by first | exact gM_tag hB rfl | exact gM_len (t := 9) hB rfl | exact gM_ref hB rfl) (by first | exact gM_tag hB rfl | exact gM_len (t := 9) hB rfl | exact gM_ref hB rfl) (gw_const at36_66 (gw_ldcs (q := 900000) at36_67 rfl (gw_callP1 at36_69 (c_nameOf (n := 0) (m := 4) (LT_of hL (fun k hk => gM_out (Or.inr (by show _ + 2 ≤ _; omega))) (fun k hk j => by simp (disch := omega) only [gu_k, gz_k])) (by decide) rfl) (by omega) (Nat.le_of_ble_eq_true rfl) ?_))))))))))))))))))))))))))))))))))))))))
  rw [nmo_of (c := c) (fun j => by simp (disch := omega) only [gu_k, gz_k])]
  refine gw_iw at36_72 (by first | exact gM_tag hB rfl | exact gM_len (t := 9) hB rfl | exact gM_ref hB rfl) (by first | exact gM_tag hB rfl | exact gM_len (t := 9) hB rfl | exact gM_ref hB rfl) (by first | omega | assumption) (by first | omega | assumption) (by omega) (gw_al0 at36_73 (gw_gr at36_74 (by first | exact gM_tag hB rfl | exact gM_len (t := 9) hB rfl | exact gM_ref hB rfl) (by first | exact gM_tag hB rfl | exact gM_len (t := 9) hB rfl | exact gM_ref hB rfl) (gw_const at36_77 (gw_ldcs (q := 900001) at36_78 rfl (gw_callP1 at36_80 (c_nameOf (n := 1) (m := 4) (LT_of hL (fun k hk => gM_out (Or.inr (by show _ + 2 ≤ _; omega))) (fun k hk j => by simp (disch := omega) only [gu_k, gz_k])) (by decide) rfl) (by omega) (Nat.le_of_ble_eq_true rfl) ?_)))))
  rw [nmo_of (c := c) (fun j => by simp (disch := omega) only [gu_k, gz_k])]
  refine gw_iw at36_83 (by first | exact gM_tag hB rfl | exact gM_len (t := 9) hB rfl | exact gM_ref hB rfl) (by first | exact gM_tag hB rfl | exact gM_len (t := 9) hB rfl | exact gM_ref hB rfl) (by first | omega | assumption) (by first | omega | assumption) (by omega) (gw_al0 at36_84 (gw_gr at36_85 (by first | exact gM_tag hB rfl | exact gM_len (t := 9) hB rfl | exact gM_ref hB rfl) (by first | exact gM_tag hB rfl | exact gM_len (t := 9) hB rfl | exact gM_ref hB rfl) (gw_const at36_88 (gw_ldcs (q := 900002) at36_89 rfl (gw_callP1 at36_91 (c_nameOf (n := 2) (m := 6) (LT_of hL (fun k hk => gM_out (Or.inr (by show _ + 2 ≤ _; omega))) (fun k hk j => by simp (disch := omega) only [gu_k, gz_k])) (by decide) rfl) (by omega) (Nat.le_of_ble_eq_true rfl) ?_)))))
  rw [nmo_of (c := c) (fun j => by simp (disch := omega) only [gu_k, gz_k])]
  refine gw_iw at36_94 (by first | exact gM_tag hB rfl | exact gM_len (t := 9) hB rfl | exact gM_ref hB rfl) (by first | exact gM_tag hB rfl | exact gM_len (t := 9) hB rfl | exact gM_ref hB rfl) (by first | omega | assumption) (by first | omega | assumption) (by omega) (gw_al0 at36_95 (gw_gr at36_96 (by first | exact gM_tag hB rfl | exact gM_len (t := 9) hB rfl | exact gM_ref hB rfl) (by first | exact gM_tag hB rfl | exact gM_len (t := 9) hB rfl | exact gM_ref hB rfl) (gw_const at36_99 (gw_ldcs (q := 900003) at36_100 rfl (gw_callP1 at36_102 (c_nameOf (n := 3) (m := 5) (LT_of hL (fun k hk => gM_out (Or.inr (by show _ + 2 ≤ _; omega))) (fun k hk j => by simp (disch := omega) only [gu_k, gz_k])) (by decide) rfl) (by omega) (Nat.le_of_ble_eq_true rfl) ?_)))))
  rw [nmo_of (c := c) (fun j => by simp (disch := omega) only [gu_k, gz_k])]
  refine gw_iw at36_105 (by first | exact gM_tag hB rfl | exact gM_len (t := 9) hB rfl | exact gM_ref hB rfl) (by first | exact gM_tag hB rfl | exact gM_len (t := 9) hB rfl | exact gM_ref hB rfl) (by first | omega | assumption) (by first | omega | assumption) (by omega) (gw_al0 at36_106 (gw_gr at36_107 (by first | exact gM_tag hB rfl | exact gM_len (t := 9) hB rfl | exact gM_ref hB rfl) (by first | exact gM_tag hB rfl | exact gM_len (t := 9) hB rfl | exact gM_ref hB rfl) (gw_const at36_110 (gw_ldcs (q := 900004) at36_111 rfl (gw_callP1 at36_113 (c_nameOf (n := 4) (m := 5) (LT_of hL (fun k hk => gM_out (Or.inr (by show _ + 2 ≤ _; omega))) (fun k hk j => by simp (disch := omega) only [gu_k, gz_k])) (by decide) rfl) (by omega) (Nat.le_of_ble_eq_true rfl) ?_)))))
  rw [nmo_of (c := c) (fun j => by simp (disch := omega) only [gu_k, gz_k])]
  refine gw_iw at36_116 (by first | exact gM_tag hB rfl | exact gM_len (t := 9) hB rfl | exact gM_ref hB rfl) (by first | exact gM_tag hB rfl | exact gM_len (t := 9) hB rfl | exact gM_ref hB rfl) (by first | omega | assumption) (by first | omega | assumption) (by omega) (gw_al0 at36_117 (gw_gr at36_118 (by first | exact gM_tag hB rfl | exact gM_len (t := 9) hB rfl | exact gM_ref hB rfl) (by first | exact gM_tag hB rfl | exact gM_len (t := 9) hB rfl | exact gM_ref hB rfl) (gw_const at36_121 (gw_ldcs (q := 900005) at36_122 rfl (gw_callP1 at36_124 (c_nameOf (n := 5) (m := 4) (LT_of hL (fun k hk => gM_out (Or.inr (by show _ + 2 ≤ _; omega))) (fun k hk j => by simp (disch := omega) only [gu_k, gz_k])) (by decide) rfl) (by omega) (Nat.le_of_ble_eq_true rfl) ?_)))))
  rw [nmo_of (c := c) (fun j => by simp (disch := omega) only [gu_k, gz_k])]
  refine gw_iw at36_127 (by first | exact gM_tag hB rfl | exact gM_len (t := 9) hB rfl | exact gM_ref hB rfl) (by first | exact gM_tag hB rfl | exact gM_len (t := 9) hB rfl | exact gM_ref hB rfl) (by first | omega | assumption) (by first | omega | assumption) (by omega) (gw_al0 at36_128 (gw_gr at36_129 (by first | exact gM_tag hB rfl | exact gM_len (t := 9) hB rfl | exact gM_ref hB rfl) (by first | exact gM_tag hB rfl | exact gM_len (t := 9) hB rfl | exact gM_ref hB rfl) (gw_bip at36_132 (by decide) (gw_ldcs (q := 900006) at36_134 rfl (gw_callP1 at36_136 (c_nameOf (n := 6) (m := 6) (LT_of hL (fun k hk => gM_out (Or.inr (by show _ + 2 ≤ _; omega))) (fun k hk j => by simp (disch := omega) only [gu_k, gz_k])) (by decide) rfl) (by omega) (Nat.le_of_ble_eq_true rfl) ?_)))))
  rw [nmo_of (c := c) (fun j => by simp (disch := omega) only [gu_k, gz_k])]
  refine gw_iw at36_139 (by first | exact gM_tag hB rfl | exact gM_len (t := 9) hB rfl | exact gM_ref hB rfl) (by first | exact gM_tag hB rfl | exact gM_len (t := 9) hB rfl | exact gM_ref hB rfl) (by first | omega | assumption) (by first | omega | assumption) (by omega) (gw_al0 at36_140 (gw_gr at36_141 (by first | exact gM_tag hB rfl | exact gM_len (t := 9) hB rfl | exact gM_ref hB rfl) (by first | exact gM_tag hB rfl | exact gM_len (t := 9) hB rfl | exact gM_ref hB rfl) (gw_bip at36_144 (by decide) (gw_ldcs (q := 900007) at36_146 rfl (gw_callP1 at36_148 (c_nameOf (n := 7) (m := 4) (LT_of hL (fun k hk => gM_out (Or.inr (by show _ + 2 ≤ _; omega))) (fun k hk j => by simp (disch := omega) only [gu_k, gz_k])) (by decide) rfl) (by omega) (Nat.le_of_ble_eq_true rfl) ?_)))))
  rw [nmo_of (c := c) (fun j => by simp (disch := omega) only [gu_k, gz_k])]
  refine gw_iw at36_151 (by first | exact gM_tag hB rfl | exact gM_len (t := 9) hB rfl | exact gM_ref hB rfl) (by first | exact gM_tag hB rfl | exact gM_len (t := 9) hB rfl | exact gM_ref hB rfl) (by first | omega | assumption) (by first | omega | assumption) (by omega) (gw_al0 at36_152 (gw_gr at36_153 (by first | exact gM_tag hB rfl | exact gM_len (t := 9) hB rfl | exact gM_ref hB rfl) (by first | exact gM_tag hB rfl | exact gM_len (t := 9) hB rfl | exact gM_ref hB rfl) (gw_bip at36_156 (by decide) (gw_ldcs (q := 900008) at36_158 rfl (gw_callP1 at36_160 (c_nameOf (n := 8) (m := 4) (LT_of hL (fun k hk => gM_out (Or.inr (by show _ + 2 ≤ _; omega))) (fun k hk j => by simp (disch := omega) only [gu_k, gz_k])) (by decide) rfl) (by omega) (Nat.le_of_ble_eq_true rfl) ?_)))))
  rw [nmo_of (c := c) (fun j => by simp (disch := omega) only [gu_k, gz_k])]
  refine gw_iw at36_163 (by first | exact gM_tag hB rfl | exact gM_len (t := 9) hB rfl | exact gM_ref hB rfl) (by first | exact gM_tag hB rfl | exact gM_len (t := 9) hB rfl | exact gM_ref hB rfl) (by first | omega | assumption) (by first | omega | assumption) (by omega) (gw_rv at36_164 am_r36.2.1 ⟨rfl, ?_⟩)
  refine ⟨_, _, rfl, ⟨by simp [gu, gz], by simp [gu, gz], by simp [gu, gz], by simp [gu, gz], by simp [gu, gz], by simp [gu, gz], by simp [gu, gz], by simp [gu, gz], by simp [gu, gz], by simp [gu, gz], by simp [gu, gz]⟩, ?_, fun k hk => ⟨funext fun j => by simp (disch := omega) only [gu_k, gz_k, fl_k], funext fun j => by simp (disch := omega) only [gz_k]⟩⟩
  repeat (first | exact hc | refine RG_gu ?_ (by first | decide | assumption) | refine RG_gz ?_)
