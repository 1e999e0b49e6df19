/-! planner: the table of rests -/
theorem gTn_k {T : gT} {g t n w k : Nat} (h : ¬ k = g * 100000 + T.2.1 g) : (gTn T g t n w).1 k = T.1 k := if_neg h
theorem gTr_k {T : gT} {k j q k' : Nat} (h : ¬ k' = k) : (gTr T k j q).1 k' = T.1 k' := if_neg h
theorem gTr_s {T : gT} {k j q : Nat} : (gTr T k j q).1 k = ((T.1 k).1, (T.1 k).2.1, va_up (T.1 k).2.2 j q) := if_pos rfl
theorem RG_gz {c : gC} {q : Nat} (h : RG c) : RG (gz c q) := fun k j => by
  unfold gz
  split
  · omega
  · exact h k j
theorem gw_mono {d g y pc : Nat} {L st : List Value} {M : am_M} {Q Q' : am_O → am_M → Prop} (h : gw d g y pc L st M Q) (hq : ∀ o M1, Q o M1 → Q' o M1) : gw d g y pc L st M Q' := by
  obtain ⟨n, o, M1, h1, h2⟩ := h
  exact ⟨n, o, M1, h1, hq _ _ h2⟩
def nT (T : gT) (n : Nat) : gT := gTr (gTn T 4 1 n n) 100044 9 (4 * 100000 + T.2.1 4 + 1)
theorem nT_k {T : gT} {n k : Nat} (h : ¬ k = 4 * 100000 + T.2.1 4) (h' : ¬ k = 100044) : (nT T n).1 k = T.1 k := by
  unfold nT
  rw [gTr_k h', gTn_k h]
theorem nT_n {T : gT} {n : Nat} : (nT T n).1 (4 * 100000 + T.2.1 4) = (1, n, fun _ => 0) := by
  unfold nT
  rw [gTr_k (by omega)]
  exact if_pos rfl
theorem nT_p {T : gT} {n : Nat} : (nT T n).1 100044 = ((T.1 100044).1, (T.1 100044).2.1, va_up (T.1 100044).2.2 9 (4 * 100000 + T.2.1 4 + 1)) := by
  unfold nT
  rw [gTr_s, gTn_k (by omega)]
theorem PT_nT {T : gT} {R Z n : Nat} (h : PT T R Z) (hf : T.2.1 4 < 100000) (hn : n ≤ 49152) : PT (nT T n) (4 * 100000 + T.2.1 4) n := by
  obtain ⟨h0, h1, h2, h3, h4, h5, h6, h7, h8, h9⟩ := h
  unfold PT
  rw [nT_n, nT_p, nT_k (k := 100045) (by omega) (by omega), nT_k (k := 100046) (by omega) (by omega), nT_k (k := 100047) (by omega) (by omega), nT_k (k := 100048) (by omega) (by omega), nT_k (k := 100049) (by omega) (by omega), nT_k (k := 100050) (by omega) (by omega)]
  exact ⟨h0, h1, h2, h3, h4, h5, h6, h7, ⟨rfl, rfl, rfl⟩, by omega, hn⟩
theorem RT_nT {T : gT} {n : Nat} (h : RT T) : RT (nT T n) := by
  unfold RT at h ⊢
  rw [nT_k (k := 100026) (by omega) (by omega), nT_k (k := 100027) (by omega) (by omega), nT_k (k := 100028) (by omega) (by omega), nT_k (k := 100029) (by omega) (by omega)]
  exact h
theorem NT_nT {T : gT} {n : Nat} (h : NT T 100014) : NT (nT T n) 100014 := by
  have e : ∀ k : Nat, k ≤ 100043 → (nT T n).1 k = T.1 k := fun k hk => nT_k (by omega) (by omega)
  unfold NT at h ⊢
  simp only [e _ (show 100014 ≤ 100043 by omega), e _ (show 100014 + 1 ≤ 100043 by omega), e _ (show 100014 + 2 ≤ 100043 by omega), e _ (show 100014 + 3 ≤ 100043 by omega), e _ (show 100014 + 4 ≤ 100043 by omega), e _ (show 100014 + 5 ≤ 100043 by omega), e _ (show 100014 + 6 ≤ 100043 by omega), e _ (show 100014 + 7 ≤ 100043 by omega), e _ (show 100014 + 8 ≤ 100043 by omega), e _ (show 100014 + 9 ≤ 100043 by omega), e _ (show 100014 + 10 ≤ 100043 by omega), e _ (show 100014 + 11 ≤ 100043 by omega)]
  exact h
def fii (c : gC) (R : Nat) (s x : Int) (m : gC) : gC := if tb s x = true then m else gu m R (s * c 100044 8 + x) (bst m R x s)
theorem fii_t {c m : gC} {R : Nat} {s x : Int} (h : tb s x = true) : fii c R s x m = m := if_pos h
theorem fii_f {c m : gC} {R : Nat} {s x : Int} (h : tb s x = false) : fii c R s x m = gu m R (s * c 100044 8 + x) (bst m R x s) := if_neg (by rw [h]; exact Bool.false_ne_true)
def fio (c : gC) (R : Nat) (s : Int) (m : gC) : gC := itI (fii c R s) m (c 100044 8)
def fil (c : gC) (R : Nat) : gC := itI (fio c R) c (zshl 1 (c 100044 8))
def FOK (c : gC) (R Z : Nat) (m : gC) : Prop := RG m ∧ (∀ k : Nat, ¬ k = R → ∀ j, m k j = c k j) ∧ PQ m R Z
theorem FOK_SR {c m : gC} {R Z : Nat} (hR : R = 100051 ∨ 400000 ≤ R ∧ R < 500000) (hS : SR c) (h : FOK c R Z m) : SR m := SR_cg (h.2.1 100027 (by omega)) (h.2.1 100028 (by omega)) hS
theorem fii_ok {c m : gC} {R Z : Nat} (hR : R = 100051 ∨ 400000 ≤ R ∧ R < 500000) (hS : SR c) (hQ : PQ c R Z) (hK : PW (zshl 1 (c 100044 8)) (c 100044 8) Z) {s x : Int} (hs : 0 ≤ s ∧ s < zshl 1 (c 100044 8)) (hx : 0 ≤ x ∧ x < c 100044 8) (h : FOK c R Z m) : FOK c R Z (fii c R s x m) := by
  have h1 := shl_rg hQ.1
  have h2 := bst_rg (l := x) (s := s) (S := zshl 1 (c 100044 8)) (FOK_SR hR hS h) h.2.2 (by rw [h.2.1 100044 (by omega)]; exact hK) hs (by omega)
  unfold fii
  split
  · exact h
  · refine ⟨RG_gu h.1 (by omega), fun k a j => ?_, ?_, fun i a b => ?_, fun i a b => ?_⟩
    · rw [gu_k a]; exact h.2.1 k a j
    · rw [gu_k (by omega)]; exact h.2.2.1
    · rw [gu_k (by omega), gu_k (by omega)]; exact h.2.2.2.1 i a b
    · have := h.2.2.2.2 i a b
      unfold gu
      split <;> omega
theorem fixi_ok {c m : gC} {R Z : Nat} (hR : R = 100051 ∨ 400000 ≤ R ∧ R < 500000) (hS : SR c) (hQ : PQ c R Z) (hK : PW (zshl 1 (c 100044 8)) (c 100044 8) Z) {s : Int} (hs : 0 ≤ s ∧ s < zshl 1 (c 100044 8)) (h : FOK c R Z m) {i : Int} (hi : i ≤ c 100044 8) : FOK c R Z (itI (fii c R s) m i) := itI_inv2 (FOK c R Z) (N := c 100044 8) h (fun j x q0 q1 hx => fii_ok hR hS hQ hK hs ⟨q0, q1⟩ hx) hi
theorem fioi_ok {c : gC} {R Z : Nat} (hc : RG c) (hR : R = 100051 ∨ 400000 ≤ R ∧ R < 500000) (hS : SR c) (hQ : PQ c R Z) (hK : PW (zshl 1 (c 100044 8)) (c 100044 8) Z) {i : Int} (hi : i ≤ zshl 1 (c 100044 8)) : FOK c R Z (itI (fio c R) c i) := by
  refine itI_inv2 (FOK c R Z) (N := zshl 1 (c 100044 8)) ⟨hc, fun _ _ _ => rfl, hQ⟩ (fun j x q0 q1 hx => ?_) hi
  exact fixi_ok hR hS hQ hK ⟨q0, q1⟩ hx (by omega)
theorem PW_of {S n : Int} {Z : Nat} (hS : 0 ≤ S) (hn : 0 ≤ n) (h : S * n ≤ (Z : Int)) : PW S n Z := fun x y h0 h1 h2 h3 => by
  have e1 : (x + 1) * n ≤ S * n := Int.mul_le_mul_of_nonneg_right (by omega) hn
  have e2 : (x + 1) * n = x * n + n := by rw [Int.add_mul, Int.one_mul]
  have e3 := Int.mul_nonneg h0 hn
  omega
theorem PQ_gz {c : gC} {R Z n q : Nat} (h : PQ c R Z) (hq : 400000 ≤ q) : PQ (gz c q) q n := by
  refine ⟨by rw [gz_k (by omega)]; exact h.1, fun i a b => ?_, fun i a b => ?_⟩
  · rw [gz_k (by omega), gz_k (by omega)]; exact h.2.1 i a b
  · rw [gz_s]; omega
set_option maxHeartbeats 1000000 in
theorem c_fil33 {d : Nat} {T : gT} {c J : gC} (hd : 3 ≤ d) {R Z : Nat} (hP : PT T R Z) (hR : RT T) (hc : RG c) (hS : SR c) (hQ : PQ c R Z) (hK : PW (zshl 1 (c 100044 8)) (c 100044 8) Z) (hT : NT T 100014) (hD : -1 ≤ c 100014 3 ∧ c 100014 3 < 10) {u v : Value} (hu : am_nl u = true) (hv : am_nl v = true) : gw d 4 62 33 [.ref 100044, gi (zshl 1 (c 100044 8)), u, v] [] (gm T c J) (fun o M1 => o = .inl none ∧ M1 = gm T (fil c R) J) := by
  have hn := hQ.1
  have hsn := shl_rg hn
  have hk := (PT_k hP).1
  have hZ := (PT_k hP).2
  refine gw_const at62_33 (gw_is2 at62_34 (h := ?_))
  have lp35 : ∀ s : Int, 0 ≤ s → s ≤ 4096 → s ≤ zshl 1 (c 100044 8) → ∀ (w : Value), am_nl w = true → ∀ X : gC, X = itI (fio c R) c s → gw d 4 62 35 [.ref 100044, gi (zshl 1 (c 100044 8)), gi s, w] [] (gm T X J) (fun o M1 => o = .inl none ∧ M1 = gm T (fil c R) J) := by
    refine ind_up 4096 ?_
    intro s hs0 hs1 ih hs2 w hw X hX
    have o0 : FOK c R Z X := by rw [hX]; exact fioi_ok hc hk hS hQ hK hs2
    refine gw_il2 at62_35 ?_
    refine gw_il1 at62_36 ?_
    refine gw_cge at62_37 (by first | omega | exact o1.1 _ _ | exact zrg _) (by first | omega | exact o1.1 _ _ | exact zrg _) (fun q37 => ?_) (fun q37 => ?_)
    · refine gw_rv at62_89 am_r62.2.1 ?_
      refine ⟨rfl, ?_⟩
      unfold fil
      rw [hX, show s = zshl 1 (c 100044 8) by omega]
    · refine gw_const at62_40 (gw_is3 at62_41 (h := ?_))
      have lp42 : ∀ x : Int, 0 ≤ x → x ≤ 12 → x ≤ c 100044 8 → ∀ Y : gC, Y = itI (fii c R s) X x → gw d 4 62 42 [.ref 100044, gi (zshl 1 (c 100044 8)), gi s, gi x] [] (gm T Y J) (fun o M1 => o = .inl none ∧ M1 = gm T (fil c R) J) := by
        refine ind_up 12 ?_
        intro x hx0 hx1 ih2 hx2 Y hY
        have o1 : FOK c R Z Y := by rw [hY]; exact fixi_ok hk hS hQ hK (by omega) o0 hx2
        refine gw_il3 at62_42 ?_
        refine gw_al0 at62_43 (gw_gf (j := 8) at62_44 (by first | exact PT_0 hP | exact PT_r9 hP | exact PT_t9 hP | exact PT_l9 hP) rfl ?_)
        rw [o1.2.1 100044 (by omega)]
        refine gw_cge at62_47 (by first | omega | exact o1.1 _ _ | exact zrg _) (by first | omega | exact o1.1 _ _ | exact zrg _) (fun q47 => ?_) (fun q47 => ?_)
        · refine gw_inc2 at62_83 (h := (gw_goto at62_86 ?_))
          refine ih (s + 1) (by omega) (by omega) (by omega) _ rfl _ ?_
          rw [itI_s _ _ hs0, ← hX, hY]
          unfold fio
          rw [show x = c 100044 8 by omega]
        · refine gw_il2 at62_50 (gw_il3 at62_51 (gw_callP2 at62_52 (c_contains) (by omega) (Nat.le_of_ble_eq_true rfl) ?_))
          refine gw_bne at62_55 (fun q55 => ?_) (fun q55 => ?_)
          · refine gw_inc3 at62_77 (h := (gw_goto at62_80 ?_))
            have e := ih2 (x + 1) (by omega) (by omega) (by omega) _ rfl
            rw [itI_s _ _ hx0, ← hY] at e
            first | (rw [fii_t (by assumption)] at e; exact e) | (rw [fii_f (by assumption)] at e; exact e)
          · refine gw_al0 at62_58 (gw_gr at62_59 (by first | exact PT_0 hP | exact PT_r9 hP | exact PT_t9 hP | exact PT_l9 hP) (by first | exact PT_0 hP | exact PT_r9 hP | exact PT_t9 hP | exact PT_l9 hP) (gw_il2 at62_62 (gw_al0 at62_63 (gw_gf (j := 8) at62_64 (by first | exact PT_0 hP | exact PT_r9 hP | exact PT_t9 hP | exact PT_l9 hP) rfl ?_))))
            rw [o1.2.1 100044 (by omega)]
            have hw := hK s x (by omega) (by omega) (by omega) (by omega)
            refine gw_imul at62_67 (gw_il3 at62_68 (gw_iadd at62_69 (gw_al0 at62_70 (gw_il3 at62_71 (gw_il2 at62_72 (gw_callP3 at62_73 (c_bst hP hR o1.1 (FOK_SR hk hS o1) o1.2.2 (S := zshl 1 (c 100044 8)) (by rw [o1.2.1 100044 (by omega)]; exact hK) hsn.2.1 (by rw [o1.2.1 100044 (by omega)]; omega) (by omega) hT (by rw [o1.2.1 100014 (by omega)]; omega)) (by omega) (Nat.le_of_ble_eq_true rfl) ?_))))))
            have hbr := bst_rg (l := x) (s := s) (S := zshl 1 (c 100044 8)) (FOK_SR hk hS o1) o1.2.2 (by rw [o1.2.1 100044 (by omega)]; exact hK) (by omega) hsn.2.1
            refine gw_iw at62_76 (by first | exact PT_0 hP | exact PT_r9 hP | exact PT_t9 hP | exact PT_l9 hP) (by first | exact PT_0 hP | exact PT_r9 hP | exact PT_t9 hP | exact PT_l9 hP) (by first | omega | exact o1.1 _ _ | exact zrg _) (by first | omega | exact o1.1 _ _ | exact zrg _) (by omega) (gw_inc3 at62_77 (h := (gw_goto at62_80 ?_)))
            have e := ih2 (x + 1) (by omega) (by omega) (by omega) _ rfl
            rw [itI_s _ _ hx0, ← hY] at e
            first | (rw [fii_t (by assumption)] at e; exact e) | (rw [fii_f (by assumption)] at e; exact e)
      exact lp42 0 (by omega) (by omega) (by omega) _ rfl
  exact lp35 0 (by omega) (by omega) (by omega) _ (by assumption) _ rfl
set_option maxHeartbeats 1000000 in
theorem c_fil {g : Nat} {T : gT} {c J : gC} {R Z : Nat} (hP : PT T R Z) (hR : RT T) (hc : RG c) (hS : SR c) (hQ : PQ c R Z) (hT : NT T 100014) (hD : -1 ≤ c 100014 3 ∧ c 100014 3 < 10) (hf : T.2.1 4 < 100000) (hf0 : (T.1 (4 * 100000 + T.2.1 4)).1 = 0) : gE g 62 3 [.ref 100044] (gm T c J) (fun o M1 => o = .inl none ∧ ((zshl 1 (c 100044 8) * c 100044 8 ≤ (Z : Int) ∧ M1 = gm T (fil c R) J) ∨ ((Z : Int) < zshl 1 (c 100044 8) * c 100044 8 ∧ M1 = gm (nT T (zshl 1 (c 100044 8) * c 100044 8).toNat) (fil (gz c (4 * 100000 + T.2.1 4)) (4 * 100000 + T.2.1 4)) (gz J (4 * 100000 + T.2.1 4))))) := by
  have hn := hQ.1
  have hsn := shl_rg hn
  have hZ := (PT_k hP).2
  refine gE_mk am_r62 rfl (Or.inr ⟨_, rfl, (by first | exact PT_0 hP | exact PT_r9 hP | exact PT_t9 hP | exact PT_l9 hP)⟩) (fun d hd => ?_)
  show gw d 4 62 0 [.ref 100044, am_U, am_U, am_U] [] _ _
  refine gw_const at62_0 (gw_al0 at62_1 (gw_gf (j := 8) at62_2 (by first | exact PT_0 hP | exact PT_r9 hP | exact PT_t9 hP | exact PT_l9 hP) rfl (gw_ishl at62_5 (gw_is1 at62_6 (h := (gw_al0 at62_7 (gw_gr at62_8 (by first | exact PT_0 hP | exact PT_r9 hP | exact PT_t9 hP | exact PT_l9 hP) (by first | exact PT_0 hP | exact PT_r9 hP | exact PT_t9 hP | exact PT_l9 hP) (gw_len at62_11 (by first | exact Or.inl (by first | exact PT_0 hP | exact PT_r9 hP | exact PT_t9 hP | exact PT_l9 hP) | exact Or.inr (Or.inl (by first | exact PT_0 hP | exact PT_r9 hP | exact PT_t9 hP | exact PT_l9 hP)) | exact Or.inr (Or.inr (Or.inr (Or.inr (Or.inl (by first | exact PT_0 hP | exact PT_r9 hP | exact PT_t9 hP | exact PT_l9 hP))))) | exact Or.inr (Or.inr (Or.inr (Or.inr (Or.inr (by first | exact PT_0 hP | exact PT_r9 hP | exact PT_t9 hP | exact PT_l9 hP)))))) (by first | exact PT_0 hP | exact PT_r9 hP | exact PT_t9 hP | exact PT_l9 hP) rfl (gw_il1 at62_12 (gw_al0 at62_13 (gw_gf (j := 8) at62_14 (by first | exact PT_0 hP | exact PT_r9 hP | exact PT_t9 hP | exact PT_l9 hP) rfl (gw_imul at62_17 ?_))))))))))))
  refine gw_cge at62_18 (by first | omega | exact hc _ _ | exact zrg _) (by first | omega | exact hc _ _ | exact zrg _) (fun q18 => ?_) (fun q18 => ?_)
  · refine gw_mono (c_fil33 hd hP hR hc hS hQ (PW_of (by omega) (by omega) (by omega)) hT hD rfl rfl) ?_
    rintro o M1 ⟨h1, h2⟩
    exact ⟨h1, Or.inl ⟨by omega, h2⟩⟩
  · refine gw_al0 at62_21 (gw_il1 at62_22 (gw_al0 at62_23 (gw_gf (j := 8) at62_24 (PT_0 hP) rfl (gw_imul at62_27 (gw_newI (n := (zshl 1 (c 100044 8) * c 100044 8).toNat) at62_28 (by omega) (by omega) hf0 (gw_pr at62_30 (by rw [gTn_k (by omega)]; exact PT_0 hP) ?_))))))
    have e8 : gz c (4 * 100000 + T.2.1 4) 100044 8 = c 100044 8 := gz_k (by omega)
    have e := c_fil33 (J := gz J (4 * 100000 + T.2.1 4)) (u := am_U) (v := am_U) hd (PT_nT (n := (zshl 1 (c 100044 8) * c 100044 8).toNat) hP hf (by omega)) (RT_nT hR) (RG_gz hc) (SR_cg (c := c) (fun j => gz_k (by omega)) (fun j => gz_k (by omega)) hS) (PQ_gz hQ (by omega)) (by rw [e8]; exact PW_of (by omega) (by omega) (by omega)) (NT_nT hT) (by rw [gz_k (by omega)]; exact hD) rfl rfl
    rw [e8] at e
    refine gw_mono e ?_
    rintro o M1 ⟨h1, h2⟩
    exact ⟨h1, Or.inr ⟨by omega, h2⟩⟩
