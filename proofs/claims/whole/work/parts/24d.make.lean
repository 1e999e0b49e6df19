/-! history: what a call's start keeps -/
def kps (c : gC) (q : Nat) : gC := gu (gu (wcp (ncp c (q + 1) 100014) (q + 13) 100034) 100052 1 ((c 100052 1 + 1) % 10)) 100052 2 (min 10 (c 100052 2 + 1))
/-- the ring: its first m places hold snapshots, made one after another -/
def HRm (T : gT) (c : gC) (m : Nat) : Prop := HT T ∧ m ≤ 10 ∧ T.2.1 3 = 18 * m ∧ (∀ k, 300000 + 18 * m ≤ k → k < 400000 → (T.1 k).1 = 0) ∧ (∀ i, i < m → (T.1 100053).2.2 i = 300000 + 18 * i + 1 ∧ ZT T (300000 + 18 * i)) ∧ (∀ i, m ≤ i → (T.1 100053).2.2 i = 0) ∧ (0 ≤ c 100052 1 ∧ c 100052 1 < 10 ∧ c 100052 1 ≤ (m : Int)) ∧ (0 ≤ c 100052 2 ∧ c 100052 2 ≤ 10 ∧ c 100052 2 ≤ (m : Int)) ∧ (c 100052 1 < c 100052 2 → m = 10)
def HR (T : gT) (c : gC) : Prop := ∃ m, HRm T c m
/-- what keeping leaves: a snapshot at q -/
def KP (T : gT) (c J : gC) (T1 : gT) (c1 J1 : gC) : Prop := ∃ (c0 : gC) (q : Nat), q = 300000 + 18 * (c 100052 1).toNat ∧ q < 300180 ∧ c1 = kps c0 q ∧ RG c0 ∧ (∀ k, k < q ∨ q + 18 ≤ k → c0 k = c k ∧ J1 k = J k) ∧ (∀ k, k < q ∨ q + 18 ≤ k → ¬ k = 100053 → T1.1 k = T.1 k) ∧ (∀ s, ¬ s = 3 → T1.2.1 s = T.2.1 s) ∧ T1.2.2.1 + T.2.1 3 = T.2.2.1 + T1.2.1 3 ∧ 18 * T1.2.2.2 + 217 * T.2.1 3 = 18 * T.2.2.2 + 217 * T1.2.1 3 ∧ HR T1 c1
theorem kps_1 {c : gC} {q : Nat} : kps c q 100052 1 = (c 100052 1 + 1) % 10 := by
  unfold kps
  rw [gu_j (by decide), gu_s]
theorem kps_2 {c : gC} {q : Nat} : kps c q 100052 2 = min 10 (c 100052 2 + 1) := by
  unfold kps
  rw [gu_s]
theorem ZT_of {T T1 : gT} {q : Nat} (h : ZT T q) (he : ∀ k, q ≤ k → k < q + 18 → T1.1 k = T.1 k) : ZT T1 q := by
  obtain ⟨h1, h2, h3, h4, h5⟩ := h
  refine ⟨by rw [he q (by omega) (by omega)]; exact h1, by rw [he q (by omega) (by omega)]; exact h2, by rw [he q (by omega) (by omega)]; exact h3, ?_, ?_⟩
  · unfold NT at h4 ⊢
    rw [he (q + 1) (by omega) (by omega), he (q + 1 + 1) (by omega) (by omega), he (q + 1 + 2) (by omega) (by omega), he (q + 1 + 3) (by omega) (by omega), he (q + 1 + 4) (by omega) (by omega), he (q + 1 + 5) (by omega) (by omega), he (q + 1 + 6) (by omega) (by omega), he (q + 1 + 7) (by omega) (by omega), he (q + 1 + 8) (by omega) (by omega), he (q + 1 + 9) (by omega) (by omega), he (q + 1 + 10) (by omega) (by omega), he (q + 1 + 11) (by omega) (by omega)]
    exact h4
  · unfold WT at h5 ⊢
    rw [he (q + 13) (by omega) (by omega), he (q + 13 + 1) (by omega) (by omega), he (q + 13 + 2) (by omega) (by omega), he (q + 13 + 3) (by omega) (by omega), he (q + 13 + 4) (by omega) (by omega)]
    exact h5
theorem NT_of {T T1 : gT} {q : Nat} (h4 : NT T q) (he : ∀ k, q ≤ k → k < q + 12 → T1.1 k = T.1 k) : NT T1 q := by
  unfold NT at h4 ⊢
  rw [he q (by omega) (by omega), he (q + 1) (by omega) (by omega), he (q + 2) (by omega) (by omega), he (q + 3) (by omega) (by omega), he (q + 4) (by omega) (by omega), he (q + 5) (by omega) (by omega), he (q + 6) (by omega) (by omega), he (q + 7) (by omega) (by omega), he (q + 8) (by omega) (by omega), he (q + 9) (by omega) (by omega), he (q + 10) (by omega) (by omega), he (q + 11) (by omega) (by omega)]
  exact h4
theorem WT_of {T T1 : gT} {q : Nat} (h4 : WT T q) (he : ∀ k, q ≤ k → k < q + 5 → T1.1 k = T.1 k) : WT T1 q := by
  unfold WT at h4 ⊢
  rw [he q (by omega) (by omega), he (q + 1) (by omega) (by omega), he (q + 2) (by omega) (by omega), he (q + 3) (by omega) (by omega), he (q + 4) (by omega) (by omega)]
  exact h4
set_option maxHeartbeats 1000000 in
theorem c_keep28 {d : Nat} {T : gT} {c J : gC} (hd : 1 ≤ d) (hH : HT T) (hc : RG c) (hn : 0 ≤ c 100052 1 ∧ c 100052 1 < 10) (hm : 0 ≤ c 100052 2 ∧ c 100052 2 ≤ 10) (hT : NT T 100014) (hW : WT T 100034) {q : Nat} (hr : (T.1 100053).2.2 (c 100052 1).toNat = q + 1) (hZ : ZT T q) (hq : 300000 ≤ q ∧ q + 18 ≤ 400000) : gw d 3 8 28 [.ref 100052, .ref 100014, .ref 100034] [] (gm T c J) (fun o M1 => o = .inl none ∧ M1 = gm T (kps c q) J) := by
  have e1 : ∀ j : Int, ncp c (q + 1) 100014 100052 j = c 100052 j := fun j => ncp_k (by omega)
  have e2 : ∀ j : Int, wcp (ncp c (q + 1) 100014) (q + 13) 100034 100052 j = c 100052 j := fun j => by rw [wcp_k (by omega), ncp_k (by omega)]
  
  refine gw_al0 at8_28 (gw_gr at8_29 (by first | exact hH.1 | exact hH.2.1 | exact hH.2.2.1 | exact hH.2.2.2 | exact hr | exact hZ.1 | exact hZ.2.1 | exact hZ.2.2.1) (by first | exact hH.1 | exact hH.2.1 | exact hH.2.2.1 | exact hH.2.2.2 | exact hr | exact hZ.1 | exact hZ.2.1 | exact hZ.2.2.1) (gw_al0 at8_32 (gw_gf (j := 1) at8_33 (by first | exact hH.1 | exact hH.2.1 | exact hH.2.2.1 | exact hH.2.2.2 | exact hr | exact hZ.1 | exact hZ.2.1 | exact hZ.2.2.1) rfl (gw_qa at8_36 (by first | exact hH.1 | exact hH.2.1 | exact hH.2.2.1 | exact hH.2.2.2 | exact hr | exact hZ.1 | exact hZ.2.1 | exact hZ.2.2.1) (by first | exact hH.1 | exact hH.2.1 | exact hH.2.2.1 | exact hH.2.2.2 | exact hr | exact hZ.1 | exact hZ.2.1 | exact hZ.2.2.1) (by omega) (by omega) (by omega) (by first | exact hH.1 | exact hH.2.1 | exact hH.2.2.1 | exact hH.2.2.2 | exact hr | exact hZ.1 | exact hZ.2.1 | exact hZ.2.2.1) (gw_gr at8_37 (by first | exact hH.1 | exact hH.2.1 | exact hH.2.2.1 | exact hH.2.2.2 | exact hr | exact hZ.1 | exact hZ.2.1 | exact hZ.2.2.1) (by first | exact hH.1 | exact hH.2.1 | exact hH.2.2.1 | exact hH.2.2.2 | exact hr | exact hZ.1 | exact hZ.2.1 | exact hZ.2.2.1) (gw_al1 at8_40 ?_))))))
  refine gw_call2 at8_41 (c_ncopy hZ.2.2.2.1 hT (by omega)) (by omega) (Nat.le_of_ble_eq_true rfl) (fun o M1 q41 => ?_)
  obtain ⟨rfl, rfl⟩ := q41
  show gw _ _ _ _ _ [] _ _
  refine gw_al0 at8_44 (gw_gr at8_45 (by first | exact hH.1 | exact hH.2.1 | exact hH.2.2.1 | exact hH.2.2.2 | exact hr | exact hZ.1 | exact hZ.2.1 | exact hZ.2.2.1) (by first | exact hH.1 | exact hH.2.1 | exact hH.2.2.1 | exact hH.2.2.2 | exact hr | exact hZ.1 | exact hZ.2.1 | exact hZ.2.2.1) (gw_al0 at8_48 (gw_gf (j := 1) at8_49 (by first | exact hH.1 | exact hH.2.1 | exact hH.2.2.1 | exact hH.2.2.2 | exact hr | exact hZ.1 | exact hZ.2.1 | exact hZ.2.2.1) rfl ?_)))
  rw [e1]
  refine gw_qa at8_52 (by first | exact hH.1 | exact hH.2.1 | exact hH.2.2.1 | exact hH.2.2.2 | exact hr | exact hZ.1 | exact hZ.2.1 | exact hZ.2.2.1) (by first | exact hH.1 | exact hH.2.1 | exact hH.2.2.1 | exact hH.2.2.2 | exact hr | exact hZ.1 | exact hZ.2.1 | exact hZ.2.2.1) (by omega) (by omega) (by omega) (by first | exact hH.1 | exact hH.2.1 | exact hH.2.2.1 | exact hH.2.2.2 | exact hr | exact hZ.1 | exact hZ.2.1 | exact hZ.2.2.1) (gw_gr at8_53 (by first | exact hH.1 | exact hH.2.1 | exact hH.2.2.1 | exact hH.2.2.2 | exact hr | exact hZ.1 | exact hZ.2.1 | exact hZ.2.2.1) (by first | exact hH.1 | exact hH.2.1 | exact hH.2.2.1 | exact hH.2.2.2 | exact hr | exact hZ.1 | exact hZ.2.1 | exact hZ.2.2.1) (gw_al2 at8_56 ?_))
  refine gw_call2 at8_57 (c_wcopy hZ.2.2.2.2 hW (by omega)) (by omega) (Nat.le_of_ble_eq_true rfl) (fun o M1 q57 => ?_)
  obtain ⟨rfl, rfl⟩ := q57
  show gw _ _ _ _ _ [] _ _
  refine gw_al0 at8_60 (gw_al0 at8_61 (gw_gf (j := 1) at8_62 (by first | exact hH.1 | exact hH.2.1 | exact hH.2.2.1 | exact hH.2.2.2 | exact hr | exact hZ.1 | exact hZ.2.1 | exact hZ.2.2.1) rfl ?_))
  rw [e2]
  refine gw_const at8_65 (gw_iadd at8_66 (gw_bip at8_67 (by decide) (gw_remp at8_69 (by first | omega | exact hc _ _) (by first | omega | exact hc _ _) (gw_pf (j := 1) at8_70 (by first | exact hH.1 | exact hH.2.1 | exact hH.2.2.1 | exact hH.2.2.2 | exact hr | exact hZ.1 | exact hZ.2.1 | exact hZ.2.2.1) rfl (gw_al0 at8_73 (gw_bip at8_74 (by decide) (gw_al0 at8_76 (gw_gf (j := 2) at8_77 (by first | exact hH.1 | exact hH.2.1 | exact hH.2.2.1 | exact hH.2.2.2 | exact hr | exact hZ.1 | exact hZ.2.1 | exact hZ.2.2.1) rfl ?_))))))))
  rw [gu_j (by decide), e2]
  refine gw_const at8_80 (gw_iadd at8_81 (gw_min at8_82 (by first | omega | exact hc _ _) (by first | omega | exact hc _ _) (Nat.le_of_ble_eq_true rfl) (gw_pf (j := 2) at8_85 (by first | exact hH.1 | exact hH.2.1 | exact hH.2.2.1 | exact hH.2.2.2 | exact hr | exact hZ.1 | exact hZ.2.1 | exact hZ.2.2.1) rfl (gw_rv at8_88 am_r8.2.1 ⟨rfl, ?_⟩))))
  rfl
set_option maxHeartbeats 1000000 in
theorem c_keepY {g : Nat} {T : gT} {c J : gC} (hH : HT T) (hc : RG c) (hn : 0 ≤ c 100052 1 ∧ c 100052 1 < 10) (hm : 0 ≤ c 100052 2 ∧ c 100052 2 ≤ 10) (hT : NT T 100014) (hW : WT T 100034) {q : Nat} (hr : (T.1 100053).2.2 (c 100052 1).toNat = q + 1) (hZ : ZT T q) (hq : 300000 ≤ q ∧ q + 18 ≤ 400000) : gE g 8 2 [.ref 100052, .ref 100014, .ref 100034] (gm T c J) (fun o M1 => o = .inl none ∧ M1 = gm T (kps c q) J) := by
  refine gE_mk am_r8 rfl (Or.inr ⟨_, rfl, (by first | exact hH.1 | exact hH.2.1 | exact hH.2.2.1 | exact hH.2.2.2 | exact hr | exact hZ.1 | exact hZ.2.1 | exact hZ.2.2.1)⟩) (fun d hd => ?_)
  show gw d 3 8 0 [.ref 100052, .ref 100014, .ref 100034] [] _ _
  refine gw_al0 at8_0 (gw_gr at8_1 (by first | exact hH.1 | exact hH.2.1 | exact hH.2.2.1 | exact hH.2.2.2 | exact hr | exact hZ.1 | exact hZ.2.1 | exact hZ.2.2.1) (by first | exact hH.1 | exact hH.2.1 | exact hH.2.2.1 | exact hH.2.2.2 | exact hr | exact hZ.1 | exact hZ.2.1 | exact hZ.2.2.1) (gw_al0 at8_4 (gw_gf (j := 1) at8_5 (by first | exact hH.1 | exact hH.2.1 | exact hH.2.2.1 | exact hH.2.2.2 | exact hr | exact hZ.1 | exact hZ.2.1 | exact hZ.2.2.1) rfl (gw_qa at8_8 (by first | exact hH.1 | exact hH.2.1 | exact hH.2.2.1 | exact hH.2.2.2 | exact hr | exact hZ.1 | exact hZ.2.1 | exact hZ.2.2.1) (by first | exact hH.1 | exact hH.2.1 | exact hH.2.2.1 | exact hH.2.2.2 | exact hr | exact hZ.1 | exact hZ.2.1 | exact hZ.2.2.1) (by omega) (by omega) (by omega) (by first | exact hH.1 | exact hH.2.1 | exact hH.2.2.1 | exact hH.2.2.2 | exact hr | exact hZ.1 | exact hZ.2.1 | exact hZ.2.2.1) (gw_nonnullY at8_9 (by rw [hZ.1]; rfl) ?_)))))
  exact c_keep28 (by omega) hH hc hn hm hT hW hr hZ hq
theorem gE_mono {g y h : Nat} {as : List Value} {M : am_M} {Q Q' : am_O → am_M → Prop} (e : gE g y h as M Q) (hq : ∀ o M1, Q o M1 → Q' o M1) : gE g y h as M Q' := ⟨e.1, e.2.1, fun d hd => gw_mono (e.2.2 d hd) hq⟩
theorem gE_h {g y h h2 : Nat} {as : List Value} {M : am_M} {Q : am_O → am_M → Prop} (e : gE g y h as M Q) (hh : h ≤ h2) : gE g y h2 as M Q := ⟨e.1, e.2.1, fun d hd => e.2.2 d (Nat.le_trans hh hd)⟩
theorem ZT_mk {T : gT} {g w B : Nat} (hB : B = g * 100000 + T.2.1 g) : ZT (gM T g (mkZ B) w) B := ⟨gM_tag (i := 0) hB rfl, gM_ref (i := 0) hB rfl, gM_ref (i := 0) hB rfl, ⟨gM_tag (i := 1) hB rfl, ⟨gM_ref (i := 1) hB rfl, gM_tag (i := 2) hB rfl, gM_len (i := 2) hB rfl⟩, ⟨gM_ref (i := 1) hB rfl, gM_tag (i := 3) hB rfl, gM_len (i := 3) hB rfl⟩, ⟨gM_ref (i := 1) hB rfl, gM_tag (i := 4) hB rfl, gM_len (i := 4) hB rfl⟩, ⟨gM_ref (i := 1) hB rfl, gM_tag (i := 5) hB rfl, gM_len (i := 5) hB rfl⟩, ⟨gM_ref (i := 1) hB rfl, gM_tag (i := 6) hB rfl, gM_len (i := 6) hB rfl⟩, ⟨gM_ref (i := 1) hB rfl, gM_tag (i := 7) hB rfl, gM_len (i := 7) hB rfl⟩, ⟨gM_ref (i := 1) hB rfl, gM_tag (i := 8) hB rfl, gM_len (i := 8) hB rfl⟩, ⟨gM_ref (i := 1) hB rfl, gM_tag (i := 9) hB rfl, gM_len (i := 9) hB rfl⟩, ⟨gM_ref (i := 1) hB rfl, gM_tag (i := 10) hB rfl, gM_len (i := 10) hB rfl⟩, ⟨gM_ref (i := 1) hB rfl, gM_tag (i := 11) hB rfl, gM_len (i := 11) hB rfl⟩, ⟨gM_ref (i := 1) hB rfl, gM_tag (i := 12) hB rfl, gM_len (i := 12) hB rfl⟩⟩, ⟨gM_tag (i := 13) hB rfl, ⟨gM_ref (i := 13) hB rfl, gM_tag (i := 14) hB rfl, gM_len (i := 14) hB rfl⟩, ⟨gM_ref (i := 13) hB rfl, gM_tag (i := 15) hB rfl, gM_len (i := 15) hB rfl⟩, ⟨gM_ref (i := 13) hB rfl, gM_tag (i := 16) hB rfl, gM_len (i := 16) hB rfl⟩, ⟨gM_ref (i := 13) hB rfl, gM_tag (i := 17) hB rfl, gM_len (i := 17) hB rfl⟩⟩⟩
set_option maxHeartbeats 1000000 in
theorem c_keepN {g : Nat} {T : gT} {c J : gC} (hH : HT T) (hc : RG c) (hn : 0 ≤ c 100052 1 ∧ c 100052 1 < 10) (hm : 0 ≤ c 100052 2 ∧ c 100052 2 ≤ 10) (hT : NT T 100014) (hW : WT T 100034) {q : Nat} (hB : q = 3 * 100000 + T.2.1 3) (hq : q + 18 ≤ 400000) (hF : ∀ i, i < 18 → (T.1 (q + i)).1 = 0) (hr : (T.1 100053).2.2 (c 100052 1).toNat = 0) : gE g 8 3 [.ref 100052, .ref 100014, .ref 100034] (gm T c J) (fun o M1 => o = .inl none ∧ ∃ c0 J1 : gC, M1 = gm (gTr (gM T 3 (mkZ q) 217) 100053 (c 100052 1).toNat (q + 1)) (kps c0 q) J1 ∧ RG c0 ∧ (∀ k, k < q ∨ q + 18 ≤ k → c0 k = c k ∧ J1 k = J k)) := by
  refine gE_mk am_r8 rfl (Or.inr ⟨_, rfl, (by first | exact hH.1 | exact hH.2.1 | exact hH.2.2.1 | exact hH.2.2.2 | exact hr)⟩) (fun d hd => ?_)
  show gw d 3 8 0 [.ref 100052, .ref 100014, .ref 100034] [] _ _
  refine gw_al0 at8_0 (gw_gr at8_1 (by first | exact hH.1 | exact hH.2.1 | exact hH.2.2.1 | exact hH.2.2.2 | exact hr) (by first | exact hH.1 | exact hH.2.1 | exact hH.2.2.1 | exact hH.2.2.2 | exact hr) (gw_al0 at8_4 (gw_gf (j := 1) at8_5 (by first | exact hH.1 | exact hH.2.1 | exact hH.2.2.1 | exact hH.2.2.2 | exact hr) rfl (gw_qan at8_8 (by first | exact hH.1 | exact hH.2.1 | exact hH.2.2.1 | exact hH.2.2.2 | exact hr) (by first | exact hH.1 | exact hH.2.1 | exact hH.2.2.1 | exact hH.2.2.2 | exact hr) (by omega) (by omega) (by omega) (by first | exact hH.1 | exact hH.2.1 | exact hH.2.2.1 | exact hH.2.2.2 | exact hr) (gw_nonnullZ at8_9 (gw_al0 at8_12 (gw_gr at8_13 (by first | exact hH.1 | exact hH.2.1 | exact hH.2.2.1 | exact hH.2.2.2 | exact hr) (by first | exact hH.1 | exact hH.2.1 | exact hH.2.2.1 | exact hH.2.2.2 | exact hr) (gw_al0 at8_16 (gw_gf (j := 1) at8_17 (by first | exact hH.1 | exact hH.2.1 | exact hH.2.2.1 | exact hH.2.2.2 | exact hr) rfl ?_)))))))))
  have eM : gm T c J = gm (gM T 3 [] 0) c J := by rw [gM_nil]
  rw [eM]
  refine gw_mO at8_20 hB 0 ([(16, 0, fun _ => 0)]) (2) rfl (hF _ (by omega)) rfl rfl (gw_dupr at8_23 ?_)
  refine gw_call1 at8_24 (c_i6 hB (fun i h1 h2 => hF i (by omega)) (RG_gz hc)) (by omega) (Nat.le_of_ble_eq_true rfl) (fun o M1 q24 => ?_)
  obtain ⟨rfl, c1, J1, rfl, f2, f3⟩ := q24
  have f3 : ∀ k, k < q ∨ q + 18 ≤ k → c1 k = c k ∧ J1 k = J k := fun k hk => by
    have := f3 k hk
    rw [this.1, this.2]
    exact ⟨funext fun j => gz_k (by omega), funext fun j => gz_k (by omega)⟩
  show gw _ _ _ _ _ (.ref q :: _) _ _
  refine gw_qw at8_27 (by rw [gM_out (Or.inl (by omega))]; exact hH.2.2.1) (gM_tag (i := 0) hB rfl) (n := 10) (by rw [gM_out (Or.inl (by omega))]; exact hH.2.2.2) (by omega) (by omega) (by omega) ?_
  have h9 : ∀ k, k < 300000 → (gM T 3 (mkZ q) (2 + 215)).1 k = T.1 k := fun k hk => gM_out (Or.inl (by omega))
  have hc1 : c1 100052 = c 100052 := (f3 100052 (by omega)).1
  have hr1 : ((gTr (gM T 3 (mkZ q) (2 + 215)) 100053 (c 100052 1).toNat (q + 1)).1 100053).2.2 (c1 100052 1).toNat = q + 1 := by rw [hc1, gTr_s]; simp [va_up]
  have hZ1 : ZT (gTr (gM T 3 (mkZ q) (2 + 215)) 100053 (c 100052 1).toNat (q + 1)) q := ZT_of (ZT_mk hB) (fun k h1 h2 => gTr_k (by omega))
  have hT1 : NT (gTr (gM T 3 (mkZ q) (2 + 215)) 100053 (c 100052 1).toNat (q + 1)) 100014 := NT_of hT (fun k h1 h2 => by rw [gTr_k (by omega)]; exact h9 k (by omega))
  have hW1 : WT (gTr (gM T 3 (mkZ q) (2 + 215)) 100053 (c 100052 1).toNat (q + 1)) 100034 := WT_of hW (fun k h1 h2 => by rw [gTr_k (by omega)]; exact h9 k (by omega))
  have hH1 : HT (gTr (gM T 3 (mkZ q) (2 + 215)) 100053 (c 100052 1).toNat (q + 1)) := by
    obtain ⟨a1, a2, a3, a4⟩ := hH
    refine ⟨?_, ?_, ?_, ?_⟩
    · rw [gTr_k (by omega), h9 _ (by omega)]; exact a1
    · rw [gTr_k (by omega), h9 _ (by omega)]; exact a2
    · rw [gTr_s, h9 _ (by omega)]; exact a3
    · rw [gTr_s, h9 _ (by omega)]; exact a4
  refine gw_mono (c_keep28 (by omega) hH1 f2 (by rw [hc1]; exact hn) (by rw [hc1]; exact hm) hT1 hW1 hr1 hZ1 ⟨by omega, by omega⟩) ?_
  rintro o M1 ⟨rfl, rfl⟩
  exact ⟨rfl, c1, J1, rfl, f2, f3⟩
theorem HRm_lt {T : gT} {c : gC} {m : Nat} (h : HRm T c m) {c1 : gC} (hl : c 100052 1 < (m : Int)) (e1 : c1 100052 1 = (c 100052 1 + 1) % 10) (e2 : c1 100052 2 = min 10 (c 100052 2 + 1)) : HRm T c1 m := by
  obtain ⟨h1, h2, h3, h4, h5, h6, h7, h8, h9⟩ := h
  refine ⟨h1, h2, h3, h4, h5, h6, ?_, ?_, ?_⟩
  · rw [e1]; omega
  · rw [e2]; omega
  · rw [e1, e2]; omega
theorem c_keep {g : Nat} {T : gT} {c J : gC} (hR : HR T c) (hc : RG c) (hT : NT T 100014) (hW : WT T 100034) : gE g 8 3 [.ref 100052, .ref 100014, .ref 100034] (gm T c J) (fun o M1 => o = .inl none ∧ ∃ (T1 : gT) (c1 J1 : gC), KP T c J T1 c1 J1 ∧ M1 = gm T1 c1 J1) := by
  obtain ⟨m, h⟩ := hR
  have h0 := h
  obtain ⟨h1, h2, h3, h4, h5, h6, h7, h8, h9⟩ := h
  by_cases hl : c 100052 1 < (m : Int)
  · have hi : (c 100052 1).toNat < m := by omega
    obtain ⟨a1, a2⟩ := h5 _ hi
    refine gE_mono (gE_h (c_keepY h1 hc ⟨h7.1, h7.2.1⟩ ⟨h8.1, h8.2.1⟩ hT hW a1 a2 (by omega)) (by omega)) ?_
    rintro o M1 ⟨rfl, rfl⟩
    exact ⟨rfl, T, _, J, ⟨c, _, rfl, by omega, rfl, hc, fun k hk => ⟨rfl, rfl⟩, fun k hk hk2 => rfl, fun s hs => rfl, rfl, rfl, m, HRm_lt h0 hl kps_1 kps_2⟩, rfl⟩
  · have em : c 100052 1 = (m : Int) := by omega
    have hi : (c 100052 1).toNat = m := by omega
    have hB : 300000 + 18 * m = 3 * 100000 + T.2.1 3 := by omega
    refine gE_mono (gE_h (c_keepN (q := 300000 + 18 * m) h1 hc ⟨h7.1, h7.2.1⟩ ⟨h8.1, h8.2.1⟩ hT hW hB (by omega) (fun i hi => h4 _ (by omega) (by omega)) (by rw [hi]; exact h6 m (by omega))) (by omega)) ?_
    rintro o M1 ⟨rfl, c0, J1, rfl, f1, f2⟩
    rw [hi]
    have hc0 : c0 100052 = c 100052 := (f2 100052 (by omega)).1
    have g1 : ∀ k, k < 300000 + 18 * m ∨ 300000 + 18 * m + 18 ≤ k → ¬ k = 100053 → (gTr (gM T 3 (mkZ (300000 + 18 * m)) 217) 100053 m (300000 + 18 * m + 1)).1 k = T.1 k := fun k hk hk2 => by
      rw [gTr_k hk2, gM_out (by rw [← hB]; exact hk)]
    have g3 : (gTr (gM T 3 (mkZ (300000 + 18 * m)) 217) 100053 m (300000 + 18 * m + 1)).2.1 3 = 18 * (m + 1) := by
      show (gM T 3 (mkZ (300000 + 18 * m)) 217).2.1 3 = _
      rw [gM_nx, h3]; show 18 * m + 18 = _; omega
    have gr : (gTr (gM T 3 (mkZ (300000 + 18 * m)) 217) 100053 m (300000 + 18 * m + 1)).1 100053 = ((T.1 100053).1, (T.1 100053).2.1, va_up (T.1 100053).2.2 m (300000 + 18 * m + 1)) := by
      rw [gTr_s, gM_out (Or.inl (by omega))]
    refine ⟨rfl, _, _, J1, ⟨c0, 300000 + 18 * m, by rw [hi], by omega, rfl, f1, f2, g1, fun s hs => ?_, ?_, ?_, m + 1, ⟨?_, ?_, ?_, ?_⟩, by omega, g3, fun k k1 k2 => ?_, fun i hi2 => ⟨?_, ?_⟩, fun i hi2 => ?_, ?_, ?_, ?_⟩, rfl⟩
    · show (gM T 3 _ _).2.1 s = _
      unfold gM va_up
      simp [hs]
    · rw [g3]
      show T.2.2.1 + 18 + T.2.1 3 = _
      omega
    · rw [g3]
      show 18 * (T.2.2.2 + 217) + 217 * T.2.1 3 = _
      omega
    · rw [g1 _ (by omega) (by omega)]; exact h1.1
    · rw [g1 _ (by omega) (by omega)]; exact h1.2.1
    · rw [gr]; exact h1.2.2.1
    · rw [gr]; exact h1.2.2.2
    · rw [g1 _ (by omega) (by omega)]; exact h4 _ (by omega) k2
    · rw [gr]
      show va_up _ _ _ _ = _
      unfold va_up
      by_cases e : i = m
      · rw [if_pos e, e]
      · rw [if_neg e]; exact (h5 i (by omega)).1
    · by_cases e : i = m
      · subst e
        exact ZT_of (ZT_mk (w := 217) hB) (fun k h1 h2 => gTr_k (by omega))
      · exact ZT_of (h5 i (by omega)).2 (fun k h1 h2 => g1 k (by omega) (by omega))
    · rw [gr]
      show va_up _ _ _ _ = _
      unfold va_up
      rw [if_neg (by omega)]
      exact h6 i (by omega)
    · rw [kps_1, hc0]; omega
    · rw [kps_2, hc0]; omega
    · rw [kps_1, kps_2, hc0]; omega
