/-! history: taken back (the ring lies at 100053; a snapshot at q, its network at q + 1, its world at q + 13) -/
theorem gw_an4 {d g y pc nx a b : Nat} {v0 v1 v2 v3 : Value} {R r : List Value} {T : gT} {c J : gC} {Q : am_O → am_M → Prop} (hi : am_at y pc nx (.aload 4) 0 a b) (h : gw d g y nx (v0 :: v1 :: v2 :: v3 :: .null :: R) (.null :: r) (gm T c J) Q) : gw d g y pc (v0 :: v1 :: v2 :: v3 :: .null :: R) r (gm T c J) Q := gw_step hi (by decide) rfl (by rw [hi.2] at h; exact h)
def HT (T : gT) : Prop := (T.1 100052).1 = 11 ∧ (T.1 100052).2.2 0 = 100053 + 1 ∧ (T.1 100053).1 = 4 ∧ (T.1 100053).2.1 = 10
def ZT (T : gT) (q : Nat) : Prop := (T.1 q).1 = 16 ∧ (T.1 q).2.2 0 = (q + 1) + 1 ∧ (T.1 q).2.2 1 = (q + 13) + 1 ∧ NT T (q + 1) ∧ WT T (q + 13)
def hsj (c : gC) : Int := (c 100052 1 + 10 - 1) % 10
def hrs (c : gC) (q : Nat) : gC := gu (gu (wcp (ncp c 100014 (q + 1)) 100034 (q + 13)) 100052 1 (hsj c)) 100052 2 (c 100052 2 - 1)
set_option maxHeartbeats 1000000 in
theorem c_restoreN {g : Nat} {T : gT} {c J : gC} (hH : HT T) (hc : RG c) (hn : 0 ≤ c 100052 1 ∧ c 100052 1 < 10) (hm : 0 ≤ c 100052 2 ∧ c 100052 2 ≤ 10) (hT : NT T 100014) (hW : WT T 100034) (hr : (T.1 100053).2.2 ((c 100052 1 + 10 - 1) % 10).toNat = 0) : gE g 9 0 [.ref 100052, .ref 100014, .ref 100034] (gm T c J) (gR (gi (bi false)) (gm T c J)) := by
  have hj : 0 ≤ (c 100052 1 + 10 - 1) % 10 ∧ (c 100052 1 + 10 - 1) % 10 < 10 := by omega
  refine gE_mk am_r9 rfl (Or.inr ⟨_, rfl, (by first | exact hH.1 | exact hH.2.1 | exact hH.2.2.1 | exact hH.2.2.2 | exact hr)⟩) (fun d hd => ?_)
  show gw d g 9 0 [.ref 100052, .ref 100014, .ref 100034, am_U, am_U] [] _ _
  refine gw_al0 at9_0 (gw_gf (j := 1) at9_1 (by first | exact hH.1 | exact hH.2.1 | exact hH.2.2.1 | exact hH.2.2.2 | exact hr) rfl (gw_bip at9_4 (by decide) (gw_iadd at9_6 (gw_const at9_7 (gw_isub at9_8 (gw_bip at9_9 (by decide) (gw_remp at9_11 (by first | omega | exact hc _ _) (by first | omega | exact hc _ _) (gw_is3 at9_12 (h := (gw_al0 at9_13 (gw_gr at9_14 (by first | exact hH.1 | exact hH.2.1 | exact hH.2.2.1 | exact hH.2.2.2 | exact hr) (by first | exact hH.1 | exact hH.2.1 | exact hH.2.2.1 | exact hH.2.2.2 | exact hr) (gw_il3 at9_17 (gw_qan at9_18 (by first | exact hH.1 | exact hH.2.1 | exact hH.2.2.1 | exact hH.2.2.2 | exact hr) (by first | exact hH.1 | exact hH.2.1 | exact hH.2.2.1 | exact hH.2.2.2 | exact hr) (by omega) (by omega) (by omega) (by first | exact hH.1 | exact hH.2.1 | exact hH.2.2.1 | exact hH.2.2.2 | exact hr) (gw_az4 at9_19 (h := (gw_al0 at9_21 (gw_gf (j := 2) at9_22 (by first | exact hH.1 | exact hH.2.1 | exact hH.2.2.1 | exact hH.2.2.2 | exact hr) rfl ?_)))))))))))))))))
  refine gw_zeq at9_25 (by first | omega | exact hc _ _) (fun q25 => ?_) (fun q25 => ?_)
  · refine gw_const at9_33 (gw_r0 at9_34 am_r9.2.1 (gR_b ?_))
    rfl
  · refine gw_an4 at9_28 (gw_nonnullZ at9_30 (gw_const at9_33 (gw_r0 at9_34 am_r9.2.1 (gR_b ?_))))
    rfl
set_option maxHeartbeats 1000000 in
theorem c_restore {g : Nat} {T : gT} {c J : gC} (hH : HT T) (hc : RG c) (hn : 0 ≤ c 100052 1 ∧ c 100052 1 < 10) (hm : 0 ≤ c 100052 2 ∧ c 100052 2 ≤ 10) (hT : NT T 100014) (hW : WT T 100034) {q : Nat} (hr : (T.1 100053).2.2 ((c 100052 1 + 10 - 1) % 10).toNat = q + 1) (hZ : ZT T q) (hq : 300000 ≤ q ∧ q < 400000) : gE g 9 1 [.ref 100052, .ref 100014, .ref 100034] (gm T c J) (fun o M1 => (c 100052 2 = 0 ∧ o = .inl (some (gi (bi false))) ∧ M1 = gm T c J) ∨ (¬ c 100052 2 = 0 ∧ o = .inl (some (gi (bi true))) ∧ M1 = gm T (hrs c q) J)) := by
  have hj : 0 ≤ (c 100052 1 + 10 - 1) % 10 ∧ (c 100052 1 + 10 - 1) % 10 < 10 := by omega
  refine gE_mk am_r9 rfl (Or.inr ⟨_, rfl, (by first | exact hH.1 | exact hH.2.1 | exact hH.2.2.1 | exact hH.2.2.2 | exact hr | exact hZ.1 | exact hZ.2.1 | exact hZ.2.2.1)⟩) (fun d hd => ?_)
  show gw d g 9 0 [.ref 100052, .ref 100014, .ref 100034, am_U, am_U] [] _ _
  refine gw_al0 at9_0 (gw_gf (j := 1) at9_1 (by first | exact hH.1 | exact hH.2.1 | exact hH.2.2.1 | exact hH.2.2.2 | exact hr | exact hZ.1 | exact hZ.2.1 | exact hZ.2.2.1) rfl (gw_bip at9_4 (by decide) (gw_iadd at9_6 (gw_const at9_7 (gw_isub at9_8 (gw_bip at9_9 (by decide) (gw_remp at9_11 (by first | omega | exact hc _ _) (by first | omega | exact hc _ _) (gw_is3 at9_12 (h := (gw_al0 at9_13 (gw_gr at9_14 (by first | exact hH.1 | exact hH.2.1 | exact hH.2.2.1 | exact hH.2.2.2 | exact hr | exact hZ.1 | exact hZ.2.1 | exact hZ.2.2.1) (by first | exact hH.1 | exact hH.2.1 | exact hH.2.2.1 | exact hH.2.2.2 | exact hr | exact hZ.1 | exact hZ.2.1 | exact hZ.2.2.1) (gw_il3 at9_17 (gw_qa at9_18 (by first | exact hH.1 | exact hH.2.1 | exact hH.2.2.1 | exact hH.2.2.2 | exact hr | exact hZ.1 | exact hZ.2.1 | exact hZ.2.2.1) (by first | exact hH.1 | exact hH.2.1 | exact hH.2.2.1 | exact hH.2.2.2 | exact hr | exact hZ.1 | exact hZ.2.1 | exact hZ.2.2.1) (by omega) (by omega) (by omega) (by first | exact hH.1 | exact hH.2.1 | exact hH.2.2.1 | exact hH.2.2.2 | exact hr | exact hZ.1 | exact hZ.2.1 | exact hZ.2.2.1) (gw_as4 at9_19 (h := (gw_al0 at9_21 (gw_gf (j := 2) at9_22 (by first | exact hH.1 | exact hH.2.1 | exact hH.2.2.1 | exact hH.2.2.2 | exact hr | exact hZ.1 | exact hZ.2.1 | exact hZ.2.2.1) rfl ?_)))))))))))))))))
  refine gw_zeq at9_25 (by first | omega | exact hc _ _) (fun q25 => ?_) (fun q25 => ?_)
  · refine gw_const at9_33 (gw_r0 at9_34 am_r9.2.1 ?_)
    exact Or.inl ⟨by assumption, rfl, rfl⟩
  · refine gw_al4 at9_28 (gw_nonnullY at9_30 (by rw [hZ.1]; rfl) (gw_al1 at9_35 (gw_al4 at9_36 (gw_gr at9_38 (by first | exact hH.1 | exact hH.2.1 | exact hH.2.2.1 | exact hH.2.2.2 | exact hr | exact hZ.1 | exact hZ.2.1 | exact hZ.2.2.1) (by first | exact hH.1 | exact hH.2.1 | exact hH.2.2.1 | exact hH.2.2.2 | exact hr | exact hZ.1 | exact hZ.2.1 | exact hZ.2.2.1) ?_))))
    refine gw_call2 at9_41 (c_ncopy hT hZ.2.2.2.1 (by omega)) (by omega) (Nat.le_of_ble_eq_true rfl) (fun o M1 q41 => ?_)
    obtain ⟨rfl, rfl⟩ := q41
    show gw _ _ _ _ _ [] _ _
    refine gw_al2 at9_44 (gw_al4 at9_45 (gw_gr at9_47 (by first | exact hH.1 | exact hH.2.1 | exact hH.2.2.1 | exact hH.2.2.2 | exact hr | exact hZ.1 | exact hZ.2.1 | exact hZ.2.2.1) (by first | exact hH.1 | exact hH.2.1 | exact hH.2.2.1 | exact hH.2.2.2 | exact hr | exact hZ.1 | exact hZ.2.1 | exact hZ.2.2.1) ?_))
    refine gw_call2 at9_50 (c_wcopy hW hZ.2.2.2.2 (by omega)) (by omega) (Nat.le_of_ble_eq_true rfl) (fun o M1 q50 => ?_)
    obtain ⟨rfl, rfl⟩ := q50
    show gw _ _ _ _ _ [] _ _
    refine gw_al0 at9_53 (gw_il3 at9_54 (gw_pf (j := 1) at9_55 (by first | exact hH.1 | exact hH.2.1 | exact hH.2.2.1 | exact hH.2.2.2 | exact hr | exact hZ.1 | exact hZ.2.1 | exact hZ.2.2.1) rfl (gw_al0 at9_58 (gw_dupr at9_59 (gw_gf (j := 2) at9_60 (by first | exact hH.1 | exact hH.2.1 | exact hH.2.2.1 | exact hH.2.2.2 | exact hr | exact hZ.1 | exact hZ.2.1 | exact hZ.2.2.1) rfl ?_)))))
    simp (disch := omega) only [gu_j, gu_s]
    have e9 : wcp (ncp c 100014 (q + 1)) 100034 (q + 13) 100052 2 = c 100052 2 := by rw [wcp_k (by omega), ncp_k (by omega)]
    rw [e9]
    refine gw_const at9_63 (gw_isub at9_64 (gw_pf (j := 2) at9_65 (by first | exact hH.1 | exact hH.2.1 | exact hH.2.2.1 | exact hH.2.2.2 | exact hr | exact hZ.1 | exact hZ.2.1 | exact hZ.2.2.1) rfl (gw_const at9_68 (gw_r1 at9_69 am_r9.2.1 ?_))))
    exact Or.inr ⟨by assumption, rfl, rfl⟩
