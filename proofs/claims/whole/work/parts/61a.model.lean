/-! making the reference -/
def mkM : gL := [(1, 208, fun _ => 0), (1, 208, fun _ => 0), (1, 208, fun _ => 0), (1, 576, fun _ => 0), (1, 25, fun _ => 0), (1, 24, fun _ => 0), (1, 49152, fun _ => 0), (1, 12, fun _ => 0), (1, 2080, fun _ => 0), (2, 1200, fun _ => 0), (2, 1500, fun _ => 0)]
set_option maxHeartbeats 1000000 in
theorem m_init {g : Nat} {T : gT} {c J : gC} (hB : 200000 = 2 * 100000 + T.2.1 2) (hF : ∀ i, i < 11 → (T.1 (200000 + i)).1 = 0) (hX0 : (T.1 500001).1 = 19) (hc : RG c) : gE g 181 1 [.ref 500001] (gm T c J) (fun o M1 => o = .inl none ∧ ∃ c1 J1 : gC, M1 = gm (gM (gTr (gTr (gTr (gTr (gTr (gTr (gTr (gTr (gTr (gTr (gTr (gTr (T) 500001 1 (200000 + 0 + 1)) 500001 2 (200000 + 1 + 1)) 500001 3 (200000 + 2 + 1)) 500001 4 (200000 + 0 + 1)) 500001 5 (200000 + 3 + 1)) 500001 6 (200000 + 4 + 1)) 500001 8 (200000 + 5 + 1)) 500001 10 (200000 + 6 + 1)) 500001 11 (200000 + 7 + 1)) 500001 12 (200000 + 8 + 1)) 500001 14 (200000 + 9 + 1)) 500001 24 (200000 + 10 + 1)) 2 mkM 55193) c1 J1 ∧ RG c1 ∧ (∀ k, k < 200000 ∨ 200011 ≤ k → ¬ k = 500001 → c1 k = c k ∧ J1 k = J k) ∧ (∀ j, ¬ j = 22 → c1 500001 j = c 500001 j) ∧ c1 500001 22 = -1 ∧ (∀ j, 0 ≤ j → j < 208 → c1 200000 j = mclr c 200000 200000 j) ∧ ∀ i : Nat, 1 ≤ i → i < 11 → ∀ j, c1 (200000 + i) j = 0) := by
  refine gE_mk am_r181 rfl (Or.inr ⟨_, rfl, (by first | exact hX0 | (rw [gM_out (Or.inr (by show 2 * 100000 + T.2.1 2 + _ ≤ _; simp only [List.length]; omega))]; first | exact hX0 | (simp only [gTr_s]; first | exact hX0 | rfl)))⟩) (fun d hd => ?_)
  show gw d 2 181 0 [.ref 500001] [] _ _
  refine gw_al0 at181_0 (gw_objI at181_1 (by rw [hX0]; rfl) (Nat.le_of_ble_eq_true rfl) ?_)
  have eM : gm T c J = gm (gM T 2 [] 0) c J := by rw [gM_nil]
  rw [eM]
  refine gw_al0 at181_4 (gw_sip at181_5 (by decide) (gw_mI (m := 208) at181_8 hB 0 ([(1, 208, fun _ => 0)]) (208) rfl (by first | exact hF _ (by omega) | (simp (disch := omega) only [gTr_k]; exact hF _ (by omega))) (by omega) (by omega) rfl rfl ?_))
  refine gw_mX at181_10 (Or.inr (by show 2 * 100000 + T.2.1 2 + 1 ≤ _; omega)) (by first | exact hX0 | (rw [gTr_s]; exact hX0) | (simp only [gTr_s]; exact hX0)) ?_
  refine gw_al0 at181_13 (gw_sip at181_14 (by decide) (gw_mI (m := 208) at181_17 hB 1 ([(1, 208, fun _ => 0), (1, 208, fun _ => 0)]) (416) rfl (by first | exact hF _ (by omega) | (simp (disch := omega) only [gTr_k]; exact hF _ (by omega))) (by omega) (by omega) rfl rfl ?_))
  refine gw_mX at181_19 (Or.inr (by show 2 * 100000 + T.2.1 2 + 2 ≤ _; omega)) (by first | exact hX0 | (rw [gTr_s]; exact hX0) | (simp only [gTr_s]; exact hX0)) ?_
  refine gw_al0 at181_22 (gw_sip at181_23 (by decide) (gw_mI (m := 208) at181_26 hB 2 ([(1, 208, fun _ => 0), (1, 208, fun _ => 0), (1, 208, fun _ => 0)]) (624) rfl (by first | exact hF _ (by omega) | (simp (disch := omega) only [gTr_k]; exact hF _ (by omega))) (by omega) (by omega) rfl rfl ?_))
  refine gw_mX at181_28 (Or.inr (by show 2 * 100000 + T.2.1 2 + 3 ≤ _; omega)) (by first | exact hX0 | (rw [gTr_s]; exact hX0) | (simp only [gTr_s]; exact hX0)) ?_
  refine gw_al0 at181_31 (gw_al0 at181_32 (gw_gr at181_33 (by first | exact hX0 | (rw [gM_out (Or.inr (by show 2 * 100000 + T.2.1 2 + _ ≤ _; simp only [List.length]; omega))]; first | exact hX0 | (simp only [gTr_s]; first | exact hX0 | rfl))) (by first | exact hX0 | (rw [gM_out (Or.inr (by show 2 * 100000 + T.2.1 2 + _ ≤ _; simp only [List.length]; omega))]; first | exact hX0 | (simp only [gTr_s]; first | exact hX0 | rfl))) ?_))
  refine gw_mX at181_36 (Or.inr (by show 2 * 100000 + T.2.1 2 + 3 ≤ _; omega)) (by first | exact hX0 | (rw [gTr_s]; exact hX0) | (simp only [gTr_s]; exact hX0)) ?_
  refine gw_al0 at181_39 (gw_sip at181_40 (by decide) (gw_mI (m := 576) at181_43 hB 3 ([(1, 208, fun _ => 0), (1, 208, fun _ => 0), (1, 208, fun _ => 0), (1, 576, fun _ => 0)]) (1200) rfl (by first | exact hF _ (by omega) | (simp (disch := omega) only [gTr_k]; exact hF _ (by omega))) (by omega) (by omega) rfl rfl ?_))
  refine gw_mX at181_45 (Or.inr (by show 2 * 100000 + T.2.1 2 + 4 ≤ _; omega)) (by first | exact hX0 | (rw [gTr_s]; exact hX0) | (simp only [gTr_s]; exact hX0)) ?_
  refine gw_al0 at181_48 (gw_bip at181_49 (by decide) (gw_mI (m := 25) at181_51 hB 4 ([(1, 208, fun _ => 0), (1, 208, fun _ => 0), (1, 208, fun _ => 0), (1, 576, fun _ => 0), (1, 25, fun _ => 0)]) (1225) rfl (by first | exact hF _ (by omega) | (simp (disch := omega) only [gTr_k]; exact hF _ (by omega))) (by omega) (by omega) rfl rfl ?_))
  refine gw_mX at181_53 (Or.inr (by show 2 * 100000 + T.2.1 2 + 5 ≤ _; omega)) (by first | exact hX0 | (rw [gTr_s]; exact hX0) | (simp only [gTr_s]; exact hX0)) ?_
  refine gw_al0 at181_56 (gw_bip at181_57 (by decide) (gw_mI (m := 24) at181_59 hB 5 ([(1, 208, fun _ => 0), (1, 208, fun _ => 0), (1, 208, fun _ => 0), (1, 576, fun _ => 0), (1, 25, fun _ => 0), (1, 24, fun _ => 0)]) (1249) rfl (by first | exact hF _ (by omega) | (simp (disch := omega) only [gTr_k]; exact hF _ (by omega))) (by omega) (by omega) rfl rfl ?_))
  refine gw_mX at181_61 (Or.inr (by show 2 * 100000 + T.2.1 2 + 6 ≤ _; omega)) (by first | exact hX0 | (rw [gTr_s]; exact hX0) | (simp only [gTr_s]; exact hX0)) ?_
  refine gw_al0 at181_64 (gw_ldc (z := 49152) at181_65 (by decide) (gw_mI (m := 49152) at181_67 hB 6 ([(1, 208, fun _ => 0), (1, 208, fun _ => 0), (1, 208, fun _ => 0), (1, 576, fun _ => 0), (1, 25, fun _ => 0), (1, 24, fun _ => 0), (1, 49152, fun _ => 0)]) (50401) rfl (by first | exact hF _ (by omega) | (simp (disch := omega) only [gTr_k]; exact hF _ (by omega))) (by omega) (by omega) rfl rfl ?_))
  refine gw_mX at181_69 (Or.inr (by show 2 * 100000 + T.2.1 2 + 7 ≤ _; omega)) (by first | exact hX0 | (rw [gTr_s]; exact hX0) | (simp only [gTr_s]; exact hX0)) ?_
  refine gw_al0 at181_72 (gw_bip at181_73 (by decide) (gw_mI (m := 12) at181_75 hB 7 ([(1, 208, fun _ => 0), (1, 208, fun _ => 0), (1, 208, fun _ => 0), (1, 576, fun _ => 0), (1, 25, fun _ => 0), (1, 24, fun _ => 0), (1, 49152, fun _ => 0), (1, 12, fun _ => 0)]) (50413) rfl (by first | exact hF _ (by omega) | (simp (disch := omega) only [gTr_k]; exact hF _ (by omega))) (by omega) (by omega) rfl rfl ?_))
  refine gw_mX at181_77 (Or.inr (by show 2 * 100000 + T.2.1 2 + 8 ≤ _; omega)) (by first | exact hX0 | (rw [gTr_s]; exact hX0) | (simp only [gTr_s]; exact hX0)) ?_
  refine gw_al0 at181_80 (gw_sip at181_81 (by decide) (gw_mI (m := 2080) at181_84 hB 8 ([(1, 208, fun _ => 0), (1, 208, fun _ => 0), (1, 208, fun _ => 0), (1, 576, fun _ => 0), (1, 25, fun _ => 0), (1, 24, fun _ => 0), (1, 49152, fun _ => 0), (1, 12, fun _ => 0), (1, 2080, fun _ => 0)]) (52493) rfl (by first | exact hF _ (by omega) | (simp (disch := omega) only [gTr_k]; exact hF _ (by omega))) (by omega) (by omega) rfl rfl ?_))
  refine gw_mX at181_86 (Or.inr (by show 2 * 100000 + T.2.1 2 + 9 ≤ _; omega)) (by first | exact hX0 | (rw [gTr_s]; exact hX0) | (simp only [gTr_s]; exact hX0)) ?_
  refine gw_al0 at181_89 (gw_sip at181_90 (by decide) (gw_mB (m := 1200) at181_93 hB 9 ([(1, 208, fun _ => 0), (1, 208, fun _ => 0), (1, 208, fun _ => 0), (1, 576, fun _ => 0), (1, 25, fun _ => 0), (1, 24, fun _ => 0), (1, 49152, fun _ => 0), (1, 12, fun _ => 0), (1, 2080, fun _ => 0), (2, 1200, fun _ => 0)]) (53693) rfl (by first | exact hF _ (by omega) | (simp (disch := omega) only [gTr_k]; exact hF _ (by omega))) (by omega) (by omega) rfl rfl ?_))
  refine gw_mX at181_95 (Or.inr (by show 2 * 100000 + T.2.1 2 + 10 ≤ _; omega)) (by first | exact hX0 | (rw [gTr_s]; exact hX0) | (simp only [gTr_s]; exact hX0)) ?_
  refine gw_al0 at181_98 (gw_const at181_99 (gw_pf (j := 22) at181_100 (by first | exact hX0 | (rw [gM_out (Or.inr (by show 2 * 100000 + T.2.1 2 + _ ≤ _; simp only [List.length]; omega))]; first | exact hX0 | (simp only [gTr_s]; first | exact hX0 | rfl))) rfl (gw_al0 at181_103 (gw_sip at181_104 (by decide) (gw_mB (m := 1500) at181_107 hB 10 ([(1, 208, fun _ => 0), (1, 208, fun _ => 0), (1, 208, fun _ => 0), (1, 576, fun _ => 0), (1, 25, fun _ => 0), (1, 24, fun _ => 0), (1, 49152, fun _ => 0), (1, 12, fun _ => 0), (1, 2080, fun _ => 0), (2, 1200, fun _ => 0), (2, 1500, fun _ => 0)]) (55193) rfl (by first | exact hF _ (by omega) | (simp (disch := omega) only [gTr_k]; exact hF _ (by omega))) (by omega) (by omega) rfl rfl ?_)))))
  refine gw_mX at181_109 (Or.inr (by show 2 * 100000 + T.2.1 2 + 11 ≤ _; omega)) (by first | exact hX0 | (rw [gTr_s]; exact hX0) | (simp only [gTr_s]; exact hX0)) ?_
  refine gw_al0 at181_112 (gw_gr at181_113 (by first | exact hX0 | (rw [gM_out (Or.inr (by show 2 * 100000 + T.2.1 2 + _ ≤ _; simp only [List.length]; omega))]; first | exact hX0 | (simp only [gTr_s]; first | exact hX0 | rfl))) (by first | exact hX0 | (rw [gM_out (Or.inr (by show 2 * 100000 + T.2.1 2 + _ ≤ _; simp only [List.length]; omega))]; first | exact hX0 | (simp only [gTr_s]; first | exact hX0 | rfl))) ?_)
  refine gw_call1 at181_116 (m_clear (b := 200000 + 0) ⟨gM_tag (i := 0) hB rfl, gM_len (i := 0) hB rfl⟩) (by omega) (Nat.le_of_ble_eq_true rfl) (fun o M1 q116 => ?_)
  obtain ⟨rfl, rfl⟩ := q116
  show gw _ _ _ _ _ [] _ _
  refine gw_rv at181_119 am_r181.2.1 ⟨rfl, ?_⟩
  refine ⟨_, _, rfl, mclr_RG (RG_gz (RG_gu (RG_gz (RG_gz (RG_gz (RG_gz (RG_gz (RG_gz (RG_gz (RG_gz (RG_gz (RG_gz hc)))))))))) (by decide))), fun k h1 h2 => ⟨?_, ?_⟩, fun j hj => ?_, ?_, fun j h1 h2 => ?_, fun i h1 h2 j => ?_⟩
  · rw [mclr_k (by omega)]
    funext j
    simp (disch := omega) only [gu_k, gz_k]
  · funext j
    simp (disch := omega) only [gz_k]
  · rw [mclr_k (by omega)]
    simp (disch := omega) only [gu_j, gz_k]
  · rw [mclr_k (by omega)]
    simp (disch := omega) only [gu_s, gz_k]
  · rw [mclr_v ⟨h1, h2⟩, mclr_v ⟨h1, h2⟩]
  · rw [mclr_k (by omega)]
    rcases (show i = 1 ∨ i = 2 ∨ i = 3 ∨ i = 4 ∨ i = 5 ∨ i = 6 ∨ i = 7 ∨ i = 8 ∨ i = 9 ∨ i = 10 by omega) with e | e | e | e | e | e | e | e | e | e <;> subst e <;> simp [gu, gz]
