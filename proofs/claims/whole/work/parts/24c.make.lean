set_option maxHeartbeats 1000000 in
theorem c_i7 {g : Nat} {T : gT} {c J : gC} {w B n : Nat} (hB : B = g * 100000 + T.2.1 g) (hF : ∀ i, 1 ≤ i → i < 5 → (T.1 (B + i)).1 = 0) (hn : (T.1 n).1 = 12) (hnB : n < B) (hc : RG c) : gE g 85 0 [.ref (B + 0), .ref n] (gm (gM T g [(17, 0, fun _ => 0)] w) c J) (fun o M1 => o = .inl none ∧ ∃ c1 J1 : gC, M1 = gm (gM T g (mkW B n) (w + 76)) c1 J1 ∧ FW c1 B (c n 4) ∧ RG c1 ∧ (∀ k, k < B ∨ B + 5 ≤ k → c1 k = c k ∧ J1 k = J k)) := by
  refine gE_mk am_r85 rfl (Or.inr ⟨_, rfl, (gM_tag hB rfl)⟩) (fun d hd => ?_)
  show gw d g 85 0 [.ref (B + 0), .ref n] [] _ _
  refine gw_al0 at85_0 (gw_objI at85_1 (by rw [gM_tag (i := 0) (t := 17) hB rfl]; rfl) (Nat.le_of_ble_eq_true rfl) (gw_al0 at85_4 (gw_const at85_5 (gw_pf (j := 1) at85_6 (by first | exact gM_tag hB rfl | exact gM_len hB rfl | exact gM_ref hB rfl | (rw [gM_out (Or.inl (by omega))]; exact hn)) rfl (gw_al0 at85_9 (gw_const at85_10 (gw_pf (j := 2) at85_11 (by first | exact gM_tag hB rfl | exact gM_len hB rfl | exact gM_ref hB rfl | (rw [gM_out (Or.inl (by omega))]; exact hn)) rfl (gw_al0 at85_14 (gw_const at85_15 (gw_pf (j := 3) at85_16 (by first | exact gM_tag hB rfl | exact gM_len hB rfl | exact gM_ref hB rfl | (rw [gM_out (Or.inl (by omega))]; exact hn)) rfl (gw_al0 at85_19 (gw_const at85_20 (gw_pf (j := 4) at85_21 (by first | exact gM_tag hB rfl | exact gM_len hB rfl | exact gM_ref hB rfl | (rw [gM_out (Or.inl (by omega))]; exact hn)) rfl (gw_al0 at85_24 (gw_const at85_25 (gw_pf (j := 5) at85_26 (by first | exact gM_tag hB rfl | exact gM_len hB rfl | exact gM_ref hB rfl | (rw [gM_out (Or.inl (by omega))]; exact hn)) rfl (gw_al0 at85_29 (gw_const at85_30 (gw_pf (j := 6) at85_31 (by first | exact gM_tag hB rfl | exact gM_len hB rfl | exact gM_ref hB rfl | (rw [gM_out (Or.inl (by omega))]; exact hn)) rfl (gw_al0 at85_34 (gw_const at85_35 (gw_pf (j := 7) at85_36 (by first | exact gM_tag hB rfl | exact gM_len hB rfl | exact gM_ref hB rfl | (rw [gM_out (Or.inl (by omega))]; exact hn)) rfl (gw_al0 at85_39 (gw_const at85_40 (gw_mI (m := 4) at85_41 hB 1 [(17, 0, fun _ => 0), (1, 4, fun _ => 0)] (w + 4) rfl (hF _ (by omega) (by omega)) (by omega) (by omega) rfl rfl (gw_mR (i := 0) [(17, 0, va_up (fun _ => 0) 8 (B + 1 + 1)), (1, 4, fun _ => 0)] at85_43 hB rfl rfl (gw_al0 at85_46 (gw_bip at85_47 (by decide) (gw_mI (m := 24) at85_49 hB 2 [(17, 0, va_up (fun _ => 0) 8 (B + 1 + 1)), (1, 4, fun _ => 0), (1, 24, fun _ => 0)] (w + 28) rfl (hF _ (by omega) (by omega)) (by omega) (by omega) rfl rfl (gw_mR (i := 0) [(17, 0, va_up (va_up (fun _ => 0) 8 (B + 1 + 1)) 9 (B + 2 + 1)), (1, 4, fun _ => 0), (1, 24, fun _ => 0)] at85_51 hB rfl rfl (gw_al0 at85_54 (gw_bip at85_55 (by decide) (gw_mI (m := 24) at85_57 hB 3 [(17, 0, va_up (va_up (fun _ => 0) 8 (B + 1 + 1)) 9 (B + 2 + 1)), (1, 4, fun _ => 0), (1, 24, fun _ => 0), (1, 24, fun _ => 0)] (w + 52) rfl (hF _ (by omega) (by omega)) (by omega) (by omega) rfl rfl (gw_mR (i := 0) [(17, 0, va_up (va_up (va_up (fun _ => 0) 8 (B + 1 + 1)) 9 (B + 2 + 1)) 10 (B + 3 + 1)), (1, 4, fun _ => 0), (1, 24, fun _ => 0), (1, 24, fun _ => 0)] at85_59 hB rfl rfl (gw_al0 at85_62 (gw_bip at85_63 (by decide) (gw_mI (m := 24) at85_65 hB 4 [(17, 0, va_up (va_up (va_up (fun _ => 0) 8 (B + 1 + 1)) 9 (B + 2 + 1)) 10 (B + 3 + 1)), (1, 4, fun _ => 0), (1, 24, fun _ => 0), (1, 24, fun _ => 0), (1, 24, fun _ => 0)] (w + 76) rfl (hF _ (by omega) (by omega)) (by omega) (by omega) rfl rfl (gw_mR (i := 0) [(17, 0, va_up (va_up (va_up (va_up (fun _ => 0) 8 (B + 1 + 1)) 9 (B + 2 + 1)) 10 (B + 3 + 1)) 11 (B + 4 + 1)), (1, 4, fun _ => 0), (1, 24, fun _ => 0), (1, 24, fun _ => 0), (1, 24, fun _ => 0)] at85_67 hB rfl rfl (gw_al0 at85_70 (gw_al1 at85_71 (gw_mR (i := 0) [(17, 0, va_up (va_up (va_up (va_up (va_up (fun _ => 0) 8 (B + 1 + 1)) 9 (B + 2 + 1)) 10 (B + 3 + 1)) 11 (B + 4 + 1)) 0 (n + 1)), (1, 4, fun _ => 0), (1, 24, fun _ => 0), (1, 24, fun _ => 0), (1, 24, fun _ => 0)] at85_72 hB rfl rfl (gw_al0 at85_75 (gw_al1 at85_76 (gw_gf (j := 4) at85_77 (by first | exact gM_tag hB rfl | exact gM_len hB rfl | exact gM_ref hB rfl | (rw [gM_out (Or.inl (by omega))]; exact hn)) rfl (gw_pf (j := 4) at85_80 (by first | exact gM_tag hB rfl | exact gM_len hB rfl | exact gM_ref hB rfl | (rw [gM_out (Or.inl (by omega))]; exact hn)) rfl (gw_rv at85_83 am_r85.2.1 ⟨rfl, ?_⟩))))))))))))))))))))))))))))))))))))))))))))))
  have n1 : ¬ n = B + 1 := by omega
  have n2 : ¬ n = B + 2 := by omega
  have n3 : ¬ n = B + 3 := by omega
  have n4 : ¬ n = B + 4 := by omega
  have n5 : ¬ n = B := by omega
  refine ⟨_, _, rfl, ⟨fun j h0 h1 => ?_, fun i h0 h1 j => ?_⟩, ?_, fun k hk => ⟨funext fun j => ?_, funext fun j => ?_⟩⟩
  · rcases (show j = 1 ∨ j = 2 ∨ j = 3 ∨ j = 4 ∨ j = 5 ∨ j = 6 ∨ j = 7 by omega) with e | e | e | e | e | e | e <;> subst e <;> simp [gu, gz, n1, n2, n3, n4, n5]
  · rcases (show i = 1 ∨ i = 2 ∨ i = 3 ∨ i = 4 by omega) with e | e | e | e <;> subst e <;> simp [gu, gz]
  · refine (fun h => RG_gu h (h _ _)) ?_
    repeat (first | exact hc | refine RG_gu ?_ (by decide) | refine RG_gz ?_)
  · simp (disch := omega) only [gu_k, gz_k]
  · simp (disch := omega) only [gu_k, gz_k]
def mkZ (B : Nat) : gL := (16, 0, va_up (va_up (fun _ => 0) 0 (B + 1 + 1)) 1 (B + 13 + 1)) :: (mkN (B + 1) ++ mkW (B + 13) (B + 1))
set_option maxHeartbeats 1000000 in
theorem c_i6 {g : Nat} {T : gT} {c J : gC} {w B : Nat} (hB : B = g * 100000 + T.2.1 g) (hF : ∀ i, 1 ≤ i → i < 18 → (T.1 (B + i)).1 = 0) (hc : RG c) : gE g 84 2 [.ref (B + 0)] (gm (gM T g [(16, 0, fun _ => 0)] w) c J) (fun o M1 => o = .inl none ∧ ∃ c1 J1 : gC, M1 = gm (gM T g (mkZ B) (w + 215)) c1 J1 ∧ RG c1 ∧ (∀ k, k < B ∨ B + 18 ≤ k → c1 k = c k ∧ J1 k = J k)) := by
  refine gE_mk am_r84 rfl (Or.inr ⟨_, rfl, (gM_tag hB rfl)⟩) (fun d hd => ?_)
  show gw d g 84 0 [.ref (B + 0), am_U] [] _ _
  refine gw_al0 at84_0 (gw_objI at84_1 (by rw [gM_tag (i := 0) (t := 16) hB rfl]; rfl) (Nat.le_of_ble_eq_true rfl) (gw_mO at84_4 hB 1 ([(16, 0, fun _ => 0)] ++ [(12, 0, fun _ => 0)]) (w + 18) rfl (hF _ (by omega) (by omega)) rfl rfl (gw_dupr at84_7 ?_)))
  rw [← gM_app]
  refine gw_call1 at84_8 (c_i2 (B := B + 1) (by rw [gM_nx]; show B + 1 = _ + (_ + 1); omega) (fun i h1 h2 => by rw [gM_out (Or.inr (by rw [← hB]; show B + 1 ≤ _; omega)), show B + 1 + i = B + (1 + i) by omega]; exact hF _ (by omega) (by omega)) (RG_gz hc)) (by omega) (Nat.le_of_ble_eq_true rfl) (fun o M1 q8 => ?_)
  obtain ⟨rfl, c1, J1, rfl, f1, f2, f3⟩ := q8
  rw [gM_app]
  show gw _ _ _ _ _ (.ref (B + 1) :: _) _ _
  refine gw_as1 at84_11 (h := (gw_al0 at84_12 (gw_al1 at84_13 (gw_mR (i := 0) ((16, 0, va_up (fun _ => 0) 0 (B + 1 + 1)) :: mkN (B + 1)) at84_14 hB rfl rfl (gw_al0 at84_17 (gw_mO at84_18 hB 13 (((16, 0, va_up (fun _ => 0) 0 (B + 1 + 1)) :: mkN (B + 1)) ++ [(17, 0, fun _ => 0)]) (w + (18 + 109) + 12) rfl (hF _ (by omega) (by omega)) rfl rfl (gw_dupr at84_21 (gw_al1 at84_22 ?_))))))))
  rw [← gM_app]
  refine gw_call2 at84_23 (c_i7 (B := B + 13) (n := B + 1) (by rw [gM_nx, hB]; show _ + 13 = _ + (_ + 13); omega) (fun i h1 h2 => by rw [gM_out (Or.inr (by rw [← hB]; show B + 13 ≤ _; omega)), show B + 13 + i = B + (13 + i) by omega]; exact hF _ (by omega) (by omega)) (gM_tag (i := 1) hB rfl) (by omega) (RG_gz f2)) (by omega) (Nat.le_of_ble_eq_true rfl) (fun o M1 q23 => ?_)
  obtain ⟨rfl, c2, J2, rfl, g1, g2, g3⟩ := q23
  rw [gM_app]
  show gw _ _ _ _ _ (.ref (B + 13) :: _) _ _
  refine gw_mR (i := 0) ((16, 0, va_up (va_up (fun _ => 0) 0 (B + 1 + 1)) 1 (B + 13 + 1)) :: (mkN (B + 1) ++ mkW (B + 13) (B + 1))) at84_26 hB rfl rfl (gw_rv at84_29 am_r84.2.1 ⟨rfl, ?_⟩)
  refine ⟨_, _, rfl, g2, fun k hk => ?_⟩
  have a1 := g3 k (by omega)
  have a2 := f3 k (by omega)
  rw [a1.1, a1.2]
  refine ⟨funext fun j => ?_, funext fun j => ?_⟩
  · rw [gz_k (by omega), a2.1, gz_k (by omega)]
  · rw [gz_k (by omega), a2.2, gz_k (by omega)]
