/-! the class: the network is written -/
def wnt (c : gC) : gC := txt 100030 11 (P1 100034 100030 7 (txt 100030 18 (wsn 100014 100030 (wse 100014 100030 (wro 100014 100030 (wno 100014 100030 (gu c 100030 1 0)))))))
theorem wno_ok {c m : gC} {k b : Nat} (h : WOK c b m) : WOK c b (wno k b m) := wi _ h (fun _ _ h => wnf_ok h) _
theorem wro_ok {c m : gC} {k b : Nat} (h : WOK c b m) : WOK c b (wro k b m) := wi _ h (fun _ _ h => wdf_ok h) _
theorem wsn_ok {c m : gC} {k b : Nat} (h : WOK c b m) : WOK c b (wsn k b m) := wi _ h (fun _ _ h => wsf_ok h) _
set_option maxHeartbeats 1000000 in
theorem c_x_write {g : Nat} {T : gT} {c J : gC} (hX : XT T) (hT : NT T 100014) (hW : WT T 100034) (hB : BT T 100030) (hL : LT T c) (hc : RG c) (hN : NR c 100014) (hM : NM c 100014) (hF : 0 ≤ c 100014 4) (hsn : ∀ i : Int, 0 ≤ i → i < 12 → 0 ≤ c (100014 + 9) i) (hw7 : 0 ≤ c 100034 7) : gE g 159 7 [.ref 500000] (gm T c J) (fun o M1 => o = .inl (some (gi (wnt c 100030 1))) ∧ M1 = gm T (wnt c) J) := by
  have o0 : WOK c 100030 (gu c 100030 1 0) := ⟨RG_gu hc (by omega), ⟨by rw [gu_s]; omega, by rw [gu_s]; omega⟩, fun x h1 h2 j => gu_k h1⟩
  refine gE_mk am_r159 rfl (Or.inr ⟨_, rfl, (by first | exact XT_0 hX | exact XT_r1 hX | exact XT_r4 hX | exact XT_r5 hX | exact hB.1 | exact WT_0 hW)⟩) (fun d hd => ?_)
  show gw d g 159 0 [.ref 500000] [] _ _
  refine gw_al0 at159_0 (gw_gr at159_1 (by first | exact XT_0 hX | exact XT_r1 hX | exact XT_r4 hX | exact XT_r5 hX | exact hB.1 | exact WT_0 hW) (by first | exact XT_0 hX | exact XT_r1 hX | exact XT_r4 hX | exact XT_r5 hX | exact hB.1 | exact WT_0 hW) (gw_const at159_4 (gw_pf (j := 1) at159_5 (by first | exact XT_0 hX | exact XT_r1 hX | exact XT_r4 hX | exact XT_r5 hX | exact hB.1 | exact WT_0 hW) rfl (gw_al0 at159_8 (gw_gr at159_9 (by first | exact XT_0 hX | exact XT_r1 hX | exact XT_r4 hX | exact XT_r5 hX | exact hB.1 | exact WT_0 hW) (by first | exact XT_0 hX | exact XT_r1 hX | exact XT_r4 hX | exact XT_r5 hX | exact hB.1 | exact WT_0 hW) (gw_al0 at159_12 (gw_gr at159_13 (by first | exact XT_0 hX | exact XT_r1 hX | exact XT_r4 hX | exact XT_r5 hX | exact hB.1 | exact WT_0 hW) (by first | exact XT_0 hX | exact XT_r1 hX | exact XT_r4 hX | exact XT_r5 hX | exact hB.1 | exact WT_0 hW) ?_)))))))
  refine gw_call2 at159_16 (c_wno hT (by omega) (Or.inr (by omega)) hB (LT_W (by omega) hL o0) o0.1 o0.2.1 (wNR (Or.inr (by omega)) hN o0) (wNM (Or.inr (by omega)) hM o0)) (by omega) (Nat.le_of_ble_eq_true rfl) (fun o M1 q16 => ?_)
  obtain ⟨rfl, rfl⟩ := q16
  show gw _ _ _ _ _ [] (gm T (wno 100014 100030 (gu c 100030 1 0)) J) _
  have o1 : WOK c 100030 (wno 100014 100030 (gu c 100030 1 0)) := wno_ok o0
  refine gw_al0 at159_19 (gw_gr at159_20 (by first | exact XT_0 hX | exact XT_r1 hX | exact XT_r4 hX | exact XT_r5 hX | exact hB.1 | exact WT_0 hW) (by first | exact XT_0 hX | exact XT_r1 hX | exact XT_r4 hX | exact XT_r5 hX | exact hB.1 | exact WT_0 hW) (gw_al0 at159_23 (gw_gr at159_24 (by first | exact XT_0 hX | exact XT_r1 hX | exact XT_r4 hX | exact XT_r5 hX | exact hB.1 | exact WT_0 hW) (by first | exact XT_0 hX | exact XT_r1 hX | exact XT_r4 hX | exact XT_r5 hX | exact hB.1 | exact WT_0 hW) ?_)))
  refine gw_call2 at159_27 (c_wro hT (by omega) (Or.inr (by omega)) hB (LT_W (by omega) hL o1) o1.1 o1.2.1 (wNR (Or.inr (by omega)) hN o1) (wNM (Or.inr (by omega)) hM o1)) (by omega) (Nat.le_of_ble_eq_true rfl) (fun o M1 q27 => ?_)
  obtain ⟨rfl, rfl⟩ := q27
  show gw _ _ _ _ _ [] (gm T (wro 100014 100030 (wno 100014 100030 (gu c 100030 1 0))) J) _
  have o2 : WOK c 100030 (wro 100014 100030 (wno 100014 100030 (gu c 100030 1 0))) := wro_ok o1
  refine gw_al0 at159_30 (gw_gr at159_31 (by first | exact XT_0 hX | exact XT_r1 hX | exact XT_r4 hX | exact XT_r5 hX | exact hB.1 | exact WT_0 hW) (by first | exact XT_0 hX | exact XT_r1 hX | exact XT_r4 hX | exact XT_r5 hX | exact hB.1 | exact WT_0 hW) (gw_al0 at159_34 (gw_gr at159_35 (by first | exact XT_0 hX | exact XT_r1 hX | exact XT_r4 hX | exact XT_r5 hX | exact hB.1 | exact WT_0 hW) (by first | exact XT_0 hX | exact XT_r1 hX | exact XT_r4 hX | exact XT_r5 hX | exact hB.1 | exact WT_0 hW) ?_)))
  refine gw_call2 at159_38 (c_wse hT (by omega) (Or.inr (by omega)) hB (LT_W (by omega) hL o2) o2.1 o2.2.1 (wNR (Or.inr (by omega)) hN o2) (wNM (Or.inr (by omega)) hM o2) (by rw [o2.2.2 100014 (by omega) (by omega)]; exact hF)) (by omega) (Nat.le_of_ble_eq_true rfl) (fun o M1 q38 => ?_)
  obtain ⟨rfl, rfl⟩ := q38
  show gw _ _ _ _ _ [] (gm T (wse 100014 100030 (wro 100014 100030 (wno 100014 100030 (gu c 100030 1 0)))) J) _
  have o3 : WOK c 100030 (wse 100014 100030 (wro 100014 100030 (wno 100014 100030 (gu c 100030 1 0)))) := wse_ok o2
  refine gw_al0 at159_41 (gw_gr at159_42 (by first | exact XT_0 hX | exact XT_r1 hX | exact XT_r4 hX | exact XT_r5 hX | exact hB.1 | exact WT_0 hW) (by first | exact XT_0 hX | exact XT_r1 hX | exact XT_r4 hX | exact XT_r5 hX | exact hB.1 | exact WT_0 hW) (gw_al0 at159_45 (gw_gr at159_46 (by first | exact XT_0 hX | exact XT_r1 hX | exact XT_r4 hX | exact XT_r5 hX | exact hB.1 | exact WT_0 hW) (by first | exact XT_0 hX | exact XT_r1 hX | exact XT_r4 hX | exact XT_r5 hX | exact hB.1 | exact WT_0 hW) ?_)))
  refine gw_call2 at159_49 (c_wsn hT (by omega) (Or.inr (by omega)) hB (LT_W (by omega) hL o3) o3.1 o3.2.1 (wNR (Or.inr (by omega)) hN o3) (wNM (Or.inr (by omega)) hM o3) (fun i a b => by rw [o3.2.2 (100014 + 9) (by omega) (by omega)]; exact hsn i a b)) (by omega) (Nat.le_of_ble_eq_true rfl) (fun o M1 q49 => ?_)
  obtain ⟨rfl, rfl⟩ := q49
  show gw _ _ _ _ _ [] (gm T (wsn 100014 100030 (wse 100014 100030 (wro 100014 100030 (wno 100014 100030 (gu c 100030 1 0))))) J) _
  have o4 : WOK c 100030 (wsn 100014 100030 (wse 100014 100030 (wro 100014 100030 (wno 100014 100030 (gu c 100030 1 0))))) := wsn_ok o3
  refine gw_al0 at159_52 (gw_gr at159_53 (by first | exact XT_0 hX | exact XT_r1 hX | exact XT_r4 hX | exact XT_r5 hX | exact hB.1 | exact WT_0 hW) (by first | exact XT_0 hX | exact XT_r1 hX | exact XT_r4 hX | exact XT_r5 hX | exact hB.1 | exact WT_0 hW) (gw_ldcsw (q := 900018) at159_56 rfl ?_))
  refine gw_call2 at159_59 (c_txt 18 (by omega) hB (by omega) hL o4) (by omega) (Nat.le_of_ble_eq_true rfl) (fun o M1 q59 => ?_)
  obtain ⟨rfl, rfl⟩ := q59
  show gw _ _ _ _ _ [] (gm T (txt 100030 18 (wsn 100014 100030 (wse 100014 100030 (wro 100014 100030 (wno 100014 100030 (gu c 100030 1 0)))))) J) _
  have o5 := wt 18 o4
  refine gw_al0 at159_62 (gw_gr at159_63 (by first | exact XT_0 hX | exact XT_r1 hX | exact XT_r4 hX | exact XT_r5 hX | exact hB.1 | exact WT_0 hW) (by first | exact XT_0 hX | exact XT_r1 hX | exact XT_r4 hX | exact XT_r5 hX | exact hB.1 | exact WT_0 hW) (gw_al0 at159_66 (gw_gr at159_67 (by first | exact XT_0 hX | exact XT_r1 hX | exact XT_r4 hX | exact XT_r5 hX | exact hB.1 | exact WT_0 hW) (by first | exact XT_0 hX | exact XT_r1 hX | exact XT_r4 hX | exact XT_r5 hX | exact hB.1 | exact WT_0 hW) (gw_gf (j := 7) at159_70 (by first | exact XT_0 hX | exact XT_r1 hX | exact XT_r4 hX | exact XT_r5 hX | exact hB.1 | exact WT_0 hW) rfl ?_))))
  refine gw_call2 at159_73 (c_putNumber hB o5.1 o5.2.1 ⟨by rw [o5.2.2 100034 (by omega) (by omega)]; exact hw7, (o5.1 _ _).2⟩) (by omega) (Nat.le_of_ble_eq_true rfl) (fun o M1 q73 => ?_)
  obtain ⟨rfl, rfl⟩ := q73
  show gw _ _ _ _ _ [] (gm T (P1 100034 100030 7 (txt 100030 18 (wsn 100014 100030 (wse 100014 100030 (wro 100014 100030 (wno 100014 100030 (gu c 100030 1 0))))))) J) _
  have o6 : WOK c 100030 (P1 100034 100030 7 (txt 100030 18 (wsn 100014 100030 (wse 100014 100030 (wro 100014 100030 (wno 100014 100030 (gu c 100030 1 0))))))) := wp o5
  refine gw_al0 at159_76 (gw_gr at159_77 (by first | exact XT_0 hX | exact XT_r1 hX | exact XT_r4 hX | exact XT_r5 hX | exact hB.1 | exact WT_0 hW) (by first | exact XT_0 hX | exact XT_r1 hX | exact XT_r4 hX | exact XT_r5 hX | exact hB.1 | exact WT_0 hW) (gw_ldcsw (q := 900011) at159_80 rfl ?_))
  refine gw_call2 at159_83 (c_txt 11 (by omega) hB (by omega) hL o6) (by omega) (Nat.le_of_ble_eq_true rfl) (fun o M1 q83 => ?_)
  obtain ⟨rfl, rfl⟩ := q83
  show gw _ _ _ _ _ [] (gm T (wnt c) J) _
  refine gw_al0 at159_86 (gw_gr at159_87 (by first | exact XT_0 hX | exact XT_r1 hX | exact XT_r4 hX | exact XT_r5 hX | exact hB.1 | exact WT_0 hW) (by first | exact XT_0 hX | exact XT_r1 hX | exact XT_r4 hX | exact XT_r5 hX | exact hB.1 | exact WT_0 hW) (gw_gf (j := 1) at159_90 (by first | exact XT_0 hX | exact XT_r1 hX | exact XT_r4 hX | exact XT_r5 hX | exact hB.1 | exact WT_0 hW) rfl (gw_ri at159_93 am_r159.2.1 ?_)))
  exact ⟨rfl, rfl⟩
