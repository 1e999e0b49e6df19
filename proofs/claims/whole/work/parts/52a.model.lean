/-! the reference: an empty network; the world begins -/
def gzr (c : gC) (b : Nat) (i : Int) : gC := fun k j => if k = b ∧ 0 ≤ j ∧ j < i then 0 else c k j
theorem gzr_0 {c : gC} {b : Nat} : gzr c b 0 = c := funext fun k => funext fun j => if_neg fun h => by omega
theorem gzr_s {c : gC} {b : Nat} {i : Int} (h : 0 ≤ i) : gu (gzr c b i) b i 0 = gzr c b (i + 1) := by
  funext k j
  unfold gu gzr
  by_cases e : k = b
  · by_cases e2 : j = i
    · rw [if_pos ⟨e, e2⟩, if_pos ⟨e, by omega, by omega⟩]
    · rw [if_neg fun x => e2 x.2]
      by_cases e3 : 0 ≤ j ∧ j < i
      · rw [if_pos ⟨e, e3⟩, if_pos ⟨e, by omega, by omega⟩]
      · rw [if_neg fun x => e3 x.2, if_neg fun x => by omega]
  · rw [if_neg fun x => e x.1, if_neg fun x => e x.1, if_neg fun x => e x.1]
theorem gzr_k {c : gC} {b k : Nat} {i : Int} (h : ¬ k = b) : gzr c b i k = c k := funext fun j => if_neg fun x => h x.1
theorem gzr_v {c : gC} {b : Nat} {i j : Int} (h : 0 ≤ j ∧ j < i) : gzr c b i b j = 0 := if_pos ⟨rfl, h⟩
theorem gzr_RG {c : gC} {b : Nat} {i : Int} (h : RG c) : RG (gzr c b i) := fun k j => by
  unfold gzr
  split
  · decide
  · exact h k j
def mclr (c : gC) (b : Nat) : gC := (gu (gu (gu (gu (gu (gu (gu (gu (gu (gu (gu (gzr c b 208) b 2 (-1)) b 3 500) b 6 (-1)) b 7 (-1)) b 8 500) b 12 2) b 13 5) b 14 20) b 15 20) b 16 10) b 17 5)
def mbeg1 (b : Nat) (c : gC) : gC := if c b 2 = -1 ∧ 0 < c b 0 then gu c b 2 0 else c
def mbeg2 (b : Nat) (c : gC) : gC := gu (gu c b 6 (c b 2)) b 8 (c b 3)
def mbg3 (b : Nat) (a : Int) (m : gC) : gC := if mhA m b a = true then gu m b (136 + 3 * a + 0) (m b (52 + 7 * (a / 2) + 6)) else m
def mbeg (b : Nat) (c : gC) : gC := itI (mbg3 b) (mbeg2 b (mbeg1 b c)) 24
theorem mclr_k {c : gC} {b k : Nat} (h : ¬ k = b) : mclr c b k = c k := by
  unfold mclr
  funext j
  rw [gu_k h, gu_k h, gu_k h, gu_k h, gu_k h, gu_k h, gu_k h, gu_k h, gu_k h, gu_k h, gu_k h, gzr_k h]
theorem mclr_RG {c : gC} {b : Nat} (h : RG c) : RG (mclr c b) := by
  unfold mclr
  exact RG_gu (RG_gu (RG_gu (RG_gu (RG_gu (RG_gu (RG_gu (RG_gu (RG_gu (RG_gu (RG_gu (gzr_RG h) (by decide)) (by decide)) (by decide)) (by decide)) (by decide)) (by decide)) (by decide)) (by decide)) (by decide)) (by decide)) (by decide)
set_option maxHeartbeats 1000000 in
theorem m_clear {g : Nat} {T : gT} {c J : gC} {b : Nat} (hT : (T.1 b).1 = 1 ∧ (T.1 b).2.1 = 208) : gE g 182 0 [.ref b] (gm T c J) (fun o M1 => o = .inl none ∧ M1 = gm T (mclr c b) J) := by
  refine gE_mk am_r182 rfl (Or.inl rfl) (fun d hd => ?_)
  show gw d g 182 0 [.ref b, am_U] [] _ _
  refine gw_const at182_0 (gw_is1 at182_1 (h := ?_))
  have lp2 : ∀ i : Int, 0 ≤ i → i ≤ 208 → gw d g 182 2 [.ref b, gi i] [] (gm T (gzr c b i) J) (fun o M1 => o = .inl none ∧ M1 = gm T (mclr c b) J) := by
    refine ind_up 208 ?_
    intro i hi0 hi1 ih
    refine gw_il1 at182_2 ?_
    refine gw_sip at182_3 (by decide) ?_
    refine gw_cge at182_6 (by first | omega | decide) (by first | omega | decide) (fun q6 => ?_) (fun q6 => ?_)
    · refine gw_al0 at182_19 (gw_const at182_20 (gw_const at182_21 (gw_iw at182_22 (by first | exact hT.1 | exact hT.2) (by first | exact hT.1 | exact hT.2) (by first | omega | decide) (by first | omega | decide) (by omega) (gw_al0 at182_23 (gw_const at182_24 (gw_sip at182_25 (by decide) (gw_iw at182_28 (by first | exact hT.1 | exact hT.2) (by first | exact hT.1 | exact hT.2) (by first | omega | decide) (by first | omega | decide) (by omega) (gw_al0 at182_29 (gw_bip at182_30 (by decide) (gw_const at182_32 (gw_iw at182_33 (by first | exact hT.1 | exact hT.2) (by first | exact hT.1 | exact hT.2) (by first | omega | decide) (by first | omega | decide) (by omega) (gw_al0 at182_34 (gw_bip at182_35 (by decide) (gw_const at182_37 (gw_iw at182_38 (by first | exact hT.1 | exact hT.2) (by first | exact hT.1 | exact hT.2) (by first | omega | decide) (by first | omega | decide) (by omega) (gw_al0 at182_39 (gw_bip at182_40 (by decide) (gw_sip at182_42 (by decide) (gw_iw at182_45 (by first | exact hT.1 | exact hT.2) (by first | exact hT.1 | exact hT.2) (by first | omega | decide) (by first | omega | decide) (by omega) (gw_al0 at182_46 (gw_bip at182_47 (by decide) (gw_const at182_49 (gw_iw at182_50 (by first | exact hT.1 | exact hT.2) (by first | exact hT.1 | exact hT.2) (by first | omega | decide) (by first | omega | decide) (by omega) (gw_al0 at182_51 (gw_bip at182_52 (by decide) (gw_const at182_54 (gw_iw at182_55 (by first | exact hT.1 | exact hT.2) (by first | exact hT.1 | exact hT.2) (by first | omega | decide) (by first | omega | decide) (by omega) (gw_al0 at182_56 (gw_bip at182_57 (by decide) (gw_bip at182_59 (by decide) (gw_iw at182_61 (by first | exact hT.1 | exact hT.2) (by first | exact hT.1 | exact hT.2) (by first | omega | decide) (by first | omega | decide) (by omega) (gw_al0 at182_62 (gw_bip at182_63 (by decide) (gw_bip at182_65 (by decide) (gw_iw at182_67 (by first | exact hT.1 | exact hT.2) (by first | exact hT.1 | exact hT.2) (by first | omega | decide) (by first | omega | decide) (by omega) (gw_al0 at182_68 (gw_bip at182_69 (by decide) (gw_bip at182_71 (by decide) (gw_iw at182_73 (by first | exact hT.1 | exact hT.2) (by first | exact hT.1 | exact hT.2) (by first | omega | decide) (by first | omega | decide) (by omega) (gw_al0 at182_74 (gw_bip at182_75 (by decide) (gw_const at182_77 (gw_iw at182_78 (by first | exact hT.1 | exact hT.2) (by first | exact hT.1 | exact hT.2) (by first | omega | decide) (by first | omega | decide) (by omega) (gw_rv at182_79 am_r182.2.1 ⟨rfl, ?_⟩))))))))))))))))))))))))))))))))))))))))))))
      have e : i = 208 := by omega
      rw [e]
      rfl
    · refine gw_al0 at182_9 (gw_il1 at182_10 (gw_const at182_11 (gw_iw at182_12 (by first | exact hT.1 | exact hT.2) (by first | exact hT.1 | exact hT.2) (by first | omega | decide) (by first | omega | decide) (by omega) (gw_inc1 at182_13 (h := (gw_goto at182_16 ?_))))))
      have h9 := ih (i + 1) (by omega) (by omega)
      rw [← gzr_s hi0] at h9
      exact h9
  have h9 := lp2 0 (by decide) (by decide)
  rw [gzr_0] at h9
  exact h9
