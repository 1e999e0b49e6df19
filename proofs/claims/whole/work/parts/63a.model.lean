/-! the reference: the greedy tour -/
def gtq (y : gC) (q : Int) : Int := clrs (fun k => y 200004 k) q (y 500001 7)
/-- the tour from a node, behind an arc, with what it cost and what is still to do -/
def grr : Nat → Int → Int → Int → Int → gC → Int × gC
  | 0, _, _, _, _, m => (-1, m)
  | n + 1, x, l, s, q, m => if q = 0 then (if x = m 200000 2 then s else mtl (s + mcf m 200000 x l (24 + m 200000 2)), m) else if 1000000000 ≤ (mcf m 200000 x l (gbt m 200000 x l q)) then (-1, m) else grr n (men m 200000 (gbt m 200000 x l q)) (gbt m 200000 x l q) (s + (mcf m 200000 x l (gbt m 200000 x l q))) (gtq (lrt m 200000 x l (gbt m 200000 x l q) 24).2 q) (lrt m 200000 x l (gbt m 200000 x l q) 24).2
theorem grr_0 {n : Nat} {x l s q : Int} {m : gC} (h : q = 0) : grr (n + 1) x l s q m = (if x = m 200000 2 then s else mtl (s + mcf m 200000 x l (24 + m 200000 2)), m) := if_pos h
theorem grr_1 {n : Nat} {x l s q : Int} {m : gC} (h : ¬ q = 0) (h2 : 1000000000 ≤ (mcf m 200000 x l (gbt m 200000 x l q))) : grr (n + 1) x l s q m = (-1, m) := by
  show (if q = 0 then _ else if 1000000000 ≤ (mcf m 200000 x l (gbt m 200000 x l q)) then _ else _) = _
  rw [if_neg h, if_pos h2]
theorem grr_2 {n : Nat} {x l s q : Int} {m : gC} (h : ¬ q = 0) (h2 : ¬ 1000000000 ≤ (mcf m 200000 x l (gbt m 200000 x l q))) : grr (n + 1) x l s q m = grr n (men m 200000 (gbt m 200000 x l q)) (gbt m 200000 x l q) (s + (mcf m 200000 x l (gbt m 200000 x l q))) (gtq (lrt m 200000 x l (gbt m 200000 x l q) 24).2 q) (lrt m 200000 x l (gbt m 200000 x l q) 24).2 := by
  show (if q = 0 then _ else if 1000000000 ≤ (mcf m 200000 x l (gbt m 200000 x l q)) then _ else _) = _
  rw [if_neg h, if_neg h2]
set_option maxHeartbeats 1000000 in
theorem m_gr135 {d g : Nat} {T : gT} {J : gC} (hd : 2 ≤ d) {m y : gC} {z q x l s e w : Int} {u8 : Value} {Q : am_O → am_M → Prop} (hM : MT T 200000) (hV : NW m 200000) (y1 : RG y) (yb : y 200000 = m 200000) (y4 : 0 ≤ y 500001 7 ∧ y 500001 7 ≤ 24) (y5 : ∀ j, 0 ≤ j → j < y 500001 7 → 0 ≤ y 200004 j ∧ y 200004 j < 24) (he : 0 ≤ e ∧ e < 24) (h2 : gw d g 246 36 [.ref 500001, gi z, gi (gtq y q), gi (men m 200000 e), gi e, gi s, gi e, gi w, gi (y 500001 7)] [] (gm T y J) Q) : gw d g 246 135 [.ref 500001, gi z, gi q, gi x, gi l, gi s, gi e, gi w, u8] [] (gm T y J) (Q) := by
  refine gw_const at246_135 (gw_is8 at246_136 (h := ?_))
  have lp138 : ∀ i : Int, 0 ≤ i → i ≤ 24 → i ≤ y 500001 7 → gw d g 246 138 [.ref 500001, gi z, gi (clrs (fun k => y 200004 k) q i), gi x, gi l, gi s, gi e, gi w, gi i] [] (gm T y J) Q := by
    refine ind_up 24 ?_
    intro i hi0 hi1 ih hi2
    refine gw_il8 at246_138 ?_
    refine gw_al0 at246_140 (gw_gf (j := 7) at246_141 (by first | exact MT_0 hM | exact MT_now hM | exact MT_bt hM | exact MT_bl hM | exact MT_r0 hM | exact MT_t0 hM | exact MT_l0 hM | exact MT_r1 hM | exact MT_t1 hM | exact MT_l1 hM | exact MT_r2 hM | exact MT_t2 hM | exact MT_l2 hM | exact MT_r3 hM | exact MT_t3 hM | exact MT_l3 hM | exact MT_r4 hM | exact MT_t4 hM | exact MT_l4 hM | exact MT_r5 hM | exact MT_t5 hM | exact MT_l5 hM | exact MT_r6 hM | exact MT_t6 hM | exact MT_l6 hM | exact MT_r7 hM | exact MT_t7 hM | exact MT_l7 hM | exact MT_r8 hM | exact MT_t8 hM | exact MT_l8 hM | exact MT_r9 hM | exact MT_t9 hM | exact MT_l9 hM | exact MT_r10 hM | exact MT_t10 hM | exact MT_l10 hM) rfl ?_)
    refine gw_cge at246_144 (by first | omega | exact y1 _ _) (by first | omega | exact y1 _ _) (fun q144 => ?_) (fun q144 => ?_)
    · have ei : i = y 500001 7 := by omega
      rw [ei]
      refine gw_il6 at246_167 (gw_is4 at246_169 (h := (gw_al0 at246_171 (gw_il6 at246_172 (gw_callP2 at246_174 (m_endOf hM y1 (NW_of hV yb) he) (by omega) (Nat.le_of_ble_eq_true rfl) ?_)))))
      rw [men_o yb]
      refine gw_is3 at246_177 (h := (gw_goto at246_178 ?_))
      exact h2
    · refine gw_il2 at246_147 (gw_const at246_148 (gw_al0 at246_149 (gw_gr at246_150 (by first | exact MT_0 hM | exact MT_now hM | exact MT_bt hM | exact MT_bl hM | exact MT_r0 hM | exact MT_t0 hM | exact MT_l0 hM | exact MT_r1 hM | exact MT_t1 hM | exact MT_l1 hM | exact MT_r2 hM | exact MT_t2 hM | exact MT_l2 hM | exact MT_r3 hM | exact MT_t3 hM | exact MT_l3 hM | exact MT_r4 hM | exact MT_t4 hM | exact MT_l4 hM | exact MT_r5 hM | exact MT_t5 hM | exact MT_l5 hM | exact MT_r6 hM | exact MT_t6 hM | exact MT_l6 hM | exact MT_r7 hM | exact MT_t7 hM | exact MT_l7 hM | exact MT_r8 hM | exact MT_t8 hM | exact MT_l8 hM | exact MT_r9 hM | exact MT_t9 hM | exact MT_l9 hM | exact MT_r10 hM | exact MT_t10 hM | exact MT_l10 hM) (by first | exact MT_0 hM | exact MT_now hM | exact MT_bt hM | exact MT_bl hM | exact MT_r0 hM | exact MT_t0 hM | exact MT_l0 hM | exact MT_r1 hM | exact MT_t1 hM | exact MT_l1 hM | exact MT_r2 hM | exact MT_t2 hM | exact MT_l2 hM | exact MT_r3 hM | exact MT_t3 hM | exact MT_l3 hM | exact MT_r4 hM | exact MT_t4 hM | exact MT_l4 hM | exact MT_r5 hM | exact MT_t5 hM | exact MT_l5 hM | exact MT_r6 hM | exact MT_t6 hM | exact MT_l6 hM | exact MT_r7 hM | exact MT_t7 hM | exact MT_l7 hM | exact MT_r8 hM | exact MT_t8 hM | exact MT_l8 hM | exact MT_r9 hM | exact MT_t9 hM | exact MT_l9 hM | exact MT_r10 hM | exact MT_t10 hM | exact MT_l10 hM) (gw_il8 at246_153 (gw_ia at246_155 (by first | exact Or.inl (by first | exact MT_0 hM | exact MT_now hM | exact MT_bt hM | exact MT_bl hM | exact MT_r0 hM | exact MT_t0 hM | exact MT_l0 hM | exact MT_r1 hM | exact MT_t1 hM | exact MT_l1 hM | exact MT_r2 hM | exact MT_t2 hM | exact MT_l2 hM | exact MT_r3 hM | exact MT_t3 hM | exact MT_l3 hM | exact MT_r4 hM | exact MT_t4 hM | exact MT_l4 hM | exact MT_r5 hM | exact MT_t5 hM | exact MT_l5 hM | exact MT_r6 hM | exact MT_t6 hM | exact MT_l6 hM | exact MT_r7 hM | exact MT_t7 hM | exact MT_l7 hM | exact MT_r8 hM | exact MT_t8 hM | exact MT_l8 hM | exact MT_r9 hM | exact MT_t9 hM | exact MT_l9 hM | exact MT_r10 hM | exact MT_t10 hM | exact MT_l10 hM) | exact Or.inr (by first | exact MT_0 hM | exact MT_now hM | exact MT_bt hM | exact MT_bl hM | exact MT_r0 hM | exact MT_t0 hM | exact MT_l0 hM | exact MT_r1 hM | exact MT_t1 hM | exact MT_l1 hM | exact MT_r2 hM | exact MT_t2 hM | exact MT_l2 hM | exact MT_r3 hM | exact MT_t3 hM | exact MT_l3 hM | exact MT_r4 hM | exact MT_t4 hM | exact MT_l4 hM | exact MT_r5 hM | exact MT_t5 hM | exact MT_l5 hM | exact MT_r6 hM | exact MT_t6 hM | exact MT_l6 hM | exact MT_r7 hM | exact MT_t7 hM | exact MT_l7 hM | exact MT_r8 hM | exact MT_t8 hM | exact MT_l8 hM | exact MT_r9 hM | exact MT_t9 hM | exact MT_l9 hM | exact MT_r10 hM | exact MT_t10 hM | exact MT_l10 hM)) (by first | exact MT_0 hM | exact MT_now hM | exact MT_bt hM | exact MT_bl hM | exact MT_r0 hM | exact MT_t0 hM | exact MT_l0 hM | exact MT_r1 hM | exact MT_t1 hM | exact MT_l1 hM | exact MT_r2 hM | exact MT_t2 hM | exact MT_l2 hM | exact MT_r3 hM | exact MT_t3 hM | exact MT_l3 hM | exact MT_r4 hM | exact MT_t4 hM | exact MT_l4 hM | exact MT_r5 hM | exact MT_t5 hM | exact MT_l5 hM | exact MT_r6 hM | exact MT_t6 hM | exact MT_l6 hM | exact MT_r7 hM | exact MT_t7 hM | exact MT_l7 hM | exact MT_r8 hM | exact MT_t8 hM | exact MT_l8 hM | exact MT_r9 hM | exact MT_t9 hM | exact MT_l9 hM | exact MT_r10 hM | exact MT_t10 hM | exact MT_l10 hM) (by first | omega | exact y1 _ _) (by first | omega | exact y1 _ _) (by omega) (gw_ishl at246_156 (gw_const at246_157 (gw_ixor at246_158 (gw_iand at246_159 (gw_is2 at246_160 (h := (gw_inc8 at246_161 (h := (gw_goto at246_164 ?_))))))))))))))
      have h9 := ih (i + 1) (by omega) (by omega) (by omega)
      unfold clrs at h9
      rw [itI_s _ _ hi0] at h9
      exact h9
  exact lp138 0 (by decide) (by decide) y4.1
set_option maxHeartbeats 1000000 in
theorem m_gr40 {d g : Nat} {T : gT} {J : gC} (hd : 7 ≤ d) {m : gC} {z q x l s : Int} {u6 u7 u8 : Value} {Q : am_O → am_M → Prop} (hM : MT T 200000) (hG : RG m) (hV : NW m 200000) (hL : LR m) (hO : ∀ e, 0 ≤ e → e < 24 → tb q e = true → LO m 200000 e) (hq : 0 ≤ q ∧ q < 16777216) (hq0 : ¬ q = 0) (hx : -2147483648 ≤ x ∧ x < 2147483648) (hl : -1 ≤ l ∧ l < 24) (h1 : 1000000000 ≤ (mcf m 200000 x l (gbt m 200000 x l q)) → Q (.inl (some (gi (-1)))) (gm T m J)) (h2 : (mcf m 200000 x l (gbt m 200000 x l q)) < 1000000000 → gw d g 246 36 [.ref 500001, gi z, gi (gtq (lrt m 200000 x l (gbt m 200000 x l q) 24).2 q), gi (men m 200000 (gbt m 200000 x l q)), gi (gbt m 200000 x l q), gi (s + (mcf m 200000 x l (gbt m 200000 x l q))), gi (gbt m 200000 x l q), gi (mcf m 200000 x l (gbt m 200000 x l q)), gi ((lrt m 200000 x l (gbt m 200000 x l q) 24).2 500001 7)] [] (gm T (lrt m 200000 x l (gbt m 200000 x l q) 24).2 J) Q) (hu8 : am_nl u8 = true) : gw d g 246 40 [.ref 500001, gi z, gi q, gi x, gi l, gi s, u6, u7, u8] [] (gm T m J) (Q) := by
  obtain ⟨e1, e2⟩ := gbt_ok (c := m) (b := 200000) (n := x) (l := l) hq hq0
  have w1 := mcf_rg (n := x) (l := l) (g := (gbt m 200000 x l q)) hV hL e1.1
  have r9 : (gbt m 200000 x l q) = itI (gbf m 200000 x l q) (-1) 24 := rfl
  refine gw_const at246_40 (gw_is6 at246_41 (h := (gw_const at246_43 (gw_is7 at246_44 (h := ?_)))))
  have lp46 : ∀ k : Int, 0 ≤ k → k ≤ 24 → gw d g 246 46 [.ref 500001, gi z, gi q, gi x, gi l, gi s, gi (itI (gbf m 200000 x l q) (-1) k), gi k, u8] [] (gm T m J) Q := by
    refine ind_up 24 ?_
    intro k hk0 hk1 ih
    have gk := (gbf_ok (c := m) (b := 200000) (n := x) (l := l) (q := q) hk0).1
    refine gw_il7 at246_46 ?_
    refine gw_bip at246_48 (by decide) ?_
    refine gw_cge at246_50 (by first | omega | exact hG _ _ | exact y1 _ _) (by first | omega | exact hG _ _ | exact y1 _ _) (fun q50 => ?_) (fun q50 => ?_)
    · have ek : k = 24 := by omega
      subst ek
      rw [← r9]
      refine gw_al0 at246_99 (gw_il3 at246_100 (gw_il4 at246_101 (gw_il6 at246_103 (gw_callP4 at246_105 (m_costFrom hM hG hV hL hx hl (by omega)) (by omega) (Nat.le_of_ble_eq_true rfl) (gw_is7 at246_108 (h := (gw_il7 at246_110 (gw_ldc (z := 1000000000) at246_112 (by decide) ?_))))))))
      refine gw_clt at246_114 (by first | omega | exact hG _ _ | exact y1 _ _) (by first | omega | exact hG _ _ | exact y1 _ _) (fun q114 => ?_) (fun q114 => ?_)
      · have y0 : (mcf m 200000 x l (gbt m 200000 x l q)) < 1000000000 := by omega
        have hO9 := hO _ e1.1 e1.2 e2
        obtain ⟨y1, y2, y3, y4, y5⟩ := lrt_24 hG hV hL e1.1 hO9 hx hl y0
        have yb : (lrt m 200000 x l (gbt m 200000 x l q) 24).2 200000 = m 200000 := y2 200000 (by decide) (by decide)
        have hp9 := mcf_pos (n := x) (l := l) hV hL e1.1 hO9
        refine gw_il5 at246_119 (gw_il7 at246_121 (gw_iadd at246_123 (gw_is5 at246_124 (h := (gw_al0 at246_126 (gw_il3 at246_127 (gw_il4 at246_128 (gw_il6 at246_130 ?_))))))))
        refine gw_call4 at246_132 (m_layRoute hM hG hV hL hx hl (by omega) hO9 y0 hp9) (by omega) (Nat.le_of_ble_eq_true rfl) (fun o M1 q132 => ?_)
        obtain ⟨rfl, rfl⟩ := q132
        show gw _ _ _ _ _ [] _ _
        exact m_gr135 (by omega) hM hV y1 yb y4 (fun j a b => (y5 j a b).2) e1 (h2 y0)
      · refine gw_const at246_117 (gw_ri at246_118 am_r246.2.1 ?_)
        exact h1 (by omega)
    · refine gw_il2 at246_53 (gw_il7 at246_54 (gw_callP2 at246_56 (m_hasBit) (by omega) (Nat.le_of_ble_eq_true rfl) ?_))
      refine gw_beq at246_59 (fun q59 => ?_) (fun q59 => ?_)
      · refine gw_inc7 at246_93 (h := (gw_goto at246_96 ?_))
        have h9 := ih (k + 1) (by omega) (by omega)
        rw [itI_s _ _ hk0] at h9
        first
        | (rw [gbf_a q59] at h9; exact h9)
        | (rw [gbf_b q59 (Or.inl (by omega))] at h9; exact h9)
        | (rw [gbf_b q59 (Or.inr (by omega))] at h9; exact h9)
        | (rw [gbf_d (by omega)] at h9; exact h9)
      · refine gw_il6 at246_62 (gw_const at246_64 ?_)
        refine gw_ceq at246_65 (by first | omega | exact hG _ _ | exact y1 _ _) (by first | omega | exact hG _ _ | exact y1 _ _) (fun q65 => ?_) (fun q65 => ?_)
        · refine gw_il7 at246_89 (gw_is6 at246_91 (h := (gw_inc7 at246_93 (h := (gw_goto at246_96 ?_)))))
          have h9 := ih (k + 1) (by omega) (by omega)
          rw [itI_s _ _ hk0] at h9
          first
          | (rw [gbf_a q59] at h9; exact h9)
          | (rw [gbf_b q59 (Or.inl (by omega))] at h9; exact h9)
          | (rw [gbf_b q59 (Or.inr (by omega))] at h9; exact h9)
          | (rw [gbf_d (by omega)] at h9; exact h9)
        · refine gw_al0 at246_68 (gw_il3 at246_69 (gw_il4 at246_70 (gw_il7 at246_72 ?_)))
          have m1 := mcf_rg (n := x) (l := l) (g := k) hV hL hk0
          refine gw_callP4 at246_74 (m_costFrom hM hG hV hL hx hl (by omega)) (by omega) (Nat.le_of_ble_eq_true rfl) (gw_al0 at246_77 (gw_il3 at246_78 (gw_il4 at246_79 (gw_il6 at246_81 ?_))))
          have m2 := mcf_rg (n := x) (l := l) (g := (itI (gbf m 200000 x l q) (-1) k)) hV hL (by omega)
          refine gw_callP4 at246_83 (m_costFrom hM hG hV hL hx hl (by omega)) (by omega) (Nat.le_of_ble_eq_true rfl) ?_
          refine gw_cge at246_86 (by first | omega | exact hG _ _ | exact y1 _ _) (by first | omega | exact hG _ _ | exact y1 _ _) (fun q86 => ?_) (fun q86 => ?_)
          · refine gw_inc7 at246_93 (h := (gw_goto at246_96 ?_))
            have h9 := ih (k + 1) (by omega) (by omega)
            rw [itI_s _ _ hk0] at h9
            first
            | (rw [gbf_a q59] at h9; exact h9)
            | (rw [gbf_b q59 (Or.inl (by omega))] at h9; exact h9)
            | (rw [gbf_b q59 (Or.inr (by omega))] at h9; exact h9)
            | (rw [gbf_d (by omega)] at h9; exact h9)
          · refine gw_il7 at246_89 (gw_is6 at246_91 (h := (gw_inc7 at246_93 (h := (gw_goto at246_96 ?_)))))
            have h9 := ih (k + 1) (by omega) (by omega)
            rw [itI_s _ _ hk0] at h9
            first
            | (rw [gbf_a q59] at h9; exact h9)
            | (rw [gbf_b q59 (Or.inl (by omega))] at h9; exact h9)
            | (rw [gbf_b q59 (Or.inr (by omega))] at h9; exact h9)
            | (rw [gbf_d (by omega)] at h9; exact h9)
  exact lp46 0 (by decide) (by decide)
