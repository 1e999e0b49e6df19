/-! parser: the next token -/
def ad0 (c : gC) (s : Int) : gC := gu (gu (gu c 100032 6 s) 100032 7 s) 100032 9 (-1)
/-- the token that begins at s -/
def ad1 (c : gC) (s : Int) : gC := if c 100000 1 ≤ s then gu (ad0 c s) 100032 5 0 else if ibt c 97 122 s = true then tkw (ad0 c s) else if ibt c 48 57 s = true then tkn (ad0 c s) else gu (gu (gu (ad0 c s) 100032 5 3) 100032 8 (c 100001 s)) 100032 7 (s + 1)
def bln (c : gC) (e : Int) : Int := rn (ibl c) e
def adv (c : gC) : gC := ad1 c (bln c (c 100032 7))
theorem ad0_k {c : gC} {s : Int} {k : Nat} (h : ¬ k = 100032) : ad0 c s k = c k := by
  funext j
  unfold ad0
  simp (disch := omega) only [gu_k]
theorem ad0_6 {c : gC} {s : Int} : ad0 c s 100032 6 = s := by
  unfold ad0
  simp (disch := omega) only [gu_j, gu_s]
theorem ad0_7 {c : gC} {s : Int} : ad0 c s 100032 7 = s := by
  unfold ad0
  simp (disch := omega) only [gu_j, gu_s]
theorem ad0_9 {c : gC} {s : Int} : ad0 c s 100032 9 = -1 := by
  unfold ad0
  simp (disch := omega) only [gu_j, gu_s]
theorem ad0_RG {c : gC} {s : Int} (hc : RG c) (hs : -2147483648 ≤ s ∧ s < 2147483648) : RG (ad0 c s) := RG_gu (RG_gu (RG_gu hc hs) hs) (by decide)
theorem ad1_e {c : gC} {s : Int} (h : c 100000 1 ≤ s) : ad1 c s = gu (ad0 c s) 100032 5 0 := if_pos h
theorem ad1_w {c : gC} {s : Int} (h : ¬ c 100000 1 ≤ s) (h2 : ibt c 97 122 s = true) : ad1 c s = tkw (ad0 c s) := by unfold ad1; rw [if_neg h, if_pos h2]
theorem ad1_n {c : gC} {s : Int} (h : ¬ c 100000 1 ≤ s) (h2 : ibt c 97 122 s = false) (h3 : ibt c 48 57 s = true) : ad1 c s = tkn (ad0 c s) := by unfold ad1; rw [if_neg h, if_neg (by rw [h2]; exact Bool.false_ne_true), if_pos h3]
theorem ad1_s {c : gC} {s : Int} (h : ¬ c 100000 1 ≤ s) (h2 : ibt c 97 122 s = false) (h3 : ibt c 48 57 s = false) : ad1 c s = gu (gu (gu (ad0 c s) 100032 5 3) 100032 8 (c 100001 s)) 100032 7 (s + 1) := by unfold ad1; rw [if_neg h, if_neg (by rw [h2]; exact Bool.false_ne_true), if_neg (by rw [h3]; exact Bool.false_ne_true)]
set_option maxHeartbeats 1000000 in
theorem c_adv69 {d g : Nat} {T : gT} {c J : gC} (hd : 2 ≤ d) (hA : AT T) (hc : RG c) (hB : BR c 100000) {s : Int} (hs : 0 ≤ s ∧ s ≤ c 100000 1) : gw d g 51 69 [.ref 100032] [] (gm T (gu c 100032 6 s) J) (fun o M1 => o = .inl none ∧ M1 = gm T (ad1 c s) J) := by
  have hb := hB.2
  have h0 : RG (ad0 c s) := ad0_RG hc (by omega)
  have hB0 : BR (ad0 c s) 100000 := by unfold BR; rw [ad0_k (by omega)]; exact hB
  have he : 0 ≤ ad0 c s 100032 7 ∧ ad0 c s 100032 7 ≤ ad0 c s 100000 1 := by rw [ad0_7, ad0_k (by omega)]; omega
  refine gw_al0 at51_69 (gw_al0 at51_70 (gw_gf (j := 6) at51_71 (by first | exact AT_0 hA | exact AT_r0 hA | exact AT_r1 hA | exact AT_r2 hA | exact AT_t hA | exact AT_l hA | exact AT_b0 hA | exact AT_b1 hA | exact AT_b2 hA | exact AT_b3 hA) rfl ?_))
  rw [gu_s]
  refine gw_pf (j := 7) at51_74 (by first | exact AT_0 hA | exact AT_r0 hA | exact AT_r1 hA | exact AT_r2 hA | exact AT_t hA | exact AT_l hA | exact AT_b0 hA | exact AT_b1 hA | exact AT_b2 hA | exact AT_b3 hA) rfl (gw_al0 at51_77 (gw_const at51_78 (gw_pf (j := 9) at51_79 (by first | exact AT_0 hA | exact AT_r0 hA | exact AT_r1 hA | exact AT_r2 hA | exact AT_t hA | exact AT_l hA | exact AT_b0 hA | exact AT_b1 hA | exact AT_b2 hA | exact AT_b3 hA) rfl ?_)))
  show gw _ _ _ _ _ _ (gm T (ad0 c s) J) _
  refine gw_al0 at51_82 (gw_gf (j := 6) at51_83 (by first | exact AT_0 hA | exact AT_r0 hA | exact AT_r1 hA | exact AT_r2 hA | exact AT_t hA | exact AT_l hA | exact AT_b0 hA | exact AT_b1 hA | exact AT_b2 hA | exact AT_b3 hA) rfl ?_)
  rw [ad0_6]
  refine gw_al0 at51_86 (gw_gr at51_87 (by first | exact AT_0 hA | exact AT_r0 hA | exact AT_r1 hA | exact AT_r2 hA | exact AT_t hA | exact AT_l hA | exact AT_b0 hA | exact AT_b1 hA | exact AT_b2 hA | exact AT_b3 hA) (by first | exact AT_0 hA | exact AT_r0 hA | exact AT_r1 hA | exact AT_r2 hA | exact AT_t hA | exact AT_l hA | exact AT_b0 hA | exact AT_b1 hA | exact AT_b2 hA | exact AT_b3 hA) (gw_gf (j := 1) at51_90 (by first | exact AT_0 hA | exact AT_r0 hA | exact AT_r1 hA | exact AT_r2 hA | exact AT_t hA | exact AT_l hA | exact AT_b0 hA | exact AT_b1 hA | exact AT_b2 hA | exact AT_b3 hA) rfl ?_))
  rw [show ad0 c s 100000 1 = c 100000 1 by rw [ad0_k (by omega)]]
  refine gw_clt at51_93 (by first | omega | exact hc _ _ | exact h0 _ _) (by first | omega | exact hc _ _ | exact h0 _ _) (fun q93 => ?_) (fun q93 => ?_)
  · refine gw_al0 at51_104 (gw_gr at51_105 (by first | exact AT_0 hA | exact AT_r0 hA | exact AT_r1 hA | exact AT_r2 hA | exact AT_t hA | exact AT_l hA | exact AT_b0 hA | exact AT_b1 hA | exact AT_b2 hA | exact AT_b3 hA) (by first | exact AT_0 hA | exact AT_r0 hA | exact AT_r1 hA | exact AT_r2 hA | exact AT_t hA | exact AT_l hA | exact AT_b0 hA | exact AT_b1 hA | exact AT_b2 hA | exact AT_b3 hA) (gw_gr at51_108 (by first | exact AT_0 hA | exact AT_r0 hA | exact AT_r1 hA | exact AT_r2 hA | exact AT_t hA | exact AT_l hA | exact AT_b0 hA | exact AT_b1 hA | exact AT_b2 hA | exact AT_b3 hA) (by first | exact AT_0 hA | exact AT_r0 hA | exact AT_r1 hA | exact AT_r2 hA | exact AT_t hA | exact AT_l hA | exact AT_b0 hA | exact AT_b1 hA | exact AT_b2 hA | exact AT_b3 hA) (gw_al0 at51_111 (gw_gf (j := 6) at51_112 (by first | exact AT_0 hA | exact AT_r0 hA | exact AT_r1 hA | exact AT_r2 hA | exact AT_t hA | exact AT_l hA | exact AT_b0 hA | exact AT_b1 hA | exact AT_b2 hA | exact AT_b3 hA) rfl ?_))))
    rw [ad0_6]
    refine gw_ba at51_115 (by first | exact Or.inl (by first | exact AT_0 hA | exact AT_r0 hA | exact AT_r1 hA | exact AT_r2 hA | exact AT_t hA | exact AT_l hA | exact AT_b0 hA | exact AT_b1 hA | exact AT_b2 hA | exact AT_b3 hA) | exact Or.inr (by first | exact AT_0 hA | exact AT_r0 hA | exact AT_r1 hA | exact AT_r2 hA | exact AT_t hA | exact AT_l hA | exact AT_b0 hA | exact AT_b1 hA | exact AT_b2 hA | exact AT_b3 hA)) (by first | exact AT_0 hA | exact AT_r0 hA | exact AT_r1 hA | exact AT_r2 hA | exact AT_t hA | exact AT_l hA | exact AT_b0 hA | exact AT_b1 hA | exact AT_b2 hA | exact AT_b3 hA) (by first | omega | exact hc _ _ | exact h0 _ _) (by first | omega | exact hc _ _ | exact h0 _ _) (by omega) ?_
    rw [ad0_k (by decide)]
    refine gw_callP1 at51_116 (c_isLetter (hc _ _)) (by omega) (Nat.le_of_ble_eq_true rfl) ?_
    rw [← ibt_in (c := c) (l := 97) (h := 122) (i := s) (by omega)]
    refine gw_beq at51_119 (fun q119 => ?_) (fun q119 => ?_)
    · refine gw_al0 at51_129 (gw_gr at51_130 (by first | exact AT_0 hA | exact AT_r0 hA | exact AT_r1 hA | exact AT_r2 hA | exact AT_t hA | exact AT_l hA | exact AT_b0 hA | exact AT_b1 hA | exact AT_b2 hA | exact AT_b3 hA) (by first | exact AT_0 hA | exact AT_r0 hA | exact AT_r1 hA | exact AT_r2 hA | exact AT_t hA | exact AT_l hA | exact AT_b0 hA | exact AT_b1 hA | exact AT_b2 hA | exact AT_b3 hA) (gw_gr at51_133 (by first | exact AT_0 hA | exact AT_r0 hA | exact AT_r1 hA | exact AT_r2 hA | exact AT_t hA | exact AT_l hA | exact AT_b0 hA | exact AT_b1 hA | exact AT_b2 hA | exact AT_b3 hA) (by first | exact AT_0 hA | exact AT_r0 hA | exact AT_r1 hA | exact AT_r2 hA | exact AT_t hA | exact AT_l hA | exact AT_b0 hA | exact AT_b1 hA | exact AT_b2 hA | exact AT_b3 hA) (gw_al0 at51_136 (gw_gf (j := 6) at51_137 (by first | exact AT_0 hA | exact AT_r0 hA | exact AT_r1 hA | exact AT_r2 hA | exact AT_t hA | exact AT_l hA | exact AT_b0 hA | exact AT_b1 hA | exact AT_b2 hA | exact AT_b3 hA) rfl ?_))))
      rw [ad0_6]
      refine gw_ba at51_140 (by first | exact Or.inl (by first | exact AT_0 hA | exact AT_r0 hA | exact AT_r1 hA | exact AT_r2 hA | exact AT_t hA | exact AT_l hA | exact AT_b0 hA | exact AT_b1 hA | exact AT_b2 hA | exact AT_b3 hA) | exact Or.inr (by first | exact AT_0 hA | exact AT_r0 hA | exact AT_r1 hA | exact AT_r2 hA | exact AT_t hA | exact AT_l hA | exact AT_b0 hA | exact AT_b1 hA | exact AT_b2 hA | exact AT_b3 hA)) (by first | exact AT_0 hA | exact AT_r0 hA | exact AT_r1 hA | exact AT_r2 hA | exact AT_t hA | exact AT_l hA | exact AT_b0 hA | exact AT_b1 hA | exact AT_b2 hA | exact AT_b3 hA) (by first | omega | exact hc _ _ | exact h0 _ _) (by first | omega | exact hc _ _ | exact h0 _ _) (by omega) ?_
      rw [ad0_k (by decide)]
      refine gw_callP1 at51_141 (c_isDigit (hc _ _)) (by omega) (Nat.le_of_ble_eq_true rfl) ?_
      rw [← ibt_in (c := c) (l := 48) (h := 57) (i := s) (by omega)]
      refine gw_beq at51_144 (fun q144 => ?_) (fun q144 => ?_)
      · refine gw_al0 at51_154 (gw_const at51_155 (gw_pf (j := 5) at51_156 (by first | exact AT_0 hA | exact AT_r0 hA | exact AT_r1 hA | exact AT_r2 hA | exact AT_t hA | exact AT_l hA | exact AT_b0 hA | exact AT_b1 hA | exact AT_b2 hA | exact AT_b3 hA) rfl (gw_al0 at51_159 (gw_al0 at51_160 (gw_gr at51_161 (by first | exact AT_0 hA | exact AT_r0 hA | exact AT_r1 hA | exact AT_r2 hA | exact AT_t hA | exact AT_l hA | exact AT_b0 hA | exact AT_b1 hA | exact AT_b2 hA | exact AT_b3 hA) (by first | exact AT_0 hA | exact AT_r0 hA | exact AT_r1 hA | exact AT_r2 hA | exact AT_t hA | exact AT_l hA | exact AT_b0 hA | exact AT_b1 hA | exact AT_b2 hA | exact AT_b3 hA) (gw_gr at51_164 (by first | exact AT_0 hA | exact AT_r0 hA | exact AT_r1 hA | exact AT_r2 hA | exact AT_t hA | exact AT_l hA | exact AT_b0 hA | exact AT_b1 hA | exact AT_b2 hA | exact AT_b3 hA) (by first | exact AT_0 hA | exact AT_r0 hA | exact AT_r1 hA | exact AT_r2 hA | exact AT_t hA | exact AT_l hA | exact AT_b0 hA | exact AT_b1 hA | exact AT_b2 hA | exact AT_b3 hA) (gw_al0 at51_167 (gw_gf (j := 6) at51_168 (by first | exact AT_0 hA | exact AT_r0 hA | exact AT_r1 hA | exact AT_r2 hA | exact AT_t hA | exact AT_l hA | exact AT_b0 hA | exact AT_b1 hA | exact AT_b2 hA | exact AT_b3 hA) rfl ?_))))))))
        rw [gu_j (by decide), ad0_6]
        refine gw_ba at51_171 (by first | exact Or.inl (by first | exact AT_0 hA | exact AT_r0 hA | exact AT_r1 hA | exact AT_r2 hA | exact AT_t hA | exact AT_l hA | exact AT_b0 hA | exact AT_b1 hA | exact AT_b2 hA | exact AT_b3 hA) | exact Or.inr (by first | exact AT_0 hA | exact AT_r0 hA | exact AT_r1 hA | exact AT_r2 hA | exact AT_t hA | exact AT_l hA | exact AT_b0 hA | exact AT_b1 hA | exact AT_b2 hA | exact AT_b3 hA)) (by first | exact AT_0 hA | exact AT_r0 hA | exact AT_r1 hA | exact AT_r2 hA | exact AT_t hA | exact AT_l hA | exact AT_b0 hA | exact AT_b1 hA | exact AT_b2 hA | exact AT_b3 hA) (by first | omega | exact hc _ _ | exact h0 _ _) (by first | omega | exact hc _ _ | exact h0 _ _) (by omega) ?_
        rw [gu_k (by decide), ad0_k (by decide)]
        refine gw_pf (j := 8) at51_172 (by first | exact AT_0 hA | exact AT_r0 hA | exact AT_r1 hA | exact AT_r2 hA | exact AT_t hA | exact AT_l hA | exact AT_b0 hA | exact AT_b1 hA | exact AT_b2 hA | exact AT_b3 hA) rfl (gw_al0 at51_175 (gw_al0 at51_176 (gw_gf (j := 6) at51_177 (by first | exact AT_0 hA | exact AT_r0 hA | exact AT_r1 hA | exact AT_r2 hA | exact AT_t hA | exact AT_l hA | exact AT_b0 hA | exact AT_b1 hA | exact AT_b2 hA | exact AT_b3 hA) rfl ?_)))
        rw [gu_j (by decide), gu_j (by decide), ad0_6]
        refine gw_const at51_180 (gw_iadd at51_181 (gw_pf (j := 7) at51_182 (by first | exact AT_0 hA | exact AT_r0 hA | exact AT_r1 hA | exact AT_r2 hA | exact AT_t hA | exact AT_l hA | exact AT_b0 hA | exact AT_b1 hA | exact AT_b2 hA | exact AT_b3 hA) rfl (gw_rv at51_185 am_r51.2.1 ⟨rfl, ?_⟩)))
        first | (rw [ad1_e (by omega)]; done) | (rw [ad1_w (by omega) q119]; done) | (rw [ad1_n (by omega) q119 q144]; done) | (rw [ad1_s (by omega) q119 q144]; done)
      · refine gw_al0 at51_147 ?_
        refine gw_call1 at51_148 (c_takeNumber hA h0 hB0 he) (by omega) (Nat.le_of_ble_eq_true rfl) (fun o M1 q148 => ?_)
        obtain ⟨rfl, rfl⟩ := q148
        show gw _ _ _ _ _ [] _ _
        refine gw_goto at51_151 (gw_rv at51_185 am_r51.2.1 ⟨rfl, ?_⟩)
        first | (rw [ad1_e (by omega)]; done) | (rw [ad1_w (by omega) q119]; done) | (rw [ad1_n (by omega) q119 q144]; done) | (rw [ad1_s (by omega) q119 q144]; done)
    · refine gw_al0 at51_122 ?_
      refine gw_call1 at51_123 (c_takeWord hA h0 hB0 he (by rw [ad0_6, ad0_7]) ad0_9) (by omega) (Nat.le_of_ble_eq_true rfl) (fun o M1 q123 => ?_)
      obtain ⟨rfl, rfl⟩ := q123
      show gw _ _ _ _ _ [] _ _
      refine gw_goto at51_126 (gw_rv at51_185 am_r51.2.1 ⟨rfl, ?_⟩)
      first | (rw [ad1_e (by omega)]; done) | (rw [ad1_w (by omega) q119]; done) | (rw [ad1_n (by omega) q119 q144]; done) | (rw [ad1_s (by omega) q119 q144]; done)
  · refine gw_al0 at51_96 (gw_const at51_97 (gw_pf (j := 5) at51_98 (by first | exact AT_0 hA | exact AT_r0 hA | exact AT_r1 hA | exact AT_r2 hA | exact AT_t hA | exact AT_l hA | exact AT_b0 hA | exact AT_b1 hA | exact AT_b2 hA | exact AT_b3 hA) rfl (gw_goto at51_101 (gw_rv at51_185 am_r51.2.1 ⟨rfl, ?_⟩))))
    first | (rw [ad1_e (by omega)]; done) | (rw [ad1_w (by omega) q119]; done) | (rw [ad1_n (by omega) q119 q144]; done) | (rw [ad1_s (by omega) q119 q144]; done)
set_option maxHeartbeats 1000000 in
theorem c_advance {g : Nat} {T : gT} {c J : gC} (hA : AT T) (hc : RG c) (hB : BR c 100000) (he : 0 ≤ c 100032 7 ∧ c 100032 7 ≤ c 100000 1) : gE g 51 2 [.ref 100032] (gm T c J) (fun o M1 => o = .inl none ∧ M1 = gm T (adv c) J) := by
  obtain ⟨r1, r2, r3, r4⟩ := rn_ok (p := ibl c) ibl_lt he.1 he.2 hB.2
  have hb := hB.2
  refine gE_mk am_r51 rfl (Or.inr ⟨_, rfl, (by first | exact AT_0 hA | exact AT_r0 hA | exact AT_r1 hA | exact AT_r2 hA | exact AT_t hA | exact AT_l hA | exact AT_b0 hA | exact AT_b1 hA | exact AT_b2 hA | exact AT_b3 hA)⟩) (fun d hd => ?_)
  show gw d g 51 0 [.ref 100032] [] _ _
  refine gw_al0 at51_0 (gw_al0 at51_1 (gw_gf (j := 7) at51_2 (by first | exact AT_0 hA | exact AT_r0 hA | exact AT_r1 hA | exact AT_r2 hA | exact AT_t hA | exact AT_l hA | exact AT_b0 hA | exact AT_b1 hA | exact AT_b2 hA | exact AT_b3 hA) rfl (gw_pf (j := 6) at51_5 (by first | exact AT_0 hA | exact AT_r0 hA | exact AT_r1 hA | exact AT_r2 hA | exact AT_t hA | exact AT_l hA | exact AT_b0 hA | exact AT_b1 hA | exact AT_b2 hA | exact AT_b3 hA) rfl ?_)))
  have lp8 : ∀ i : Int, 0 ≤ i → i ≤ 1200 → c 100032 7 ≤ i → i ≤ bln c (c 100032 7) → gw d g 51 8 [.ref 100032] [] (gm T (gu c 100032 6 i) J) (fun o M1 => o = .inl none ∧ M1 = gm T (adv c) J) := by
    refine ind_up 1200 ?_
    intro i hi0 hi1 ih hi2 hi3
    have hk0 : gu c 100032 6 i 100000 1 = c 100000 1 := gu_k (by decide)
    have hk1 : gu c 100032 6 i 100001 i = c 100001 i := gu_k (by decide)
    have hi4 : i ≤ c 100000 1 := by unfold bln at hi3; omega
    have hx : ibl c i = false → i = bln c (c 100032 7) := fun e => by
      by_cases a : i < bln c (c 100032 7)
      · have := r4 i hi2 a
        rw [this] at e
        cases e
      · omega
    have hy : ibl c i = true → ¬ i = bln c (c 100032 7) := fun e a => by
      rw [a] at e
      unfold bln at e
      rw [e] at r3
      cases r3
    have hz : i < c 100000 1 → ibl c i = decide (c 100001 i = 32 ∨ c 100001 i = 10) := fun e => by unfold ibl; simp [e]
    refine gw_al0 at51_8 ?_
    refine gw_gf (j := 6) at51_9 (by first | exact AT_0 hA | exact AT_r0 hA | exact AT_r1 hA | exact AT_r2 hA | exact AT_t hA | exact AT_l hA | exact AT_b0 hA | exact AT_b1 hA | exact AT_b2 hA | exact AT_b3 hA) rfl ?_
    rw [gu_s]
    refine gw_al0 at51_12 (gw_gr at51_13 (by first | exact AT_0 hA | exact AT_r0 hA | exact AT_r1 hA | exact AT_r2 hA | exact AT_t hA | exact AT_l hA | exact AT_b0 hA | exact AT_b1 hA | exact AT_b2 hA | exact AT_b3 hA) (by first | exact AT_0 hA | exact AT_r0 hA | exact AT_r1 hA | exact AT_r2 hA | exact AT_t hA | exact AT_l hA | exact AT_b0 hA | exact AT_b1 hA | exact AT_b2 hA | exact AT_b3 hA) (gw_gf (j := 1) at51_16 (by first | exact AT_0 hA | exact AT_r0 hA | exact AT_r1 hA | exact AT_r2 hA | exact AT_t hA | exact AT_l hA | exact AT_b0 hA | exact AT_b1 hA | exact AT_b2 hA | exact AT_b3 hA) rfl ?_))
    rw [hk0]
    refine gw_cge at51_19 (by first | omega | exact hc _ _) (by first | omega | exact hc _ _) (fun q19 => ?_) (fun q19 => ?_)
    · have e : i = bln c (c 100032 7) := hx (by first | (rw [hz (by omega)]; exact decide_eq_false (by omega)) | (unfold ibl; rw [decide_eq_false (by omega)]; rfl))
      have h9 := c_adv69 (g := g) (J := J) hd hA hc hB (s := i) ⟨hi0, hi4⟩
      unfold adv
      rw [← e]
      exact h9
    · refine gw_al0 at51_22 (gw_gr at51_23 (by first | exact AT_0 hA | exact AT_r0 hA | exact AT_r1 hA | exact AT_r2 hA | exact AT_t hA | exact AT_l hA | exact AT_b0 hA | exact AT_b1 hA | exact AT_b2 hA | exact AT_b3 hA) (by first | exact AT_0 hA | exact AT_r0 hA | exact AT_r1 hA | exact AT_r2 hA | exact AT_t hA | exact AT_l hA | exact AT_b0 hA | exact AT_b1 hA | exact AT_b2 hA | exact AT_b3 hA) (gw_gr at51_26 (by first | exact AT_0 hA | exact AT_r0 hA | exact AT_r1 hA | exact AT_r2 hA | exact AT_t hA | exact AT_l hA | exact AT_b0 hA | exact AT_b1 hA | exact AT_b2 hA | exact AT_b3 hA) (by first | exact AT_0 hA | exact AT_r0 hA | exact AT_r1 hA | exact AT_r2 hA | exact AT_t hA | exact AT_l hA | exact AT_b0 hA | exact AT_b1 hA | exact AT_b2 hA | exact AT_b3 hA) (gw_al0 at51_29 (gw_gf (j := 6) at51_30 (by first | exact AT_0 hA | exact AT_r0 hA | exact AT_r1 hA | exact AT_r2 hA | exact AT_t hA | exact AT_l hA | exact AT_b0 hA | exact AT_b1 hA | exact AT_b2 hA | exact AT_b3 hA) rfl ?_))))
      rw [gu_s]
      refine gw_ba at51_33 (by first | exact Or.inl (by first | exact AT_0 hA | exact AT_r0 hA | exact AT_r1 hA | exact AT_r2 hA | exact AT_t hA | exact AT_l hA | exact AT_b0 hA | exact AT_b1 hA | exact AT_b2 hA | exact AT_b3 hA) | exact Or.inr (by first | exact AT_0 hA | exact AT_r0 hA | exact AT_r1 hA | exact AT_r2 hA | exact AT_t hA | exact AT_l hA | exact AT_b0 hA | exact AT_b1 hA | exact AT_b2 hA | exact AT_b3 hA)) (by first | exact AT_0 hA | exact AT_r0 hA | exact AT_r1 hA | exact AT_r2 hA | exact AT_t hA | exact AT_l hA | exact AT_b0 hA | exact AT_b1 hA | exact AT_b2 hA | exact AT_b3 hA) (by first | omega | exact hc _ _) (by first | omega | exact hc _ _) (by omega) ?_
      rw [hk1]
      refine gw_bip at51_34 (by decide) ?_
      refine gw_ceq at51_36 (by first | omega | exact hc _ _) (by first | omega | exact hc _ _) (fun q36 => ?_) (fun q36 => ?_)
      · refine gw_al0 at51_56 (gw_dupr at51_57 (gw_gf (j := 6) at51_58 (by first | exact AT_0 hA | exact AT_r0 hA | exact AT_r1 hA | exact AT_r2 hA | exact AT_t hA | exact AT_l hA | exact AT_b0 hA | exact AT_b1 hA | exact AT_b2 hA | exact AT_b3 hA) rfl ?_))
        rw [gu_s]
        refine gw_const at51_61 (gw_iadd at51_62 (gw_pf (j := 6) at51_63 (by first | exact AT_0 hA | exact AT_r0 hA | exact AT_r1 hA | exact AT_r2 hA | exact AT_t hA | exact AT_l hA | exact AT_b0 hA | exact AT_b1 hA | exact AT_b2 hA | exact AT_b3 hA) rfl (gw_goto at51_66 ?_)))
        rw [gu_gu]
        have hw : ¬ i = bln c (c 100032 7) := hy (by rw [hz (by omega)]; exact decide_eq_true (by omega))
        exact ih (i + 1) (by omega) (by omega) (by omega) (by omega)
      · refine gw_al0 at51_39 (gw_gr at51_40 (by first | exact AT_0 hA | exact AT_r0 hA | exact AT_r1 hA | exact AT_r2 hA | exact AT_t hA | exact AT_l hA | exact AT_b0 hA | exact AT_b1 hA | exact AT_b2 hA | exact AT_b3 hA) (by first | exact AT_0 hA | exact AT_r0 hA | exact AT_r1 hA | exact AT_r2 hA | exact AT_t hA | exact AT_l hA | exact AT_b0 hA | exact AT_b1 hA | exact AT_b2 hA | exact AT_b3 hA) (gw_gr at51_43 (by first | exact AT_0 hA | exact AT_r0 hA | exact AT_r1 hA | exact AT_r2 hA | exact AT_t hA | exact AT_l hA | exact AT_b0 hA | exact AT_b1 hA | exact AT_b2 hA | exact AT_b3 hA) (by first | exact AT_0 hA | exact AT_r0 hA | exact AT_r1 hA | exact AT_r2 hA | exact AT_t hA | exact AT_l hA | exact AT_b0 hA | exact AT_b1 hA | exact AT_b2 hA | exact AT_b3 hA) (gw_al0 at51_46 (gw_gf (j := 6) at51_47 (by first | exact AT_0 hA | exact AT_r0 hA | exact AT_r1 hA | exact AT_r2 hA | exact AT_t hA | exact AT_l hA | exact AT_b0 hA | exact AT_b1 hA | exact AT_b2 hA | exact AT_b3 hA) rfl ?_))))
        rw [gu_s]
        refine gw_ba at51_50 (by first | exact Or.inl (by first | exact AT_0 hA | exact AT_r0 hA | exact AT_r1 hA | exact AT_r2 hA | exact AT_t hA | exact AT_l hA | exact AT_b0 hA | exact AT_b1 hA | exact AT_b2 hA | exact AT_b3 hA) | exact Or.inr (by first | exact AT_0 hA | exact AT_r0 hA | exact AT_r1 hA | exact AT_r2 hA | exact AT_t hA | exact AT_l hA | exact AT_b0 hA | exact AT_b1 hA | exact AT_b2 hA | exact AT_b3 hA)) (by first | exact AT_0 hA | exact AT_r0 hA | exact AT_r1 hA | exact AT_r2 hA | exact AT_t hA | exact AT_l hA | exact AT_b0 hA | exact AT_b1 hA | exact AT_b2 hA | exact AT_b3 hA) (by first | omega | exact hc _ _) (by first | omega | exact hc _ _) (by omega) ?_
        rw [hk1]
        refine gw_bip at51_51 (by decide) ?_
        refine gw_cne at51_53 (by first | omega | exact hc _ _) (by first | omega | exact hc _ _) (fun q53 => ?_) (fun q53 => ?_)
        · have e : i = bln c (c 100032 7) := hx (by first | (rw [hz (by omega)]; exact decide_eq_false (by omega)) | (unfold ibl; rw [decide_eq_false (by omega)]; rfl))
          have h9 := c_adv69 (g := g) (J := J) hd hA hc hB (s := i) ⟨hi0, hi4⟩
          unfold adv
          rw [← e]
          exact h9
        · refine gw_al0 at51_56 (gw_dupr at51_57 (gw_gf (j := 6) at51_58 (by first | exact AT_0 hA | exact AT_r0 hA | exact AT_r1 hA | exact AT_r2 hA | exact AT_t hA | exact AT_l hA | exact AT_b0 hA | exact AT_b1 hA | exact AT_b2 hA | exact AT_b3 hA) rfl ?_))
          rw [gu_s]
          refine gw_const at51_61 (gw_iadd at51_62 (gw_pf (j := 6) at51_63 (by first | exact AT_0 hA | exact AT_r0 hA | exact AT_r1 hA | exact AT_r2 hA | exact AT_t hA | exact AT_l hA | exact AT_b0 hA | exact AT_b1 hA | exact AT_b2 hA | exact AT_b3 hA) rfl (gw_goto at51_66 ?_)))
          rw [gu_gu]
          have hw : ¬ i = bln c (c 100032 7) := hy (by rw [hz (by omega)]; exact decide_eq_true (by omega))
          exact ih (i + 1) (by omega) (by omega) (by omega) (by omega)
  exact lp8 (c 100032 7) he.1 (by omega) (Int.le_refl _) r1
