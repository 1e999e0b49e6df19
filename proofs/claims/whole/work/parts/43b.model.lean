theorem MI_p {m : gC} {j z : Int} (h : MI m) (hj : ¬ j = 16 ∧ ¬ j = 17) (hz : -2147483648 ≤ z ∧ z < 2147483648) : MI (gu m 500001 j z) := by
  obtain ⟨a, b, d⟩ := h
  refine ⟨RG_gu a hz, ?_, fun k p q => by rw [gu_k (by decide)]; exact d k p q⟩
  rw [gu_j (by omega), gu_j (by omega)]; exact b
theorem MI_17 {m : gC} {z : Int} (h : MI m) (hz : 0 ≤ z ∧ z ≤ m 500001 16) : MI (gu m 500001 17 z) := by
  obtain ⟨a, b, d⟩ := h
  refine ⟨RG_gu a (by omega), ?_, fun k p q => by rw [gu_k (by decide)]; exact d k p q⟩
  rw [gu_s, gu_j (by omega)]; omega
theorem bya_p {m : gC} {j z k : Int} (hj : ¬ j = 16) : bya (gu m 500001 j z) k = bya m k := bya_o (gu_j (by omega)) (funext fun i => gu_k (by decide))
theorem mad0_MI {m : gC} {s : Int} (h : MI m) (hs : 0 ≤ s ∧ s ≤ m 500001 16) : MI (mad0 m s) := MI_p (MI_17 h hs) (by decide) (by have := h.2.1; omega)
theorem mad0_16 {m : gC} {s : Int} : mad0 m s 500001 16 = m 500001 16 := by
  unfold mad0
  rw [gu_j (by decide), gu_j (by decide)]
theorem mad0_17 {m : gC} {s : Int} : mad0 m s 500001 17 = s := by
  unfold mad0
  rw [gu_j (by decide), gu_s]
theorem mad0_b {m : gC} {s k : Int} : bya (mad0 m s) k = bya m k := by
  unfold mad0
  rw [bya_p (by decide), bya_p (by decide)]
set_option maxHeartbeats 1000000 in
theorem m_adv39 {d g : Nat} {T : gT} {c J : gC} (hd : 1 ≤ d) {b : Nat} (hM : MT T b) (h : MI c) {s : Int} (hs : 0 ≤ s ∧ s ≤ c 500001 16) {u : Value} (hu : am_nl u = true) : gw d g 298 39 [.ref 500001, u] [] (gm T (gu c 500001 17 s) J) (fun o M1 => o = .inl none ∧ M1 = gm T (mad1 c s) J) := by
  have h0 := mad0_MI h hs
  have hsz := h.2.1
  have hb0 := bya_rg h hs.1
  refine gw_al0 at298_39 (gw_al0 at298_40 (gw_gf (j := 17) at298_41 (by first | exact MT_0 hM | exact MT_now hM | exact MT_bt hM | exact MT_bl hM | exact MT_r0 hM | exact MT_t0 hM | exact MT_l0 hM | exact MT_r1 hM | exact MT_t1 hM | exact MT_l1 hM | exact MT_r2 hM | exact MT_t2 hM | exact MT_l2 hM | exact MT_r3 hM | exact MT_t3 hM | exact MT_l3 hM | exact MT_r4 hM | exact MT_t4 hM | exact MT_l4 hM | exact MT_r5 hM | exact MT_t5 hM | exact MT_l5 hM | exact MT_r6 hM | exact MT_t6 hM | exact MT_l6 hM | exact MT_r7 hM | exact MT_t7 hM | exact MT_l7 hM | exact MT_r8 hM | exact MT_t8 hM | exact MT_l8 hM | exact MT_r9 hM | exact MT_t9 hM | exact MT_l9 hM | exact MT_r10 hM | exact MT_t10 hM | exact MT_l10 hM) rfl ?_))
  rw [gu_s]
  refine gw_pf (j := 18) at298_44 (by first | exact MT_0 hM | exact MT_now hM | exact MT_bt hM | exact MT_bl hM | exact MT_r0 hM | exact MT_t0 hM | exact MT_l0 hM | exact MT_r1 hM | exact MT_t1 hM | exact MT_l1 hM | exact MT_r2 hM | exact MT_t2 hM | exact MT_l2 hM | exact MT_r3 hM | exact MT_t3 hM | exact MT_l3 hM | exact MT_r4 hM | exact MT_t4 hM | exact MT_l4 hM | exact MT_r5 hM | exact MT_t5 hM | exact MT_l5 hM | exact MT_r6 hM | exact MT_t6 hM | exact MT_l6 hM | exact MT_r7 hM | exact MT_t7 hM | exact MT_l7 hM | exact MT_r8 hM | exact MT_t8 hM | exact MT_l8 hM | exact MT_r9 hM | exact MT_t9 hM | exact MT_l9 hM | exact MT_r10 hM | exact MT_t10 hM | exact MT_l10 hM) rfl (gw_al0 at298_47 (gw_al0 at298_48 (gw_gf (j := 17) at298_49 (by first | exact MT_0 hM | exact MT_now hM | exact MT_bt hM | exact MT_bl hM | exact MT_r0 hM | exact MT_t0 hM | exact MT_l0 hM | exact MT_r1 hM | exact MT_t1 hM | exact MT_l1 hM | exact MT_r2 hM | exact MT_t2 hM | exact MT_l2 hM | exact MT_r3 hM | exact MT_t3 hM | exact MT_l3 hM | exact MT_r4 hM | exact MT_t4 hM | exact MT_l4 hM | exact MT_r5 hM | exact MT_t5 hM | exact MT_l5 hM | exact MT_r6 hM | exact MT_t6 hM | exact MT_l6 hM | exact MT_r7 hM | exact MT_t7 hM | exact MT_l7 hM | exact MT_r8 hM | exact MT_t8 hM | exact MT_l8 hM | exact MT_r9 hM | exact MT_t9 hM | exact MT_l9 hM | exact MT_r10 hM | exact MT_t10 hM | exact MT_l10 hM) rfl ?_)))
  show gw _ _ _ _ _ _ (gm T (mad0 c s) J) _
  first | rw [show gu (gu c 500001 17 s) 500001 18 s 500001 17 = s by rw [gu_j (by decide), gu_s]] | rw [mad0_17] | skip
  refine gw_callP2 at298_52 (m_byteAt hM h0 (by omega)) (by omega) (Nat.le_of_ble_eq_true rfl) ?_
  rw [mad0_b]
  refine gw_is1 at298_55 (h := (gw_il1 at298_56 (gw_const at298_57 ?_)))
  refine gw_cne at298_58 (by first | omega | exact h.1 _ _) (by first | omega | exact h.1 _ _) (fun q58 => ?_) (fun q58 => ?_)
  · refine gw_il1 at298_69 (gw_i2l at298_70 (by first | omega | exact h.1 _ _) (gw_ldc2 (z := 97) at298_71 (by decide) (gw_ldc2 (z := 122) at298_74 (by decide) (gw_callP3 at298_77 (m_in (by omega) (by decide) (by decide)) (by omega) (Nat.le_of_ble_eq_true rfl) ?_))))
    rw [show inr (bya c s) 97 122 = mlr c 97 122 s from rfl]
    refine gw_beq at298_80 (fun q80 => ?_) (fun q80 => ?_)
    · refine gw_il1 at298_125 (gw_i2l at298_126 (by first | omega | exact h.1 _ _) (gw_ldc2 (z := 48) at298_127 (by decide) (gw_ldc2 (z := 57) at298_130 (by decide) (gw_callP3 at298_133 (m_in (by omega) (by decide) (by decide)) (by omega) (Nat.le_of_ble_eq_true rfl) ?_))))
      rw [show inr (bya c s) 48 57 = mlr c 48 57 s from rfl]
      refine gw_beq at298_136 (fun q136 => ?_) (fun q136 => ?_)
      · refine gw_al0 at298_215 (gw_const at298_216 (gw_pf (j := 19) at298_217 (by first | exact MT_0 hM | exact MT_now hM | exact MT_bt hM | exact MT_bl hM | exact MT_r0 hM | exact MT_t0 hM | exact MT_l0 hM | exact MT_r1 hM | exact MT_t1 hM | exact MT_l1 hM | exact MT_r2 hM | exact MT_t2 hM | exact MT_l2 hM | exact MT_r3 hM | exact MT_t3 hM | exact MT_l3 hM | exact MT_r4 hM | exact MT_t4 hM | exact MT_l4 hM | exact MT_r5 hM | exact MT_t5 hM | exact MT_l5 hM | exact MT_r6 hM | exact MT_t6 hM | exact MT_l6 hM | exact MT_r7 hM | exact MT_t7 hM | exact MT_l7 hM | exact MT_r8 hM | exact MT_t8 hM | exact MT_l8 hM | exact MT_r9 hM | exact MT_t9 hM | exact MT_l9 hM | exact MT_r10 hM | exact MT_t10 hM | exact MT_l10 hM) rfl (gw_al0 at298_220 (gw_il1 at298_221 (gw_pf (j := 20) at298_222 (by first | exact MT_0 hM | exact MT_now hM | exact MT_bt hM | exact MT_bl hM | exact MT_r0 hM | exact MT_t0 hM | exact MT_l0 hM | exact MT_r1 hM | exact MT_t1 hM | exact MT_l1 hM | exact MT_r2 hM | exact MT_t2 hM | exact MT_l2 hM | exact MT_r3 hM | exact MT_t3 hM | exact MT_l3 hM | exact MT_r4 hM | exact MT_t4 hM | exact MT_l4 hM | exact MT_r5 hM | exact MT_t5 hM | exact MT_l5 hM | exact MT_r6 hM | exact MT_t6 hM | exact MT_l6 hM | exact MT_r7 hM | exact MT_t7 hM | exact MT_l7 hM | exact MT_r8 hM | exact MT_t8 hM | exact MT_l8 hM | exact MT_r9 hM | exact MT_t9 hM | exact MT_l9 hM | exact MT_r10 hM | exact MT_t10 hM | exact MT_l10 hM) rfl (gw_al0 at298_225 (gw_dupr at298_226 (gw_gf (j := 17) at298_227 (by first | exact MT_0 hM | exact MT_now hM | exact MT_bt hM | exact MT_bl hM | exact MT_r0 hM | exact MT_t0 hM | exact MT_l0 hM | exact MT_r1 hM | exact MT_t1 hM | exact MT_l1 hM | exact MT_r2 hM | exact MT_t2 hM | exact MT_l2 hM | exact MT_r3 hM | exact MT_t3 hM | exact MT_l3 hM | exact MT_r4 hM | exact MT_t4 hM | exact MT_l4 hM | exact MT_r5 hM | exact MT_t5 hM | exact MT_l5 hM | exact MT_r6 hM | exact MT_t6 hM | exact MT_l6 hM | exact MT_r7 hM | exact MT_t7 hM | exact MT_l7 hM | exact MT_r8 hM | exact MT_t8 hM | exact MT_l8 hM | exact MT_r9 hM | exact MT_t9 hM | exact MT_l9 hM | exact MT_r10 hM | exact MT_t10 hM | exact MT_l10 hM) rfl ?_))))))))
        rw [gu_j (by decide), gu_j (by decide), mad0_17]
        refine gw_const at298_230 (gw_iadd at298_231 (gw_pf (j := 17) at298_232 (by first | exact MT_0 hM | exact MT_now hM | exact MT_bt hM | exact MT_bl hM | exact MT_r0 hM | exact MT_t0 hM | exact MT_l0 hM | exact MT_r1 hM | exact MT_t1 hM | exact MT_l1 hM | exact MT_r2 hM | exact MT_t2 hM | exact MT_l2 hM | exact MT_r3 hM | exact MT_t3 hM | exact MT_l3 hM | exact MT_r4 hM | exact MT_t4 hM | exact MT_l4 hM | exact MT_r5 hM | exact MT_t5 hM | exact MT_l5 hM | exact MT_r6 hM | exact MT_t6 hM | exact MT_l6 hM | exact MT_r7 hM | exact MT_t7 hM | exact MT_l7 hM | exact MT_r8 hM | exact MT_t8 hM | exact MT_l8 hM | exact MT_r9 hM | exact MT_t9 hM | exact MT_l9 hM | exact MT_r10 hM | exact MT_t10 hM | exact MT_l10 hM) rfl (gw_rv at298_235 am_r298.2.1 ⟨rfl, ?_⟩)))
        first
        | (rw [mad1_e (by omega)]; done)
        | (rw [mad1_s (by omega) q80 q136]; done)
        | (have e : i = mln2 c s := by
             by_cases a : i < mln2 c s
             · have := r4 i hi2 a
               rw [this] at q101
               cases q101
             · omega
           rw [mad1_w (by omega) hls, e])
        | (have e : i = mdn c s := by
             by_cases a : i < mdn c s
             · have := r4 i hi2 a
               rw [this] at q162
               cases q162
             · omega
           rw [mad1_n (by omega) hls hds, e])
      · refine gw_al0 at298_139 (gw_const at298_140 (gw_pf (j := 20) at298_141 (by first | exact MT_0 hM | exact MT_now hM | exact MT_bt hM | exact MT_bl hM | exact MT_r0 hM | exact MT_t0 hM | exact MT_l0 hM | exact MT_r1 hM | exact MT_t1 hM | exact MT_l1 hM | exact MT_r2 hM | exact MT_t2 hM | exact MT_l2 hM | exact MT_r3 hM | exact MT_t3 hM | exact MT_l3 hM | exact MT_r4 hM | exact MT_t4 hM | exact MT_l4 hM | exact MT_r5 hM | exact MT_t5 hM | exact MT_l5 hM | exact MT_r6 hM | exact MT_t6 hM | exact MT_l6 hM | exact MT_r7 hM | exact MT_t7 hM | exact MT_l7 hM | exact MT_r8 hM | exact MT_t8 hM | exact MT_l8 hM | exact MT_r9 hM | exact MT_t9 hM | exact MT_l9 hM | exact MT_r10 hM | exact MT_t10 hM | exact MT_l10 hM) rfl ?_))
        have lp144 : mlr c 97 122 s = false → mlr c 48 57 s = true → ∀ i : Int, 0 ≤ i → i ≤ 1200 → s ≤ i → i ≤ mdn c s → gw d g 298 144 [.ref 500001, gi (bya c s)] [] (gm T (gu (gu (mad0 c s) 500001 20 (mnv c s i)) 500001 17 i) J) (fun o M1 => o = .inl none ∧ M1 = gm T (mad1 c s) J) := by
          intro hls hds
          obtain ⟨r1, r2, r3, r4⟩ := rn_ok (p := mlr c 48 57) (mlr_lt (by decide)) hs.1 hs.2 hsz.2.2
          refine ind_up 1200 ?_
          intro i hi0 hi1 ih hi2 hi3
          have hmx : mdn c s ≤ c 500001 16 := r2
          have hi4 : i ≤ c 500001 16 := by omega
          have hrx := mnv_rg (m := c) hi2 (fun j a b => (inr_t.mp (r4 j a (by unfold mdn at hi3; omega))).1)
          have hbx := bya_rg h hi0
          have wN : MI (gu (gu (mad0 c s) 500001 20 (mnv c s i)) 500001 17 i) := MI_17 (MI_p h0 (by decide) (by omega)) (by rw [gu_j (by decide), mad0_16]; omega)
          refine gw_al0 at298_144 ?_
          refine gw_al0 at298_145 (gw_gf (j := 17) at298_146 (by first | exact MT_0 hM | exact MT_now hM | exact MT_bt hM | exact MT_bl hM | exact MT_r0 hM | exact MT_t0 hM | exact MT_l0 hM | exact MT_r1 hM | exact MT_t1 hM | exact MT_l1 hM | exact MT_r2 hM | exact MT_t2 hM | exact MT_l2 hM | exact MT_r3 hM | exact MT_t3 hM | exact MT_l3 hM | exact MT_r4 hM | exact MT_t4 hM | exact MT_l4 hM | exact MT_r5 hM | exact MT_t5 hM | exact MT_l5 hM | exact MT_r6 hM | exact MT_t6 hM | exact MT_l6 hM | exact MT_r7 hM | exact MT_t7 hM | exact MT_l7 hM | exact MT_r8 hM | exact MT_t8 hM | exact MT_l8 hM | exact MT_r9 hM | exact MT_t9 hM | exact MT_l9 hM | exact MT_r10 hM | exact MT_t10 hM | exact MT_l10 hM) rfl ?_)
          rw [gu_s]
          refine gw_callP2 at298_149 (m_byteAt hM wN (by omega)) (by omega) (Nat.le_of_ble_eq_true rfl) ?_
          rw [bya_p (by decide), bya_p (by decide), mad0_b]
          refine gw_i2l at298_152 (by first | omega | exact h.1 _ _) (gw_ldc2 (z := 48) at298_153 (by decide) (gw_ldc2 (z := 57) at298_156 (by decide) (gw_callP3 at298_159 (m_in (by omega) (by decide) (by decide)) (by omega) (Nat.le_of_ble_eq_true rfl) ?_)))
          rw [show inr (bya c i) 48 57 = mlr c 48 57 i from rfl]
          refine gw_beq at298_162 (fun q162 => ?_) (fun q162 => ?_)
          · refine gw_al0 at298_207 (gw_const at298_208 (gw_pf (j := 19) at298_209 (by first | exact MT_0 hM | exact MT_now hM | exact MT_bt hM | exact MT_bl hM | exact MT_r0 hM | exact MT_t0 hM | exact MT_l0 hM | exact MT_r1 hM | exact MT_t1 hM | exact MT_l1 hM | exact MT_r2 hM | exact MT_t2 hM | exact MT_l2 hM | exact MT_r3 hM | exact MT_t3 hM | exact MT_l3 hM | exact MT_r4 hM | exact MT_t4 hM | exact MT_l4 hM | exact MT_r5 hM | exact MT_t5 hM | exact MT_l5 hM | exact MT_r6 hM | exact MT_t6 hM | exact MT_l6 hM | exact MT_r7 hM | exact MT_t7 hM | exact MT_l7 hM | exact MT_r8 hM | exact MT_t8 hM | exact MT_l8 hM | exact MT_r9 hM | exact MT_t9 hM | exact MT_l9 hM | exact MT_r10 hM | exact MT_t10 hM | exact MT_l10 hM) rfl (gw_goto at298_212 (gw_rv at298_235 am_r298.2.1 ⟨rfl, ?_⟩))))
            first
            | (rw [mad1_e (by omega)]; done)
            | (rw [mad1_s (by omega) q80 q136]; done)
            | (have e : i = mln2 c s := by
                 by_cases a : i < mln2 c s
                 · have := r4 i hi2 a
                   rw [this] at q101
                   cases q101
                 · omega
               rw [mad1_w (by omega) hls, e])
            | (have e : i = mdn c s := by
                 by_cases a : i < mdn c s
                 · have := r4 i hi2 a
                   rw [this] at q162
                   cases q162
                 · omega
               rw [mad1_n (by omega) hls hds, e])
          · refine gw_al0 at298_165 (gw_ldcw (z := 99999) at298_166 (by decide) (gw_bip at298_169 (by decide) (gw_al0 at298_171 (gw_gf (j := 20) at298_172 (by first | exact MT_0 hM | exact MT_now hM | exact MT_bt hM | exact MT_bl hM | exact MT_r0 hM | exact MT_t0 hM | exact MT_l0 hM | exact MT_r1 hM | exact MT_t1 hM | exact MT_l1 hM | exact MT_r2 hM | exact MT_t2 hM | exact MT_l2 hM | exact MT_r3 hM | exact MT_t3 hM | exact MT_l3 hM | exact MT_r4 hM | exact MT_t4 hM | exact MT_l4 hM | exact MT_r5 hM | exact MT_t5 hM | exact MT_l5 hM | exact MT_r6 hM | exact MT_t6 hM | exact MT_l6 hM | exact MT_r7 hM | exact MT_t7 hM | exact MT_l7 hM | exact MT_r8 hM | exact MT_t8 hM | exact MT_l8 hM | exact MT_r9 hM | exact MT_t9 hM | exact MT_l9 hM | exact MT_r10 hM | exact MT_t10 hM | exact MT_l10 hM) rfl ?_))))
            rw [gu_j (by decide), gu_s]
            have hr9 := mnv_rg (m := c) hi2 (fun j a b => (inr_t.mp (r4 j a (by unfold mdn at hi3; omega))).1)
            have hb9 := bya_rg h hi0
            refine gw_imul at298_175 (gw_al0 at298_176 (gw_al0 at298_177 (gw_gf (j := 17) at298_178 (by first | exact MT_0 hM | exact MT_now hM | exact MT_bt hM | exact MT_bl hM | exact MT_r0 hM | exact MT_t0 hM | exact MT_l0 hM | exact MT_r1 hM | exact MT_t1 hM | exact MT_l1 hM | exact MT_r2 hM | exact MT_t2 hM | exact MT_l2 hM | exact MT_r3 hM | exact MT_t3 hM | exact MT_l3 hM | exact MT_r4 hM | exact MT_t4 hM | exact MT_l4 hM | exact MT_r5 hM | exact MT_t5 hM | exact MT_l5 hM | exact MT_r6 hM | exact MT_t6 hM | exact MT_l6 hM | exact MT_r7 hM | exact MT_t7 hM | exact MT_l7 hM | exact MT_r8 hM | exact MT_t8 hM | exact MT_l8 hM | exact MT_r9 hM | exact MT_t9 hM | exact MT_l9 hM | exact MT_r10 hM | exact MT_t10 hM | exact MT_l10 hM) rfl ?_)))
            rw [gu_s]
            refine gw_callP2 at298_181 (m_byteAt hM wN (by omega)) (by omega) (Nat.le_of_ble_eq_true rfl) ?_
            rw [bya_p (by decide), bya_p (by decide), mad0_b]
            refine gw_iadd at298_184 (gw_bip at298_185 (by decide) (gw_isub at298_187 (gw_min at298_188 (by first | omega | exact h.1 _ _) (by first | omega | exact h.1 _ _) (Nat.le_of_ble_eq_true rfl) (gw_pf (j := 20) at298_191 (by first | exact MT_0 hM | exact MT_now hM | exact MT_bt hM | exact MT_bl hM | exact MT_r0 hM | exact MT_t0 hM | exact MT_l0 hM | exact MT_r1 hM | exact MT_t1 hM | exact MT_l1 hM | exact MT_r2 hM | exact MT_t2 hM | exact MT_l2 hM | exact MT_r3 hM | exact MT_t3 hM | exact MT_l3 hM | exact MT_r4 hM | exact MT_t4 hM | exact MT_l4 hM | exact MT_r5 hM | exact MT_t5 hM | exact MT_l5 hM | exact MT_r6 hM | exact MT_t6 hM | exact MT_l6 hM | exact MT_r7 hM | exact MT_t7 hM | exact MT_l7 hM | exact MT_r8 hM | exact MT_t8 hM | exact MT_l8 hM | exact MT_r9 hM | exact MT_t9 hM | exact MT_l9 hM | exact MT_r10 hM | exact MT_t10 hM | exact MT_l10 hM) rfl (gw_al0 at298_194 (gw_dupr at298_195 (gw_gf (j := 17) at298_196 (by first | exact MT_0 hM | exact MT_now hM | exact MT_bt hM | exact MT_bl hM | exact MT_r0 hM | exact MT_t0 hM | exact MT_l0 hM | exact MT_r1 hM | exact MT_t1 hM | exact MT_l1 hM | exact MT_r2 hM | exact MT_t2 hM | exact MT_l2 hM | exact MT_r3 hM | exact MT_t3 hM | exact MT_l3 hM | exact MT_r4 hM | exact MT_t4 hM | exact MT_l4 hM | exact MT_r5 hM | exact MT_t5 hM | exact MT_l5 hM | exact MT_r6 hM | exact MT_t6 hM | exact MT_l6 hM | exact MT_r7 hM | exact MT_t7 hM | exact MT_l7 hM | exact MT_r8 hM | exact MT_t8 hM | exact MT_l8 hM | exact MT_r9 hM | exact MT_t9 hM | exact MT_l9 hM | exact MT_r10 hM | exact MT_t10 hM | exact MT_l10 hM) rfl ?_)))))))
            rw [gu_j (by decide), gu_s]
            refine gw_const at298_199 (gw_iadd at298_200 (gw_pf (j := 17) at298_201 (by first | exact MT_0 hM | exact MT_now hM | exact MT_bt hM | exact MT_bl hM | exact MT_r0 hM | exact MT_t0 hM | exact MT_l0 hM | exact MT_r1 hM | exact MT_t1 hM | exact MT_l1 hM | exact MT_r2 hM | exact MT_t2 hM | exact MT_l2 hM | exact MT_r3 hM | exact MT_t3 hM | exact MT_l3 hM | exact MT_r4 hM | exact MT_t4 hM | exact MT_l4 hM | exact MT_r5 hM | exact MT_t5 hM | exact MT_l5 hM | exact MT_r6 hM | exact MT_t6 hM | exact MT_l6 hM | exact MT_r7 hM | exact MT_t7 hM | exact MT_l7 hM | exact MT_r8 hM | exact MT_t8 hM | exact MT_l8 hM | exact MT_r9 hM | exact MT_t9 hM | exact MT_l9 hM | exact MT_r10 hM | exact MT_t10 hM | exact MT_l10 hM) rfl (gw_goto at298_204 ?_)))
            have hne : ¬ i = mdn c s := fun e => by
              unfold mdn at e
              rw [e, r3] at q162
              cases q162
            have h8 := ih (i + 1) (by omega) (by omega) (by omega) (by omega)
            rw [mnv_s hi2] at h8
            rw [gu_st (by decide)]
            exact h8
        have h9 := lp144 q80 q136 s hs.1 (by omega) (Int.le_refl _) (by unfold mdn; exact (rn_ok (p := mlr c 48 57) (mlr_lt (by decide)) hs.1 hs.2 hsz.2.2).1)
        rw [show mnv c s s = 0 by unfold mnv; rw [Int.sub_self]; rfl] at h9
        have e9 := gu_id (c := gu (mad0 c s) 500001 20 0) (k := 500001) (j := 17)
        rw [gu_j (by decide), mad0_17] at e9
        rw [e9] at h9
        exact h9
    · have lp83 : mlr c 97 122 s = true → ∀ i : Int, 0 ≤ i → i ≤ 1200 → s ≤ i → i ≤ mln2 c s → gw d g 298 83 [.ref 500001, gi (bya c s)] [] (gm T (gu (mad0 c s) 500001 17 i) J) (fun o M1 => o = .inl none ∧ M1 = gm T (mad1 c s) J) := by
        intro hls
        obtain ⟨r1, r2, r3, r4⟩ := rn_ok (p := mlr c 97 122) (mlr_lt (by decide)) hs.1 hs.2 hsz.2.2
        refine ind_up 1200 ?_
        intro i hi0 hi1 ih hi2 hi3
        have hmx : mln2 c s ≤ c 500001 16 := r2
        have hi4 : i ≤ c 500001 16 := by omega
        have hb9 := bya_rg h hi0
        refine gw_al0 at298_83 ?_
        refine gw_al0 at298_84 (gw_gf (j := 17) at298_85 (by first | exact MT_0 hM | exact MT_now hM | exact MT_bt hM | exact MT_bl hM | exact MT_r0 hM | exact MT_t0 hM | exact MT_l0 hM | exact MT_r1 hM | exact MT_t1 hM | exact MT_l1 hM | exact MT_r2 hM | exact MT_t2 hM | exact MT_l2 hM | exact MT_r3 hM | exact MT_t3 hM | exact MT_l3 hM | exact MT_r4 hM | exact MT_t4 hM | exact MT_l4 hM | exact MT_r5 hM | exact MT_t5 hM | exact MT_l5 hM | exact MT_r6 hM | exact MT_t6 hM | exact MT_l6 hM | exact MT_r7 hM | exact MT_t7 hM | exact MT_l7 hM | exact MT_r8 hM | exact MT_t8 hM | exact MT_l8 hM | exact MT_r9 hM | exact MT_t9 hM | exact MT_l9 hM | exact MT_r10 hM | exact MT_t10 hM | exact MT_l10 hM) rfl ?_)
        rw [gu_s]
        refine gw_callP2 at298_88 (m_byteAt hM (MI_17 h0 (by rw [mad0_16]; omega)) (by omega)) (by omega) (Nat.le_of_ble_eq_true rfl) ?_
        rw [bya_p (by decide), mad0_b]
        refine gw_i2l at298_91 (by first | omega | exact h.1 _ _) (gw_ldc2 (z := 97) at298_92 (by decide) (gw_ldc2 (z := 122) at298_95 (by decide) (gw_callP3 at298_98 (m_in (by omega) (by decide) (by decide)) (by omega) (Nat.le_of_ble_eq_true rfl) ?_)))
        rw [show inr (bya c i) 97 122 = mlr c 97 122 i from rfl]
        refine gw_beq at298_101 (fun q101 => ?_) (fun q101 => ?_)
        · refine gw_al0 at298_117 (gw_const at298_118 (gw_pf (j := 19) at298_119 (by first | exact MT_0 hM | exact MT_now hM | exact MT_bt hM | exact MT_bl hM | exact MT_r0 hM | exact MT_t0 hM | exact MT_l0 hM | exact MT_r1 hM | exact MT_t1 hM | exact MT_l1 hM | exact MT_r2 hM | exact MT_t2 hM | exact MT_l2 hM | exact MT_r3 hM | exact MT_t3 hM | exact MT_l3 hM | exact MT_r4 hM | exact MT_t4 hM | exact MT_l4 hM | exact MT_r5 hM | exact MT_t5 hM | exact MT_l5 hM | exact MT_r6 hM | exact MT_t6 hM | exact MT_l6 hM | exact MT_r7 hM | exact MT_t7 hM | exact MT_l7 hM | exact MT_r8 hM | exact MT_t8 hM | exact MT_l8 hM | exact MT_r9 hM | exact MT_t9 hM | exact MT_l9 hM | exact MT_r10 hM | exact MT_t10 hM | exact MT_l10 hM) rfl (gw_goto at298_122 (gw_rv at298_235 am_r298.2.1 ⟨rfl, ?_⟩))))
          first
          | (rw [mad1_e (by omega)]; done)
          | (rw [mad1_s (by omega) q80 q136]; done)
          | (have e : i = mln2 c s := by
               by_cases a : i < mln2 c s
               · have := r4 i hi2 a
                 rw [this] at q101
                 cases q101
               · omega
             rw [mad1_w (by omega) hls, e])
          | (have e : i = mdn c s := by
               by_cases a : i < mdn c s
               · have := r4 i hi2 a
                 rw [this] at q162
                 cases q162
               · omega
             rw [mad1_n (by omega) hls hds, e])
        · refine gw_al0 at298_104 (gw_dupr at298_105 (gw_gf (j := 17) at298_106 (by first | exact MT_0 hM | exact MT_now hM | exact MT_bt hM | exact MT_bl hM | exact MT_r0 hM | exact MT_t0 hM | exact MT_l0 hM | exact MT_r1 hM | exact MT_t1 hM | exact MT_l1 hM | exact MT_r2 hM | exact MT_t2 hM | exact MT_l2 hM | exact MT_r3 hM | exact MT_t3 hM | exact MT_l3 hM | exact MT_r4 hM | exact MT_t4 hM | exact MT_l4 hM | exact MT_r5 hM | exact MT_t5 hM | exact MT_l5 hM | exact MT_r6 hM | exact MT_t6 hM | exact MT_l6 hM | exact MT_r7 hM | exact MT_t7 hM | exact MT_l7 hM | exact MT_r8 hM | exact MT_t8 hM | exact MT_l8 hM | exact MT_r9 hM | exact MT_t9 hM | exact MT_l9 hM | exact MT_r10 hM | exact MT_t10 hM | exact MT_l10 hM) rfl ?_))
          rw [gu_s]
          refine gw_const at298_109 (gw_iadd at298_110 (gw_pf (j := 17) at298_111 (by first | exact MT_0 hM | exact MT_now hM | exact MT_bt hM | exact MT_bl hM | exact MT_r0 hM | exact MT_t0 hM | exact MT_l0 hM | exact MT_r1 hM | exact MT_t1 hM | exact MT_l1 hM | exact MT_r2 hM | exact MT_t2 hM | exact MT_l2 hM | exact MT_r3 hM | exact MT_t3 hM | exact MT_l3 hM | exact MT_r4 hM | exact MT_t4 hM | exact MT_l4 hM | exact MT_r5 hM | exact MT_t5 hM | exact MT_l5 hM | exact MT_r6 hM | exact MT_t6 hM | exact MT_l6 hM | exact MT_r7 hM | exact MT_t7 hM | exact MT_l7 hM | exact MT_r8 hM | exact MT_t8 hM | exact MT_l8 hM | exact MT_r9 hM | exact MT_t9 hM | exact MT_l9 hM | exact MT_r10 hM | exact MT_t10 hM | exact MT_l10 hM) rfl (gw_goto at298_114 ?_)))
          have hne : ¬ i = mln2 c s := fun e => by
            unfold mln2 at e
            rw [e, r3] at q101
            cases q101
          rw [gu_gu]
          exact ih (i + 1) (by omega) (by omega) (by omega) (by omega)
      have h9 := lp83 q80 s hs.1 (by omega) (Int.le_refl _) (by unfold mln2; exact (rn_ok (p := mlr c 97 122) (mlr_lt (by decide)) hs.1 hs.2 hsz.2.2).1)
      have e9 := gu_id (c := mad0 c s) (k := 500001) (j := 17)
      rw [mad0_17] at e9
      rw [e9] at h9
      exact h9
  · refine gw_al0 at298_61 (gw_const at298_62 (gw_pf (j := 19) at298_63 (by first | exact MT_0 hM | exact MT_now hM | exact MT_bt hM | exact MT_bl hM | exact MT_r0 hM | exact MT_t0 hM | exact MT_l0 hM | exact MT_r1 hM | exact MT_t1 hM | exact MT_l1 hM | exact MT_r2 hM | exact MT_t2 hM | exact MT_l2 hM | exact MT_r3 hM | exact MT_t3 hM | exact MT_l3 hM | exact MT_r4 hM | exact MT_t4 hM | exact MT_l4 hM | exact MT_r5 hM | exact MT_t5 hM | exact MT_l5 hM | exact MT_r6 hM | exact MT_t6 hM | exact MT_l6 hM | exact MT_r7 hM | exact MT_t7 hM | exact MT_l7 hM | exact MT_r8 hM | exact MT_t8 hM | exact MT_l8 hM | exact MT_r9 hM | exact MT_t9 hM | exact MT_l9 hM | exact MT_r10 hM | exact MT_t10 hM | exact MT_l10 hM) rfl (gw_goto at298_66 (gw_rv at298_235 am_r298.2.1 ⟨rfl, ?_⟩))))
    first
    | (rw [mad1_e (by omega)]; done)
    | (rw [mad1_s (by omega) q80 q136]; done)
    | (have e : i = mln2 c s := by
         by_cases a : i < mln2 c s
         · have := r4 i hi2 a
           rw [this] at q101
           cases q101
         · omega
       rw [mad1_w (by omega) hls, e])
    | (have e : i = mdn c s := by
         by_cases a : i < mdn c s
         · have := r4 i hi2 a
           rw [this] at q162
           cases q162
         · omega
       rw [mad1_n (by omega) hls hds, e])
set_option maxHeartbeats 1000000 in
theorem m_advance {g : Nat} {T : gT} {c J : gC} {b : Nat} (hM : MT T b) (h : MI c) : gE g 298 1 [.ref 500001] (gm T c J) (fun o M1 => o = .inl none ∧ M1 = gm T (mad c) J) := by
  have hsz := h.2.1
  obtain ⟨r1, r2, r3, r4⟩ := rn_ok (p := mbl c) mbl_lt hsz.1 hsz.2.1 hsz.2.2
  refine gE_mk am_r298 rfl (Or.inr ⟨_, rfl, (by first | exact MT_0 hM | exact MT_now hM | exact MT_bt hM | exact MT_bl hM | exact MT_r0 hM | exact MT_t0 hM | exact MT_l0 hM | exact MT_r1 hM | exact MT_t1 hM | exact MT_l1 hM | exact MT_r2 hM | exact MT_t2 hM | exact MT_l2 hM | exact MT_r3 hM | exact MT_t3 hM | exact MT_l3 hM | exact MT_r4 hM | exact MT_t4 hM | exact MT_l4 hM | exact MT_r5 hM | exact MT_t5 hM | exact MT_l5 hM | exact MT_r6 hM | exact MT_t6 hM | exact MT_l6 hM | exact MT_r7 hM | exact MT_t7 hM | exact MT_l7 hM | exact MT_r8 hM | exact MT_t8 hM | exact MT_l8 hM | exact MT_r9 hM | exact MT_t9 hM | exact MT_l9 hM | exact MT_r10 hM | exact MT_t10 hM | exact MT_l10 hM)⟩) (fun d hd => ?_)
  show gw d g 298 0 [.ref 500001, am_U] [] _ _
  have lp0 : ∀ i : Int, 0 ≤ i → i ≤ 1200 → c 500001 17 ≤ i → i ≤ mbn c (c 500001 17) → gw d g 298 0 [.ref 500001, am_U] [] (gm T (gu c 500001 17 i) J) (fun o M1 => o = .inl none ∧ M1 = gm T (mad c) J) := by
    refine ind_up 1200 ?_
    intro i hi0 hi1 ih hi2 hi3
    have hmx : mbn c (c 500001 17) ≤ c 500001 16 := r2
    have hi4 : i ≤ c 500001 16 := by omega
    have hb9 := bya_rg h hi0
    have hx : mbl c i = false → i = mbn c (c 500001 17) := fun e => by
      by_cases a : i < mbn c (c 500001 17)
      · have := r4 i hi2 a
        rw [this] at e
        cases e
      · omega
    have hy : mbl c i = true → ¬ i = mbn c (c 500001 17) := fun e a => by
      unfold mbn at a
      rw [a, r3] at e
      cases e
    have hz : mbl c i = decide (bya c i = 32 ∨ bya c i = 10) := by unfold mbl; simp
    refine gw_al0 at298_0 ?_
    refine gw_al0 at298_1 (gw_gf (j := 17) at298_2 (by first | exact MT_0 hM | exact MT_now hM | exact MT_bt hM | exact MT_bl hM | exact MT_r0 hM | exact MT_t0 hM | exact MT_l0 hM | exact MT_r1 hM | exact MT_t1 hM | exact MT_l1 hM | exact MT_r2 hM | exact MT_t2 hM | exact MT_l2 hM | exact MT_r3 hM | exact MT_t3 hM | exact MT_l3 hM | exact MT_r4 hM | exact MT_t4 hM | exact MT_l4 hM | exact MT_r5 hM | exact MT_t5 hM | exact MT_l5 hM | exact MT_r6 hM | exact MT_t6 hM | exact MT_l6 hM | exact MT_r7 hM | exact MT_t7 hM | exact MT_l7 hM | exact MT_r8 hM | exact MT_t8 hM | exact MT_l8 hM | exact MT_r9 hM | exact MT_t9 hM | exact MT_l9 hM | exact MT_r10 hM | exact MT_t10 hM | exact MT_l10 hM) rfl ?_)
    rw [gu_s]
    refine gw_callP2 at298_5 (m_byteAt hM (MI_17 h (by omega)) (by omega)) (by omega) (Nat.le_of_ble_eq_true rfl) ?_
    rw [bya_p (by decide)]
    refine gw_bip at298_8 (by decide) ?_
    refine gw_ceq at298_10 (by first | omega | exact h.1 _ _) (by first | omega | exact h.1 _ _) (fun q10 => ?_) (fun q10 => ?_)
    · refine gw_al0 at298_26 (gw_dupr at298_27 (gw_gf (j := 17) at298_28 (by first | exact MT_0 hM | exact MT_now hM | exact MT_bt hM | exact MT_bl hM | exact MT_r0 hM | exact MT_t0 hM | exact MT_l0 hM | exact MT_r1 hM | exact MT_t1 hM | exact MT_l1 hM | exact MT_r2 hM | exact MT_t2 hM | exact MT_l2 hM | exact MT_r3 hM | exact MT_t3 hM | exact MT_l3 hM | exact MT_r4 hM | exact MT_t4 hM | exact MT_l4 hM | exact MT_r5 hM | exact MT_t5 hM | exact MT_l5 hM | exact MT_r6 hM | exact MT_t6 hM | exact MT_l6 hM | exact MT_r7 hM | exact MT_t7 hM | exact MT_l7 hM | exact MT_r8 hM | exact MT_t8 hM | exact MT_l8 hM | exact MT_r9 hM | exact MT_t9 hM | exact MT_l9 hM | exact MT_r10 hM | exact MT_t10 hM | exact MT_l10 hM) rfl ?_))
      rw [gu_s]
      refine gw_const at298_31 (gw_iadd at298_32 (gw_pf (j := 17) at298_33 (by first | exact MT_0 hM | exact MT_now hM | exact MT_bt hM | exact MT_bl hM | exact MT_r0 hM | exact MT_t0 hM | exact MT_l0 hM | exact MT_r1 hM | exact MT_t1 hM | exact MT_l1 hM | exact MT_r2 hM | exact MT_t2 hM | exact MT_l2 hM | exact MT_r3 hM | exact MT_t3 hM | exact MT_l3 hM | exact MT_r4 hM | exact MT_t4 hM | exact MT_l4 hM | exact MT_r5 hM | exact MT_t5 hM | exact MT_l5 hM | exact MT_r6 hM | exact MT_t6 hM | exact MT_l6 hM | exact MT_r7 hM | exact MT_t7 hM | exact MT_l7 hM | exact MT_r8 hM | exact MT_t8 hM | exact MT_l8 hM | exact MT_r9 hM | exact MT_t9 hM | exact MT_l9 hM | exact MT_r10 hM | exact MT_t10 hM | exact MT_l10 hM) rfl (gw_goto at298_36 ?_)))
      rw [gu_gu]
      have hw : ¬ i = mbn c (c 500001 17) := hy (by rw [hz]; exact decide_eq_true (by omega))
      exact ih (i + 1) (by omega) (by omega) (by omega) (by omega)
    · refine gw_al0 at298_13 (gw_al0 at298_14 (gw_gf (j := 17) at298_15 (by first | exact MT_0 hM | exact MT_now hM | exact MT_bt hM | exact MT_bl hM | exact MT_r0 hM | exact MT_t0 hM | exact MT_l0 hM | exact MT_r1 hM | exact MT_t1 hM | exact MT_l1 hM | exact MT_r2 hM | exact MT_t2 hM | exact MT_l2 hM | exact MT_r3 hM | exact MT_t3 hM | exact MT_l3 hM | exact MT_r4 hM | exact MT_t4 hM | exact MT_l4 hM | exact MT_r5 hM | exact MT_t5 hM | exact MT_l5 hM | exact MT_r6 hM | exact MT_t6 hM | exact MT_l6 hM | exact MT_r7 hM | exact MT_t7 hM | exact MT_l7 hM | exact MT_r8 hM | exact MT_t8 hM | exact MT_l8 hM | exact MT_r9 hM | exact MT_t9 hM | exact MT_l9 hM | exact MT_r10 hM | exact MT_t10 hM | exact MT_l10 hM) rfl ?_))
      rw [gu_s]
      refine gw_callP2 at298_18 (m_byteAt hM (MI_17 h (by omega)) (by omega)) (by omega) (Nat.le_of_ble_eq_true rfl) ?_
      rw [bya_p (by decide)]
      refine gw_bip at298_21 (by decide) ?_
      refine gw_cne at298_23 (by first | omega | exact h.1 _ _) (by first | omega | exact h.1 _ _) (fun q23 => ?_) (fun q23 => ?_)
      · have e : i = mbn c (c 500001 17) := hx (by rw [hz]; exact decide_eq_false (by omega))
        unfold mad
        rw [← e]
        exact m_adv39 hd hM h ⟨hi0, hi4⟩ rfl
      · refine gw_al0 at298_26 (gw_dupr at298_27 (gw_gf (j := 17) at298_28 (by first | exact MT_0 hM | exact MT_now hM | exact MT_bt hM | exact MT_bl hM | exact MT_r0 hM | exact MT_t0 hM | exact MT_l0 hM | exact MT_r1 hM | exact MT_t1 hM | exact MT_l1 hM | exact MT_r2 hM | exact MT_t2 hM | exact MT_l2 hM | exact MT_r3 hM | exact MT_t3 hM | exact MT_l3 hM | exact MT_r4 hM | exact MT_t4 hM | exact MT_l4 hM | exact MT_r5 hM | exact MT_t5 hM | exact MT_l5 hM | exact MT_r6 hM | exact MT_t6 hM | exact MT_l6 hM | exact MT_r7 hM | exact MT_t7 hM | exact MT_l7 hM | exact MT_r8 hM | exact MT_t8 hM | exact MT_l8 hM | exact MT_r9 hM | exact MT_t9 hM | exact MT_l9 hM | exact MT_r10 hM | exact MT_t10 hM | exact MT_l10 hM) rfl ?_))
        rw [gu_s]
        refine gw_const at298_31 (gw_iadd at298_32 (gw_pf (j := 17) at298_33 (by first | exact MT_0 hM | exact MT_now hM | exact MT_bt hM | exact MT_bl hM | exact MT_r0 hM | exact MT_t0 hM | exact MT_l0 hM | exact MT_r1 hM | exact MT_t1 hM | exact MT_l1 hM | exact MT_r2 hM | exact MT_t2 hM | exact MT_l2 hM | exact MT_r3 hM | exact MT_t3 hM | exact MT_l3 hM | exact MT_r4 hM | exact MT_t4 hM | exact MT_l4 hM | exact MT_r5 hM | exact MT_t5 hM | exact MT_l5 hM | exact MT_r6 hM | exact MT_t6 hM | exact MT_l6 hM | exact MT_r7 hM | exact MT_t7 hM | exact MT_l7 hM | exact MT_r8 hM | exact MT_t8 hM | exact MT_l8 hM | exact MT_r9 hM | exact MT_t9 hM | exact MT_l9 hM | exact MT_r10 hM | exact MT_t10 hM | exact MT_l10 hM) rfl (gw_goto at298_36 ?_)))
        rw [gu_gu]
        have hw : ¬ i = mbn c (c 500001 17) := hy (by rw [hz]; exact decide_eq_true (by omega))
        exact ih (i + 1) (by omega) (by omega) (by omega) (by omega)
  have h9 := lp0 (c 500001 17) hsz.1 (by omega) (Int.le_refl _) (by unfold mbn; exact r1)
  rw [gu_id] at h9
  exact h9
