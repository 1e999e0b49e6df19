/-! the reference: a statement -/
def mst1 (b : Nat) (c : gC) : gC := if mtx c 0 4 = true then mpn b c else if mtx c 1 4 = true then mpr b c else if mtx c 3 5 = true then mpms b 11 4 (mnc2 0 c) else if mtx c 4 5 = true then mdpp b (mnc2 1 c) else if mtx c 5 4 = true then msl b (mnc2 2 c) else if mtx c 6 6 = true then mpms b 15 3 (mnc2 3 c) else if mtx c 7 4 = true then mps b c else if mtx c 8 4 = true then mpms b 4 1 (mnc2 4 c) else mfl c 1
theorem mst1_0 {b : Nat} {c : gC} (h0 : mtx c 0 4 = true) : mst1 b c = mpn b c := by
  unfold mst1
  rw [if_pos h0]
theorem mst1_1 {b : Nat} {c : gC} (h0 : mtx c 0 4 = false) (h1 : mtx c 1 4 = true) : mst1 b c = mpr b c := by
  unfold mst1
  rw [if_neg (by rw [h0]; decide), if_pos h1]
theorem mst1_2 {b : Nat} {c : gC} (h0 : mtx c 0 4 = false) (h1 : mtx c 1 4 = false) (h2 : mtx c 3 5 = true) : mst1 b c = mpms b 11 4 (mnc2 0 c) := by
  unfold mst1
  rw [if_neg (by rw [h0]; decide), if_neg (by rw [h1]; decide), if_pos h2]
theorem mst1_3 {b : Nat} {c : gC} (h0 : mtx c 0 4 = false) (h1 : mtx c 1 4 = false) (h2 : mtx c 3 5 = false) (h3 : mtx c 4 5 = true) : mst1 b c = mdpp b (mnc2 1 c) := by
  unfold mst1
  rw [if_neg (by rw [h0]; decide), if_neg (by rw [h1]; decide), if_neg (by rw [h2]; decide), if_pos h3]
theorem mst1_4 {b : Nat} {c : gC} (h0 : mtx c 0 4 = false) (h1 : mtx c 1 4 = false) (h2 : mtx c 3 5 = false) (h3 : mtx c 4 5 = false) (h4 : mtx c 5 4 = true) : mst1 b c = msl b (mnc2 2 c) := by
  unfold mst1
  rw [if_neg (by rw [h0]; decide), if_neg (by rw [h1]; decide), if_neg (by rw [h2]; decide), if_neg (by rw [h3]; decide), if_pos h4]
theorem mst1_5 {b : Nat} {c : gC} (h0 : mtx c 0 4 = false) (h1 : mtx c 1 4 = false) (h2 : mtx c 3 5 = false) (h3 : mtx c 4 5 = false) (h4 : mtx c 5 4 = false) (h5 : mtx c 6 6 = true) : mst1 b c = mpms b 15 3 (mnc2 3 c) := by
  unfold mst1
  rw [if_neg (by rw [h0]; decide), if_neg (by rw [h1]; decide), if_neg (by rw [h2]; decide), if_neg (by rw [h3]; decide), if_neg (by rw [h4]; decide), if_pos h5]
theorem mst1_6 {b : Nat} {c : gC} (h0 : mtx c 0 4 = false) (h1 : mtx c 1 4 = false) (h2 : mtx c 3 5 = false) (h3 : mtx c 4 5 = false) (h4 : mtx c 5 4 = false) (h5 : mtx c 6 6 = false) (h6 : mtx c 7 4 = true) : mst1 b c = mps b c := by
  unfold mst1
  rw [if_neg (by rw [h0]; decide), if_neg (by rw [h1]; decide), if_neg (by rw [h2]; decide), if_neg (by rw [h3]; decide), if_neg (by rw [h4]; decide), if_neg (by rw [h5]; decide), if_pos h6]
theorem mst1_7 {b : Nat} {c : gC} (h0 : mtx c 0 4 = false) (h1 : mtx c 1 4 = false) (h2 : mtx c 3 5 = false) (h3 : mtx c 4 5 = false) (h4 : mtx c 5 4 = false) (h5 : mtx c 6 6 = false) (h6 : mtx c 7 4 = false) (h7 : mtx c 8 4 = true) : mst1 b c = mpms b 4 1 (mnc2 4 c) := by
  unfold mst1
  rw [if_neg (by rw [h0]; decide), if_neg (by rw [h1]; decide), if_neg (by rw [h2]; decide), if_neg (by rw [h3]; decide), if_neg (by rw [h4]; decide), if_neg (by rw [h5]; decide), if_neg (by rw [h6]; decide), if_pos h7]
theorem mst1_8 {b : Nat} {c : gC} (h0 : mtx c 0 4 = false) (h1 : mtx c 1 4 = false) (h2 : mtx c 3 5 = false) (h3 : mtx c 4 5 = false) (h4 : mtx c 5 4 = false) (h5 : mtx c 6 6 = false) (h6 : mtx c 7 4 = false) (h7 : mtx c 8 4 = false) : mst1 b c = mfl c 1 := by
  unfold mst1
  rw [if_neg (by rw [h0]; decide), if_neg (by rw [h1]; decide), if_neg (by rw [h2]; decide), if_neg (by rw [h3]; decide), if_neg (by rw [h4]; decide), if_neg (by rw [h5]; decide), if_neg (by rw [h6]; decide), if_neg (by rw [h7]; decide)]
def mstP (c : gC) : Bool := decide (¬ (c 500001 19 = 3 ∧ c 500001 20 = 59))
def mst2 (c : gC) : gC := mon (mfi (mstP c) c 1)
def mstt (b : Nat) (c : gC) : gC := mst2 (mst1 b c)
theorem MX_st2 {b : Nat} {c m : gC} (hb : b < 200002) (h : MX b c m) : MX b c (mst2 m) := MX_mon hb (MX_fi hb h (by decide))
theorem MX_st1 {b : Nat} {c m : gC} (hb : b < 200002) (h : MX b c m) : MX b c (mst1 b m) := by
  unfold mst1
  split
  · exact MX_pn hb h
  · skip
    split
    · exact MX_pr hb h
    · skip
      split
      · exact MX_ms hb (MX_nc2 hb h) (Or.inl ⟨rfl, rfl⟩) (by decide)
      · skip
        split
        · exact MX_dp hb (MX_nc2 hb h)
        · skip
          split
          · exact MX_sl hb (MX_nc2 hb h)
          · skip
            split
            · exact MX_ms hb (MX_nc2 hb h) (Or.inr (Or.inl ⟨rfl, rfl⟩)) (by decide)
            · skip
              split
              · exact MX_s hb h
              · skip
                split
                · exact MX_ms hb (MX_nc2 hb h) (Or.inr (Or.inr ⟨rfl, rfl⟩)) (by decide)
                · skip
                  exact MX_fl hb h (by decide)
theorem MX_st {b : Nat} {c m : gC} (hb : b < 200002) (h : MX b c m) : MX b c (mstt b m) := MX_st2 hb (MX_st1 hb h)
set_option maxHeartbeats 1000000 in
theorem m_st191 {d g : Nat} {T : gT} {c J : gC} (hd : 5 ≤ d) {b : Nat} (hM : MT T b) (hb : b < 200002) (h : MK b T c) : gw d g 314 191 [.ref 500001] [] (gm T c J) (fun o M1 => o = .inl none ∧ M1 = gm T (mst2 c) J) := by
  have h8 := MK_s hb h (MX_fi (p := mstP c) (z := 1) hb (MX_rf h.1) (by decide)).1
  refine gw_al0 at314_191 (gw_callP1 at314_192 (m_good hM h.1.1.1.1) (by omega) (Nat.le_of_ble_eq_true rfl) ?_)
  refine gw_beq at314_195 (fun q195 => ?_) (fun q195 => ?_)
  · unfold mst2
    first
    | (have e9 : mfi (mstP c) c 1 = c := mfi_0 q195
       rw [e9]; rw [e9] at h8
       refine gw_al0 at314_220 (gw_call1 at314_221 (m_goOn hM h8.1.1.1) (by omega) (Nat.le_of_ble_eq_true rfl) (fun oo M1 q221 => ?_))
       obtain ⟨rfl, rfl⟩ := q221
       show gw _ _ _ _ _ [] _ _
       exact gw_rv at314_224 am_r314.2.1 ⟨rfl, rfl⟩)
    | (have e9 : mfi (mstP c) c 1 = c := mfi_1 (decide_eq_false (fun e => e ⟨by omega, by omega⟩))
       rw [e9]; rw [e9] at h8
       refine gw_al0 at314_220 (gw_call1 at314_221 (m_goOn hM h8.1.1.1) (by omega) (Nat.le_of_ble_eq_true rfl) (fun oo M1 q221 => ?_))
       obtain ⟨rfl, rfl⟩ := q221
       show gw _ _ _ _ _ [] _ _
       exact gw_rv at314_224 am_r314.2.1 ⟨rfl, rfl⟩)
    | (have e9 : mfi (mstP c) c 1 = mfl c 1 := mfi_2 q195 (decide_eq_true (fun e => by omega))
       rw [e9]; rw [e9] at h8
       refine gw_al0 at314_220 (gw_call1 at314_221 (m_goOn hM h8.1.1.1) (by omega) (Nat.le_of_ble_eq_true rfl) (fun oo M1 q221 => ?_))
       obtain ⟨rfl, rfl⟩ := q221
       show gw _ _ _ _ _ [] _ _
       exact gw_rv at314_224 am_r314.2.1 ⟨rfl, rfl⟩)
  · refine gw_al0 at314_198 (gw_gf (j := 19) at314_199 (by first | exact MT_0 hM | exact MT_now hM | exact MT_bt hM | exact MT_bl hM | exact MT_r0 hM | exact MT_t0 hM | exact MT_l0 hM | exact MT_r1 hM | exact MT_t1 hM | exact MT_l1 hM | exact MT_r2 hM | exact MT_t2 hM | exact MT_l2 hM | exact MT_r3 hM | exact MT_t3 hM | exact MT_l3 hM | exact MT_r4 hM | exact MT_t4 hM | exact MT_l4 hM | exact MT_r5 hM | exact MT_t5 hM | exact MT_l5 hM | exact MT_r6 hM | exact MT_t6 hM | exact MT_l6 hM | exact MT_r7 hM | exact MT_t7 hM | exact MT_l7 hM | exact MT_r8 hM | exact MT_t8 hM | exact MT_l8 hM | exact MT_r9 hM | exact MT_t9 hM | exact MT_l9 hM | exact MT_r10 hM | exact MT_t10 hM | exact MT_l10 hM) rfl (gw_const at314_202 ?_))
    refine gw_cne at314_203 (by first | omega | exact h.1.1.1.1 _ _ | exact bi_rg _) (by first | omega | exact h.1.1.1.1 _ _ | exact bi_rg _) (fun q203 => ?_) (fun q203 => ?_)
    · refine gw_al0 at314_215 (gw_const at314_216 ?_)
      refine gw_call2 at314_217 (m_fail hM h.1.1.1.1) (by omega) (Nat.le_of_ble_eq_true rfl) (fun o M1 q217 => ?_)
      obtain ⟨rfl, rfl⟩ := q217
      show gw _ _ _ _ _ [] _ _
      unfold mst2
      first
      | (have e9 : mfi (mstP c) c 1 = c := mfi_0 q195
         rw [e9]; rw [e9] at h8
         refine gw_al0 at314_220 (gw_call1 at314_221 (m_goOn hM h8.1.1.1) (by omega) (Nat.le_of_ble_eq_true rfl) (fun oo M1 q221 => ?_))
         obtain ⟨rfl, rfl⟩ := q221
         show gw _ _ _ _ _ [] _ _
         exact gw_rv at314_224 am_r314.2.1 ⟨rfl, rfl⟩)
      | (have e9 : mfi (mstP c) c 1 = c := mfi_1 (decide_eq_false (fun e => e ⟨by omega, by omega⟩))
         rw [e9]; rw [e9] at h8
         refine gw_al0 at314_220 (gw_call1 at314_221 (m_goOn hM h8.1.1.1) (by omega) (Nat.le_of_ble_eq_true rfl) (fun oo M1 q221 => ?_))
         obtain ⟨rfl, rfl⟩ := q221
         show gw _ _ _ _ _ [] _ _
         exact gw_rv at314_224 am_r314.2.1 ⟨rfl, rfl⟩)
      | (have e9 : mfi (mstP c) c 1 = mfl c 1 := mfi_2 q195 (decide_eq_true (fun e => by omega))
         rw [e9]; rw [e9] at h8
         refine gw_al0 at314_220 (gw_call1 at314_221 (m_goOn hM h8.1.1.1) (by omega) (Nat.le_of_ble_eq_true rfl) (fun oo M1 q221 => ?_))
         obtain ⟨rfl, rfl⟩ := q221
         show gw _ _ _ _ _ [] _ _
         exact gw_rv at314_224 am_r314.2.1 ⟨rfl, rfl⟩)
    · refine gw_al0 at314_206 (gw_gf (j := 20) at314_207 (by first | exact MT_0 hM | exact MT_now hM | exact MT_bt hM | exact MT_bl hM | exact MT_r0 hM | exact MT_t0 hM | exact MT_l0 hM | exact MT_r1 hM | exact MT_t1 hM | exact MT_l1 hM | exact MT_r2 hM | exact MT_t2 hM | exact MT_l2 hM | exact MT_r3 hM | exact MT_t3 hM | exact MT_l3 hM | exact MT_r4 hM | exact MT_t4 hM | exact MT_l4 hM | exact MT_r5 hM | exact MT_t5 hM | exact MT_l5 hM | exact MT_r6 hM | exact MT_t6 hM | exact MT_l6 hM | exact MT_r7 hM | exact MT_t7 hM | exact MT_l7 hM | exact MT_r8 hM | exact MT_t8 hM | exact MT_l8 hM | exact MT_r9 hM | exact MT_t9 hM | exact MT_l9 hM | exact MT_r10 hM | exact MT_t10 hM | exact MT_l10 hM) rfl (gw_bip at314_210 (by decide) ?_))
      refine gw_ceq at314_212 (by first | omega | exact h.1.1.1.1 _ _ | exact bi_rg _) (by first | omega | exact h.1.1.1.1 _ _ | exact bi_rg _) (fun q212 => ?_) (fun q212 => ?_)
      · unfold mst2
        first
        | (have e9 : mfi (mstP c) c 1 = c := mfi_0 q195
           rw [e9]; rw [e9] at h8
           refine gw_al0 at314_220 (gw_call1 at314_221 (m_goOn hM h8.1.1.1) (by omega) (Nat.le_of_ble_eq_true rfl) (fun oo M1 q221 => ?_))
           obtain ⟨rfl, rfl⟩ := q221
           show gw _ _ _ _ _ [] _ _
           exact gw_rv at314_224 am_r314.2.1 ⟨rfl, rfl⟩)
        | (have e9 : mfi (mstP c) c 1 = c := mfi_1 (decide_eq_false (fun e => e ⟨by omega, by omega⟩))
           rw [e9]; rw [e9] at h8
           refine gw_al0 at314_220 (gw_call1 at314_221 (m_goOn hM h8.1.1.1) (by omega) (Nat.le_of_ble_eq_true rfl) (fun oo M1 q221 => ?_))
           obtain ⟨rfl, rfl⟩ := q221
           show gw _ _ _ _ _ [] _ _
           exact gw_rv at314_224 am_r314.2.1 ⟨rfl, rfl⟩)
        | (have e9 : mfi (mstP c) c 1 = mfl c 1 := mfi_2 q195 (decide_eq_true (fun e => by omega))
           rw [e9]; rw [e9] at h8
           refine gw_al0 at314_220 (gw_call1 at314_221 (m_goOn hM h8.1.1.1) (by omega) (Nat.le_of_ble_eq_true rfl) (fun oo M1 q221 => ?_))
           obtain ⟨rfl, rfl⟩ := q221
           show gw _ _ _ _ _ [] _ _
           exact gw_rv at314_224 am_r314.2.1 ⟨rfl, rfl⟩)
      · refine gw_al0 at314_215 (gw_const at314_216 ?_)
        refine gw_call2 at314_217 (m_fail hM h.1.1.1.1) (by omega) (Nat.le_of_ble_eq_true rfl) (fun o M1 q217 => ?_)
        obtain ⟨rfl, rfl⟩ := q217
        show gw _ _ _ _ _ [] _ _
        unfold mst2
        first
        | (have e9 : mfi (mstP c) c 1 = c := mfi_0 q195
           rw [e9]; rw [e9] at h8
           refine gw_al0 at314_220 (gw_call1 at314_221 (m_goOn hM h8.1.1.1) (by omega) (Nat.le_of_ble_eq_true rfl) (fun oo M1 q221 => ?_))
           obtain ⟨rfl, rfl⟩ := q221
           show gw _ _ _ _ _ [] _ _
           exact gw_rv at314_224 am_r314.2.1 ⟨rfl, rfl⟩)
        | (have e9 : mfi (mstP c) c 1 = c := mfi_1 (decide_eq_false (fun e => e ⟨by omega, by omega⟩))
           rw [e9]; rw [e9] at h8
           refine gw_al0 at314_220 (gw_call1 at314_221 (m_goOn hM h8.1.1.1) (by omega) (Nat.le_of_ble_eq_true rfl) (fun oo M1 q221 => ?_))
           obtain ⟨rfl, rfl⟩ := q221
           show gw _ _ _ _ _ [] _ _
           exact gw_rv at314_224 am_r314.2.1 ⟨rfl, rfl⟩)
        | (have e9 : mfi (mstP c) c 1 = mfl c 1 := mfi_2 q195 (decide_eq_true (fun e => by omega))
           rw [e9]; rw [e9] at h8
           refine gw_al0 at314_220 (gw_call1 at314_221 (m_goOn hM h8.1.1.1) (by omega) (Nat.le_of_ble_eq_true rfl) (fun oo M1 q221 => ?_))
           obtain ⟨rfl, rfl⟩ := q221
           show gw _ _ _ _ _ [] _ _
           exact gw_rv at314_224 am_r314.2.1 ⟨rfl, rfl⟩)
set_option maxHeartbeats 1000000 in
theorem m_parseStatement {g : Nat} {T : gT} {c J : gC} {b : Nat} (hM : MT T b) (hb : b < 200002) (h : MK b T c) : gE g 314 9 [.ref 500001] (gm T c J) (fun o M1 => o = .inl none ∧ M1 = gm T (mstt b c) J) := by
  refine gE_mk am_r314 rfl (Or.inr ⟨_, rfl, (by first | exact MT_0 hM | exact MT_now hM | exact MT_bt hM | exact MT_bl hM | exact MT_r0 hM | exact MT_t0 hM | exact MT_l0 hM | exact MT_r1 hM | exact MT_t1 hM | exact MT_l1 hM | exact MT_r2 hM | exact MT_t2 hM | exact MT_l2 hM | exact MT_r3 hM | exact MT_t3 hM | exact MT_l3 hM | exact MT_r4 hM | exact MT_t4 hM | exact MT_l4 hM | exact MT_r5 hM | exact MT_t5 hM | exact MT_l5 hM | exact MT_r6 hM | exact MT_t6 hM | exact MT_l6 hM | exact MT_r7 hM | exact MT_t7 hM | exact MT_l7 hM | exact MT_r8 hM | exact MT_t8 hM | exact MT_l8 hM | exact MT_r9 hM | exact MT_t9 hM | exact MT_l9 hM | exact MT_r10 hM | exact MT_t10 hM | exact MT_l10 hM)⟩) (fun d hd => ?_)
  show gw d g 314 0 [.ref 500001] [] _ _
  refine gw_al0 at314_0 (gw_ldcsw (q := 900000) at314_1 rfl (gw_callP2 at314_4 (m_isText (n := 0) (l := 4) hM h.1 h.2 (by decide) rfl) (by omega) (Nat.le_of_ble_eq_true rfl) ?_))
  refine gw_beq at314_7 (fun q7 => ?_) (fun q7 => ?_)
  · refine gw_al0 at314_17 (gw_ldcsw (q := 900001) at314_18 rfl (gw_callP2 at314_21 (m_isText (n := 1) (l := 4) hM h.1 h.2 (by decide) rfl) (by omega) (Nat.le_of_ble_eq_true rfl) ?_))
    refine gw_beq at314_24 (fun q24 => ?_) (fun q24 => ?_)
    · refine gw_al0 at314_34 (gw_ldcsw (q := 900003) at314_35 rfl (gw_callP2 at314_38 (m_isText (n := 3) (l := 5) hM h.1 h.2 (by decide) rfl) (by omega) (Nat.le_of_ble_eq_true rfl) ?_))
      refine gw_beq at314_41 (fun q41 => ?_) (fun q41 => ?_)
      · refine gw_al0 at314_59 (gw_ldcsw (q := 900004) at314_60 rfl (gw_callP2 at314_63 (m_isText (n := 4) (l := 5) hM h.1 h.2 (by decide) rfl) (by omega) (Nat.le_of_ble_eq_true rfl) ?_))
        refine gw_beq at314_66 (fun q66 => ?_) (fun q66 => ?_)
        · refine gw_al0 at314_88 (gw_ldcsw (q := 900005) at314_89 rfl (gw_callP2 at314_92 (m_isText (n := 5) (l := 4) hM h.1 h.2 (by decide) rfl) (by omega) (Nat.le_of_ble_eq_true rfl) ?_))
          refine gw_beq at314_95 (fun q95 => ?_) (fun q95 => ?_)
          · refine gw_al0 at314_120 (gw_ldcsw (q := 900006) at314_121 rfl (gw_callP2 at314_124 (m_isText (n := 6) (l := 6) hM h.1 h.2 (by decide) rfl) (by omega) (Nat.le_of_ble_eq_true rfl) ?_))
            refine gw_beq at314_127 (fun q127 => ?_) (fun q127 => ?_)
            · refine gw_al0 at314_145 (gw_ldcsw (q := 900007) at314_146 rfl (gw_callP2 at314_149 (m_isText (n := 7) (l := 4) hM h.1 h.2 (by decide) rfl) (by omega) (Nat.le_of_ble_eq_true rfl) ?_))
              refine gw_beq at314_152 (fun q152 => ?_) (fun q152 => ?_)
              · refine gw_al0 at314_162 (gw_ldcsw (q := 900008) at314_163 rfl (gw_callP2 at314_166 (m_isText (n := 8) (l := 4) hM h.1 h.2 (by decide) rfl) (by omega) (Nat.le_of_ble_eq_true rfl) ?_))
                refine gw_beq at314_169 (fun q169 => ?_) (fun q169 => ?_)
                · refine gw_al0 at314_186 (gw_const at314_187 ?_)
                  refine gw_call2 at314_188 (m_fail hM h.1.1.1.1) (by omega) (Nat.le_of_ble_eq_true rfl) (fun o M1 q188 => ?_)
                  obtain ⟨rfl, rfl⟩ := q188
                  show gw _ _ _ _ _ [] _ _
                  have g8 := MK_s hb h (MX_st1 hb (MX_rf h.1)).1
                  unfold mstt
                  first
                  | (rw [mst1_0 q7] at *; exact m_st191 (by omega) hM hb g8)
                  | (rw [mst1_1 q7 q24] at *; exact m_st191 (by omega) hM hb g8)
                  | (rw [mst1_2 q7 q24 q41] at *; exact m_st191 (by omega) hM hb g8)
                  | (rw [mst1_3 q7 q24 q41 q66] at *; exact m_st191 (by omega) hM hb g8)
                  | (rw [mst1_4 q7 q24 q41 q66 q95] at *; exact m_st191 (by omega) hM hb g8)
                  | (rw [mst1_5 q7 q24 q41 q66 q95 q127] at *; exact m_st191 (by omega) hM hb g8)
                  | (rw [mst1_6 q7 q24 q41 q66 q95 q127 q152] at *; exact m_st191 (by omega) hM hb g8)
                  | (rw [mst1_7 q7 q24 q41 q66 q95 q127 q152 q169] at *; exact m_st191 (by omega) hM hb g8)
                  | (rw [mst1_8 q7 q24 q41 q66 q95 q127 q152 q169] at *; exact m_st191 (by omega) hM hb g8)
                · refine gw_al0 at314_172 (gw_const at314_173 ?_)
                  refine gw_call2 at314_174 (m_once hM hb h (k := 4)) (by omega) (Nat.le_of_ble_eq_true rfl) (fun o M1 q174 => ?_)
                  obtain ⟨rfl, rfl⟩ := q174
                  show gw _ _ _ _ _ [] _ _
                  have hx := MX_nc2 (k := 4) hb (MX_rf h.1)
                  have hk := MK_s hb h hx.1
                  refine gw_al0 at314_177 (gw_const at314_178 (gw_const at314_179 ?_))
                  refine gw_call3 at314_180 (m_parseNumbers hM hb hk (Or.inr (Or.inr ⟨rfl, rfl⟩))) (by omega) (Nat.le_of_ble_eq_true rfl) (fun o M1 q180 => ?_)
                  obtain ⟨rfl, rfl⟩ := q180
                  show gw _ _ _ _ _ [] _ _
                  refine gw_goto at314_183 ?_
                  have g8 := MK_s hb h (MX_st1 hb (MX_rf h.1)).1
                  unfold mstt
                  first
                  | (rw [mst1_0 q7] at *; exact m_st191 (by omega) hM hb g8)
                  | (rw [mst1_1 q7 q24] at *; exact m_st191 (by omega) hM hb g8)
                  | (rw [mst1_2 q7 q24 q41] at *; exact m_st191 (by omega) hM hb g8)
                  | (rw [mst1_3 q7 q24 q41 q66] at *; exact m_st191 (by omega) hM hb g8)
                  | (rw [mst1_4 q7 q24 q41 q66 q95] at *; exact m_st191 (by omega) hM hb g8)
                  | (rw [mst1_5 q7 q24 q41 q66 q95 q127] at *; exact m_st191 (by omega) hM hb g8)
                  | (rw [mst1_6 q7 q24 q41 q66 q95 q127 q152] at *; exact m_st191 (by omega) hM hb g8)
                  | (rw [mst1_7 q7 q24 q41 q66 q95 q127 q152 q169] at *; exact m_st191 (by omega) hM hb g8)
                  | (rw [mst1_8 q7 q24 q41 q66 q95 q127 q152 q169] at *; exact m_st191 (by omega) hM hb g8)
              · refine gw_al0 at314_155 ?_
                refine gw_call1 at314_156 (m_parseSnow hM hb h) (by omega) (Nat.le_of_ble_eq_true rfl) (fun o M1 q156 => ?_)
                obtain ⟨rfl, rfl⟩ := q156
                show gw _ _ _ _ _ [] _ _
                refine gw_goto at314_159 ?_
                have g8 := MK_s hb h (MX_st1 hb (MX_rf h.1)).1
                unfold mstt
                first
                | (rw [mst1_0 q7] at *; exact m_st191 (by omega) hM hb g8)
                | (rw [mst1_1 q7 q24] at *; exact m_st191 (by omega) hM hb g8)
                | (rw [mst1_2 q7 q24 q41] at *; exact m_st191 (by omega) hM hb g8)
                | (rw [mst1_3 q7 q24 q41 q66] at *; exact m_st191 (by omega) hM hb g8)
                | (rw [mst1_4 q7 q24 q41 q66 q95] at *; exact m_st191 (by omega) hM hb g8)
                | (rw [mst1_5 q7 q24 q41 q66 q95 q127] at *; exact m_st191 (by omega) hM hb g8)
                | (rw [mst1_6 q7 q24 q41 q66 q95 q127 q152] at *; exact m_st191 (by omega) hM hb g8)
                | (rw [mst1_7 q7 q24 q41 q66 q95 q127 q152 q169] at *; exact m_st191 (by omega) hM hb g8)
                | (rw [mst1_8 q7 q24 q41 q66 q95 q127 q152 q169] at *; exact m_st191 (by omega) hM hb g8)
            · refine gw_al0 at314_130 (gw_const at314_131 ?_)
              refine gw_call2 at314_132 (m_once hM hb h (k := 3)) (by omega) (Nat.le_of_ble_eq_true rfl) (fun o M1 q132 => ?_)
              obtain ⟨rfl, rfl⟩ := q132
              show gw _ _ _ _ _ [] _ _
              have hx := MX_nc2 (k := 3) hb (MX_rf h.1)
              have hk := MK_s hb h hx.1
              refine gw_al0 at314_135 (gw_bip at314_136 (by decide) (gw_const at314_138 ?_))
              refine gw_call3 at314_139 (m_parseNumbers hM hb hk (Or.inr (Or.inl ⟨rfl, rfl⟩))) (by omega) (Nat.le_of_ble_eq_true rfl) (fun o M1 q139 => ?_)
              obtain ⟨rfl, rfl⟩ := q139
              show gw _ _ _ _ _ [] _ _
              refine gw_goto at314_142 ?_
              have g8 := MK_s hb h (MX_st1 hb (MX_rf h.1)).1
              unfold mstt
              first
              | (rw [mst1_0 q7] at *; exact m_st191 (by omega) hM hb g8)
              | (rw [mst1_1 q7 q24] at *; exact m_st191 (by omega) hM hb g8)
              | (rw [mst1_2 q7 q24 q41] at *; exact m_st191 (by omega) hM hb g8)
              | (rw [mst1_3 q7 q24 q41 q66] at *; exact m_st191 (by omega) hM hb g8)
              | (rw [mst1_4 q7 q24 q41 q66 q95] at *; exact m_st191 (by omega) hM hb g8)
              | (rw [mst1_5 q7 q24 q41 q66 q95 q127] at *; exact m_st191 (by omega) hM hb g8)
              | (rw [mst1_6 q7 q24 q41 q66 q95 q127 q152] at *; exact m_st191 (by omega) hM hb g8)
              | (rw [mst1_7 q7 q24 q41 q66 q95 q127 q152 q169] at *; exact m_st191 (by omega) hM hb g8)
              | (rw [mst1_8 q7 q24 q41 q66 q95 q127 q152 q169] at *; exact m_st191 (by omega) hM hb g8)
          · refine gw_al0 at314_98 (gw_const at314_99 ?_)
            refine gw_call2 at314_100 (m_once hM hb h (k := 2)) (by omega) (Nat.le_of_ble_eq_true rfl) (fun o M1 q100 => ?_)
            obtain ⟨rfl, rfl⟩ := q100
            show gw _ _ _ _ _ [] _ _
            have hx := MX_nc2 (k := 2) hb (MX_rf h.1)
            have hk := MK_s hb h hx.1
            refine gw_al0 at314_103 (gw_gr at314_104 (by first | exact MT_0 hM | exact MT_now hM | exact MT_bt hM | exact MT_bl hM | exact MT_r0 hM | exact MT_t0 hM | exact MT_l0 hM | exact MT_r1 hM | exact MT_t1 hM | exact MT_l1 hM | exact MT_r2 hM | exact MT_t2 hM | exact MT_l2 hM | exact MT_r3 hM | exact MT_t3 hM | exact MT_l3 hM | exact MT_r4 hM | exact MT_t4 hM | exact MT_l4 hM | exact MT_r5 hM | exact MT_t5 hM | exact MT_l5 hM | exact MT_r6 hM | exact MT_t6 hM | exact MT_l6 hM | exact MT_r7 hM | exact MT_t7 hM | exact MT_l7 hM | exact MT_r8 hM | exact MT_t8 hM | exact MT_l8 hM | exact MT_r9 hM | exact MT_t9 hM | exact MT_l9 hM | exact MT_r10 hM | exact MT_t10 hM | exact MT_l10 hM) (by first | exact MT_0 hM | exact MT_now hM | exact MT_bt hM | exact MT_bl hM | exact MT_r0 hM | exact MT_t0 hM | exact MT_l0 hM | exact MT_r1 hM | exact MT_t1 hM | exact MT_l1 hM | exact MT_r2 hM | exact MT_t2 hM | exact MT_l2 hM | exact MT_r3 hM | exact MT_t3 hM | exact MT_l3 hM | exact MT_r4 hM | exact MT_t4 hM | exact MT_l4 hM | exact MT_r5 hM | exact MT_t5 hM | exact MT_l5 hM | exact MT_r6 hM | exact MT_t6 hM | exact MT_l6 hM | exact MT_r7 hM | exact MT_t7 hM | exact MT_l7 hM | exact MT_r8 hM | exact MT_t8 hM | exact MT_l8 hM | exact MT_r9 hM | exact MT_t9 hM | exact MT_l9 hM | exact MT_r10 hM | exact MT_t10 hM | exact MT_l10 hM) (gw_const at314_107 (gw_al0 at314_108 (gw_const at314_109 (gw_sip at314_110 (by decide) ?_)))))
            refine gw_call3 at314_113 (m_number hM hk.1 (by omega) (by decide) (by decide)) (by omega) (Nat.le_of_ble_eq_true rfl) (fun o M1 q113 => ?_)
            obtain ⟨rfl, rfl⟩ := q113
            show gw _ _ _ _ _ (gi _ :: gi 3 :: .ref b :: []) _ _
            have r1 := mnu_rg (b := b) (l := 0) (u := 9999) (c := mnc2 2 c) (by decide)
            refine gw_iw at314_116 (by first | exact MT_0 hM | exact MT_now hM | exact MT_bt hM | exact MT_bl hM | exact MT_r0 hM | exact MT_t0 hM | exact MT_l0 hM | exact MT_r1 hM | exact MT_t1 hM | exact MT_l1 hM | exact MT_r2 hM | exact MT_t2 hM | exact MT_l2 hM | exact MT_r3 hM | exact MT_t3 hM | exact MT_l3 hM | exact MT_r4 hM | exact MT_t4 hM | exact MT_l4 hM | exact MT_r5 hM | exact MT_t5 hM | exact MT_l5 hM | exact MT_r6 hM | exact MT_t6 hM | exact MT_l6 hM | exact MT_r7 hM | exact MT_t7 hM | exact MT_l7 hM | exact MT_r8 hM | exact MT_t8 hM | exact MT_l8 hM | exact MT_r9 hM | exact MT_t9 hM | exact MT_l9 hM | exact MT_r10 hM | exact MT_t10 hM | exact MT_l10 hM) (by first | exact MT_0 hM | exact MT_now hM | exact MT_bt hM | exact MT_bl hM | exact MT_r0 hM | exact MT_t0 hM | exact MT_l0 hM | exact MT_r1 hM | exact MT_t1 hM | exact MT_l1 hM | exact MT_r2 hM | exact MT_t2 hM | exact MT_l2 hM | exact MT_r3 hM | exact MT_t3 hM | exact MT_l3 hM | exact MT_r4 hM | exact MT_t4 hM | exact MT_l4 hM | exact MT_r5 hM | exact MT_t5 hM | exact MT_l5 hM | exact MT_r6 hM | exact MT_t6 hM | exact MT_l6 hM | exact MT_r7 hM | exact MT_t7 hM | exact MT_l7 hM | exact MT_r8 hM | exact MT_t8 hM | exact MT_l8 hM | exact MT_r9 hM | exact MT_t9 hM | exact MT_l9 hM | exact MT_r10 hM | exact MT_t10 hM | exact MT_l10 hM) (by first | omega | exact h.1.1.1.1 _ _ | exact bi_rg _) (by first | omega | exact h.1.1.1.1 _ _ | exact bi_rg _) (by omega) (gw_goto at314_117 ?_)
            have g8 := MK_s hb h (MX_st1 hb (MX_rf h.1)).1
            unfold mstt
            first
            | (rw [mst1_0 q7] at *; exact m_st191 (by omega) hM hb g8)
            | (rw [mst1_1 q7 q24] at *; exact m_st191 (by omega) hM hb g8)
            | (rw [mst1_2 q7 q24 q41] at *; exact m_st191 (by omega) hM hb g8)
            | (rw [mst1_3 q7 q24 q41 q66] at *; exact m_st191 (by omega) hM hb g8)
            | (rw [mst1_4 q7 q24 q41 q66 q95] at *; exact m_st191 (by omega) hM hb g8)
            | (rw [mst1_5 q7 q24 q41 q66 q95 q127] at *; exact m_st191 (by omega) hM hb g8)
            | (rw [mst1_6 q7 q24 q41 q66 q95 q127 q152] at *; exact m_st191 (by omega) hM hb g8)
            | (rw [mst1_7 q7 q24 q41 q66 q95 q127 q152 q169] at *; exact m_st191 (by omega) hM hb g8)
            | (rw [mst1_8 q7 q24 q41 q66 q95 q127 q152 q169] at *; exact m_st191 (by omega) hM hb g8)
        · refine gw_al0 at314_69 (gw_const at314_70 ?_)
          refine gw_call2 at314_71 (m_once hM hb h (k := 1)) (by omega) (Nat.le_of_ble_eq_true rfl) (fun o M1 q71 => ?_)
          obtain ⟨rfl, rfl⟩ := q71
          show gw _ _ _ _ _ [] _ _
          have hx := MX_nc2 (k := 1) hb (MX_rf h.1)
          have hk := MK_s hb h hx.1
          refine gw_al0 at314_74 (gw_gr at314_75 (by first | exact MT_0 hM | exact MT_now hM | exact MT_bt hM | exact MT_bl hM | exact MT_r0 hM | exact MT_t0 hM | exact MT_l0 hM | exact MT_r1 hM | exact MT_t1 hM | exact MT_l1 hM | exact MT_r2 hM | exact MT_t2 hM | exact MT_l2 hM | exact MT_r3 hM | exact MT_t3 hM | exact MT_l3 hM | exact MT_r4 hM | exact MT_t4 hM | exact MT_l4 hM | exact MT_r5 hM | exact MT_t5 hM | exact MT_l5 hM | exact MT_r6 hM | exact MT_t6 hM | exact MT_l6 hM | exact MT_r7 hM | exact MT_t7 hM | exact MT_l7 hM | exact MT_r8 hM | exact MT_t8 hM | exact MT_l8 hM | exact MT_r9 hM | exact MT_t9 hM | exact MT_l9 hM | exact MT_r10 hM | exact MT_t10 hM | exact MT_l10 hM) (by first | exact MT_0 hM | exact MT_now hM | exact MT_bt hM | exact MT_bl hM | exact MT_r0 hM | exact MT_t0 hM | exact MT_l0 hM | exact MT_r1 hM | exact MT_t1 hM | exact MT_l1 hM | exact MT_r2 hM | exact MT_t2 hM | exact MT_l2 hM | exact MT_r3 hM | exact MT_t3 hM | exact MT_l3 hM | exact MT_r4 hM | exact MT_t4 hM | exact MT_l4 hM | exact MT_r5 hM | exact MT_t5 hM | exact MT_l5 hM | exact MT_r6 hM | exact MT_t6 hM | exact MT_l6 hM | exact MT_r7 hM | exact MT_t7 hM | exact MT_l7 hM | exact MT_r8 hM | exact MT_t8 hM | exact MT_l8 hM | exact MT_r9 hM | exact MT_t9 hM | exact MT_l9 hM | exact MT_r10 hM | exact MT_t10 hM | exact MT_l10 hM) (gw_const at314_78 (gw_al0 at314_79 (gw_const at314_80 ?_))))
          refine gw_call2 at314_81 (m_node hM hb hk (by omega)) (by omega) (Nat.le_of_ble_eq_true rfl) (fun o M1 q81 => ?_)
          obtain ⟨rfl, rfl⟩ := q81
          show gw _ _ _ _ _ (gi _ :: gi 2 :: .ref b :: []) _ _
          have r1 := mnd_rg (o := -1) hb hk.1
          refine gw_iw at314_84 (by first | exact MT_0 hM | exact MT_now hM | exact MT_bt hM | exact MT_bl hM | exact MT_r0 hM | exact MT_t0 hM | exact MT_l0 hM | exact MT_r1 hM | exact MT_t1 hM | exact MT_l1 hM | exact MT_r2 hM | exact MT_t2 hM | exact MT_l2 hM | exact MT_r3 hM | exact MT_t3 hM | exact MT_l3 hM | exact MT_r4 hM | exact MT_t4 hM | exact MT_l4 hM | exact MT_r5 hM | exact MT_t5 hM | exact MT_l5 hM | exact MT_r6 hM | exact MT_t6 hM | exact MT_l6 hM | exact MT_r7 hM | exact MT_t7 hM | exact MT_l7 hM | exact MT_r8 hM | exact MT_t8 hM | exact MT_l8 hM | exact MT_r9 hM | exact MT_t9 hM | exact MT_l9 hM | exact MT_r10 hM | exact MT_t10 hM | exact MT_l10 hM) (by first | exact MT_0 hM | exact MT_now hM | exact MT_bt hM | exact MT_bl hM | exact MT_r0 hM | exact MT_t0 hM | exact MT_l0 hM | exact MT_r1 hM | exact MT_t1 hM | exact MT_l1 hM | exact MT_r2 hM | exact MT_t2 hM | exact MT_l2 hM | exact MT_r3 hM | exact MT_t3 hM | exact MT_l3 hM | exact MT_r4 hM | exact MT_t4 hM | exact MT_l4 hM | exact MT_r5 hM | exact MT_t5 hM | exact MT_l5 hM | exact MT_r6 hM | exact MT_t6 hM | exact MT_l6 hM | exact MT_r7 hM | exact MT_t7 hM | exact MT_l7 hM | exact MT_r8 hM | exact MT_t8 hM | exact MT_l8 hM | exact MT_r9 hM | exact MT_t9 hM | exact MT_l9 hM | exact MT_r10 hM | exact MT_t10 hM | exact MT_l10 hM) (by first | omega | exact h.1.1.1.1 _ _ | exact bi_rg _) (by first | omega | exact h.1.1.1.1 _ _ | exact bi_rg _) (by omega) (gw_goto at314_85 ?_)
          have g8 := MK_s hb h (MX_st1 hb (MX_rf h.1)).1
          unfold mstt
          first
          | (rw [mst1_0 q7] at *; exact m_st191 (by omega) hM hb g8)
          | (rw [mst1_1 q7 q24] at *; exact m_st191 (by omega) hM hb g8)
          | (rw [mst1_2 q7 q24 q41] at *; exact m_st191 (by omega) hM hb g8)
          | (rw [mst1_3 q7 q24 q41 q66] at *; exact m_st191 (by omega) hM hb g8)
          | (rw [mst1_4 q7 q24 q41 q66 q95] at *; exact m_st191 (by omega) hM hb g8)
          | (rw [mst1_5 q7 q24 q41 q66 q95 q127] at *; exact m_st191 (by omega) hM hb g8)
          | (rw [mst1_6 q7 q24 q41 q66 q95 q127 q152] at *; exact m_st191 (by omega) hM hb g8)
          | (rw [mst1_7 q7 q24 q41 q66 q95 q127 q152 q169] at *; exact m_st191 (by omega) hM hb g8)
          | (rw [mst1_8 q7 q24 q41 q66 q95 q127 q152 q169] at *; exact m_st191 (by omega) hM hb g8)
      · refine gw_al0 at314_44 (gw_const at314_45 ?_)
        refine gw_call2 at314_46 (m_once hM hb h (k := 0)) (by omega) (Nat.le_of_ble_eq_true rfl) (fun o M1 q46 => ?_)
        obtain ⟨rfl, rfl⟩ := q46
        show gw _ _ _ _ _ [] _ _
        have hx := MX_nc2 (k := 0) hb (MX_rf h.1)
        have hk := MK_s hb h hx.1
        refine gw_al0 at314_49 (gw_bip at314_50 (by decide) (gw_const at314_52 ?_))
        refine gw_call3 at314_53 (m_parseNumbers hM hb hk (Or.inl ⟨rfl, rfl⟩)) (by omega) (Nat.le_of_ble_eq_true rfl) (fun o M1 q53 => ?_)
        obtain ⟨rfl, rfl⟩ := q53
        show gw _ _ _ _ _ [] _ _
        refine gw_goto at314_56 ?_
        have g8 := MK_s hb h (MX_st1 hb (MX_rf h.1)).1
        unfold mstt
        first
        | (rw [mst1_0 q7] at *; exact m_st191 (by omega) hM hb g8)
        | (rw [mst1_1 q7 q24] at *; exact m_st191 (by omega) hM hb g8)
        | (rw [mst1_2 q7 q24 q41] at *; exact m_st191 (by omega) hM hb g8)
        | (rw [mst1_3 q7 q24 q41 q66] at *; exact m_st191 (by omega) hM hb g8)
        | (rw [mst1_4 q7 q24 q41 q66 q95] at *; exact m_st191 (by omega) hM hb g8)
        | (rw [mst1_5 q7 q24 q41 q66 q95 q127] at *; exact m_st191 (by omega) hM hb g8)
        | (rw [mst1_6 q7 q24 q41 q66 q95 q127 q152] at *; exact m_st191 (by omega) hM hb g8)
        | (rw [mst1_7 q7 q24 q41 q66 q95 q127 q152 q169] at *; exact m_st191 (by omega) hM hb g8)
        | (rw [mst1_8 q7 q24 q41 q66 q95 q127 q152 q169] at *; exact m_st191 (by omega) hM hb g8)
    · refine gw_al0 at314_27 ?_
      refine gw_call1 at314_28 (m_parseRoad hM hb h) (by omega) (Nat.le_of_ble_eq_true rfl) (fun o M1 q28 => ?_)
      obtain ⟨rfl, rfl⟩ := q28
      show gw _ _ _ _ _ [] _ _
      refine gw_goto at314_31 ?_
      have g8 := MK_s hb h (MX_st1 hb (MX_rf h.1)).1
      unfold mstt
      first
      | (rw [mst1_0 q7] at *; exact m_st191 (by omega) hM hb g8)
      | (rw [mst1_1 q7 q24] at *; exact m_st191 (by omega) hM hb g8)
      | (rw [mst1_2 q7 q24 q41] at *; exact m_st191 (by omega) hM hb g8)
      | (rw [mst1_3 q7 q24 q41 q66] at *; exact m_st191 (by omega) hM hb g8)
      | (rw [mst1_4 q7 q24 q41 q66 q95] at *; exact m_st191 (by omega) hM hb g8)
      | (rw [mst1_5 q7 q24 q41 q66 q95 q127] at *; exact m_st191 (by omega) hM hb g8)
      | (rw [mst1_6 q7 q24 q41 q66 q95 q127 q152] at *; exact m_st191 (by omega) hM hb g8)
      | (rw [mst1_7 q7 q24 q41 q66 q95 q127 q152 q169] at *; exact m_st191 (by omega) hM hb g8)
      | (rw [mst1_8 q7 q24 q41 q66 q95 q127 q152 q169] at *; exact m_st191 (by omega) hM hb g8)
  · refine gw_al0 at314_10 ?_
    refine gw_call1 at314_11 (m_parseNode hM hb h) (by omega) (Nat.le_of_ble_eq_true rfl) (fun o M1 q11 => ?_)
    obtain ⟨rfl, rfl⟩ := q11
    show gw _ _ _ _ _ [] _ _
    refine gw_goto at314_14 ?_
    have g8 := MK_s hb h (MX_st1 hb (MX_rf h.1)).1
    unfold mstt
    first
    | (rw [mst1_0 q7] at *; exact m_st191 (by omega) hM hb g8)
    | (rw [mst1_1 q7 q24] at *; exact m_st191 (by omega) hM hb g8)
    | (rw [mst1_2 q7 q24 q41] at *; exact m_st191 (by omega) hM hb g8)
    | (rw [mst1_3 q7 q24 q41 q66] at *; exact m_st191 (by omega) hM hb g8)
    | (rw [mst1_4 q7 q24 q41 q66 q95] at *; exact m_st191 (by omega) hM hb g8)
    | (rw [mst1_5 q7 q24 q41 q66 q95 q127] at *; exact m_st191 (by omega) hM hb g8)
    | (rw [mst1_6 q7 q24 q41 q66 q95 q127 q152] at *; exact m_st191 (by omega) hM hb g8)
    | (rw [mst1_7 q7 q24 q41 q66 q95 q127 q152 q169] at *; exact m_st191 (by omega) hM hb g8)
    | (rw [mst1_8 q7 q24 q41 q66 q95 q127 q152 q169] at *; exact m_st191 (by omega) hM hb g8)
