/-! the world: its shape, the snow, the plough -/
def WT (T : gT) (k : Nat) : Prop := (T.1 k).1 = 17 ∧ ((T.1 k).2.2 8 = k + 1 + 1 ∧ (T.1 (k + 1)).1 = 1 ∧ (T.1 (k + 1)).2.1 = 4) ∧ ((T.1 k).2.2 9 = k + 2 + 1 ∧ (T.1 (k + 2)).1 = 1 ∧ (T.1 (k + 2)).2.1 = 24) ∧ ((T.1 k).2.2 10 = k + 3 + 1 ∧ (T.1 (k + 3)).1 = 1 ∧ (T.1 (k + 3)).2.1 = 24) ∧ ((T.1 k).2.2 11 = k + 4 + 1 ∧ (T.1 (k + 4)).1 = 1 ∧ (T.1 (k + 4)).2.1 = 24)
theorem WT_0 {T : gT} {k : Nat} (h : WT T k) : (T.1 k).1 = 17 := h.1
theorem WT_r8 {T : gT} {k : Nat} (h : WT T k) : (T.1 k).2.2 8 = k + 1 + 1 := h.2.1.1
theorem WT_t8 {T : gT} {k : Nat} (h : WT T k) : (T.1 (k + 1)).1 = 1 := h.2.1.2.1
theorem WT_l8 {T : gT} {k : Nat} (h : WT T k) : (T.1 (k + 1)).2.1 = 4 := h.2.1.2.2
theorem WT_r9 {T : gT} {k : Nat} (h : WT T k) : (T.1 k).2.2 9 = k + 2 + 1 := h.2.2.1.1
theorem WT_t9 {T : gT} {k : Nat} (h : WT T k) : (T.1 (k + 2)).1 = 1 := h.2.2.1.2.1
theorem WT_l9 {T : gT} {k : Nat} (h : WT T k) : (T.1 (k + 2)).2.1 = 24 := h.2.2.1.2.2
theorem WT_r10 {T : gT} {k : Nat} (h : WT T k) : (T.1 k).2.2 10 = k + 3 + 1 := h.2.2.2.1.1
theorem WT_t10 {T : gT} {k : Nat} (h : WT T k) : (T.1 (k + 3)).1 = 1 := h.2.2.2.1.2.1
theorem WT_l10 {T : gT} {k : Nat} (h : WT T k) : (T.1 (k + 3)).2.1 = 24 := h.2.2.2.1.2.2
theorem WT_r11 {T : gT} {k : Nat} (h : WT T k) : (T.1 k).2.2 11 = k + 4 + 1 := h.2.2.2.2.1
theorem WT_t11 {T : gT} {k : Nat} (h : WT T k) : (T.1 (k + 4)).1 = 1 := h.2.2.2.2.2.1
theorem WT_l11 {T : gT} {k : Nat} (h : WT T k) : (T.1 (k + 4)).2.1 = 24 := h.2.2.2.2.2.2
/-- what is known of a world's numbers; B: how high its counters may be -/
def WR (c : gC) (w : Nat) (B : Int) : Prop := (0 ≤ B ∧ B ≤ 1500000000) ∧ (0 ≤ c w 1 ∧ c w 1 ≤ B) ∧ (-1 ≤ c w 2 ∧ c w 2 < 10) ∧ (-1 ≤ c w 3 ∧ c w 3 < 24) ∧ (0 ≤ c w 4 ∧ c w 4 ≤ 9999) ∧ (0 ≤ c w 5 ∧ c w 5 ≤ B) ∧ (0 ≤ c w 6 ∧ c w 6 ≤ B) ∧ (0 ≤ c w 7 ∧ c w 7 ≤ 99) ∧
  (∀ i : Int, 0 ≤ i → i < 4 → 0 ≤ c (w + 1) i ∧ c (w + 1) i ≤ B) ∧ (∀ i : Int, 0 ≤ i → i < 24 → (0 ≤ c (w + 2) i ∧ c (w + 2) i ≤ B) ∧ (0 ≤ c (w + 3) i ∧ c (w + 3) i ≤ 2000) ∧ (0 ≤ c (w + 4) i ∧ c (w + 4) i ≤ B + 1800))
/-- the depth of the snow -/
def sn (c : gC) (w : Nat) (a s : Int) : Int := if 0 ≤ a ∧ a < 24 then min 2000 (c (w + 3) a + c w 7 * max 0 (c w 1 + s - c (w + 4) a) / 3600) else 0
theorem sn_ge {c : gC} {w : Nat} {B : Int} (h : WR c w B) {a s : Int} (ha : 0 ≤ a ∧ a < 24) : c (w + 3) a ≤ sn c w a s := by
  unfold sn
  rw [if_pos ha]
  have h1 := (h.2.2.2.2.2.2.2.2.2 a ha.1 ha.2).2.1
  have h2 : 0 ≤ c w 7 * max 0 (c w 1 + s - c (w + 4) a) := Int.mul_nonneg h.2.2.2.2.2.2.2.1.1 (by omega)
  omega
theorem sn_rg {c : gC} {w : Nat} {B : Int} (h : WR c w B) (a s : Int) : 0 ≤ sn c w a s ∧ sn c w a s ≤ 2000 := by
  by_cases ha : 0 ≤ a ∧ a < 24
  · have h1 := sn_ge h (s := s) ha
    have h2 := (h.2.2.2.2.2.2.2.2.2 a ha.1 ha.2).2.1
    refine ⟨by omega, ?_⟩
    unfold sn
    rw [if_pos ha]
    omega
  · unfold sn
    rw [if_neg ha]
    omega
/-- when an arc has a depth -/
def su (c : gC) (w : Nat) (a p : Int) : Int := if p ≤ sn c w a 0 then 0 else if c w 7 ≤ 0 then -1 else
  if 1000000 < c (w + 4) a + ((p - c (w + 3) a) * 3600 + c w 7 - 1) / c w 7 - c w 1 then -1 else c (w + 4) a + ((p - c (w + 3) a) * 3600 + c w 7 - 1) / c w 7 - c w 1
set_option maxHeartbeats 1000000 in
theorem c_snowAfter {g : Nat} {T : gT} {c J : gC} {w : Nat} {B : Int} (hW : WT T w) (hc : RG c) (hR : WR c w B) {a s : Int} (ha : -2147483648 ≤ a ∧ a < 2147483648) (hs : 0 ≤ s ∧ s ≤ 1000000) : gE g 88 0 [.ref w, gi a, gi s] (gm T c J) (gR (gi (sn c w a s)) (gm T c J)) := by
  have r0 := hR.1
  have r1 := hR.2.1
  have r3 := hR.2.2.2.1
  have r7 := hR.2.2.2.2.2.2.2.1
  have ra : 0 ≤ a → a < 24 → (0 ≤ c (w + 2) a ∧ c (w + 2) a ≤ B) ∧ (0 ≤ c (w + 3) a ∧ c (w + 3) a ≤ 2000) ∧ (0 ≤ c (w + 4) a ∧ c (w + 4) a ≤ B + 1800) := fun h1 h2 => hR.2.2.2.2.2.2.2.2.2 a h1 h2
  have hm := mulb (a := c w 7) (b := max 0 (c w 1 + s - c (w + 4) a)) (A := 99) (B := 2147483647) r7
  have hc4 := hc (w + 4) a
  refine gE_mk am_r88 rfl (Or.inr ⟨_, rfl, (by first | exact WT_0 hW | exact WT_r10 hW | exact WT_t10 hW | exact WT_l10 hW | exact WT_r11 hW | exact WT_t11 hW | exact WT_l11 hW)⟩) (fun d hd => ?_)
  show gw d g 88 0 [.ref w, gi a, gi s, am_U, am_U, am_U, am_U] [] _ _
  refine gw_il1 at88_0 ?_
  refine gw_zlt at88_1 (by first | omega | exact hc _ _ | (have := ra (by omega) (by omega); omega) | (have := ra (by omega) (by omega); have := hm (by omega); omega)) (fun q1 => ?_) (fun q1 => ?_)
  · refine gw_const at88_10 (gw_ri at88_11 am_r88.2.1 (gR_i ?_))
    unfold sn; first | rw [if_neg (by omega)] | rw [if_pos (by omega)]
  · refine gw_il1 at88_4 (gw_bip at88_5 (by decide) ?_)
    refine gw_clt at88_7 (by first | omega | exact hc _ _ | (have := ra (by omega) (by omega); omega) | (have := ra (by omega) (by omega); have := hm (by omega); omega)) (by first | omega | exact hc _ _ | (have := ra (by omega) (by omega); omega) | (have := ra (by omega) (by omega); have := hm (by omega); omega)) (fun q7 => ?_) (fun q7 => ?_)
    · refine gw_lconst (z := 0) at88_12 rfl (gw_al0 at88_13 (gw_gf (j := 1) at88_14 (by first | exact WT_0 hW | exact WT_r10 hW | exact WT_t10 hW | exact WT_l10 hW | exact WT_r11 hW | exact WT_t11 hW | exact WT_l11 hW) rfl (gw_i2l at88_17 (by first | omega | exact hc _ _ | (have := ra (by omega) (by omega); omega) | (have := ra (by omega) (by omega); have := hm (by omega); omega)) (gw_il2 at88_18 (gw_i2l at88_19 (by first | omega | exact hc _ _ | (have := ra (by omega) (by omega); omega) | (have := ra (by omega) (by omega); have := hm (by omega); omega)) (gw_ladd at88_20 (gw_al0 at88_21 (gw_gr at88_22 (by first | exact WT_0 hW | exact WT_r10 hW | exact WT_t10 hW | exact WT_l10 hW | exact WT_r11 hW | exact WT_t11 hW | exact WT_l11 hW) (by first | exact WT_0 hW | exact WT_r10 hW | exact WT_t10 hW | exact WT_l10 hW | exact WT_r11 hW | exact WT_t11 hW | exact WT_l11 hW) (gw_il1 at88_25 (gw_ia at88_26 (by first | exact Or.inl (by first | exact WT_0 hW | exact WT_r10 hW | exact WT_t10 hW | exact WT_l10 hW | exact WT_r11 hW | exact WT_t11 hW | exact WT_l11 hW) | exact Or.inr (by first | exact WT_0 hW | exact WT_r10 hW | exact WT_t10 hW | exact WT_l10 hW | exact WT_r11 hW | exact WT_t11 hW | exact WT_l11 hW)) (by first | exact WT_0 hW | exact WT_r10 hW | exact WT_t10 hW | exact WT_l10 hW | exact WT_r11 hW | exact WT_t11 hW | exact WT_l11 hW) (by first | omega | exact hc _ _ | (have := ra (by omega) (by omega); omega) | (have := ra (by omega) (by omega); have := hm (by omega); omega)) (by first | omega | exact hc _ _ | (have := ra (by omega) (by omega); omega) | (have := ra (by omega) (by omega); have := hm (by omega); omega)) (by omega) (gw_i2l at88_27 (by first | omega | exact hc _ _ | (have := ra (by omega) (by omega); omega) | (have := ra (by omega) (by omega); have := hm (by omega); omega)) (gw_lsub at88_28 (gw_lmax at88_29 (by first | omega | exact hc _ _ | (have := ra (by omega) (by omega); omega) | (have := ra (by omega) (by omega); have := hm (by omega); omega)) (by first | omega | exact hc _ _ | (have := ra (by omega) (by omega); omega) | (have := ra (by omega) (by omega); have := hm (by omega); omega)) (Nat.le_of_ble_eq_true rfl) (gw_ls3 at88_32 (h := (gw_al0 at88_33 (gw_gr at88_34 (by first | exact WT_0 hW | exact WT_r10 hW | exact WT_t10 hW | exact WT_l10 hW | exact WT_r11 hW | exact WT_t11 hW | exact WT_l11 hW) (by first | exact WT_0 hW | exact WT_r10 hW | exact WT_t10 hW | exact WT_l10 hW | exact WT_r11 hW | exact WT_t11 hW | exact WT_l11 hW) (gw_il1 at88_37 (gw_ia at88_38 (by first | exact Or.inl (by first | exact WT_0 hW | exact WT_r10 hW | exact WT_t10 hW | exact WT_l10 hW | exact WT_r11 hW | exact WT_t11 hW | exact WT_l11 hW) | exact Or.inr (by first | exact WT_0 hW | exact WT_r10 hW | exact WT_t10 hW | exact WT_l10 hW | exact WT_r11 hW | exact WT_t11 hW | exact WT_l11 hW)) (by first | exact WT_0 hW | exact WT_r10 hW | exact WT_t10 hW | exact WT_l10 hW | exact WT_r11 hW | exact WT_t11 hW | exact WT_l11 hW) (by first | omega | exact hc _ _ | (have := ra (by omega) (by omega); omega) | (have := ra (by omega) (by omega); have := hm (by omega); omega)) (by first | omega | exact hc _ _ | (have := ra (by omega) (by omega); omega) | (have := ra (by omega) (by omega); have := hm (by omega); omega)) (by omega) (gw_i2l at88_39 (by first | omega | exact hc _ _ | (have := ra (by omega) (by omega); omega) | (have := ra (by omega) (by omega); have := hm (by omega); omega)) (gw_al0 at88_40 (gw_gf (j := 7) at88_41 (by first | exact WT_0 hW | exact WT_r10 hW | exact WT_t10 hW | exact WT_l10 hW | exact WT_r11 hW | exact WT_t11 hW | exact WT_l11 hW) rfl (gw_i2l at88_44 (by first | omega | exact hc _ _ | (have := ra (by omega) (by omega); omega) | (have := ra (by omega) (by omega); have := hm (by omega); omega)) (gw_ll3 at88_45 (gw_lmul at88_46 (gw_ldc2 (z := 3600) at88_47 (by decide) (gw_ldivp at88_50 (by first | omega | exact hc _ _ | (have := ra (by omega) (by omega); omega) | (have := ra (by omega) (by omega); have := hm (by omega); omega)) (by first | omega | exact hc _ _ | (have := ra (by omega) (by omega); omega) | (have := ra (by omega) (by omega); have := hm (by omega); omega)) (gw_ladd at88_51 (gw_ls5 at88_52 (h := (gw_ldc2 (z := 2000) at88_54 (by decide) (gw_ll5 at88_57 (gw_lmin at88_59 (by first | omega | exact hc _ _ | (have := ra (by omega) (by omega); omega) | (have := ra (by omega) (by omega); have := hm (by omega); omega)) (by first | omega | exact hc _ _ | (have := ra (by omega) (by omega); omega) | (have := ra (by omega) (by omega); have := hm (by omega); omega)) (Nat.le_of_ble_eq_true rfl) (gw_l2i at88_62 (gw_ri at88_63 am_r88.2.1 (gR_i ?_))))))))))))))))))))))))))))))))))))
      unfold sn; first | rw [if_neg (by omega)] | rw [if_pos (by omega)]
    · refine gw_const at88_10 (gw_ri at88_11 am_r88.2.1 (gR_i ?_))
      unfold sn; first | rw [if_neg (by omega)] | rw [if_pos (by omega)]
set_option maxHeartbeats 1000000 in
theorem c_deepestOf {g : Nat} {T : gT} {c J : gC} {w : Nat} {B : Int} (hW : WT T w) (hc : RG c) (hR : WR c w B) {s t : Int} (hs : -2147483648 ≤ s ∧ s < 2147483648) (ht : 0 ≤ t ∧ t ≤ 1000000) : gE g 89 1 [.ref w, gi s, gi t] (gm T c J) (gR (gi (am1 1 (fun a => if tb s a = true then -sn c w a t else 1) 24).1) (gm T c J)) := by
  refine gE_mk am_r89 rfl (Or.inr ⟨_, rfl, (by first | exact WT_0 hW)⟩) (fun d hd => ?_)
  show gw d g 89 0 [.ref w, gi s, gi t, am_U, am_U, am_U] [] _ _
  refine gw_const at89_0 (gw_is3 at89_1 (h := (gw_const at89_2 (gw_is4 at89_3 (h := (gw_const at89_5 (gw_is5 at89_6 (h := ?_))))))))
  have lp8 : ∀ n : Int, 0 ≤ n → n ≤ 24 → ∀ (u l : Int), (u, -l) = am1 1 (fun a => if tb s a = true then -sn c w a t else 1) n → gw d g 89 8 [.ref w, gi s, gi t, gi u, gi l, gi n] [] (gm T c J) (gR (gi (am1 1 (fun a => if tb s a = true then -sn c w a t else 1) 24).1) (gm T c J)) := by
    refine ind_up 24 ?_
    intro n hn0 hn1 ih u l hz
    have hs1 : u = (am1 1 (fun a => if tb s a = true then -sn c w a t else 1) n).1 := by rw [← hz]
    have hs2 : -l = (am1 1 (fun a => if tb s a = true then -sn c w a t else 1) n).2 := by rw [← hz]
    clear hz
    have hl1 : -1 ≤ l ∧ l ≤ 2000 := by
      rcases am1_spec (B := 1) (f := (fun a => if tb s a = true then -sn c w a t else 1)) hn0 with ⟨h, -⟩ | ⟨-, -, h, h3, -, -⟩
      · rw [h] at hs2; dsimp only at hs2; omega
      · rw [h] at hs2
        have := sn_rg hR (am1 1 (fun a => if tb s a = true then -sn c w a t else 1) n).1 t
        split at hs2 <;> omega
    refine gw_il5 at89_8 ?_
    refine gw_bip at89_10 (by decide) ?_
    refine gw_cge at89_12 (by first | omega | (have := sn_rg hR n t; omega)) (by first | omega | (have := sn_rg hR n t; omega)) (fun q12 => ?_) (fun q12 => ?_)
    · refine gw_il3 at89_54 (gw_ri at89_55 am_r89.2.1 (gR_i ?_))
      rw [hs1, show n = 24 by omega]
    · refine gw_il1 at89_15 (gw_il5 at89_16 (gw_callP2 at89_18 (c_contains) (by omega) (Nat.le_of_ble_eq_true rfl) ?_))
      refine gw_beq at89_21 (fun q21 => ?_) (fun q21 => ?_)
      · refine gw_inc5 at89_48 (h := (gw_goto at89_51 ?_))
        have hq := sn_rg hR n t
        refine ih (n + 1) (by omega) (by omega) _ _ ?_
        first | (rw [am1_lt hn0 (by rw [← hs2]; simp [*] <;> omega)]; simp [*]; done) | (rw [am1_ge hn0 (by rw [← hs2]; simp [*] <;> omega), hs1, hs2])
      · refine gw_al0 at89_24 (gw_il5 at89_25 (gw_il2 at89_27 (gw_callP3 at89_28 (c_snowAfter hW hc hR (by omega) ht) (by omega) (Nat.le_of_ble_eq_true rfl) (gw_il4 at89_31 ?_))))
        refine gw_cle at89_33 (by first | omega | (have := sn_rg hR n t; omega)) (by first | omega | (have := sn_rg hR n t; omega)) (fun q33 => ?_) (fun q33 => ?_)
        · refine gw_inc5 at89_48 (h := (gw_goto at89_51 ?_))
          have hq := sn_rg hR n t
          refine ih (n + 1) (by omega) (by omega) _ _ ?_
          first | (rw [am1_lt hn0 (by rw [← hs2]; simp [*] <;> omega)]; simp [*]; done) | (rw [am1_ge hn0 (by rw [← hs2]; simp [*] <;> omega), hs1, hs2])
        · refine gw_al0 at89_36 (gw_il5 at89_37 (gw_il2 at89_39 (gw_callP3 at89_40 (c_snowAfter hW hc hR (by omega) ht) (by omega) (Nat.le_of_ble_eq_true rfl) (gw_is4 at89_43 (h := (gw_il5 at89_45 (gw_is3 at89_47 (h := (gw_inc5 at89_48 (h := (gw_goto at89_51 ?_)))))))))))
          have hq := sn_rg hR n t
          refine ih (n + 1) (by omega) (by omega) _ _ ?_
          first | (rw [am1_lt hn0 (by rw [← hs2]; simp [*] <;> omega)]; simp [*]; done) | (rw [am1_ge hn0 (by rw [← hs2]; simp [*] <;> omega), hs1, hs2])
  exact lp8 0 (by omega) (by omega) _ _ rfl
set_option maxHeartbeats 1000000 in
theorem c_secondsUntil {g : Nat} {T : gT} {c J : gC} {w : Nat} {B : Int} (hW : WT T w) (hc : RG c) (hR : WR c w B) {a p : Int} (ha : 0 ≤ a ∧ a < 24) (hp : 0 ≤ p ∧ p ≤ 2000) : gE g 91 1 [.ref w, gi a, gi p] (gm T c J) (gR (gi (su c w a p)) (gm T c J)) := by
  have r0 := hR.1
  have r1 := hR.2.1
  have r3 := hR.2.2.2.1
  have r7 := hR.2.2.2.2.2.2.2.1
  have ra : 0 ≤ a → a < 24 → (0 ≤ c (w + 2) a ∧ c (w + 2) a ≤ B) ∧ (0 ≤ c (w + 3) a ∧ c (w + 3) a ≤ 2000) ∧ (0 ≤ c (w + 4) a ∧ c (w + 4) a ≤ B + 1800) := fun h1 h2 => hR.2.2.2.2.2.2.2.2.2 a h1 h2
  have hg := sn_ge hR (s := 0) ha
  have hz := ra ha.1 ha.2
  have hd0 : 0 < c w 7 → 0 ≤ ((p - c (w + 3) a) * 3600 + c w 7 - 1) → 0 ≤ ((p - c (w + 3) a) * 3600 + c w 7 - 1) / c w 7 ∧ ((p - c (w + 3) a) * 3600 + c w 7 - 1) / c w 7 ≤ ((p - c (w + 3) a) * 3600 + c w 7 - 1) := fun h1 h2 => ⟨Int.ediv_nonneg h2 (by omega), Int.ediv_le_self _ h2⟩
  refine gE_mk am_r91 rfl (Or.inr ⟨_, rfl, (by first | exact WT_0 hW | exact WT_r10 hW | exact WT_t10 hW | exact WT_l10 hW | exact WT_r11 hW | exact WT_t11 hW | exact WT_l11 hW)⟩) (fun d hd => ?_)
  show gw d g 91 0 [.ref w, gi a, gi p, am_U, am_U, am_U, am_U] [] _ _
  refine gw_al0 at91_0 (gw_il1 at91_1 (gw_const at91_2 (gw_callP3 at91_3 (c_snowAfter hW hc hR (by omega) (by omega)) (by omega) (Nat.le_of_ble_eq_true rfl) (gw_il2 at91_6 ?_))))
  refine gw_clt at91_7 (by first | omega | exact hc _ _ | (have := sn_rg hR a 0; omega) | (have := hd0 (by omega) (by omega); omega)) (by first | omega | exact hc _ _ | (have := sn_rg hR a 0; omega) | (have := hd0 (by omega) (by omega); omega)) (fun q7 => ?_) (fun q7 => ?_)
  · refine gw_al0 at91_12 (gw_gf (j := 7) at91_13 (by first | exact WT_0 hW | exact WT_r10 hW | exact WT_t10 hW | exact WT_l10 hW | exact WT_r11 hW | exact WT_t11 hW | exact WT_l11 hW) rfl ?_)
    refine gw_zle at91_16 (by first | omega | exact hc _ _ | (have := sn_rg hR a 0; omega) | (have := hd0 (by omega) (by omega); omega)) (fun q16 => ?_) (fun q16 => ?_)
    · refine gw_const at91_29 (gw_ri at91_30 am_r91.2.1 (gR_i ?_))
      unfold su; first | (rw [if_pos (by omega)]; done) | (rw [if_neg (by omega), if_pos (by omega)]; done) | (rw [if_neg (by omega), if_neg (by omega), if_pos (by omega)]; done) | (rw [if_neg (by omega), if_neg (by omega), if_neg (by omega)]; done) | (exfalso; omega)
    · refine gw_il1 at91_19 ?_
      refine gw_zlt at91_20 (by first | omega | exact hc _ _ | (have := sn_rg hR a 0; omega) | (have := hd0 (by omega) (by omega); omega)) (fun q20 => ?_) (fun q20 => ?_)
      · refine gw_const at91_29 (gw_ri at91_30 am_r91.2.1 (gR_i ?_))
        unfold su; first | (rw [if_pos (by omega)]; done) | (rw [if_neg (by omega), if_pos (by omega)]; done) | (rw [if_neg (by omega), if_neg (by omega), if_pos (by omega)]; done) | (rw [if_neg (by omega), if_neg (by omega), if_neg (by omega)]; done) | (exfalso; omega)
      · refine gw_il1 at91_23 (gw_bip at91_24 (by decide) ?_)
        refine gw_clt at91_26 (by first | omega | exact hc _ _ | (have := sn_rg hR a 0; omega) | (have := hd0 (by omega) (by omega); omega)) (by first | omega | exact hc _ _ | (have := sn_rg hR a 0; omega) | (have := hd0 (by omega) (by omega); omega)) (fun q26 => ?_) (fun q26 => ?_)
        · refine gw_il2 at91_31 (gw_al0 at91_32 (gw_gr at91_33 (by first | exact WT_0 hW | exact WT_r10 hW | exact WT_t10 hW | exact WT_l10 hW | exact WT_r11 hW | exact WT_t11 hW | exact WT_l11 hW) (by first | exact WT_0 hW | exact WT_r10 hW | exact WT_t10 hW | exact WT_l10 hW | exact WT_r11 hW | exact WT_t11 hW | exact WT_l11 hW) (gw_il1 at91_36 (gw_ia at91_37 (by first | exact Or.inl (by first | exact WT_0 hW | exact WT_r10 hW | exact WT_t10 hW | exact WT_l10 hW | exact WT_r11 hW | exact WT_t11 hW | exact WT_l11 hW) | exact Or.inr (by first | exact WT_0 hW | exact WT_r10 hW | exact WT_t10 hW | exact WT_l10 hW | exact WT_r11 hW | exact WT_t11 hW | exact WT_l11 hW)) (by first | exact WT_0 hW | exact WT_r10 hW | exact WT_t10 hW | exact WT_l10 hW | exact WT_r11 hW | exact WT_t11 hW | exact WT_l11 hW) (by first | omega | exact hc _ _ | (have := sn_rg hR a 0; omega) | (have := hd0 (by omega) (by omega); omega)) (by first | omega | exact hc _ _ | (have := sn_rg hR a 0; omega) | (have := hd0 (by omega) (by omega); omega)) (by omega) (gw_isub at91_38 (gw_i2l at91_39 (by first | omega | exact hc _ _ | (have := sn_rg hR a 0; omega) | (have := hd0 (by omega) (by omega); omega)) (gw_ldc2 (z := 3600) at91_40 (by decide) (gw_lmul at91_43 (gw_ls3 at91_44 (h := (gw_al0 at91_45 (gw_gr at91_46 (by first | exact WT_0 hW | exact WT_r10 hW | exact WT_t10 hW | exact WT_l10 hW | exact WT_r11 hW | exact WT_t11 hW | exact WT_l11 hW) (by first | exact WT_0 hW | exact WT_r10 hW | exact WT_t10 hW | exact WT_l10 hW | exact WT_r11 hW | exact WT_t11 hW | exact WT_l11 hW) (gw_il1 at91_49 (gw_ia at91_50 (by first | exact Or.inl (by first | exact WT_0 hW | exact WT_r10 hW | exact WT_t10 hW | exact WT_l10 hW | exact WT_r11 hW | exact WT_t11 hW | exact WT_l11 hW) | exact Or.inr (by first | exact WT_0 hW | exact WT_r10 hW | exact WT_t10 hW | exact WT_l10 hW | exact WT_r11 hW | exact WT_t11 hW | exact WT_l11 hW)) (by first | exact WT_0 hW | exact WT_r10 hW | exact WT_t10 hW | exact WT_l10 hW | exact WT_r11 hW | exact WT_t11 hW | exact WT_l11 hW) (by first | omega | exact hc _ _ | (have := sn_rg hR a 0; omega) | (have := hd0 (by omega) (by omega); omega)) (by first | omega | exact hc _ _ | (have := sn_rg hR a 0; omega) | (have := hd0 (by omega) (by omega); omega)) (by omega) (gw_i2l at91_51 (by first | omega | exact hc _ _ | (have := sn_rg hR a 0; omega) | (have := hd0 (by omega) (by omega); omega)) (gw_ll3 at91_52 (gw_al0 at91_53 (gw_gf (j := 7) at91_54 (by first | exact WT_0 hW | exact WT_r10 hW | exact WT_t10 hW | exact WT_l10 hW | exact WT_r11 hW | exact WT_t11 hW | exact WT_l11 hW) rfl (gw_i2l at91_57 (by first | omega | exact hc _ _ | (have := sn_rg hR a 0; omega) | (have := hd0 (by omega) (by omega); omega)) (gw_ladd at91_58 (gw_lconst (z := 1) at91_59 rfl (gw_lsub at91_60 (gw_al0 at91_61 (gw_gf (j := 7) at91_62 (by first | exact WT_0 hW | exact WT_r10 hW | exact WT_t10 hW | exact WT_l10 hW | exact WT_r11 hW | exact WT_t11 hW | exact WT_l11 hW) rfl (gw_i2l at91_65 (by first | omega | exact hc _ _ | (have := sn_rg hR a 0; omega) | (have := hd0 (by omega) (by omega); omega)) (gw_ldivp at91_66 (by first | omega | exact hc _ _ | (have := sn_rg hR a 0; omega) | (have := hd0 (by omega) (by omega); omega)) (by first | omega | exact hc _ _ | (have := sn_rg hR a 0; omega) | (have := hd0 (by omega) (by omega); omega)) (gw_ladd at91_67 (gw_al0 at91_68 (gw_gf (j := 1) at91_69 (by first | exact WT_0 hW | exact WT_r10 hW | exact WT_t10 hW | exact WT_l10 hW | exact WT_r11 hW | exact WT_t11 hW | exact WT_l11 hW) rfl (gw_i2l at91_72 (by first | omega | exact hc _ _ | (have := sn_rg hR a 0; omega) | (have := hd0 (by omega) (by omega); omega)) (gw_lsub at91_73 (gw_ls5 at91_74 (h := (gw_ll5 at91_76 (gw_ldc2 (z := 1000000) at91_78 (by decide) ?_)))))))))))))))))))))))))))))))))))
          refine gw_lcle at91_81 at91_82 (by first | omega | exact hc _ _ | (have := sn_rg hR a 0; omega) | (have := hd0 (by omega) (by omega); omega)) (by first | omega | exact hc _ _ | (have := sn_rg hR a 0; omega) | (have := hd0 (by omega) (by omega); omega)) (fun q81 => ?_) (fun q81 => ?_)
          · refine gw_ll5 at91_89 (gw_l2i at91_91 (gw_ri at91_92 am_r91.2.1 (gR_i ?_)))
            unfold su; first | (rw [if_pos (by omega)]; done) | (rw [if_neg (by omega), if_pos (by omega)]; done) | (rw [if_neg (by omega), if_neg (by omega), if_pos (by omega)]; done) | (rw [if_neg (by omega), if_neg (by omega), if_neg (by omega)]; done) | (exfalso; omega)
          · refine gw_const at91_85 (gw_goto at91_86 (gw_ri at91_92 am_r91.2.1 (gR_i ?_)))
            unfold su; first | (rw [if_pos (by omega)]; done) | (rw [if_neg (by omega), if_pos (by omega)]; done) | (rw [if_neg (by omega), if_neg (by omega), if_pos (by omega)]; done) | (rw [if_neg (by omega), if_neg (by omega), if_neg (by omega)]; done) | (exfalso; omega)
        · refine gw_const at91_29 (gw_ri at91_30 am_r91.2.1 (gR_i ?_))
          unfold su; first | (rw [if_pos (by omega)]; done) | (rw [if_neg (by omega), if_pos (by omega)]; done) | (rw [if_neg (by omega), if_neg (by omega), if_pos (by omega)]; done) | (rw [if_neg (by omega), if_neg (by omega), if_neg (by omega)]; done) | (exfalso; omega)
  · refine gw_const at91_10 (gw_ri at91_11 am_r91.2.1 (gR_i ?_))
    unfold su; first | (rw [if_pos (by omega)]; done) | (rw [if_neg (by omega), if_pos (by omega)]; done) | (rw [if_neg (by omega), if_neg (by omega), if_pos (by omega)]; done) | (rw [if_neg (by omega), if_neg (by omega), if_neg (by omega)]; done) | (exfalso; omega)
