/-! the reference: writing -/
def mput (c : gC) (v : Int) : gC := gu (gu c 200010 (c 500001 25) (zi2b v)) 500001 25 (c 500001 25 + 1)
/-- at most L bytes are written, and nothing else -/
def WK (c m : gC) (L : Int) : Prop := RG m ∧ (c 500001 25 ≤ m 500001 25 ∧ m 500001 25 ≤ c 500001 25 + L) ∧ (∀ x : Nat, ¬ x = 500001 → ¬ x = 200010 → m x = c x) ∧ ∀ j, ¬ j = 25 → m 500001 j = c 500001 j
theorem WK_rf {c : gC} (h : RG c) : WK c c 0 := ⟨h, by omega, fun _ _ _ => rfl, fun _ _ => rfl⟩
theorem WK_tr {c m n : gC} {L L2 : Int} (h : WK c m L) (h2 : WK m n L2) : WK c n (L + L2) := by
  obtain ⟨a1, a2, a3, a4⟩ := h
  obtain ⟨b1, b2, b3, b4⟩ := h2
  exact ⟨b1, by omega, fun x p q => by rw [b3 x p q, a3 x p q], fun j p => by rw [b4 j p, a4 j p]⟩
theorem WK_le {c m : gC} {L L2 : Int} (h : WK c m L) (h2 : L ≤ L2) : WK c m L2 := ⟨h.1, by have := h.2.1; omega, h.2.2⟩
theorem mput_ok {c : gC} {v : Int} (h : RG c) (h2 : 0 ≤ c 500001 25 ∧ c 500001 25 < 1500) : WK c (mput c v) 1 := by
  have h1 := zi2b_rg v
  refine ⟨RG_gu (RG_gu h (by omega)) (by omega), ?_, fun x p q => funext fun j => ?_, fun j p => ?_⟩
  · unfold mput; rw [gu_s]; omega
  · unfold mput; rw [gu_k p, gu_k q]
  · unfold mput; rw [gu_j p, gu_k (by decide)]
/-- a text, a number, a name written -/
def mwtf (c : gC) (n : Nat) (j : Int) (m : gC) : gC := mput m (c (910000 + n) j)
def mwt (c : gC) (n : Nat) (l : Int) : gC := itI (mwtf c n) c l
def mwdf (v i : Int) (m : gC) : gC := if un10 i ≤ v ∨ un10 i = 1 then mput m (48 + v / un10 i % 10) else m
def mwn (v : Int) (c : gC) : gC := itI (mwdf v) (mput c 32) 4
def mwlf (v i : Int) (m : gC) : gC := if 0 < v / un27 i % 27 then mput m (97 + v / un27 i % 27 - 1) else m
def mwm (v : Int) (c : gC) : gC := itI (mwlf v) (mput c 32) 6
theorem wit_ok {f : Int → gC → gC} (hf : ∀ i m, RG m → 0 ≤ m 500001 25 ∧ m 500001 25 < 1500 → WK m (f i m) 1) {c : gC} {N : Int} (hc : RG c) (h : 0 ≤ c 500001 25 ∧ c 500001 25 + N ≤ 1500) {i : Int} (h0 : 0 ≤ i) (h1 : i ≤ N) : WK c (itI f c i) i := by
  refine itI_inv3 (fun k m => WK c m k) (N := N) (WK_rf hc) (fun j s j0 j1 hs => ?_) h0 h1
  have := hs.2.1
  exact WK_tr hs (hf j s hs.1 (by omega))
theorem mwtf_ok {c : gC} {n : Nat} (i : Int) (m : gC) (h : RG m) (h2 : 0 ≤ m 500001 25 ∧ m 500001 25 < 1500) : WK m (mwtf c n i m) 1 := mput_ok h h2
theorem mwdf_ok {v : Int} (i : Int) (m : gC) (h : RG m) (h2 : 0 ≤ m 500001 25 ∧ m 500001 25 < 1500) : WK m (mwdf v i m) 1 := by
  unfold mwdf
  split
  · exact mput_ok h h2
  · exact WK_le (WK_rf h) (by decide)
theorem mwlf_ok {v : Int} (i : Int) (m : gC) (h : RG m) (h2 : 0 ≤ m 500001 25 ∧ m 500001 25 < 1500) : WK m (mwlf v i m) 1 := by
  unfold mwlf
  split
  · exact mput_ok h h2
  · exact WK_le (WK_rf h) (by decide)
theorem mwt_ok {c : gC} {n : Nat} {l : Int} (hl : 0 ≤ l) (hc : RG c) (h : 0 ≤ c 500001 25 ∧ c 500001 25 + l ≤ 1500) : WK c (mwt c n l) l := wit_ok mwtf_ok hc h hl (Int.le_refl _)
theorem mwn_ok {v : Int} {c : gC} (hc : RG c) (h : 0 ≤ c 500001 25 ∧ c 500001 25 + 5 ≤ 1500) : WK c (mwn v c) 5 := by
  have h1 := mput_ok (v := 32) hc (by omega)
  have := h1.2.1
  exact WK_tr h1 (wit_ok mwdf_ok (N := 4) h1.1 (by omega) (by decide) (by decide))
theorem mwm_ok {v : Int} {c : gC} (hc : RG c) (h : 0 ≤ c 500001 25 ∧ c 500001 25 + 7 ≤ 1500) : WK c (mwm v c) 7 := by
  have h1 := mput_ok (v := 32) hc (by omega)
  have := h1.2.1
  exact WK_tr h1 (wit_ok mwlf_ok (N := 6) h1.1 (by omega) (by decide) (by decide))
theorem mwdf_t {v i : Int} {m : gC} (h : un10 i ≤ v ∨ un10 i = 1) : mwdf v i m = mput m (48 + v / un10 i % 10) := if_pos h
theorem mwdf_f {v i : Int} {m : gC} (h : ¬ (un10 i ≤ v ∨ un10 i = 1)) : mwdf v i m = m := if_neg h
theorem mwlf_t {v i : Int} {m : gC} (h : 0 < v / un27 i % 27) : mwlf v i m = mput m (97 + v / un27 i % 27 - 1) := if_pos h
theorem mwlf_f {v i : Int} {m : gC} (h : ¬ 0 < v / un27 i % 27) : mwlf v i m = m := if_neg h
theorem un10_d {a b : Int} (h : 0 ≤ a) (h2 : a < b) (h3 : b ≤ 3) : 10 * un10 b ≤ un10 a := by
  rcases (show (a = 0 ∧ b = 1) ∨ (a = 0 ∧ b = 2) ∨ (a = 0 ∧ b = 3) ∨ (a = 1 ∧ b = 2) ∨ (a = 1 ∧ b = 3) ∨ (a = 2 ∧ b = 3) by omega) with ⟨e, e2⟩ | ⟨e, e2⟩ | ⟨e, e2⟩ | ⟨e, e2⟩ | ⟨e, e2⟩ | ⟨e, e2⟩ <;> subst e <;> subst e2 <;> decide
theorem un10_u {a b : Int} (h : 0 ≤ a) (h2 : a ≤ b) (h3 : b ≤ 3) : un10 b ≤ un10 a := by
  by_cases e : a = b
  · rw [e]; exact Int.le_refl _
  · have := un10_d h (show a < b by omega) h3
    have := (un10_rg (i := b) (by omega)).1
    omega
theorem mwdf_skip {v q : Int} {c : gC} (hq : 0 ≤ q ∧ q ≤ 3) (h : v < 10 * un10 q) : itI (mwdf v) c q = c := by
  refine itI_inv3 (fun _ m => m = c) (N := q) rfl (fun j s j0 j1 hs => ?_) hq.1 (Int.le_refl _)
  have h1 := un10_d j0 j1 hq.2
  have h2 := (un10_rg (i := q) (by omega)).2.2
  have h3 := (un10_rg (i := q) (by omega)).1
  rw [mwdf_f (by omega)]
  exact hs
theorem un27_m {s : Int} (h : 0 ≤ s ∧ s < 5) : un27 (5 - (s + 1)) = un27 (5 - s) * 27 := by
  rcases (show s = 0 ∨ s = 1 ∨ s = 2 ∨ s = 3 ∨ s = 4 by omega) with e | e | e | e | e <;> subst e <;> decide
set_option maxHeartbeats 1000000 in
theorem m_write {g : Nat} {T : gT} {c J : gC} {b : Nat} (hM : MT T b) (hc : RG c) (hA : 0 ≤ c 500001 25 ∧ c 500001 25 < 1500) {v : Int} : gE g 320 0 [.ref 500001, gi v] (gm T c J) (fun o M1 => o = .inl none ∧ M1 = gm T (mput c v) J) := by
  refine gE_mk am_r320 rfl (Or.inr ⟨_, rfl, (by first | exact MT_0 hM | exact MT_now hM | exact MT_bt hM | exact MT_bl hM | exact MT_r0 hM | exact MT_t0 hM | exact MT_l0 hM | exact MT_r1 hM | exact MT_t1 hM | exact MT_l1 hM | exact MT_r2 hM | exact MT_t2 hM | exact MT_l2 hM | exact MT_r3 hM | exact MT_t3 hM | exact MT_l3 hM | exact MT_r4 hM | exact MT_t4 hM | exact MT_l4 hM | exact MT_r5 hM | exact MT_t5 hM | exact MT_l5 hM | exact MT_r6 hM | exact MT_t6 hM | exact MT_l6 hM | exact MT_r7 hM | exact MT_t7 hM | exact MT_l7 hM | exact MT_r8 hM | exact MT_t8 hM | exact MT_l8 hM | exact MT_r9 hM | exact MT_t9 hM | exact MT_l9 hM | exact MT_r10 hM | exact MT_t10 hM | exact MT_l10 hM)⟩) (fun d hd => ?_)
  show gw d g 320 0 [.ref 500001, gi v] [] _ _
  refine gw_al0 at320_0 (gw_gr at320_1 (by first | exact MT_0 hM | exact MT_now hM | exact MT_bt hM | exact MT_bl hM | exact MT_r0 hM | exact MT_t0 hM | exact MT_l0 hM | exact MT_r1 hM | exact MT_t1 hM | exact MT_l1 hM | exact MT_r2 hM | exact MT_t2 hM | exact MT_l2 hM | exact MT_r3 hM | exact MT_t3 hM | exact MT_l3 hM | exact MT_r4 hM | exact MT_t4 hM | exact MT_l4 hM | exact MT_r5 hM | exact MT_t5 hM | exact MT_l5 hM | exact MT_r6 hM | exact MT_t6 hM | exact MT_l6 hM | exact MT_r7 hM | exact MT_t7 hM | exact MT_l7 hM | exact MT_r8 hM | exact MT_t8 hM | exact MT_l8 hM | exact MT_r9 hM | exact MT_t9 hM | exact MT_l9 hM | exact MT_r10 hM | exact MT_t10 hM | exact MT_l10 hM) (by first | exact MT_0 hM | exact MT_now hM | exact MT_bt hM | exact MT_bl hM | exact MT_r0 hM | exact MT_t0 hM | exact MT_l0 hM | exact MT_r1 hM | exact MT_t1 hM | exact MT_l1 hM | exact MT_r2 hM | exact MT_t2 hM | exact MT_l2 hM | exact MT_r3 hM | exact MT_t3 hM | exact MT_l3 hM | exact MT_r4 hM | exact MT_t4 hM | exact MT_l4 hM | exact MT_r5 hM | exact MT_t5 hM | exact MT_l5 hM | exact MT_r6 hM | exact MT_t6 hM | exact MT_l6 hM | exact MT_r7 hM | exact MT_t7 hM | exact MT_l7 hM | exact MT_r8 hM | exact MT_t8 hM | exact MT_l8 hM | exact MT_r9 hM | exact MT_t9 hM | exact MT_l9 hM | exact MT_r10 hM | exact MT_t10 hM | exact MT_l10 hM) (gw_al0 at320_4 (gw_gf (j := 25) at320_5 (by first | exact MT_0 hM | exact MT_now hM | exact MT_bt hM | exact MT_bl hM | exact MT_r0 hM | exact MT_t0 hM | exact MT_l0 hM | exact MT_r1 hM | exact MT_t1 hM | exact MT_l1 hM | exact MT_r2 hM | exact MT_t2 hM | exact MT_l2 hM | exact MT_r3 hM | exact MT_t3 hM | exact MT_l3 hM | exact MT_r4 hM | exact MT_t4 hM | exact MT_l4 hM | exact MT_r5 hM | exact MT_t5 hM | exact MT_l5 hM | exact MT_r6 hM | exact MT_t6 hM | exact MT_l6 hM | exact MT_r7 hM | exact MT_t7 hM | exact MT_l7 hM | exact MT_r8 hM | exact MT_t8 hM | exact MT_l8 hM | exact MT_r9 hM | exact MT_t9 hM | exact MT_l9 hM | exact MT_r10 hM | exact MT_t10 hM | exact MT_l10 hM) rfl (gw_il1 at320_8 (gw_i2b at320_9 (gw_bw at320_10 (by first | exact MT_0 hM | exact MT_now hM | exact MT_bt hM | exact MT_bl hM | exact MT_r0 hM | exact MT_t0 hM | exact MT_l0 hM | exact MT_r1 hM | exact MT_t1 hM | exact MT_l1 hM | exact MT_r2 hM | exact MT_t2 hM | exact MT_l2 hM | exact MT_r3 hM | exact MT_t3 hM | exact MT_l3 hM | exact MT_r4 hM | exact MT_t4 hM | exact MT_l4 hM | exact MT_r5 hM | exact MT_t5 hM | exact MT_l5 hM | exact MT_r6 hM | exact MT_t6 hM | exact MT_l6 hM | exact MT_r7 hM | exact MT_t7 hM | exact MT_l7 hM | exact MT_r8 hM | exact MT_t8 hM | exact MT_l8 hM | exact MT_r9 hM | exact MT_t9 hM | exact MT_l9 hM | exact MT_r10 hM | exact MT_t10 hM | exact MT_l10 hM) (by first | exact MT_0 hM | exact MT_now hM | exact MT_bt hM | exact MT_bl hM | exact MT_r0 hM | exact MT_t0 hM | exact MT_l0 hM | exact MT_r1 hM | exact MT_t1 hM | exact MT_l1 hM | exact MT_r2 hM | exact MT_t2 hM | exact MT_l2 hM | exact MT_r3 hM | exact MT_t3 hM | exact MT_l3 hM | exact MT_r4 hM | exact MT_t4 hM | exact MT_l4 hM | exact MT_r5 hM | exact MT_t5 hM | exact MT_l5 hM | exact MT_r6 hM | exact MT_t6 hM | exact MT_l6 hM | exact MT_r7 hM | exact MT_t7 hM | exact MT_l7 hM | exact MT_r8 hM | exact MT_t8 hM | exact MT_l8 hM | exact MT_r9 hM | exact MT_t9 hM | exact MT_l9 hM | exact MT_r10 hM | exact MT_t10 hM | exact MT_l10 hM) (by first | omega | exact hc _ _) (by first | omega | exact hc _ _) (by omega) (gw_al0 at320_11 (gw_dupr at320_12 (gw_gf (j := 25) at320_13 (by first | exact MT_0 hM | exact MT_now hM | exact MT_bt hM | exact MT_bl hM | exact MT_r0 hM | exact MT_t0 hM | exact MT_l0 hM | exact MT_r1 hM | exact MT_t1 hM | exact MT_l1 hM | exact MT_r2 hM | exact MT_t2 hM | exact MT_l2 hM | exact MT_r3 hM | exact MT_t3 hM | exact MT_l3 hM | exact MT_r4 hM | exact MT_t4 hM | exact MT_l4 hM | exact MT_r5 hM | exact MT_t5 hM | exact MT_l5 hM | exact MT_r6 hM | exact MT_t6 hM | exact MT_l6 hM | exact MT_r7 hM | exact MT_t7 hM | exact MT_l7 hM | exact MT_r8 hM | exact MT_t8 hM | exact MT_l8 hM | exact MT_r9 hM | exact MT_t9 hM | exact MT_l9 hM | exact MT_r10 hM | exact MT_t10 hM | exact MT_l10 hM) rfl (gw_const at320_16 (gw_iadd at320_17 (gw_pf (j := 25) at320_18 (by first | exact MT_0 hM | exact MT_now hM | exact MT_bt hM | exact MT_bl hM | exact MT_r0 hM | exact MT_t0 hM | exact MT_l0 hM | exact MT_r1 hM | exact MT_t1 hM | exact MT_l1 hM | exact MT_r2 hM | exact MT_t2 hM | exact MT_l2 hM | exact MT_r3 hM | exact MT_t3 hM | exact MT_l3 hM | exact MT_r4 hM | exact MT_t4 hM | exact MT_l4 hM | exact MT_r5 hM | exact MT_t5 hM | exact MT_l5 hM | exact MT_r6 hM | exact MT_t6 hM | exact MT_l6 hM | exact MT_r7 hM | exact MT_t7 hM | exact MT_l7 hM | exact MT_r8 hM | exact MT_t8 hM | exact MT_l8 hM | exact MT_r9 hM | exact MT_t9 hM | exact MT_l9 hM | exact MT_r10 hM | exact MT_t10 hM | exact MT_l10 hM) rfl (gw_rv at320_21 am_r320.2.1 ⟨rfl, ?_⟩)))))))))))))
  unfold mput
  rw [zi2b_2, show gu c 200010 (c 500001 25) (zi2b v) 500001 25 = c 500001 25 from gu_k (by decide)]
set_option maxHeartbeats 1000000 in
theorem m_writeText {g : Nat} {T : gT} {c J : gC} {b : Nat} (hM : MT T b) (hc : RG c) {n l : Nat} (hA : 0 ≤ c 500001 25 ∧ c 500001 25 + (l : Int) ≤ 1500) (hL : LT T c) (hn : n < 20) (hl : am_tlen.getD n 0 = l) : gE g 321 4 [.ref 500001, .ref (900000 + n)] (gm T c J) (fun o M1 => o = .inl none ∧ M1 = gm T (mwt c n l) J) := by
  have hS := hL n hn
  rw [hl] at hS
  have h6 := hS.2.2.2.2.2.1
  refine gE_mk am_r321 rfl (Or.inr ⟨_, rfl, (by first | exact MT_0 hM | exact MT_now hM | exact MT_bt hM | exact MT_bl hM | exact MT_r0 hM | exact MT_t0 hM | exact MT_l0 hM | exact MT_r1 hM | exact MT_t1 hM | exact MT_l1 hM | exact MT_r2 hM | exact MT_t2 hM | exact MT_l2 hM | exact MT_r3 hM | exact MT_t3 hM | exact MT_l3 hM | exact MT_r4 hM | exact MT_t4 hM | exact MT_l4 hM | exact MT_r5 hM | exact MT_t5 hM | exact MT_l5 hM | exact MT_r6 hM | exact MT_t6 hM | exact MT_l6 hM | exact MT_r7 hM | exact MT_t7 hM | exact MT_l7 hM | exact MT_r8 hM | exact MT_t8 hM | exact MT_l8 hM | exact MT_r9 hM | exact MT_t9 hM | exact MT_l9 hM | exact MT_r10 hM | exact MT_t10 hM | exact MT_l10 hM)⟩) (fun d hd => ?_)
  show gw d g 321 0 [.ref 500001, .ref (900000 + n), am_U] [] _ _
  refine gw_const at321_0 (gw_is2 at321_1 (h := ?_))
  have lp2 : ∀ i : Int, 0 ≤ i → i ≤ 1000 → i ≤ (l : Int) → gw d g 321 2 [.ref 500001, .ref (900000 + n), gi i] [] (gm T (mwt c n i) J) (fun o M1 => o = .inl none ∧ M1 = gm T (mwt c n l) J) := by
    refine ind_up 1000 ?_
    intro i hi0 hi1 ih hi2
    have wk := mwt_ok (n := n) hi0 hc (by omega)
    have hS2 : ST T (mwt c n i) (900000 + n) (910000 + n) l := ST_arg hS (fun j => congrFun (wk.2.2.1 _ (by omega) (by omega)) j) (fun j => congrFun (wk.2.2.1 _ (by omega) (by omega)) j)
    refine gw_il2 at321_2 ?_
    refine gw_al1 at321_3 (gw_callP1 at321_4 (c_length hS2) (by omega) (Nat.le_of_ble_eq_true rfl) ?_)
    refine gw_cge at321_7 (by first | omega | exact hc _ _) (by first | omega | exact hc _ _) (fun q7 => ?_) (fun q7 => ?_)
    · refine gw_rv at321_25 am_r321.2.1 ⟨rfl, ?_⟩
      rw [show i = (l : Int) by omega]
    · refine gw_al0 at321_10 (gw_al1 at321_11 (gw_il2 at321_12 (gw_callP2 at321_13 (c_charAt hS2 (by omega)) (by omega) (Nat.le_of_ble_eq_true rfl) ?_)))
      refine gw_call2 at321_16 (m_write hM wk.1 (by have := wk.2.1; omega)) (by omega) (Nat.le_of_ble_eq_true rfl) (fun o M1 q16 => ?_)
      obtain ⟨rfl, rfl⟩ := q16
      show gw _ _ _ _ _ [] _ _
      rw [congrFun (wk.2.2.1 (910000 + n) (by omega) (by omega)) i]
      refine gw_inc2 at321_19 (h := (gw_goto at321_22 ?_))
      have h9 := ih (i + 1) (by omega) (by omega) (by omega)
      unfold mwt at h9
      rw [itI_s _ _ hi0] at h9
      exact h9
  exact lp2 0 (by omega) (by omega) (by omega)
