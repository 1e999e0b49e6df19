/-! parser: tokens (the parser lies at 100032, its keywords at 100033) -/
theorem gu_gu {c : gC} {k : Nat} {j z w : Int} : gu (gu c k j z) k j w = gu c k j w := by
  funext k' j'
  unfold gu
  split <;> rfl
theorem gu_cm {c : gC} {k k2 : Nat} {j j2 z w : Int} (h : ¬ (k = k2 ∧ j = j2)) : gu (gu c k j z) k2 j2 w = gu (gu c k2 j2 w) k j z := by
  funext k' j'
  unfold gu
  by_cases a : k' = k2 ∧ j' = j2
  · by_cases b : k' = k ∧ j' = j
    · exact absurd ⟨b.1.symm.trans a.1, b.2.symm.trans a.2⟩ h
    · rw [if_pos a, if_neg b, if_pos a]
  · rw [if_neg a]
    by_cases b : k' = k ∧ j' = j
    · rw [if_pos b, if_pos b]
    · rw [if_neg b, if_neg b, if_neg a]
theorem gu_id {c : gC} {k : Nat} {j : Int} : gu c k j (c k j) = c := by
  funext k' j'
  unfold gu
  split
  · rename_i h; rw [h.1, h.2]
  · rfl
def runN (p : Int → Bool) : Nat → Int → Int
  | 0, i => i
  | n + 1, i => if p i = true then runN p n (i + 1) else i
/-- the first place from i on where p does not hold -/
def rn (p : Int → Bool) (i : Int) : Int := runN p 1200 i
theorem runN_ok {p : Int → Bool} {N : Int} (hp : ∀ i, p i = true → i < N) : ∀ (n : Nat) (i : Int), i ≤ N → N - i ≤ n → i ≤ runN p n i ∧ runN p n i ≤ N ∧ p (runN p n i) = false ∧ ∀ j, i ≤ j → j < runN p n i → p j = true := by
  intro n
  induction n with
  | zero =>
    intro i h1 h2
    have h3 : i = N := by omega
    refine ⟨Int.le_refl _, h1, ?_, fun j a b => absurd b (by show ¬ j < i; omega)⟩
    show p i = false
    cases h : p i with
    | false => rfl
    | true => exact absurd (hp i h) (by omega)
  | succ n ih =>
    intro i h1 h2
    unfold runN
    by_cases h : p i = true
    · rw [if_pos h]
      obtain ⟨a, b, e, f⟩ := ih (i + 1) (by have := hp i h; omega) (by omega)
      refine ⟨by omega, b, e, fun j c d => ?_⟩
      by_cases g : j = i
      · subst g; exact h
      · exact f j (by omega) d
    · rw [if_neg h]
      refine ⟨Int.le_refl _, h1, ?_, fun j a b => absurd b (by omega)⟩
      cases e : p i with
      | false => rfl
      | true => exact absurd e h
theorem rn_ok {p : Int → Bool} {N i : Int} (hp : ∀ i, p i = true → i < N) (h0 : 0 ≤ i) (h1 : i ≤ N) (h2 : N ≤ 1200) : i ≤ rn p i ∧ rn p i ≤ N ∧ p (rn p i) = false ∧ ∀ j, i ≤ j → j < rn p i → p j = true := runN_ok hp 1200 i h1 (by omega)
/-- the parser's shape -/
def AT (T : gT) : Prop := ((T.1 100032).1 = 13 ∧ (T.1 100032).2.2 0 = 100000 + 1 ∧ (T.1 100032).2.2 1 = 100002 + 1 ∧ (T.1 100032).2.2 2 = 100033 + 1) ∧ ((T.1 100033).1 = 1 ∧ (T.1 100033).2.1 = 9) ∧ NT T 100002 ∧ BT T 100000
theorem AT_0 {T : gT} (h : AT T) : (T.1 100032).1 = 13 := h.1.1
theorem AT_r0 {T : gT} (h : AT T) : (T.1 100032).2.2 0 = 100000 + 1 := h.1.2.1
theorem AT_r1 {T : gT} (h : AT T) : (T.1 100032).2.2 1 = 100002 + 1 := h.1.2.2.1
theorem AT_r2 {T : gT} (h : AT T) : (T.1 100032).2.2 2 = 100033 + 1 := h.1.2.2.2
theorem AT_t {T : gT} (h : AT T) : (T.1 100033).1 = 1 := h.2.1.1
theorem AT_l {T : gT} (h : AT T) : (T.1 100033).2.1 = 9 := h.2.1.2
theorem AT_n {T : gT} (h : AT T) : NT T 100002 := h.2.2.1
theorem AT_b {T : gT} (h : AT T) : BT T 100000 := h.2.2.2
theorem AT_b0 {T : gT} (h : AT T) : (T.1 100000).1 = 10 := h.2.2.2.1
theorem AT_b1 {T : gT} (h : AT T) : (T.1 100000).2.2 0 = 100001 + 1 := h.2.2.2.2.1
theorem AT_b2 {T : gT} (h : AT T) : (T.1 100001).1 = 2 := h.2.2.2.2.2.1
theorem AT_b3 {T : gT} (h : AT T) : (T.1 100001).2.1 = 1200 := h.2.2.2.2.2.2
/-- whether the byte at i is one of these -/
def ibt (c : gC) (l h i : Int) : Bool := decide (i < c 100000 1) && (decide (l ≤ c 100001 i) && decide (c 100001 i ≤ h))
def ibl (c : gC) (i : Int) : Bool := decide (i < c 100000 1) && (decide (c 100001 i = 32) || decide (c 100001 i = 10))
theorem ibt_lt {c : gC} {l h : Int} : ∀ i, ibt c l h i = true → i < c 100000 1 := fun i e => by
  unfold ibt at e
  simp only [Bool.and_eq_true, decide_eq_true_eq] at e
  exact e.1
theorem ibl_lt {c : gC} : ∀ i, ibl c i = true → i < c 100000 1 := fun i e => by
  unfold ibl at e
  simp only [Bool.and_eq_true, decide_eq_true_eq] at e
  exact e.1
theorem ibt_in {c : gC} {l h i : Int} (e : i < c 100000 1) : ibt c l h i = (decide (l ≤ c 100001 i) && decide (c 100001 i ≤ h)) := by
  unfold ibt
  rw [decide_eq_true e, Bool.true_and]
theorem ibt_out {c : gC} {l h i : Int} (e : ¬ i < c 100000 1) : ibt c l h i = false := by
  unfold ibt
  rw [decide_eq_false e, Bool.false_and]
set_option maxHeartbeats 1000000 in
theorem c_isDigit {g : Nat} {T : gT} {c J : gC} {x : Int} (hx : -2147483648 ≤ x ∧ x < 2147483648) : gE g 54 0 [gi x] (gm T c J) (gR (gi (bi (decide (48 ≤ x) && decide (x ≤ 57)))) (gm T c J)) := by
  refine gE_mk am_r54 rfl (Or.inl rfl) (fun d hd => ?_)
  show gw d g 54 0 [gi x] [] _ _
  refine gw_il0 at54_0 (gw_bip at54_1 (by decide) ?_)
  refine gw_clt at54_3 (by omega) (by omega) (fun q3 => ?_) (fun q3 => ?_)
  · refine gw_const at54_16 (gw_r0 at54_17 am_r54.2.1 (gR_b ?_))
    simp; omega
  · refine gw_il0 at54_6 (gw_bip at54_7 (by decide) ?_)
    refine gw_cgt at54_9 (by omega) (by omega) (fun q9 => ?_) (fun q9 => ?_)
    · refine gw_const at54_16 (gw_r0 at54_17 am_r54.2.1 (gR_b ?_))
      simp; omega
    · refine gw_const at54_12 (gw_goto at54_13 (gw_r1 at54_17 am_r54.2.1 (gR_b ?_)))
      simp; omega
set_option maxHeartbeats 1000000 in
theorem c_isName {g : Nat} {T : gT} {c J : gC} (hA : AT T) (hc : RG c) : gE g 49 0 [.ref 100032] (gm T c J) (gR (gi (bi (decide (c 100032 5 = 1 ∧ ¬ c 100032 8 = -1 ∧ c 100032 9 = -1)))) (gm T c J)) := by
  refine gE_mk am_r49 rfl (Or.inr ⟨_, rfl, (by first | exact AT_0 hA | exact AT_r0 hA | exact AT_r1 hA | exact AT_r2 hA | exact AT_t hA | exact AT_l hA | exact AT_b0 hA | exact AT_b1 hA | exact AT_b2 hA | exact AT_b3 hA)⟩) (fun d hd => ?_)
  show gw d g 49 0 [.ref 100032] [] _ _
  refine gw_al0 at49_0 (gw_gf (j := 5) at49_1 (by first | exact AT_0 hA | exact AT_r0 hA | exact AT_r1 hA | exact AT_r2 hA | exact AT_t hA | exact AT_l hA | exact AT_b0 hA | exact AT_b1 hA | exact AT_b2 hA | exact AT_b3 hA) rfl (gw_const at49_4 ?_))
  refine gw_cne at49_5 (by first | omega | exact hc _ _) (by first | omega | exact hc _ _) (fun q5 => ?_) (fun q5 => ?_)
  · refine gw_const at49_28 (gw_r0 at49_29 am_r49.2.1 (gR_b ?_))
    simp [*, bi]
  · refine gw_al0 at49_8 (gw_gf (j := 8) at49_9 (by first | exact AT_0 hA | exact AT_r0 hA | exact AT_r1 hA | exact AT_r2 hA | exact AT_t hA | exact AT_l hA | exact AT_b0 hA | exact AT_b1 hA | exact AT_b2 hA | exact AT_b3 hA) rfl (gw_const at49_12 ?_))
    refine gw_ceq at49_13 (by first | omega | exact hc _ _) (by first | omega | exact hc _ _) (fun q13 => ?_) (fun q13 => ?_)
    · refine gw_const at49_28 (gw_r0 at49_29 am_r49.2.1 (gR_b ?_))
      simp [*, bi]
    · refine gw_al0 at49_16 (gw_gf (j := 9) at49_17 (by first | exact AT_0 hA | exact AT_r0 hA | exact AT_r1 hA | exact AT_r2 hA | exact AT_t hA | exact AT_l hA | exact AT_b0 hA | exact AT_b1 hA | exact AT_b2 hA | exact AT_b3 hA) rfl (gw_const at49_20 ?_))
      refine gw_cne at49_21 (by first | omega | exact hc _ _) (by first | omega | exact hc _ _) (fun q21 => ?_) (fun q21 => ?_)
      · refine gw_const at49_28 (gw_r0 at49_29 am_r49.2.1 (gR_b ?_))
        simp [*, bi]
      · refine gw_const at49_24 (gw_goto at49_25 (gw_r1 at49_29 am_r49.2.1 (gR_b ?_)))
        simp [*, bi]
set_option maxHeartbeats 1000000 in
theorem c_fail {g : Nat} {T : gT} {c J : gC} (hA : AT T) {z : Int} : gE g 50 0 [.ref 100032, gi z] (gm T c J) (fun o M1 => o = .inl (some (gi (bi false))) ∧ M1 = gm T (gu (gu c 100032 3 z) 100032 4 (c 100032 6)) J) := by
  refine gE_mk am_r50 rfl (Or.inr ⟨_, rfl, (by first | exact AT_0 hA | exact AT_r0 hA | exact AT_r1 hA | exact AT_r2 hA | exact AT_t hA | exact AT_l hA | exact AT_b0 hA | exact AT_b1 hA | exact AT_b2 hA | exact AT_b3 hA)⟩) (fun d hd => ?_)
  show gw d g 50 0 [.ref 100032, gi z] [] _ _
  refine gw_al0 at50_0 (gw_il1 at50_1 (gw_pf (j := 3) at50_2 (by first | exact AT_0 hA | exact AT_r0 hA | exact AT_r1 hA | exact AT_r2 hA | exact AT_t hA | exact AT_l hA | exact AT_b0 hA | exact AT_b1 hA | exact AT_b2 hA | exact AT_b3 hA) rfl (gw_al0 at50_5 (gw_al0 at50_6 (gw_gf (j := 6) at50_7 (by first | exact AT_0 hA | exact AT_r0 hA | exact AT_r1 hA | exact AT_r2 hA | exact AT_t hA | exact AT_l hA | exact AT_b0 hA | exact AT_b1 hA | exact AT_b2 hA | exact AT_b3 hA) rfl ?_)))))
  rw [gu_j (by decide)]
  refine gw_pf (j := 4) at50_10 (by first | exact AT_0 hA | exact AT_r0 hA | exact AT_r1 hA | exact AT_r2 hA | exact AT_t hA | exact AT_l hA | exact AT_b0 hA | exact AT_b1 hA | exact AT_b2 hA | exact AT_b3 hA) rfl (gw_const at50_13 (gw_r0 at50_14 am_r50.2.1 ⟨rfl, ?_⟩))
  rfl
