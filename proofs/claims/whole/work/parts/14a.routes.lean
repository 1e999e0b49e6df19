/-! routes: the tables' readers (Routes lies at 100026, its network at 100014) -/
def RT (T : gT) : Prop := (T.1 100026).1 = 15 ∧ (T.1 100026).2.2 0 = 100014 + 1 ∧ ((T.1 100026).2.2 2 = 100027 + 1 ∧ (T.1 100027).1 = 1 ∧ (T.1 100027).2.1 = 816) ∧ ((T.1 100026).2.2 3 = 100028 + 1 ∧ (T.1 100028).1 = 1 ∧ (T.1 100028).2.1 = 816) ∧ (T.1 100026).2.2 4 = 100029 + 1 ∧ (T.1 100029).1 = 1 ∧ (T.1 100029).2.1 = 24
theorem RT_0 {T : gT} (h : RT T) : (T.1 100026).1 = 15 := h.1
theorem RT_r0 {T : gT} (h : RT T) : (T.1 100026).2.2 0 = 100014 + 1 := h.2.1
theorem RT_r2 {T : gT} (h : RT T) : (T.1 100026).2.2 2 = 100027 + 1 := h.2.2.1.1
theorem RT_t2 {T : gT} (h : RT T) : (T.1 100027).1 = 1 := h.2.2.1.2.1
theorem RT_l2 {T : gT} (h : RT T) : (T.1 100027).2.1 = 816 := h.2.2.1.2.2
theorem RT_r3 {T : gT} (h : RT T) : (T.1 100026).2.2 3 = 100028 + 1 := h.2.2.2.1.1
theorem RT_t3 {T : gT} (h : RT T) : (T.1 100028).1 = 1 := h.2.2.2.1.2.1
theorem RT_l3 {T : gT} (h : RT T) : (T.1 100028).2.1 = 816 := h.2.2.2.1.2.2
theorem RT_r4 {T : gT} (h : RT T) : (T.1 100026).2.2 4 = 100029 + 1 := h.2.2.2.2.1
theorem RT_t4 {T : gT} (h : RT T) : (T.1 100029).1 = 1 := h.2.2.2.2.2.1
theorem RT_l4 {T : gT} (h : RT T) : (T.1 100029).2.1 = 24 := h.2.2.2.2.2.2
/-- the numbers of the tables -/
def SR (c : gC) : Prop := ∀ i : Int, 0 ≤ i → i < 816 → (0 ≤ c 100027 i ∧ c 100027 i ≤ 100000000) ∧ (0 ≤ c 100028 i ∧ c 100028 i ≤ 100000000)
def stp (c : gC) (p a : Int) : Int := if (0 ≤ p ∧ p < 34) ∧ 0 ≤ a ∧ a < 24 then c 100027 (p * 24 + a) else 100000000
def cbh (c : gC) (a p : Int) : Int := if (0 ≤ a ∧ a < 24) ∧ 0 ≤ p ∧ p < 34 then c 100028 (a * 34 + p) else 100000000
theorem stp_rg {c : gC} (h : SR c) (p a : Int) : 0 ≤ stp c p a ∧ stp c p a ≤ 100000000 := by
  unfold stp
  split
  · exact (h _ (by omega) (by omega)).1
  · omega
theorem cbh_rg {c : gC} (h : SR c) (p a : Int) : 0 ≤ cbh c p a ∧ cbh c p a ≤ 100000000 := by
  unfold cbh
  split
  · exact (h _ (by omega) (by omega)).2
  · omega
/-- the least of f's numbers below n that lies under B, and the first place of it -/
def am1 (B : Int) (f : Int → Int) (n : Int) : Int × Int := itI (fun a s => if f a < s.2 then (a, f a) else s) (-1, B) n
theorem am1_0 (B : Int) (f : Int → Int) : am1 B f 0 = (-1, B) := rfl
theorem am1_lt {B : Int} {f : Int → Int} {n : Int} (hn : 0 ≤ n) (h : f n < (am1 B f n).2) : am1 B f (n + 1) = (n, f n) := by
  unfold am1 at h ⊢
  rw [itI_s _ _ hn, if_pos h]
theorem am1_ge {B : Int} {f : Int → Int} {n : Int} (hn : 0 ≤ n) (h : ¬ f n < (am1 B f n).2) : am1 B f (n + 1) = am1 B f n := by
  unfold am1 at h ⊢
  rw [itI_s _ _ hn, if_neg h]
theorem am1_spec {B : Int} {f : Int → Int} {n : Int} (hn : 0 ≤ n) : (am1 B f n = (-1, B) ∧ ∀ a : Int, 0 ≤ a → a < n → B ≤ f a) ∨ (0 ≤ (am1 B f n).1 ∧ (am1 B f n).1 < n ∧ (am1 B f n).2 = f (am1 B f n).1 ∧ f (am1 B f n).1 < B ∧ (∀ a : Int, 0 ≤ a → a < n → f (am1 B f n).1 ≤ f a) ∧ ∀ a : Int, 0 ≤ a → a < (am1 B f n).1 → f (am1 B f n).1 < f a) := by
  have key : ∀ m : Nat, (am1 B f (m : Int) = (-1, B) ∧ ∀ a : Int, 0 ≤ a → a < (m : Int) → B ≤ f a) ∨ (0 ≤ (am1 B f m).1 ∧ (am1 B f m).1 < (m : Int) ∧ (am1 B f m).2 = f (am1 B f m).1 ∧ f (am1 B f m).1 < B ∧ (∀ a : Int, 0 ≤ a → a < (m : Int) → f (am1 B f m).1 ≤ f a) ∧ ∀ a : Int, 0 ≤ a → a < (am1 B f m).1 → f (am1 B f m).1 < f a) := by
    intro m
    induction m with
    | zero => exact Or.inl ⟨am1_0 B f, fun a h1 h2 => by omega⟩
    | succ m ih =>
      have em : ((m + 1 : Nat) : Int) = (m : Int) + 1 := by omega
      rw [em]
      by_cases h : f (m : Int) < (am1 B f (m : Int)).2
      · rw [am1_lt (by omega) h]
        right
        rcases ih with ⟨h1, h2⟩ | ⟨h1, h2, h3, h4, h5, h6⟩
        · rw [h1] at h
          dsimp only at h ⊢
          refine ⟨by omega, by omega, rfl, h, fun a q1 q2 => ?_, fun a q1 q2 => ?_⟩
          · by_cases e : a = (m : Int)
            · rw [e]; exact Int.le_refl _
            · have := h2 a q1 (by omega); omega
          · have := h2 a q1 (by omega); omega
        · rw [h3] at h
          dsimp only
          refine ⟨by omega, by omega, rfl, by omega, fun a q1 q2 => ?_, fun a q1 q2 => ?_⟩
          · by_cases e : a = (m : Int)
            · rw [e]; exact Int.le_refl _
            · have := h5 a q1 (by omega); omega
          · have := h5 a q1 (by omega); omega
      · rw [am1_ge (by omega) h]
        rcases ih with ⟨h1, h2⟩ | ⟨h1, h2, h3, h4, h5, h6⟩
        · rw [h1] at h
          refine Or.inl ⟨h1, fun a q1 q2 => ?_⟩
          by_cases e : a = (m : Int)
          · rw [e]; dsimp only at h; omega
          · exact h2 a q1 (by omega)
        · refine Or.inr ⟨h1, by omega, h3, h4, fun a q1 q2 => ?_, h6⟩
          by_cases e : a = (m : Int)
          · rw [e]; omega
          · exact h5 a q1 (by omega)
  have h := key n.toNat
  rwa [show ((n.toNat : Nat) : Int) = n by omega] at h
theorem am1_congr {B : Int} {f g : Int → Int} {n : Int} (h : ∀ a : Int, 0 ≤ a → a < n → f a = g a) : am1 B f n = am1 B g n := by
  unfold am1
  exact itI_congr fun j h1 h2 => by rw [h j h1 h2]
theorem am1_rg {B : Int} {f : Int → Int} {n : Int} (hn : 0 ≤ n) : -1 ≤ (am1 B f n).1 ∧ (am1 B f n).1 < n ∨ (am1 B f n).1 = -1 := by
  rcases am1_spec (B := B) (f := f) hn with ⟨h, -⟩ | ⟨h1, h2, -⟩
  · right; rw [h]
  · left; omega
theorem am1_le {B : Int} {f : Int → Int} {n : Int} (hn : 0 ≤ n) : (am1 B f n).2 ≤ B := by
  rcases am1_spec (B := B) (f := f) hn with ⟨h, -⟩ | ⟨h1, h2, h3, h4, -⟩
  · rw [h]; exact Int.le_refl _
  · omega
theorem am1_0le {B : Int} {f : Int → Int} {n : Int} (hn : 0 ≤ n) (hB : 0 ≤ B) (hf : ∀ a, 0 ≤ f a) : 0 ≤ (am1 B f n).2 := by
  rcases am1_spec (B := B) (f := f) hn with ⟨h, -⟩ | ⟨h1, h2, h3, h4, -⟩
  · rw [h]; exact hB
  · rw [h3]; exact hf _
theorem am1_if {B : Int} {f : Int → Int} {n : Int} (hn : 0 ≤ n) : (am1 B f n).2 = if (am1 B f n).1 = -1 then B else f (am1 B f n).1 := by
  rcases am1_spec (B := B) (f := f) hn with ⟨h, -⟩ | ⟨h1, h2, h3, h4, -⟩
  · rw [h]; rfl
  · rw [if_neg (by omega), h3]
def fst1 (c : gC) (p q : Int) : Int × Int := am1 100000000 (fun a => stp c p a + cbh c a q) 24
/-- the cost of the best route of at least one arc -/
def cfr (c : gC) (p q : Int) : Int := (fst1 c p q).2
def cbw (c : gC) (n m : Int) : Int := if n = m then 0 else cfr c (24 + n) (24 + m)
theorem cfr_rg {c : gC} (h : SR c) (p q : Int) : 0 ≤ cfr c p q ∧ cfr c p q ≤ 100000000 := ⟨am1_0le (by omega) (by omega) (fun a => by have := stp_rg h p a; have := cbh_rg h a q; omega), am1_le (by omega)⟩
theorem fst1_rg (c : gC) (p q : Int) : -1 ≤ (fst1 c p q).1 ∧ (fst1 c p q).1 < 24 := by
  have := am1_rg (B := 100000000) (f := fun a => stp c p a + cbh c a q) (n := 24) (by omega)
  unfold fst1
  omega
theorem cbw_rg {c : gC} (h : SR c) (n m : Int) : 0 ≤ cbw c n m ∧ cbw c n m ≤ 100000000 := by
  unfold cbw
  split
  · omega
  · exact cfr_rg h _ _
def nea (c : gC) (p s : Int) : Int × Int := am1 100000000 (fun a => if tb s a = true then cfr c p a else 100000000) 24
def far (c : gC) (n N : Int) : Int := itI (fun t m => max m (cbw c n t)) 0 N
theorem far_rg {c : gC} (h : SR c) (n N : Int) : 0 ≤ far c n N ∧ far c n N ≤ 100000000 := by
  unfold far
  refine itI_inv (fun s => 0 ≤ s ∧ s ≤ 100000000) (by omega) (fun t m hm => ?_) N
  have := cbw_rg h n t
  omega
set_option maxHeartbeats 1000000 in
theorem c_placeOf {g : Nat} {T : gT} {c J : gC} {n : Int} : gE g 74 0 [gi n] (gm T c J) (gR (gi (24 + n)) (gm T c J)) := by
  refine gE_mk am_r74 rfl (Or.inl rfl) (fun d hd => ?_)
  show gw d g 74 0 [gi n] [] _ _
  refine gw_bip at74_0 (by decide) (gw_il0 at74_2 (gw_iadd at74_3 (gw_ri at74_4 am_r74.2.1 (gR_i ?_))))
  rfl
set_option maxHeartbeats 1000000 in
theorem c_costBehind {g : Nat} {T : gT} {c J : gC} (hR : RT T) (hc : RG c) {a p : Int} (ha : -2147483648 ≤ a ∧ a < 2147483648) (hp : -2147483648 ≤ p ∧ p < 2147483648) : gE g 75 0 [.ref 100026, gi a, gi p] (gm T c J) (gR (gi (cbh c a p)) (gm T c J)) := by
  refine gE_mk am_r75 rfl (Or.inr ⟨_, rfl, (by first | exact RT_0 hR | exact RT_r3 hR | exact RT_t3 hR | exact RT_l3 hR)⟩) (fun d hd => ?_)
  show gw d g 75 0 [.ref 100026, gi a, gi p, am_U] [] _ _
  refine gw_il1 at75_0 ?_
  refine gw_zlt at75_1 (by first | omega | exact hc _ _ | exact bi_rg _ | exact zrg _) (fun q1 => ?_) (fun q1 => ?_)
  · refine gw_const at75_24 (gw_is3 at75_25 (h := (gw_il3 at75_26 ?_)))
    refine gw_zeq at75_27 (by first | omega | exact hc _ _ | exact bi_rg _ | exact zrg _) (fun q27 => ?_) (fun q27 => ?_)
    · refine gw_ldc (z := 100000000) at75_44 (by decide) (gw_ri at75_46 am_r75.2.1 (gR_i ?_))
      first | (exfalso; omega) | (unfold cbh; rw [if_pos (by omega)]) | (unfold cbh; rw [if_neg (by omega)])
    · refine gw_al0 at75_30 (gw_gr at75_31 (by first | exact RT_0 hR | exact RT_r3 hR | exact RT_t3 hR | exact RT_l3 hR) (by first | exact RT_0 hR | exact RT_r3 hR | exact RT_t3 hR | exact RT_l3 hR) (gw_il1 at75_34 (gw_bip at75_35 (by decide) (gw_imul at75_37 (gw_il2 at75_38 (gw_iadd at75_39 (gw_ia at75_40 (by first | exact Or.inl (by first | exact RT_0 hR | exact RT_r3 hR | exact RT_t3 hR | exact RT_l3 hR) | exact Or.inr (by first | exact RT_0 hR | exact RT_r3 hR | exact RT_t3 hR | exact RT_l3 hR)) (by first | exact RT_0 hR | exact RT_r3 hR | exact RT_t3 hR | exact RT_l3 hR) (by first | omega | exact hc _ _ | exact bi_rg _ | exact zrg _) (by first | omega | exact hc _ _ | exact bi_rg _ | exact zrg _) (by omega) (gw_goto at75_41 (gw_ri at75_46 am_r75.2.1 (gR_i ?_))))))))))
      first | (exfalso; omega) | (unfold cbh; rw [if_pos (by omega)]) | (unfold cbh; rw [if_neg (by omega)])
  · refine gw_il1 at75_4 (gw_bip at75_5 (by decide) ?_)
    refine gw_cge at75_7 (by first | omega | exact hc _ _ | exact bi_rg _ | exact zrg _) (by first | omega | exact hc _ _ | exact bi_rg _ | exact zrg _) (fun q7 => ?_) (fun q7 => ?_)
    · refine gw_const at75_24 (gw_is3 at75_25 (h := (gw_il3 at75_26 ?_)))
      refine gw_zeq at75_27 (by first | omega | exact hc _ _ | exact bi_rg _ | exact zrg _) (fun q27 => ?_) (fun q27 => ?_)
      · refine gw_ldc (z := 100000000) at75_44 (by decide) (gw_ri at75_46 am_r75.2.1 (gR_i ?_))
        first | (exfalso; omega) | (unfold cbh; rw [if_pos (by omega)]) | (unfold cbh; rw [if_neg (by omega)])
      · refine gw_al0 at75_30 (gw_gr at75_31 (by first | exact RT_0 hR | exact RT_r3 hR | exact RT_t3 hR | exact RT_l3 hR) (by first | exact RT_0 hR | exact RT_r3 hR | exact RT_t3 hR | exact RT_l3 hR) (gw_il1 at75_34 (gw_bip at75_35 (by decide) (gw_imul at75_37 (gw_il2 at75_38 (gw_iadd at75_39 (gw_ia at75_40 (by first | exact Or.inl (by first | exact RT_0 hR | exact RT_r3 hR | exact RT_t3 hR | exact RT_l3 hR) | exact Or.inr (by first | exact RT_0 hR | exact RT_r3 hR | exact RT_t3 hR | exact RT_l3 hR)) (by first | exact RT_0 hR | exact RT_r3 hR | exact RT_t3 hR | exact RT_l3 hR) (by first | omega | exact hc _ _ | exact bi_rg _ | exact zrg _) (by first | omega | exact hc _ _ | exact bi_rg _ | exact zrg _) (by omega) (gw_goto at75_41 (gw_ri at75_46 am_r75.2.1 (gR_i ?_))))))))))
        first | (exfalso; omega) | (unfold cbh; rw [if_pos (by omega)]) | (unfold cbh; rw [if_neg (by omega)])
    · refine gw_il2 at75_10 ?_
      refine gw_zlt at75_11 (by first | omega | exact hc _ _ | exact bi_rg _ | exact zrg _) (fun q11 => ?_) (fun q11 => ?_)
      · refine gw_const at75_24 (gw_is3 at75_25 (h := (gw_il3 at75_26 ?_)))
        refine gw_zeq at75_27 (by first | omega | exact hc _ _ | exact bi_rg _ | exact zrg _) (fun q27 => ?_) (fun q27 => ?_)
        · refine gw_ldc (z := 100000000) at75_44 (by decide) (gw_ri at75_46 am_r75.2.1 (gR_i ?_))
          first | (exfalso; omega) | (unfold cbh; rw [if_pos (by omega)]) | (unfold cbh; rw [if_neg (by omega)])
        · refine gw_al0 at75_30 (gw_gr at75_31 (by first | exact RT_0 hR | exact RT_r3 hR | exact RT_t3 hR | exact RT_l3 hR) (by first | exact RT_0 hR | exact RT_r3 hR | exact RT_t3 hR | exact RT_l3 hR) (gw_il1 at75_34 (gw_bip at75_35 (by decide) (gw_imul at75_37 (gw_il2 at75_38 (gw_iadd at75_39 (gw_ia at75_40 (by first | exact Or.inl (by first | exact RT_0 hR | exact RT_r3 hR | exact RT_t3 hR | exact RT_l3 hR) | exact Or.inr (by first | exact RT_0 hR | exact RT_r3 hR | exact RT_t3 hR | exact RT_l3 hR)) (by first | exact RT_0 hR | exact RT_r3 hR | exact RT_t3 hR | exact RT_l3 hR) (by first | omega | exact hc _ _ | exact bi_rg _ | exact zrg _) (by first | omega | exact hc _ _ | exact bi_rg _ | exact zrg _) (by omega) (gw_goto at75_41 (gw_ri at75_46 am_r75.2.1 (gR_i ?_))))))))))
          first | (exfalso; omega) | (unfold cbh; rw [if_pos (by omega)]) | (unfold cbh; rw [if_neg (by omega)])
      · refine gw_il2 at75_14 (gw_bip at75_15 (by decide) ?_)
        refine gw_cge at75_17 (by first | omega | exact hc _ _ | exact bi_rg _ | exact zrg _) (by first | omega | exact hc _ _ | exact bi_rg _ | exact zrg _) (fun q17 => ?_) (fun q17 => ?_)
        · refine gw_const at75_24 (gw_is3 at75_25 (h := (gw_il3 at75_26 ?_)))
          refine gw_zeq at75_27 (by first | omega | exact hc _ _ | exact bi_rg _ | exact zrg _) (fun q27 => ?_) (fun q27 => ?_)
          · refine gw_ldc (z := 100000000) at75_44 (by decide) (gw_ri at75_46 am_r75.2.1 (gR_i ?_))
            first | (exfalso; omega) | (unfold cbh; rw [if_pos (by omega)]) | (unfold cbh; rw [if_neg (by omega)])
          · refine gw_al0 at75_30 (gw_gr at75_31 (by first | exact RT_0 hR | exact RT_r3 hR | exact RT_t3 hR | exact RT_l3 hR) (by first | exact RT_0 hR | exact RT_r3 hR | exact RT_t3 hR | exact RT_l3 hR) (gw_il1 at75_34 (gw_bip at75_35 (by decide) (gw_imul at75_37 (gw_il2 at75_38 (gw_iadd at75_39 (gw_ia at75_40 (by first | exact Or.inl (by first | exact RT_0 hR | exact RT_r3 hR | exact RT_t3 hR | exact RT_l3 hR) | exact Or.inr (by first | exact RT_0 hR | exact RT_r3 hR | exact RT_t3 hR | exact RT_l3 hR)) (by first | exact RT_0 hR | exact RT_r3 hR | exact RT_t3 hR | exact RT_l3 hR) (by first | omega | exact hc _ _ | exact bi_rg _ | exact zrg _) (by first | omega | exact hc _ _ | exact bi_rg _ | exact zrg _) (by omega) (gw_goto at75_41 (gw_ri at75_46 am_r75.2.1 (gR_i ?_))))))))))
            first | (exfalso; omega) | (unfold cbh; rw [if_pos (by omega)]) | (unfold cbh; rw [if_neg (by omega)])
        · refine gw_const at75_20 (gw_goto at75_21 (gw_is3 at75_25 (h := (gw_il3 at75_26 ?_))))
          refine gw_zeq at75_27 (by first | omega | exact hc _ _ | exact bi_rg _ | exact zrg _) (fun q27 => ?_) (fun q27 => ?_)
          · refine gw_ldc (z := 100000000) at75_44 (by decide) (gw_ri at75_46 am_r75.2.1 (gR_i ?_))
            first | (exfalso; omega) | (unfold cbh; rw [if_pos (by omega)]) | (unfold cbh; rw [if_neg (by omega)])
          · refine gw_al0 at75_30 (gw_gr at75_31 (by first | exact RT_0 hR | exact RT_r3 hR | exact RT_t3 hR | exact RT_l3 hR) (by first | exact RT_0 hR | exact RT_r3 hR | exact RT_t3 hR | exact RT_l3 hR) (gw_il1 at75_34 (gw_bip at75_35 (by decide) (gw_imul at75_37 (gw_il2 at75_38 (gw_iadd at75_39 (gw_ia at75_40 (by first | exact Or.inl (by first | exact RT_0 hR | exact RT_r3 hR | exact RT_t3 hR | exact RT_l3 hR) | exact Or.inr (by first | exact RT_0 hR | exact RT_r3 hR | exact RT_t3 hR | exact RT_l3 hR)) (by first | exact RT_0 hR | exact RT_r3 hR | exact RT_t3 hR | exact RT_l3 hR) (by first | omega | exact hc _ _ | exact bi_rg _ | exact zrg _) (by first | omega | exact hc _ _ | exact bi_rg _ | exact zrg _) (by omega) (gw_goto at75_41 (gw_ri at75_46 am_r75.2.1 (gR_i ?_))))))))))
            first | (exfalso; omega) | (unfold cbh; rw [if_pos (by omega)]) | (unfold cbh; rw [if_neg (by omega)])
set_option maxHeartbeats 1000000 in
theorem c_stepCost {g : Nat} {T : gT} {c J : gC} (hR : RT T) (hc : RG c) {p a : Int} (hp : -2147483648 ≤ p ∧ p < 2147483648) (ha : -2147483648 ≤ a ∧ a < 2147483648) : gE g 76 0 [.ref 100026, gi p, gi a] (gm T c J) (gR (gi (stp c p a)) (gm T c J)) := by
  refine gE_mk am_r76 rfl (Or.inr ⟨_, rfl, (by first | exact RT_0 hR | exact RT_r2 hR | exact RT_t2 hR | exact RT_l2 hR)⟩) (fun d hd => ?_)
  show gw d g 76 0 [.ref 100026, gi p, gi a, am_U] [] _ _
  refine gw_il1 at76_0 ?_
  refine gw_zlt at76_1 (by first | omega | exact hc _ _ | exact bi_rg _ | exact zrg _) (fun q1 => ?_) (fun q1 => ?_)
  · refine gw_const at76_24 (gw_is3 at76_25 (h := (gw_il3 at76_26 ?_)))
    refine gw_zeq at76_27 (by first | omega | exact hc _ _ | exact bi_rg _ | exact zrg _) (fun q27 => ?_) (fun q27 => ?_)
    · refine gw_ldc (z := 100000000) at76_44 (by decide) (gw_ri at76_46 am_r76.2.1 (gR_i ?_))
      first | (exfalso; omega) | (unfold stp; rw [if_pos (by omega)]) | (unfold stp; rw [if_neg (by omega)])
    · refine gw_al0 at76_30 (gw_gr at76_31 (by first | exact RT_0 hR | exact RT_r2 hR | exact RT_t2 hR | exact RT_l2 hR) (by first | exact RT_0 hR | exact RT_r2 hR | exact RT_t2 hR | exact RT_l2 hR) (gw_il1 at76_34 (gw_bip at76_35 (by decide) (gw_imul at76_37 (gw_il2 at76_38 (gw_iadd at76_39 (gw_ia at76_40 (by first | exact Or.inl (by first | exact RT_0 hR | exact RT_r2 hR | exact RT_t2 hR | exact RT_l2 hR) | exact Or.inr (by first | exact RT_0 hR | exact RT_r2 hR | exact RT_t2 hR | exact RT_l2 hR)) (by first | exact RT_0 hR | exact RT_r2 hR | exact RT_t2 hR | exact RT_l2 hR) (by first | omega | exact hc _ _ | exact bi_rg _ | exact zrg _) (by first | omega | exact hc _ _ | exact bi_rg _ | exact zrg _) (by omega) (gw_goto at76_41 (gw_ri at76_46 am_r76.2.1 (gR_i ?_))))))))))
      first | (exfalso; omega) | (unfold stp; rw [if_pos (by omega)]) | (unfold stp; rw [if_neg (by omega)])
  · refine gw_il1 at76_4 (gw_bip at76_5 (by decide) ?_)
    refine gw_cge at76_7 (by first | omega | exact hc _ _ | exact bi_rg _ | exact zrg _) (by first | omega | exact hc _ _ | exact bi_rg _ | exact zrg _) (fun q7 => ?_) (fun q7 => ?_)
    · refine gw_const at76_24 (gw_is3 at76_25 (h := (gw_il3 at76_26 ?_)))
      refine gw_zeq at76_27 (by first | omega | exact hc _ _ | exact bi_rg _ | exact zrg _) (fun q27 => ?_) (fun q27 => ?_)
      · refine gw_ldc (z := 100000000) at76_44 (by decide) (gw_ri at76_46 am_r76.2.1 (gR_i ?_))
        first | (exfalso; omega) | (unfold stp; rw [if_pos (by omega)]) | (unfold stp; rw [if_neg (by omega)])
      · refine gw_al0 at76_30 (gw_gr at76_31 (by first | exact RT_0 hR | exact RT_r2 hR | exact RT_t2 hR | exact RT_l2 hR) (by first | exact RT_0 hR | exact RT_r2 hR | exact RT_t2 hR | exact RT_l2 hR) (gw_il1 at76_34 (gw_bip at76_35 (by decide) (gw_imul at76_37 (gw_il2 at76_38 (gw_iadd at76_39 (gw_ia at76_40 (by first | exact Or.inl (by first | exact RT_0 hR | exact RT_r2 hR | exact RT_t2 hR | exact RT_l2 hR) | exact Or.inr (by first | exact RT_0 hR | exact RT_r2 hR | exact RT_t2 hR | exact RT_l2 hR)) (by first | exact RT_0 hR | exact RT_r2 hR | exact RT_t2 hR | exact RT_l2 hR) (by first | omega | exact hc _ _ | exact bi_rg _ | exact zrg _) (by first | omega | exact hc _ _ | exact bi_rg _ | exact zrg _) (by omega) (gw_goto at76_41 (gw_ri at76_46 am_r76.2.1 (gR_i ?_))))))))))
        first | (exfalso; omega) | (unfold stp; rw [if_pos (by omega)]) | (unfold stp; rw [if_neg (by omega)])
    · refine gw_il2 at76_10 ?_
      refine gw_zlt at76_11 (by first | omega | exact hc _ _ | exact bi_rg _ | exact zrg _) (fun q11 => ?_) (fun q11 => ?_)
      · refine gw_const at76_24 (gw_is3 at76_25 (h := (gw_il3 at76_26 ?_)))
        refine gw_zeq at76_27 (by first | omega | exact hc _ _ | exact bi_rg _ | exact zrg _) (fun q27 => ?_) (fun q27 => ?_)
        · refine gw_ldc (z := 100000000) at76_44 (by decide) (gw_ri at76_46 am_r76.2.1 (gR_i ?_))
          first | (exfalso; omega) | (unfold stp; rw [if_pos (by omega)]) | (unfold stp; rw [if_neg (by omega)])
        · refine gw_al0 at76_30 (gw_gr at76_31 (by first | exact RT_0 hR | exact RT_r2 hR | exact RT_t2 hR | exact RT_l2 hR) (by first | exact RT_0 hR | exact RT_r2 hR | exact RT_t2 hR | exact RT_l2 hR) (gw_il1 at76_34 (gw_bip at76_35 (by decide) (gw_imul at76_37 (gw_il2 at76_38 (gw_iadd at76_39 (gw_ia at76_40 (by first | exact Or.inl (by first | exact RT_0 hR | exact RT_r2 hR | exact RT_t2 hR | exact RT_l2 hR) | exact Or.inr (by first | exact RT_0 hR | exact RT_r2 hR | exact RT_t2 hR | exact RT_l2 hR)) (by first | exact RT_0 hR | exact RT_r2 hR | exact RT_t2 hR | exact RT_l2 hR) (by first | omega | exact hc _ _ | exact bi_rg _ | exact zrg _) (by first | omega | exact hc _ _ | exact bi_rg _ | exact zrg _) (by omega) (gw_goto at76_41 (gw_ri at76_46 am_r76.2.1 (gR_i ?_))))))))))
          first | (exfalso; omega) | (unfold stp; rw [if_pos (by omega)]) | (unfold stp; rw [if_neg (by omega)])
      · refine gw_il2 at76_14 (gw_bip at76_15 (by decide) ?_)
        refine gw_cge at76_17 (by first | omega | exact hc _ _ | exact bi_rg _ | exact zrg _) (by first | omega | exact hc _ _ | exact bi_rg _ | exact zrg _) (fun q17 => ?_) (fun q17 => ?_)
        · refine gw_const at76_24 (gw_is3 at76_25 (h := (gw_il3 at76_26 ?_)))
          refine gw_zeq at76_27 (by first | omega | exact hc _ _ | exact bi_rg _ | exact zrg _) (fun q27 => ?_) (fun q27 => ?_)
          · refine gw_ldc (z := 100000000) at76_44 (by decide) (gw_ri at76_46 am_r76.2.1 (gR_i ?_))
            first | (exfalso; omega) | (unfold stp; rw [if_pos (by omega)]) | (unfold stp; rw [if_neg (by omega)])
          · refine gw_al0 at76_30 (gw_gr at76_31 (by first | exact RT_0 hR | exact RT_r2 hR | exact RT_t2 hR | exact RT_l2 hR) (by first | exact RT_0 hR | exact RT_r2 hR | exact RT_t2 hR | exact RT_l2 hR) (gw_il1 at76_34 (gw_bip at76_35 (by decide) (gw_imul at76_37 (gw_il2 at76_38 (gw_iadd at76_39 (gw_ia at76_40 (by first | exact Or.inl (by first | exact RT_0 hR | exact RT_r2 hR | exact RT_t2 hR | exact RT_l2 hR) | exact Or.inr (by first | exact RT_0 hR | exact RT_r2 hR | exact RT_t2 hR | exact RT_l2 hR)) (by first | exact RT_0 hR | exact RT_r2 hR | exact RT_t2 hR | exact RT_l2 hR) (by first | omega | exact hc _ _ | exact bi_rg _ | exact zrg _) (by first | omega | exact hc _ _ | exact bi_rg _ | exact zrg _) (by omega) (gw_goto at76_41 (gw_ri at76_46 am_r76.2.1 (gR_i ?_))))))))))
            first | (exfalso; omega) | (unfold stp; rw [if_pos (by omega)]) | (unfold stp; rw [if_neg (by omega)])
        · refine gw_const at76_20 (gw_goto at76_21 (gw_is3 at76_25 (h := (gw_il3 at76_26 ?_))))
          refine gw_zeq at76_27 (by first | omega | exact hc _ _ | exact bi_rg _ | exact zrg _) (fun q27 => ?_) (fun q27 => ?_)
          · refine gw_ldc (z := 100000000) at76_44 (by decide) (gw_ri at76_46 am_r76.2.1 (gR_i ?_))
            first | (exfalso; omega) | (unfold stp; rw [if_pos (by omega)]) | (unfold stp; rw [if_neg (by omega)])
          · refine gw_al0 at76_30 (gw_gr at76_31 (by first | exact RT_0 hR | exact RT_r2 hR | exact RT_t2 hR | exact RT_l2 hR) (by first | exact RT_0 hR | exact RT_r2 hR | exact RT_t2 hR | exact RT_l2 hR) (gw_il1 at76_34 (gw_bip at76_35 (by decide) (gw_imul at76_37 (gw_il2 at76_38 (gw_iadd at76_39 (gw_ia at76_40 (by first | exact Or.inl (by first | exact RT_0 hR | exact RT_r2 hR | exact RT_t2 hR | exact RT_l2 hR) | exact Or.inr (by first | exact RT_0 hR | exact RT_r2 hR | exact RT_t2 hR | exact RT_l2 hR)) (by first | exact RT_0 hR | exact RT_r2 hR | exact RT_t2 hR | exact RT_l2 hR) (by first | omega | exact hc _ _ | exact bi_rg _ | exact zrg _) (by first | omega | exact hc _ _ | exact bi_rg _ | exact zrg _) (by omega) (gw_goto at76_41 (gw_ri at76_46 am_r76.2.1 (gR_i ?_))))))))))
            first | (exfalso; omega) | (unfold stp; rw [if_pos (by omega)]) | (unfold stp; rw [if_neg (by omega)])
set_option maxHeartbeats 1000000 in
theorem c_firstArc {g : Nat} {T : gT} {c J : gC} (hR : RT T) (hc : RG c) (hS : SR c) {p q : Int} (hp : -2147483648 ≤ p ∧ p < 2147483648) (hq : -2147483648 ≤ q ∧ q < 2147483648) : gE g 77 1 [.ref 100026, gi p, gi q] (gm T c J) (gR (gi (fst1 c p q).1) (gm T c J)) := by
  refine gE_mk am_r77 rfl (Or.inr ⟨_, rfl, (by first | exact RT_0 hR)⟩) (fun d hd => ?_)
  show gw d g 77 0 [.ref 100026, gi p, gi q, am_U, am_U, am_U, am_U] [] _ _
  refine gw_const at77_0 (gw_is3 at77_1 (h := (gw_ldc (z := 100000000) at77_2 (by decide) (gw_is4 at77_4 (h := (gw_const at77_6 (gw_is5 at77_7 (h := ?_))))))))
  have lp9 : ∀ n : Int, 0 ≤ n → n ≤ 24 → ∀ (u l : Int) (w : Value), am_nl w = true → (u, l) = am1 100000000 (fun a => stp c p a + cbh c a q) n → gw d g 77 9 [.ref 100026, gi p, gi q, gi u, gi l, gi n, w] [] (gm T c J) (gR (gi (fst1 c p q).1) (gm T c J)) := by
    refine ind_up 24 ?_
    intro n hn0 hn1 ih u l w hw hs
    have hs1 : u = (am1 100000000 (fun a => stp c p a + cbh c a q) n).1 := by rw [← hs]
    have hs2 : l = (am1 100000000 (fun a => stp c p a + cbh c a q) n).2 := by rw [← hs]
    clear hs
    have hl1 : 0 ≤ l ∧ l ≤ 100000000 := by
      rw [hs2]
      exact ⟨am1_0le hn0 (by omega) (fun a => by have := stp_rg hS p a; have := cbh_rg hS a q; omega), am1_le hn0⟩
    refine gw_il5 at77_9 ?_
    refine gw_bip at77_11 (by decide) ?_
    refine gw_cge at77_13 (by first | omega | (have := stp_rg hS p n; have := cbh_rg hS n q; omega) | (have := am1_le (B := 100000000) (f := fun a => stp c p a + cbh c a q) hn0; have := am1_0le (B := 100000000) (f := fun a => stp c p a + cbh c a q) hn0 (by omega) (fun a => by have := stp_rg hS p a; have := cbh_rg hS a q; omega); omega)) (by first | omega | (have := stp_rg hS p n; have := cbh_rg hS n q; omega) | (have := am1_le (B := 100000000) (f := fun a => stp c p a + cbh c a q) hn0; have := am1_0le (B := 100000000) (f := fun a => stp c p a + cbh c a q) hn0 (by omega) (fun a => by have := stp_rg hS p a; have := cbh_rg hS a q; omega); omega)) (fun q13 => ?_) (fun q13 => ?_)
    · refine gw_il3 at77_53 (gw_ri at77_54 am_r77.2.1 (gR_i ?_))
      rw [hs1, show n = 24 by omega]; rfl
    · refine gw_al0 at77_16 (gw_il1 at77_17 (gw_il5 at77_18 (gw_callP3 at77_20 (c_stepCost hR hc (by omega) (by omega)) (by omega) (Nat.le_of_ble_eq_true rfl) (gw_al0 at77_23 (gw_il5 at77_24 (gw_il2 at77_26 (gw_callP3 at77_27 (c_costBehind hR hc (by omega) (by omega)) (by omega) (Nat.le_of_ble_eq_true rfl) (gw_iadd at77_30 (gw_is6 at77_31 (h := (gw_il6 at77_33 (gw_il4 at77_35 ?_))))))))))))
      refine gw_cge at77_37 (by first | omega | (have := stp_rg hS p n; have := cbh_rg hS n q; omega) | (have := am1_le (B := 100000000) (f := fun a => stp c p a + cbh c a q) hn0; have := am1_0le (B := 100000000) (f := fun a => stp c p a + cbh c a q) hn0 (by omega) (fun a => by have := stp_rg hS p a; have := cbh_rg hS a q; omega); omega)) (by first | omega | (have := stp_rg hS p n; have := cbh_rg hS n q; omega) | (have := am1_le (B := 100000000) (f := fun a => stp c p a + cbh c a q) hn0; have := am1_0le (B := 100000000) (f := fun a => stp c p a + cbh c a q) hn0 (by omega) (fun a => by have := stp_rg hS p a; have := cbh_rg hS a q; omega); omega)) (fun q37 => ?_) (fun q37 => ?_)
      · refine gw_inc5 at77_47 (h := (gw_goto at77_50 ?_))
        refine ih (n + 1) (by omega) (by omega) _ _ _ rfl ?_
        first | rw [am1_lt hn0 (by rw [← hs2]; omega)] | (rw [am1_ge hn0 (by rw [← hs2]; omega), hs1, hs2])
      · refine gw_il6 at77_40 (gw_is4 at77_42 (h := (gw_il5 at77_44 (gw_is3 at77_46 (h := (gw_inc5 at77_47 (h := (gw_goto at77_50 ?_))))))))
        refine ih (n + 1) (by omega) (by omega) _ _ _ rfl ?_
        first | rw [am1_lt hn0 (by rw [← hs2]; omega)] | (rw [am1_ge hn0 (by rw [← hs2]; omega), hs1, hs2])
  exact lp9 0 (by omega) (by omega) _ _ _ rfl rfl
set_option maxHeartbeats 1000000 in
theorem c_costFrom {g : Nat} {T : gT} {c J : gC} (hR : RT T) (hc : RG c) (hS : SR c) {p q : Int} (hp : -2147483648 ≤ p ∧ p < 2147483648) (hq : -2147483648 ≤ q ∧ q < 2147483648) : gE g 78 2 [.ref 100026, gi p, gi q] (gm T c J) (gR (gi (cfr c p q)) (gm T c J)) := by
  have hf := fst1_rg c p q
  have hi := am1_if (B := 100000000) (f := fun a => stp c p a + cbh c a q) (n := 24) (by omega)
  refine gE_mk am_r78 rfl (Or.inr ⟨_, rfl, (by first | exact RT_0 hR)⟩) (fun d hd => ?_)
  show gw d g 78 0 [.ref 100026, gi p, gi q, am_U] [] _ _
  refine gw_al0 at78_0 (gw_il1 at78_1 (gw_il2 at78_2 (gw_callP3 at78_3 (c_firstArc hR hc hS (by omega) (by omega)) (by omega) (Nat.le_of_ble_eq_true rfl) (gw_is3 at78_6 (h := (gw_il3 at78_7 (gw_const at78_8 ?_)))))))
  refine gw_cne at78_9 (by first | omega | exact hc _ _ | exact bi_rg _ | exact zrg _) (by first | omega | exact hc _ _ | exact bi_rg _ | exact zrg _) (fun q9 => ?_) (fun q9 => ?_)
  · refine gw_al0 at78_17 (gw_il1 at78_18 (gw_il3 at78_19 (gw_callP3 at78_20 (c_stepCost hR hc (by omega) (by omega)) (by omega) (Nat.le_of_ble_eq_true rfl) (gw_al0 at78_23 (gw_il3 at78_24 (gw_il2 at78_25 (gw_callP3 at78_26 (c_costBehind hR hc (by omega) (by omega)) (by omega) (Nat.le_of_ble_eq_true rfl) (gw_iadd at78_29 (gw_ri at78_30 am_r78.2.1 (gR_i ?_))))))))))
    unfold cfr fst1; rw [hi]; first | rw [if_pos (by first | assumption | (unfold fst1 at *; omega))] | rw [if_neg (by first | assumption | (unfold fst1 at *; omega))]
  · refine gw_ldc (z := 100000000) at78_12 (by decide) (gw_goto at78_14 (gw_ri at78_30 am_r78.2.1 (gR_i ?_)))
    unfold cfr fst1; rw [hi]; first | rw [if_pos (by first | assumption | (unfold fst1 at *; omega))] | rw [if_neg (by first | assumption | (unfold fst1 at *; omega))]
set_option maxHeartbeats 1000000 in
theorem c_costBetween {g : Nat} {T : gT} {c J : gC} (hR : RT T) (hc : RG c) (hS : SR c) {n m : Int} (hn : -1000 ≤ n ∧ n < 1000) (hm : -1000 ≤ m ∧ m < 1000) : gE g 79 3 [.ref 100026, gi n, gi m] (gm T c J) (gR (gi (cbw c n m)) (gm T c J)) := by
  refine gE_mk am_r79 rfl (Or.inr ⟨_, rfl, (by first | exact RT_0 hR)⟩) (fun d hd => ?_)
  show gw d g 79 0 [.ref 100026, gi n, gi m] [] _ _
  refine gw_il1 at79_0 (gw_il2 at79_1 ?_)
  refine gw_cne at79_2 (by first | omega | exact hc _ _ | exact bi_rg _ | exact zrg _) (by first | omega | exact hc _ _ | exact bi_rg _ | exact zrg _) (fun q2 => ?_) (fun q2 => ?_)
  · refine gw_al0 at79_9 (gw_il1 at79_10 (gw_callP1 at79_11 (c_placeOf) (by omega) (Nat.le_of_ble_eq_true rfl) (gw_il2 at79_14 (gw_callP1 at79_15 (c_placeOf) (by omega) (Nat.le_of_ble_eq_true rfl) (gw_callP3 at79_18 (c_costFrom hR hc hS (by omega) (by omega)) (by omega) (Nat.le_of_ble_eq_true rfl) (gw_ri at79_21 am_r79.2.1 (gR_i ?_)))))))
    first | (exfalso; omega) | (unfold cbw; rw [if_pos (by omega)]) | (unfold cbw; rw [if_neg (by omega)])
  · refine gw_const at79_5 (gw_goto at79_6 (gw_ri at79_21 am_r79.2.1 (gR_i ?_)))
    first | (exfalso; omega) | (unfold cbw; rw [if_pos (by omega)]) | (unfold cbw; rw [if_neg (by omega)])
set_option maxHeartbeats 1000000 in
theorem c_nearestArc {g : Nat} {T : gT} {c J : gC} (hR : RT T) (hc : RG c) (hS : SR c) {p s : Int} (hp : -2147483648 ≤ p ∧ p < 2147483648) (hs : -2147483648 ≤ s ∧ s < 2147483648) : gE g 82 3 [.ref 100026, gi p, gi s] (gm T c J) (gR (gi (nea c p s).1) (gm T c J)) := by
  refine gE_mk am_r82 rfl (Or.inr ⟨_, rfl, (by first | exact RT_0 hR)⟩) (fun d hd => ?_)
  show gw d g 82 0 [.ref 100026, gi p, gi s, am_U, am_U, am_U, am_U] [] _ _
  refine gw_const at82_0 (gw_is3 at82_1 (h := (gw_ldc (z := 100000000) at82_2 (by decide) (gw_is4 at82_4 (h := (gw_const at82_6 (gw_is5 at82_7 (h := ?_))))))))
  have lp9 : ∀ n : Int, 0 ≤ n → n ≤ 24 → ∀ (u l : Int) (w : Value), am_nl w = true → (u, l) = am1 100000000 (fun a => if tb s a = true then cfr c p a else 100000000) n → gw d g 82 9 [.ref 100026, gi p, gi s, gi u, gi l, gi n, w] [] (gm T c J) (gR (gi (nea c p s).1) (gm T c J)) := by
    refine ind_up 24 ?_
    intro n hn0 hn1 ih u l w hw hz
    have hs1 : u = (am1 100000000 (fun a => if tb s a = true then cfr c p a else 100000000) n).1 := by rw [← hz]
    have hs2 : l = (am1 100000000 (fun a => if tb s a = true then cfr c p a else 100000000) n).2 := by rw [← hz]
    clear hz
    have hl1 : 0 ≤ l ∧ l ≤ 100000000 := by
      rw [hs2]
      exact ⟨am1_0le hn0 (by omega) (fun a => by have := cfr_rg hS p a; split <;> omega), am1_le hn0⟩
    refine gw_il5 at82_9 ?_
    refine gw_bip at82_11 (by decide) ?_
    refine gw_cge at82_13 (by first | omega | (have := cfr_rg hS p n; omega)) (by first | omega | (have := cfr_rg hS p n; omega)) (fun q13 => ?_) (fun q13 => ?_)
    · refine gw_il3 at82_59 (gw_ri at82_60 am_r82.2.1 (gR_i ?_))
      rw [hs1, show n = 24 by omega]; rfl
    · refine gw_il2 at82_16 (gw_il5 at82_17 (gw_callP2 at82_19 (c_contains) (by omega) (Nat.le_of_ble_eq_true rfl) ?_))
      refine gw_beq at82_22 (fun q22 => ?_) (fun q22 => ?_)
      · refine gw_ldc (z := 100000000) at82_35 (by decide) (gw_is6 at82_37 (h := (gw_il6 at82_39 (gw_il4 at82_41 ?_))))
        refine gw_cge at82_43 (by first | omega | (have := cfr_rg hS p n; omega)) (by first | omega | (have := cfr_rg hS p n; omega)) (fun q43 => ?_) (fun q43 => ?_)
        · refine gw_inc5 at82_53 (h := (gw_goto at82_56 ?_))
          refine ih (n + 1) (by omega) (by omega) _ _ _ rfl ?_
          first | (rw [am1_lt hn0 (by rw [← hs2]; simp [*] <;> omega)]; simp [*]; done) | (rw [am1_ge hn0 (by rw [← hs2]; simp [*] <;> omega), hs1, hs2])
        · refine gw_il6 at82_46 (gw_is4 at82_48 (h := (gw_il5 at82_50 (gw_is3 at82_52 (h := (gw_inc5 at82_53 (h := (gw_goto at82_56 ?_))))))))
          refine ih (n + 1) (by omega) (by omega) _ _ _ rfl ?_
          first | (rw [am1_lt hn0 (by rw [← hs2]; simp [*] <;> omega)]; simp [*]; done) | (rw [am1_ge hn0 (by rw [← hs2]; simp [*] <;> omega), hs1, hs2])
      · refine gw_al0 at82_25 (gw_il1 at82_26 (gw_il5 at82_27 (gw_callP3 at82_29 (c_costFrom hR hc hS (by omega) (by omega)) (by omega) (Nat.le_of_ble_eq_true rfl) (gw_goto at82_32 (gw_is6 at82_37 (h := (gw_il6 at82_39 (gw_il4 at82_41 ?_))))))))
        refine gw_cge at82_43 (by first | omega | (have := cfr_rg hS p n; omega)) (by first | omega | (have := cfr_rg hS p n; omega)) (fun q43 => ?_) (fun q43 => ?_)
        · refine gw_inc5 at82_53 (h := (gw_goto at82_56 ?_))
          refine ih (n + 1) (by omega) (by omega) _ _ _ rfl ?_
          first | (rw [am1_lt hn0 (by rw [← hs2]; simp [*] <;> omega)]; simp [*]; done) | (rw [am1_ge hn0 (by rw [← hs2]; simp [*] <;> omega), hs1, hs2])
        · refine gw_il6 at82_46 (gw_is4 at82_48 (h := (gw_il5 at82_50 (gw_is3 at82_52 (h := (gw_inc5 at82_53 (h := (gw_goto at82_56 ?_))))))))
          refine ih (n + 1) (by omega) (by omega) _ _ _ rfl ?_
          first | (rw [am1_lt hn0 (by rw [← hs2]; simp [*] <;> omega)]; simp [*]; done) | (rw [am1_ge hn0 (by rw [← hs2]; simp [*] <;> omega), hs1, hs2])
  exact lp9 0 (by omega) (by omega) _ _ _ rfl rfl
set_option maxHeartbeats 1000000 in
theorem c_farthestFrom {g : Nat} {T : gT} {c J : gC} (hR : RT T) (hc : RG c) (hS : SR c) (hT : NT T 100014) (hN : NR c 100014) {n : Int} (hn : -1000 ≤ n ∧ n < 1000) : gE g 81 4 [.ref 100026, gi n] (gm T c J) (gR (gi (far c n (c 100014 1))) (gm T c J)) := by
  have hR1 := hN.1
  refine gE_mk am_r81 rfl (Or.inr ⟨_, rfl, (by first | exact RT_0 hR | exact RT_r0 hR | exact NT_0 hT)⟩) (fun d hd => ?_)
  show gw d g 81 0 [.ref 100026, gi n, am_U, am_U] [] _ _
  refine gw_const at81_0 (gw_is2 at81_1 (h := (gw_const at81_2 (gw_is3 at81_3 (h := ?_)))))
  have lp4 : ∀ t : Int, 0 ≤ t → t ≤ 20 → t ≤ c 100014 1 → ∀ s : Int, s = far c n t → gw d g 81 4 [.ref 100026, gi n, gi s, gi t] [] (gm T c J) (gR (gi (far c n (c 100014 1))) (gm T c J)) := by
    refine ind_up 20 ?_
    intro t ht0 ht1 ih ht2 s hs
    have hs2 : 0 ≤ s ∧ s ≤ 100000000 := by rw [hs]; exact far_rg hS n t
    refine gw_il3 at81_4 ?_
    refine gw_al0 at81_5 (gw_gr at81_6 (by first | exact RT_0 hR | exact RT_r0 hR | exact NT_0 hT) (by first | exact RT_0 hR | exact RT_r0 hR | exact NT_0 hT) (gw_gf (j := 1) at81_9 (by first | exact RT_0 hR | exact RT_r0 hR | exact NT_0 hT) rfl ?_))
    refine gw_cge at81_12 (by first | omega | (have := cbw_rg hS n t; omega)) (by first | omega | (have := cbw_rg hS n t; omega)) (fun q12 => ?_) (fun q12 => ?_)
    · refine gw_il2 at81_32 (gw_ri at81_33 am_r81.2.1 (gR_i ?_))
      rw [hs, show t = c 100014 1 by omega]
    · refine gw_il2 at81_15 (gw_al0 at81_16 (gw_il1 at81_17 (gw_il3 at81_18 (gw_callP3 at81_19 (c_costBetween hR hc hS (by omega) (by omega)) (by omega) (Nat.le_of_ble_eq_true rfl) (gw_max at81_22 (by first | omega | (have := cbw_rg hS n t; omega)) (by first | omega | (have := cbw_rg hS n t; omega)) (Nat.le_of_ble_eq_true rfl) (gw_is2 at81_25 (h := (gw_inc3 at81_26 (h := (gw_goto at81_29 ?_))))))))))
      refine ih (t + 1) (by omega) (by omega) (by omega) _ ?_
      unfold far at hs ⊢
      rw [itI_s _ _ ht0, ← hs]
  exact lp4 0 (by omega) (by omega) (by omega) _ rfl
