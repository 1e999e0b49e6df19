/-! the road network: turns, salt, reach, names -/
def itN {α : Type} (f : Nat → α → α) (x : α) : Nat → α
  | 0 => x
  | n + 1 => f n (itN f x n)
def itI {α : Type} (f : Int → α → α) (x : α) (k : Int) : α := itN (fun n => f (n : Int)) x k.toNat
theorem itI_0 {α : Type} (f : Int → α → α) (x : α) : itI f x 0 = x := rfl
theorem itI_s {α : Type} (f : Int → α → α) (x : α) {k : Int} (hk : 0 ≤ k) : itI f x (k + 1) = f k (itI f x k) := by
  unfold itI
  rw [show (k + 1).toNat = k.toNat + 1 by omega]
  show f (k.toNat : Int) _ = _
  rw [show ((k.toNat : Nat) : Int) = k by omega]
theorem itI_neg {α : Type} (f : Int → α → α) (x : α) {k : Int} (hk : k ≤ 0) : itI f x k = x := by
  unfold itI
  rw [show k.toNat = 0 by omega]
  rfl
theorem itN_congr {α : Type} {f g : Nat → α → α} {x : α} {n : Nat} (h : ∀ k, k < n → f k = g k) : itN f x n = itN g x n := by
  induction n with
  | zero => rfl
  | succ n ih =>
    show f n _ = g n _
    rw [ih (fun k hk => h k (by omega)), h n (by omega)]
theorem itI_congr {α : Type} {f g : Int → α → α} {x : α} {k : Int} (h : ∀ j : Int, 0 ≤ j → j < k → f j = g j) : itI f x k = itI g x k := itN_congr fun n hn => h (n : Int) (by omega) (by omega)
/-- the first number from i on, below N, that p takes; -1 where there is none -/
def ffN (p : Int → Bool) : Nat → Int → Int
  | 0, _ => -1
  | n + 1, i => if p i = true then i else ffN p n (i + 1)
def ff (p : Int → Bool) (N i : Int) : Int := ffN p (N - i).toNat i
theorem ff_end {p : Int → Bool} {N i : Int} (h : N ≤ i) : ff p N i = -1 := by
  unfold ff
  rw [show (N - i).toNat = 0 by omega]
  rfl
theorem ff_yes {p : Int → Bool} {N i : Int} (h : i < N) (hp : p i = true) : ff p N i = i := by
  unfold ff
  rw [show (N - i).toNat = (N - (i + 1)).toNat + 1 by omega]
  show (if p i = true then i else _) = i
  rw [if_pos hp]
theorem ff_no {p : Int → Bool} {N i : Int} (h : i < N) (hp : p i = false) : ff p N i = ff p N (i + 1) := by
  unfold ff
  rw [show (N - i).toNat = (N - (i + 1)).toNat + 1 by omega]
  show (if p i = true then i else _) = _
  rw [if_neg (by rw [hp]; decide)]
theorem ff_congr {p q : Int → Bool} {N : Int} : ∀ {i : Int}, (∀ j : Int, i ≤ j → j < N → p j = q j) → ff p N i = ff q N i := by
  have key : ∀ n : Nat, ∀ i : Int, (N - i).toNat = n → (∀ j : Int, i ≤ j → j < N → p j = q j) → ff p N i = ff q N i := by
    intro n
    induction n with
    | zero => intro i hn h; rw [ff_end (by omega), ff_end (by omega)]
    | succ n ih =>
      intro i hn h
      have h0 := h i (by omega) (by omega)
      cases hp : p i
      · rw [ff_no (p := p) (by omega) hp, ff_no (p := q) (i := i) (by omega) (by rw [← h0]; exact hp)]
        exact ih (i + 1) (by omega) (fun j h1 h2 => h j (by omega) h2)
      · rw [ff_yes (p := p) (by omega) hp, ff_yes (p := q) (i := i) (by omega) (by rw [← h0]; exact hp)]
  exact fun {i} h => key _ i rfl h
theorem ff_spec {p : Int → Bool} {N : Int} : ∀ {i : Int}, 0 ≤ i → (ff p N i = -1 ∧ ∀ j : Int, i ≤ j → j < N → p j = false) ∨ (i ≤ ff p N i ∧ ff p N i < N ∧ p (ff p N i) = true ∧ ∀ j : Int, i ≤ j → j < ff p N i → p j = false) := by
  have key : ∀ n : Nat, ∀ i : Int, (N - i).toNat = n → 0 ≤ i → (ff p N i = -1 ∧ ∀ j : Int, i ≤ j → j < N → p j = false) ∨ (i ≤ ff p N i ∧ ff p N i < N ∧ p (ff p N i) = true ∧ ∀ j : Int, i ≤ j → j < ff p N i → p j = false) := by
    intro n
    induction n with
    | zero => intro i hn h0; exact Or.inl ⟨ff_end (by omega), fun j h1 h2 => by omega⟩
    | succ n ih =>
      intro i hn h0
      cases hp : p i
      · rw [ff_no (by omega) hp]
        rcases ih (i + 1) (by omega) (by omega) with ⟨h1, h2⟩ | ⟨h1, h2, h3, h4⟩
        · refine Or.inl ⟨h1, fun j h3 h4 => ?_⟩
          by_cases e : j = i
          · rw [e]; exact hp
          · exact h2 j (by omega) h4
        · refine Or.inr ⟨by omega, h2, h3, fun j h5 h6 => ?_⟩
          by_cases e : j = i
          · rw [e]; exact hp
          · exact h4 j (by omega) h6
      · rw [ff_yes (by omega) hp]
        exact Or.inr ⟨by omega, by omega, hp, fun j h1 h2 => by omega⟩
  exact fun {i} h => key _ i rfl h
theorem ff_rg {p : Int → Bool} {N i : Int} (h0 : 0 ≤ i) : -1 ≤ ff p N i ∧ (ff p N i < N ∨ ff p N i = -1) := by
  rcases ff_spec (p := p) (N := N) h0 with ⟨h1, -⟩ | ⟨h1, h2, -, -⟩
  · exact ⟨by omega, Or.inr h1⟩
  · exact ⟨by omega, Or.inl h2⟩
theorem mulb {a b A B : Int} (ha : 0 ≤ a ∧ a ≤ A) (hb : 0 ≤ b ∧ b ≤ B) : 0 ≤ a * b ∧ a * b ≤ A * B := ⟨Int.mul_nonneg ha.1 hb.1, Int.mul_le_mul ha.2 hb.2 hb.1 (by omega)⟩
/-- the salt that an arc needs -/
def sf (c : gC) (k : Nat) (a : Int) : Int := if 1 ≤ cl c k a ∧ cl c k a ≤ 3 then ln c k a * c (k + 11) (cl c k a - 1) / 100 else 0
def rst (c : gC) (k : Nat) (w a s : Int) : Int := if (hA c k a && !decide (a / 2 = w) && tb s (bg c k a)) = true then zor s (zshl 1 (en c k a)) else s
def rch (c : gC) (k : Nat) (n w : Int) : Int := itI (fun _ s => itI (rst c k w) s 24) (zshl 1 n) (c k 1 - 1)
set_option maxHeartbeats 1000000 in
theorem c_turnKind {g : Nat} {T : gT} {c J : gC} {k : Nat} (hT : NT T k) (hc : RG c) (hN : NR c k) {a b : Int} (ha : -2147483648 ≤ a ∧ a < 2147483648) (hb : -2147483648 ≤ b ∧ b < 2147483648) : gE g 25 1 [.ref k, gi a, gi b] (gm T c J) (gR (gi (tkd c k a b)) (gm T c J)) := by
  have e0 := xo_rg hN (en c k a)
  have e1 := yo_rg hN (en c k a)
  have e2 := xo_rg hN (bg c k a)
  have e3 := yo_rg hN (bg c k a)
  have e4 := xo_rg hN (en c k b)
  have e5 := yo_rg hN (en c k b)
  have e6 := xo_rg hN (bg c k b)
  have e7 := yo_rg hN (bg c k b)
  have m0 := mul99 (a := xo c k (en c k a) - xo c k (bg c k a)) (b := yo c k (en c k b) - yo c k (bg c k b)) ⟨by omega, by omega⟩ ⟨by omega, by omega⟩
  have m1 := mul99 (a := yo c k (en c k a) - yo c k (bg c k a)) (b := xo c k (en c k b) - xo c k (bg c k b)) ⟨by omega, by omega⟩ ⟨by omega, by omega⟩
  have m2 := mul99 (a := xo c k (en c k a) - xo c k (bg c k a)) (b := xo c k (en c k b) - xo c k (bg c k b)) ⟨by omega, by omega⟩ ⟨by omega, by omega⟩
  have m3 := mul99 (a := yo c k (en c k a) - yo c k (bg c k a)) (b := yo c k (en c k b) - yo c k (bg c k b)) ⟨by omega, by omega⟩ ⟨by omega, by omega⟩
  refine gE_mk am_r25 rfl (Or.inr ⟨_, rfl, (by exact NT_0 hT)⟩) (fun d hd => ?_)
  show gw d g 25 0 [.ref k, gi a, gi b, am_U, am_U, am_U, am_U, am_U] [] _ _
  refine gw_al0 at25_0 (gw_al0 at25_1 (gw_il1 at25_2 (gw_callP2 at25_3 (c_endOf hT hc (by first | omega | exact hc _ _ | (have := en_rg hN a; omega) | (have := en_rg hN b; omega) | (have := bg_rg hN a; omega) | (have := bg_rg hN b; omega))) (by omega) (Nat.le_of_ble_eq_true rfl) (gw_callP2 at25_6 (c_xOf hT hc (by first | omega | exact hc _ _ | (have := en_rg hN a; omega) | (have := en_rg hN b; omega) | (have := bg_rg hN a; omega) | (have := bg_rg hN b; omega))) (by omega) (Nat.le_of_ble_eq_true rfl) (gw_al0 at25_9 (gw_al0 at25_10 (gw_il1 at25_11 (gw_callP2 at25_12 (c_beginOf hT hc (by first | omega | exact hc _ _ | (have := en_rg hN a; omega) | (have := en_rg hN b; omega) | (have := bg_rg hN a; omega) | (have := bg_rg hN b; omega))) (by omega) (Nat.le_of_ble_eq_true rfl) (gw_callP2 at25_15 (c_xOf hT hc (by first | omega | exact hc _ _ | (have := en_rg hN a; omega) | (have := en_rg hN b; omega) | (have := bg_rg hN a; omega) | (have := bg_rg hN b; omega))) (by omega) (Nat.le_of_ble_eq_true rfl) (gw_isub at25_18 (gw_is3 at25_19 (h := (gw_al0 at25_20 (gw_al0 at25_21 (gw_il1 at25_22 (gw_callP2 at25_23 (c_endOf hT hc (by first | omega | exact hc _ _ | (have := en_rg hN a; omega) | (have := en_rg hN b; omega) | (have := bg_rg hN a; omega) | (have := bg_rg hN b; omega))) (by omega) (Nat.le_of_ble_eq_true rfl) (gw_callP2 at25_26 (c_yOf hT hc (by first | omega | exact hc _ _ | (have := en_rg hN a; omega) | (have := en_rg hN b; omega) | (have := bg_rg hN a; omega) | (have := bg_rg hN b; omega))) (by omega) (Nat.le_of_ble_eq_true rfl) (gw_al0 at25_29 (gw_al0 at25_30 (gw_il1 at25_31 (gw_callP2 at25_32 (c_beginOf hT hc (by first | omega | exact hc _ _ | (have := en_rg hN a; omega) | (have := en_rg hN b; omega) | (have := bg_rg hN a; omega) | (have := bg_rg hN b; omega))) (by omega) (Nat.le_of_ble_eq_true rfl) (gw_callP2 at25_35 (c_yOf hT hc (by first | omega | exact hc _ _ | (have := en_rg hN a; omega) | (have := en_rg hN b; omega) | (have := bg_rg hN a; omega) | (have := bg_rg hN b; omega))) (by omega) (Nat.le_of_ble_eq_true rfl) (gw_isub at25_38 (gw_is4 at25_39 (h := (gw_al0 at25_41 (gw_al0 at25_42 (gw_il2 at25_43 (gw_callP2 at25_44 (c_endOf hT hc (by first | omega | exact hc _ _ | (have := en_rg hN a; omega) | (have := en_rg hN b; omega) | (have := bg_rg hN a; omega) | (have := bg_rg hN b; omega))) (by omega) (Nat.le_of_ble_eq_true rfl) (gw_callP2 at25_47 (c_xOf hT hc (by first | omega | exact hc _ _ | (have := en_rg hN a; omega) | (have := en_rg hN b; omega) | (have := bg_rg hN a; omega) | (have := bg_rg hN b; omega))) (by omega) (Nat.le_of_ble_eq_true rfl) (gw_al0 at25_50 (gw_al0 at25_51 (gw_il2 at25_52 (gw_callP2 at25_53 (c_beginOf hT hc (by first | omega | exact hc _ _ | (have := en_rg hN a; omega) | (have := en_rg hN b; omega) | (have := bg_rg hN a; omega) | (have := bg_rg hN b; omega))) (by omega) (Nat.le_of_ble_eq_true rfl) (gw_callP2 at25_56 (c_xOf hT hc (by first | omega | exact hc _ _ | (have := en_rg hN a; omega) | (have := en_rg hN b; omega) | (have := bg_rg hN a; omega) | (have := bg_rg hN b; omega))) (by omega) (Nat.le_of_ble_eq_true rfl) (gw_isub at25_59 (gw_is5 at25_60 (h := (gw_al0 at25_62 (gw_al0 at25_63 (gw_il2 at25_64 (gw_callP2 at25_65 (c_endOf hT hc (by first | omega | exact hc _ _ | (have := en_rg hN a; omega) | (have := en_rg hN b; omega) | (have := bg_rg hN a; omega) | (have := bg_rg hN b; omega))) (by omega) (Nat.le_of_ble_eq_true rfl) (gw_callP2 at25_68 (c_yOf hT hc (by first | omega | exact hc _ _ | (have := en_rg hN a; omega) | (have := en_rg hN b; omega) | (have := bg_rg hN a; omega) | (have := bg_rg hN b; omega))) (by omega) (Nat.le_of_ble_eq_true rfl) (gw_al0 at25_71 (gw_al0 at25_72 (gw_il2 at25_73 (gw_callP2 at25_74 (c_beginOf hT hc (by first | omega | exact hc _ _ | (have := en_rg hN a; omega) | (have := en_rg hN b; omega) | (have := bg_rg hN a; omega) | (have := bg_rg hN b; omega))) (by omega) (Nat.le_of_ble_eq_true rfl) (gw_callP2 at25_77 (c_yOf hT hc (by first | omega | exact hc _ _ | (have := en_rg hN a; omega) | (have := en_rg hN b; omega) | (have := bg_rg hN a; omega) | (have := bg_rg hN b; omega))) (by omega) (Nat.le_of_ble_eq_true rfl) (gw_isub at25_80 (gw_is6 at25_81 (h := (gw_il3 at25_83 (gw_il6 at25_84 (gw_imul at25_86 (gw_il4 at25_87 (gw_il5 at25_89 (gw_imul at25_91 (gw_isub at25_92 (gw_is7 at25_93 (h := (gw_il7 at25_95 ?_)))))))))))))))))))))))))))))))))))))))))))))))))))))))))))))
  refine gw_zeq at25_97 (by first | omega | exact hc _ _ | (have := en_rg hN a; omega) | (have := en_rg hN b; omega) | (have := bg_rg hN a; omega) | (have := bg_rg hN b; omega)) (fun q97 => ?_) (fun q97 => ?_)
  · refine gw_il3 at25_111 (gw_il5 at25_112 (gw_imul at25_114 (gw_il4 at25_115 (gw_il6 at25_117 (gw_imul at25_119 (gw_iadd at25_120 ?_))))))
    refine gw_zle at25_121 (by first | omega | exact hc _ _ | (have := en_rg hN a; omega) | (have := en_rg hN b; omega) | (have := bg_rg hN a; omega) | (have := bg_rg hN b; omega)) (fun q121 => ?_) (fun q121 => ?_)
    · refine gw_const at25_128 (gw_ri at25_129 am_r25.2.1 (gR_i ?_))
      unfold tkd kdz; first | (rw [if_pos (by omega), if_pos (by omega)]) | (rw [if_pos (by omega), if_neg (by omega)]) | (rw [if_neg (by omega), if_pos (by omega)]) | (rw [if_neg (by omega), if_neg (by omega)])
    · refine gw_const at25_124 (gw_goto at25_125 (gw_ri at25_129 am_r25.2.1 (gR_i ?_)))
      unfold tkd kdz; first | (rw [if_pos (by omega), if_pos (by omega)]) | (rw [if_pos (by omega), if_neg (by omega)]) | (rw [if_neg (by omega), if_pos (by omega)]) | (rw [if_neg (by omega), if_neg (by omega)])
  · refine gw_il7 at25_100 ?_
    refine gw_zle at25_102 (by first | omega | exact hc _ _ | (have := en_rg hN a; omega) | (have := en_rg hN b; omega) | (have := bg_rg hN a; omega) | (have := bg_rg hN b; omega)) (fun q102 => ?_) (fun q102 => ?_)
    · refine gw_const at25_109 (gw_ri at25_110 am_r25.2.1 (gR_i ?_))
      unfold tkd kdz; first | (rw [if_pos (by omega), if_pos (by omega)]) | (rw [if_pos (by omega), if_neg (by omega)]) | (rw [if_neg (by omega), if_pos (by omega)]) | (rw [if_neg (by omega), if_neg (by omega)])
    · refine gw_const at25_105 (gw_goto at25_106 (gw_ri at25_110 am_r25.2.1 (gR_i ?_)))
      unfold tkd kdz; first | (rw [if_pos (by omega), if_pos (by omega)]) | (rw [if_pos (by omega), if_neg (by omega)]) | (rw [if_neg (by omega), if_pos (by omega)]) | (rw [if_neg (by omega), if_neg (by omega)])
set_option maxHeartbeats 1000000 in
theorem c_saltFor {g : Nat} {T : gT} {c J : gC} {k : Nat} (hT : NT T k) (hc : RG c) (hN : NR c k) {a : Int} (ha : -2147483648 ≤ a ∧ a < 2147483648) : gE g 23 1 [.ref k, gi a] (gm T c J) (gR (gi (sf c k a)) (gm T c J)) := by
  have hl := ln_rg hN a
  have hk := cl_rg hN a
  have hs : 1 ≤ cl c k a → cl c k a ≤ 3 → 0 ≤ c (k + 11) (cl c k a - 1) ∧ c (k + 11) (cl c k a - 1) ≤ 99 := fun h1 h2 => hN.2.2.2.2.2 _ (by omega) (by omega)
  have hm : 1 ≤ cl c k a → cl c k a ≤ 3 → 0 ≤ ln c k a * c (k + 11) (cl c k a - 1) ∧ ln c k a * c (k + 11) (cl c k a - 1) ≤ 999 * 99 := fun h1 h2 => mulb hl (hs h1 h2)
  refine gE_mk am_r23 rfl (Or.inr ⟨_, rfl, (by first | exact NT_0 hT | exact NT_r17 hT | exact NT_t17 hT | exact NT_l17 hT)⟩) (fun d hd => ?_)
  show gw d g 23 0 [.ref k, gi a, am_U] [] _ _
  refine gw_al0 at23_0 (gw_il1 at23_1 (gw_callP2 at23_2 (c_classOf hT hc (by omega)) (by omega) (Nat.le_of_ble_eq_true rfl) (gw_is2 at23_5 (h := (gw_il2 at23_6 (gw_const at23_7 ?_))))))
  refine gw_clt at23_8 (by first | omega | (have := hm (by omega) (by omega); omega)) (by first | omega | (have := hm (by omega) (by omega); omega)) (fun q8 => ?_) (fun q8 => ?_)
  · refine gw_const at23_16 (gw_ri at23_17 am_r23.2.1 (gR_i ?_))
    first | (exfalso; omega) | (unfold sf; rw [if_pos (by omega)]) | (unfold sf; rw [if_neg (by omega)])
  · refine gw_il2 at23_11 (gw_const at23_12 ?_)
    refine gw_cle at23_13 (by first | omega | (have := hm (by omega) (by omega); omega)) (by first | omega | (have := hm (by omega) (by omega); omega)) (fun q13 => ?_) (fun q13 => ?_)
    · refine gw_al0 at23_18 (gw_il1 at23_19 (gw_callP2 at23_20 (c_lengthOf hT hc (by omega)) (by omega) (Nat.le_of_ble_eq_true rfl) (gw_al0 at23_23 (gw_gr at23_24 (by first | exact NT_0 hT | exact NT_r17 hT | exact NT_t17 hT | exact NT_l17 hT) (by first | exact NT_0 hT | exact NT_r17 hT | exact NT_t17 hT | exact NT_l17 hT) (gw_il2 at23_27 (gw_const at23_28 (gw_isub at23_29 (gw_ia at23_30 (by first | exact Or.inl (by first | exact NT_0 hT | exact NT_r17 hT | exact NT_t17 hT | exact NT_l17 hT) | exact Or.inr (by first | exact NT_0 hT | exact NT_r17 hT | exact NT_t17 hT | exact NT_l17 hT)) (by first | exact NT_0 hT | exact NT_r17 hT | exact NT_t17 hT | exact NT_l17 hT) (by first | omega | (have := hm (by omega) (by omega); omega)) (by first | omega | (have := hm (by omega) (by omega); omega)) (by omega) (gw_imul at23_31 (gw_bip at23_32 (by decide) (gw_divp at23_34 (by first | omega | (have := hm (by omega) (by omega); omega)) (by first | omega | (have := hm (by omega) (by omega); omega)) (gw_ri at23_35 am_r23.2.1 (gR_i ?_)))))))))))))
      first | (exfalso; omega) | (unfold sf; rw [if_pos (by omega)]) | (unfold sf; rw [if_neg (by omega)])
    · refine gw_const at23_16 (gw_ri at23_17 am_r23.2.1 (gR_i ?_))
      first | (exfalso; omega) | (unfold sf; rw [if_pos (by omega)]) | (unfold sf; rw [if_neg (by omega)])
set_option maxHeartbeats 1000000 in
theorem c_reachableFrom {g : Nat} {T : gT} {c J : gC} {k : Nat} (hT : NT T k) (hc : RG c) (hN : NR c k) {n w : Int} (hn : -2147483648 ≤ n ∧ n < 2147483648) (hw : -2147483648 ≤ w ∧ w < 2147483648) : gE g 28 2 [.ref k, gi n, gi w] (gm T c J) (gR (gi (rch c k n w)) (gm T c J)) := by
  have hR := hN.1
  refine gE_mk am_r28 rfl (Or.inr ⟨_, rfl, (by exact NT_0 hT)⟩) (fun d hd => ?_)
  show gw d g 28 0 [.ref k, gi n, gi w, am_U, am_U, am_U] [] _ _
  refine gw_const at28_0 (gw_il1 at28_1 (gw_ishl at28_2 (gw_is3 at28_3 (h := (gw_const at28_4 (gw_is4 at28_5 (h := ?_)))))))
  have lp7 : ∀ r : Int, 0 ≤ r → r ≤ 20 → ∀ (s : Int) (u : Value), am_nl u = true → 1 ≤ r → (r ≤ c k 1 ∨ r = 1) → s = itI (fun _ s => itI (rst c k w) s 24) (zshl 1 n) (r - 1) → gw d g 28 7 [.ref k, gi n, gi w, gi s, gi r, u] [] (gm T c J) (gR (gi (rch c k n w)) (gm T c J)) := by
    refine ind_up 20 ?_
    intro r hr0 hr1 ih s u hu hr2 hr3 hs
    refine gw_il4 at28_7 ?_
    refine gw_al0 at28_9 (gw_gf (j := 1) at28_10 (by exact NT_0 hT) rfl ?_)
    refine gw_cge at28_13 (by first | omega | exact hc _ _ | exact bi_rg _ | exact zrg _ | (have := bg_rg hN n2; omega) | (have := en_rg hN n2; omega)) (by first | omega | exact hc _ _ | exact bi_rg _ | exact zrg _ | (have := bg_rg hN n2; omega) | (have := en_rg hN n2; omega)) (fun q13 => ?_) (fun q13 => ?_)
    · refine gw_il3 at28_79 (gw_ri at28_80 am_r28.2.1 (gR_i ?_))
      rw [hs]; unfold rch; rcases hr3 with h | h
      · rw [show r - 1 = c k 1 - 1 by omega]
      · rw [itI_neg _ _ (show r - 1 ≤ 0 by omega), itI_neg _ _ (show c k 1 - 1 ≤ 0 by omega)]
    · refine gw_const at28_16 (gw_is5 at28_17 (h := ?_))
      have lp19 : ∀ n2 : Int, 0 ≤ n2 → n2 ≤ 24 → ∀ s2 : Int, s2 = itI (rst c k w) s n2 → gw d g 28 19 [.ref k, gi n, gi w, gi s2, gi r, gi n2] [] (gm T c J) (gR (gi (rch c k n w)) (gm T c J)) := by
        refine ind_up 24 ?_
        intro n2 hn0 hn1 ih2 s2 hs2
        refine gw_il5 at28_19 ?_
        refine gw_bip at28_21 (by decide) ?_
        refine gw_cge at28_23 (by first | omega | exact hc _ _ | exact bi_rg _ | exact zrg _ | (have := bg_rg hN n2; omega) | (have := en_rg hN n2; omega)) (by first | omega | exact hc _ _ | exact bi_rg _ | exact zrg _ | (have := bg_rg hN n2; omega) | (have := en_rg hN n2; omega)) (fun q23 => ?_) (fun q23 => ?_)
        · refine gw_inc4 at28_73 (h := (gw_goto at28_76 ?_))
          refine ih (r + 1) (by omega) (by omega) _ _ rfl (by omega) (by omega) ?_
          rw [hs2, show n2 = 24 by omega, show r + 1 - 1 = r - 1 + 1 by omega, itI_s _ _ (by omega), ← hs]
        · refine gw_al0 at28_26 (gw_il5 at28_27 (gw_callP2 at28_29 (c_hasArc hT hc hN (by omega)) (by omega) (Nat.le_of_ble_eq_true rfl) ?_))
          refine gw_beq at28_32 (fun q32 => ?_) (fun q32 => ?_)
          · refine gw_inc5 at28_67 (h := (gw_goto at28_70 ?_))
            refine ih2 (n2 + 1) (by omega) (by omega) _ ?_
            rw [itI_s _ _ hn0, ← hs2]
            unfold rst
            clear hs hs2 ih ih2 hR
            simp [*]
          · refine gw_il5 at28_35 (gw_const at28_37 (gw_shr1 at28_38 (by first | omega | exact hc _ _ | exact bi_rg _ | exact zrg _ | (have := bg_rg hN n2; omega) | (have := en_rg hN n2; omega)) (gw_il2 at28_39 ?_)))
            refine gw_ceq at28_40 (by first | omega | exact hc _ _ | exact bi_rg _ | exact zrg _ | (have := bg_rg hN n2; omega) | (have := en_rg hN n2; omega)) (by first | omega | exact hc _ _ | exact bi_rg _ | exact zrg _ | (have := bg_rg hN n2; omega) | (have := en_rg hN n2; omega)) (fun q40 => ?_) (fun q40 => ?_)
            · refine gw_inc5 at28_67 (h := (gw_goto at28_70 ?_))
              refine ih2 (n2 + 1) (by omega) (by omega) _ ?_
              rw [itI_s _ _ hn0, ← hs2]
              unfold rst
              clear hs hs2 ih ih2 hR
              simp [*]
            · refine gw_il3 at28_43 (gw_al0 at28_44 (gw_il5 at28_45 (gw_callP2 at28_47 (c_beginOf hT hc (by omega)) (by omega) (Nat.le_of_ble_eq_true rfl) (gw_callP2 at28_50 (c_contains) (by omega) (Nat.le_of_ble_eq_true rfl) ?_))))
              refine gw_beq at28_53 (fun q53 => ?_) (fun q53 => ?_)
              · refine gw_inc5 at28_67 (h := (gw_goto at28_70 ?_))
                refine ih2 (n2 + 1) (by omega) (by omega) _ ?_
                rw [itI_s _ _ hn0, ← hs2]
                unfold rst
                clear hs hs2 ih ih2 hR
                simp [*]
              · refine gw_il3 at28_56 (gw_const at28_57 (gw_al0 at28_58 (gw_il5 at28_59 (gw_callP2 at28_61 (c_endOf hT hc (by omega)) (by omega) (Nat.le_of_ble_eq_true rfl) (gw_ishl at28_64 (gw_ior at28_65 (gw_is3 at28_66 (h := (gw_inc5 at28_67 (h := (gw_goto at28_70 ?_)))))))))))
                refine ih2 (n2 + 1) (by omega) (by omega) _ ?_
                rw [itI_s _ _ hn0, ← hs2]
                unfold rst
                clear hs hs2 ih ih2 hR
                simp [*]
      exact lp19 0 (by omega) (by omega) _ rfl
  exact lp7 1 (by omega) (by omega) _ _ rfl (by omega) (Or.inr rfl) rfl
