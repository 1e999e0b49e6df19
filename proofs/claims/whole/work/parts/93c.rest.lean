/-! plans, pure: what is left of a tour behind a place, for a set of places still to come -/
def RV (L : Int → Int → Int) (H : Int → Int) (K : Int) : Nat → Int → Int → Int
  | 0, _, l => H l
  | n + 1, s, l => itI (fun x a => if tb s x = true then min a (min 1000000000 (L l x + RV L H K n (clr s x) x)) else a) 1000000000 K
def RW (L : Int → Int → Int) (H : Int → Int) (K s l : Int) : Int := RV L H K (cnt (tb s) K).toNat s l
def FIN (v : Int) : Prop := (0 ≤ v ∧ v ≤ 1000000000) ∧ (v < 1000000000 → v ≤ 27450)
def LHK (L : Int → Int → Int) (H : Int → Int) (K : Int) : Prop := (0 ≤ K ∧ K ≤ 12) ∧ (∀ l, 0 ≤ l → l < K → FIN (H l)) ∧ ∀ l x, 0 ≤ l → l < K → 0 ≤ x → x < K → FIN (L l x)
section
variable {L : Int → Int → Int} {H : Int → Int} {K : Int}
theorem RW_0 (hK : 0 ≤ K ∧ K ≤ 12) {l : Int} : RW L H K 0 l = H l := by
  unfold RW
  rw [(cnt_zero hK ⟨Int.le_refl 0, by have := shl_rg hK; omega⟩).2 rfl]
  rfl
theorem RW_s (hK : 0 ≤ K ∧ K ≤ 12) {s l : Int} (hs : SK K s) (h0 : ¬ s = 0) : RW L H K s l = itI (fun x a => if tb s x = true then min a (min 1000000000 (L l x + RW L H K (clr s x) x)) else a) 1000000000 K := by
  have h1 := (cnt_rg (f := tb s) (n := K) hK.1).1
  have h2 := mt (cnt_zero hK hs).1 h0
  have e : (cnt (tb s) K).toNat = (cnt (tb s) K).toNat - 1 + 1 := by omega
  unfold RW
  rw [e]
  refine itI_c2 fun x x0 x1 a => ?_
  cases q : tb s x with
  | false => rfl
  | true =>
    have h3 := cnt_clr hK hs ⟨x0, x1⟩ q
    rw [if_pos rfl, if_pos rfl, show (cnt (tb (clr s x)) K).toNat = (cnt (tb s) K).toNat - 1 by omega]
/-- least of a set, on both sides -/
theorem acc_e {s B K : Int} {fc fm : Int → Int} (hB : 0 ≤ B ∧ B < 100000000) (h0 : 0 ≤ K) (h : ∀ x, 0 ≤ x → x < K → tb s x = true → 0 ≤ fm x ∧ (fm x < 1000000000 → fc x = fm x ∧ fm x ≤ B) ∧ (¬ fm x < 1000000000 → 100000000 ≤ fc x)) : itI (fun x a => if tb s x = true then min a (fc x) else a) 100000000 K = cv (itI (fun x a => if tb s x = true then min a (min 1000000000 (fm x)) else a) 1000000000 K) ∧ (0 ≤ itI (fun x a => if tb s x = true then min a (min 1000000000 (fm x)) else a) 1000000000 K ∧ itI (fun x a => if tb s x = true then min a (min 1000000000 (fm x)) else a) 1000000000 K ≤ 1000000000) ∧ (itI (fun x a => if tb s x = true then min a (min 1000000000 (fm x)) else a) 1000000000 K < 1000000000 → itI (fun x a => if tb s x = true then min a (min 1000000000 (fm x)) else a) 1000000000 K ≤ B) := by
  refine itI_ind (f := fun x a => if tb s x = true then min a (fc x) else a) (x := 100000000) (g := fun x a => if tb s x = true then min a (min 1000000000 (fm x)) else a) (y := 1000000000) (fun _ a t => a = cv t ∧ (0 ≤ t ∧ t ≤ 1000000000) ∧ (t < 1000000000 → t ≤ B)) (N := K) ⟨rfl, by decide, fun e => absurd e (Int.lt_irrefl _)⟩ (fun j a t j0 j1 i => ?_) h0 (Int.le_refl _)
  obtain ⟨i1, i2, i3⟩ := i
  try dsimp only
  cases q : tb s j with
  | false => exact ⟨i1, i2, i3⟩
  | true =>
    rw [if_pos rfl, if_pos rfl]
    obtain ⟨f0, f1, f2⟩ := h j j0 j1 q
    generalize fm j = v at *
    generalize fc j = w at *
    unfold cv at i1 ⊢
    by_cases e : v < 1000000000
    · obtain ⟨f3, f4⟩ := f1 e
      refine ⟨?_, by omega, fun _ => by omega⟩
      rw [if_pos (by omega)]
      by_cases e2 : t < 1000000000
      · have := i3 e2
        rw [if_pos e2] at i1
        omega
      · rw [if_neg e2] at i1
        omega
    · have f3 := f2 e
      have e3 : min t (min 1000000000 v) = t := by omega
      rw [e3]
      refine ⟨?_, i2, i3⟩
      by_cases e2 : t < 1000000000
      · have := i3 e2
        rw [if_pos e2] at i1 ⊢
        omega
      · rw [if_neg e2] at i1 ⊢
        omega
theorem RW_rg (h : LHK L H K) : ∀ (n : Nat) (s l : Int), SK K s → s < (n : Int) → 0 ≤ l → l < K → (0 ≤ RW L H K s l ∧ RW L H K s l ≤ 1000000000) ∧ (RW L H K s l < 1000000000 → RW L H K s l ≤ 27450 * (cnt (tb s) K + 1)) := by
  obtain ⟨hK, hH, hL⟩ := h
  intro n
  induction n with
  | zero => intro s l hs hn; unfold SK at hs; omega
  | succ n ih =>
    intro s l hs hn l0 l1
    have hc := cnt_rg (f := tb s) (n := K) hK.1
    by_cases e : s = 0
    · rw [e, RW_0 hK]
      have := hH l l0 l1
      refine ⟨this.1, fun q => ?_⟩
      have h2 := this.2 q
      rw [e] at hc
      omega
    · rw [RW_s hK hs e]
      have hb := SK_b hK hs
      have hn0 := mt (cnt_zero hK hs).1 e
      have := acc_e (s := s) (B := 27450 * (cnt (tb s) K + 1)) (K := K) (fc := fun x => cv (L l x + RW L H K (clr s x) x)) (fm := fun x => L l x + RW L H K (clr s x) x) (by omega) hK.1 (fun x x0 x1 hx => ?_)
      · exact this.2
      · have h2 := hL l x l0 l1 x0 x1
        have h3 := ih (clr s x) x (SK_clr hK hs ⟨x0, x1⟩) (by have := clr_lt (s := s) (x := x) (by omega) (by omega) hx; omega) x0 x1
        have h4 := cnt_clr hK hs ⟨x0, x1⟩ hx
        have h5 := h2.1
        have h6 := h2.2
        try dsimp only
        refine ⟨by omega, fun q => ?_, fun q => ?_⟩
        · unfold cv
          rw [if_pos q]
          have h7 := h3.2 (by omega)
          exact ⟨rfl, by have := h6 (by omega); omega⟩
        · unfold cv
          rw [if_neg q]
          omega
theorem RW_r (h : LHK L H K) {s l : Int} (hs : SK K s) (l0 : 0 ≤ l) (l1 : l < K) : (0 ≤ RW L H K s l ∧ RW L H K s l ≤ 1000000000) ∧ (RW L H K s l < 1000000000 → RW L H K s l ≤ 27450 * (cnt (tb s) K + 1)) := RW_rg h (s.toNat + 1) s l hs (by unfold SK at hs; omega) l0 l1
/-- THE CLASS'S TABLE -/
theorem cls_tab (h : LHK L H K) {F : gC} {R : Nat} {A : Int → Int} {D : Int} (hK : F 100044 8 = K) (hD : F 100014 3 = D) (hA : ∀ l, 0 ≤ l → l < K → F 100049 l = A l) (hH : ∀ l, 0 ≤ l → l < K → cbh F (A l) (24 + D) = cv (H l)) (hL : ∀ l x, 0 ≤ l → l < K → 0 ≤ x → x < K → ¬ l = x → cbh F (A l) (A x) = cv (L l x)) (hr : ∀ s x, SK K s → 0 ≤ x → x < K → tb s x = false → F R (s * K + x) = bst F R x s) : ∀ (n : Nat) (s l : Int), SK K s → s < (n : Int) → 0 ≤ l → l < K → tb s l = false → F R (s * K + l) = cv (RW L H K s l) := by
  obtain ⟨k1, k2, k3⟩ := h
  intro n
  induction n with
  | zero => intro s l hs hn; unfold SK at hs; omega
  | succ n ih =>
    intro s l hs hn l0 l1 hl
    rw [hr s l hs l0 l1 hl]
    have hb := SK_b k1 hs
    unfold bst
    by_cases e : s = 0
    · rw [if_pos e, if_neg (by omega), hA l l0 l1, hD, hH l l0 l1, e, RW_0 k1]
    · have hc := cnt_rg (f := tb s) (n := K) k1.1
      rw [if_neg e, hK, RW_s k1 hs e]
      have := acc_e (s := s) (B := 27450 * 14) (K := K) (fc := fun x => ctr F R l x s) (fm := fun x => L l x + RW L H K (clr s x) x) (by decide) k1.1 (fun x x0 x1 hx => ?_)
      · exact this.1
      · have hlx : ¬ l = x := fun q => by rw [q, hx] at hl; cases hl
        have h2 := k3 l x l0 l1 x0 x1
        have h3 := RW_r ⟨k1, k2, k3⟩ (SK_clr k1 hs ⟨x0, x1⟩) x0 x1
        have h4 := cnt_clr k1 hs ⟨x0, x1⟩ hx
        have h5 := ih (clr s x) x (SK_clr k1 hs ⟨x0, x1⟩) (by have := clr_lt (s := s) (x := x) (by omega) (by omega) hx; omega) x0 x1 (by rw [tb_clr (by omega) (by omega), decide_eq_true rfl]; simp)
        have h6 := h2.1
        have h7 := h2.2
        have h8 : ctr F R l x s = cv (L l x) + cv (RW L H K (clr s x) x) := by
          unfold ctr
          rw [if_neg (by omega), hA l l0 l1, hA x x0 x1, hL l x l0 l1 x0 x1 hlx, hK, h5]
        try dsimp only
        rw [h8]
        refine ⟨by omega, fun q => ?_, fun q => ?_⟩
        · have h9 := h3.2 (by omega)
          have h10 := h7 (by omega)
          unfold cv
          rw [if_pos (by omega), if_pos (by omega)]
          exact ⟨rfl, by omega⟩
        · unfold cv
          by_cases q1 : L l x < 1000000000
          · have h10 := h7 q1
            rw [if_pos q1]
            by_cases q2 : RW L H K (clr s x) x < 1000000000
            · have h9 := h3.2 q2
              omega
            · rw [if_neg q2]; omega
          · rw [if_neg q1]
            by_cases q2 : RW L H K (clr s x) x < 1000000000
            · rw [if_pos q2]; omega
            · rw [if_neg q2]; omega
/-- THE REFERENCE'S TABLE -/
theorem mod_tab (h : LHK L H K) {G : gC} {b : Nat} (hH : ∀ l, 0 ≤ l → l < K → (if men G b (G 200005 l) = G b 2 then 0 else mtn G b (G 200005 l) (G b 2)) = H l) (hL : ∀ l x, 0 ≤ l → l < K → 0 ≤ x → x < K → mle G (G 200005 l) (G 200005 x) = L l x) (hr : ∀ s l, SK K s → 1 ≤ s → 0 ≤ l → l < K → tb s l = true → mro2 G s l = min 1000000000 (lpx G b (zshl 1 K - 1) s l K)) : ∀ (n : Nat) (s l : Int), SK K s → s < (n : Int) → 0 ≤ l → l < K → tb s l = false → mro2 G (cmp K s) l = RW L H K s l := by
  obtain ⟨k1, k2, k3⟩ := h
  intro n
  induction n with
  | zero => intro s l hs hn; unfold SK at hs; omega
  | succ n ih =>
    intro s l hs hn l0 l1 hl
    have hb := SK_b k1 hs
    have hm : tb (cmp K s) l = true := by rw [tb_cmp k1 l0 (by omega), decide_eq_true l1, hl]; rfl
    have h1 : 1 ≤ cmp K s := by
      have hcs := SK_cmp (s := s) k1
      unfold SK at hcs
      by_cases q : cmp K s = 0
      · exfalso
        rw [q] at hm
        have := tb_0 (n := l.toNat) (by omega)
        rw [show (l.toNat : Int) = l by omega, hm] at this
        cases this
      · omega
    rw [hr (cmp K s) l (SK_cmp k1) h1 l0 l1 hm]
    unfold lpx
    by_cases e : s = 0
    · have hall : cmp K s = zshl 1 K - 1 := by rw [e]; exact cmp_0 k1
      have e2 : itI (lpf G (cmp K s) l) (lpi G b (zshl 1 K - 1) (cmp K s) l) K = lpi G b (zshl 1 K - 1) (cmp K s) l := by
        refine itI_inv2 (fun a => a = lpi G b (zshl 1 K - 1) (cmp K s) l) (N := K) rfl (fun j a j0 j1 ha => ?_) (Int.le_refl K)
        rw [lpf_t (by rw [hall, all_tb k1 j0 (by omega), decide_eq_true j1])]
        exact ha
      rw [e2]
      unfold lpi
      rw [if_pos hall, hH l l0 l1, e, RW_0 k1]
      have := (k2 l l0 l1).1
      omega
    · have hna : ¬ cmp K s = zshl 1 K - 1 := fun q => e (by
        have h2 := cmp_cmp k1 hs
        rw [q, ← cmp_0 k1, cmp_cmp k1 ⟨Int.le_refl 0, by have := shl_rg k1; omega⟩] at h2
        exact h2.symm)
      have e2 : itI (lpf G (cmp K s) l) (lpi G b (zshl 1 K - 1) (cmp K s) l) K = RW L H K s l := by
        unfold lpi
        rw [if_neg hna, RW_s k1 hs e]
        refine itI_c2 fun x x0 x1 a => ?_
        cases q : tb s x with
        | false =>
          rw [lpf_t (by rw [tb_cmp k1 x0 (by omega), decide_eq_true x1, q]; rfl)]
          rfl
        | true =>
          rw [lpf_f (by rw [tb_cmp k1 x0 (by omega), q]; simp), if_pos rfl]
          unfold mrb
          rw [hL l x l0 l1 x0 x1, cmp_clr k1 ⟨x0, x1⟩, ih (clr s x) x (SK_clr k1 hs ⟨x0, x1⟩) (by have := clr_lt (s := s) (x := x) (by omega) (by omega) q; omega) x0 x1 (by rw [tb_clr (by omega) (by omega), decide_eq_true rfl]; simp)]
      rw [e2]
      have := (RW_r ⟨k1, k2, k3⟩ hs l0 l1).1
      omega
end
