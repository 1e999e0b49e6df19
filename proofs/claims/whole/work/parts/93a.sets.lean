/-! sets of places in a plan, as numbers -/
def SK (K s : Int) : Prop := 0 ≤ s ∧ s < zshl 1 K
theorem SK_b {K s : Int} (hK : 0 ≤ K ∧ K ≤ 12) (h : SK K s) : 0 ≤ s ∧ s < 4096 := by
  have := shl_rg hK
  unfold SK at h
  omega
theorem SK_hi {K s : Int} (hK : 0 ≤ K ∧ K ≤ 12) (h : SK K s) {e : Int} (e0 : K ≤ e) (e1 : e < 32) : tb s e = false := by
  have hb := SK_b hK h
  have h1 := zshl_pow K.toNat (by omega)
  rw [show (K.toNat : Int) = K by omega] at h1
  have h2 : s < 2 ^ K.toNat := by rw [← h1]; exact h.2
  have h3 : ((2 ^ K.toNat : Nat) : Int) ≤ ((2 ^ e.toNat : Nat) : Int) := Int.ofNat_le.2 (Nat.pow_le_pow_right (by decide) (by omega))
  rw [Int.natCast_pow, Int.natCast_pow] at h3
  have h4 : (2 : Int) ^ K.toNat ≤ (2 : Int) ^ e.toNat := h3
  unfold tb
  rw [show e = (e.toNat : Int) by omega, zshr_of (by omega) (by omega), Int.ediv_eq_zero_of_lt hb.1 (Int.lt_of_lt_of_le h2 h4)]
  rfl
theorem SK_of {K s : Int} (hK : 0 ≤ K ∧ K ≤ 12) (hs : -2147483648 ≤ s ∧ s < 2147483648) (h : ∀ e : Int, K ≤ e → e < 32 → tb s e = false) : SK K s := by
  have h1 : (Int32.ofInt s).toInt = s := Int32.toInt_ofInt_of_le (by omega) (by omega)
  have h2 : (Int32.ofInt s).toBitVec.toNat < 2 ^ K.toNat := by
    refine Nat.lt_pow_two_of_testBit _ fun i hi => ?_
    by_cases a : i < 32
    · have := h (i : Int) (by omega) (by omega)
      rw [tb_bit a] at this
      exact this
    · exact BitVec.getLsbD_of_ge _ _ (by omega)
  have h3 : (Int32.ofInt s).toBitVec.toInt = s := h1
  have h4 := zshl_pow K.toNat (by omega)
  rw [show (K.toNat : Int) = K by omega] at h4
  have h5 := shl_rg hK
  have h6 : ((2 ^ K.toNat : Nat) : Int) = zshl 1 K := by rw [h4, Int.natCast_pow]; rfl
  have h7 : 2 ^ K.toNat ≤ 4096 := by omega
  rw [BitVec.toInt_eq_toNat_cond] at h3
  unfold SK
  split at h3 <;> omega
theorem SK_ext {K s t : Int} (hK : 0 ≤ K ∧ K ≤ 12) (hs : SK K s) (ht : SK K t) (h : ∀ e : Int, 0 ≤ e → e < K → tb s e = tb t e) : s = t := by
  have h1 := SK_b hK hs
  have h2 := SK_b hK ht
  refine tb_ext (by omega) (by omega) fun n hn => ?_
  by_cases e : (n : Int) < K
  · exact h _ (by omega) e
  · rw [SK_hi hK hs (by omega) (by omega), SK_hi hK ht (by omega) (by omega)]
theorem all_tb' : ∀ k : Nat, k < 13 → ∀ e : Nat, e < 32 → tb (zshl 1 (k : Int) - 1) (e : Int) = decide (e < k) := by decide +kernel
theorem all_tb {K e : Int} (hK : 0 ≤ K ∧ K ≤ 12) (e0 : 0 ≤ e) (e1 : e < 32) : tb (zshl 1 K - 1) e = decide (e < K) := by
  have := all_tb' K.toNat (by omega) e.toNat (by omega)
  rw [show (K.toNat : Int) = K by omega, show (e.toNat : Int) = e by omega] at this
  rw [this]
  by_cases q : e < K
  · rw [decide_eq_true q, decide_eq_true (by omega)]
  · rw [decide_eq_false q, decide_eq_false (by omega)]
theorem SK_all {K : Int} (hK : 0 ≤ K ∧ K ≤ 12) : SK K (zshl 1 K - 1) := by
  have := shl_rg hK
  unfold SK
  omega
/-- what a set lacks -/
def cmp (K s : Int) : Int := mskI (fun i => !tb s i) K
theorem tb_cmp {K s e : Int} (hK : 0 ≤ K ∧ K ≤ 12) (e0 : 0 ≤ e) (e1 : e < 32) : tb (cmp K s) e = (decide (e < K) && !tb s e) := mskI_tb _ hK.1 (by omega) e0 e1
theorem SK_cmp {K s : Int} (hK : 0 ≤ K ∧ K ≤ 12) : SK K (cmp K s) := SK_of hK (mskI_rg _ _) fun e e0 e1 => by
  rw [tb_cmp hK (by omega) e1, decide_eq_false (by omega)]
  rfl
theorem cmp_0 {K : Int} (hK : 0 ≤ K ∧ K ≤ 12) : cmp K 0 = zshl 1 K - 1 := SK_ext hK (SK_cmp hK) (SK_all hK) fun e e0 e1 => by
  have := tb_0 (n := e.toNat) (by omega)
  rw [show (e.toNat : Int) = e by omega] at this
  rw [tb_cmp hK e0 (by omega), all_tb hK e0 (by omega), this]
  simp
theorem cmp_cmp {K s : Int} (hK : 0 ≤ K ∧ K ≤ 12) (h : SK K s) : cmp K (cmp K s) = s := SK_ext hK (SK_cmp hK) h fun e e0 e1 => by
  rw [tb_cmp hK e0 (by omega), tb_cmp hK e0 (by omega), decide_eq_true e1]
  simp
theorem SK_clr {K s x : Int} (hK : 0 ≤ K ∧ K ≤ 12) (h : SK K s) (hx : 0 ≤ x ∧ x < K) : SK K (clr s x) := by
  have hb := SK_b hK h
  have hc := clr_rg2 (q := s) (x := x) (by omega)
  refine SK_of hK (by omega) fun e e0 e1 => ?_
  rw [tb_clr (by omega) (by omega), SK_hi hK h e0 e1]
  rfl
theorem SK_zor {K s x : Int} (hK : 0 ≤ K ∧ K ≤ 12) (h : SK K s) (hx : 0 ≤ x ∧ x < K) : SK K (zor s (zshl 1 x)) := by
  have hb := SK_b hK h
  have hc := zor_lt hb (x := x) (by omega)
  refine SK_of hK (by omega) fun e e0 e1 => ?_
  rw [tb_ors (by omega) (by omega), SK_hi hK h e0 e1, decide_eq_false (by omega)]
  rfl
theorem cmp_clr {K s x : Int} (hK : 0 ≤ K ∧ K ≤ 12) (hx : 0 ≤ x ∧ x < K) : zor (cmp K s) (zshl 1 x) = cmp K (clr s x) := SK_ext hK (SK_zor hK (SK_cmp hK) hx) (SK_cmp hK) fun e e0 e1 => by
  rw [tb_ors (by omega) (by omega), tb_cmp hK e0 (by omega), tb_cmp hK e0 (by omega), tb_clr (by omega) (by omega), decide_eq_true e1]
  cases tb s e <;> by_cases q : x = e <;> simp [q]
theorem clr_lt {s x : Int} (hs : 0 ≤ s ∧ s < 16777216) (hx : 0 ≤ x ∧ x < 24) (h : tb s x = true) : clr s x < s := by
  have h1 := clr_rg (s := s) x (by omega)
  by_cases e : clr s x = s
  · exfalso
    have h2 := tb_clr (q := s) (x := x) (e := x) (by omega) (by omega)
    rw [e, h, decide_eq_true rfl] at h2
    cases h2
  · omega
theorem zor_clr {K s x : Int} (hK : 0 ≤ K ∧ K ≤ 12) (h : SK K s) (hx : 0 ≤ x ∧ x < K) (h2 : tb s x = true) : zor (clr s x) (zshl 1 x) = s := SK_ext hK (SK_zor hK (SK_clr hK h hx) hx) h fun e e0 e1 => by
  rw [tb_ors (by omega) (by omega), tb_clr (by omega) (by omega)]
  by_cases q : x = e
  · rw [← q, h2, decide_eq_true rfl]; rfl
  · rw [decide_eq_false q]; simp
theorem clr_zor {K s x : Int} (hK : 0 ≤ K ∧ K ≤ 12) (h : SK K s) (hx : 0 ≤ x ∧ x < K) (h2 : tb s x = false) : clr (zor s (zshl 1 x)) x = s := SK_ext hK (SK_clr hK (SK_zor hK h hx) hx) h fun e e0 e1 => by
  rw [tb_clr (by omega) (by omega), tb_ors (by omega) (by omega)]
  by_cases q : x = e
  · rw [← q, h2, decide_eq_true rfl]; rfl
  · rw [decide_eq_false q]; simp
theorem zor_gt {K s x : Int} (hK : 0 ≤ K ∧ K ≤ 12) (h : SK K s) (hx : 0 ≤ x ∧ x < K) (h2 : tb s x = false) : s < zor s (zshl 1 x) := by
  have h3 := SK_zor hK h hx
  have h4 := SK_b hK h3
  have := clr_lt (s := zor s (zshl 1 x)) (x := x) (by omega) (by omega) (by rw [tb_ors (by omega) (by omega), decide_eq_true rfl, Bool.or_true])
  rwa [clr_zor hK h hx h2] at this
theorem cnt_clr {K s x : Int} (hK : 0 ≤ K ∧ K ≤ 12) (h : SK K s) (hx : 0 ≤ x ∧ x < K) (h2 : tb s x = true) : cnt (tb (clr s x)) K + 1 = cnt (tb s) K := by
  have := cnt_or (s := clr s x) (y := x) (n := K) (by omega) hx (by rw [tb_clr (by omega) (by omega), decide_eq_true rfl]; simp)
  rw [zor_clr hK h hx h2] at this
  exact this.symm
theorem cnt_zero {K s : Int} (hK : 0 ≤ K ∧ K ≤ 12) (h : SK K s) : cnt (tb s) K = 0 ↔ s = 0 := by
  constructor
  · intro q
    refine SK_ext hK h ⟨Int.le_refl 0, by have := shl_rg hK; omega⟩ fun e e0 e1 => ?_
    have h0 := tb_0 (n := e.toNat) (by omega)
    rw [show (e.toNat : Int) = e by omega] at h0
    rw [h0]
    cases w : tb s e with
    | false => rfl
    | true =>
      have := cnt_lt (n := K) (e := e) (f := tb s) (f' := fun _ => false) e0 e1 (fun x hx => absurd hx (by decide)) w rfl
      have := (cnt_rg (f := fun _ => false) (n := K) hK.1).1
      omega
  · intro q
    rw [q]
    have := itI_inv2 (f := fun e s => if tb 0 e = true then s + 1 else s) (x := (0 : Int)) (fun s : Int => s = 0) (N := K) rfl (fun j s j0 j1 hs => by
      have h0 := tb_0 (n := j.toNat) (by omega)
      rw [show (j.toNat : Int) = j by omega] at h0
      rw [h0]; exact hs) (Int.le_refl K)
    exact this
theorem SK_has {K s : Int} (hK : 0 ≤ K ∧ K ≤ 12) (h : SK K s) (h0 : ¬ s = 0) : ∃ e, (0 ≤ e ∧ e < K) ∧ tb s e = true := by
  refine Classical.byContradiction fun hn => h0 (SK_ext hK h ⟨Int.le_refl 0, by have := shl_rg hK; omega⟩ fun e e0 e1 => ?_)
  have h0 := tb_0 (n := e.toNat) (by omega)
  rw [show (e.toNat : Int) = e by omega] at h0
  rw [h0]
  cases w : tb s e with
  | false => rfl
  | true => exact absurd ⟨e, ⟨e0, e1⟩, w⟩ hn
theorem cmp_1 {K f : Int} (hK : 0 ≤ K ∧ K ≤ 12) (hf : 0 ≤ f ∧ f < K) : cmp K (clr (zshl 1 K - 1) f) = zshl 1 f := SK_ext hK (SK_cmp hK) (SK_of hK (by have := shl_1 (f := f) (by omega); omega) fun e e0 e1 => by rw [tb_1 (by omega) (by omega)]; exact decide_eq_false (by omega)) fun e e0 e1 => by
  rw [tb_cmp hK e0 (by omega), tb_clr (by omega) (by omega), all_tb hK e0 (by omega), tb_1 (by omega) (by omega), decide_eq_true e1]
  simp
