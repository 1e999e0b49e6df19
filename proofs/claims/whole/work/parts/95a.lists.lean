/-! writing, as lists of bytes -/
def pl (k : Nat) : List Int → gC → gC
  | [], m => m
  | v :: r, m => pl k r (put m k v)
def ql : List Int → gC → gC
  | [], m => m
  | v :: r, m => ql r (mput m v)
theorem pl_app {k : Nat} : ∀ (a b : List Int) (m : gC), pl k (a ++ b) m = pl k b (pl k a m) := by
  intro a
  induction a with
  | nil => intro b m; rfl
  | cons v r ih => intro b m; exact ih b (put m k v)
theorem ql_app : ∀ (a b : List Int) (m : gC), ql (a ++ b) m = ql b (ql a m) := by
  intro a
  induction a with
  | nil => intro b m; rfl
  | cons v r ih => intro b m; exact ih b (mput m v)
def FRp (k : Nat) (c m : gC) : Prop := ∀ x : Nat, ¬ x = k → ¬ x = k + 1 → m x = c x
def FRq (c m : gC) : Prop := (∀ x : Nat, ¬ x = 500001 → ¬ x = 200010 → m x = c x) ∧ ∀ j, ¬ j = 25 → m 500001 j = c 500001 j
theorem FRp_rf {k : Nat} {c : gC} : FRp k c c := fun _ _ _ => rfl
theorem FRq_rf {c : gC} : FRq c c := ⟨fun _ _ _ => rfl, fun _ _ => rfl⟩
theorem FRp_put {k : Nat} {c m : gC} {v : Int} (h : FRp k c m) : FRp k c (put m k v) := fun x h1 h2 => by
  rw [← h x h1 h2]
  unfold put
  split
  · funext j; rw [gu_k h1, gu_k h2]
  · rfl
theorem FRq_mput {c m : gC} {v : Int} (h : FRq c m) : FRq c (mput m v) := by
  unfold mput
  refine ⟨fun x h1 h2 => ?_, fun j hj => ?_⟩
  · rw [← h.1 x h1 h2]; funext j; rw [gu_k h1, gu_k h2]
  · rw [gu_j hj, gu_k (by decide)]; exact h.2 j hj
theorem FRp_pl {k : Nat} {c : gC} : ∀ (l : List Int) (m : gC), FRp k c m → FRp k c (pl k l m) := by
  intro l
  induction l with
  | nil => intro m h; exact h
  | cons v r ih => intro m h; exact ih _ (FRp_put h)
theorem FRq_ql {c : gC} : ∀ (l : List Int) (m : gC), FRq c m → FRq c (ql l m) := by
  intro l
  induction l with
  | nil => intro m h; exact h
  | cons v r ih => intro m h; exact ih _ (FRq_mput h)
theorem ql_25 : ∀ (l : List Int) (m : gC), ql l m 500001 25 = m 500001 25 + (l.length : Int) := by
  intro l
  induction l with
  | nil => intro m; show m 500001 25 = m 500001 25 + ((0 : Nat) : Int); omega
  | cons v r ih =>
    intro m
    show ql r (mput m v) 500001 25 = _
    rw [ih]
    unfold mput
    rw [gu_s, List.length_cons]
    omega
/-- both outputs -/
def OUT (x y : gC) : Prop := x 100030 1 = y 500001 25 ∧ 0 ≤ x 100030 1 ∧ ∀ j, 0 ≤ j → j < x 100030 1 → x 100031 j = y 200010 j
theorem OUT_pl : ∀ (l : List Int) (x y : gC), OUT x y → x 100030 1 + (l.length : Int) ≤ 1200 → OUT (pl 100030 l x) (ql l y) := by
  intro l
  induction l with
  | nil => intro x y h _; exact h
  | cons v r ih =>
    intro x y h hl
    rw [List.length_cons] at hl
    obtain ⟨h1, h2, h3⟩ := h
    have e : put x 100030 v = gu (gu x (100030 + 1) (x 100030 1) (zi2b v)) 100030 1 (x 100030 1 + 1) := by unfold put; rw [if_pos (by omega)]
    have e1 : put x 100030 v 100030 1 = x 100030 1 + 1 := by rw [e, gu_s]
    refine ih _ _ ⟨?_, ?_, fun j j0 j1 => ?_⟩ (by rw [e1]; omega)
    · rw [e1]; unfold mput; rw [gu_s, h1]
    · rw [e1]; omega
    · rw [e1] at j1
      rw [e]
      unfold mput
      rw [gu_k (by decide), gu_k (k := 500001) (by decide)]
      by_cases q : j = x 100030 1
      · rw [q, gu_s, ← h1, gu_s]
      · rw [gu_j q, gu_j (by omega)]
        exact h3 j j0 (by omega)
/-- loops -/
def LI (f : Int → List Int) : Nat → List Int
  | 0 => []
  | n + 1 => LI f n ++ f (n : Int)
theorem LI_cg {f g : Int → List Int} : ∀ {n : Nat}, (∀ i : Int, 0 ≤ i → i < (n : Int) → f i = g i) → LI f n = LI g n := by
  intro n
  induction n with
  | zero => intro _; rfl
  | succ n ih =>
    intro h
    show LI f n ++ f (n : Int) = LI g n ++ g (n : Int)
    rw [ih (fun i a b => h i a (by omega)), h _ (by omega) (by omega)]
theorem itI_pl {k : Nat} {c : gC} {f : Int → gC → gC} {l : Int → List Int} {N : Int} (h : ∀ i m, 0 ≤ i → i < N → FRp k c m → f i m = pl k (l i) m) {m : gC} (hm : FRp k c m) : ∀ n : Nat, (n : Int) ≤ N → itI f m (n : Int) = pl k (LI l n) m := by
  intro n
  induction n with
  | zero => intro _; rfl
  | succ n ih =>
    intro hn
    rw [show ((n + 1 : Nat) : Int) = (n : Int) + 1 by omega, itI_s _ _ (by omega), ih (by omega), h _ _ (by omega) (by omega) (FRp_pl _ _ hm)]
    show _ = pl k (LI l n ++ l (n : Int)) m
    rw [pl_app]
theorem itI_ql {c : gC} {f : Int → gC → gC} {l : Int → List Int} {N : Int} (h : ∀ i m, 0 ≤ i → i < N → FRq c m → f i m = ql (l i) m) {m : gC} (hm : FRq c m) : ∀ n : Nat, (n : Int) ≤ N → itI f m (n : Int) = ql (LI l n) m := by
  intro n
  induction n with
  | zero => intro _; rfl
  | succ n ih =>
    intro hn
    rw [show ((n + 1 : Nat) : Int) = (n : Int) + 1 by omega, itI_s _ _ (by omega), ih (by omega), h _ _ (by omega) (by omega) (FRq_ql _ _ hm)]
    show _ = ql (LI l n ++ l (n : Int)) m
    rw [ql_app]
/-- digits, letters, texts -/
def dg (n i : Int) : List Int := if un10 i ≤ n ∨ un10 i = 1 then [48 + n / un10 i % 10] else []
def lg (n i : Int) : List Int := if 0 < n / un27 i % 27 then [97 + n / un27 i % 27 - 1] else []
def tl (n : Nat) : List Int := LI (fun j => [txb n j]) (am_tlen.getD n 0)
theorem pnu_l {m : gC} {k : Nat} {n : Int} : pnu m k n = pl k (LI (dg n) 4) m := by
  unfold pnu
  refine itI_pl (c := m) (N := 4) (fun i m' i0 i1 _ => ?_) FRp_rf 4 (by decide)
  unfold pnf dg
  split <;> rfl
theorem pna_l {m : gC} {k : Nat} {n : Int} : pna m k n = pl k (LI (lg n) 6) m := by
  unfold pna
  refine itI_pl (c := m) (N := 6) (fun i m' i0 i1 _ => ?_) FRp_rf 6 (by decide)
  unfold pmf lg
  split <;> rfl
theorem mwn_l {m : gC} {v : Int} : mwn v m = ql (32 :: LI (dg v) 4) m := by
  unfold mwn
  refine itI_ql (c := mput m 32) (N := 4) (fun i m' i0 i1 _ => ?_) FRq_rf 4 (by decide)
  unfold mwdf dg
  split <;> rfl
theorem mwm_l {m : gC} {v : Int} : mwm v m = ql (32 :: LI (lg v) 6) m := by
  unfold mwm
  refine itI_ql (c := mput m 32) (N := 6) (fun i m' i0 i1 _ => ?_) FRq_rf 6 (by decide)
  unfold mwlf lg
  split <;> rfl
theorem txt_l {m : gC} {b n : Nat} (hT : TX m) (hn : n < 20) : txt b n m = pl b (tl n) m := by
  unfold txt ptx tl
  refine itI_pl (c := m) (N := ((am_tlen.getD n 0 : Nat) : Int)) (fun i m' i0 i1 hm => ?_) FRp_rf _ (Int.le_refl _)
  rw [hT n hn i i0 i1]
  rfl
theorem mwt_l {m : gC} {n : Nat} (hT : TX m) (hn : n < 20) : mwt m n ((am_tlen.getD n 0 : Nat) : Int) = ql (tl n) m := by
  unfold mwt tl
  refine itI_ql (c := m) (N := ((am_tlen.getD n 0 : Nat) : Int)) (fun i m' i0 i1 hm => ?_) FRq_rf _ (Int.le_refl _)
  unfold mwtf
  rw [hT n hn i i0 i1]
  rfl
theorem tl_9 : tl 9 = tl 0 ++ [32] := by decide +kernel
theorem tl_10 : tl 10 = [32] := by decide +kernel
theorem tl_11 : tl 11 = [59] := by decide +kernel
theorem tl_12 : tl 12 = tl 1 ++ [32] := by decide +kernel
theorem tl_13 : tl 13 = tl 19 ++ [59] := by decide +kernel
theorem tl_14 : tl 14 = tl 4 ++ [32] := by decide +kernel
theorem tl_15 : tl 15 = tl 5 ++ [32] := by decide +kernel
theorem tl_16 : tl 16 = [59] ++ tl 6 := by decide +kernel
theorem tl_17 : tl 17 = tl 7 ++ [32] := by decide +kernel
theorem tl_18 : tl 18 = tl 8 ++ [32] := by decide +kernel
/-- a name's letters -/
theorem LI6 {f : Int → List Int} : LI f 6 = f 0 ++ f 1 ++ f 2 ++ f 3 ++ f 4 ++ f 5 := by
  show ((((([] ++ f ((0 : Nat) : Int)) ++ f ((1 : Nat) : Int)) ++ f ((2 : Nat) : Int)) ++ f ((3 : Nat) : Int)) ++ f ((4 : Nat) : Int)) ++ f ((5 : Nat) : Int) = _
  rw [List.nil_append]
  rfl
theorem lg_0 {n i u : Int} (hu : un27 i = u) (h : n / u % 27 = 0) : lg n i = [] := by
  unfold lg
  rw [hu, h, if_neg (by decide)]
theorem lg_1 {n i u d : Int} (hu : un27 i = u) (h : n / u % 27 = d) (hd : 1 ≤ d) : lg n i = [97 + d - 1] := by
  unfold lg
  rw [hu, h, if_pos (by omega)]
theorem name_l {x y : Int} (h : NMR x y) : LI (lg x) 6 = LI (lg y) 6 := by
  obtain ⟨d, n, ⟨⟨n1, n6⟩, hd⟩, hx, hy⟩ := h
  have u0 : un27 0 = 14348907 := rfl
  have u1 : un27 1 = 531441 := rfl
  have u2 : un27 2 = 19683 := rfl
  have u3 : un27 3 = 729 := rfl
  have u4 : un27 4 = 27 := rfl
  have u5 : un27 5 = 1 := rfl
  rw [LI6, LI6]
  rcases (show n = 1 ∨ n = 2 ∨ n = 3 ∨ n = 4 ∨ n = 5 ∨ n = 6 by omega) with q | q | q | q | q | q <;> subst q
  · have d0 := hd 0 (by decide) (by decide)
    have ex : x = d 0 := by rw [hx]; show 0 * 27 + d ((0 : Nat) : Int) = _; rw [show ((0 : Nat) : Int) = 0 from rfl]; omega
    have ey : y = d 0 * 14348907 := by rw [hy]; show (((((0 * 27 + pad d 1 ((0 : Nat) : Int)) * 27 + pad d 1 ((1 : Nat) : Int)) * 27 + pad d 1 ((2 : Nat) : Int)) * 27 + pad d 1 ((3 : Nat) : Int)) * 27 + pad d 1 ((4 : Nat) : Int)) * 27 + pad d 1 ((5 : Nat) : Int) = _; unfold pad; simp only [show ((0 : Nat) : Int) = 0 from rfl, show ((1 : Nat) : Int) = 1 from rfl, show ((2 : Nat) : Int) = 2 from rfl, show ((3 : Nat) : Int) = 3 from rfl, show ((4 : Nat) : Int) = 4 from rfl, show ((5 : Nat) : Int) = 5 from rfl]; rw [if_pos (by decide), if_neg (by decide), if_neg (by decide), if_neg (by decide), if_neg (by decide), if_neg (by decide)]; omega
    rw [lg_0 (n := x) u0 (by omega), lg_0 (n := x) u1 (by omega), lg_0 (n := x) u2 (by omega), lg_0 (n := x) u3 (by omega), lg_0 (n := x) u4 (by omega), lg_1 (n := x) (d := d 0) u5 (by omega) d0.1]
    rw [lg_1 (n := y) (d := d 0) u0 (by omega) d0.1, lg_0 (n := y) u1 (by omega), lg_0 (n := y) u2 (by omega), lg_0 (n := y) u3 (by omega), lg_0 (n := y) u4 (by omega), lg_0 (n := y) u5 (by omega)]
    all_goals first | rfl | simp
  · have d0 := hd 0 (by decide) (by decide)
    have d1 := hd 1 (by decide) (by decide)
    have ex : x = d 0 * 27 + d 1 * 1 := by rw [hx]; show ((0 * 27 + d ((0 : Nat) : Int)) * 27 + d ((1 : Nat) : Int)) = _; simp only [show ((0 : Nat) : Int) = 0 from rfl, show ((1 : Nat) : Int) = 1 from rfl, show ((2 : Nat) : Int) = 2 from rfl, show ((3 : Nat) : Int) = 3 from rfl, show ((4 : Nat) : Int) = 4 from rfl, show ((5 : Nat) : Int) = 5 from rfl]; omega
    have ey : y = d 0 * 14348907 + d 1 * 531441 := by rw [hy]; show ((((((0 * 27 + pad d 2 ((0 : Nat) : Int)) * 27 + pad d 2 ((1 : Nat) : Int)) * 27 + pad d 2 ((2 : Nat) : Int)) * 27 + pad d 2 ((3 : Nat) : Int)) * 27 + pad d 2 ((4 : Nat) : Int)) * 27 + pad d 2 ((5 : Nat) : Int)) = _; unfold pad; simp only [show ((0 : Nat) : Int) = 0 from rfl, show ((1 : Nat) : Int) = 1 from rfl, show ((2 : Nat) : Int) = 2 from rfl, show ((3 : Nat) : Int) = 3 from rfl, show ((4 : Nat) : Int) = 4 from rfl, show ((5 : Nat) : Int) = 5 from rfl]; rw [if_pos (by decide), if_pos (by decide), if_neg (by decide), if_neg (by decide), if_neg (by decide), if_neg (by decide)]; omega
    rw [lg_0 (n := x) u0 (by omega), lg_0 (n := x) u1 (by omega), lg_0 (n := x) u2 (by omega), lg_0 (n := x) u3 (by omega), lg_1 (n := x) (d := d 0) u4 (by omega) d0.1, lg_1 (n := x) (d := d 1) u5 (by omega) d1.1]
    rw [lg_1 (n := y) (d := d 0) u0 (by omega) d0.1, lg_1 (n := y) (d := d 1) u1 (by omega) d1.1, lg_0 (n := y) u2 (by omega), lg_0 (n := y) u3 (by omega), lg_0 (n := y) u4 (by omega), lg_0 (n := y) u5 (by omega)]
    all_goals first | rfl | simp
  · have d0 := hd 0 (by decide) (by decide)
    have d1 := hd 1 (by decide) (by decide)
    have d2 := hd 2 (by decide) (by decide)
    have ex : x = d 0 * 729 + d 1 * 27 + d 2 * 1 := by rw [hx]; show (((0 * 27 + d ((0 : Nat) : Int)) * 27 + d ((1 : Nat) : Int)) * 27 + d ((2 : Nat) : Int)) = _; simp only [show ((0 : Nat) : Int) = 0 from rfl, show ((1 : Nat) : Int) = 1 from rfl, show ((2 : Nat) : Int) = 2 from rfl, show ((3 : Nat) : Int) = 3 from rfl, show ((4 : Nat) : Int) = 4 from rfl, show ((5 : Nat) : Int) = 5 from rfl]; omega
    have ey : y = d 0 * 14348907 + d 1 * 531441 + d 2 * 19683 := by rw [hy]; show ((((((0 * 27 + pad d 3 ((0 : Nat) : Int)) * 27 + pad d 3 ((1 : Nat) : Int)) * 27 + pad d 3 ((2 : Nat) : Int)) * 27 + pad d 3 ((3 : Nat) : Int)) * 27 + pad d 3 ((4 : Nat) : Int)) * 27 + pad d 3 ((5 : Nat) : Int)) = _; unfold pad; simp only [show ((0 : Nat) : Int) = 0 from rfl, show ((1 : Nat) : Int) = 1 from rfl, show ((2 : Nat) : Int) = 2 from rfl, show ((3 : Nat) : Int) = 3 from rfl, show ((4 : Nat) : Int) = 4 from rfl, show ((5 : Nat) : Int) = 5 from rfl]; rw [if_pos (by decide), if_pos (by decide), if_pos (by decide), if_neg (by decide), if_neg (by decide), if_neg (by decide)]; omega
    rw [lg_0 (n := x) u0 (by omega), lg_0 (n := x) u1 (by omega), lg_0 (n := x) u2 (by omega), lg_1 (n := x) (d := d 0) u3 (by omega) d0.1, lg_1 (n := x) (d := d 1) u4 (by omega) d1.1, lg_1 (n := x) (d := d 2) u5 (by omega) d2.1]
    rw [lg_1 (n := y) (d := d 0) u0 (by omega) d0.1, lg_1 (n := y) (d := d 1) u1 (by omega) d1.1, lg_1 (n := y) (d := d 2) u2 (by omega) d2.1, lg_0 (n := y) u3 (by omega), lg_0 (n := y) u4 (by omega), lg_0 (n := y) u5 (by omega)]
    all_goals first | rfl | simp
  · have d0 := hd 0 (by decide) (by decide)
    have d1 := hd 1 (by decide) (by decide)
    have d2 := hd 2 (by decide) (by decide)
    have d3 := hd 3 (by decide) (by decide)
    have ex : x = d 0 * 19683 + d 1 * 729 + d 2 * 27 + d 3 * 1 := by rw [hx]; show ((((0 * 27 + d ((0 : Nat) : Int)) * 27 + d ((1 : Nat) : Int)) * 27 + d ((2 : Nat) : Int)) * 27 + d ((3 : Nat) : Int)) = _; simp only [show ((0 : Nat) : Int) = 0 from rfl, show ((1 : Nat) : Int) = 1 from rfl, show ((2 : Nat) : Int) = 2 from rfl, show ((3 : Nat) : Int) = 3 from rfl, show ((4 : Nat) : Int) = 4 from rfl, show ((5 : Nat) : Int) = 5 from rfl]; omega
    have ey : y = d 0 * 14348907 + d 1 * 531441 + d 2 * 19683 + d 3 * 729 := by rw [hy]; show ((((((0 * 27 + pad d 4 ((0 : Nat) : Int)) * 27 + pad d 4 ((1 : Nat) : Int)) * 27 + pad d 4 ((2 : Nat) : Int)) * 27 + pad d 4 ((3 : Nat) : Int)) * 27 + pad d 4 ((4 : Nat) : Int)) * 27 + pad d 4 ((5 : Nat) : Int)) = _; unfold pad; simp only [show ((0 : Nat) : Int) = 0 from rfl, show ((1 : Nat) : Int) = 1 from rfl, show ((2 : Nat) : Int) = 2 from rfl, show ((3 : Nat) : Int) = 3 from rfl, show ((4 : Nat) : Int) = 4 from rfl, show ((5 : Nat) : Int) = 5 from rfl]; rw [if_pos (by decide), if_pos (by decide), if_pos (by decide), if_pos (by decide), if_neg (by decide), if_neg (by decide)]; omega
    rw [lg_0 (n := x) u0 (by omega), lg_0 (n := x) u1 (by omega), lg_1 (n := x) (d := d 0) u2 (by omega) d0.1, lg_1 (n := x) (d := d 1) u3 (by omega) d1.1, lg_1 (n := x) (d := d 2) u4 (by omega) d2.1, lg_1 (n := x) (d := d 3) u5 (by omega) d3.1]
    rw [lg_1 (n := y) (d := d 0) u0 (by omega) d0.1, lg_1 (n := y) (d := d 1) u1 (by omega) d1.1, lg_1 (n := y) (d := d 2) u2 (by omega) d2.1, lg_1 (n := y) (d := d 3) u3 (by omega) d3.1, lg_0 (n := y) u4 (by omega), lg_0 (n := y) u5 (by omega)]
    all_goals first | rfl | simp
  · have d0 := hd 0 (by decide) (by decide)
    have d1 := hd 1 (by decide) (by decide)
    have d2 := hd 2 (by decide) (by decide)
    have d3 := hd 3 (by decide) (by decide)
    have d4 := hd 4 (by decide) (by decide)
    have ex : x = d 0 * 531441 + d 1 * 19683 + d 2 * 729 + d 3 * 27 + d 4 * 1 := by rw [hx]; show (((((0 * 27 + d ((0 : Nat) : Int)) * 27 + d ((1 : Nat) : Int)) * 27 + d ((2 : Nat) : Int)) * 27 + d ((3 : Nat) : Int)) * 27 + d ((4 : Nat) : Int)) = _; simp only [show ((0 : Nat) : Int) = 0 from rfl, show ((1 : Nat) : Int) = 1 from rfl, show ((2 : Nat) : Int) = 2 from rfl, show ((3 : Nat) : Int) = 3 from rfl, show ((4 : Nat) : Int) = 4 from rfl, show ((5 : Nat) : Int) = 5 from rfl]; omega
    have ey : y = d 0 * 14348907 + d 1 * 531441 + d 2 * 19683 + d 3 * 729 + d 4 * 27 := by rw [hy]; show ((((((0 * 27 + pad d 5 ((0 : Nat) : Int)) * 27 + pad d 5 ((1 : Nat) : Int)) * 27 + pad d 5 ((2 : Nat) : Int)) * 27 + pad d 5 ((3 : Nat) : Int)) * 27 + pad d 5 ((4 : Nat) : Int)) * 27 + pad d 5 ((5 : Nat) : Int)) = _; unfold pad; simp only [show ((0 : Nat) : Int) = 0 from rfl, show ((1 : Nat) : Int) = 1 from rfl, show ((2 : Nat) : Int) = 2 from rfl, show ((3 : Nat) : Int) = 3 from rfl, show ((4 : Nat) : Int) = 4 from rfl, show ((5 : Nat) : Int) = 5 from rfl]; rw [if_pos (by decide), if_pos (by decide), if_pos (by decide), if_pos (by decide), if_pos (by decide), if_neg (by decide)]; omega
    rw [lg_0 (n := x) u0 (by omega), lg_1 (n := x) (d := d 0) u1 (by omega) d0.1, lg_1 (n := x) (d := d 1) u2 (by omega) d1.1, lg_1 (n := x) (d := d 2) u3 (by omega) d2.1, lg_1 (n := x) (d := d 3) u4 (by omega) d3.1, lg_1 (n := x) (d := d 4) u5 (by omega) d4.1]
    rw [lg_1 (n := y) (d := d 0) u0 (by omega) d0.1, lg_1 (n := y) (d := d 1) u1 (by omega) d1.1, lg_1 (n := y) (d := d 2) u2 (by omega) d2.1, lg_1 (n := y) (d := d 3) u3 (by omega) d3.1, lg_1 (n := y) (d := d 4) u4 (by omega) d4.1, lg_0 (n := y) u5 (by omega)]
    all_goals first | rfl | simp
  · have d0 := hd 0 (by decide) (by decide)
    have d1 := hd 1 (by decide) (by decide)
    have d2 := hd 2 (by decide) (by decide)
    have d3 := hd 3 (by decide) (by decide)
    have d4 := hd 4 (by decide) (by decide)
    have d5 := hd 5 (by decide) (by decide)
    have ex : x = d 0 * 14348907 + d 1 * 531441 + d 2 * 19683 + d 3 * 729 + d 4 * 27 + d 5 * 1 := by rw [hx]; show ((((((0 * 27 + d ((0 : Nat) : Int)) * 27 + d ((1 : Nat) : Int)) * 27 + d ((2 : Nat) : Int)) * 27 + d ((3 : Nat) : Int)) * 27 + d ((4 : Nat) : Int)) * 27 + d ((5 : Nat) : Int)) = _; simp only [show ((0 : Nat) : Int) = 0 from rfl, show ((1 : Nat) : Int) = 1 from rfl, show ((2 : Nat) : Int) = 2 from rfl, show ((3 : Nat) : Int) = 3 from rfl, show ((4 : Nat) : Int) = 4 from rfl, show ((5 : Nat) : Int) = 5 from rfl]; omega
    have ey : y = d 0 * 14348907 + d 1 * 531441 + d 2 * 19683 + d 3 * 729 + d 4 * 27 + d 5 * 1 := by rw [hy]; show ((((((0 * 27 + pad d 6 ((0 : Nat) : Int)) * 27 + pad d 6 ((1 : Nat) : Int)) * 27 + pad d 6 ((2 : Nat) : Int)) * 27 + pad d 6 ((3 : Nat) : Int)) * 27 + pad d 6 ((4 : Nat) : Int)) * 27 + pad d 6 ((5 : Nat) : Int)) = _; unfold pad; simp only [show ((0 : Nat) : Int) = 0 from rfl, show ((1 : Nat) : Int) = 1 from rfl, show ((2 : Nat) : Int) = 2 from rfl, show ((3 : Nat) : Int) = 3 from rfl, show ((4 : Nat) : Int) = 4 from rfl, show ((5 : Nat) : Int) = 5 from rfl]; rw [if_pos (by decide), if_pos (by decide), if_pos (by decide), if_pos (by decide), if_pos (by decide), if_pos (by decide)]; omega
    rw [lg_1 (n := x) (d := d 0) u0 (by omega) d0.1, lg_1 (n := x) (d := d 1) u1 (by omega) d1.1, lg_1 (n := x) (d := d 2) u2 (by omega) d2.1, lg_1 (n := x) (d := d 3) u3 (by omega) d3.1, lg_1 (n := x) (d := d 4) u4 (by omega) d4.1, lg_1 (n := x) (d := d 5) u5 (by omega) d5.1]
    rw [lg_1 (n := y) (d := d 0) u0 (by omega) d0.1, lg_1 (n := y) (d := d 1) u1 (by omega) d1.1, lg_1 (n := y) (d := d 2) u2 (by omega) d2.1, lg_1 (n := y) (d := d 3) u3 (by omega) d3.1, lg_1 (n := y) (d := d 4) u4 (by omega) d4.1, lg_1 (n := y) (d := d 5) u5 (by omega) d5.1]
    all_goals first | rfl | simp
