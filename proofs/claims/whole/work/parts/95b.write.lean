/-! writing a network: both sides write the same bytes -/
theorem TX_p {k : Nat} (hk : k + 1 < 910000) {c m : gC} (h : TX c) (hf : FRp k c m) : TX m := TX_o h fun x hx => hf x (by omega) (by omega)
theorem TX_q {c m : gC} (h : TX c) (hf : FRq c m) : TX m := TX_o h fun x hx => hf.1 x (by omega) (by omega)
/-- what is written, from a network as the reference has it; the roads' and nodes' names as the class has them -/
def wNode (nm x y : Int → Int) (n : Int) : List Int := tl 0 ++ (32 :: LI (lg (nm n)) 6) ++ (32 :: LI (dg (x n)) 4) ++ (32 :: LI (dg (y n)) 4) ++ [59]
def wRoad (rn nf nt : Int → Int) (ln cl : Int → Int) (o : Int → Bool) (r : Int) : List Int := tl 1 ++ (32 :: LI (lg (rn r)) 6) ++ (32 :: LI (lg (nf r)) 6) ++ (32 :: LI (lg (nt r)) 6) ++ (32 :: LI (dg (ln r)) 4) ++ (32 :: LI (dg (cl r)) 4) ++ (if o r = true then tl 19 else []) ++ [59]
def wSnow (rn sn : Int → Int) (r : Int) : List Int := if sn r = 0 then [] else tl 7 ++ (32 :: LI (lg (rn r)) 6) ++ (32 :: LI (dg (sn r)) 4) ++ [59]
def wRow (v : Int → Int) (n : Nat) : List Int := LI (fun i => 32 :: LI (dg (v i)) 4) n ++ [59]
def wAll (N R : Nat) (nm x y rn nf nt ln cl sn tc sr : Int → Int) (o : Int → Bool) (dp cap fall : Int) : List Int :=
  LI (wNode nm x y) N ++ LI (wRoad rn nf nt ln cl o) R ++ (tl 3 ++ wRow tc 4) ++ (if 0 < N then tl 4 ++ (32 :: LI (lg (nm dp)) 6) ++ [59] else []) ++ (tl 5 ++ (32 :: LI (dg cap) 4) ++ [59]) ++ (tl 6 ++ wRow sr 3) ++ LI (wSnow rn sn) R ++ (tl 8 ++ (32 :: LI (dg fall) 4) ++ [59])
theorem wAll_cg {N R : Nat} {nm x y rn nf nt ln cl sn tc sr nm' x' y' rn' nf' nt' ln' cl' sn' tc' sr' : Int → Int} {o o' : Int → Bool} {dp cap fall dp' cap' fall' : Int} (hN : ∀ n : Int, 0 ≤ n → n < (N : Int) → LI (lg (nm n)) 6 = LI (lg (nm' n)) 6 ∧ x n = x' n ∧ y n = y' n) (hR : ∀ r : Int, 0 ≤ r → r < (R : Int) → (LI (lg (rn r)) 6 = LI (lg (rn' r)) 6 ∧ LI (lg (nf r)) 6 = LI (lg (nf' r)) 6 ∧ LI (lg (nt r)) 6 = LI (lg (nt' r)) 6) ∧ (ln r = ln' r ∧ cl r = cl' r) ∧ o r = o' r ∧ sn r = sn' r) (hT : ∀ i : Int, 0 ≤ i → i < 4 → tc i = tc' i) (hS : ∀ i : Int, 0 ≤ i → i < 3 → sr i = sr' i) (hD : 0 < N → LI (lg (nm dp)) 6 = LI (lg (nm' dp')) 6) (hc : cap = cap') (hf : fall = fall') : wAll N R nm x y rn nf nt ln cl sn tc sr o dp cap fall = wAll N R nm' x' y' rn' nf' nt' ln' cl' sn' tc' sr' o' dp' cap' fall' := by
  have e1 : LI (wNode nm x y) N = LI (wNode nm' x' y') N := LI_cg fun n a b => by
    obtain ⟨h1, h2, h3⟩ := hN n a b
    unfold wNode
    rw [h1, h2, h3]
  have e2 : LI (wRoad rn nf nt ln cl o) R = LI (wRoad rn' nf' nt' ln' cl' o') R := LI_cg fun r a b => by
    obtain ⟨⟨h1, h2, h3⟩, ⟨h4, h5⟩, h6, -⟩ := hR r a b
    unfold wRoad
    rw [h1, h2, h3, h4, h5, h6]
  have e3 : LI (wSnow rn sn) R = LI (wSnow rn' sn') R := LI_cg fun r a b => by
    obtain ⟨⟨h1, -, -⟩, -, -, h6⟩ := hR r a b
    unfold wSnow
    rw [h1, h6]
  have e4 : wRow tc 4 = wRow tc' 4 := by
    unfold wRow
    rw [LI_cg (n := 4) (f := fun i => 32 :: LI (dg (tc i)) 4) (g := fun i => 32 :: LI (dg (tc' i)) 4) fun i a b => by rw [hT i a b]]
  have e5 : wRow sr 3 = wRow sr' 3 := by
    unfold wRow
    rw [LI_cg (n := 3) (f := fun i => 32 :: LI (dg (sr i)) 4) (g := fun i => 32 :: LI (dg (sr' i)) 4) fun i a b => by rw [hS i a b]]
  unfold wAll
  rw [e1, e2, e3, e4, e5, hc, hf]
  by_cases q : 0 < N
  · rw [if_pos q, if_pos q, hD q]
  · rw [if_neg q, if_neg q]
section
variable {c m : gC}
theorem sp {a : List Int} {k : Nat} {m : gC} : pl k (32 :: a) m = pl k a (pl k [32] m) := rfl
/-- a row of numbers -/
theorem wrw_l {k q : Nat} (hk : k + 1 < 910000) (hT : TX c) (hm : FRp k c m) (hq : ¬ q = k ∧ ¬ q = k + 1) (n : Nat) : wrw k q (n : Int) m = pl k (wRow (c q) n) m := by
  have h1 := itI_pl (k := k) (c := c) (f := wrf k q) (l := fun i => 32 :: LI (dg (c q i)) 4) (N := (n : Int)) (fun i m' i0 i1 hm' => by
    unfold wrf
    have e := txt_l (b := k) (n := 10) (TX_p hk hT hm') (by decide)
    rw [pnu_l, e, tl_10, (FRp_pl [32] m' hm') q hq.1 hq.2]
    exact sp.symm) hm n (Int.le_refl _)
  unfold wrw
  rw [h1, txt_l (TX_p hk hT (FRp_pl _ _ hm)) (by decide), tl_11]
  unfold wRow
  rw [pl_app]
theorem P1_l {q : Nat} (hq : ¬ q = 100030 ∧ ¬ q = 100030 + 1) {m' : gC} (h : FRp 100030 c m') (i : Int) : P1 q 100030 i m' = pl 100030 (LI (dg (c q i)) 4) m' := by
  unfold P1
  rw [pnu_l, h q hq.1 hq.2]
theorem A1_l {q : Nat} (hq : ¬ q = 100030 ∧ ¬ q = 100030 + 1) {m' : gC} (h : FRp 100030 c m') (i : Int) : A1 q 100030 i m' = pl 100030 (LI (lg (c q i)) 6) m' := by
  unfold A1
  rw [pna_l, h q hq.1 hq.2]
theorem wnn_l (hm : FRp 100030 c m) {z : Int} (hz : 0 ≤ z ∧ z < c 100014 1) : wnn 100014 100030 z m = pl 100030 (LI (lg (c (100014 + 1) z)) 6) m := by
  unfold wnn
  rw [hm 100014 (by decide) (by decide), if_pos hz, pna_l, hm (100014 + 1) (by decide) (by decide)]
theorem W1_l {q : Nat} (hq : ¬ q = 100030 ∧ ¬ q = 100030 + 1) {m' : gC} (h : FRp 100030 c m') {i : Int} (hz : 0 ≤ c q i ∧ c q i < c 100014 1) : W1 100014 q 100030 i m' = pl 100030 (LI (lg (c (100014 + 1) (c q i))) 6) m' := by
  unfold W1
  rw [h q hq.1 hq.2, wnn_l h hz]
theorem wno_l (hT : TX c) (hm : FRp 100030 c m) (N : Nat) (hN : c 100014 1 = (N : Int)) : wno 100014 100030 m = pl 100030 (LI (wNode (c (100014 + 1)) (c (100014 + 2)) (c (100014 + 3))) N) m := by
  unfold wno
  rw [hm 100014 (by decide) (by decide), hN]
  refine itI_pl (c := c) (N := (N : Int)) (fun i m' i0 i1 h => ?_) hm N (Int.le_refl _)
  have T : ∀ x : gC, FRp 100030 c x → TX x := fun x hx => TX_p (by decide) hT hx
  unfold wnf
  have f1 := FRp_pl (tl 9) m' h
  rw [txt_l (T _ h) (by decide : 9 < 20)]
  rw [A1_l (q := 100014 + 1) (by decide) f1]
  have f2 := FRp_pl (LI (lg (c (100014 + 1) i)) 6) _ f1
  rw [txt_l (n := 10) (T _ f2) (by decide)]
  have f3 := FRp_pl (tl 10) _ f2
  rw [P1_l (q := 100014 + 2) (by decide) f3]
  have f4 := FRp_pl (LI (dg (c (100014 + 2) i)) 4) _ f3
  rw [txt_l (n := 10) (T _ f4) (by decide)]
  have f5 := FRp_pl (tl 10) _ f4
  rw [P1_l (q := 100014 + 3) (by decide) f5]
  have f6 := FRp_pl (LI (dg (c (100014 + 3) i)) 4) _ f5
  rw [txt_l (n := 11) (T _ f6) (by decide), ← pl_app, ← pl_app, ← pl_app, ← pl_app, ← pl_app, ← pl_app]
  congr 1
  rw [tl_9, tl_10, tl_11]
  unfold wNode
  simp
theorem wsn_l (hT : TX c) (hm : FRp 100030 c m) (R : Nat) (hR : c 100014 2 = (R : Int)) : wsn 100014 100030 m = pl 100030 (LI (wSnow (c (100014 + 4)) (c (100014 + 9))) R) m := by
  unfold wsn
  rw [hm 100014 (by decide) (by decide), hR]
  refine itI_pl (c := c) (N := (R : Int)) (fun i m' i0 i1 h => ?_) hm R (Int.le_refl _)
  have T : ∀ x : gC, FRp 100030 c x → TX x := fun x hx => TX_p (by decide) hT hx
  unfold wsf wSnow
  rw [h (100014 + 9) (by decide) (by decide)]
  by_cases e : c (100014 + 9) i = 0
  · rw [if_pos e, if_pos e]; rfl
  · rw [if_neg e, if_neg e]
    have f1 := FRp_pl (tl 17) m' h
    rw [txt_l (T _ h) (by decide : 17 < 20)]
    rw [A1_l (q := 100014 + 4) (by decide) f1]
    have f2 := FRp_pl (LI (lg (c (100014 + 4) i)) 6) _ f1
    rw [txt_l (n := 10) (T _ f2) (by decide)]
    have f3 := FRp_pl (tl 10) _ f2
    rw [P1_l (q := 100014 + 9) (by decide) f3]
    have f4 := FRp_pl (LI (dg (c (100014 + 9) i)) 4) _ f3
    rw [txt_l (n := 11) (T _ f4) (by decide), ← pl_app, ← pl_app, ← pl_app, ← pl_app]
    congr 1
    rw [tl_17, tl_10, tl_11]
    simp
theorem wro_l (hT : TX c) (hm : FRp 100030 c m) (R : Nat) (hR : c 100014 2 = (R : Int)) (hft : ∀ r : Int, 0 ≤ r → r < (R : Int) → (0 ≤ c (100014 + 5) r ∧ c (100014 + 5) r < c 100014 1) ∧ 0 ≤ c (100014 + 6) r ∧ c (100014 + 6) r < c 100014 1) : wro 100014 100030 m = pl 100030 (LI (wRoad (c (100014 + 4)) (fun r => c (100014 + 1) (c (100014 + 5) r)) (fun r => c (100014 + 1) (c (100014 + 6) r)) (c (100014 + 7)) (c (100014 + 8)) (fun r => tb (c 100014 6) r)) R) m := by
  unfold wro
  rw [hm 100014 (by decide) (by decide), hR]
  refine itI_pl (c := c) (N := (R : Int)) (fun i m' i0 i1 h => ?_) hm R (Int.le_refl _)
  have T : ∀ x : gC, FRp 100030 c x → TX x := fun x hx => TX_p (by decide) hT hx
  obtain ⟨h5, h6⟩ := hft i i0 i1
  have key : wd0 100014 100030 i m' = pl 100030 (tl 12 ++ LI (lg (c (100014 + 4) i)) 6 ++ tl 10 ++ LI (lg (c (100014 + 1) (c (100014 + 5) i))) 6 ++ tl 10 ++ LI (lg (c (100014 + 1) (c (100014 + 6) i))) 6 ++ tl 10 ++ LI (dg (c (100014 + 7) i)) 4 ++ tl 10 ++ LI (dg (c (100014 + 8) i)) 4) m' := by
    unfold wd0
    have f1 := FRp_pl (tl 12) m' h
    rw [txt_l (T _ h) (by decide : 12 < 20)]
    rw [A1_l (q := 100014 + 4) (by decide) f1]
    have f2 := FRp_pl (LI (lg (c (100014 + 4) i)) 6) _ f1
    rw [txt_l (n := 10) (T _ f2) (by decide)]
    have f3 := FRp_pl (tl 10) _ f2
    rw [W1_l (q := 100014 + 5) (by decide) f3 h5]
    have f4 := FRp_pl (LI (lg (c (100014 + 1) (c (100014 + 5) i))) 6) _ f3
    rw [txt_l (n := 10) (T _ f4) (by decide)]
    have f5 := FRp_pl (tl 10) _ f4
    rw [W1_l (q := 100014 + 6) (by decide) f5 h6]
    have f6 := FRp_pl (LI (lg (c (100014 + 1) (c (100014 + 6) i))) 6) _ f5
    rw [txt_l (n := 10) (T _ f6) (by decide)]
    have f7 := FRp_pl (tl 10) _ f6
    rw [P1_l (q := 100014 + 7) (by decide) f7]
    have f8 := FRp_pl (LI (dg (c (100014 + 7) i)) 4) _ f7
    rw [txt_l (n := 10) (T _ f8) (by decide)]
    have f9 := FRp_pl (tl 10) _ f8
    rw [P1_l (q := 100014 + 8) (by decide) f9, ← pl_app, ← pl_app, ← pl_app, ← pl_app, ← pl_app, ← pl_app, ← pl_app, ← pl_app, ← pl_app]
    congr 1
    simp
  have hF : FRp 100030 c (wd0 100014 100030 i m') := by rw [key]; exact FRp_pl _ _ h
  have h6' : wd0 100014 100030 i m' 100014 6 = c 100014 6 := by rw [hF 100014 (by decide) (by decide)]
  have hTd := T _ hF
  cases e : tb (c 100014 6) i with
  | true =>
    rw [wdf_t (by rw [h6']; exact e), txt_l (n := 13) hTd (by decide), key, ← pl_app]
    congr 1
    unfold wRoad
    rw [if_pos e, tl_12, tl_10, tl_13]
    simp
  | false =>
    rw [wdf_f (by rw [h6']; exact e), txt_l (n := 11) hTd (by decide), key, ← pl_app]
    congr 1
    unfold wRoad
    rw [if_neg (show ¬ tb (c 100014 6) i = true by rw [e]; decide), tl_12, tl_10, tl_11]
    simp
end
