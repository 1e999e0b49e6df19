/-! routes: paths -/
theorem itI_fx {α : Type} {f : Int → α → α} {x : α} {i : Int} (h0 : 0 ≤ i) (hf : ∀ j, i ≤ j → f j (itI f x i) = itI f x i) : ∀ k : Int, i ≤ k → itI f x k = itI f x i := by
  have key : ∀ n : Nat, itI f x (i + (n : Int)) = itI f x i := by
    intro n
    induction n with
    | zero => simp
    | succ n ih =>
      rw [show i + ((n + 1 : Nat) : Int) = i + (n : Int) + 1 by omega, itI_s _ _ (by omega), ih]
      exact hf _ (by omega)
  intro k hk
  have := key (k - i).toNat
  rwa [show i + (((k - i).toNat : Nat) : Int) = k by omega] at this
theorem itI_inv3 {α : Type} {f : Int → α → α} {x : α} (P : Int → α → Prop) {N : Int} (h0 : P 0 x) (hs : ∀ j s, 0 ≤ j → j < N → P j s → P (j + 1) (f j s)) {k : Int} (h1 : 0 ≤ k) (hk : k ≤ N) : P k (itI f x k) := by
  have key : ∀ n : Nat, (n : Int) ≤ N → P (n : Int) (itI f x (n : Int)) := by
    intro n
    induction n with
    | zero => exact fun _ => h0
    | succ n ih =>
      intro hn
      rw [show ((n + 1 : Nat) : Int) = (n : Int) + 1 by omega, itI_s _ _ (by omega)]
      exact hs _ _ (by omega) (by omega) (ih (by omega))
  have := key k.toNat (by omega)
  rwa [show ((k.toNat : Nat) : Int) = k by omega] at this
theorem rf1_t {t : Int} {m : gC} (h : hA m 100014 t = true) : rf1 t m = fsd m t := if_pos h
theorem rf1_f {t : Int} {m : gC} (h : hA m 100014 t = false) : rf1 t m = m := if_neg (by rw [h]; exact Bool.false_ne_true)
theorem rf2_t {t : Int} {m : gC} (h : hA m 100014 t = true) : rf2 t m = fnd (djk m t) t := if_pos h
theorem rf2_f {t : Int} {m : gC} (h : hA m 100014 t = false) : rf2 t m = m := if_neg (by rw [h]; exact Bool.false_ne_true)
def RF (c m : gC) : Prop := ∀ k : Nat, ¬ k = 100029 → ¬ k = 100026 → ∀ j, m k j = c k j
theorem stp_cg {c m : gC} (h : ∀ j, m 100027 j = c 100027 j) (p a : Int) : stp m p a = stp c p a := by unfold stp; rw [h]
theorem cbh_cg {c m : gC} (h : ∀ j, m 100028 j = c 100028 j) (a p : Int) : cbh m a p = cbh c a p := by unfold cbh; rw [h]
theorem fst1_cg {c m : gC} (h : ∀ j, m 100027 j = c 100027 j) (h' : ∀ j, m 100028 j = c 100028 j) (p q : Int) : fst1 m p q = fst1 c p q := by
  unfold fst1
  exact am1_congr fun a _ _ => by rw [stp_cg h, cbh_cg h']
theorem cfr_cg {c m : gC} (h : ∀ j, m 100027 j = c 100027 j) (h' : ∀ j, m 100028 j = c 100028 j) (p q : Int) : cfr m p q = cfr c p q := by unfold cfr; rw [fst1_cg h h']
theorem cbw_cg {c m : gC} (h : ∀ j, m 100027 j = c 100027 j) (h' : ∀ j, m 100028 j = c 100028 j) (p q : Int) : cbw m p q = cbw c p q := by unfold cbw; rw [cfr_cg h h']
theorem nea_cg {c m : gC} (h : ∀ j, m 100027 j = c 100027 j) (h' : ∀ j, m 100028 j = c 100028 j) (p s : Int) : nea m p s = nea c p s := by
  unfold nea
  exact am1_congr fun a _ _ => by rw [cfr_cg h h']
theorem SR_cg {c m : gC} (h : ∀ j, m 100027 j = c 100027 j) (h' : ∀ j, m 100028 j = c 100028 j) (hS : SR c) : SR m := fun i h0 h1 => by rw [h, h']; exact hS i h0 h1
def fps (c : gC) (t i : Int) (x : Int × Int × gC) : Int × Int × gC := if x.1 = t then x else if (fst1 c x.2.1 (24 + t)).1 = -1 then x else (en c 100014 (fst1 c x.2.1 (24 + t)).1, (fst1 c x.2.1 (24 + t)).1, gu (gu x.2.2 100029 i (fst1 c x.2.1 (24 + t)).1) 100026 5 (i + 1))
theorem fps_t {c : gC} {t i : Int} {x : Int × Int × gC} (h : x.1 = t) : fps c t i x = x := if_pos h
theorem fps_e {c : gC} {t i : Int} {x : Int × Int × gC} (h : ¬ x.1 = t) (h' : (fst1 c x.2.1 (24 + t)).1 = -1) : fps c t i x = x := by unfold fps; rw [if_neg h, if_pos h']
theorem fps_n {c : gC} {t i : Int} {x : Int × Int × gC} (h : ¬ x.1 = t) (h' : ¬ (fst1 c x.2.1 (24 + t)).1 = -1) : fps c t i x = (en c 100014 (fst1 c x.2.1 (24 + t)).1, (fst1 c x.2.1 (24 + t)).1, gu (gu x.2.2 100029 i (fst1 c x.2.1 (24 + t)).1) 100026 5 (i + 1)) := by unfold fps; rw [if_neg h, if_neg h']
def fpx (c : gC) (f t i : Int) : Int × Int × gC := itI (fps c t) (f, 24 + f, gu c 100026 5 0) i
def FPI (c : gC) (x : Int × Int × gC) : Prop := RG x.2.2 ∧ RF c x.2.2 ∧ (-1000 ≤ x.1 ∧ x.1 < 1000) ∧ (-1000 ≤ x.2.1 ∧ x.2.1 < 2000)
theorem fps_ok {c : gC} (hN : NR c 100014) {t : Int} {j : Int} {x : Int × Int × gC} (h0 : 0 ≤ j) (h1 : j < 24) (h : FPI c x) : FPI c (fps c t j x) := by
  have hf := fst1_rg c x.2.1 (24 + t)
  have he := en_rg hN (fst1 c x.2.1 (24 + t)).1
  unfold fps
  split
  · exact h
  · split
    · exact h
    · refine ⟨RG_gu (RG_gu h.1 (by omega)) (by omega), fun k a b i => ?_, ?_, ?_⟩
      · dsimp only
        rw [gu_k (by omega), gu_k (by omega)]; exact h.2.1 k a b i
      · dsimp only; omega
      · dsimp only; omega
theorem fpx_ok {c : gC} (hN : NR c 100014) (hc : RG c) {f t i : Int} (hf : -1000 ≤ f ∧ f < 1000) (hi : i ≤ 24) : FPI c (fpx c f t i) := itI_inv2 (FPI c) (N := 24) ⟨RG_gu hc (by omega), fun k a b j => gu_k (by omega), hf, by dsimp only; omega⟩ (fun j s h0 h1 hs => fps_ok hN h0 h1 hs) hi
def grs (c : gC) (x : Bool × Int × Int × Int) : Bool × Int × Int × Int := if x.1 = true ∨ x.2.1 = 0 then x else if (nea c x.2.2.1 x.2.1).1 = -1 then (true, x.2) else (false, zand x.2.1 (zxor (zshl 1 (nea c x.2.2.1 x.2.1).1) (-1)), (nea c x.2.2.1 x.2.1).1, x.2.2.2 + cfr c x.2.2.1 (nea c x.2.2.1 x.2.1).1)
theorem grs_z {c : gC} {x : Bool × Int × Int × Int} (h : x.2.1 = 0) : grs c x = x := if_pos (Or.inr h)
theorem grs_e {c : gC} {x : Bool × Int × Int × Int} (hb : x.1 = false) (h : ¬ x.2.1 = 0) (h' : (nea c x.2.2.1 x.2.1).1 = -1) : grs c x = (true, x.2) := by unfold grs; rw [if_neg (by rw [hb]; simp [h]), if_pos h']
theorem grs_n {c : gC} {x : Bool × Int × Int × Int} (hb : x.1 = false) (h : ¬ x.2.1 = 0) (h' : ¬ (nea c x.2.2.1 x.2.1).1 = -1) : grs c x = (false, zand x.2.1 (zxor (zshl 1 (nea c x.2.2.1 x.2.1).1) (-1)), (nea c x.2.2.1 x.2.1).1, x.2.2.2 + cfr c x.2.2.1 (nea c x.2.2.1 x.2.1).1) := by unfold grs; rw [if_neg (by rw [hb]; simp [h]), if_neg h']
def grx (c : gC) (s i : Int) : Bool × Int × Int × Int := itI (fun _ => grs c) (false, s, 24 + c 100014 3, 0) i
def grc (c : gC) (s : Int) : Int := if (grx c s 24).1 = true then -1 else if s = 0 then 0 else if 100000000 ≤ (grx c s 24).2.2.2 + cbh c (grx c s 24).2.2.1 (24 + c 100014 3) then -1 else (grx c s 24).2.2.2 + cbh c (grx c s 24).2.2.1 (24 + c 100014 3)
theorem grc_b {c : gC} {s : Int} (h : (grx c s 24).1 = true) : grc c s = -1 := if_pos h
theorem grc_0 {c : gC} {s : Int} (h : (grx c s 24).1 = false) (h' : s = 0) : grc c s = 0 := by unfold grc; rw [if_neg (by rw [h]; exact Bool.false_ne_true), if_pos h']
theorem grc_n {c : gC} {s : Int} (h : (grx c s 24).1 = false) (h' : ¬ s = 0) : grc c s = if 100000000 ≤ (grx c s 24).2.2.2 + cbh c (grx c s 24).2.2.1 (24 + c 100014 3) then -1 else (grx c s 24).2.2.2 + cbh c (grx c s 24).2.2.1 (24 + c 100014 3) := by unfold grc; rw [if_neg (by rw [h]; exact Bool.false_ne_true), if_neg h']
/-- numbers of the tables are small or far -/
def SL (c : gC) : Prop := ∀ i : Int, 0 ≤ i → i < 816 → (c 100027 i ≤ 1100 ∨ c 100027 i = 100000000) ∧ (c 100028 i ≤ 100000 ∨ c 100028 i = 100000000)
theorem stp_sm {c : gC} (h : SL c) (p a : Int) : stp c p a ≤ 1100 ∨ stp c p a = 100000000 := by
  unfold stp
  split
  · exact (h _ (by omega) (by omega)).1
  · omega
theorem cbh_sm {c : gC} (h : SL c) (p a : Int) : cbh c p a ≤ 100000 ∨ cbh c p a = 100000000 := by
  unfold cbh
  split
  · exact (h _ (by omega) (by omega)).2
  · omega
theorem cfr_sm {c : gC} (hS : SR c) (h : SL c) (p a : Int) : cfr c p a ≤ 101100 ∨ cfr c p a = 100000000 := by
  unfold cfr fst1
  rw [am1_if (by omega)]
  split
  · omega
  · have := am1_spec (B := 100000000) (f := fun a' => stp c p a' + cbh c a' a) (n := 24) (by omega)
    rcases this with ⟨h1, -⟩ | ⟨-, -, -, h1, -⟩
    · simp_all
    · have h2 := stp_sm h p (am1 100000000 (fun a' => stp c p a' + cbh c a' a) 24).1
      have h3 := cbh_sm h (am1 100000000 (fun a' => stp c p a' + cbh c a' a) 24).1 a
      have h4 := stp_rg hS p (am1 100000000 (fun a' => stp c p a' + cbh c a' a) 24).1
      have h5 := cbh_rg hS (am1 100000000 (fun a' => stp c p a' + cbh c a' a) 24).1 a
      omega
theorem nea_rg (c : gC) (p s : Int) : -1 ≤ (nea c p s).1 ∧ (nea c p s).1 < 24 := by
  have := am1_rg (B := 100000000) (f := fun a => if tb s a = true then cfr c p a else 100000000) (n := 24) (by omega)
  unfold nea
  omega
theorem nea_lt {c : gC} {p s : Int} (h : ¬ (nea c p s).1 = -1) : cfr c p (nea c p s).1 < 100000000 ∧ tb s (nea c p s).1 = true := by
  have := am1_spec (B := 100000000) (f := fun a => if tb s a = true then cfr c p a else 100000000) (n := 24) (by omega)
  unfold nea at h ⊢
  rcases this with ⟨h1, -⟩ | ⟨-, -, -, h1, -⟩
  · exact absurd (by rw [h1]) h
  · revert h1
    split
    · intro h1; exact ⟨h1, by assumption⟩
    · omega
def GRI (x : Bool × Int × Int × Int) (i : Int) : Prop := (-2147483648 ≤ x.2.1 ∧ x.2.1 < 2147483648) ∧ (-1000 ≤ x.2.2.1 ∧ x.2.2.1 < 2000) ∧ 0 ≤ x.2.2.2 ∧ x.2.2.2 ≤ i * 101100
theorem grx_ok {c : gC} (hS : SR c) (hL : SL c) (hD : -1 ≤ c 100014 3 ∧ c 100014 3 < 10) {s : Int} (hs : -2147483648 ≤ s ∧ s < 2147483648) {i : Int} (h0 : 0 ≤ i) (h1 : i ≤ 24) : GRI (grx c s i) i := by
  
  refine itI_inv3 (fun i x => GRI x i) (N := 24) ⟨hs, ?_, by dsimp only; omega, by dsimp only; omega⟩ (fun j x h0 h1 h => ?_) h0 h1
  · dsimp only; omega
  · obtain ⟨h2, h3, h4, h5⟩ := h
    unfold grs
    split
    · exact ⟨h2, h3, h4, by omega⟩
    · split
      · exact ⟨h2, h3, h4, by dsimp only; omega⟩
      · have q1 := nea_rg c x.2.2.1 x.2.1
        have q2 := nea_lt (c := c) (p := x.2.2.1) (s := x.2.1) (by assumption)
        have q3 := cfr_sm hS hL x.2.2.1 (nea c x.2.2.1 x.2.1).1
        have q4 := cfr_rg hS x.2.2.1 (nea c x.2.2.1 x.2.1).1
        exact ⟨zrg _, by dsimp only; omega, by dsimp only; omega, by dsimp only; omega⟩
set_option maxHeartbeats 1000000 in
theorem c_refresh {g : Nat} {T : gT} {c J : gC} (hR : RT T) (hc : RG c) (hT : NT T 100014) (hN : NR c 100014) : gE g 69 3 [.ref 100026] (gm T c J) (fun o M1 => o = .inl none ∧ M1 = gm T (rfr c) J) := by
  refine gE_mk am_r69 rfl (Or.inr ⟨_, rfl, (by first | exact RT_0 hR | exact RT_r0 hR | exact RT_r2 hR | exact RT_t2 hR | exact RT_r3 hR | exact RT_t3 hR | exact NT_0 hT)⟩) (fun d hd => ?_)
  show gw d g 69 0 [.ref 100026, am_U] [] _ _
  refine gw_al0 at69_0 (gw_gf (j := 1) at69_1 (by first | exact RT_0 hR | exact RT_r0 hR | exact RT_r2 hR | exact RT_t2 hR | exact RT_r3 hR | exact RT_t3 hR | exact NT_0 hT) rfl (gw_al0 at69_4 (gw_gr at69_5 (by first | exact RT_0 hR | exact RT_r0 hR | exact RT_r2 hR | exact RT_t2 hR | exact RT_r3 hR | exact RT_t3 hR | exact NT_0 hT) (by first | exact RT_0 hR | exact RT_r0 hR | exact RT_r2 hR | exact RT_t2 hR | exact RT_r3 hR | exact RT_t3 hR | exact NT_0 hT) (gw_gf (j := 0) at69_8 (by first | exact RT_0 hR | exact RT_r0 hR | exact RT_r2 hR | exact RT_t2 hR | exact RT_r3 hR | exact RT_t3 hR | exact NT_0 hT) rfl ?_))))
  refine gw_cne at69_11 (by first | omega | exact hc _ _ | exact bi_rg _ | exact zrg _) (by first | omega | exact hc _ _ | exact bi_rg _ | exact zrg _) (fun q11 => ?_) (fun q11 => ?_)
  · refine gw_al0 at69_15 (gw_gr at69_16 (by first | exact RT_0 hR | exact RT_r0 hR | exact RT_r2 hR | exact RT_t2 hR | exact RT_r3 hR | exact RT_t3 hR | exact NT_0 hT) (by first | exact RT_0 hR | exact RT_r0 hR | exact RT_r2 hR | exact RT_t2 hR | exact RT_r3 hR | exact RT_t3 hR | exact NT_0 hT) (gw_ldc (z := 100000000) at69_19 (by decide) ?_))
    refine gw_call2 at69_21 (c_fill (RT_t2 hR) (RT_l2 hR) (by omega)) (by omega) (Nat.le_of_ble_eq_true rfl) (fun o M1 q21 => ?_)
    obtain ⟨rfl, rfl⟩ := q21
    show gw _ _ _ _ _ [] _ _
    refine gw_al0 at69_24 (gw_gr at69_25 (by first | exact RT_0 hR | exact RT_r0 hR | exact RT_r2 hR | exact RT_t2 hR | exact RT_r3 hR | exact RT_t3 hR | exact NT_0 hT) (by first | exact RT_0 hR | exact RT_r0 hR | exact RT_r2 hR | exact RT_t2 hR | exact RT_r3 hR | exact RT_t3 hR | exact NT_0 hT) (gw_ldc (z := 100000000) at69_28 (by decide) ?_))
    refine gw_call2 at69_30 (c_fill (RT_t3 hR) (RT_l3 hR) (by omega)) (by omega) (Nat.le_of_ble_eq_true rfl) (fun o M1 q30 => ?_)
    obtain ⟨rfl, rfl⟩ := q30
    show gw _ _ _ _ _ [] _ _
    refine gw_const at69_33 (gw_is1 at69_34 (h := ?_))
    have lp35 : ∀ i : Int, 0 ≤ i → i ≤ 24 → gw d g 69 35 [.ref 100026, gi i] [] (gm T (itI rf1 (rfi c) i) J) (fun o M1 => o = .inl none ∧ M1 = gm T (rfr c) J) := by
      refine ind_up 24 ?_
      intro i hi0 hi1 ih
      have o1 := rf1i_ok hc hN i
      refine gw_il1 at69_35 ?_
      refine gw_bip at69_36 (by decide) ?_
      refine gw_cge at69_38 (by first | omega | exact hc _ _ | exact bi_rg _ | exact zrg _) (by first | omega | exact hc _ _ | exact bi_rg _ | exact zrg _) (fun q38 => ?_) (fun q38 => ?_)
      · refine gw_const at69_63 (gw_is1 at69_64 (h := ?_))
        have lp65 : ∀ i : Int, 0 ≤ i → i ≤ 24 → gw d g 69 65 [.ref 100026, gi i] [] (gm T (itI rf2 (itI rf1 (rfi c) 24) i) J) (fun o M1 => o = .inl none ∧ M1 = gm T (rfr c) J) := by
          refine ind_up 24 ?_
          intro i hi0 hi1 ih
          have o1 := rf2i_ok hc hN hi1
          refine gw_il1 at69_65 ?_
          refine gw_bip at69_66 (by decide) ?_
          refine gw_cge at69_68 (by first | omega | exact hc _ _ | exact bi_rg _ | exact zrg _) (by first | omega | exact hc _ _ | exact bi_rg _ | exact zrg _) (fun q68 => ?_) (fun q68 => ?_)
          · refine gw_al0 at69_98 (gw_al0 at69_99 (gw_gr at69_100 (by first | exact RT_0 hR | exact RT_r0 hR | exact RT_r2 hR | exact RT_t2 hR | exact RT_r3 hR | exact RT_t3 hR | exact NT_0 hT) (by first | exact RT_0 hR | exact RT_r0 hR | exact RT_r2 hR | exact RT_t2 hR | exact RT_r3 hR | exact RT_t3 hR | exact NT_0 hT) (gw_gf (j := 0) at69_103 (by first | exact RT_0 hR | exact RT_r0 hR | exact RT_r2 hR | exact RT_t2 hR | exact RT_r3 hR | exact RT_t3 hR | exact NT_0 hT) rfl ?_)))
            rw [o1.2.2 100014 (by omega) (by omega)]
            refine gw_pf (j := 1) at69_106 (by first | exact RT_0 hR | exact RT_r0 hR | exact RT_r2 hR | exact RT_t2 hR | exact RT_r3 hR | exact RT_t3 hR | exact NT_0 hT) rfl (gw_rv at69_109 am_r69.2.1 ?_)
            refine ⟨rfl, ?_⟩
            unfold rfr
            rw [if_neg (by assumption), show i = 24 by omega]
          · refine gw_al0 at69_71 (gw_gr at69_72 (by first | exact RT_0 hR | exact RT_r0 hR | exact RT_r2 hR | exact RT_t2 hR | exact RT_r3 hR | exact RT_t3 hR | exact NT_0 hT) (by first | exact RT_0 hR | exact RT_r0 hR | exact RT_r2 hR | exact RT_t2 hR | exact RT_r3 hR | exact RT_t3 hR | exact NT_0 hT) (gw_il1 at69_75 (gw_callP2 at69_76 (c_hasArc hT o1.1 (TOK_NR o1 hN) (by omega)) (by omega) (Nat.le_of_ble_eq_true rfl) ?_)))
            refine gw_beq at69_79 (fun q79 => ?_) (fun q79 => ?_)
            · refine gw_inc1 at69_92 (h := (gw_goto at69_95 ?_))
              have e := ih (i + 1) (by omega) (by omega)
              rw [itI_s _ _ hi0] at e
              first | (rw [rf2_t (by assumption)] at e; exact e) | (rw [rf2_f (by assumption)] at e; exact e)
            · refine gw_al0 at69_82 (gw_il1 at69_83 ?_)
              refine gw_call2 at69_84 (c_djk hR o1.1 o1.2.1 (by omega)) (by omega) (Nat.le_of_ble_eq_true rfl) (fun o M1 q84 => ?_)
              obtain ⟨rfl, rfl⟩ := q84
              show gw _ _ _ _ _ [] _ _
              have o2 := djk_ok (s := i) o1 (by omega)
              refine gw_al0 at69_87 (gw_il1 at69_88 ?_)
              refine gw_call2 at69_89 (c_fnd hR o2.1 o2.2.1 hT (TOK_NR o2 hN) (by omega)) (by omega) (Nat.le_of_ble_eq_true rfl) (fun o M1 q89 => ?_)
              obtain ⟨rfl, rfl⟩ := q89
              show gw _ _ _ _ _ [] _ _
              refine gw_inc1 at69_92 (h := (gw_goto at69_95 ?_))
              have e := ih (i + 1) (by omega) (by omega)
              rw [itI_s _ _ hi0] at e
              first | (rw [rf2_t (by assumption)] at e; exact e) | (rw [rf2_f (by assumption)] at e; exact e)
        rw [show i = 24 by omega]
        have e := lp65 0 (by omega) (by omega)
        rw [itI_0] at e
        exact e
      · refine gw_al0 at69_41 (gw_gr at69_42 (by first | exact RT_0 hR | exact RT_r0 hR | exact RT_r2 hR | exact RT_t2 hR | exact RT_r3 hR | exact RT_t3 hR | exact NT_0 hT) (by first | exact RT_0 hR | exact RT_r0 hR | exact RT_r2 hR | exact RT_t2 hR | exact RT_r3 hR | exact RT_t3 hR | exact NT_0 hT) (gw_il1 at69_45 (gw_callP2 at69_46 (c_hasArc hT o1.1 (TOK_NR o1 hN) (by omega)) (by omega) (Nat.le_of_ble_eq_true rfl) ?_)))
        refine gw_beq at69_49 (fun q49 => ?_) (fun q49 => ?_)
        · refine gw_inc1 at69_57 (h := (gw_goto at69_60 ?_))
          have e := ih (i + 1) (by omega) (by omega)
          rw [itI_s _ _ hi0] at e
          first | (rw [rf1_t (by assumption)] at e; exact e) | (rw [rf1_f (by assumption)] at e; exact e)
        · refine gw_al0 at69_52 (gw_il1 at69_53 ?_)
          refine gw_call2 at69_54 (c_fsd hR o1.1 o1.2.1 hT (TOK_NR o1 hN) (by omega)) (by omega) (Nat.le_of_ble_eq_true rfl) (fun o M1 q54 => ?_)
          obtain ⟨rfl, rfl⟩ := q54
          show gw _ _ _ _ _ [] _ _
          refine gw_inc1 at69_57 (h := (gw_goto at69_60 ?_))
          have e := ih (i + 1) (by omega) (by omega)
          rw [itI_s _ _ hi0] at e
          first | (rw [rf1_t (by assumption)] at e; exact e) | (rw [rf1_f (by assumption)] at e; exact e)
    exact lp35 0 (by omega) (by omega)
  · refine gw_rv at69_14 am_r69.2.1 ?_
    refine ⟨rfl, ?_⟩
    unfold rfr
    rw [if_pos (by assumption)]
set_option maxHeartbeats 1000000 in
theorem c_findPath {g : Nat} {T : gT} {c J : gC} (hR : RT T) (hc : RG c) (hS : SR c) (hT : NT T 100014) (hN : NR c 100014) {f t : Int} (hf : -1000 ≤ f ∧ f < 1000) (ht : -1000 ≤ t ∧ t < 1000) : gE g 80 2 [.ref 100026, gi f, gi t] (gm T c J) (fun o M1 => o = .inl (some (gi (bi (decide ((fpx c f t 24).1 = t))))) ∧ M1 = gm T (fpx c f t 24).2.2 J) := by
  refine gE_mk am_r80 rfl (Or.inr ⟨_, rfl, (by first | exact RT_0 hR | exact RT_r0 hR | exact RT_r4 hR | exact RT_t4 hR | exact RT_l4 hR | exact NT_0 hT)⟩) (fun d hd => ?_)
  show gw d g 80 0 [.ref 100026, gi f, gi t, am_U, am_U, am_U, am_U] [] _ _
  refine gw_al0 at80_0 (gw_const at80_1 (gw_pf (j := 5) at80_2 (by first | exact RT_0 hR | exact RT_r0 hR | exact RT_r4 hR | exact RT_t4 hR | exact RT_l4 hR | exact NT_0 hT) rfl (gw_il1 at80_5 (gw_is3 at80_6 (h := (gw_il1 at80_7 (gw_callP1 at80_8 (c_placeOf) (by omega) (Nat.le_of_ble_eq_true rfl) (gw_is4 at80_11 (h := (gw_const at80_13 (gw_is5 at80_14 (h := ?_))))))))))))
  have lp16 : ∀ i : Int, 0 ≤ i → i ≤ 24 → ∀ (X : Int × Int × gC) (w : Value), am_nl w = true → X = fpx c f t i → gw d g 80 16 [.ref 100026, gi f, gi t, gi X.1, gi X.2.1, gi i, w] [] (gm T X.2.2 J) (fun o M1 => o = .inl (some (gi (bi (decide ((fpx c f t 24).1 = t))))) ∧ M1 = gm T (fpx c f t 24).2.2 J) := by
    refine ind_up 24 ?_
    intro i hi0 hi1 ih X w hw hX
    have o1 : FPI c X := by rw [hX]; exact fpx_ok hN hc hf hi1
    have hx1 := o1.2.2.1
    have hx2 := o1.2.2.2
    refine gw_il5 at80_16 ?_
    refine gw_bip at80_18 (by decide) ?_
    refine gw_cge at80_20 (by first | omega | exact hc _ _ | exact bi_rg _ | exact zrg _) (by first | omega | exact hc _ _ | exact bi_rg _ | exact zrg _) (fun q20 => ?_) (fun q20 => ?_)
    · refine gw_il3 at80_85 (gw_il2 at80_86 ?_)
      refine gw_cne at80_87 (by first | omega | exact hc _ _ | exact bi_rg _ | exact zrg _) (by first | omega | exact hc _ _ | exact bi_rg _ | exact zrg _) (fun q87 => ?_) (fun q87 => ?_)
      · refine gw_const at80_94 (gw_r0 at80_95 am_r80.2.1 ?_)
        have hx : fpx c f t 24 = X := by
          unfold fpx at hX ⊢
          first | (rw [hX, show i = 24 by omega]; done) | (rw [itI_fx hi0 (fun j hj => by rw [← hX, fps_t (by omega)]) 24 hi1, ← hX]) | (rw [itI_fx hi0 (fun j hj => by rw [← hX, fps_e (by omega) (by omega)]) 24 hi1, ← hX])
        rw [hx]
        first | (rw [decide_eq_true (by omega)]; exact ⟨rfl, rfl⟩) | (rw [decide_eq_false (by omega)]; exact ⟨rfl, rfl⟩)
      · refine gw_const at80_90 (gw_goto at80_91 (gw_r1 at80_95 am_r80.2.1 ?_))
        have hx : fpx c f t 24 = X := by
          unfold fpx at hX ⊢
          first | (rw [hX, show i = 24 by omega]; done) | (rw [itI_fx hi0 (fun j hj => by rw [← hX, fps_t (by omega)]) 24 hi1, ← hX]) | (rw [itI_fx hi0 (fun j hj => by rw [← hX, fps_e (by omega) (by omega)]) 24 hi1, ← hX])
        rw [hx]
        first | (rw [decide_eq_true (by omega)]; exact ⟨rfl, rfl⟩) | (rw [decide_eq_false (by omega)]; exact ⟨rfl, rfl⟩)
    · refine gw_il3 at80_23 (gw_il2 at80_24 ?_)
      refine gw_ceq at80_25 (by first | omega | exact hc _ _ | exact bi_rg _ | exact zrg _) (by first | omega | exact hc _ _ | exact bi_rg _ | exact zrg _) (fun q25 => ?_) (fun q25 => ?_)
      · refine gw_il3 at80_85 (gw_il2 at80_86 ?_)
        refine gw_cne at80_87 (by first | omega | exact hc _ _ | exact bi_rg _ | exact zrg _) (by first | omega | exact hc _ _ | exact bi_rg _ | exact zrg _) (fun q87 => ?_) (fun q87 => ?_)
        · refine gw_const at80_94 (gw_r0 at80_95 am_r80.2.1 ?_)
          have hx : fpx c f t 24 = X := by
            unfold fpx at hX ⊢
            first | (rw [hX, show i = 24 by omega]; done) | (rw [itI_fx hi0 (fun j hj => by rw [← hX, fps_t (by omega)]) 24 hi1, ← hX]) | (rw [itI_fx hi0 (fun j hj => by rw [← hX, fps_e (by omega) (by omega)]) 24 hi1, ← hX])
          rw [hx]
          first | (rw [decide_eq_true (by omega)]; exact ⟨rfl, rfl⟩) | (rw [decide_eq_false (by omega)]; exact ⟨rfl, rfl⟩)
        · refine gw_const at80_90 (gw_goto at80_91 (gw_r1 at80_95 am_r80.2.1 ?_))
          have hx : fpx c f t 24 = X := by
            unfold fpx at hX ⊢
            first | (rw [hX, show i = 24 by omega]; done) | (rw [itI_fx hi0 (fun j hj => by rw [← hX, fps_t (by omega)]) 24 hi1, ← hX]) | (rw [itI_fx hi0 (fun j hj => by rw [← hX, fps_e (by omega) (by omega)]) 24 hi1, ← hX])
          rw [hx]
          first | (rw [decide_eq_true (by omega)]; exact ⟨rfl, rfl⟩) | (rw [decide_eq_false (by omega)]; exact ⟨rfl, rfl⟩)
      · refine gw_al0 at80_28 (gw_il4 at80_29 (gw_il2 at80_31 (gw_callP1 at80_32 (c_placeOf) (by omega) (Nat.le_of_ble_eq_true rfl) (gw_callP3 at80_35 (c_firstArc hR o1.1 (SR_cg (fun j => o1.2.1 100027 (by omega) (by omega) j) (fun j => o1.2.1 100028 (by omega) (by omega) j) hS) (by omega) (by omega)) (by omega) (Nat.le_of_ble_eq_true rfl) ?_))))
        rw [fst1_cg (fun j => o1.2.1 100027 (by omega) (by omega) j) (fun j => o1.2.1 100028 (by omega) (by omega) j)]
        have hfr := fst1_rg c X.2.1 (24 + t)
        refine gw_is6 at80_38 (h := (gw_il6 at80_40 (gw_const at80_42 ?_)))
        refine gw_cne at80_43 (by first | omega | exact hc _ _ | exact bi_rg _ | exact zrg _) (by first | omega | exact hc _ _ | exact bi_rg _ | exact zrg _) (fun q43 => ?_) (fun q43 => ?_)
        · refine gw_al0 at80_48 (gw_gr at80_49 (by first | exact RT_0 hR | exact RT_r0 hR | exact RT_r4 hR | exact RT_t4 hR | exact RT_l4 hR | exact NT_0 hT) (by first | exact RT_0 hR | exact RT_r0 hR | exact RT_r4 hR | exact RT_t4 hR | exact RT_l4 hR | exact NT_0 hT) (gw_il5 at80_52 (gw_il6 at80_54 (gw_iw at80_56 (by first | exact RT_0 hR | exact RT_r0 hR | exact RT_r4 hR | exact RT_t4 hR | exact RT_l4 hR | exact NT_0 hT) (by first | exact RT_0 hR | exact RT_r0 hR | exact RT_r4 hR | exact RT_t4 hR | exact RT_l4 hR | exact NT_0 hT) (by first | omega | exact hc _ _ | exact bi_rg _ | exact zrg _) (by first | omega | exact hc _ _ | exact bi_rg _ | exact zrg _) (by omega) (gw_al0 at80_57 (gw_il5 at80_58 (gw_const at80_60 (gw_iadd at80_61 (gw_pf (j := 5) at80_62 (by first | exact RT_0 hR | exact RT_r0 hR | exact RT_r4 hR | exact RT_t4 hR | exact RT_l4 hR | exact NT_0 hT) rfl (gw_il6 at80_65 (gw_is4 at80_67 (h := (gw_al0 at80_69 (gw_gr at80_70 (by first | exact RT_0 hR | exact RT_r0 hR | exact RT_r4 hR | exact RT_t4 hR | exact RT_l4 hR | exact NT_0 hT) (by first | exact RT_0 hR | exact RT_r0 hR | exact RT_r4 hR | exact RT_t4 hR | exact RT_l4 hR | exact NT_0 hT) (gw_il6 at80_73 (gw_callP2 at80_75 (c_endOf hT (RG_gu (RG_gu o1.1 (by omega)) (by omega)) (by omega)) (by omega) (Nat.le_of_ble_eq_true rfl) ?_))))))))))))))))
          rw [NF_en (c := c) (fun k h1 h2 j => by rw [gu_k (by omega), gu_k (by omega)]; exact o1.2.1 k (by omega) (by omega) j)]
          refine gw_is3 at80_78 (h := (gw_inc5 at80_79 (h := (gw_goto at80_82 ?_))))
          refine ih (i + 1) (by omega) (by omega) (en c 100014 (fst1 c X.2.1 (24 + t)).1, (fst1 c X.2.1 (24 + t)).1, gu (gu X.2.2 100029 i (fst1 c X.2.1 (24 + t)).1) 100026 5 (i + 1)) _ rfl ?_
          unfold fpx at hX ⊢
          rw [itI_s _ _ hi0, ← hX, fps_n (by omega) (by omega)]
        · refine gw_const at80_46 (gw_r0 at80_47 am_r80.2.1 ?_)
          have hx : fpx c f t 24 = X := by
            unfold fpx at hX ⊢
            first | (rw [hX, show i = 24 by omega]; done) | (rw [itI_fx hi0 (fun j hj => by rw [← hX, fps_t (by omega)]) 24 hi1, ← hX]) | (rw [itI_fx hi0 (fun j hj => by rw [← hX, fps_e (by omega) (by omega)]) 24 hi1, ← hX])
          rw [hx]
          first | (rw [decide_eq_true (by omega)]; exact ⟨rfl, rfl⟩) | (rw [decide_eq_false (by omega)]; exact ⟨rfl, rfl⟩)
  exact lp16 0 (by omega) (by omega) (f, 24 + f, gu c 100026 5 0) _ rfl rfl
set_option maxHeartbeats 1000000 in
theorem c_greedyCost {g : Nat} {T : gT} {c J : gC} (hR : RT T) (hc : RG c) (hS : SR c) (hL : SL c) (hD : -1 ≤ c 100014 3 ∧ c 100014 3 < 10) (hT : NT T 100014) (hN : NR c 100014) {s : Int} (hs : -2147483648 ≤ s ∧ s < 2147483648) : gE g 83 4 [.ref 100026, gi s] (gm T c J) (gR (gi (grc c s)) (gm T c J)) := by
  refine gE_mk am_r83 rfl (Or.inr ⟨_, rfl, (by first | exact RT_0 hR | exact RT_r0 hR | exact NT_0 hT)⟩) (fun d hd => ?_)
  show gw d g 83 0 [.ref 100026, gi s, am_U, am_U, am_U, am_U, am_U] [] _ _
  refine gw_il1 at83_0 (gw_is2 at83_1 (h := (gw_al0 at83_2 (gw_gr at83_3 (by first | exact RT_0 hR | exact RT_r0 hR | exact NT_0 hT) (by first | exact RT_0 hR | exact RT_r0 hR | exact NT_0 hT) (gw_gf (j := 3) at83_6 (by first | exact RT_0 hR | exact RT_r0 hR | exact NT_0 hT) rfl (gw_callP1 at83_9 (c_placeOf) (by omega) (Nat.le_of_ble_eq_true rfl) (gw_is3 at83_12 (h := (gw_const at83_13 (gw_is4 at83_14 (h := (gw_const at83_16 (gw_is5 at83_17 (h := ?_))))))))))))))
  have lp19 : ∀ i : Int, 0 ≤ i → i ≤ 24 → ∀ (X : Bool × Int × Int × Int) (w : Value), am_nl w = true → X.1 = false → X = grx c s i → gw d g 83 19 [.ref 100026, gi s, gi X.2.1, gi X.2.2.1, gi X.2.2.2, gi i, w] [] (gm T c J) (gR (gi (grc c s)) (gm T c J)) := by
    refine ind_up 24 ?_
    intro i hi0 hi1 ih X w hw hb hX
    obtain ⟨o1, o2, o3, o4⟩ : GRI X i := by rw [hX]; exact grx_ok hS hL hD hs hi0 hi1
    refine gw_il5 at83_19 ?_
    refine gw_bip at83_21 (by decide) ?_
    refine gw_cge at83_23 (by first | omega | exact hc _ _ | exact bi_rg _ | exact zrg _) (by first | omega | exact hc _ _ | exact bi_rg _ | exact zrg _) (fun q23 => ?_) (fun q23 => ?_)
    · have hcb := cbh_rg hS X.2.2.1 (24 + c 100014 3)
      refine gw_il1 at83_76 ?_
      refine gw_zne at83_77 (by first | omega | exact hc _ _ | exact bi_rg _ | exact zrg _) (fun q77 => ?_) (fun q77 => ?_)
      · refine gw_il4 at83_84 (gw_al0 at83_86 (gw_il3 at83_87 (gw_al0 at83_88 (gw_gr at83_89 (by first | exact RT_0 hR | exact RT_r0 hR | exact NT_0 hT) (by first | exact RT_0 hR | exact RT_r0 hR | exact NT_0 hT) (gw_gf (j := 3) at83_92 (by first | exact RT_0 hR | exact RT_r0 hR | exact NT_0 hT) rfl (gw_callP1 at83_95 (c_placeOf) (by omega) (Nat.le_of_ble_eq_true rfl) (gw_callP3 at83_98 (c_costBehind hR hc (by omega) (by omega)) (by omega) (Nat.le_of_ble_eq_true rfl) (gw_iadd at83_101 (gw_callP1 at83_102 (c_known (by omega)) (by omega) (Nat.le_of_ble_eq_true rfl) (gw_ri at83_105 am_r83.2.1 (gR_i ?_)))))))))))
        have hx : grx c s 24 = X := by
          unfold grx at hX ⊢
          first | (rw [hX, show i = 24 by omega]; done) | (rw [itI_fx hi0 (fun j hj => by rw [← hX, grs_z (by omega)]) 24 hi1, ← hX])
        first | rw [grc_0 (by rw [hx]; exact hb) (by omega)] | rw [grc_n (by rw [hx]; exact hb) (by omega), hx]
      · refine gw_const at83_80 (gw_goto at83_81 (gw_ri at83_105 am_r83.2.1 (gR_i ?_)))
        have hx : grx c s 24 = X := by
          unfold grx at hX ⊢
          first | (rw [hX, show i = 24 by omega]; done) | (rw [itI_fx hi0 (fun j hj => by rw [← hX, grs_z (by omega)]) 24 hi1, ← hX])
        first | rw [grc_0 (by rw [hx]; exact hb) (by omega)] | rw [grc_n (by rw [hx]; exact hb) (by omega), hx]
    · refine gw_il2 at83_26 ?_
      refine gw_zeq at83_27 (by first | omega | exact hc _ _ | exact bi_rg _ | exact zrg _) (fun q27 => ?_) (fun q27 => ?_)
      · have hcb := cbh_rg hS X.2.2.1 (24 + c 100014 3)
        refine gw_il1 at83_76 ?_
        refine gw_zne at83_77 (by first | omega | exact hc _ _ | exact bi_rg _ | exact zrg _) (fun q77 => ?_) (fun q77 => ?_)
        · refine gw_il4 at83_84 (gw_al0 at83_86 (gw_il3 at83_87 (gw_al0 at83_88 (gw_gr at83_89 (by first | exact RT_0 hR | exact RT_r0 hR | exact NT_0 hT) (by first | exact RT_0 hR | exact RT_r0 hR | exact NT_0 hT) (gw_gf (j := 3) at83_92 (by first | exact RT_0 hR | exact RT_r0 hR | exact NT_0 hT) rfl (gw_callP1 at83_95 (c_placeOf) (by omega) (Nat.le_of_ble_eq_true rfl) (gw_callP3 at83_98 (c_costBehind hR hc (by omega) (by omega)) (by omega) (Nat.le_of_ble_eq_true rfl) (gw_iadd at83_101 (gw_callP1 at83_102 (c_known (by omega)) (by omega) (Nat.le_of_ble_eq_true rfl) (gw_ri at83_105 am_r83.2.1 (gR_i ?_)))))))))))
          have hx : grx c s 24 = X := by
            unfold grx at hX ⊢
            first | (rw [hX, show i = 24 by omega]; done) | (rw [itI_fx hi0 (fun j hj => by rw [← hX, grs_z (by omega)]) 24 hi1, ← hX])
          first | rw [grc_0 (by rw [hx]; exact hb) (by omega)] | rw [grc_n (by rw [hx]; exact hb) (by omega), hx]
        · refine gw_const at83_80 (gw_goto at83_81 (gw_ri at83_105 am_r83.2.1 (gR_i ?_)))
          have hx : grx c s 24 = X := by
            unfold grx at hX ⊢
            first | (rw [hX, show i = 24 by omega]; done) | (rw [itI_fx hi0 (fun j hj => by rw [← hX, grs_z (by omega)]) 24 hi1, ← hX])
          first | rw [grc_0 (by rw [hx]; exact hb) (by omega)] | rw [grc_n (by rw [hx]; exact hb) (by omega), hx]
      · refine gw_al0 at83_30 (gw_il3 at83_31 (gw_il2 at83_32 (gw_callP3 at83_33 (c_nearestArc hR hc hS (by omega) (by omega)) (by omega) (Nat.le_of_ble_eq_true rfl) ?_)))
        have hnr := nea_rg c X.2.2.1 X.2.1
        refine gw_is6 at83_36 (h := (gw_il6 at83_38 (gw_const at83_40 ?_)))
        refine gw_cne at83_41 (by first | omega | exact hc _ _ | exact bi_rg _ | exact zrg _) (by first | omega | exact hc _ _ | exact bi_rg _ | exact zrg _) (fun q41 => ?_) (fun q41 => ?_)
        · refine gw_il4 at83_46 (gw_al0 at83_48 (gw_il3 at83_49 (gw_il6 at83_50 (gw_callP3 at83_52 (c_costFrom hR hc hS (by omega) (by omega)) (by omega) (Nat.le_of_ble_eq_true rfl) (gw_iadd at83_55 (gw_is4 at83_56 (h := (gw_il2 at83_58 (gw_const at83_59 (gw_il6 at83_60 (gw_ishl at83_62 (gw_const at83_63 (gw_ixor at83_64 (gw_iand at83_65 (gw_is2 at83_66 (h := (gw_il6 at83_67 (gw_is3 at83_69 (h := (gw_inc5 at83_70 (h := (gw_goto at83_73 ?_))))))))))))))))))))))
          have e := fun w hw hX => ih (i + 1) (by omega) (by omega) (false, zand X.2.1 (zxor (zshl 1 (nea c X.2.2.1 X.2.1).1) (-1)), (nea c X.2.2.1 X.2.1).1, X.2.2.2 + cfr c X.2.2.1 (nea c X.2.2.1 X.2.1).1) w hw rfl hX
          dsimp only at e
          refine e _ rfl ?_
          unfold grx at hX ⊢
          rw [itI_s _ _ hi0, ← hX, grs_n hb (by omega) (by omega)]
        · refine gw_const at83_44 (gw_ri at83_45 am_r83.2.1 (gR_i ?_))
          have hx : grx c s 24 = (true, X.2) := by
            unfold grx at hX ⊢
            have hy : itI (fun _ => grs c) (false, s, 24 + c 100014 3, 0) (i + 1) = (true, X.2) := by
              rw [itI_s _ _ hi0, ← hX, grs_e hb (by omega) (by omega)]
            rw [itI_fx (i := i + 1) (by omega) (fun j hj => by rw [hy]; rfl) 24 (by omega), hy]
          rw [grc_b (by rw [hx])]
  exact lp19 0 (by omega) (by omega) (false, s, 24 + c 100014 3, 0) _ rfl rfl rfl
