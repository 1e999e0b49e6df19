/-! routes: the tables are made -/
/-- nothing but the tables changed -/
def KF (c m : gC) : Prop := ∀ k : Nat, ¬ k = 100027 → ¬ k = 100028 → ∀ j, m k j = c k j
theorem KF_NF {c m : gC} (h : KF c m) : NF c m 100014 := fun i h1 h2 j => h i (by omega) (by omega) j
theorem KF_rf {c : gC} : KF c c := fun _ _ _ _ => rfl
theorem KF_tr {c m m' : gC} (h : KF c m) (h' : KF m m') : KF c m' := fun k a b j => (h' k a b j).trans (h k a b j)
theorem KF_gu {c m : gC} {k : Nat} {j z : Int} (h : KF c m) (hk : k = 100027 ∨ k = 100028) : KF c (gu m k j z) := fun x a b i => by
  rw [gu_k (by omega)]
  exact h x a b i
theorem SR_gu {c : gC} {k : Nat} {j z : Int} (h : SR c) (hz : 0 ≤ z ∧ z ≤ 100000000) : SR (gu c k j z) := fun i h0 h1 => by
  have := h i h0 h1
  unfold gu
  refine ⟨?_, ?_⟩ <;> split <;> omega
def TOK (c m : gC) : Prop := RG m ∧ SR m ∧ KF c m
theorem TOK_gu {c m : gC} {k : Nat} {j z : Int} (h : TOK c m) (hk : k = 100027 ∨ k = 100028) (hz : 0 ≤ z ∧ z ≤ 100000000) : TOK c (gu m k j z) := ⟨RG_gu h.1 (by omega), SR_gu h.2.1 hz, KF_gu h.2.2 hk⟩
theorem itI_inv2 {α : Type} {f : Int → α → α} {x : α} (P : α → Prop) {N : Int} (h0 : P x) (hs : ∀ j s, 0 ≤ j → j < N → P s → P (f j s)) {k : Int} (hk : k ≤ N) : P (itI f x k) := by
  by_cases h1 : k ≤ 0
  · rw [itI_neg _ _ h1]; exact h0
  · have key : ∀ n : Nat, (n : Int) ≤ N → P (itI f x (n : Int)) := by
      intro n
      induction n with
      | zero => exact fun _ => h0
      | succ n ih =>
        intro hn
        rw [show ((n + 1 : Nat) : Int) = (n : Int) + 1 by omega, itI_s _ _ (by omega)]
        exact hs _ _ (by omega) (by omega) (ih (by omega))
    have := key k.toNat (by omega)
    rwa [show ((k.toNat : Nat) : Int) = k by omega] at this
theorem itI_fix {α : Type} {f : α → α} {x : α} {i : Int} (h0 : 0 ≤ i) (hf : f (itI (fun _ => f) x i) = itI (fun _ => f) x i) : ∀ k : Int, i ≤ k → itI (fun _ => f) x k = itI (fun _ => f) x i := by
  have key : ∀ n : Nat, itI (fun _ => f) x (i + (n : Int)) = itI (fun _ => f) x i := by
    intro n
    induction n with
    | zero => simp
    | succ n ih =>
      rw [show i + ((n + 1 : Nat) : Int) = i + (n : Int) + 1 by omega, itI_s _ _ (by omega), ih]
      exact hf
  intro k hk
  have := key (k - i).toNat
  rwa [show i + (((k - i).toNat : Nat) : Int) = k by omega] at this
def nuf (m : gC) (r s a : Int) : Int := if tb s a = true then 100000000 else m 100028 (r + a)
def nun (m : gC) (r s : Int) : Int := (am1 100000000 (nuf m r s) 24).1
def rlx (r u t : Int) (m : gC) : gC := gu m 100028 (r + t) (min (m 100028 (r + t)) (m 100028 (r + u) + m 100027 (u * 24 + t)))
def rnd (r : Int) (x : Int × gC) : Int × gC := if nun x.2 r x.1 = -1 then x else (zor x.1 (zshl 1 (nun x.2 r x.1)), itI (rlx r (nun x.2 r x.1)) x.2 24)
def djk (c : gC) (s : Int) : gC := (itI (fun _ => rnd (s * 34)) (0, gu c 100028 (s * 34 + s) 0) 24).2
def fnf (c : gC) (r a : Int) (m : gC) : gC := if hA c 100014 a = true ∧ 0 ≤ en c 100014 a then gu m 100028 (r + (24 + en c 100014 a)) (min (m 100028 (r + (24 + en c 100014 a))) (m 100028 (r + a))) else m
def fnd (c : gC) (s : Int) : gC := itI (fnf c (s * 34)) c 24
def fsf (c : gC) (t f : Int) (m : gC) : gC := if hA c 100014 f = true ∧ en c 100014 f = bg c 100014 t then gu m 100027 (f * 24 + t) (c 100024 (tkd c 100014 f t) + ln c 100014 t) else m
def fs0 (c : gC) (t : Int) : gC := if 0 ≤ bg c 100014 t then gu c 100027 ((24 + bg c 100014 t) * 24 + t) (ln c 100014 t) else c
def fsd (c : gC) (t : Int) : gC := itI (fsf c t) (fs0 c t) 24
def rf1 (t : Int) (m : gC) : gC := if hA m 100014 t = true then fsd m t else m
def rf2 (t : Int) (m : gC) : gC := if hA m 100014 t = true then fnd (djk m t) t else m
def rfi (c : gC) : gC := fl (fl c 100027 816 100000000) 100028 816 100000000
def rfr (c : gC) : gC := if c 100026 1 = c 100014 0 then c else gu (itI rf2 (itI rf1 (rfi c) 24) 24) 100026 1 (c 100014 0)
theorem fnf_t {c m : gC} {r a : Int} (h1 : hA c 100014 a = true) (h2 : 0 ≤ en c 100014 a) : fnf c r a m = gu m 100028 (r + (24 + en c 100014 a)) (min (m 100028 (r + (24 + en c 100014 a))) (m 100028 (r + a))) := if_pos ⟨h1, h2⟩
theorem fnf_a {c m : gC} {r a : Int} (h1 : ¬ hA c 100014 a = true) : fnf c r a m = m := if_neg (fun h => h1 h.1)
theorem fnf_e {c m : gC} {r a : Int} (h1 : ¬ 0 ≤ en c 100014 a) : fnf c r a m = m := if_neg (fun h => h1 h.2)
theorem fsf_t {c m : gC} {t f : Int} (h1 : hA c 100014 f = true) (h2 : en c 100014 f = bg c 100014 t) : fsf c t f m = gu m 100027 (f * 24 + t) (c 100024 (tkd c 100014 f t) + ln c 100014 t) := if_pos ⟨h1, h2⟩
theorem fsf_a {c m : gC} {t f : Int} (h1 : ¬ hA c 100014 f = true) : fsf c t f m = m := if_neg (fun h => h1 h.1)
theorem fsf_e {c m : gC} {t f : Int} (h1 : ¬ en c 100014 f = bg c 100014 t) : fsf c t f m = m := if_neg (fun h => h1 h.2)
theorem nun_rg (m : gC) (r s : Int) : -1 ≤ nun m r s ∧ nun m r s < 24 := by
  have := am1_rg (B := 100000000) (f := nuf m r s) (n := 24) (by omega)
  unfold nun
  omega
theorem rlx_ok {c m : gC} {r u t : Int} (h : TOK c m) (hr : 0 ≤ r ∧ r ≤ 782) (hu : 0 ≤ u ∧ u < 24) (ht : 0 ≤ t ∧ t < 24) : TOK c (rlx r u t m) := by
  have h1 := (h.2.1 (r + t) (by omega) (by omega)).2
  have h2 := (h.2.1 (r + u) (by omega) (by omega)).2
  have h3 := (h.2.1 (u * 24 + t) (by omega) (by omega)).1
  exact TOK_gu h (Or.inr rfl) (by omega)
theorem rlxi_ok {c m : gC} {r u : Int} (h : TOK c m) (hr : 0 ≤ r ∧ r ≤ 782) (hu : 0 ≤ u ∧ u < 24) {t : Int} (ht : t ≤ 24) : TOK c (itI (rlx r u) m t) := itI_inv2 (TOK c) (N := 24) h (fun j s h0 h1 hs => rlx_ok hs hr hu ⟨h0, h1⟩) ht
theorem rnd_ok {c : gC} {r : Int} {x : Int × gC} (h : TOK c x.2) (hr : 0 ≤ r ∧ r ≤ 782) : TOK c (rnd r x).2 := by
  have := nun_rg x.2 r x.1
  unfold rnd
  split
  · exact h
  · exact rlxi_ok h hr (by omega) (by omega)
theorem rndi_ok {c : gC} {r : Int} {x : Int × gC} (h : TOK c x.2) (hr : 0 ≤ r ∧ r ≤ 782) (i : Int) : TOK c (itI (fun _ => rnd r) x i).2 := by
  refine itI_inv (fun x : Int × gC => TOK c x.2) h (fun j s hs => ?_) i
  exact rnd_ok hs hr
theorem djk_ok {c m : gC} {s : Int} (h : TOK c m) (hs : 0 ≤ s ∧ s < 24) : TOK c (djk m s) := rndi_ok (TOK_gu h (Or.inr rfl) (by omega)) (by omega) 24
theorem fnf_ok {c c0 m : gC} {r a : Int} (hN : NR c0 100014) (h : TOK c m) (hr : 0 ≤ r ∧ r ≤ 782) (ha : 0 ≤ a ∧ a < 24) : TOK c (fnf c0 r a m) := by
  have he := en_rg hN a
  unfold fnf
  split
  · have h1 := (h.2.1 (r + (24 + en c0 100014 a)) (by omega) (by omega)).2
    have h2 := (h.2.1 (r + a) (by omega) (by omega)).2
    exact TOK_gu h (Or.inr rfl) (by omega)
  · exact h
theorem fnd_ok {c m : gC} {s : Int} (hN : NR m 100014) (h : TOK c m) (hs : 0 ≤ s ∧ s < 24) : TOK c (fnd m s) := itI_inv2 (TOK c) (N := 24) h (fun j x h0 h1 hx => fnf_ok hN hx (by omega) ⟨h0, h1⟩) (by omega)
theorem fsf_ok {c c0 m : gC} {t f : Int} (hN : NR c0 100014) (h : TOK c m) : TOK c (fsf c0 t f m) := by
  have h1 := ln_rg hN t
  have h2 := tkd_rg c0 100014 f t
  have h3 : 0 ≤ c0 100024 (tkd c0 100014 f t) ∧ c0 100024 (tkd c0 100014 f t) ≤ 99 := hN.2.2.2.2.1 (tkd c0 100014 f t) (by omega) (by omega)
  unfold fsf
  split
  · exact TOK_gu h (Or.inl rfl) (by omega)
  · exact h
theorem fs0_ok {c m : gC} {t : Int} (hN : NR m 100014) (h : TOK c m) : TOK c (fs0 m t) := by
  have h1 := ln_rg hN t
  unfold fs0
  split
  · exact TOK_gu h (Or.inl rfl) (by omega)
  · exact h
theorem fsi_ok {c m : gC} {t : Int} (hN : NR m 100014) (h : TOK c m) (i : Int) : TOK c (itI (fsf m t) (fs0 m t) i) := itI_inv (TOK c) (fs0_ok hN h) (fun j x hx => fsf_ok hN hx) i
theorem TOK_NR {c m : gC} (h : TOK c m) (hN : NR c 100014) : NR m 100014 := NF_NR (KF_NF h.2.2) hN
theorem rf1_ok {c m : gC} {t : Int} (hN : NR c 100014) (h : TOK c m) : TOK c (rf1 t m) := by
  unfold rf1
  split
  · exact fsi_ok (TOK_NR h hN) h 24
  · exact h
theorem rf2_ok {c m : gC} {t : Int} (hN : NR c 100014) (h : TOK c m) (ht : 0 ≤ t ∧ t < 24) : TOK c (rf2 t m) := by
  unfold rf2
  split
  · have h1 := djk_ok h ht
    exact fnd_ok (TOK_NR h1 hN) h1 ht
  · exact h
theorem rfi_ok {c : gC} (h : RG c) : TOK c (rfi c) := by
  refine ⟨RG_fl (RG_fl h (by omega)) (by omega), fun i h0 h1 => ?_, fun k h1 h2 j => ?_⟩
  · unfold rfi
    rw [fl_k (k := 100027) (by omega), fl_a ⟨h0, h1⟩, fl_a ⟨h0, h1⟩]
    omega
  · unfold rfi
    rw [fl_k h2, fl_k h1]
theorem rf1i_ok {c : gC} (hc : RG c) (hN : NR c 100014) (i : Int) : TOK c (itI rf1 (rfi c) i) := itI_inv (TOK c) (rfi_ok hc) (fun j x hx => rf1_ok hN hx) i
theorem rf2i_ok {c : gC} (hc : RG c) (hN : NR c 100014) {i : Int} (hi : i ≤ 24) : TOK c (itI rf2 (itI rf1 (rfi c) 24) i) := itI_inv2 (TOK c) (N := 24) (rf1i_ok hc hN 24) (fun j x h0 h1 hx => rf2_ok hN hx ⟨h0, h1⟩) hi
set_option maxHeartbeats 1000000 in
theorem c_nun {g : Nat} {T : gT} {c J : gC} (hR : RT T) (hc : RG c) (hS : SR c) {r s : Int} (hr : 0 ≤ r ∧ r ≤ 782) (hs : -2147483648 ≤ s ∧ s < 2147483648) : gE g 72 1 [.ref 100026, gi r, gi s] (gm T c J) (gR (gi (nun c r s)) (gm T c J)) := by
  refine gE_mk am_r72 rfl (Or.inr ⟨_, rfl, (by first | exact RT_0 hR | exact RT_r3 hR | exact RT_t3 hR | exact RT_l3 hR)⟩) (fun d hd => ?_)
  show gw d g 72 0 [.ref 100026, gi r, gi s, am_U, am_U, am_U] [] _ _
  refine gw_const at72_0 (gw_is3 at72_1 (h := (gw_ldc (z := 100000000) at72_2 (by decide) (gw_is4 at72_4 (h := (gw_const at72_6 (gw_is5 at72_7 (h := ?_))))))))
  have lp9 : ∀ n : Int, 0 ≤ n → n ≤ 24 → ∀ (u l : Int), (u, l) = am1 100000000 (nuf c r s) n → gw d g 72 9 [.ref 100026, gi r, gi s, gi u, gi l, gi n] [] (gm T c J) (gR (gi (nun c r s)) (gm T c J)) := by
    refine ind_up 24 ?_
    intro n hn0 hn1 ih u l hz
    have hs1 : u = (am1 100000000 (nuf c r s) n).1 := by rw [← hz]
    have hs2 : l = (am1 100000000 (nuf c r s) n).2 := by rw [← hz]
    clear hz
    have hl1 : -2147483648 ≤ l ∧ l ≤ 100000000 := by
      refine ⟨?_, by rw [hs2]; exact am1_le hn0⟩
      rw [hs2]
      rcases am1_spec (B := 100000000) (f := nuf c r s) hn0 with ⟨h, -⟩ | ⟨h1, h2, h, -⟩
      · rw [h]; dsimp only; omega
      · rw [h]; unfold nuf; split
        · omega
        · exact (hc _ _).1
    refine gw_il5 at72_9 ?_
    refine gw_bip at72_11 (by decide) ?_
    refine gw_cge at72_13 (by first | omega | exact hc _ _ | (have := (hS (r + n) (by omega) (by omega)).2; omega)) (by first | omega | exact hc _ _ | (have := (hS (r + n) (by omega) (by omega)).2; omega)) (fun q13 => ?_) (fun q13 => ?_)
    · refine gw_il3 at72_59 (gw_ri at72_60 am_r72.2.1 (gR_i ?_))
      rw [hs1, show n = 24 by omega]; rfl
    · refine gw_il2 at72_16 (gw_il5 at72_17 (gw_callP2 at72_19 (c_contains) (by omega) (Nat.le_of_ble_eq_true rfl) ?_))
      refine gw_bne at72_22 (fun q22 => ?_) (fun q22 => ?_)
      · refine gw_inc5 at72_53 (h := (gw_goto at72_56 ?_))
        refine ih (n + 1) (by omega) (by omega) _ _ ?_
        first | (rw [am1_lt hn0 (by rw [← hs2]; unfold nuf; rw [if_neg (by simp [*])]; omega)]; unfold nuf; rw [if_neg (by simp [*])]; done) | (rw [am1_ge hn0 (by rw [← hs2]; unfold nuf; first | (rw [if_pos (by assumption)]; omega) | (rw [if_neg (by simp [*])]; omega)), hs1, hs2])
      · refine gw_al0 at72_25 (gw_gr at72_26 (by first | exact RT_0 hR | exact RT_r3 hR | exact RT_t3 hR | exact RT_l3 hR) (by first | exact RT_0 hR | exact RT_r3 hR | exact RT_t3 hR | exact RT_l3 hR) (gw_il1 at72_29 (gw_il5 at72_30 (gw_iadd at72_32 (gw_ia at72_33 (by first | exact Or.inl (by first | exact RT_0 hR | exact RT_r3 hR | exact RT_t3 hR | exact RT_l3 hR) | exact Or.inr (by first | exact RT_0 hR | exact RT_r3 hR | exact RT_t3 hR | exact RT_l3 hR)) (by first | exact RT_0 hR | exact RT_r3 hR | exact RT_t3 hR | exact RT_l3 hR) (by first | omega | exact hc _ _ | (have := (hS (r + n) (by omega) (by omega)).2; omega)) (by first | omega | exact hc _ _ | (have := (hS (r + n) (by omega) (by omega)).2; omega)) (by omega) (gw_il4 at72_34 ?_))))))
        refine gw_cge at72_36 (by first | omega | exact hc _ _ | (have := (hS (r + n) (by omega) (by omega)).2; omega)) (by first | omega | exact hc _ _ | (have := (hS (r + n) (by omega) (by omega)).2; omega)) (fun q36 => ?_) (fun q36 => ?_)
        · refine gw_inc5 at72_53 (h := (gw_goto at72_56 ?_))
          refine ih (n + 1) (by omega) (by omega) _ _ ?_
          first | (rw [am1_lt hn0 (by rw [← hs2]; unfold nuf; rw [if_neg (by simp [*])]; omega)]; unfold nuf; rw [if_neg (by simp [*])]; done) | (rw [am1_ge hn0 (by rw [← hs2]; unfold nuf; first | (rw [if_pos (by assumption)]; omega) | (rw [if_neg (by simp [*])]; omega)), hs1, hs2])
        · refine gw_al0 at72_39 (gw_gr at72_40 (by first | exact RT_0 hR | exact RT_r3 hR | exact RT_t3 hR | exact RT_l3 hR) (by first | exact RT_0 hR | exact RT_r3 hR | exact RT_t3 hR | exact RT_l3 hR) (gw_il1 at72_43 (gw_il5 at72_44 (gw_iadd at72_46 (gw_ia at72_47 (by first | exact Or.inl (by first | exact RT_0 hR | exact RT_r3 hR | exact RT_t3 hR | exact RT_l3 hR) | exact Or.inr (by first | exact RT_0 hR | exact RT_r3 hR | exact RT_t3 hR | exact RT_l3 hR)) (by first | exact RT_0 hR | exact RT_r3 hR | exact RT_t3 hR | exact RT_l3 hR) (by first | omega | exact hc _ _ | (have := (hS (r + n) (by omega) (by omega)).2; omega)) (by first | omega | exact hc _ _ | (have := (hS (r + n) (by omega) (by omega)).2; omega)) (by omega) (gw_is4 at72_48 (h := (gw_il5 at72_50 (gw_is3 at72_52 (h := (gw_inc5 at72_53 (h := (gw_goto at72_56 ?_)))))))))))))
          refine ih (n + 1) (by omega) (by omega) _ _ ?_
          first | (rw [am1_lt hn0 (by rw [← hs2]; unfold nuf; rw [if_neg (by simp [*])]; omega)]; unfold nuf; rw [if_neg (by simp [*])]; done) | (rw [am1_ge hn0 (by rw [← hs2]; unfold nuf; first | (rw [if_pos (by assumption)]; omega) | (rw [if_neg (by simp [*])]; omega)), hs1, hs2])
  exact lp9 0 (by omega) (by omega) _ _ rfl
set_option maxHeartbeats 4000000 in
theorem c_djk {g : Nat} {T : gT} {c J : gC} (hR : RT T) (hc : RG c) (hS : SR c) {s : Int} (hs : 0 ≤ s ∧ s < 24) : gE g 71 2 [.ref 100026, gi s] (gm T c J) (fun o M1 => o = .inl none ∧ M1 = gm T (djk c s) J) := by
  refine gE_mk am_r71 rfl (Or.inr ⟨_, rfl, (by first | exact RT_0 hR | exact RT_r2 hR | exact RT_t2 hR | exact RT_l2 hR | exact RT_r3 hR | exact RT_t3 hR | exact RT_l3 hR)⟩) (fun d hd => ?_)
  show gw d g 71 0 [.ref 100026, gi s, am_U, am_U, am_U, am_U, am_U, am_U] [] _ _
  refine gw_il1 at71_0 (gw_bip at71_1 (by decide) (gw_imul at71_3 (gw_is2 at71_4 (h := (gw_const at71_5 (gw_is3 at71_6 (h := (gw_al0 at71_7 (gw_gr at71_8 (by first | exact RT_0 hR | exact RT_r2 hR | exact RT_t2 hR | exact RT_l2 hR | exact RT_r3 hR | exact RT_t3 hR | exact RT_l3 hR) (by first | exact RT_0 hR | exact RT_r2 hR | exact RT_t2 hR | exact RT_l2 hR | exact RT_r3 hR | exact RT_t3 hR | exact RT_l3 hR) (gw_il2 at71_11 (gw_il1 at71_12 (gw_iadd at71_13 (gw_const at71_14 (gw_iw at71_15 (by first | exact RT_0 hR | exact RT_r2 hR | exact RT_t2 hR | exact RT_l2 hR | exact RT_r3 hR | exact RT_t3 hR | exact RT_l3 hR) (by first | exact RT_0 hR | exact RT_r2 hR | exact RT_t2 hR | exact RT_l2 hR | exact RT_r3 hR | exact RT_t3 hR | exact RT_l3 hR) (by first | omega | exact o2.1 _ _) (by first | omega | exact o2.1 _ _) (by omega) (gw_const at71_16 (gw_is4 at71_17 (h := ?_)))))))))))))))))
  have lp19 : ∀ i : Int, 0 ≤ i → i ≤ 24 → ∀ (X : Int × gC) (u v w : Value), am_nl u = true → am_nl v = true → X = itI (fun _ => rnd (s * 34)) (0, gu c 100028 (s * 34 + s) 0) i → gw d g 71 19 [.ref 100026, gi s, gi (s * 34), gi X.1, gi i, u, v, w] [] (gm T X.2 J) (fun o M1 => o = .inl none ∧ M1 = gm T (djk c s) J) := by
    refine ind_up 24 ?_
    intro i hi0 hi1 ih X u v w hu hv hX
    have o1 : TOK c X.2 := by
      rw [hX]
      exact rndi_ok (TOK_gu ⟨hc, hS, KF_rf⟩ (Or.inr rfl) (by omega)) (by omega) i
    have hX1 : -2147483648 ≤ X.1 ∧ X.1 < 2147483648 := by
      rw [hX]
      refine itI_inv (fun x : Int × gC => -2147483648 ≤ x.1 ∧ x.1 < 2147483648) (by dsimp only; omega) (fun j x hx => ?_) i
      unfold rnd
      split
      · exact hx
      · exact zrg _
    have hnu := nun_rg X.2 (s * 34) X.1
    refine gw_il4 at71_19 ?_
    refine gw_bip at71_21 (by decide) ?_
    refine gw_cge at71_23 (by first | omega | exact o2.1 _ _) (by first | omega | exact o2.1 _ _) (fun q23 => ?_) (fun q23 => ?_)
    · 
      refine gw_rv at71_118 am_r71.2.1 ?_
      refine ⟨rfl, ?_⟩
      unfold djk
      rw [hX, show i = 24 by omega]
    · refine gw_al0 at71_26 (gw_il2 at71_27 (gw_il3 at71_28 (gw_callP3 at71_29 (c_nun hR o1.1 o1.2.1 (by omega) (by omega)) (by omega) (Nat.le_of_ble_eq_true rfl) (gw_is5 at71_32 (h := (gw_il5 at71_34 (gw_const at71_36 ?_)))))))
      refine gw_cne at71_37 (by first | omega | exact o2.1 _ _) (by first | omega | exact o2.1 _ _) (fun q37 => ?_) (fun q37 => ?_)
      · refine gw_il3 at71_41 (gw_const at71_42 (gw_il5 at71_43 (gw_ishl at71_45 (gw_ior at71_46 (gw_is3 at71_47 (h := (gw_const at71_48 (gw_is6 at71_49 (h := ?_)))))))))
        have lp51 : ∀ t : Int, 0 ≤ t → t ≤ 24 → ∀ w : Value, gw d g 71 51 [.ref 100026, gi s, gi (s * 34), gi (zor X.1 (zshl 1 (nun X.2 (s * 34) X.1))), gi i, gi (nun X.2 (s * 34) X.1), gi t, w] [] (gm T (itI (rlx (s * 34) (nun X.2 (s * 34) X.1)) X.2 t) J) (fun o M1 => o = .inl none ∧ M1 = gm T (djk c s) J) := by
          refine ind_up 24 ?_
          intro t ht0 ht1 ih2 w
          have o2 : TOK c (itI (rlx (s * 34) (nun X.2 (s * 34) X.1)) X.2 t) := rlxi_ok o1 (by omega) (by omega) ht1
          have o3 : t < 24 → (0 ≤ (itI (rlx (s * 34) (nun X.2 (s * 34) X.1)) X.2 t) 100028 (s * 34 + t) ∧ (itI (rlx (s * 34) (nun X.2 (s * 34) X.1)) X.2 t) 100028 (s * 34 + t) ≤ 100000000) ∧ (0 ≤ (itI (rlx (s * 34) (nun X.2 (s * 34) X.1)) X.2 t) 100028 (s * 34 + nun X.2 (s * 34) X.1) ∧ (itI (rlx (s * 34) (nun X.2 (s * 34) X.1)) X.2 t) 100028 (s * 34 + nun X.2 (s * 34) X.1) ≤ 100000000) ∧ (0 ≤ (itI (rlx (s * 34) (nun X.2 (s * 34) X.1)) X.2 t) 100027 (nun X.2 (s * 34) X.1 * 24 + t) ∧ (itI (rlx (s * 34) (nun X.2 (s * 34) X.1)) X.2 t) 100027 (nun X.2 (s * 34) X.1 * 24 + t) ≤ 100000000) := fun h => ⟨(o2.2.1 _ (by omega) (by omega)).2, (o2.2.1 _ (by omega) (by omega)).2, (o2.2.1 _ (by omega) (by omega)).1⟩
          refine gw_il6 at71_51 ?_
          refine gw_bip at71_53 (by decide) ?_
          refine gw_cge at71_55 (by first | omega | exact o2.1 _ _) (by first | omega | exact o2.1 _ _) (fun q55 => ?_) (fun q55 => ?_)
          · refine gw_inc4 at71_112 (h := (gw_goto at71_115 ?_))
            have ht : t = 24 := by omega
            subst ht
            refine ih (i + 1) (by omega) (by omega) (zor X.1 (zshl 1 (nun X.2 (s * 34) X.1)), itI (rlx (s * 34) (nun X.2 (s * 34) X.1)) X.2 24) (gi (nun X.2 (s * 34) X.1)) (gi 24) w rfl rfl ?_
            rw [itI_s _ _ hi0, ← hX]
            unfold rnd
            rw [if_neg (by omega)]
          · refine gw_al0 at71_58 (gw_gr at71_59 (by first | exact RT_0 hR | exact RT_r2 hR | exact RT_t2 hR | exact RT_l2 hR | exact RT_r3 hR | exact RT_t3 hR | exact RT_l3 hR) (by first | exact RT_0 hR | exact RT_r2 hR | exact RT_t2 hR | exact RT_l2 hR | exact RT_r3 hR | exact RT_t3 hR | exact RT_l3 hR) (gw_il2 at71_62 (gw_il5 at71_63 (gw_iadd at71_65 (gw_ia at71_66 (by first | exact Or.inl (by first | exact RT_0 hR | exact RT_r2 hR | exact RT_t2 hR | exact RT_l2 hR | exact RT_r3 hR | exact RT_t3 hR | exact RT_l3 hR) | exact Or.inr (by first | exact RT_0 hR | exact RT_r2 hR | exact RT_t2 hR | exact RT_l2 hR | exact RT_r3 hR | exact RT_t3 hR | exact RT_l3 hR)) (by first | exact RT_0 hR | exact RT_r2 hR | exact RT_t2 hR | exact RT_l2 hR | exact RT_r3 hR | exact RT_t3 hR | exact RT_l3 hR) (by first | omega | exact o2.1 _ _) (by first | omega | exact o2.1 _ _) (by omega) (gw_al0 at71_67 (gw_gr at71_68 (by first | exact RT_0 hR | exact RT_r2 hR | exact RT_t2 hR | exact RT_l2 hR | exact RT_r3 hR | exact RT_t3 hR | exact RT_l3 hR) (by first | exact RT_0 hR | exact RT_r2 hR | exact RT_t2 hR | exact RT_l2 hR | exact RT_r3 hR | exact RT_t3 hR | exact RT_l3 hR) (gw_il5 at71_71 (gw_bip at71_73 (by decide) (gw_imul at71_75 (gw_il6 at71_76 (gw_iadd at71_78 (gw_ia at71_79 (by first | exact Or.inl (by first | exact RT_0 hR | exact RT_r2 hR | exact RT_t2 hR | exact RT_l2 hR | exact RT_r3 hR | exact RT_t3 hR | exact RT_l3 hR) | exact Or.inr (by first | exact RT_0 hR | exact RT_r2 hR | exact RT_t2 hR | exact RT_l2 hR | exact RT_r3 hR | exact RT_t3 hR | exact RT_l3 hR)) (by first | exact RT_0 hR | exact RT_r2 hR | exact RT_t2 hR | exact RT_l2 hR | exact RT_r3 hR | exact RT_t3 hR | exact RT_l3 hR) (by first | omega | exact o2.1 _ _) (by first | omega | exact o2.1 _ _) (by omega) (gw_iadd at71_80 (gw_is7 at71_81 (h := (gw_al0 at71_83 (gw_gr at71_84 (by first | exact RT_0 hR | exact RT_r2 hR | exact RT_t2 hR | exact RT_l2 hR | exact RT_r3 hR | exact RT_t3 hR | exact RT_l3 hR) (by first | exact RT_0 hR | exact RT_r2 hR | exact RT_t2 hR | exact RT_l2 hR | exact RT_r3 hR | exact RT_t3 hR | exact RT_l3 hR) (gw_il2 at71_87 (gw_il6 at71_88 (gw_iadd at71_90 (gw_al0 at71_91 (gw_gr at71_92 (by first | exact RT_0 hR | exact RT_r2 hR | exact RT_t2 hR | exact RT_l2 hR | exact RT_r3 hR | exact RT_t3 hR | exact RT_l3 hR) (by first | exact RT_0 hR | exact RT_r2 hR | exact RT_t2 hR | exact RT_l2 hR | exact RT_r3 hR | exact RT_t3 hR | exact RT_l3 hR) (gw_il2 at71_95 (gw_il6 at71_96 (gw_iadd at71_98 (gw_ia at71_99 (by first | exact Or.inl (by first | exact RT_0 hR | exact RT_r2 hR | exact RT_t2 hR | exact RT_l2 hR | exact RT_r3 hR | exact RT_t3 hR | exact RT_l3 hR) | exact Or.inr (by first | exact RT_0 hR | exact RT_r2 hR | exact RT_t2 hR | exact RT_l2 hR | exact RT_r3 hR | exact RT_t3 hR | exact RT_l3 hR)) (by first | exact RT_0 hR | exact RT_r2 hR | exact RT_t2 hR | exact RT_l2 hR | exact RT_r3 hR | exact RT_t3 hR | exact RT_l3 hR) (by first | omega | exact o2.1 _ _) (by first | omega | exact o2.1 _ _) (by omega) (gw_il7 at71_100 (gw_min at71_102 (by first | omega | exact o2.1 _ _) (by first | omega | exact o2.1 _ _) (Nat.le_of_ble_eq_true rfl) (gw_iw at71_105 (by first | exact RT_0 hR | exact RT_r2 hR | exact RT_t2 hR | exact RT_l2 hR | exact RT_r3 hR | exact RT_t3 hR | exact RT_l3 hR) (by first | exact RT_0 hR | exact RT_r2 hR | exact RT_t2 hR | exact RT_l2 hR | exact RT_r3 hR | exact RT_t3 hR | exact RT_l3 hR) (by first | omega | exact o2.1 _ _) (by first | omega | exact o2.1 _ _) (by omega) (gw_inc6 at71_106 (h := (gw_goto at71_109 ?_)))))))))))))))))))))))))))))))))
            have e := ih2 (t + 1) (by omega) (by omega) (gi ((itI (rlx (s * 34) (nun X.2 (s * 34) X.1)) X.2 t) 100028 (s * 34 + nun X.2 (s * 34) X.1) + (itI (rlx (s * 34) (nun X.2 (s * 34) X.1)) X.2 t) 100027 (nun X.2 (s * 34) X.1 * 24 + t)))
            rw [itI_s _ _ ht0] at e
            exact e
        exact lp51 0 (by omega) (by omega) _
      · refine gw_rv at71_40 am_r71.2.1 ?_
        refine ⟨rfl, ?_⟩
        unfold djk
        rw [itI_fix hi0 (by rw [← hX]; unfold rnd; rw [if_pos (by omega)]) 24 hi1, ← hX]
  exact lp19 0 (by omega) (by omega) (0, gu c 100028 (s * 34 + s) 0) _ _ _ rfl rfl rfl
set_option maxHeartbeats 1000000 in
theorem c_fnd {g : Nat} {T : gT} {c J : gC} (hR : RT T) (hc : RG c) (hS : SR c) (hT : NT T 100014) (hN : NR c 100014) {s : Int} (hs : 0 ≤ s ∧ s < 24) : gE g 73 2 [.ref 100026, gi s] (gm T c J) (fun o M1 => o = .inl none ∧ M1 = gm T (fnd c s) J) := by
  refine gE_mk am_r73 rfl (Or.inr ⟨_, rfl, (by first | exact RT_0 hR | exact RT_r0 hR | exact RT_r3 hR | exact RT_t3 hR | exact RT_l3 hR)⟩) (fun d hd => ?_)
  show gw d g 73 0 [.ref 100026, gi s, am_U, am_U, am_U, am_U] [] _ _
  refine gw_il1 at73_0 (gw_bip at73_1 (by decide) (gw_imul at73_3 (gw_is2 at73_4 (h := (gw_const at73_5 (gw_is3 at73_6 (h := ?_)))))))
  have lp7 : ∀ i : Int, 0 ≤ i → i ≤ 24 → ∀ (u v : Value), am_nl u = true → gw d g 73 7 [.ref 100026, gi s, gi (s * 34), gi i, u, v] [] (gm T (itI (fnf c (s * 34)) c i) J) (fun o M1 => o = .inl none ∧ M1 = gm T (fnd c s) J) := by
    refine ind_up 24 ?_
    intro i hi0 hi1 ih u v hu
    have hen := en_rg hN i
    have o1 : TOK c (itI (fnf c (s * 34)) c i) := itI_inv2 (TOK c) (N := 24) ⟨hc, hS, KF_rf⟩ (fun j x h0 h1 hx => fnf_ok hN hx (by omega) ⟨h0, h1⟩) hi1
    refine gw_il3 at73_7 ?_
    refine gw_bip at73_8 (by decide) ?_
    refine gw_cge at73_10 (by first | omega | exact o1.1 _ _) (by first | omega | exact o1.1 _ _) (fun q10 => ?_) (fun q10 => ?_)
    · refine gw_rv at73_86 am_r73.2.1 ?_
      refine ⟨rfl, ?_⟩
      unfold fnd
      rw [show i = 24 by omega]
    · refine gw_al0 at73_13 (gw_gr at73_14 (by first | exact RT_0 hR | exact RT_r0 hR | exact RT_r3 hR | exact RT_t3 hR | exact RT_l3 hR) (by first | exact RT_0 hR | exact RT_r0 hR | exact RT_r3 hR | exact RT_t3 hR | exact RT_l3 hR) (gw_il3 at73_17 (gw_callP2 at73_18 (c_endOf hT o1.1 (by omega)) (by omega) (Nat.le_of_ble_eq_true rfl) ?_)))
      rw [NF_en (KF_NF o1.2.2)]
      refine gw_is4 at73_21 (h := (gw_al0 at73_23 (gw_gr at73_24 (by first | exact RT_0 hR | exact RT_r0 hR | exact RT_r3 hR | exact RT_t3 hR | exact RT_l3 hR) (by first | exact RT_0 hR | exact RT_r0 hR | exact RT_r3 hR | exact RT_t3 hR | exact RT_l3 hR) (gw_il3 at73_27 (gw_callP2 at73_28 (c_hasArc hT o1.1 (TOK_NR o1 hN) (by omega)) (by omega) (Nat.le_of_ble_eq_true rfl) ?_)))))
      rw [NF_hA (KF_NF o1.2.2)]
      refine gw_beq at73_31 (fun q31 => ?_) (fun q31 => ?_)
      · refine gw_inc3 at73_80 (h := (gw_goto at73_83 ?_))
        have e := fun u v hu => ih (i + 1) (by omega) (by omega) u v hu
        rw [itI_s _ _ hi0] at e
        first | (rw [fnf_t (by assumption) (by omega)] at e; exact e _ _ rfl) | (rw [fnf_e (by omega)] at e; exact e _ _ rfl) | (rw [fnf_a (by simp [*])] at e; exact e _ _ rfl)
      · refine gw_il4 at73_34 ?_
        refine gw_zlt at73_36 (by first | omega | exact o1.1 _ _) (fun q36 => ?_) (fun q36 => ?_)
        · refine gw_inc3 at73_80 (h := (gw_goto at73_83 ?_))
          have e := fun u v hu => ih (i + 1) (by omega) (by omega) u v hu
          rw [itI_s _ _ hi0] at e
          first | (rw [fnf_t (by assumption) (by omega)] at e; exact e _ _ rfl) | (rw [fnf_e (by omega)] at e; exact e _ _ rfl) | (rw [fnf_a (by simp [*])] at e; exact e _ _ rfl)
        · refine gw_il4 at73_39 (gw_bip at73_41 (by decide) ?_)
          refine gw_cge at73_43 (by first | omega | exact o1.1 _ _) (by first | omega | exact o1.1 _ _) (fun q43 => ?_) (fun q43 => ?_)
          · refine gw_inc3 at73_80 (h := (gw_goto at73_83 ?_))
            have e := fun u v hu => ih (i + 1) (by omega) (by omega) u v hu
            rw [itI_s _ _ hi0] at e
            first | (rw [fnf_t (by assumption) (by omega)] at e; exact e _ _ rfl) | (rw [fnf_e (by omega)] at e; exact e _ _ rfl) | (rw [fnf_a (by simp [*])] at e; exact e _ _ rfl)
          · refine gw_il2 at73_46 (gw_il4 at73_47 (gw_callP1 at73_49 (c_placeOf) (by omega) (Nat.le_of_ble_eq_true rfl) (gw_iadd at73_52 (gw_is5 at73_53 (h := (gw_al0 at73_55 (gw_gr at73_56 (by first | exact RT_0 hR | exact RT_r0 hR | exact RT_r3 hR | exact RT_t3 hR | exact RT_l3 hR) (by first | exact RT_0 hR | exact RT_r0 hR | exact RT_r3 hR | exact RT_t3 hR | exact RT_l3 hR) (gw_il5 at73_59 (gw_al0 at73_61 (gw_gr at73_62 (by first | exact RT_0 hR | exact RT_r0 hR | exact RT_r3 hR | exact RT_t3 hR | exact RT_l3 hR) (by first | exact RT_0 hR | exact RT_r0 hR | exact RT_r3 hR | exact RT_t3 hR | exact RT_l3 hR) (gw_il5 at73_65 (gw_ia at73_67 (by first | exact Or.inl (by first | exact RT_0 hR | exact RT_r0 hR | exact RT_r3 hR | exact RT_t3 hR | exact RT_l3 hR) | exact Or.inr (by first | exact RT_0 hR | exact RT_r0 hR | exact RT_r3 hR | exact RT_t3 hR | exact RT_l3 hR)) (by first | exact RT_0 hR | exact RT_r0 hR | exact RT_r3 hR | exact RT_t3 hR | exact RT_l3 hR) (by first | omega | exact o1.1 _ _) (by first | omega | exact o1.1 _ _) (by omega) (gw_al0 at73_68 (gw_gr at73_69 (by first | exact RT_0 hR | exact RT_r0 hR | exact RT_r3 hR | exact RT_t3 hR | exact RT_l3 hR) (by first | exact RT_0 hR | exact RT_r0 hR | exact RT_r3 hR | exact RT_t3 hR | exact RT_l3 hR) (gw_il2 at73_72 (gw_il3 at73_73 (gw_iadd at73_74 (gw_ia at73_75 (by first | exact Or.inl (by first | exact RT_0 hR | exact RT_r0 hR | exact RT_r3 hR | exact RT_t3 hR | exact RT_l3 hR) | exact Or.inr (by first | exact RT_0 hR | exact RT_r0 hR | exact RT_r3 hR | exact RT_t3 hR | exact RT_l3 hR)) (by first | exact RT_0 hR | exact RT_r0 hR | exact RT_r3 hR | exact RT_t3 hR | exact RT_l3 hR) (by first | omega | exact o1.1 _ _) (by first | omega | exact o1.1 _ _) (by omega) (gw_min at73_76 (by first | omega | exact o1.1 _ _) (by first | omega | exact o1.1 _ _) (Nat.le_of_ble_eq_true rfl) (gw_iw at73_79 (by first | exact RT_0 hR | exact RT_r0 hR | exact RT_r3 hR | exact RT_t3 hR | exact RT_l3 hR) (by first | exact RT_0 hR | exact RT_r0 hR | exact RT_r3 hR | exact RT_t3 hR | exact RT_l3 hR) (by first | omega | exact o1.1 _ _) (by first | omega | exact o1.1 _ _) (by omega) (gw_inc3 at73_80 (h := (gw_goto at73_83 ?_)))))))))))))))))))))))
            have e := fun u v hu => ih (i + 1) (by omega) (by omega) u v hu
            rw [itI_s _ _ hi0] at e
            first | (rw [fnf_t (by assumption) (by omega)] at e; exact e _ _ rfl) | (rw [fnf_e (by omega)] at e; exact e _ _ rfl) | (rw [fnf_a (by simp [*])] at e; exact e _ _ rfl)
  exact lp7 0 (by omega) (by omega) _ _ rfl
set_option maxHeartbeats 1000000 in
theorem c_fsd {g : Nat} {T : gT} {c J : gC} (hR : RT T) (hc : RG c) (hS : SR c) (hT : NT T 100014) (hN : NR c 100014) {t : Int} (ht : 0 ≤ t ∧ t < 24) : gE g 70 2 [.ref 100026, gi t] (gm T c J) (fun o M1 => o = .inl none ∧ M1 = gm T (fsd c t) J) := by
  have hbg := bg_rg hN t
  refine gE_mk am_r70 rfl (Or.inr ⟨_, rfl, (by first | exact RT_0 hR | exact RT_r0 hR | exact RT_r2 hR | exact RT_t2 hR | exact RT_l2 hR | exact NT_0 hT | exact NT_r16 hT | exact NT_t16 hT | exact NT_l16 hT)⟩) (fun d hd => ?_)
  show gw d g 70 0 [.ref 100026, gi t, am_U, am_U, am_U] [] _ _
  refine gw_al0 at70_0 (gw_gr at70_1 (by first | exact RT_0 hR | exact RT_r0 hR | exact RT_r2 hR | exact RT_t2 hR | exact RT_l2 hR | exact NT_0 hT | exact NT_r16 hT | exact NT_t16 hT | exact NT_l16 hT) (by first | exact RT_0 hR | exact RT_r0 hR | exact RT_r2 hR | exact RT_t2 hR | exact RT_l2 hR | exact NT_0 hT | exact NT_r16 hT | exact NT_t16 hT | exact NT_l16 hT) (gw_il1 at70_4 (gw_callP2 at70_5 (c_beginOf hT hc (by omega)) (by omega) (Nat.le_of_ble_eq_true rfl) (gw_is2 at70_8 (h := (gw_al0 at70_9 (gw_gr at70_10 (by first | exact RT_0 hR | exact RT_r0 hR | exact RT_r2 hR | exact RT_t2 hR | exact RT_l2 hR | exact NT_0 hT | exact NT_r16 hT | exact NT_t16 hT | exact NT_l16 hT) (by first | exact RT_0 hR | exact RT_r0 hR | exact RT_r2 hR | exact RT_t2 hR | exact RT_l2 hR | exact NT_0 hT | exact NT_r16 hT | exact NT_t16 hT | exact NT_l16 hT) (gw_il1 at70_13 (gw_callP2 at70_14 (c_lengthOf hT hc (by omega)) (by omega) (Nat.le_of_ble_eq_true rfl) (gw_is3 at70_17 (h := (gw_il2 at70_18 ?_))))))))))))
  refine gw_zlt at70_19 (by first | omega | (have := tkd_rg c 100014 i t; omega)) (fun q19 => ?_) (fun q19 => ?_)
  · refine gw_const at70_43 (gw_is4 at70_44 (h := ?_))
    have lp46 : ∀ i : Int, 0 ≤ i → i ≤ 24 → gw d g 70 46 [.ref 100026, gi t, gi (bg c 100014 t), gi (ln c 100014 t), gi i] [] (gm T (itI (fsf c t) (fs0 c t) i) J) (fun o M1 => o = .inl none ∧ M1 = gm T (fsd c t) J) := by
      refine ind_up 24 ?_
      intro i hi0 hi1 ih
      have hen := en_rg hN i
      have o1 : TOK c (itI (fsf c t) (fs0 c t) i) := fsi_ok hN ⟨hc, hS, KF_rf⟩ i
      refine gw_il4 at70_46 ?_
      refine gw_bip at70_48 (by decide) ?_
      refine gw_cge at70_50 (by first | omega | (have := tkd_rg c 100014 i t; omega)) (by first | omega | (have := tkd_rg c 100014 i t; omega)) (fun q50 => ?_) (fun q50 => ?_)
      · refine gw_rv at70_116 am_r70.2.1 ?_
        refine ⟨rfl, ?_⟩
        unfold fsd
        rw [show i = 24 by omega]
      · refine gw_al0 at70_53 (gw_gr at70_54 (by first | exact RT_0 hR | exact RT_r0 hR | exact RT_r2 hR | exact RT_t2 hR | exact RT_l2 hR | exact NT_0 hT | exact NT_r16 hT | exact NT_t16 hT | exact NT_l16 hT) (by first | exact RT_0 hR | exact RT_r0 hR | exact RT_r2 hR | exact RT_t2 hR | exact RT_l2 hR | exact NT_0 hT | exact NT_r16 hT | exact NT_t16 hT | exact NT_l16 hT) (gw_il4 at70_57 (gw_callP2 at70_59 (c_hasArc hT o1.1 (TOK_NR o1 hN) (by omega)) (by omega) (Nat.le_of_ble_eq_true rfl) ?_)))
        rw [NF_hA (KF_NF o1.2.2)]
        refine gw_beq at70_62 (fun q62 => ?_) (fun q62 => ?_)
        · refine gw_inc4 at70_110 (h := (gw_goto at70_113 ?_))
          have e := ih (i + 1) (by omega) (by omega)
          rw [itI_s _ _ hi0] at e
          first | (rw [fsf_t (by assumption) (by omega)] at e; exact e) | (rw [fsf_e (by omega)] at e; exact e) | (rw [fsf_a (by simp [*])] at e; exact e)
        · refine gw_al0 at70_65 (gw_gr at70_66 (by first | exact RT_0 hR | exact RT_r0 hR | exact RT_r2 hR | exact RT_t2 hR | exact RT_l2 hR | exact NT_0 hT | exact NT_r16 hT | exact NT_t16 hT | exact NT_l16 hT) (by first | exact RT_0 hR | exact RT_r0 hR | exact RT_r2 hR | exact RT_t2 hR | exact RT_l2 hR | exact NT_0 hT | exact NT_r16 hT | exact NT_t16 hT | exact NT_l16 hT) (gw_il4 at70_69 (gw_callP2 at70_71 (c_endOf hT o1.1 (by omega)) (by omega) (Nat.le_of_ble_eq_true rfl) ?_)))
          rw [NF_en (KF_NF o1.2.2)]
          refine gw_il2 at70_74 ?_
          refine gw_cne at70_75 (by first | omega | (have := tkd_rg c 100014 i t; omega)) (by first | omega | (have := tkd_rg c 100014 i t; omega)) (fun q75 => ?_) (fun q75 => ?_)
          · refine gw_inc4 at70_110 (h := (gw_goto at70_113 ?_))
            have e := ih (i + 1) (by omega) (by omega)
            rw [itI_s _ _ hi0] at e
            first | (rw [fsf_t (by assumption) (by omega)] at e; exact e) | (rw [fsf_e (by omega)] at e; exact e) | (rw [fsf_a (by simp [*])] at e; exact e)
          · refine gw_al0 at70_78 (gw_gr at70_79 (by first | exact RT_0 hR | exact RT_r0 hR | exact RT_r2 hR | exact RT_t2 hR | exact RT_l2 hR | exact NT_0 hT | exact NT_r16 hT | exact NT_t16 hT | exact NT_l16 hT) (by first | exact RT_0 hR | exact RT_r0 hR | exact RT_r2 hR | exact RT_t2 hR | exact RT_l2 hR | exact NT_0 hT | exact NT_r16 hT | exact NT_t16 hT | exact NT_l16 hT) (gw_il4 at70_82 (gw_bip at70_84 (by decide) (gw_imul at70_86 (gw_il1 at70_87 (gw_iadd at70_88 (gw_al0 at70_89 (gw_gr at70_90 (by first | exact RT_0 hR | exact RT_r0 hR | exact RT_r2 hR | exact RT_t2 hR | exact RT_l2 hR | exact NT_0 hT | exact NT_r16 hT | exact NT_t16 hT | exact NT_l16 hT) (by first | exact RT_0 hR | exact RT_r0 hR | exact RT_r2 hR | exact RT_t2 hR | exact RT_l2 hR | exact NT_0 hT | exact NT_r16 hT | exact NT_t16 hT | exact NT_l16 hT) (gw_gr at70_93 (by first | exact RT_0 hR | exact RT_r0 hR | exact RT_r2 hR | exact RT_t2 hR | exact RT_l2 hR | exact NT_0 hT | exact NT_r16 hT | exact NT_t16 hT | exact NT_l16 hT) (by first | exact RT_0 hR | exact RT_r0 hR | exact RT_r2 hR | exact RT_t2 hR | exact RT_l2 hR | exact NT_0 hT | exact NT_r16 hT | exact NT_t16 hT | exact NT_l16 hT) (gw_al0 at70_96 (gw_gr at70_97 (by first | exact RT_0 hR | exact RT_r0 hR | exact RT_r2 hR | exact RT_t2 hR | exact RT_l2 hR | exact NT_0 hT | exact NT_r16 hT | exact NT_t16 hT | exact NT_l16 hT) (by first | exact RT_0 hR | exact RT_r0 hR | exact RT_r2 hR | exact RT_t2 hR | exact RT_l2 hR | exact NT_0 hT | exact NT_r16 hT | exact NT_t16 hT | exact NT_l16 hT) (gw_il4 at70_100 (gw_il1 at70_102 (gw_callP3 at70_103 (c_turnKind hT o1.1 (TOK_NR o1 hN) (by omega) (by omega)) (by omega) (Nat.le_of_ble_eq_true rfl) ?_))))))))))))))
            rw [NF_tkd (KF_NF o1.2.2)]
            refine gw_ia at70_106 (by first | exact Or.inl (by first | exact RT_0 hR | exact RT_r0 hR | exact RT_r2 hR | exact RT_t2 hR | exact RT_l2 hR | exact NT_0 hT | exact NT_r16 hT | exact NT_t16 hT | exact NT_l16 hT) | exact Or.inr (by first | exact RT_0 hR | exact RT_r0 hR | exact RT_r2 hR | exact RT_t2 hR | exact RT_l2 hR | exact NT_0 hT | exact NT_r16 hT | exact NT_t16 hT | exact NT_l16 hT)) (by first | exact RT_0 hR | exact RT_r0 hR | exact RT_r2 hR | exact RT_t2 hR | exact RT_l2 hR | exact NT_0 hT | exact NT_r16 hT | exact NT_t16 hT | exact NT_l16 hT) (by first | omega | (have := tkd_rg c 100014 i t; omega)) (by first | omega | (have := tkd_rg c 100014 i t; omega)) (by omega) ?_
            rw [o1.2.2 100024 (by omega) (by omega)]
            refine gw_il3 at70_107 (gw_iadd at70_108 (gw_iw at70_109 (by first | exact RT_0 hR | exact RT_r0 hR | exact RT_r2 hR | exact RT_t2 hR | exact RT_l2 hR | exact NT_0 hT | exact NT_r16 hT | exact NT_t16 hT | exact NT_l16 hT) (by first | exact RT_0 hR | exact RT_r0 hR | exact RT_r2 hR | exact RT_t2 hR | exact RT_l2 hR | exact NT_0 hT | exact NT_r16 hT | exact NT_t16 hT | exact NT_l16 hT) (by first | omega | (have := tkd_rg c 100014 i t; omega)) (by first | omega | (have := tkd_rg c 100014 i t; omega)) (by omega) (gw_inc4 at70_110 (h := (gw_goto at70_113 ?_)))))
            have e := ih (i + 1) (by omega) (by omega)
            rw [itI_s _ _ hi0] at e
            first | (rw [fsf_t (by assumption) (by omega)] at e; exact e) | (rw [fsf_e (by omega)] at e; exact e) | (rw [fsf_a (by simp [*])] at e; exact e)
    have e := lp46 0 (by omega) (by omega)
    rw [itI_0] at e
    unfold fs0 at e
    first | (rw [if_pos (by omega)] at e; exact e) | (rw [if_neg (by omega)] at e; exact e)
  · refine gw_il2 at70_22 (gw_bip at70_23 (by decide) ?_)
    refine gw_cge at70_25 (by first | omega | (have := tkd_rg c 100014 i t; omega)) (by first | omega | (have := tkd_rg c 100014 i t; omega)) (fun q25 => ?_) (fun q25 => ?_)
    · refine gw_const at70_43 (gw_is4 at70_44 (h := ?_))
      have lp46 : ∀ i : Int, 0 ≤ i → i ≤ 24 → gw d g 70 46 [.ref 100026, gi t, gi (bg c 100014 t), gi (ln c 100014 t), gi i] [] (gm T (itI (fsf c t) (fs0 c t) i) J) (fun o M1 => o = .inl none ∧ M1 = gm T (fsd c t) J) := by
        refine ind_up 24 ?_
        intro i hi0 hi1 ih
        have hen := en_rg hN i
        have o1 : TOK c (itI (fsf c t) (fs0 c t) i) := fsi_ok hN ⟨hc, hS, KF_rf⟩ i
        refine gw_il4 at70_46 ?_
        refine gw_bip at70_48 (by decide) ?_
        refine gw_cge at70_50 (by first | omega | (have := tkd_rg c 100014 i t; omega)) (by first | omega | (have := tkd_rg c 100014 i t; omega)) (fun q50 => ?_) (fun q50 => ?_)
        · refine gw_rv at70_116 am_r70.2.1 ?_
          refine ⟨rfl, ?_⟩
          unfold fsd
          rw [show i = 24 by omega]
        · refine gw_al0 at70_53 (gw_gr at70_54 (by first | exact RT_0 hR | exact RT_r0 hR | exact RT_r2 hR | exact RT_t2 hR | exact RT_l2 hR | exact NT_0 hT | exact NT_r16 hT | exact NT_t16 hT | exact NT_l16 hT) (by first | exact RT_0 hR | exact RT_r0 hR | exact RT_r2 hR | exact RT_t2 hR | exact RT_l2 hR | exact NT_0 hT | exact NT_r16 hT | exact NT_t16 hT | exact NT_l16 hT) (gw_il4 at70_57 (gw_callP2 at70_59 (c_hasArc hT o1.1 (TOK_NR o1 hN) (by omega)) (by omega) (Nat.le_of_ble_eq_true rfl) ?_)))
          rw [NF_hA (KF_NF o1.2.2)]
          refine gw_beq at70_62 (fun q62 => ?_) (fun q62 => ?_)
          · refine gw_inc4 at70_110 (h := (gw_goto at70_113 ?_))
            have e := ih (i + 1) (by omega) (by omega)
            rw [itI_s _ _ hi0] at e
            first | (rw [fsf_t (by assumption) (by omega)] at e; exact e) | (rw [fsf_e (by omega)] at e; exact e) | (rw [fsf_a (by simp [*])] at e; exact e)
          · refine gw_al0 at70_65 (gw_gr at70_66 (by first | exact RT_0 hR | exact RT_r0 hR | exact RT_r2 hR | exact RT_t2 hR | exact RT_l2 hR | exact NT_0 hT | exact NT_r16 hT | exact NT_t16 hT | exact NT_l16 hT) (by first | exact RT_0 hR | exact RT_r0 hR | exact RT_r2 hR | exact RT_t2 hR | exact RT_l2 hR | exact NT_0 hT | exact NT_r16 hT | exact NT_t16 hT | exact NT_l16 hT) (gw_il4 at70_69 (gw_callP2 at70_71 (c_endOf hT o1.1 (by omega)) (by omega) (Nat.le_of_ble_eq_true rfl) ?_)))
            rw [NF_en (KF_NF o1.2.2)]
            refine gw_il2 at70_74 ?_
            refine gw_cne at70_75 (by first | omega | (have := tkd_rg c 100014 i t; omega)) (by first | omega | (have := tkd_rg c 100014 i t; omega)) (fun q75 => ?_) (fun q75 => ?_)
            · refine gw_inc4 at70_110 (h := (gw_goto at70_113 ?_))
              have e := ih (i + 1) (by omega) (by omega)
              rw [itI_s _ _ hi0] at e
              first | (rw [fsf_t (by assumption) (by omega)] at e; exact e) | (rw [fsf_e (by omega)] at e; exact e) | (rw [fsf_a (by simp [*])] at e; exact e)
            · refine gw_al0 at70_78 (gw_gr at70_79 (by first | exact RT_0 hR | exact RT_r0 hR | exact RT_r2 hR | exact RT_t2 hR | exact RT_l2 hR | exact NT_0 hT | exact NT_r16 hT | exact NT_t16 hT | exact NT_l16 hT) (by first | exact RT_0 hR | exact RT_r0 hR | exact RT_r2 hR | exact RT_t2 hR | exact RT_l2 hR | exact NT_0 hT | exact NT_r16 hT | exact NT_t16 hT | exact NT_l16 hT) (gw_il4 at70_82 (gw_bip at70_84 (by decide) (gw_imul at70_86 (gw_il1 at70_87 (gw_iadd at70_88 (gw_al0 at70_89 (gw_gr at70_90 (by first | exact RT_0 hR | exact RT_r0 hR | exact RT_r2 hR | exact RT_t2 hR | exact RT_l2 hR | exact NT_0 hT | exact NT_r16 hT | exact NT_t16 hT | exact NT_l16 hT) (by first | exact RT_0 hR | exact RT_r0 hR | exact RT_r2 hR | exact RT_t2 hR | exact RT_l2 hR | exact NT_0 hT | exact NT_r16 hT | exact NT_t16 hT | exact NT_l16 hT) (gw_gr at70_93 (by first | exact RT_0 hR | exact RT_r0 hR | exact RT_r2 hR | exact RT_t2 hR | exact RT_l2 hR | exact NT_0 hT | exact NT_r16 hT | exact NT_t16 hT | exact NT_l16 hT) (by first | exact RT_0 hR | exact RT_r0 hR | exact RT_r2 hR | exact RT_t2 hR | exact RT_l2 hR | exact NT_0 hT | exact NT_r16 hT | exact NT_t16 hT | exact NT_l16 hT) (gw_al0 at70_96 (gw_gr at70_97 (by first | exact RT_0 hR | exact RT_r0 hR | exact RT_r2 hR | exact RT_t2 hR | exact RT_l2 hR | exact NT_0 hT | exact NT_r16 hT | exact NT_t16 hT | exact NT_l16 hT) (by first | exact RT_0 hR | exact RT_r0 hR | exact RT_r2 hR | exact RT_t2 hR | exact RT_l2 hR | exact NT_0 hT | exact NT_r16 hT | exact NT_t16 hT | exact NT_l16 hT) (gw_il4 at70_100 (gw_il1 at70_102 (gw_callP3 at70_103 (c_turnKind hT o1.1 (TOK_NR o1 hN) (by omega) (by omega)) (by omega) (Nat.le_of_ble_eq_true rfl) ?_))))))))))))))
              rw [NF_tkd (KF_NF o1.2.2)]
              refine gw_ia at70_106 (by first | exact Or.inl (by first | exact RT_0 hR | exact RT_r0 hR | exact RT_r2 hR | exact RT_t2 hR | exact RT_l2 hR | exact NT_0 hT | exact NT_r16 hT | exact NT_t16 hT | exact NT_l16 hT) | exact Or.inr (by first | exact RT_0 hR | exact RT_r0 hR | exact RT_r2 hR | exact RT_t2 hR | exact RT_l2 hR | exact NT_0 hT | exact NT_r16 hT | exact NT_t16 hT | exact NT_l16 hT)) (by first | exact RT_0 hR | exact RT_r0 hR | exact RT_r2 hR | exact RT_t2 hR | exact RT_l2 hR | exact NT_0 hT | exact NT_r16 hT | exact NT_t16 hT | exact NT_l16 hT) (by first | omega | (have := tkd_rg c 100014 i t; omega)) (by first | omega | (have := tkd_rg c 100014 i t; omega)) (by omega) ?_
              rw [o1.2.2 100024 (by omega) (by omega)]
              refine gw_il3 at70_107 (gw_iadd at70_108 (gw_iw at70_109 (by first | exact RT_0 hR | exact RT_r0 hR | exact RT_r2 hR | exact RT_t2 hR | exact RT_l2 hR | exact NT_0 hT | exact NT_r16 hT | exact NT_t16 hT | exact NT_l16 hT) (by first | exact RT_0 hR | exact RT_r0 hR | exact RT_r2 hR | exact RT_t2 hR | exact RT_l2 hR | exact NT_0 hT | exact NT_r16 hT | exact NT_t16 hT | exact NT_l16 hT) (by first | omega | (have := tkd_rg c 100014 i t; omega)) (by first | omega | (have := tkd_rg c 100014 i t; omega)) (by omega) (gw_inc4 at70_110 (h := (gw_goto at70_113 ?_)))))
              have e := ih (i + 1) (by omega) (by omega)
              rw [itI_s _ _ hi0] at e
              first | (rw [fsf_t (by assumption) (by omega)] at e; exact e) | (rw [fsf_e (by omega)] at e; exact e) | (rw [fsf_a (by simp [*])] at e; exact e)
      have e := lp46 0 (by omega) (by omega)
      rw [itI_0] at e
      unfold fs0 at e
      first | (rw [if_pos (by omega)] at e; exact e) | (rw [if_neg (by omega)] at e; exact e)
    · refine gw_al0 at70_28 (gw_gr at70_29 (by first | exact RT_0 hR | exact RT_r0 hR | exact RT_r2 hR | exact RT_t2 hR | exact RT_l2 hR | exact NT_0 hT | exact NT_r16 hT | exact NT_t16 hT | exact NT_l16 hT) (by first | exact RT_0 hR | exact RT_r0 hR | exact RT_r2 hR | exact RT_t2 hR | exact RT_l2 hR | exact NT_0 hT | exact NT_r16 hT | exact NT_t16 hT | exact NT_l16 hT) (gw_il2 at70_32 (gw_callP1 at70_33 (c_placeOf) (by omega) (Nat.le_of_ble_eq_true rfl) (gw_bip at70_36 (by decide) (gw_imul at70_38 (gw_il1 at70_39 (gw_iadd at70_40 (gw_il3 at70_41 (gw_iw at70_42 (by first | exact RT_0 hR | exact RT_r0 hR | exact RT_r2 hR | exact RT_t2 hR | exact RT_l2 hR | exact NT_0 hT | exact NT_r16 hT | exact NT_t16 hT | exact NT_l16 hT) (by first | exact RT_0 hR | exact RT_r0 hR | exact RT_r2 hR | exact RT_t2 hR | exact RT_l2 hR | exact NT_0 hT | exact NT_r16 hT | exact NT_t16 hT | exact NT_l16 hT) (by first | omega | (have := tkd_rg c 100014 i t; omega)) (by first | omega | (have := tkd_rg c 100014 i t; omega)) (by omega) (gw_const at70_43 (gw_is4 at70_44 (h := ?_))))))))))))
      have lp46 : ∀ i : Int, 0 ≤ i → i ≤ 24 → gw d g 70 46 [.ref 100026, gi t, gi (bg c 100014 t), gi (ln c 100014 t), gi i] [] (gm T (itI (fsf c t) (fs0 c t) i) J) (fun o M1 => o = .inl none ∧ M1 = gm T (fsd c t) J) := by
        refine ind_up 24 ?_
        intro i hi0 hi1 ih
        have hen := en_rg hN i
        have o1 : TOK c (itI (fsf c t) (fs0 c t) i) := fsi_ok hN ⟨hc, hS, KF_rf⟩ i
        refine gw_il4 at70_46 ?_
        refine gw_bip at70_48 (by decide) ?_
        refine gw_cge at70_50 (by first | omega | (have := tkd_rg c 100014 i t; omega)) (by first | omega | (have := tkd_rg c 100014 i t; omega)) (fun q50 => ?_) (fun q50 => ?_)
        · refine gw_rv at70_116 am_r70.2.1 ?_
          refine ⟨rfl, ?_⟩
          unfold fsd
          rw [show i = 24 by omega]
        · refine gw_al0 at70_53 (gw_gr at70_54 (by first | exact RT_0 hR | exact RT_r0 hR | exact RT_r2 hR | exact RT_t2 hR | exact RT_l2 hR | exact NT_0 hT | exact NT_r16 hT | exact NT_t16 hT | exact NT_l16 hT) (by first | exact RT_0 hR | exact RT_r0 hR | exact RT_r2 hR | exact RT_t2 hR | exact RT_l2 hR | exact NT_0 hT | exact NT_r16 hT | exact NT_t16 hT | exact NT_l16 hT) (gw_il4 at70_57 (gw_callP2 at70_59 (c_hasArc hT o1.1 (TOK_NR o1 hN) (by omega)) (by omega) (Nat.le_of_ble_eq_true rfl) ?_)))
          rw [NF_hA (KF_NF o1.2.2)]
          refine gw_beq at70_62 (fun q62 => ?_) (fun q62 => ?_)
          · refine gw_inc4 at70_110 (h := (gw_goto at70_113 ?_))
            have e := ih (i + 1) (by omega) (by omega)
            rw [itI_s _ _ hi0] at e
            first | (rw [fsf_t (by assumption) (by omega)] at e; exact e) | (rw [fsf_e (by omega)] at e; exact e) | (rw [fsf_a (by simp [*])] at e; exact e)
          · refine gw_al0 at70_65 (gw_gr at70_66 (by first | exact RT_0 hR | exact RT_r0 hR | exact RT_r2 hR | exact RT_t2 hR | exact RT_l2 hR | exact NT_0 hT | exact NT_r16 hT | exact NT_t16 hT | exact NT_l16 hT) (by first | exact RT_0 hR | exact RT_r0 hR | exact RT_r2 hR | exact RT_t2 hR | exact RT_l2 hR | exact NT_0 hT | exact NT_r16 hT | exact NT_t16 hT | exact NT_l16 hT) (gw_il4 at70_69 (gw_callP2 at70_71 (c_endOf hT o1.1 (by omega)) (by omega) (Nat.le_of_ble_eq_true rfl) ?_)))
            rw [NF_en (KF_NF o1.2.2)]
            refine gw_il2 at70_74 ?_
            refine gw_cne at70_75 (by first | omega | (have := tkd_rg c 100014 i t; omega)) (by first | omega | (have := tkd_rg c 100014 i t; omega)) (fun q75 => ?_) (fun q75 => ?_)
            · refine gw_inc4 at70_110 (h := (gw_goto at70_113 ?_))
              have e := ih (i + 1) (by omega) (by omega)
              rw [itI_s _ _ hi0] at e
              first | (rw [fsf_t (by assumption) (by omega)] at e; exact e) | (rw [fsf_e (by omega)] at e; exact e) | (rw [fsf_a (by simp [*])] at e; exact e)
            · refine gw_al0 at70_78 (gw_gr at70_79 (by first | exact RT_0 hR | exact RT_r0 hR | exact RT_r2 hR | exact RT_t2 hR | exact RT_l2 hR | exact NT_0 hT | exact NT_r16 hT | exact NT_t16 hT | exact NT_l16 hT) (by first | exact RT_0 hR | exact RT_r0 hR | exact RT_r2 hR | exact RT_t2 hR | exact RT_l2 hR | exact NT_0 hT | exact NT_r16 hT | exact NT_t16 hT | exact NT_l16 hT) (gw_il4 at70_82 (gw_bip at70_84 (by decide) (gw_imul at70_86 (gw_il1 at70_87 (gw_iadd at70_88 (gw_al0 at70_89 (gw_gr at70_90 (by first | exact RT_0 hR | exact RT_r0 hR | exact RT_r2 hR | exact RT_t2 hR | exact RT_l2 hR | exact NT_0 hT | exact NT_r16 hT | exact NT_t16 hT | exact NT_l16 hT) (by first | exact RT_0 hR | exact RT_r0 hR | exact RT_r2 hR | exact RT_t2 hR | exact RT_l2 hR | exact NT_0 hT | exact NT_r16 hT | exact NT_t16 hT | exact NT_l16 hT) (gw_gr at70_93 (by first | exact RT_0 hR | exact RT_r0 hR | exact RT_r2 hR | exact RT_t2 hR | exact RT_l2 hR | exact NT_0 hT | exact NT_r16 hT | exact NT_t16 hT | exact NT_l16 hT) (by first | exact RT_0 hR | exact RT_r0 hR | exact RT_r2 hR | exact RT_t2 hR | exact RT_l2 hR | exact NT_0 hT | exact NT_r16 hT | exact NT_t16 hT | exact NT_l16 hT) (gw_al0 at70_96 (gw_gr at70_97 (by first | exact RT_0 hR | exact RT_r0 hR | exact RT_r2 hR | exact RT_t2 hR | exact RT_l2 hR | exact NT_0 hT | exact NT_r16 hT | exact NT_t16 hT | exact NT_l16 hT) (by first | exact RT_0 hR | exact RT_r0 hR | exact RT_r2 hR | exact RT_t2 hR | exact RT_l2 hR | exact NT_0 hT | exact NT_r16 hT | exact NT_t16 hT | exact NT_l16 hT) (gw_il4 at70_100 (gw_il1 at70_102 (gw_callP3 at70_103 (c_turnKind hT o1.1 (TOK_NR o1 hN) (by omega) (by omega)) (by omega) (Nat.le_of_ble_eq_true rfl) ?_))))))))))))))
              rw [NF_tkd (KF_NF o1.2.2)]
              refine gw_ia at70_106 (by first | exact Or.inl (by first | exact RT_0 hR | exact RT_r0 hR | exact RT_r2 hR | exact RT_t2 hR | exact RT_l2 hR | exact NT_0 hT | exact NT_r16 hT | exact NT_t16 hT | exact NT_l16 hT) | exact Or.inr (by first | exact RT_0 hR | exact RT_r0 hR | exact RT_r2 hR | exact RT_t2 hR | exact RT_l2 hR | exact NT_0 hT | exact NT_r16 hT | exact NT_t16 hT | exact NT_l16 hT)) (by first | exact RT_0 hR | exact RT_r0 hR | exact RT_r2 hR | exact RT_t2 hR | exact RT_l2 hR | exact NT_0 hT | exact NT_r16 hT | exact NT_t16 hT | exact NT_l16 hT) (by first | omega | (have := tkd_rg c 100014 i t; omega)) (by first | omega | (have := tkd_rg c 100014 i t; omega)) (by omega) ?_
              rw [o1.2.2 100024 (by omega) (by omega)]
              refine gw_il3 at70_107 (gw_iadd at70_108 (gw_iw at70_109 (by first | exact RT_0 hR | exact RT_r0 hR | exact RT_r2 hR | exact RT_t2 hR | exact RT_l2 hR | exact NT_0 hT | exact NT_r16 hT | exact NT_t16 hT | exact NT_l16 hT) (by first | exact RT_0 hR | exact RT_r0 hR | exact RT_r2 hR | exact RT_t2 hR | exact RT_l2 hR | exact NT_0 hT | exact NT_r16 hT | exact NT_t16 hT | exact NT_l16 hT) (by first | omega | (have := tkd_rg c 100014 i t; omega)) (by first | omega | (have := tkd_rg c 100014 i t; omega)) (by omega) (gw_inc4 at70_110 (h := (gw_goto at70_113 ?_)))))
              have e := ih (i + 1) (by omega) (by omega)
              rw [itI_s _ _ hi0] at e
              first | (rw [fsf_t (by assumption) (by omega)] at e; exact e) | (rw [fsf_e (by omega)] at e; exact e) | (rw [fsf_a (by simp [*])] at e; exact e)
      have e := lp46 0 (by omega) (by omega)
      rw [itI_0] at e
      unfold fs0 at e
      first | (rw [if_pos (by omega)] at e; exact e) | (rw [if_neg (by omega)] at e; exact e)
