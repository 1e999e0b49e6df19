/-! planner: items, orders, turns -/
theorem tkd_q : True := trivial
def PF (c m : gC) : Prop := ∀ k : Nat, ¬ k = 100044 → ¬ k = 100049 → ¬ k = 100050 → ∀ j, m k j = c k j
def cif (c : gC) (s i : Int) (m : gC) : gC := if tb s i = true ∧ m 100044 8 < 12 then gu (gu (gu m 100049 (m 100044 8) i) 100050 (m 100044 8) (cfr c (24 + c 100014 3) i)) 100044 8 (m 100044 8 + 1) else m
theorem cif_t {c m : gC} {s i : Int} (h : tb s i = true) (h' : m 100044 8 < 12) : cif c s i m = gu (gu (gu m 100049 (m 100044 8) i) 100050 (m 100044 8) (cfr c (24 + c 100014 3) i)) 100044 8 (m 100044 8 + 1) := if_pos ⟨h, h'⟩
theorem cif_a {c m : gC} {s i : Int} (h : tb s i = false) : cif c s i m = m := if_neg (fun h2 => by rw [h] at h2; exact Bool.false_ne_true h2.1)
theorem cif_b {c m : gC} {s i : Int} (h' : ¬ m 100044 8 < 12) : cif c s i m = m := if_neg (fun h => h' h.2)
def col (c : gC) (s : Int) : gC := itI (cif c s) (gu c 100044 8 0) 24
def COK (c : gC) (R Z : Nat) (m : gC) : Prop := RG m ∧ PF c m ∧ PQ m R Z
theorem cif_ok {c m : gC} {R Z : Nat} {s i : Int} (hS : SR c) (hR : R = 100051 ∨ 400000 ≤ R ∧ R < 500000) (hi : 0 ≤ i ∧ i < 24) (h : COK c R Z m) : COK c R Z (cif c s i m) := by
  have h5 := cfr_rg hS (24 + c 100014 3) i
  unfold cif
  split
  · have h6 := h.2.2.1
    have h7 : m 100044 8 < 12 := (by assumption : _ ∧ _).2
    refine ⟨RG_gu (RG_gu (RG_gu h.1 (by omega)) (by omega)) (by omega), fun k a b e j => ?_, ?_, fun j q1 q2 => ?_, fun j q1 q2 => ?_⟩
    · rw [gu_k (by omega), gu_k (by omega), gu_k (by omega)]; exact h.2.1 k a b e j
    · rw [gu_s]; omega
    · have h8 := h.2.2.2.1 j q1 q2
      rw [gu_k (k := 100044) (by omega), gu_k (k := 100044) (by omega), gu_k (k := 100050) (k' := 100049) (by omega)]
      refine ⟨?_, ?_⟩
      · unfold gu; split <;> omega
      · unfold gu; split
        · omega
        · rw [if_neg (by omega)]; omega
    · have h8 := h.2.2.2.2 j q1 q2
      rw [gu_k (by omega), gu_k (by omega), gu_k (by omega)]; exact h8
  · exact h
theorem col_ok {c : gC} {R Z : Nat} {s : Int} (hc : RG c) (hS : SR c) (hR : R = 100051 ∨ 400000 ≤ R ∧ R < 500000) (hQ : PQ c R Z) {i : Int} (hi : i ≤ 24) : COK c R Z (itI (cif c s) (gu c 100044 8 0) i) := by
  refine itI_inv2 (COK c R Z) (N := 24) ⟨RG_gu hc (by omega), fun k a b e j => gu_k (by omega), ?_, fun j q1 q2 => ?_, fun j q1 q2 => ?_⟩ (fun j x h0 h1 hx => cif_ok hS hR ⟨h0, h1⟩ hx) hi
  · rw [gu_s]; omega
  · rw [gu_k (by omega), gu_k (by omega)]; exact hQ.2.1 j q1 q2
  · rw [gu_k (by omega)]; exact hQ.2.2 j q1 q2
-- orders
def OF (c m : gC) : Prop := ∀ k : Nat, ¬ k = 100048 → ∀ j, m k j = c k j
theorem ctr_cg {c m : gC} {R : Nat} (hR : ¬ R = 100048) (h : OF c m) (l x s : Int) : ctr m R l x s = ctr c R l x s := by
  unfold ctr
  rw [h R hR, h 100044 (by omega), h 100050 (by omega), h 100049 (by omega), h 100049 (by omega), cbh_cg (h 100028 (by omega))]
theorem bst_cg {c m : gC} {R : Nat} (hR : ¬ R = 100048) (h : OF c m) (l s : Int) : bst m R l s = bst c R l s := by
  unfold bst
  rw [h 100044 (by omega), h 100049 (by omega), h 100014 (by omega), cbh_cg (h 100028 (by omega)), show bsf m R l s = bsf c R l s from funext fun i => funext fun a => by unfold bsf; rw [ctr_cg hR h]]
theorem PQ_OF {c m : gC} {R Z : Nat} (hR : ¬ R = 100048) (h : OF c m) (hQ : PQ c R Z) : PQ m R Z := by
  refine ⟨by rw [h 100044 (by omega)]; exact hQ.1, fun i q1 q2 => ?_, fun i q1 q2 => ?_⟩
  · rw [h 100049 (by omega), h 100050 (by omega)]; exact hQ.2.1 i q1 q2
  · rw [h R hR]; exact hQ.2.2 i q1 q2
def nxf (c : gC) (R : Nat) (l s x y : Int) : Int := if y = x ∧ ¬ (tb s x = true ∧ ctr c R l x s = bst c R l s) then x + 1 else y
def nxt (c : gC) (R : Nat) (l s : Int) : Int := itI (nxf c R l s) 0 (c 100044 8 - 1)
theorem nxi_rg (c : gC) (R : Nat) (l s : Int) {k : Int} (h0 : 0 ≤ k) : 0 ≤ itI (nxf c R l s) 0 k ∧ itI (nxf c R l s) 0 k ≤ k := by
  refine itI_inv3 (fun k y => 0 ≤ y ∧ y ≤ k) (N := k) (by omega) (fun j y q1 q2 h => ?_) h0 (by omega)
  unfold nxf
  split <;> omega
def chs (c : gC) (R : Nat) (p i : Int) (x : Int × Int × gC) : Int × Int × gC := (clr x.1 (nxt c R x.2.1 x.1), nxt c R x.2.1 x.1, gu x.2.2 100048 (p + i) (c 100049 (nxt c R x.2.1 x.1)))
def chx (c : gC) (R : Nat) (p i : Int) : Int × Int × gC := itI (chs c R p) (zshl 1 (c 100044 8) - 1, -1, c) i
def cho (c : gC) (R : Nat) (p : Int) : gC := (chx c R p (c 100044 8)).2.2
def CHO (c : gC) (x : Int × Int × gC) : Prop := (0 ≤ x.1 ∧ x.1 < zshl 1 (c 100044 8)) ∧ (-1 ≤ x.2.1 ∧ x.2.1 < c 100044 8) ∧ OF c x.2.2 ∧ RG x.2.2 ∧ PR x.2.2
theorem shl_12 : ∀ n : Nat, n ≤ 12 → 1 ≤ zshl 1 (n : Int) ∧ zshl 1 (n : Int) ≤ 4096 ∧ 0 ≤ zshl 1 (n : Int) * (n : Int) ∧ zshl 1 (n : Int) * (n : Int) ≤ 49152 := by decide +kernel
theorem shl_rg {n : Int} (h : 0 ≤ n ∧ n ≤ 12) : 1 ≤ zshl 1 n ∧ zshl 1 n ≤ 4096 ∧ 0 ≤ zshl 1 n * n ∧ zshl 1 n * n ≤ 49152 := by
  have := shl_12 n.toNat (by omega)
  rwa [show ((n.toNat : Nat) : Int) = n by omega] at this
theorem chx_ok {c : gC} {R Z : Nat} (hc : RG c) (hA : PR c) (hQ : PQ c R Z) {p : Int} (hp : 0 ≤ p ∧ p ≤ 24) {i : Int} (h0 : 0 ≤ i) (hi : i ≤ c 100044 8) : CHO c (chx c R p i) := by
  have hn := hQ.1
  have hs := shl_rg hn
  refine itI_inv2 (CHO c) (N := c 100044 8) ⟨by dsimp only; omega, by dsimp only; omega, fun _ _ _ => rfl, hc, hA⟩ (fun j x q0 q1 h => ?_) hi
  obtain ⟨h1, h2, h3, h4, h5⟩ := h
  have h6 := nxi_rg c R x.2.1 x.1 (k := c 100044 8 - 1) (by omega)
  have h7 := clr_rg (s := x.1) (nxt c R x.2.1 x.1) (by omega)
  have h8 := (hQ.2.1 (nxt c R x.2.1 x.1) h6.1 (by unfold nxt; omega)).1
  refine ⟨?_, ?_, ?_, ?_, ?_, ?_⟩
  · unfold chs; dsimp only; omega
  · unfold chs nxt; dsimp only; omega
  · intro k a j'; unfold chs; dsimp only; rw [gu_k (by omega)]; exact h3 k a j'
  · exact RG_gu h4 (by omega)
  · intro i' a b; unfold chs; dsimp only; rw [gu_k (by omega)]; exact h5.1 i' a b
  · intro i' a b; unfold chs; dsimp only; have := h5.2 i' a b; unfold gu; split <;> omega
-- turns
def tsf (c : gC) (k g : Int) (x : Int × Int) : Int × Int := if x.2 = g then x else (x.1 + ist c x.2 (fst1 c (if x.2 = -1 then 24 + c 100014 3 else x.2) g).1 k, (fst1 c (if x.2 = -1 then 24 + c 100014 3 else x.2) g).1)
def tso (c : gC) (z k i : Int) (x : Int × Int) : Int × Int := itI (fun _ => tsf c k (paa c z i)) x 24
def tsb (c : gC) (k : Int) (x : Int × Int) : Int × Int := if x.2 = -1 ∨ en c 100014 x.2 = c 100014 3 then x else (x.1 + ist c x.2 (fst1 c x.2 (24 + c 100014 3)).1 k, (fst1 c x.2 (24 + c 100014 3)).1)
def trn (c : gC) (z k : Int) : Int := (itI (fun _ => tsb c k) (itI (tso c z k) (0, -1) (szo c z)) 24).1
theorem tsf_rg {c : gC} {k g : Int} {x : Int × Int} (h : -1 ≤ x.2 ∧ x.2 < 24) : -1 ≤ (tsf c k g x).2 ∧ (tsf c k g x).2 < 24 := by
  unfold tsf
  split
  · exact h
  · exact fst1_rg _ _ _
theorem tsfi_rg {c : gC} {k g : Int} {x : Int × Int} (h : -1 ≤ x.2 ∧ x.2 < 24) (i : Int) : -1 ≤ (itI (fun _ => tsf c k g) x i).2 ∧ (itI (fun _ => tsf c k g) x i).2 < 24 := by
  refine itI_inv (fun x : Int × Int => -1 ≤ x.2 ∧ x.2 < 24) h (fun j s hs => ?_) i
  exact tsf_rg hs
theorem tsoi_rg (c : gC) (z k i : Int) : -1 ≤ (itI (tso c z k) (0, -1) i).2 ∧ (itI (tso c z k) (0, -1) i).2 < 24 := by
  refine itI_inv (fun x : Int × Int => -1 ≤ x.2 ∧ x.2 < 24) (by dsimp only; omega) (fun j s hs => ?_) i
  exact tsfi_rg hs 24
theorem tsbi_rg {c : gC} {k : Int} {x : Int × Int} (h : -1 ≤ x.2 ∧ x.2 < 24) (i : Int) : -1 ≤ (itI (fun _ => tsb c k) x i).2 ∧ (itI (fun _ => tsb c k) x i).2 < 24 := by
  refine itI_inv (fun x : Int × Int => -1 ≤ x.2 ∧ x.2 < 24) h (fun j s hs => ?_) i
  unfold tsb
  split
  · exact hs
  · exact fst1_rg _ _ _
theorem szo_rg {c : gC} (h : PR c) (z : Int) : 0 ≤ szo c z ∧ szo c z ≤ 12 := by
  unfold szo
  split
  · exact h.1 _ (by omega) (by omega)
  · omega
theorem paa_rg {c : gC} (h : PR c) (z i : Int) : -1 ≤ paa c z i ∧ paa c z i < 24 := by
  unfold paa
  split
  · have h1 := h.1 (z - 1) (by omega) (by omega)
    have h2 := h.2 ((z - 1) * 12 + i) (by omega) (by omega)
    omega
  · omega
set_option maxHeartbeats 1000000 in
theorem c_col {g : Nat} {T : gT} {c J : gC} {R Z : Nat} (hP : PT T R Z) (hR : RT T) (hc : RG c) (hS : SR c) (hQ : PQ c R Z) (hT : NT T 100014) (hD : -1 ≤ c 100014 3 ∧ c 100014 3 < 10) {s : Int} (hs : -2147483648 ≤ s ∧ s < 2147483648) : gE g 61 3 [.ref 100044, gi s] (gm T c J) (fun o M1 => o = .inl none ∧ M1 = gm T (col c s) J) := by
  refine gE_mk am_r61 rfl (Or.inr ⟨_, rfl, (by first | exact PT_0 hP | exact PT_n hP | exact PT_o hP | exact PT_r6 hP | exact PT_t6 hP | exact PT_l6 hP | exact PT_r7 hP | exact PT_t7 hP | exact PT_l7 hP | exact RT_0 hR | exact NT_0 hT)⟩) (fun d hd => ?_)
  show gw d g 61 0 [.ref 100044, gi s, am_U] [] _ _
  refine gw_al0 at61_0 (gw_const at61_1 (gw_pf (j := 8) at61_2 (by first | exact PT_0 hP | exact PT_n hP | exact PT_o hP | exact PT_r6 hP | exact PT_t6 hP | exact PT_l6 hP | exact PT_r7 hP | exact PT_t7 hP | exact PT_l7 hP | exact RT_0 hR | exact NT_0 hT) rfl (gw_const at61_5 (gw_is2 at61_6 (h := ?_)))))
  have lp7 : ∀ i : Int, 0 ≤ i → i ≤ 24 → ∀ X : gC, X = (itI (cif c s) (gu c 100044 8 0) i) → gw d g 61 7 [.ref 100044, gi s, gi i] [] (gm T X J) (fun o M1 => o = .inl none ∧ M1 = gm T (col c s) J) := by
    refine ind_up 24 ?_
    intro i hi0 hi1 ih X hX
    have o1 : COK c R Z X := by rw [hX]; exact col_ok hc hS (PT_k hP).1 hQ hi1
    have hn := o1.2.2.1
    refine gw_il2 at61_7 ?_
    refine gw_bip at61_8 (by decide) ?_
    refine gw_cge at61_10 (by first | omega | exact o1.1 _ _) (by first | omega | exact o1.1 _ _) (fun q10 => ?_) (fun q10 => ?_)
    · refine gw_rv at61_83 am_r61.2.1 ?_
      refine ⟨rfl, ?_⟩
      unfold col
      rw [hX, show i = 24 by omega]
    · refine gw_il1 at61_13 (gw_il2 at61_14 (gw_callP2 at61_15 (c_contains) (by omega) (Nat.le_of_ble_eq_true rfl) ?_))
      refine gw_beq at61_18 (fun q18 => ?_) (fun q18 => ?_)
      · refine gw_inc2 at61_77 (h := (gw_goto at61_80 ?_))
        have e := ih (i + 1) (by omega) (by omega) _ rfl
        rw [itI_s _ _ hi0, ← hX] at e
        first | (rw [cif_t (by assumption) (by omega)] at e; exact e) | (rw [cif_a (by assumption)] at e; exact e) | (rw [cif_b (by omega)] at e; exact e)
      · refine gw_al0 at61_21 (gw_gf (j := 8) at61_22 (by first | exact PT_0 hP | exact PT_n hP | exact PT_o hP | exact PT_r6 hP | exact PT_t6 hP | exact PT_l6 hP | exact PT_r7 hP | exact PT_t7 hP | exact PT_l7 hP | exact RT_0 hR | exact NT_0 hT) rfl (gw_bip at61_25 (by decide) ?_))
        refine gw_cge at61_27 (by first | omega | exact o1.1 _ _) (by first | omega | exact o1.1 _ _) (fun q27 => ?_) (fun q27 => ?_)
        · refine gw_inc2 at61_77 (h := (gw_goto at61_80 ?_))
          have e := ih (i + 1) (by omega) (by omega) _ rfl
          rw [itI_s _ _ hi0, ← hX] at e
          first | (rw [cif_t (by assumption) (by omega)] at e; exact e) | (rw [cif_a (by assumption)] at e; exact e) | (rw [cif_b (by omega)] at e; exact e)
        · refine gw_al0 at61_30 (gw_gr at61_31 (by first | exact PT_0 hP | exact PT_n hP | exact PT_o hP | exact PT_r6 hP | exact PT_t6 hP | exact PT_l6 hP | exact PT_r7 hP | exact PT_t7 hP | exact PT_l7 hP | exact RT_0 hR | exact NT_0 hT) (by first | exact PT_0 hP | exact PT_n hP | exact PT_o hP | exact PT_r6 hP | exact PT_t6 hP | exact PT_l6 hP | exact PT_r7 hP | exact PT_t7 hP | exact PT_l7 hP | exact RT_0 hR | exact NT_0 hT) (gw_al0 at61_34 (gw_gf (j := 8) at61_35 (by first | exact PT_0 hP | exact PT_n hP | exact PT_o hP | exact PT_r6 hP | exact PT_t6 hP | exact PT_l6 hP | exact PT_r7 hP | exact PT_t7 hP | exact PT_l7 hP | exact RT_0 hR | exact NT_0 hT) rfl (gw_il2 at61_38 (gw_iw at61_39 (by first | exact PT_0 hP | exact PT_n hP | exact PT_o hP | exact PT_r6 hP | exact PT_t6 hP | exact PT_l6 hP | exact PT_r7 hP | exact PT_t7 hP | exact PT_l7 hP | exact RT_0 hR | exact NT_0 hT) (by first | exact PT_0 hP | exact PT_n hP | exact PT_o hP | exact PT_r6 hP | exact PT_t6 hP | exact PT_l6 hP | exact PT_r7 hP | exact PT_t7 hP | exact PT_l7 hP | exact RT_0 hR | exact NT_0 hT) (by first | omega | exact o1.1 _ _) (by first | omega | exact o1.1 _ _) (by omega) (gw_al0 at61_40 (gw_gr at61_41 (by first | exact PT_0 hP | exact PT_n hP | exact PT_o hP | exact PT_r6 hP | exact PT_t6 hP | exact PT_l6 hP | exact PT_r7 hP | exact PT_t7 hP | exact PT_l7 hP | exact RT_0 hR | exact NT_0 hT) (by first | exact PT_0 hP | exact PT_n hP | exact PT_o hP | exact PT_r6 hP | exact PT_t6 hP | exact PT_l6 hP | exact PT_r7 hP | exact PT_t7 hP | exact PT_l7 hP | exact RT_0 hR | exact NT_0 hT) (gw_al0 at61_44 (gw_gf (j := 8) at61_45 (by first | exact PT_0 hP | exact PT_n hP | exact PT_o hP | exact PT_r6 hP | exact PT_t6 hP | exact PT_l6 hP | exact PT_r7 hP | exact PT_t7 hP | exact PT_l7 hP | exact RT_0 hR | exact NT_0 hT) rfl ?_)))))))))
          simp (disch := omega) only [gu_k, gu_j, gu_s]
          refine gw_al0 at61_48 (gw_gr at61_49 (by first | exact PT_0 hP | exact PT_n hP | exact PT_o hP | exact PT_r6 hP | exact PT_t6 hP | exact PT_l6 hP | exact PT_r7 hP | exact PT_t7 hP | exact PT_l7 hP | exact RT_0 hR | exact NT_0 hT) (by first | exact PT_0 hP | exact PT_n hP | exact PT_o hP | exact PT_r6 hP | exact PT_t6 hP | exact PT_l6 hP | exact PT_r7 hP | exact PT_t7 hP | exact PT_l7 hP | exact RT_0 hR | exact NT_0 hT) (gw_al0 at61_52 (gw_gr at61_53 (by first | exact PT_0 hP | exact PT_n hP | exact PT_o hP | exact PT_r6 hP | exact PT_t6 hP | exact PT_l6 hP | exact PT_r7 hP | exact PT_t7 hP | exact PT_l7 hP | exact RT_0 hR | exact NT_0 hT) (by first | exact PT_0 hP | exact PT_n hP | exact PT_o hP | exact PT_r6 hP | exact PT_t6 hP | exact PT_l6 hP | exact PT_r7 hP | exact PT_t7 hP | exact PT_l7 hP | exact RT_0 hR | exact NT_0 hT) (gw_gf (j := 3) at61_56 (by first | exact PT_0 hP | exact PT_n hP | exact PT_o hP | exact PT_r6 hP | exact PT_t6 hP | exact PT_l6 hP | exact PT_r7 hP | exact PT_t7 hP | exact PT_l7 hP | exact RT_0 hR | exact NT_0 hT) rfl ?_))))
          simp (disch := omega) only [gu_k, gu_j, gu_s]
          rw [o1.2.1 100014 (by omega) (by omega) (by omega)]
          refine gw_callP1 at61_59 (c_placeOf) (by omega) (Nat.le_of_ble_eq_true rfl) (gw_il2 at61_62 (gw_callP3 at61_63 (c_costFrom hR (RG_gu o1.1 (by omega)) (SR_cg (fun j => by first | exact o1.2.1 100027 (by omega) (by omega) (by omega) j | (rw [gu_k (by omega)]; exact o1.2.1 100027 (by omega) (by omega) (by omega) j)) (fun j => by first | exact o1.2.1 100028 (by omega) (by omega) (by omega) j | (rw [gu_k (by omega)]; exact o1.2.1 100028 (by omega) (by omega) (by omega) j)) hS) (by omega) (by omega)) (by omega) (Nat.le_of_ble_eq_true rfl) ?_))
          rw [cfr_cg (c := c) (fun j => by first | exact o1.2.1 100027 (by omega) (by omega) (by omega) j | (rw [gu_k (by omega)]; exact o1.2.1 100027 (by omega) (by omega) (by omega) j)) (fun j => by first | exact o1.2.1 100028 (by omega) (by omega) (by omega) j | (rw [gu_k (by omega)]; exact o1.2.1 100028 (by omega) (by omega) (by omega) j))]
          refine gw_iw at61_66 (by first | exact PT_0 hP | exact PT_n hP | exact PT_o hP | exact PT_r6 hP | exact PT_t6 hP | exact PT_l6 hP | exact PT_r7 hP | exact PT_t7 hP | exact PT_l7 hP | exact RT_0 hR | exact NT_0 hT) (by first | exact PT_0 hP | exact PT_n hP | exact PT_o hP | exact PT_r6 hP | exact PT_t6 hP | exact PT_l6 hP | exact PT_r7 hP | exact PT_t7 hP | exact PT_l7 hP | exact RT_0 hR | exact NT_0 hT) (by first | omega | exact o1.1 _ _) (by first | omega | exact o1.1 _ _) (by omega) (gw_al0 at61_67 (gw_dupr at61_68 (gw_gf (j := 8) at61_69 (by first | exact PT_0 hP | exact PT_n hP | exact PT_o hP | exact PT_r6 hP | exact PT_t6 hP | exact PT_l6 hP | exact PT_r7 hP | exact PT_t7 hP | exact PT_l7 hP | exact RT_0 hR | exact NT_0 hT) rfl ?_)))
          simp (disch := omega) only [gu_k, gu_j, gu_s]
          refine gw_const at61_72 (gw_iadd at61_73 (gw_pf (j := 8) at61_74 (by first | exact PT_0 hP | exact PT_n hP | exact PT_o hP | exact PT_r6 hP | exact PT_t6 hP | exact PT_l6 hP | exact PT_r7 hP | exact PT_t7 hP | exact PT_l7 hP | exact RT_0 hR | exact NT_0 hT) rfl (gw_inc2 at61_77 (h := (gw_goto at61_80 ?_)))))
          have e := ih (i + 1) (by omega) (by omega) _ rfl
          rw [itI_s _ _ hi0, ← hX] at e
          first | (rw [cif_t (by assumption) (by omega)] at e; exact e) | (rw [cif_a (by assumption)] at e; exact e) | (rw [cif_b (by omega)] at e; exact e)
  exact lp7 0 (by omega) (by omega) _ rfl
set_option maxHeartbeats 1000000 in
theorem c_cho {g : Nat} {T : gT} {c J : gC} {R Z : Nat} (hP : PT T R Z) (hR : RT T) (hc : RG c) (hS : SR c) (hA : PR c) (hQ : PQ c R Z) (hK : PW (zshl 1 (c 100044 8)) (c 100044 8) Z) (hT : NT T 100014) (hD : -1 ≤ c 100014 3 ∧ c 100014 3 < 10) {p : Int} (hp : 0 ≤ p ∧ p ≤ 24) : gE g 65 3 [.ref 100044, gi p] (gm T c J) (fun o M1 => o = .inl none ∧ M1 = gm T (cho c R p) J) := by
  have hn := hQ.1
  have hsn := shl_rg hn
  have hR8 : ¬ R = 100048 := by have := (PT_k hP).1; omega
  refine gE_mk am_r65 rfl (Or.inr ⟨_, rfl, (by first | exact PT_0 hP | exact PT_r5 hP | exact PT_t5 hP | exact PT_l5 hP | exact PT_r6 hP | exact PT_t6 hP | exact PT_l6 hP)⟩) (fun d hd => ?_)
  show gw d g 65 0 [.ref 100044, gi p, am_U, am_U, am_U, am_U, am_U] [] _ _
  refine gw_const at65_0 (gw_al0 at65_1 (gw_gf (j := 8) at65_2 (by first | exact PT_0 hP | exact PT_r5 hP | exact PT_t5 hP | exact PT_l5 hP | exact PT_r6 hP | exact PT_t6 hP | exact PT_l6 hP) rfl (gw_ishl at65_5 (gw_const at65_6 (gw_isub at65_7 (gw_is2 at65_8 (h := (gw_const at65_9 (gw_is3 at65_10 (h := (gw_const at65_11 (gw_is4 at65_12 (h := ?_)))))))))))))
  have lp14 : ∀ i : Int, 0 ≤ i → i ≤ 12 → i ≤ c 100044 8 → ∀ (X : Int × Int × gC) (u v : Value), am_nl u = true → am_nl v = true → X = chx c R p i → gw d g 65 14 [.ref 100044, gi p, gi X.1, gi X.2.1, gi i, u, v] [] (gm T X.2.2 J) (fun o M1 => o = .inl none ∧ M1 = gm T (cho c R p) J) := by
    refine ind_up 12 ?_
    intro i hi0 hi1 ih hi2 X u v hu hv hX
    obtain ⟨o1, o2, o3, o4, o5⟩ : CHO c X := by rw [hX]; exact chx_ok hc hA hQ hp hi0 hi2
    refine gw_il4 at65_14 ?_
    refine gw_al0 at65_16 (gw_gf (j := 8) at65_17 (by first | exact PT_0 hP | exact PT_r5 hP | exact PT_t5 hP | exact PT_l5 hP | exact PT_r6 hP | exact PT_t6 hP | exact PT_l6 hP) rfl ?_)
    rw [o3 100044 (by omega)]
    refine gw_cge at65_20 (by first | omega | exact hc _ _ | exact o4 _ _ | exact zrg _ | (have := bst_rg (l := X.2.1) hS hQ hK o1 hsn.2.1; omega) | (have := ctr_rg (l := X.2.1) (x := k) hS hQ hK o1 hsn.2.1 (by omega); omega)) (by first | omega | exact hc _ _ | exact o4 _ _ | exact zrg _ | (have := bst_rg (l := X.2.1) hS hQ hK o1 hsn.2.1; omega) | (have := ctr_rg (l := X.2.1) (x := k) hS hQ hK o1 hsn.2.1 (by omega); omega)) (fun q20 => ?_) (fun q20 => ?_)
    · refine gw_rv at65_107 am_r65.2.1 ?_
      refine ⟨rfl, ?_⟩
      unfold cho
      rw [← show i = c 100044 8 by omega, ← hX]
    · refine gw_al0 at65_23 (gw_il3 at65_24 (gw_il2 at65_25 (gw_callP3 at65_26 (c_bst hP hR o4 (SR_cg (o3 100027 (by omega)) (o3 100028 (by omega)) hS) (PQ_OF hR8 o3 hQ) (S := zshl 1 (c 100044 8)) (by rw [o3 100044 (by omega)]; exact hK) hsn.2.1 (by rw [o3 100044 (by omega)]; omega) (by omega) hT (by rw [o3 100014 (by omega)]; omega)) (by omega) (Nat.le_of_ble_eq_true rfl) ?_)))
      rw [bst_cg hR8 o3]
      refine gw_is5 at65_29 (h := (gw_const at65_31 (gw_is6 at65_32 (h := ?_))))
      have lp34 : ∀ k : Int, 0 ≤ k → k ≤ 12 → k ≤ c 100044 8 - 1 → k = itI (nxf c R X.2.1 X.1) 0 k → gw d g 65 34 [.ref 100044, gi p, gi X.1, gi X.2.1, gi i, gi (bst c R X.2.1 X.1), gi k] [] (gm T X.2.2 J) (fun o M1 => o = .inl none ∧ M1 = gm T (cho c R p) J) := by
        refine ind_up 12 ?_
        intro k hk0 hk1 ih2 hk2 hk3
        refine gw_il6 at65_34 ?_
        refine gw_al0 at65_36 (gw_gf (j := 8) at65_37 (by first | exact PT_0 hP | exact PT_r5 hP | exact PT_t5 hP | exact PT_l5 hP | exact PT_r6 hP | exact PT_t6 hP | exact PT_l6 hP) rfl ?_)
        rw [o3 100044 (by omega)]
        refine gw_const at65_40 (gw_isub at65_41 ?_)
        refine gw_cge at65_42 (by first | omega | exact hc _ _ | exact o4 _ _ | exact zrg _ | (have := bst_rg (l := X.2.1) hS hQ hK o1 hsn.2.1; omega) | (have := ctr_rg (l := X.2.1) (x := k) hS hQ hK o1 hsn.2.1 (by omega); omega)) (by first | omega | exact hc _ _ | exact o4 _ _ | exact zrg _ | (have := bst_rg (l := X.2.1) hS hQ hK o1 hsn.2.1; omega) | (have := ctr_rg (l := X.2.1) (x := k) hS hQ hK o1 hsn.2.1 (by omega); omega)) (fun q42 => ?_) (fun q42 => ?_)
        · refine gw_al0 at65_73 (gw_gr at65_74 (by first | exact PT_0 hP | exact PT_r5 hP | exact PT_t5 hP | exact PT_l5 hP | exact PT_r6 hP | exact PT_t6 hP | exact PT_l6 hP) (by first | exact PT_0 hP | exact PT_r5 hP | exact PT_t5 hP | exact PT_l5 hP | exact PT_r6 hP | exact PT_t6 hP | exact PT_l6 hP) (gw_il1 at65_77 (gw_il4 at65_78 (gw_iadd at65_80 (gw_al0 at65_81 (gw_gr at65_82 (by first | exact PT_0 hP | exact PT_r5 hP | exact PT_t5 hP | exact PT_l5 hP | exact PT_r6 hP | exact PT_t6 hP | exact PT_l6 hP) (by first | exact PT_0 hP | exact PT_r5 hP | exact PT_t5 hP | exact PT_l5 hP | exact PT_r6 hP | exact PT_t6 hP | exact PT_l6 hP) (gw_il6 at65_85 (gw_ia at65_87 (by first | exact Or.inl (by first | exact PT_0 hP | exact PT_r5 hP | exact PT_t5 hP | exact PT_l5 hP | exact PT_r6 hP | exact PT_t6 hP | exact PT_l6 hP) | exact Or.inr (by first | exact PT_0 hP | exact PT_r5 hP | exact PT_t5 hP | exact PT_l5 hP | exact PT_r6 hP | exact PT_t6 hP | exact PT_l6 hP)) (by first | exact PT_0 hP | exact PT_r5 hP | exact PT_t5 hP | exact PT_l5 hP | exact PT_r6 hP | exact PT_t6 hP | exact PT_l6 hP) (by first | omega | exact hc _ _ | exact o4 _ _ | exact zrg _ | (have := bst_rg (l := X.2.1) hS hQ hK o1 hsn.2.1; omega) | (have := ctr_rg (l := X.2.1) (x := k) hS hQ hK o1 hsn.2.1 (by omega); omega)) (by first | omega | exact hc _ _ | exact o4 _ _ | exact zrg _ | (have := bst_rg (l := X.2.1) hS hQ hK o1 hsn.2.1; omega) | (have := ctr_rg (l := X.2.1) (x := k) hS hQ hK o1 hsn.2.1 (by omega); omega)) (by omega) ?_))))))))
          rw [o3 100049 (by omega)]
          refine gw_iw at65_88 (by first | exact PT_0 hP | exact PT_r5 hP | exact PT_t5 hP | exact PT_l5 hP | exact PT_r6 hP | exact PT_t6 hP | exact PT_l6 hP) (by first | exact PT_0 hP | exact PT_r5 hP | exact PT_t5 hP | exact PT_l5 hP | exact PT_r6 hP | exact PT_t6 hP | exact PT_l6 hP) (by first | omega | exact hc _ _ | exact o4 _ _ | exact zrg _ | (have := bst_rg (l := X.2.1) hS hQ hK o1 hsn.2.1; omega) | (have := ctr_rg (l := X.2.1) (x := k) hS hQ hK o1 hsn.2.1 (by omega); omega)) (by first | omega | exact hc _ _ | exact o4 _ _ | exact zrg _ | (have := bst_rg (l := X.2.1) hS hQ hK o1 hsn.2.1; omega) | (have := ctr_rg (l := X.2.1) (x := k) hS hQ hK o1 hsn.2.1 (by omega); omega)) (by omega) (gw_il2 at65_89 (gw_const at65_90 (gw_il6 at65_91 (gw_ishl at65_93 (gw_const at65_94 (gw_ixor at65_95 (gw_iand at65_96 (gw_is2 at65_97 (h := (gw_il6 at65_98 (gw_is3 at65_100 (h := (gw_inc4 at65_101 (h := (gw_goto at65_104 ?_)))))))))))))))
          have hk9 : nxt c R X.2.1 X.1 = k := by
            unfold nxt
            first | (rw [show c 100044 8 - 1 = k by omega]; exact hk3.symm) | (rw [itI_fx hk0 (fun j hj => by rw [← hk3]; unfold nxf; rw [if_neg (fun h => h.2 (by rw [← h.1]; exact ⟨by assumption, by omega⟩))]) _ hk2]; exact hk3.symm)
          have hch : chx c R p (i + 1) = (clr X.1 k, k, gu X.2.2 100048 (p + i) (c 100049 k)) := by
            unfold chx at hX ⊢
            rw [itI_s _ _ hi0, ← hX]
            unfold chs
            rw [hk9]
          have e := fun u v hu hv => ih (i + 1) (by omega) (by omega) (by omega) _ u v hu hv hch.symm
          dsimp only at e
          exact e _ _ rfl rfl
        · refine gw_il2 at65_45 (gw_il6 at65_46 (gw_callP2 at65_48 (c_contains) (by omega) (Nat.le_of_ble_eq_true rfl) ?_))
          refine gw_beq at65_51 (fun q51 => ?_) (fun q51 => ?_)
          · refine gw_inc6 at65_67 (h := (gw_goto at65_70 ?_))
            refine ih2 (k + 1) (by omega) (by omega) (by omega) ?_
            rw [itI_s _ _ hk0, ← hk3]
            unfold nxf
            rw [if_pos ⟨rfl, fun h => by first | omega | exact absurd h.1 (by rw [q51]; exact Bool.false_ne_true)⟩]
          · refine gw_al0 at65_54 (gw_il3 at65_55 (gw_il6 at65_56 (gw_il2 at65_58 (gw_callP4 at65_59 (c_ctr hP hR o4 (SR_cg (o3 100027 (by omega)) (o3 100028 (by omega)) hS) (PQ_OF hR8 o3 hQ) (S := zshl 1 (c 100044 8)) (by rw [o3 100044 (by omega)]; exact hK) hsn.2.1 (by rw [o3 100044 (by omega)]; omega) (by rw [o3 100044 (by omega)]; omega) (by omega)) (by omega) (Nat.le_of_ble_eq_true rfl) ?_))))
            rw [ctr_cg hR8 o3]
            refine gw_il5 at65_62 ?_
            refine gw_ceq at65_64 (by first | omega | exact hc _ _ | exact o4 _ _ | exact zrg _ | (have := bst_rg (l := X.2.1) hS hQ hK o1 hsn.2.1; omega) | (have := ctr_rg (l := X.2.1) (x := k) hS hQ hK o1 hsn.2.1 (by omega); omega)) (by first | omega | exact hc _ _ | exact o4 _ _ | exact zrg _ | (have := bst_rg (l := X.2.1) hS hQ hK o1 hsn.2.1; omega) | (have := ctr_rg (l := X.2.1) (x := k) hS hQ hK o1 hsn.2.1 (by omega); omega)) (fun q64 => ?_) (fun q64 => ?_)
            · refine gw_al0 at65_73 (gw_gr at65_74 (by first | exact PT_0 hP | exact PT_r5 hP | exact PT_t5 hP | exact PT_l5 hP | exact PT_r6 hP | exact PT_t6 hP | exact PT_l6 hP) (by first | exact PT_0 hP | exact PT_r5 hP | exact PT_t5 hP | exact PT_l5 hP | exact PT_r6 hP | exact PT_t6 hP | exact PT_l6 hP) (gw_il1 at65_77 (gw_il4 at65_78 (gw_iadd at65_80 (gw_al0 at65_81 (gw_gr at65_82 (by first | exact PT_0 hP | exact PT_r5 hP | exact PT_t5 hP | exact PT_l5 hP | exact PT_r6 hP | exact PT_t6 hP | exact PT_l6 hP) (by first | exact PT_0 hP | exact PT_r5 hP | exact PT_t5 hP | exact PT_l5 hP | exact PT_r6 hP | exact PT_t6 hP | exact PT_l6 hP) (gw_il6 at65_85 (gw_ia at65_87 (by first | exact Or.inl (by first | exact PT_0 hP | exact PT_r5 hP | exact PT_t5 hP | exact PT_l5 hP | exact PT_r6 hP | exact PT_t6 hP | exact PT_l6 hP) | exact Or.inr (by first | exact PT_0 hP | exact PT_r5 hP | exact PT_t5 hP | exact PT_l5 hP | exact PT_r6 hP | exact PT_t6 hP | exact PT_l6 hP)) (by first | exact PT_0 hP | exact PT_r5 hP | exact PT_t5 hP | exact PT_l5 hP | exact PT_r6 hP | exact PT_t6 hP | exact PT_l6 hP) (by first | omega | exact hc _ _ | exact o4 _ _ | exact zrg _ | (have := bst_rg (l := X.2.1) hS hQ hK o1 hsn.2.1; omega) | (have := ctr_rg (l := X.2.1) (x := k) hS hQ hK o1 hsn.2.1 (by omega); omega)) (by first | omega | exact hc _ _ | exact o4 _ _ | exact zrg _ | (have := bst_rg (l := X.2.1) hS hQ hK o1 hsn.2.1; omega) | (have := ctr_rg (l := X.2.1) (x := k) hS hQ hK o1 hsn.2.1 (by omega); omega)) (by omega) ?_))))))))
              rw [o3 100049 (by omega)]
              refine gw_iw at65_88 (by first | exact PT_0 hP | exact PT_r5 hP | exact PT_t5 hP | exact PT_l5 hP | exact PT_r6 hP | exact PT_t6 hP | exact PT_l6 hP) (by first | exact PT_0 hP | exact PT_r5 hP | exact PT_t5 hP | exact PT_l5 hP | exact PT_r6 hP | exact PT_t6 hP | exact PT_l6 hP) (by first | omega | exact hc _ _ | exact o4 _ _ | exact zrg _ | (have := bst_rg (l := X.2.1) hS hQ hK o1 hsn.2.1; omega) | (have := ctr_rg (l := X.2.1) (x := k) hS hQ hK o1 hsn.2.1 (by omega); omega)) (by first | omega | exact hc _ _ | exact o4 _ _ | exact zrg _ | (have := bst_rg (l := X.2.1) hS hQ hK o1 hsn.2.1; omega) | (have := ctr_rg (l := X.2.1) (x := k) hS hQ hK o1 hsn.2.1 (by omega); omega)) (by omega) (gw_il2 at65_89 (gw_const at65_90 (gw_il6 at65_91 (gw_ishl at65_93 (gw_const at65_94 (gw_ixor at65_95 (gw_iand at65_96 (gw_is2 at65_97 (h := (gw_il6 at65_98 (gw_is3 at65_100 (h := (gw_inc4 at65_101 (h := (gw_goto at65_104 ?_)))))))))))))))
              have hk9 : nxt c R X.2.1 X.1 = k := by
                unfold nxt
                first | (rw [show c 100044 8 - 1 = k by omega]; exact hk3.symm) | (rw [itI_fx hk0 (fun j hj => by rw [← hk3]; unfold nxf; rw [if_neg (fun h => h.2 (by rw [← h.1]; exact ⟨by assumption, by omega⟩))]) _ hk2]; exact hk3.symm)
              have hch : chx c R p (i + 1) = (clr X.1 k, k, gu X.2.2 100048 (p + i) (c 100049 k)) := by
                unfold chx at hX ⊢
                rw [itI_s _ _ hi0, ← hX]
                unfold chs
                rw [hk9]
              have e := fun u v hu hv => ih (i + 1) (by omega) (by omega) (by omega) _ u v hu hv hch.symm
              dsimp only at e
              exact e _ _ rfl rfl
            · refine gw_inc6 at65_67 (h := (gw_goto at65_70 ?_))
              refine ih2 (k + 1) (by omega) (by omega) (by omega) ?_
              rw [itI_s _ _ hk0, ← hk3]
              unfold nxf
              rw [if_pos ⟨rfl, fun h => by first | omega | exact absurd h.1 (by rw [q51]; exact Bool.false_ne_true)⟩]
      exact lp34 0 (by omega) (by omega) (by omega) rfl
  exact lp14 0 (by omega) (by omega) (by omega) (zshl 1 (c 100044 8) - 1, -1, c) _ _ rfl rfl rfl
set_option maxHeartbeats 1000000 in
theorem c_turnsOf {g : Nat} {T : gT} {c J : gC} {R Z : Nat} (hP : PT T R Z) (hR : RT T) (hc : RG c) (hS : SR c) (hA : PR c) (hT : NT T 100014) (hN : NR c 100014) (hD : -1 ≤ c 100014 3 ∧ c 100014 3 < 10) {z k : Int} (hz : -2147483648 ≤ z ∧ z < 2147483648) (hk : -2147483648 ≤ k ∧ k < 2147483648) : gE g 66 3 [.ref 100044, gi z, gi k] (gm T c J) (gR (gi (trn c z k)) (gm T c J)) := by
  have hsz := szo_rg hA z
  refine gE_mk am_r66 rfl (Or.inr ⟨_, rfl, (by first | exact PT_0 hP | exact PT_n hP | exact PT_o hP | exact RT_0 hR | exact NT_0 hT)⟩) (fun d hd => ?_)
  show gw d g 66 0 [.ref 100044, gi z, gi k, am_U, am_U, am_U, am_U, am_U, am_U] [] _ _
  refine gw_const at66_0 (gw_is3 at66_1 (h := (gw_const at66_2 (gw_is4 at66_3 (h := (gw_const at66_5 (gw_is5 at66_6 (h := ?_))))))))
  have lp8 : ∀ i : Int, 0 ≤ i → i ≤ 12 → i ≤ szo c z → ∀ (X : Int × Int) (u v w : Value), am_nl u = true → am_nl v = true → am_nl w = true → X = itI (tso c z k) (0, -1) i → gw d g 66 8 [.ref 100044, gi z, gi k, gi X.1, gi X.2, gi i, u, v, w] [] (gm T c J) (gR (gi (trn c z k)) (gm T c J)) := by
    refine ind_up 12 ?_
    intro i hi0 hi1 ih hi2 X u v w hu hv hw hX
    have hx2 : -1 ≤ X.2 ∧ X.2 < 24 := by rw [hX]; exact tsoi_rg c z k i
    refine gw_il5 at66_8 ?_
    refine gw_al0 at66_10 (gw_il1 at66_11 (gw_callP2 at66_12 (c_sizeOf hP hc hA (by omega)) (by omega) (Nat.le_of_ble_eq_true rfl) ?_))
    refine gw_cge at66_15 (by first | omega | exact hc _ _ | exact bi_rg _ | exact zrg _) (by first | omega | exact hc _ _ | exact bi_rg _ | exact zrg _) (fun q15 => ?_) (fun q15 => ?_)
    · refine gw_const at66_104 (gw_is5 at66_105 (h := ?_))
      have lp107 : ∀ s : Int, 0 ≤ s → s ≤ 24 → ∀ (V : Int × Int) (u v w : Value), am_nl u = true → am_nl v = true → am_nl w = true → V = itI (fun _ => tsb c k) X s → gw d g 66 107 [.ref 100044, gi z, gi k, gi V.1, gi V.2, gi s, u, v, w] [] (gm T c J) (gR (gi (trn c z k)) (gm T c J)) := by
        refine ind_up 24 ?_
        intro s hs0 hs1 ih3 V u v w hu hv hw hV
        have hv2 : -1 ≤ V.2 ∧ V.2 < 24 := by rw [hV]; exact tsbi_rg hx2 s
        refine gw_il5 at66_107 ?_
        refine gw_bip at66_109 (by decide) ?_
        refine gw_cge at66_111 (by first | omega | exact hc _ _ | exact bi_rg _ | exact zrg _) (by first | omega | exact hc _ _ | exact bi_rg _ | exact zrg _) (fun q111 => ?_) (fun q111 => ?_)
        · refine gw_il3 at66_182 (gw_ri at66_183 am_r66.2.1 (gR_i ?_))
          unfold trn
          rw [show szo c z = i by omega, ← hX]
          first | (rw [show (24 : Int) = s by omega, ← hV]; done) | (rw [itI_fx hs0 (fun j2 hj2 => by rw [← hV]; exact if_pos (by omega)) 24 hs1, ← hV]; done)
        · refine gw_il4 at66_114 (gw_const at66_116 ?_)
          refine gw_ceq at66_117 (by first | omega | exact hc _ _ | exact bi_rg _ | exact zrg _) (by first | omega | exact hc _ _ | exact bi_rg _ | exact zrg _) (fun q117 => ?_) (fun q117 => ?_)
          · refine gw_il3 at66_182 (gw_ri at66_183 am_r66.2.1 (gR_i ?_))
            unfold trn
            rw [show szo c z = i by omega, ← hX]
            first | (rw [show (24 : Int) = s by omega, ← hV]; done) | (rw [itI_fx hs0 (fun j2 hj2 => by rw [← hV]; exact if_pos (by omega)) 24 hs1, ← hV]; done)
          · refine gw_al0 at66_120 (gw_gr at66_121 (by first | exact PT_0 hP | exact PT_n hP | exact PT_o hP | exact RT_0 hR | exact NT_0 hT) (by first | exact PT_0 hP | exact PT_n hP | exact PT_o hP | exact RT_0 hR | exact NT_0 hT) (gw_il4 at66_124 (gw_callP2 at66_126 (c_endOf hT hc (by omega)) (by omega) (Nat.le_of_ble_eq_true rfl) ?_)))
            have hen := en_rg hN V.2
            refine gw_al0 at66_129 (gw_gr at66_130 (by first | exact PT_0 hP | exact PT_n hP | exact PT_o hP | exact RT_0 hR | exact NT_0 hT) (by first | exact PT_0 hP | exact PT_n hP | exact PT_o hP | exact RT_0 hR | exact NT_0 hT) (gw_gf (j := 3) at66_133 (by first | exact PT_0 hP | exact PT_n hP | exact PT_o hP | exact RT_0 hR | exact NT_0 hT) rfl ?_))
            refine gw_ceq at66_136 (by first | omega | exact hc _ _ | exact bi_rg _ | exact zrg _) (by first | omega | exact hc _ _ | exact bi_rg _ | exact zrg _) (fun q136 => ?_) (fun q136 => ?_)
            · refine gw_il3 at66_182 (gw_ri at66_183 am_r66.2.1 (gR_i ?_))
              unfold trn
              rw [show szo c z = i by omega, ← hX]
              first | (rw [show (24 : Int) = s by omega, ← hV]; done) | (rw [itI_fx hs0 (fun j2 hj2 => by rw [← hV]; exact if_pos (by omega)) 24 hs1, ← hV]; done)
            · refine gw_al0 at66_139 (gw_gr at66_140 (by first | exact PT_0 hP | exact PT_n hP | exact PT_o hP | exact RT_0 hR | exact NT_0 hT) (by first | exact PT_0 hP | exact PT_n hP | exact PT_o hP | exact RT_0 hR | exact NT_0 hT) (gw_il4 at66_143 (gw_al0 at66_145 (gw_gr at66_146 (by first | exact PT_0 hP | exact PT_n hP | exact PT_o hP | exact RT_0 hR | exact NT_0 hT) (by first | exact PT_0 hP | exact PT_n hP | exact PT_o hP | exact RT_0 hR | exact NT_0 hT) (gw_gf (j := 3) at66_149 (by first | exact PT_0 hP | exact PT_n hP | exact PT_o hP | exact RT_0 hR | exact NT_0 hT) rfl (gw_callP1 at66_152 (c_placeOf) (by omega) (Nat.le_of_ble_eq_true rfl) (gw_callP3 at66_155 (c_firstArc hR hc hS (by omega) (by omega)) (by omega) (Nat.le_of_ble_eq_true rfl) ?_)))))))
              have hfb := fst1_rg c V.2 (24 + c 100014 3)
              refine gw_is6 at66_158 (h := (gw_il3 at66_160 (gw_al0 at66_161 (gw_il4 at66_162 (gw_il6 at66_164 (gw_il2 at66_166 (gw_callP4 at66_167 (c_isTurn hP hc hT hN (by omega) (by omega) (by omega)) (by omega) (Nat.le_of_ble_eq_true rfl) (gw_iadd at66_170 (gw_is3 at66_171 (h := (gw_il6 at66_172 (gw_is4 at66_174 (h := (gw_inc5 at66_176 (h := (gw_goto at66_179 ?_))))))))))))))))
              have hV2 : itI (fun _ => tsb c k) X (s + 1) = (V.1 + ist c V.2 (fst1 c V.2 (24 + c 100014 3)).1 k, (fst1 c V.2 (24 + c 100014 3)).1) := by
                rw [itI_s _ _ hs0, ← hV]
                exact if_neg (by omega)
              have e := fun u v w hu hv hw => ih3 (s + 1) (by omega) (by omega) _ u v w hu hv hw hV2.symm
              dsimp only at e
              exact e _ _ _ rfl (by assumption) (by assumption)
      exact lp107 0 (by omega) (by omega) X _ _ _ (by assumption) (by assumption) (by assumption) rfl
    · refine gw_al0 at66_18 (gw_il1 at66_19 (gw_il5 at66_20 (gw_callP3 at66_22 (c_arcAt hP hc hA (by omega) (by omega)) (by omega) (Nat.le_of_ble_eq_true rfl) (gw_is6 at66_25 (h := ?_)))))
      have hpa := paa_rg hA z i
      refine gw_const at66_27 (gw_is7 at66_28 (h := ?_))
      have lp30 : ∀ j : Int, 0 ≤ j → j ≤ 24 → ∀ (Y : Int × Int) (w : Value), am_nl w = true → Y = itI (fun _ => tsf c k (paa c z i)) X j → gw d g 66 30 [.ref 100044, gi z, gi k, gi Y.1, gi Y.2, gi i, gi (paa c z i), gi j, w] [] (gm T c J) (gR (gi (trn c z k)) (gm T c J)) := by
        refine ind_up 24 ?_
        intro j hj0 hj1 ih2 Y w hw hY
        have hy2 : -1 ≤ Y.2 ∧ Y.2 < 24 := by rw [hY]; exact tsfi_rg hx2 j
        refine gw_il7 at66_30 ?_
        refine gw_bip at66_32 (by decide) ?_
        refine gw_cge at66_34 (by first | omega | exact hc _ _ | exact bi_rg _ | exact zrg _) (by first | omega | exact hc _ _ | exact bi_rg _ | exact zrg _) (fun q34 => ?_) (fun q34 => ?_)
        · refine gw_inc5 at66_98 (h := (gw_goto at66_101 ?_))
          refine ih (i + 1) (by omega) (by omega) (by omega) Y _ _ _ rfl rfl (by assumption) ?_
          rw [itI_s _ _ hi0, ← hX]
          unfold tso
          first | (rw [hY, show j = 24 by omega]; done) | (rw [itI_fx hj0 (fun j2 hj2 => by rw [← hY]; exact if_pos (by omega)) 24 hj1, ← hY]; done)
        · refine gw_il4 at66_37 (gw_il6 at66_39 ?_)
          refine gw_ceq at66_41 (by first | omega | exact hc _ _ | exact bi_rg _ | exact zrg _) (by first | omega | exact hc _ _ | exact bi_rg _ | exact zrg _) (fun q41 => ?_) (fun q41 => ?_)
          · refine gw_inc5 at66_98 (h := (gw_goto at66_101 ?_))
            refine ih (i + 1) (by omega) (by omega) (by omega) Y _ _ _ rfl rfl (by assumption) ?_
            rw [itI_s _ _ hi0, ← hX]
            unfold tso
            first | (rw [hY, show j = 24 by omega]; done) | (rw [itI_fx hj0 (fun j2 hj2 => by rw [← hY]; exact if_pos (by omega)) 24 hj1, ← hY]; done)
          · refine gw_al0 at66_44 (gw_gr at66_45 (by first | exact PT_0 hP | exact PT_n hP | exact PT_o hP | exact RT_0 hR | exact NT_0 hT) (by first | exact PT_0 hP | exact PT_n hP | exact PT_o hP | exact RT_0 hR | exact NT_0 hT) (gw_il4 at66_48 (gw_const at66_50 ?_)))
            refine gw_cne at66_51 (by first | omega | exact hc _ _ | exact bi_rg _ | exact zrg _) (by first | omega | exact hc _ _ | exact bi_rg _ | exact zrg _) (fun q51 => ?_) (fun q51 => ?_)
            · refine gw_il4 at66_67 (gw_il6 at66_69 (gw_callP3 at66_71 (c_firstArc hR hc hS (by omega) (by omega)) (by omega) (Nat.le_of_ble_eq_true rfl) (gw_is8 at66_74 (h := ?_))))
              have hfa := fst1_rg c (if Y.2 = -1 then 24 + c 100014 3 else Y.2) (paa c z i)
              first | rw [if_pos (by omega)] at hfa | rw [if_neg (by omega)] at hfa
              refine gw_il3 at66_76 (gw_al0 at66_77 (gw_il4 at66_78 (gw_il8 at66_80 (gw_il2 at66_82 (gw_callP4 at66_83 (c_isTurn hP hc hT hN (by omega) (by omega) (by omega)) (by omega) (Nat.le_of_ble_eq_true rfl) (gw_iadd at66_86 (gw_is3 at66_87 (h := (gw_il8 at66_88 (gw_is4 at66_90 (h := (gw_inc7 at66_92 (h := (gw_goto at66_95 ?_))))))))))))))
              have hY2 : itI (fun _ => tsf c k (paa c z i)) X (j + 1) = (Y.1 + ist c Y.2 (fst1 c (if Y.2 = -1 then 24 + c 100014 3 else Y.2) (paa c z i)).1 k, (fst1 c (if Y.2 = -1 then 24 + c 100014 3 else Y.2) (paa c z i)).1) := by
                rw [itI_s _ _ hj0, ← hY]
                exact if_neg (by omega)
              have e := fun w hw => ih2 (j + 1) (by omega) (by omega) _ w hw hY2.symm
              dsimp only at e
              first | (rw [if_pos (by omega)] at e; exact e _ rfl) | (rw [if_neg (by omega)] at e; exact e _ rfl)
            · refine gw_al0 at66_54 (gw_gr at66_55 (by first | exact PT_0 hP | exact PT_n hP | exact PT_o hP | exact RT_0 hR | exact NT_0 hT) (by first | exact PT_0 hP | exact PT_n hP | exact PT_o hP | exact RT_0 hR | exact NT_0 hT) (gw_gf (j := 3) at66_58 (by first | exact PT_0 hP | exact PT_n hP | exact PT_o hP | exact RT_0 hR | exact NT_0 hT) rfl (gw_callP1 at66_61 (c_placeOf) (by omega) (Nat.le_of_ble_eq_true rfl) (gw_goto at66_64 (gw_il6 at66_69 (gw_callP3 at66_71 (c_firstArc hR hc hS (by omega) (by omega)) (by omega) (Nat.le_of_ble_eq_true rfl) (gw_is8 at66_74 (h := ?_))))))))
              have hfa := fst1_rg c (if Y.2 = -1 then 24 + c 100014 3 else Y.2) (paa c z i)
              first | rw [if_pos (by omega)] at hfa | rw [if_neg (by omega)] at hfa
              refine gw_il3 at66_76 (gw_al0 at66_77 (gw_il4 at66_78 (gw_il8 at66_80 (gw_il2 at66_82 (gw_callP4 at66_83 (c_isTurn hP hc hT hN (by omega) (by omega) (by omega)) (by omega) (Nat.le_of_ble_eq_true rfl) (gw_iadd at66_86 (gw_is3 at66_87 (h := (gw_il8 at66_88 (gw_is4 at66_90 (h := (gw_inc7 at66_92 (h := (gw_goto at66_95 ?_))))))))))))))
              have hY2 : itI (fun _ => tsf c k (paa c z i)) X (j + 1) = (Y.1 + ist c Y.2 (fst1 c (if Y.2 = -1 then 24 + c 100014 3 else Y.2) (paa c z i)).1 k, (fst1 c (if Y.2 = -1 then 24 + c 100014 3 else Y.2) (paa c z i)).1) := by
                rw [itI_s _ _ hj0, ← hY]
                exact if_neg (by omega)
              have e := fun w hw => ih2 (j + 1) (by omega) (by omega) _ w hw hY2.symm
              dsimp only at e
              first | (rw [if_pos (by omega)] at e; exact e _ rfl) | (rw [if_neg (by omega)] at e; exact e _ rfl)
      exact lp30 0 (by omega) (by omega) X _ (by assumption) rfl
  exact lp8 0 (by omega) (by omega) (by omega) (0, -1) _ _ _ rfl rfl rfl rfl
