/-! the reference: a node's statement -/
def mpn4 (b : Nat) (n x y : Int) (c : gC) : gC := if mgd c = true then ndm b n x y c else c
def mpn3 (b : Nat) (n x : Int) (c : gC) : gC := mpn4 b n x (mnu 0 99 c).1 (mnu 0 99 c).2
def mpnP (b : Nat) (x : Int) (c : gC) : Bool := (decide (c 500001 19 = 2) && inr (c 500001 20) 0 99) && mtk c b x (c 500001 20)
def mpn2 (b : Nat) (n x : Int) (c : gC) : gC := mpn3 b n x (mfi (mpnP b x c) c 3)
def mpn1 (b : Nat) (n : Int) (c : gC) : gC := mpn2 b n (mnu 0 99 (mon c)).1 (mnu 0 99 (mon c)).2
def mpn0 (b : Nat) (n : Int) (c : gC) : gC := mpn1 b n (mfi (decide (¬ mfn c b n = -1)) c 3)
def mpnA (b : Nat) (c : gC) : gC := mpn0 b (mnh (mon c)).1 (mnh (mon c)).2
def mpn (b : Nat) (c : gC) : gC := mpnA b (mfi (decide (c b 0 = 10)) c 5)
theorem mpn4_t {b : Nat} {n x y : Int} {c : gC} (h : mgd c = true) : mpn4 b n x y c = ndm b n x y c := if_pos h
theorem mpn4_f {b : Nat} {n x y : Int} {c : gC} (h : mgd c = false) : mpn4 b n x y c = c := if_neg (by rw [h]; decide)
theorem hg_of {b : Nat} {c m : gC} {P : Prop} {j z : Int} (hb : b < 200002) (hG : MG c m) (h : mgd c = true → c b j < z ∧ P) : mgd m = true → m b j < z ∧ P := fun e => by rw [hG.1 b (by omega)]; exact h (hG.2 e)
theorem MX_pn4 {b : Nat} {c m : gC} {n x y : Int} (hb : b < 200002) (h : MX b c m) (h1 : -2147483648 ≤ n ∧ n < 2147483648) (h2 : 0 ≤ x ∧ x ≤ 99) (h3 : 0 ≤ y ∧ y ≤ 99) (hg : mgd m = true → m b 0 < 10 ∧ True) : MX b c (mpn4 b n x y m) := by
  unfold mpn4
  split
  · rename_i e; exact MX_nd hb h (hg e).1 h1 h2 h3
  · exact h
theorem MX_pn2 {b : Nat} {c m : gC} {n x : Int} (hb : b < 200002) (h : MX b c m) (h1 : -2147483648 ≤ n ∧ n < 2147483648) (h2 : 0 ≤ x ∧ x ≤ 99) (hg : mgd m = true → m b 0 < 10 ∧ True) : MX b c (mpn2 b n x m) := by
  have g1 := MX_fi (p := mpnP b x m) (z := 3) hb h (by decide)
  have := mnu_rg (b := b) (l := 0) (u := 99) (c := mfi (mpnP b x m) m 3) (by decide)
  exact MX_pn4 hb (MX_nu (l := 0) (u := 99) hb g1) h1 h2 this (hg_of hb (MG_tr (MG_fi (by decide)) (MG_nu (by omega) g1.1.1)) hg)
theorem MX_pn1 {b : Nat} {c m : gC} {n : Int} (hb : b < 200002) (h : MX b c m) (h1 : -2147483648 ≤ n ∧ n < 2147483648) (hg : mgd m = true → m b 0 < 10 ∧ True) : MX b c (mpn1 b n m) := by
  have g1 := MX_mon hb h
  have := mnu_rg (b := b) (l := 0) (u := 99) (c := mon m) (by decide)
  exact MX_pn2 hb (MX_nu (l := 0) (u := 99) hb g1) h1 this (hg_of hb (MG_tr (MG_mon h.1.1.1.1) (MG_nu (by omega) g1.1.1)) hg)
theorem MX_pnA {b : Nat} {c m : gC} (hb : b < 200002) (h : MX b c m) (hg : mgd m = true → m b 0 < 10 ∧ True) : MX b c (mpnA b m) := by
  have g1 := MX_nh hb (MX_mon hb h)
  have := mnh_rg (MX_mon hb h).1.1.1
  exact MX_pn1 hb (MX_fi (p := decide (¬ mfn (mnh (mon m)).2 b (mnh (mon m)).1 = -1)) (z := 3) hb g1 (by decide)) (by omega) (hg_of hb (MG_tr (MG_tr (MG_mon h.1.1.1.1) MG_nh) (MG_fi (by decide))) hg)
theorem hg_n {b : Nat} {c : gC} (h : MP b c) (hb : b < 200002) : mgd (mfi (decide (c b 0 = 10)) c 5) = true → mfi (decide (c b 0 = 10)) c 5 b 0 < 10 ∧ True := fun e => by
  have h2 := mfi_g (by decide) e
  rw [h2.2.2]
  have := h.2.1.1
  have := of_decide_eq_false h2.2.1
  exact ⟨by omega, trivial⟩
theorem MX_pn {b : Nat} {c m : gC} (hb : b < 200002) (h : MX b c m) : MX b c (mpn b m) := MX_pnA hb (MX_fi hb h (by decide)) (hg_n h.1.1 hb)
set_option maxHeartbeats 1000000 in
theorem m_pn113 {d g : Nat} {T : gT} {c J : gC} (hd : 2 ≤ d) {b : Nat} (hM : MT T b) (hb : b < 200002) (h : MK b T c) {n : Int} (hn : -2147483648 ≤ n ∧ n < 2147483648) {x : Int} (hx : 0 ≤ x ∧ x ≤ 99) {y : Int} (hy : 0 ≤ y ∧ y ≤ 99) {u4 : Value} (hu4 : am_nl u4 = true) (hg : mgd c = true → c b 0 < 10 ∧ True) : gw d g 310 113 [.ref 500001, gi n, gi x, gi y, u4] [] (gm T c J) (fun o M1 => o = .inl none ∧ M1 = gm T (mpn4 b n x y c) J) := by
  have hn0 := h.1.2.1.1
  refine gw_al0 at310_113 (gw_callP1 at310_114 (m_good hM h.1.1.1.1) (by omega) (Nat.le_of_ble_eq_true rfl) ?_)
  refine gw_bne at310_117 (fun q117 => ?_) (fun q117 => ?_)
  · have hn1 := (hg q117).1
    refine gw_bip at310_121 (by decide) (gw_const at310_123 (gw_al0 at310_124 (gw_gr at310_125 (by first | exact MT_0 hM | exact MT_now hM | exact MT_bt hM | exact MT_bl hM | exact MT_r0 hM | exact MT_t0 hM | exact MT_l0 hM | exact MT_r1 hM | exact MT_t1 hM | exact MT_l1 hM | exact MT_r2 hM | exact MT_t2 hM | exact MT_l2 hM | exact MT_r3 hM | exact MT_t3 hM | exact MT_l3 hM | exact MT_r4 hM | exact MT_t4 hM | exact MT_l4 hM | exact MT_r5 hM | exact MT_t5 hM | exact MT_l5 hM | exact MT_r6 hM | exact MT_t6 hM | exact MT_l6 hM | exact MT_r7 hM | exact MT_t7 hM | exact MT_l7 hM | exact MT_r8 hM | exact MT_t8 hM | exact MT_l8 hM | exact MT_r9 hM | exact MT_t9 hM | exact MT_l9 hM | exact MT_r10 hM | exact MT_t10 hM | exact MT_l10 hM) (by first | exact MT_0 hM | exact MT_now hM | exact MT_bt hM | exact MT_bl hM | exact MT_r0 hM | exact MT_t0 hM | exact MT_l0 hM | exact MT_r1 hM | exact MT_t1 hM | exact MT_l1 hM | exact MT_r2 hM | exact MT_t2 hM | exact MT_l2 hM | exact MT_r3 hM | exact MT_t3 hM | exact MT_l3 hM | exact MT_r4 hM | exact MT_t4 hM | exact MT_l4 hM | exact MT_r5 hM | exact MT_t5 hM | exact MT_l5 hM | exact MT_r6 hM | exact MT_t6 hM | exact MT_l6 hM | exact MT_r7 hM | exact MT_t7 hM | exact MT_l7 hM | exact MT_r8 hM | exact MT_t8 hM | exact MT_l8 hM | exact MT_r9 hM | exact MT_t9 hM | exact MT_l9 hM | exact MT_r10 hM | exact MT_t10 hM | exact MT_l10 hM) (gw_const at310_128 (gw_ia at310_129 (by first | exact Or.inl (by first | exact MT_0 hM | exact MT_now hM | exact MT_bt hM | exact MT_bl hM | exact MT_r0 hM | exact MT_t0 hM | exact MT_l0 hM | exact MT_r1 hM | exact MT_t1 hM | exact MT_l1 hM | exact MT_r2 hM | exact MT_t2 hM | exact MT_l2 hM | exact MT_r3 hM | exact MT_t3 hM | exact MT_l3 hM | exact MT_r4 hM | exact MT_t4 hM | exact MT_l4 hM | exact MT_r5 hM | exact MT_t5 hM | exact MT_l5 hM | exact MT_r6 hM | exact MT_t6 hM | exact MT_l6 hM | exact MT_r7 hM | exact MT_t7 hM | exact MT_l7 hM | exact MT_r8 hM | exact MT_t8 hM | exact MT_l8 hM | exact MT_r9 hM | exact MT_t9 hM | exact MT_l9 hM | exact MT_r10 hM | exact MT_t10 hM | exact MT_l10 hM) | exact Or.inr (by first | exact MT_0 hM | exact MT_now hM | exact MT_bt hM | exact MT_bl hM | exact MT_r0 hM | exact MT_t0 hM | exact MT_l0 hM | exact MT_r1 hM | exact MT_t1 hM | exact MT_l1 hM | exact MT_r2 hM | exact MT_t2 hM | exact MT_l2 hM | exact MT_r3 hM | exact MT_t3 hM | exact MT_l3 hM | exact MT_r4 hM | exact MT_t4 hM | exact MT_l4 hM | exact MT_r5 hM | exact MT_t5 hM | exact MT_l5 hM | exact MT_r6 hM | exact MT_t6 hM | exact MT_l6 hM | exact MT_r7 hM | exact MT_t7 hM | exact MT_l7 hM | exact MT_r8 hM | exact MT_t8 hM | exact MT_l8 hM | exact MT_r9 hM | exact MT_t9 hM | exact MT_l9 hM | exact MT_r10 hM | exact MT_t10 hM | exact MT_l10 hM)) (by first | exact MT_0 hM | exact MT_now hM | exact MT_bt hM | exact MT_bl hM | exact MT_r0 hM | exact MT_t0 hM | exact MT_l0 hM | exact MT_r1 hM | exact MT_t1 hM | exact MT_l1 hM | exact MT_r2 hM | exact MT_t2 hM | exact MT_l2 hM | exact MT_r3 hM | exact MT_t3 hM | exact MT_l3 hM | exact MT_r4 hM | exact MT_t4 hM | exact MT_l4 hM | exact MT_r5 hM | exact MT_t5 hM | exact MT_l5 hM | exact MT_r6 hM | exact MT_t6 hM | exact MT_l6 hM | exact MT_r7 hM | exact MT_t7 hM | exact MT_l7 hM | exact MT_r8 hM | exact MT_t8 hM | exact MT_l8 hM | exact MT_r9 hM | exact MT_t9 hM | exact MT_l9 hM | exact MT_r10 hM | exact MT_t10 hM | exact MT_l10 hM) (by first | omega | exact h.1.1.1.1 _ _ | exact bi_rg _ | (rw [gu_j (by omega), gu_j (by omega), gu_j (by omega)]; exact h.1.1.1.1 _ _)) (by first | omega | exact h.1.1.1.1 _ _ | exact bi_rg _ | (rw [gu_j (by omega), gu_j (by omega), gu_j (by omega)]; exact h.1.1.1.1 _ _)) (by omega) (gw_imul at310_130 (gw_iadd at310_131 (gw_is4 at310_132 (h := (gw_al0 at310_134 (gw_gr at310_135 (by first | exact MT_0 hM | exact MT_now hM | exact MT_bt hM | exact MT_bl hM | exact MT_r0 hM | exact MT_t0 hM | exact MT_l0 hM | exact MT_r1 hM | exact MT_t1 hM | exact MT_l1 hM | exact MT_r2 hM | exact MT_t2 hM | exact MT_l2 hM | exact MT_r3 hM | exact MT_t3 hM | exact MT_l3 hM | exact MT_r4 hM | exact MT_t4 hM | exact MT_l4 hM | exact MT_r5 hM | exact MT_t5 hM | exact MT_l5 hM | exact MT_r6 hM | exact MT_t6 hM | exact MT_l6 hM | exact MT_r7 hM | exact MT_t7 hM | exact MT_l7 hM | exact MT_r8 hM | exact MT_t8 hM | exact MT_l8 hM | exact MT_r9 hM | exact MT_t9 hM | exact MT_l9 hM | exact MT_r10 hM | exact MT_t10 hM | exact MT_l10 hM) (by first | exact MT_0 hM | exact MT_now hM | exact MT_bt hM | exact MT_bl hM | exact MT_r0 hM | exact MT_t0 hM | exact MT_l0 hM | exact MT_r1 hM | exact MT_t1 hM | exact MT_l1 hM | exact MT_r2 hM | exact MT_t2 hM | exact MT_l2 hM | exact MT_r3 hM | exact MT_t3 hM | exact MT_l3 hM | exact MT_r4 hM | exact MT_t4 hM | exact MT_l4 hM | exact MT_r5 hM | exact MT_t5 hM | exact MT_l5 hM | exact MT_r6 hM | exact MT_t6 hM | exact MT_l6 hM | exact MT_r7 hM | exact MT_t7 hM | exact MT_l7 hM | exact MT_r8 hM | exact MT_t8 hM | exact MT_l8 hM | exact MT_r9 hM | exact MT_t9 hM | exact MT_l9 hM | exact MT_r10 hM | exact MT_t10 hM | exact MT_l10 hM) (gw_il4 at310_138 (gw_il1 at310_140 (gw_iw at310_141 (by first | exact MT_0 hM | exact MT_now hM | exact MT_bt hM | exact MT_bl hM | exact MT_r0 hM | exact MT_t0 hM | exact MT_l0 hM | exact MT_r1 hM | exact MT_t1 hM | exact MT_l1 hM | exact MT_r2 hM | exact MT_t2 hM | exact MT_l2 hM | exact MT_r3 hM | exact MT_t3 hM | exact MT_l3 hM | exact MT_r4 hM | exact MT_t4 hM | exact MT_l4 hM | exact MT_r5 hM | exact MT_t5 hM | exact MT_l5 hM | exact MT_r6 hM | exact MT_t6 hM | exact MT_l6 hM | exact MT_r7 hM | exact MT_t7 hM | exact MT_l7 hM | exact MT_r8 hM | exact MT_t8 hM | exact MT_l8 hM | exact MT_r9 hM | exact MT_t9 hM | exact MT_l9 hM | exact MT_r10 hM | exact MT_t10 hM | exact MT_l10 hM) (by first | exact MT_0 hM | exact MT_now hM | exact MT_bt hM | exact MT_bl hM | exact MT_r0 hM | exact MT_t0 hM | exact MT_l0 hM | exact MT_r1 hM | exact MT_t1 hM | exact MT_l1 hM | exact MT_r2 hM | exact MT_t2 hM | exact MT_l2 hM | exact MT_r3 hM | exact MT_t3 hM | exact MT_l3 hM | exact MT_r4 hM | exact MT_t4 hM | exact MT_l4 hM | exact MT_r5 hM | exact MT_t5 hM | exact MT_l5 hM | exact MT_r6 hM | exact MT_t6 hM | exact MT_l6 hM | exact MT_r7 hM | exact MT_t7 hM | exact MT_l7 hM | exact MT_r8 hM | exact MT_t8 hM | exact MT_l8 hM | exact MT_r9 hM | exact MT_t9 hM | exact MT_l9 hM | exact MT_r10 hM | exact MT_t10 hM | exact MT_l10 hM) (by first | omega | exact h.1.1.1.1 _ _ | exact bi_rg _ | (rw [gu_j (by omega), gu_j (by omega), gu_j (by omega)]; exact h.1.1.1.1 _ _)) (by first | omega | exact h.1.1.1.1 _ _ | exact bi_rg _ | (rw [gu_j (by omega), gu_j (by omega), gu_j (by omega)]; exact h.1.1.1.1 _ _)) (by omega) (gw_al0 at310_142 (gw_gr at310_143 (by first | exact MT_0 hM | exact MT_now hM | exact MT_bt hM | exact MT_bl hM | exact MT_r0 hM | exact MT_t0 hM | exact MT_l0 hM | exact MT_r1 hM | exact MT_t1 hM | exact MT_l1 hM | exact MT_r2 hM | exact MT_t2 hM | exact MT_l2 hM | exact MT_r3 hM | exact MT_t3 hM | exact MT_l3 hM | exact MT_r4 hM | exact MT_t4 hM | exact MT_l4 hM | exact MT_r5 hM | exact MT_t5 hM | exact MT_l5 hM | exact MT_r6 hM | exact MT_t6 hM | exact MT_l6 hM | exact MT_r7 hM | exact MT_t7 hM | exact MT_l7 hM | exact MT_r8 hM | exact MT_t8 hM | exact MT_l8 hM | exact MT_r9 hM | exact MT_t9 hM | exact MT_l9 hM | exact MT_r10 hM | exact MT_t10 hM | exact MT_l10 hM) (by first | exact MT_0 hM | exact MT_now hM | exact MT_bt hM | exact MT_bl hM | exact MT_r0 hM | exact MT_t0 hM | exact MT_l0 hM | exact MT_r1 hM | exact MT_t1 hM | exact MT_l1 hM | exact MT_r2 hM | exact MT_t2 hM | exact MT_l2 hM | exact MT_r3 hM | exact MT_t3 hM | exact MT_l3 hM | exact MT_r4 hM | exact MT_t4 hM | exact MT_l4 hM | exact MT_r5 hM | exact MT_t5 hM | exact MT_l5 hM | exact MT_r6 hM | exact MT_t6 hM | exact MT_l6 hM | exact MT_r7 hM | exact MT_t7 hM | exact MT_l7 hM | exact MT_r8 hM | exact MT_t8 hM | exact MT_l8 hM | exact MT_r9 hM | exact MT_t9 hM | exact MT_l9 hM | exact MT_r10 hM | exact MT_t10 hM | exact MT_l10 hM) (gw_il4 at310_146 (gw_const at310_148 (gw_iadd at310_149 (gw_il2 at310_150 (gw_iw at310_151 (by first | exact MT_0 hM | exact MT_now hM | exact MT_bt hM | exact MT_bl hM | exact MT_r0 hM | exact MT_t0 hM | exact MT_l0 hM | exact MT_r1 hM | exact MT_t1 hM | exact MT_l1 hM | exact MT_r2 hM | exact MT_t2 hM | exact MT_l2 hM | exact MT_r3 hM | exact MT_t3 hM | exact MT_l3 hM | exact MT_r4 hM | exact MT_t4 hM | exact MT_l4 hM | exact MT_r5 hM | exact MT_t5 hM | exact MT_l5 hM | exact MT_r6 hM | exact MT_t6 hM | exact MT_l6 hM | exact MT_r7 hM | exact MT_t7 hM | exact MT_l7 hM | exact MT_r8 hM | exact MT_t8 hM | exact MT_l8 hM | exact MT_r9 hM | exact MT_t9 hM | exact MT_l9 hM | exact MT_r10 hM | exact MT_t10 hM | exact MT_l10 hM) (by first | exact MT_0 hM | exact MT_now hM | exact MT_bt hM | exact MT_bl hM | exact MT_r0 hM | exact MT_t0 hM | exact MT_l0 hM | exact MT_r1 hM | exact MT_t1 hM | exact MT_l1 hM | exact MT_r2 hM | exact MT_t2 hM | exact MT_l2 hM | exact MT_r3 hM | exact MT_t3 hM | exact MT_l3 hM | exact MT_r4 hM | exact MT_t4 hM | exact MT_l4 hM | exact MT_r5 hM | exact MT_t5 hM | exact MT_l5 hM | exact MT_r6 hM | exact MT_t6 hM | exact MT_l6 hM | exact MT_r7 hM | exact MT_t7 hM | exact MT_l7 hM | exact MT_r8 hM | exact MT_t8 hM | exact MT_l8 hM | exact MT_r9 hM | exact MT_t9 hM | exact MT_l9 hM | exact MT_r10 hM | exact MT_t10 hM | exact MT_l10 hM) (by first | omega | exact h.1.1.1.1 _ _ | exact bi_rg _ | (rw [gu_j (by omega), gu_j (by omega), gu_j (by omega)]; exact h.1.1.1.1 _ _)) (by first | omega | exact h.1.1.1.1 _ _ | exact bi_rg _ | (rw [gu_j (by omega), gu_j (by omega), gu_j (by omega)]; exact h.1.1.1.1 _ _)) (by omega) (gw_al0 at310_152 (gw_gr at310_153 (by first | exact MT_0 hM | exact MT_now hM | exact MT_bt hM | exact MT_bl hM | exact MT_r0 hM | exact MT_t0 hM | exact MT_l0 hM | exact MT_r1 hM | exact MT_t1 hM | exact MT_l1 hM | exact MT_r2 hM | exact MT_t2 hM | exact MT_l2 hM | exact MT_r3 hM | exact MT_t3 hM | exact MT_l3 hM | exact MT_r4 hM | exact MT_t4 hM | exact MT_l4 hM | exact MT_r5 hM | exact MT_t5 hM | exact MT_l5 hM | exact MT_r6 hM | exact MT_t6 hM | exact MT_l6 hM | exact MT_r7 hM | exact MT_t7 hM | exact MT_l7 hM | exact MT_r8 hM | exact MT_t8 hM | exact MT_l8 hM | exact MT_r9 hM | exact MT_t9 hM | exact MT_l9 hM | exact MT_r10 hM | exact MT_t10 hM | exact MT_l10 hM) (by first | exact MT_0 hM | exact MT_now hM | exact MT_bt hM | exact MT_bl hM | exact MT_r0 hM | exact MT_t0 hM | exact MT_l0 hM | exact MT_r1 hM | exact MT_t1 hM | exact MT_l1 hM | exact MT_r2 hM | exact MT_t2 hM | exact MT_l2 hM | exact MT_r3 hM | exact MT_t3 hM | exact MT_l3 hM | exact MT_r4 hM | exact MT_t4 hM | exact MT_l4 hM | exact MT_r5 hM | exact MT_t5 hM | exact MT_l5 hM | exact MT_r6 hM | exact MT_t6 hM | exact MT_l6 hM | exact MT_r7 hM | exact MT_t7 hM | exact MT_l7 hM | exact MT_r8 hM | exact MT_t8 hM | exact MT_l8 hM | exact MT_r9 hM | exact MT_t9 hM | exact MT_l9 hM | exact MT_r10 hM | exact MT_t10 hM | exact MT_l10 hM) (gw_il4 at310_156 (gw_const at310_158 (gw_iadd at310_159 (gw_il3 at310_160 (gw_iw at310_161 (by first | exact MT_0 hM | exact MT_now hM | exact MT_bt hM | exact MT_bl hM | exact MT_r0 hM | exact MT_t0 hM | exact MT_l0 hM | exact MT_r1 hM | exact MT_t1 hM | exact MT_l1 hM | exact MT_r2 hM | exact MT_t2 hM | exact MT_l2 hM | exact MT_r3 hM | exact MT_t3 hM | exact MT_l3 hM | exact MT_r4 hM | exact MT_t4 hM | exact MT_l4 hM | exact MT_r5 hM | exact MT_t5 hM | exact MT_l5 hM | exact MT_r6 hM | exact MT_t6 hM | exact MT_l6 hM | exact MT_r7 hM | exact MT_t7 hM | exact MT_l7 hM | exact MT_r8 hM | exact MT_t8 hM | exact MT_l8 hM | exact MT_r9 hM | exact MT_t9 hM | exact MT_l9 hM | exact MT_r10 hM | exact MT_t10 hM | exact MT_l10 hM) (by first | exact MT_0 hM | exact MT_now hM | exact MT_bt hM | exact MT_bl hM | exact MT_r0 hM | exact MT_t0 hM | exact MT_l0 hM | exact MT_r1 hM | exact MT_t1 hM | exact MT_l1 hM | exact MT_r2 hM | exact MT_t2 hM | exact MT_l2 hM | exact MT_r3 hM | exact MT_t3 hM | exact MT_l3 hM | exact MT_r4 hM | exact MT_t4 hM | exact MT_l4 hM | exact MT_r5 hM | exact MT_t5 hM | exact MT_l5 hM | exact MT_r6 hM | exact MT_t6 hM | exact MT_l6 hM | exact MT_r7 hM | exact MT_t7 hM | exact MT_l7 hM | exact MT_r8 hM | exact MT_t8 hM | exact MT_l8 hM | exact MT_r9 hM | exact MT_t9 hM | exact MT_l9 hM | exact MT_r10 hM | exact MT_t10 hM | exact MT_l10 hM) (by first | omega | exact h.1.1.1.1 _ _ | exact bi_rg _ | (rw [gu_j (by omega), gu_j (by omega), gu_j (by omega)]; exact h.1.1.1.1 _ _)) (by first | omega | exact h.1.1.1.1 _ _ | exact bi_rg _ | (rw [gu_j (by omega), gu_j (by omega), gu_j (by omega)]; exact h.1.1.1.1 _ _)) (by omega) (gw_al0 at310_162 (gw_gr at310_163 (by first | exact MT_0 hM | exact MT_now hM | exact MT_bt hM | exact MT_bl hM | exact MT_r0 hM | exact MT_t0 hM | exact MT_l0 hM | exact MT_r1 hM | exact MT_t1 hM | exact MT_l1 hM | exact MT_r2 hM | exact MT_t2 hM | exact MT_l2 hM | exact MT_r3 hM | exact MT_t3 hM | exact MT_l3 hM | exact MT_r4 hM | exact MT_t4 hM | exact MT_l4 hM | exact MT_r5 hM | exact MT_t5 hM | exact MT_l5 hM | exact MT_r6 hM | exact MT_t6 hM | exact MT_l6 hM | exact MT_r7 hM | exact MT_t7 hM | exact MT_l7 hM | exact MT_r8 hM | exact MT_t8 hM | exact MT_l8 hM | exact MT_r9 hM | exact MT_t9 hM | exact MT_l9 hM | exact MT_r10 hM | exact MT_t10 hM | exact MT_l10 hM) (by first | exact MT_0 hM | exact MT_now hM | exact MT_bt hM | exact MT_bl hM | exact MT_r0 hM | exact MT_t0 hM | exact MT_l0 hM | exact MT_r1 hM | exact MT_t1 hM | exact MT_l1 hM | exact MT_r2 hM | exact MT_t2 hM | exact MT_l2 hM | exact MT_r3 hM | exact MT_t3 hM | exact MT_l3 hM | exact MT_r4 hM | exact MT_t4 hM | exact MT_l4 hM | exact MT_r5 hM | exact MT_t5 hM | exact MT_l5 hM | exact MT_r6 hM | exact MT_t6 hM | exact MT_l6 hM | exact MT_r7 hM | exact MT_t7 hM | exact MT_l7 hM | exact MT_r8 hM | exact MT_t8 hM | exact MT_l8 hM | exact MT_r9 hM | exact MT_t9 hM | exact MT_l9 hM | exact MT_r10 hM | exact MT_t10 hM | exact MT_l10 hM) (gw_const at310_166 (gw_dup2 at310_167 (gw_ia at310_168 (by first | exact Or.inl (by first | exact MT_0 hM | exact MT_now hM | exact MT_bt hM | exact MT_bl hM | exact MT_r0 hM | exact MT_t0 hM | exact MT_l0 hM | exact MT_r1 hM | exact MT_t1 hM | exact MT_l1 hM | exact MT_r2 hM | exact MT_t2 hM | exact MT_l2 hM | exact MT_r3 hM | exact MT_t3 hM | exact MT_l3 hM | exact MT_r4 hM | exact MT_t4 hM | exact MT_l4 hM | exact MT_r5 hM | exact MT_t5 hM | exact MT_l5 hM | exact MT_r6 hM | exact MT_t6 hM | exact MT_l6 hM | exact MT_r7 hM | exact MT_t7 hM | exact MT_l7 hM | exact MT_r8 hM | exact MT_t8 hM | exact MT_l8 hM | exact MT_r9 hM | exact MT_t9 hM | exact MT_l9 hM | exact MT_r10 hM | exact MT_t10 hM | exact MT_l10 hM) | exact Or.inr (by first | exact MT_0 hM | exact MT_now hM | exact MT_bt hM | exact MT_bl hM | exact MT_r0 hM | exact MT_t0 hM | exact MT_l0 hM | exact MT_r1 hM | exact MT_t1 hM | exact MT_l1 hM | exact MT_r2 hM | exact MT_t2 hM | exact MT_l2 hM | exact MT_r3 hM | exact MT_t3 hM | exact MT_l3 hM | exact MT_r4 hM | exact MT_t4 hM | exact MT_l4 hM | exact MT_r5 hM | exact MT_t5 hM | exact MT_l5 hM | exact MT_r6 hM | exact MT_t6 hM | exact MT_l6 hM | exact MT_r7 hM | exact MT_t7 hM | exact MT_l7 hM | exact MT_r8 hM | exact MT_t8 hM | exact MT_l8 hM | exact MT_r9 hM | exact MT_t9 hM | exact MT_l9 hM | exact MT_r10 hM | exact MT_t10 hM | exact MT_l10 hM)) (by first | exact MT_0 hM | exact MT_now hM | exact MT_bt hM | exact MT_bl hM | exact MT_r0 hM | exact MT_t0 hM | exact MT_l0 hM | exact MT_r1 hM | exact MT_t1 hM | exact MT_l1 hM | exact MT_r2 hM | exact MT_t2 hM | exact MT_l2 hM | exact MT_r3 hM | exact MT_t3 hM | exact MT_l3 hM | exact MT_r4 hM | exact MT_t4 hM | exact MT_l4 hM | exact MT_r5 hM | exact MT_t5 hM | exact MT_l5 hM | exact MT_r6 hM | exact MT_t6 hM | exact MT_l6 hM | exact MT_r7 hM | exact MT_t7 hM | exact MT_l7 hM | exact MT_r8 hM | exact MT_t8 hM | exact MT_l8 hM | exact MT_r9 hM | exact MT_t9 hM | exact MT_l9 hM | exact MT_r10 hM | exact MT_t10 hM | exact MT_l10 hM) (by first | omega | exact h.1.1.1.1 _ _ | exact bi_rg _ | (rw [gu_j (by omega), gu_j (by omega), gu_j (by omega)]; exact h.1.1.1.1 _ _)) (by first | omega | exact h.1.1.1.1 _ _ | exact bi_rg _ | (rw [gu_j (by omega), gu_j (by omega), gu_j (by omega)]; exact h.1.1.1.1 _ _)) (by omega) (gw_const at310_169 (gw_iadd at310_170 (gw_iw at310_171 (by first | exact MT_0 hM | exact MT_now hM | exact MT_bt hM | exact MT_bl hM | exact MT_r0 hM | exact MT_t0 hM | exact MT_l0 hM | exact MT_r1 hM | exact MT_t1 hM | exact MT_l1 hM | exact MT_r2 hM | exact MT_t2 hM | exact MT_l2 hM | exact MT_r3 hM | exact MT_t3 hM | exact MT_l3 hM | exact MT_r4 hM | exact MT_t4 hM | exact MT_l4 hM | exact MT_r5 hM | exact MT_t5 hM | exact MT_l5 hM | exact MT_r6 hM | exact MT_t6 hM | exact MT_l6 hM | exact MT_r7 hM | exact MT_t7 hM | exact MT_l7 hM | exact MT_r8 hM | exact MT_t8 hM | exact MT_l8 hM | exact MT_r9 hM | exact MT_t9 hM | exact MT_l9 hM | exact MT_r10 hM | exact MT_t10 hM | exact MT_l10 hM) (by first | exact MT_0 hM | exact MT_now hM | exact MT_bt hM | exact MT_bl hM | exact MT_r0 hM | exact MT_t0 hM | exact MT_l0 hM | exact MT_r1 hM | exact MT_t1 hM | exact MT_l1 hM | exact MT_r2 hM | exact MT_t2 hM | exact MT_l2 hM | exact MT_r3 hM | exact MT_t3 hM | exact MT_l3 hM | exact MT_r4 hM | exact MT_t4 hM | exact MT_l4 hM | exact MT_r5 hM | exact MT_t5 hM | exact MT_l5 hM | exact MT_r6 hM | exact MT_t6 hM | exact MT_l6 hM | exact MT_r7 hM | exact MT_t7 hM | exact MT_l7 hM | exact MT_r8 hM | exact MT_t8 hM | exact MT_l8 hM | exact MT_r9 hM | exact MT_t9 hM | exact MT_l9 hM | exact MT_r10 hM | exact MT_t10 hM | exact MT_l10 hM) (by first | omega | exact h.1.1.1.1 _ _ | exact bi_rg _ | (rw [gu_j (by omega), gu_j (by omega), gu_j (by omega)]; exact h.1.1.1.1 _ _)) (by first | omega | exact h.1.1.1.1 _ _ | exact bi_rg _ | (rw [gu_j (by omega), gu_j (by omega), gu_j (by omega)]; exact h.1.1.1.1 _ _)) (by omega) (gw_rv at310_172 am_r310.2.1 ?_)))))))))))))))))))))))))))))))))))))
    rw [mpn4_t q117]
    refine ⟨rfl, ?_⟩
    unfold ndm
    rw [gu_j (by omega), gu_j (by omega), gu_j (by omega)]
  · refine gw_rv at310_120 am_r310.2.1 ?_
    rw [mpn4_f q117]
    exact ⟨rfl, rfl⟩
set_option maxHeartbeats 1000000 in
theorem m_pn105 {d g : Nat} {T : gT} {c J : gC} (hd : 7 ≤ d) {b : Nat} (hM : MT T b) (hb : b < 200002) (h : MK b T c) {n : Int} (hn : -2147483648 ≤ n ∧ n < 2147483648) {x : Int} (hx : 0 ≤ x ∧ x ≤ 99) {u3 : Value} (hu3 : am_nl u3 = true) {u4 : Value} (hu4 : am_nl u4 = true) (hg : mgd c = true → c b 0 < 10 ∧ True) : gw d g 310 105 [.ref 500001, gi n, gi x, u3, u4] [] (gm T c J) (fun o M1 => o = .inl none ∧ M1 = gm T (mpn3 b n x c) J) := by
  have h8 := MK_s hb h (MX_nu (l := 0) (u := 99) hb (MX_rf h.1)).1
  refine gw_al0 at310_105 (gw_const at310_106 (gw_bip at310_107 (by decide) ?_))
  refine gw_call3 at310_109 (m_number hM h.1 (by omega) (by decide) (by decide)) (by omega) (Nat.le_of_ble_eq_true rfl) (fun o M1 q109 => ?_)
  obtain ⟨rfl, rfl⟩ := q109
  show gw _ _ _ _ _ (gi _ :: []) _ _
  refine gw_is3 at310_112 (h := ?_)
  exact m_pn113 (by omega) hM hb h8 hn hx (mnu_rg (b := b) (by decide)) hu4 (hg_of hb (MG_nu (by omega) h.1) hg)
set_option maxHeartbeats 1000000 in
theorem m_pn58 {d g : Nat} {T : gT} {c J : gC} (hd : 7 ≤ d) {b : Nat} (hM : MT T b) (hb : b < 200002) (h : MK b T c) {n : Int} (hn : -2147483648 ≤ n ∧ n < 2147483648) {x : Int} (hx : 0 ≤ x ∧ x ≤ 99) {u3 : Value} (hu3 : am_nl u3 = true) {u4 : Value} (hu4 : am_nl u4 = true) (hg : mgd c = true → c b 0 < 10 ∧ True) : gw d g 310 58 [.ref 500001, gi n, gi x, u3, u4] [] (gm T c J) (fun o M1 => o = .inl none ∧ M1 = gm T (mpn2 b n x c) J) := by
  have h8 := MK_s hb h (MX_fi (p := mpnP b x c) (z := 3) hb (MX_rf h.1) (by decide)).1
  have hg8 := hg_of hb (MG_fi (p := mpnP b x c) (z := 3) (by decide)) hg
  have hr8 := h.1.1.1.1 500001 20
  refine gw_al0 at310_58 (gw_callP1 at310_59 (m_good hM h.1.1.1.1) (by omega) (Nat.le_of_ble_eq_true rfl) ?_)
  refine gw_beq at310_62 (fun q62 => ?_) (fun q62 => ?_)
  · unfold mpn2
    first
    | (have e9 : mfi (mpnP b x c) c 3 = c := mfi_0 q62
       rw [e9]; rw [e9] at h8; rw [e9] at hg8; exact m_pn105 (by omega) hM hb h8 hn hx hu3 hu4 hg8)
    | (have e9 : mfi (mpnP b x c) c 3 = c := mfi_1 (by unfold mpnP; rw [decide_eq_false (show ¬ c 500001 19 = 2 by omega)]; rfl)
       rw [e9]; rw [e9] at h8; rw [e9] at hg8; exact m_pn105 (by omega) hM hb h8 hn hx hu3 hu4 hg8)
    | (have e9 : mfi (mpnP b x c) c 3 = c := mfi_1 (by unfold mpnP; rw [q85, Bool.and_false]; rfl)
       rw [e9]; rw [e9] at h8; rw [e9] at hg8; exact m_pn105 (by omega) hM hb h8 hn hx hu3 hu4 hg8)
    | (have e9 : mfi (mpnP b x c) c 3 = c := mfi_1 (by unfold mpnP; rw [q97, Bool.and_false])
       rw [e9]; rw [e9] at h8; rw [e9] at hg8; exact m_pn105 (by omega) hM hb h8 hn hx hu3 hu4 hg8)
    | (have e9 : mfi (mpnP b x c) c 3 = mfl c 3 := mfi_2 q62 (by unfold mpnP; rw [decide_eq_true (show c 500001 19 = 2 by omega), q85, q97]; rfl)
       rw [e9]; rw [e9] at h8; rw [e9] at hg8; exact m_pn105 (by omega) hM hb h8 hn hx hu3 hu4 hg8)
  · refine gw_al0 at310_65 (gw_gf (j := 19) at310_66 (by first | exact MT_0 hM | exact MT_now hM | exact MT_bt hM | exact MT_bl hM | exact MT_r0 hM | exact MT_t0 hM | exact MT_l0 hM | exact MT_r1 hM | exact MT_t1 hM | exact MT_l1 hM | exact MT_r2 hM | exact MT_t2 hM | exact MT_l2 hM | exact MT_r3 hM | exact MT_t3 hM | exact MT_l3 hM | exact MT_r4 hM | exact MT_t4 hM | exact MT_l4 hM | exact MT_r5 hM | exact MT_t5 hM | exact MT_l5 hM | exact MT_r6 hM | exact MT_t6 hM | exact MT_l6 hM | exact MT_r7 hM | exact MT_t7 hM | exact MT_l7 hM | exact MT_r8 hM | exact MT_t8 hM | exact MT_l8 hM | exact MT_r9 hM | exact MT_t9 hM | exact MT_l9 hM | exact MT_r10 hM | exact MT_t10 hM | exact MT_l10 hM) rfl (gw_const at310_69 ?_))
    refine gw_cne at310_70 (by first | omega | exact h.1.1.1.1 _ _ | exact bi_rg _) (by first | omega | exact h.1.1.1.1 _ _ | exact bi_rg _) (fun q70 => ?_) (fun q70 => ?_)
    · unfold mpn2
      first
      | (have e9 : mfi (mpnP b x c) c 3 = c := mfi_0 q62
         rw [e9]; rw [e9] at h8; rw [e9] at hg8; exact m_pn105 (by omega) hM hb h8 hn hx hu3 hu4 hg8)
      | (have e9 : mfi (mpnP b x c) c 3 = c := mfi_1 (by unfold mpnP; rw [decide_eq_false (show ¬ c 500001 19 = 2 by omega)]; rfl)
         rw [e9]; rw [e9] at h8; rw [e9] at hg8; exact m_pn105 (by omega) hM hb h8 hn hx hu3 hu4 hg8)
      | (have e9 : mfi (mpnP b x c) c 3 = c := mfi_1 (by unfold mpnP; rw [q85, Bool.and_false]; rfl)
         rw [e9]; rw [e9] at h8; rw [e9] at hg8; exact m_pn105 (by omega) hM hb h8 hn hx hu3 hu4 hg8)
      | (have e9 : mfi (mpnP b x c) c 3 = c := mfi_1 (by unfold mpnP; rw [q97, Bool.and_false])
         rw [e9]; rw [e9] at h8; rw [e9] at hg8; exact m_pn105 (by omega) hM hb h8 hn hx hu3 hu4 hg8)
      | (have e9 : mfi (mpnP b x c) c 3 = mfl c 3 := mfi_2 q62 (by unfold mpnP; rw [decide_eq_true (show c 500001 19 = 2 by omega), q85, q97]; rfl)
         rw [e9]; rw [e9] at h8; rw [e9] at hg8; exact m_pn105 (by omega) hM hb h8 hn hx hu3 hu4 hg8)
    · refine gw_al0 at310_73 (gw_gf (j := 20) at310_74 (by first | exact MT_0 hM | exact MT_now hM | exact MT_bt hM | exact MT_bl hM | exact MT_r0 hM | exact MT_t0 hM | exact MT_l0 hM | exact MT_r1 hM | exact MT_t1 hM | exact MT_l1 hM | exact MT_r2 hM | exact MT_t2 hM | exact MT_l2 hM | exact MT_r3 hM | exact MT_t3 hM | exact MT_l3 hM | exact MT_r4 hM | exact MT_t4 hM | exact MT_l4 hM | exact MT_r5 hM | exact MT_t5 hM | exact MT_l5 hM | exact MT_r6 hM | exact MT_t6 hM | exact MT_l6 hM | exact MT_r7 hM | exact MT_t7 hM | exact MT_l7 hM | exact MT_r8 hM | exact MT_t8 hM | exact MT_l8 hM | exact MT_r9 hM | exact MT_t9 hM | exact MT_l9 hM | exact MT_r10 hM | exact MT_t10 hM | exact MT_l10 hM) rfl (gw_i2l at310_77 (by first | omega | exact h.1.1.1.1 _ _ | exact bi_rg _) (gw_lconst (z := 0) at310_78 rfl (gw_ldc2 (z := 99) at310_79 (by decide) (gw_callP3 at310_82 (m_in (by omega) (by decide) (by decide)) (by omega) (Nat.le_of_ble_eq_true rfl) ?_)))))
      refine gw_beq at310_85 (fun q85 => ?_) (fun q85 => ?_)
      · unfold mpn2
        first
        | (have e9 : mfi (mpnP b x c) c 3 = c := mfi_0 q62
           rw [e9]; rw [e9] at h8; rw [e9] at hg8; exact m_pn105 (by omega) hM hb h8 hn hx hu3 hu4 hg8)
        | (have e9 : mfi (mpnP b x c) c 3 = c := mfi_1 (by unfold mpnP; rw [decide_eq_false (show ¬ c 500001 19 = 2 by omega)]; rfl)
           rw [e9]; rw [e9] at h8; rw [e9] at hg8; exact m_pn105 (by omega) hM hb h8 hn hx hu3 hu4 hg8)
        | (have e9 : mfi (mpnP b x c) c 3 = c := mfi_1 (by unfold mpnP; rw [q85, Bool.and_false]; rfl)
           rw [e9]; rw [e9] at h8; rw [e9] at hg8; exact m_pn105 (by omega) hM hb h8 hn hx hu3 hu4 hg8)
        | (have e9 : mfi (mpnP b x c) c 3 = c := mfi_1 (by unfold mpnP; rw [q97, Bool.and_false])
           rw [e9]; rw [e9] at h8; rw [e9] at hg8; exact m_pn105 (by omega) hM hb h8 hn hx hu3 hu4 hg8)
        | (have e9 : mfi (mpnP b x c) c 3 = mfl c 3 := mfi_2 q62 (by unfold mpnP; rw [decide_eq_true (show c 500001 19 = 2 by omega), q85, q97]; rfl)
           rw [e9]; rw [e9] at h8; rw [e9] at hg8; exact m_pn105 (by omega) hM hb h8 hn hx hu3 hu4 hg8)
      · refine gw_al0 at310_88 (gw_il2 at310_89 (gw_al0 at310_90 (gw_gf (j := 20) at310_91 (by first | exact MT_0 hM | exact MT_now hM | exact MT_bt hM | exact MT_bl hM | exact MT_r0 hM | exact MT_t0 hM | exact MT_l0 hM | exact MT_r1 hM | exact MT_t1 hM | exact MT_l1 hM | exact MT_r2 hM | exact MT_t2 hM | exact MT_l2 hM | exact MT_r3 hM | exact MT_t3 hM | exact MT_l3 hM | exact MT_r4 hM | exact MT_t4 hM | exact MT_l4 hM | exact MT_r5 hM | exact MT_t5 hM | exact MT_l5 hM | exact MT_r6 hM | exact MT_t6 hM | exact MT_l6 hM | exact MT_r7 hM | exact MT_t7 hM | exact MT_l7 hM | exact MT_r8 hM | exact MT_t8 hM | exact MT_l8 hM | exact MT_r9 hM | exact MT_t9 hM | exact MT_l9 hM | exact MT_r10 hM | exact MT_t10 hM | exact MT_l10 hM) rfl (gw_callP3 at310_94 (m_isTaken hM h.1 hx (inr_t.mp q85)) (by omega) (Nat.le_of_ble_eq_true rfl) ?_))))
        refine gw_beq at310_97 (fun q97 => ?_) (fun q97 => ?_)
        · unfold mpn2
          first
          | (have e9 : mfi (mpnP b x c) c 3 = c := mfi_0 q62
             rw [e9]; rw [e9] at h8; rw [e9] at hg8; exact m_pn105 (by omega) hM hb h8 hn hx hu3 hu4 hg8)
          | (have e9 : mfi (mpnP b x c) c 3 = c := mfi_1 (by unfold mpnP; rw [decide_eq_false (show ¬ c 500001 19 = 2 by omega)]; rfl)
             rw [e9]; rw [e9] at h8; rw [e9] at hg8; exact m_pn105 (by omega) hM hb h8 hn hx hu3 hu4 hg8)
          | (have e9 : mfi (mpnP b x c) c 3 = c := mfi_1 (by unfold mpnP; rw [q85, Bool.and_false]; rfl)
             rw [e9]; rw [e9] at h8; rw [e9] at hg8; exact m_pn105 (by omega) hM hb h8 hn hx hu3 hu4 hg8)
          | (have e9 : mfi (mpnP b x c) c 3 = c := mfi_1 (by unfold mpnP; rw [q97, Bool.and_false])
             rw [e9]; rw [e9] at h8; rw [e9] at hg8; exact m_pn105 (by omega) hM hb h8 hn hx hu3 hu4 hg8)
          | (have e9 : mfi (mpnP b x c) c 3 = mfl c 3 := mfi_2 q62 (by unfold mpnP; rw [decide_eq_true (show c 500001 19 = 2 by omega), q85, q97]; rfl)
             rw [e9]; rw [e9] at h8; rw [e9] at hg8; exact m_pn105 (by omega) hM hb h8 hn hx hu3 hu4 hg8)
        · refine gw_al0 at310_100 (gw_const at310_101 ?_)
          refine gw_call2 at310_102 (m_fail hM h.1.1.1.1) (by omega) (Nat.le_of_ble_eq_true rfl) (fun o M1 q102 => ?_)
          obtain ⟨rfl, rfl⟩ := q102
          show gw _ _ _ _ _ [] _ _
          unfold mpn2
          first
          | (have e9 : mfi (mpnP b x c) c 3 = c := mfi_0 q62
             rw [e9]; rw [e9] at h8; rw [e9] at hg8; exact m_pn105 (by omega) hM hb h8 hn hx hu3 hu4 hg8)
          | (have e9 : mfi (mpnP b x c) c 3 = c := mfi_1 (by unfold mpnP; rw [decide_eq_false (show ¬ c 500001 19 = 2 by omega)]; rfl)
             rw [e9]; rw [e9] at h8; rw [e9] at hg8; exact m_pn105 (by omega) hM hb h8 hn hx hu3 hu4 hg8)
          | (have e9 : mfi (mpnP b x c) c 3 = c := mfi_1 (by unfold mpnP; rw [q85, Bool.and_false]; rfl)
             rw [e9]; rw [e9] at h8; rw [e9] at hg8; exact m_pn105 (by omega) hM hb h8 hn hx hu3 hu4 hg8)
          | (have e9 : mfi (mpnP b x c) c 3 = c := mfi_1 (by unfold mpnP; rw [q97, Bool.and_false])
             rw [e9]; rw [e9] at h8; rw [e9] at hg8; exact m_pn105 (by omega) hM hb h8 hn hx hu3 hu4 hg8)
          | (have e9 : mfi (mpnP b x c) c 3 = mfl c 3 := mfi_2 q62 (by unfold mpnP; rw [decide_eq_true (show c 500001 19 = 2 by omega), q85, q97]; rfl)
             rw [e9]; rw [e9] at h8; rw [e9] at hg8; exact m_pn105 (by omega) hM hb h8 hn hx hu3 hu4 hg8)
set_option maxHeartbeats 1000000 in
theorem m_pn46 {d g : Nat} {T : gT} {c J : gC} (hd : 7 ≤ d) {b : Nat} (hM : MT T b) (hb : b < 200002) (h : MK b T c) {n : Int} (hn : -2147483648 ≤ n ∧ n < 2147483648) {u2 : Value} (hu2 : am_nl u2 = true) {u3 : Value} (hu3 : am_nl u3 = true) {u4 : Value} (hu4 : am_nl u4 = true) (hg : mgd c = true → c b 0 < 10 ∧ True) : gw d g 310 46 [.ref 500001, gi n, u2, u3, u4] [] (gm T c J) (fun o M1 => o = .inl none ∧ M1 = gm T (mpn1 b n c) J) := by
  have h7 := MX_mon hb (MX_rf h.1)
  have h6 := MK_s hb h h7.1
  have h8 := MK_s hb h (MX_nu (l := 0) (u := 99) hb h7).1
  refine gw_al0 at310_46 ?_
  refine gw_call1 at310_47 (m_goOn hM h.1.1.1) (by omega) (Nat.le_of_ble_eq_true rfl) (fun o M1 q47 => ?_)
  obtain ⟨rfl, rfl⟩ := q47
  show gw _ _ _ _ _ [] _ _
  refine gw_al0 at310_50 (gw_const at310_51 (gw_bip at310_52 (by decide) ?_))
  refine gw_call3 at310_54 (m_number hM h6.1 (by omega) (by decide) (by decide)) (by omega) (Nat.le_of_ble_eq_true rfl) (fun o M1 q54 => ?_)
  obtain ⟨rfl, rfl⟩ := q54
  show gw _ _ _ _ _ (gi _ :: []) _ _
  refine gw_is2 at310_57 (h := ?_)
  exact m_pn58 (by omega) hM hb h8 hn (mnu_rg (b := b) (by decide)) hu3 hu4 (hg_of hb (MG_tr (MG_mon h.1.1.1) (MG_nu (by omega) h6.1)) hg)
set_option maxHeartbeats 1000000 in
theorem m_pn25 {d g : Nat} {T : gT} {c J : gC} (hd : 7 ≤ d) {b : Nat} (hM : MT T b) (hb : b < 200002) (h : MK b T c) {n : Int} (hn : -2147483648 ≤ n ∧ n < 2147483648) {u2 : Value} (hu2 : am_nl u2 = true) {u3 : Value} (hu3 : am_nl u3 = true) {u4 : Value} (hu4 : am_nl u4 = true) (hg : mgd c = true → c b 0 < 10 ∧ True) : gw d g 310 25 [.ref 500001, gi n, u2, u3, u4] [] (gm T c J) (fun o M1 => o = .inl none ∧ M1 = gm T (mpn0 b n c) J) := by
  have h8 := MK_s hb h (MX_fi (p := decide (¬ mfn c b n = -1)) (z := 3) hb (MX_rf h.1) (by decide)).1
  have hg8 := hg_of hb (MG_fi (p := decide (¬ mfn c b n = -1)) (z := 3) (by decide)) hg
  refine gw_al0 at310_25 (gw_callP1 at310_26 (m_good hM h.1.1.1.1) (by omega) (Nat.le_of_ble_eq_true rfl) ?_)
  refine gw_beq at310_29 (fun q29 => ?_) (fun q29 => ?_)
  · unfold mpn0
    first
    | (have e9 : mfi (decide (¬ mfn c b n = -1)) c 3 = c := mfi_0 q29
       rw [e9]; rw [e9] at h8; rw [e9] at hg8; exact m_pn46 (by omega) hM hb h8 hn hu2 hu3 hu4 hg8)
    | (have e9 : mfi (decide (¬ mfn c b n = -1)) c 3 = c := mfi_1 (decide_eq_false (by omega))
       rw [e9]; rw [e9] at h8; rw [e9] at hg8; exact m_pn46 (by omega) hM hb h8 hn hu2 hu3 hu4 hg8)
    | (have e9 : mfi (decide (¬ mfn c b n = -1)) c 3 = mfl c 3 := mfi_2 q29 (decide_eq_true (by omega))
       rw [e9]; rw [e9] at h8; rw [e9] at hg8; exact m_pn46 (by omega) hM hb h8 hn hu2 hu3 hu4 hg8)
  · refine gw_al0 at310_32 (gw_il1 at310_33 (gw_callP2 at310_34 (m_findNode hM h.1 hn) (by omega) (Nat.le_of_ble_eq_true rfl) (gw_const at310_37 ?_)))
    refine gw_ceq at310_38 (by first | omega | (have := mfn_rg (v := n) h.1.2; omega)) (by first | omega | (have := mfn_rg (v := n) h.1.2; omega)) (fun q38 => ?_) (fun q38 => ?_)
    · unfold mpn0
      first
      | (have e9 : mfi (decide (¬ mfn c b n = -1)) c 3 = c := mfi_0 q29
         rw [e9]; rw [e9] at h8; rw [e9] at hg8; exact m_pn46 (by omega) hM hb h8 hn hu2 hu3 hu4 hg8)
      | (have e9 : mfi (decide (¬ mfn c b n = -1)) c 3 = c := mfi_1 (decide_eq_false (by omega))
         rw [e9]; rw [e9] at h8; rw [e9] at hg8; exact m_pn46 (by omega) hM hb h8 hn hu2 hu3 hu4 hg8)
      | (have e9 : mfi (decide (¬ mfn c b n = -1)) c 3 = mfl c 3 := mfi_2 q29 (decide_eq_true (by omega))
         rw [e9]; rw [e9] at h8; rw [e9] at hg8; exact m_pn46 (by omega) hM hb h8 hn hu2 hu3 hu4 hg8)
    · refine gw_al0 at310_41 (gw_const at310_42 ?_)
      refine gw_call2 at310_43 (m_fail hM h.1.1.1.1) (by omega) (Nat.le_of_ble_eq_true rfl) (fun o M1 q43 => ?_)
      obtain ⟨rfl, rfl⟩ := q43
      show gw _ _ _ _ _ [] _ _
      unfold mpn0
      first
      | (have e9 : mfi (decide (¬ mfn c b n = -1)) c 3 = c := mfi_0 q29
         rw [e9]; rw [e9] at h8; rw [e9] at hg8; exact m_pn46 (by omega) hM hb h8 hn hu2 hu3 hu4 hg8)
      | (have e9 : mfi (decide (¬ mfn c b n = -1)) c 3 = c := mfi_1 (decide_eq_false (by omega))
         rw [e9]; rw [e9] at h8; rw [e9] at hg8; exact m_pn46 (by omega) hM hb h8 hn hu2 hu3 hu4 hg8)
      | (have e9 : mfi (decide (¬ mfn c b n = -1)) c 3 = mfl c 3 := mfi_2 q29 (decide_eq_true (by omega))
         rw [e9]; rw [e9] at h8; rw [e9] at hg8; exact m_pn46 (by omega) hM hb h8 hn hu2 hu3 hu4 hg8)
set_option maxHeartbeats 1000000 in
theorem m_pn16 {d g : Nat} {T : gT} {c J : gC} (hd : 7 ≤ d) {b : Nat} (hM : MT T b) (hb : b < 200002) (h : MK b T c) {u1 : Value} (hu1 : am_nl u1 = true) {u2 : Value} (hu2 : am_nl u2 = true) {u3 : Value} (hu3 : am_nl u3 = true) {u4 : Value} (hu4 : am_nl u4 = true) (hg : mgd c = true → c b 0 < 10 ∧ True) : gw d g 310 16 [.ref 500001, u1, u2, u3, u4] [] (gm T c J) (fun o M1 => o = .inl none ∧ M1 = gm T (mpnA b c) J) := by
  have h7 := MX_mon hb (MX_rf h.1)
  have h6 := MK_s hb h h7.1
  have h8 := MK_s hb h (MX_nh hb h7).1
  have hv := mnh_rg h6.1.1
  refine gw_al0 at310_16 ?_
  refine gw_call1 at310_17 (m_goOn hM h.1.1.1) (by omega) (Nat.le_of_ble_eq_true rfl) (fun o M1 q17 => ?_)
  obtain ⟨rfl, rfl⟩ := q17
  show gw _ _ _ _ _ [] _ _
  refine gw_al0 at310_20 ?_
  refine gw_call1 at310_21 (m_nameHere hM h6.1 (by omega) h6.2) (by omega) (Nat.le_of_ble_eq_true rfl) (fun o M1 q21 => ?_)
  obtain ⟨rfl, rfl⟩ := q21
  show gw _ _ _ _ _ (gi _ :: []) _ _
  refine gw_is1 at310_24 (h := ?_)
  exact m_pn25 (by omega) hM hb h8 (by omega) hu2 hu3 hu4 (hg_of hb (MG_tr (MG_mon h.1.1.1) MG_nh) hg)
set_option maxHeartbeats 1000000 in
theorem m_parseNode {g : Nat} {T : gT} {c J : gC} {b : Nat} (hM : MT T b) (hb : b < 200002) (h : MK b T c) : gE g 310 7 [.ref 500001] (gm T c J) (fun o M1 => o = .inl none ∧ M1 = gm T (mpn b c) J) := by
  have h8 := MK_s hb h (MX_fi (p := decide (c b 0 = 10)) (z := 5) hb (MX_rf h.1) (by decide)).1
  have hg8 := hg_n h.1 hb
  have hn0 := h.1.2.1.1
  refine gE_mk am_r310 rfl (Or.inr ⟨_, rfl, (by first | exact MT_0 hM | exact MT_now hM | exact MT_bt hM | exact MT_bl hM | exact MT_r0 hM | exact MT_t0 hM | exact MT_l0 hM | exact MT_r1 hM | exact MT_t1 hM | exact MT_l1 hM | exact MT_r2 hM | exact MT_t2 hM | exact MT_l2 hM | exact MT_r3 hM | exact MT_t3 hM | exact MT_l3 hM | exact MT_r4 hM | exact MT_t4 hM | exact MT_l4 hM | exact MT_r5 hM | exact MT_t5 hM | exact MT_l5 hM | exact MT_r6 hM | exact MT_t6 hM | exact MT_l6 hM | exact MT_r7 hM | exact MT_t7 hM | exact MT_l7 hM | exact MT_r8 hM | exact MT_t8 hM | exact MT_l8 hM | exact MT_r9 hM | exact MT_t9 hM | exact MT_l9 hM | exact MT_r10 hM | exact MT_t10 hM | exact MT_l10 hM)⟩) (fun d hd => ?_)
  show gw d g 310 0 [.ref 500001, am_U, am_U, am_U, am_U] [] _ _
  refine gw_al0 at310_0 (gw_gr at310_1 (by first | exact MT_0 hM | exact MT_now hM | exact MT_bt hM | exact MT_bl hM | exact MT_r0 hM | exact MT_t0 hM | exact MT_l0 hM | exact MT_r1 hM | exact MT_t1 hM | exact MT_l1 hM | exact MT_r2 hM | exact MT_t2 hM | exact MT_l2 hM | exact MT_r3 hM | exact MT_t3 hM | exact MT_l3 hM | exact MT_r4 hM | exact MT_t4 hM | exact MT_l4 hM | exact MT_r5 hM | exact MT_t5 hM | exact MT_l5 hM | exact MT_r6 hM | exact MT_t6 hM | exact MT_l6 hM | exact MT_r7 hM | exact MT_t7 hM | exact MT_l7 hM | exact MT_r8 hM | exact MT_t8 hM | exact MT_l8 hM | exact MT_r9 hM | exact MT_t9 hM | exact MT_l9 hM | exact MT_r10 hM | exact MT_t10 hM | exact MT_l10 hM) (by first | exact MT_0 hM | exact MT_now hM | exact MT_bt hM | exact MT_bl hM | exact MT_r0 hM | exact MT_t0 hM | exact MT_l0 hM | exact MT_r1 hM | exact MT_t1 hM | exact MT_l1 hM | exact MT_r2 hM | exact MT_t2 hM | exact MT_l2 hM | exact MT_r3 hM | exact MT_t3 hM | exact MT_l3 hM | exact MT_r4 hM | exact MT_t4 hM | exact MT_l4 hM | exact MT_r5 hM | exact MT_t5 hM | exact MT_l5 hM | exact MT_r6 hM | exact MT_t6 hM | exact MT_l6 hM | exact MT_r7 hM | exact MT_t7 hM | exact MT_l7 hM | exact MT_r8 hM | exact MT_t8 hM | exact MT_l8 hM | exact MT_r9 hM | exact MT_t9 hM | exact MT_l9 hM | exact MT_r10 hM | exact MT_t10 hM | exact MT_l10 hM) (gw_const at310_4 (gw_ia at310_5 (by first | exact Or.inl (by first | exact MT_0 hM | exact MT_now hM | exact MT_bt hM | exact MT_bl hM | exact MT_r0 hM | exact MT_t0 hM | exact MT_l0 hM | exact MT_r1 hM | exact MT_t1 hM | exact MT_l1 hM | exact MT_r2 hM | exact MT_t2 hM | exact MT_l2 hM | exact MT_r3 hM | exact MT_t3 hM | exact MT_l3 hM | exact MT_r4 hM | exact MT_t4 hM | exact MT_l4 hM | exact MT_r5 hM | exact MT_t5 hM | exact MT_l5 hM | exact MT_r6 hM | exact MT_t6 hM | exact MT_l6 hM | exact MT_r7 hM | exact MT_t7 hM | exact MT_l7 hM | exact MT_r8 hM | exact MT_t8 hM | exact MT_l8 hM | exact MT_r9 hM | exact MT_t9 hM | exact MT_l9 hM | exact MT_r10 hM | exact MT_t10 hM | exact MT_l10 hM) | exact Or.inr (by first | exact MT_0 hM | exact MT_now hM | exact MT_bt hM | exact MT_bl hM | exact MT_r0 hM | exact MT_t0 hM | exact MT_l0 hM | exact MT_r1 hM | exact MT_t1 hM | exact MT_l1 hM | exact MT_r2 hM | exact MT_t2 hM | exact MT_l2 hM | exact MT_r3 hM | exact MT_t3 hM | exact MT_l3 hM | exact MT_r4 hM | exact MT_t4 hM | exact MT_l4 hM | exact MT_r5 hM | exact MT_t5 hM | exact MT_l5 hM | exact MT_r6 hM | exact MT_t6 hM | exact MT_l6 hM | exact MT_r7 hM | exact MT_t7 hM | exact MT_l7 hM | exact MT_r8 hM | exact MT_t8 hM | exact MT_l8 hM | exact MT_r9 hM | exact MT_t9 hM | exact MT_l9 hM | exact MT_r10 hM | exact MT_t10 hM | exact MT_l10 hM)) (by first | exact MT_0 hM | exact MT_now hM | exact MT_bt hM | exact MT_bl hM | exact MT_r0 hM | exact MT_t0 hM | exact MT_l0 hM | exact MT_r1 hM | exact MT_t1 hM | exact MT_l1 hM | exact MT_r2 hM | exact MT_t2 hM | exact MT_l2 hM | exact MT_r3 hM | exact MT_t3 hM | exact MT_l3 hM | exact MT_r4 hM | exact MT_t4 hM | exact MT_l4 hM | exact MT_r5 hM | exact MT_t5 hM | exact MT_l5 hM | exact MT_r6 hM | exact MT_t6 hM | exact MT_l6 hM | exact MT_r7 hM | exact MT_t7 hM | exact MT_l7 hM | exact MT_r8 hM | exact MT_t8 hM | exact MT_l8 hM | exact MT_r9 hM | exact MT_t9 hM | exact MT_l9 hM | exact MT_r10 hM | exact MT_t10 hM | exact MT_l10 hM) (by first | omega | exact h.1.1.1.1 _ _ | exact bi_rg _) (by first | omega | exact h.1.1.1.1 _ _ | exact bi_rg _) (by omega) (gw_bip at310_6 (by decide) ?_))))
  refine gw_cne at310_8 (by first | omega | exact h.1.1.1.1 _ _ | exact bi_rg _) (by first | omega | exact h.1.1.1.1 _ _ | exact bi_rg _) (fun q8 => ?_) (fun q8 => ?_)
  · 
    unfold mpn
    first
    | (have e9 : mfi (decide (c b 0 = 10)) c 5 = c := mfi_1 (decide_eq_false (by omega))
       rw [e9]; rw [e9] at h8 hg8; exact m_pn16 (by omega) hM hb h8 rfl rfl rfl rfl hg8)
    | (cases q9 : mgd c with
       | true =>
         have e9 : mfi (decide (c b 0 = 10)) c 5 = mfl c 5 := mfi_2 q9 (decide_eq_true (by omega))
         rw [e9]; rw [e9] at h8 hg8; exact m_pn16 (by omega) hM hb h8 rfl rfl rfl rfl hg8
       | false =>
         have e9 : mfi (decide (c b 0 = 10)) c 5 = mfl c 5 := (mfi_0 q9).trans (if_neg (by unfold mgd at q9; exact of_decide_eq_false q9)).symm
         rw [e9]; rw [e9] at h8 hg8; exact m_pn16 (by omega) hM hb h8 rfl rfl rfl rfl hg8)
  · refine gw_al0 at310_11 (gw_const at310_12 ?_)
    refine gw_call2 at310_13 (m_fail hM h.1.1.1.1) (by omega) (Nat.le_of_ble_eq_true rfl) (fun o M1 q13 => ?_)
    obtain ⟨rfl, rfl⟩ := q13
    show gw _ _ _ _ _ [] _ _
    
    unfold mpn
    first
    | (have e9 : mfi (decide (c b 0 = 10)) c 5 = c := mfi_1 (decide_eq_false (by omega))
       rw [e9]; rw [e9] at h8 hg8; exact m_pn16 (by omega) hM hb h8 rfl rfl rfl rfl hg8)
    | (cases q9 : mgd c with
       | true =>
         have e9 : mfi (decide (c b 0 = 10)) c 5 = mfl c 5 := mfi_2 q9 (decide_eq_true (by omega))
         rw [e9]; rw [e9] at h8 hg8; exact m_pn16 (by omega) hM hb h8 rfl rfl rfl rfl hg8
       | false =>
         have e9 : mfi (decide (c b 0 = 10)) c 5 = mfl c 5 := (mfi_0 q9).trans (if_neg (by unfold mgd at q9; exact of_decide_eq_false q9)).symm
         rw [e9]; rw [e9] at h8 hg8; exact m_pn16 (by omega) hM hb h8 rfl rfl rfl rfl hg8)
