/-! the reference: history, input -/
theorem gcp_st {c : gC} {k q : Nat} {sp dp i : Int} (hk : ¬ k = q) (hi : 0 ≤ i) : gu (gcp c k q sp dp i) q (dp + i) (c k (sp + i)) = gcp c k q sp dp (i + 1) := by
  funext k' j'
  unfold gu gcp
  by_cases a : k' = q
  · subst a
    by_cases b : j' = dp + i
    · rw [if_pos ⟨rfl, b⟩, if_pos ⟨rfl, by omega, by omega⟩, b]
      congr 1
      omega
    · rw [if_neg (by intro h; exact b h.2)]
      by_cases e : dp ≤ j' ∧ j' < dp + i
      · rw [if_pos ⟨rfl, e.1, e.2⟩, if_pos ⟨rfl, e.1, by omega⟩]
      · rw [if_neg (by intro h; exact e h.2), if_neg (by intro h; exact e ⟨h.2.1, by omega⟩)]
  · rw [if_neg (by intro h; exact a h.1), if_neg (by intro h; exact a h.1), if_neg (by intro h; exact a h.1)]
theorem gcp_0 {c : gC} {k q : Nat} {sp dp : Int} : gcp c k q sp dp 0 = c := by
  funext k' j'
  unfold gcp
  rw [if_neg (by omega)]
theorem gcp_o {c : gC} {k q x : Nat} {sp dp n j : Int} (h : ¬ x = q) : gcp c k q sp dp n x j = c x j := by
  unfold gcp
  rw [if_neg (by intro e; exact h e.1)]
/-- history moved by a place -/
def gsh (c : gC) (n : Int) : gC := fun k j => if k = 200008 ∧ 0 ≤ j ∧ j < n then c 200008 (j + 208) else c k j
theorem gsh_0 {c : gC} : gsh c 0 = c := by
  funext k j
  unfold gsh
  rw [if_neg (by omega)]
theorem gsh_s {c : gC} {i : Int} (hi : 0 ≤ i) : gu (gsh c i) 200008 i (c 200008 (i + 208)) = gsh c (i + 1) := by
  funext k j
  unfold gu gsh
  by_cases a : k = 200008
  · subst a
    by_cases b : j = i
    · rw [if_pos ⟨rfl, b⟩, if_pos ⟨rfl, by omega, by omega⟩, b]
    · rw [if_neg (by intro h; exact b h.2)]
      by_cases e : 0 ≤ j ∧ j < i
      · rw [if_pos ⟨rfl, e.1, e.2⟩, if_pos ⟨rfl, e.1, by omega⟩]
      · rw [if_neg (by intro h; exact e h.2), if_neg (by intro h; exact e ⟨h.2.1, by omega⟩)]
  · rw [if_neg (by intro h; exact a h.1), if_neg (by intro h; exact a h.1), if_neg (by intro h; exact a h.1)]
theorem gsh_hi {c : gC} {n j : Int} (h : n ≤ j) : gsh c n 200008 j = c 200008 j := by
  unfold gsh
  rw [if_neg (by omega)]
theorem gsh_o {c : gC} {n j : Int} {x : Nat} (h : ¬ x = 200008) : gsh c n x j = c x j := by
  unfold gsh
  rw [if_neg (by intro e; exact h e.1)]
theorem gsh_RG {c : gC} {n : Int} (h : RG c) : RG (gsh c n) := fun k j => by
  unfold gsh
  split
  · exact h _ _
  · exact h _ _
def rm1 (c : gC) : gC := if c 500001 13 = 10 then gu (gsh c 1872) 500001 13 9 else c
/-- what remembering leaves -/
def rem (c : gC) : gC := gu (gcp (rm1 c) 200000 200008 0 (208 * rm1 c 500001 13) 208) 500001 13 (rm1 c 500001 13 + 1)
theorem rm1_13 {c : gC} (h : 0 ≤ c 500001 13 ∧ c 500001 13 ≤ 10) : 0 ≤ rm1 c 500001 13 ∧ rm1 c 500001 13 ≤ 9 := by
  unfold rm1
  split
  · rw [gu_s]; decide
  · omega
theorem rm1_RG {c : gC} (h : RG c) : RG (rm1 c) := by
  unfold rm1
  split
  · exact RG_gu (gsh_RG h) (by decide)
  · exact h
theorem rm1_o {c : gC} {x : Nat} (h : ¬ x = 200008) (h2 : ¬ x = 500001) : rm1 c x = c x := by
  funext j
  unfold rm1
  split
  · rw [gu_k h2, gsh_o h]
  · rfl
theorem rm1_m {c : gC} {j : Int} (h : ¬ j = 13) : rm1 c 500001 j = c 500001 j := by
  unfold rm1
  split
  · rw [gu_j h, gsh_o (by decide)]
  · rfl
theorem rem_o {c : gC} {x : Nat} (h : ¬ x = 200008) (h2 : ¬ x = 500001) : rem c x = c x := by
  funext j
  unfold rem
  rw [gu_k h2, gcp_o h, rm1_o h h2]
theorem rem_m {c : gC} {j : Int} (h : ¬ j = 13) : rem c 500001 j = c 500001 j := by
  unfold rem
  rw [gu_j h, gcp_o (by decide), rm1_m h]
theorem rem_RG {c : gC} (hc : RG c) (h : 0 ≤ c 500001 13 ∧ c 500001 13 ≤ 10) : RG (rem c) := by
  have := rm1_13 h
  unfold rem
  exact RG_gu (RG_gcp (rm1_RG hc)) (by omega)
theorem rem_13 {c : gC} (h : 0 ≤ c 500001 13 ∧ c 500001 13 ≤ 10) : 1 ≤ rem c 500001 13 ∧ rem c 500001 13 ≤ 10 := by
  have := rm1_13 h
  unfold rem
  rw [gu_s]; omega
def und (c : gC) : gC := gcp (gu c 500001 13 (c 500001 13 - 1)) 200008 200000 (208 * (c 500001 13 - 1)) 0 208
def ap1 (v s : Int) (c : gC) : gC := gu (gu c 200009 (c 500001 15) (zi2b (zshr v s))) 500001 15 (c 500001 15 + 1)
def ap4 (c : gC) (v : Int) : gC := itI (fun j m => ap1 v (24 - 8 * j) m) c 4
theorem ap_i {c : gC} {v : Int} (hc : RG c) (h : 0 ≤ c 500001 15 ∧ c 500001 15 + 4 ≤ 1200) {i : Int} (h0 : 0 ≤ i) (h1 : i ≤ 4) : itI (fun j m => ap1 v (24 - 8 * j) m) c i 500001 15 = c 500001 15 + i ∧ RG (itI (fun j m => ap1 v (24 - 8 * j) m) c i) ∧ ∀ x : Nat, ¬ x = 200009 → ¬ x = 500001 → itI (fun j m => ap1 v (24 - 8 * j) m) c i x = c x := by
  refine itI_inv3 (fun k (m : gC) => m 500001 15 = c 500001 15 + k ∧ RG m ∧ ∀ x : Nat, ¬ x = 200009 → ¬ x = 500001 → m x = c x) (N := i) ⟨by omega, hc, fun _ _ _ => rfl⟩ (fun j m j0 j1 hm => ?_) h0 (Int.le_refl _)
  obtain ⟨a1, a2, a3⟩ := hm
  have hz := zi2b_rg (zshr v (24 - 8 * j))
  unfold ap1
  refine ⟨by rw [gu_s]; omega, RG_gu (RG_gu a2 (by omega)) (by omega), fun x p q => ?_⟩
  rw [← a3 x p q]
  funext y
  rw [gu_k q, gu_k p]
theorem ap4_ok {c : gC} {v : Int} (hc : RG c) (h : 0 ≤ c 500001 15 ∧ c 500001 15 + 4 ≤ 1200) : ap4 c v 500001 15 = c 500001 15 + 4 ∧ RG (ap4 c v) ∧ ∀ x : Nat, ¬ x = 200009 → ¬ x = 500001 → ap4 c v x = c x := ap_i hc h (by decide) (by decide)
def ap20 (c : gC) (p q r s t : Int) : gC := ap4 (ap4 (ap4 (ap4 (ap4 c p) q) r) s) t
set_option maxHeartbeats 1000000 in
theorem m_rem52 {d g : Nat} {T : gT} {c J : gC} (hd : 0 ≤ d) {b : Nat} (hM : MT T b) (hc : RG c) (h13 : 0 ≤ c 500001 13 ∧ c 500001 13 ≤ 10) {u : Value} (hu : am_nl u = true) : gw d g 289 52 [.ref 500001, u] [] (gm T (rm1 c) J) (fun o M1 => o = .inl none ∧ M1 = gm T (rem c) J) := by
  have k3 := rm1_13 h13
  have k1 := rm1_RG hc
  refine gw_const at289_52 (gw_is1 at289_53 (h := ?_))
  have lp54 : ∀ i : Int, 0 ≤ i → i ≤ 208 → gw d g 289 54 [.ref 500001, gi i] [] (gm T (gcp (rm1 c) 200000 200008 0 (208 * rm1 c 500001 13) i) J) (fun o M1 => o = .inl none ∧ M1 = gm T (rem c) J) := by
    refine ind_up 208 ?_
    intro i hi0 hi1 ih
    have k2 : RG (gcp (rm1 c) 200000 200008 0 (208 * rm1 c 500001 13) i) := RG_gcp k1
    have e1 : (gcp (rm1 c) 200000 200008 0 (208 * rm1 c 500001 13) i) 500001 13 = rm1 c 500001 13 := gcp_o (by decide)
    have e2 : (gcp (rm1 c) 200000 200008 0 (208 * rm1 c 500001 13) i) 200000 i = rm1 c 200000 (0 + i) := by rw [gcp_o (by decide), Int.zero_add]
    refine gw_il1 at289_54 ?_
    refine gw_sip at289_55 (by decide) ?_
    refine gw_cge at289_58 (by first | omega | exact hc _ _ | exact k1 _ _ | exact k2 _ _) (by first | omega | exact hc _ _ | exact k1 _ _ | exact k2 _ _) (fun q58 => ?_) (fun q58 => ?_)
    · refine gw_al0 at289_88 (gw_dupr at289_89 (gw_gf (j := 13) at289_90 (by first | exact MT_0 hM | exact MT_now hM | exact MT_bt hM | exact MT_bl hM | exact MT_r0 hM | exact MT_t0 hM | exact MT_l0 hM | exact MT_r1 hM | exact MT_t1 hM | exact MT_l1 hM | exact MT_r2 hM | exact MT_t2 hM | exact MT_l2 hM | exact MT_r3 hM | exact MT_t3 hM | exact MT_l3 hM | exact MT_r4 hM | exact MT_t4 hM | exact MT_l4 hM | exact MT_r5 hM | exact MT_t5 hM | exact MT_l5 hM | exact MT_r6 hM | exact MT_t6 hM | exact MT_l6 hM | exact MT_r7 hM | exact MT_t7 hM | exact MT_l7 hM | exact MT_r8 hM | exact MT_t8 hM | exact MT_l8 hM | exact MT_r9 hM | exact MT_t9 hM | exact MT_l9 hM | exact MT_r10 hM | exact MT_t10 hM | exact MT_l10 hM) rfl ?_))
      rw [e1]
      refine gw_const at289_93 (gw_iadd at289_94 (gw_pf (j := 13) at289_95 (by first | exact MT_0 hM | exact MT_now hM | exact MT_bt hM | exact MT_bl hM | exact MT_r0 hM | exact MT_t0 hM | exact MT_l0 hM | exact MT_r1 hM | exact MT_t1 hM | exact MT_l1 hM | exact MT_r2 hM | exact MT_t2 hM | exact MT_l2 hM | exact MT_r3 hM | exact MT_t3 hM | exact MT_l3 hM | exact MT_r4 hM | exact MT_t4 hM | exact MT_l4 hM | exact MT_r5 hM | exact MT_t5 hM | exact MT_l5 hM | exact MT_r6 hM | exact MT_t6 hM | exact MT_l6 hM | exact MT_r7 hM | exact MT_t7 hM | exact MT_l7 hM | exact MT_r8 hM | exact MT_t8 hM | exact MT_l8 hM | exact MT_r9 hM | exact MT_t9 hM | exact MT_l9 hM | exact MT_r10 hM | exact MT_t10 hM | exact MT_l10 hM) rfl (gw_rv at289_98 am_r289.2.1 ⟨rfl, ?_⟩)))
      have e : i = 208 := by omega
      subst e
      rfl
    · refine gw_al0 at289_61 (gw_gr at289_62 (by first | exact MT_0 hM | exact MT_now hM | exact MT_bt hM | exact MT_bl hM | exact MT_r0 hM | exact MT_t0 hM | exact MT_l0 hM | exact MT_r1 hM | exact MT_t1 hM | exact MT_l1 hM | exact MT_r2 hM | exact MT_t2 hM | exact MT_l2 hM | exact MT_r3 hM | exact MT_t3 hM | exact MT_l3 hM | exact MT_r4 hM | exact MT_t4 hM | exact MT_l4 hM | exact MT_r5 hM | exact MT_t5 hM | exact MT_l5 hM | exact MT_r6 hM | exact MT_t6 hM | exact MT_l6 hM | exact MT_r7 hM | exact MT_t7 hM | exact MT_l7 hM | exact MT_r8 hM | exact MT_t8 hM | exact MT_l8 hM | exact MT_r9 hM | exact MT_t9 hM | exact MT_l9 hM | exact MT_r10 hM | exact MT_t10 hM | exact MT_l10 hM) (by first | exact MT_0 hM | exact MT_now hM | exact MT_bt hM | exact MT_bl hM | exact MT_r0 hM | exact MT_t0 hM | exact MT_l0 hM | exact MT_r1 hM | exact MT_t1 hM | exact MT_l1 hM | exact MT_r2 hM | exact MT_t2 hM | exact MT_l2 hM | exact MT_r3 hM | exact MT_t3 hM | exact MT_l3 hM | exact MT_r4 hM | exact MT_t4 hM | exact MT_l4 hM | exact MT_r5 hM | exact MT_t5 hM | exact MT_l5 hM | exact MT_r6 hM | exact MT_t6 hM | exact MT_l6 hM | exact MT_r7 hM | exact MT_t7 hM | exact MT_l7 hM | exact MT_r8 hM | exact MT_t8 hM | exact MT_l8 hM | exact MT_r9 hM | exact MT_t9 hM | exact MT_l9 hM | exact MT_r10 hM | exact MT_t10 hM | exact MT_l10 hM) (gw_sip at289_65 (by decide) (gw_al0 at289_68 (gw_gf (j := 13) at289_69 (by first | exact MT_0 hM | exact MT_now hM | exact MT_bt hM | exact MT_bl hM | exact MT_r0 hM | exact MT_t0 hM | exact MT_l0 hM | exact MT_r1 hM | exact MT_t1 hM | exact MT_l1 hM | exact MT_r2 hM | exact MT_t2 hM | exact MT_l2 hM | exact MT_r3 hM | exact MT_t3 hM | exact MT_l3 hM | exact MT_r4 hM | exact MT_t4 hM | exact MT_l4 hM | exact MT_r5 hM | exact MT_t5 hM | exact MT_l5 hM | exact MT_r6 hM | exact MT_t6 hM | exact MT_l6 hM | exact MT_r7 hM | exact MT_t7 hM | exact MT_l7 hM | exact MT_r8 hM | exact MT_t8 hM | exact MT_l8 hM | exact MT_r9 hM | exact MT_t9 hM | exact MT_l9 hM | exact MT_r10 hM | exact MT_t10 hM | exact MT_l10 hM) rfl ?_))))
      rw [e1]
      refine gw_imul at289_72 (gw_il1 at289_73 (gw_iadd at289_74 (gw_al0 at289_75 (gw_gr at289_76 (by first | exact MT_0 hM | exact MT_now hM | exact MT_bt hM | exact MT_bl hM | exact MT_r0 hM | exact MT_t0 hM | exact MT_l0 hM | exact MT_r1 hM | exact MT_t1 hM | exact MT_l1 hM | exact MT_r2 hM | exact MT_t2 hM | exact MT_l2 hM | exact MT_r3 hM | exact MT_t3 hM | exact MT_l3 hM | exact MT_r4 hM | exact MT_t4 hM | exact MT_l4 hM | exact MT_r5 hM | exact MT_t5 hM | exact MT_l5 hM | exact MT_r6 hM | exact MT_t6 hM | exact MT_l6 hM | exact MT_r7 hM | exact MT_t7 hM | exact MT_l7 hM | exact MT_r8 hM | exact MT_t8 hM | exact MT_l8 hM | exact MT_r9 hM | exact MT_t9 hM | exact MT_l9 hM | exact MT_r10 hM | exact MT_t10 hM | exact MT_l10 hM) (by first | exact MT_0 hM | exact MT_now hM | exact MT_bt hM | exact MT_bl hM | exact MT_r0 hM | exact MT_t0 hM | exact MT_l0 hM | exact MT_r1 hM | exact MT_t1 hM | exact MT_l1 hM | exact MT_r2 hM | exact MT_t2 hM | exact MT_l2 hM | exact MT_r3 hM | exact MT_t3 hM | exact MT_l3 hM | exact MT_r4 hM | exact MT_t4 hM | exact MT_l4 hM | exact MT_r5 hM | exact MT_t5 hM | exact MT_l5 hM | exact MT_r6 hM | exact MT_t6 hM | exact MT_l6 hM | exact MT_r7 hM | exact MT_t7 hM | exact MT_l7 hM | exact MT_r8 hM | exact MT_t8 hM | exact MT_l8 hM | exact MT_r9 hM | exact MT_t9 hM | exact MT_l9 hM | exact MT_r10 hM | exact MT_t10 hM | exact MT_l10 hM) (gw_il1 at289_79 (gw_ia at289_80 (by first | exact Or.inl (by first | exact MT_0 hM | exact MT_now hM | exact MT_bt hM | exact MT_bl hM | exact MT_r0 hM | exact MT_t0 hM | exact MT_l0 hM | exact MT_r1 hM | exact MT_t1 hM | exact MT_l1 hM | exact MT_r2 hM | exact MT_t2 hM | exact MT_l2 hM | exact MT_r3 hM | exact MT_t3 hM | exact MT_l3 hM | exact MT_r4 hM | exact MT_t4 hM | exact MT_l4 hM | exact MT_r5 hM | exact MT_t5 hM | exact MT_l5 hM | exact MT_r6 hM | exact MT_t6 hM | exact MT_l6 hM | exact MT_r7 hM | exact MT_t7 hM | exact MT_l7 hM | exact MT_r8 hM | exact MT_t8 hM | exact MT_l8 hM | exact MT_r9 hM | exact MT_t9 hM | exact MT_l9 hM | exact MT_r10 hM | exact MT_t10 hM | exact MT_l10 hM) | exact Or.inr (by first | exact MT_0 hM | exact MT_now hM | exact MT_bt hM | exact MT_bl hM | exact MT_r0 hM | exact MT_t0 hM | exact MT_l0 hM | exact MT_r1 hM | exact MT_t1 hM | exact MT_l1 hM | exact MT_r2 hM | exact MT_t2 hM | exact MT_l2 hM | exact MT_r3 hM | exact MT_t3 hM | exact MT_l3 hM | exact MT_r4 hM | exact MT_t4 hM | exact MT_l4 hM | exact MT_r5 hM | exact MT_t5 hM | exact MT_l5 hM | exact MT_r6 hM | exact MT_t6 hM | exact MT_l6 hM | exact MT_r7 hM | exact MT_t7 hM | exact MT_l7 hM | exact MT_r8 hM | exact MT_t8 hM | exact MT_l8 hM | exact MT_r9 hM | exact MT_t9 hM | exact MT_l9 hM | exact MT_r10 hM | exact MT_t10 hM | exact MT_l10 hM)) (by first | exact MT_0 hM | exact MT_now hM | exact MT_bt hM | exact MT_bl hM | exact MT_r0 hM | exact MT_t0 hM | exact MT_l0 hM | exact MT_r1 hM | exact MT_t1 hM | exact MT_l1 hM | exact MT_r2 hM | exact MT_t2 hM | exact MT_l2 hM | exact MT_r3 hM | exact MT_t3 hM | exact MT_l3 hM | exact MT_r4 hM | exact MT_t4 hM | exact MT_l4 hM | exact MT_r5 hM | exact MT_t5 hM | exact MT_l5 hM | exact MT_r6 hM | exact MT_t6 hM | exact MT_l6 hM | exact MT_r7 hM | exact MT_t7 hM | exact MT_l7 hM | exact MT_r8 hM | exact MT_t8 hM | exact MT_l8 hM | exact MT_r9 hM | exact MT_t9 hM | exact MT_l9 hM | exact MT_r10 hM | exact MT_t10 hM | exact MT_l10 hM) (by first | omega | exact hc _ _ | exact k1 _ _ | exact k2 _ _) (by first | omega | exact hc _ _ | exact k1 _ _ | exact k2 _ _) (by omega) ?_))))))
      rw [e2]
      refine gw_iw at289_81 (by first | exact MT_0 hM | exact MT_now hM | exact MT_bt hM | exact MT_bl hM | exact MT_r0 hM | exact MT_t0 hM | exact MT_l0 hM | exact MT_r1 hM | exact MT_t1 hM | exact MT_l1 hM | exact MT_r2 hM | exact MT_t2 hM | exact MT_l2 hM | exact MT_r3 hM | exact MT_t3 hM | exact MT_l3 hM | exact MT_r4 hM | exact MT_t4 hM | exact MT_l4 hM | exact MT_r5 hM | exact MT_t5 hM | exact MT_l5 hM | exact MT_r6 hM | exact MT_t6 hM | exact MT_l6 hM | exact MT_r7 hM | exact MT_t7 hM | exact MT_l7 hM | exact MT_r8 hM | exact MT_t8 hM | exact MT_l8 hM | exact MT_r9 hM | exact MT_t9 hM | exact MT_l9 hM | exact MT_r10 hM | exact MT_t10 hM | exact MT_l10 hM) (by first | exact MT_0 hM | exact MT_now hM | exact MT_bt hM | exact MT_bl hM | exact MT_r0 hM | exact MT_t0 hM | exact MT_l0 hM | exact MT_r1 hM | exact MT_t1 hM | exact MT_l1 hM | exact MT_r2 hM | exact MT_t2 hM | exact MT_l2 hM | exact MT_r3 hM | exact MT_t3 hM | exact MT_l3 hM | exact MT_r4 hM | exact MT_t4 hM | exact MT_l4 hM | exact MT_r5 hM | exact MT_t5 hM | exact MT_l5 hM | exact MT_r6 hM | exact MT_t6 hM | exact MT_l6 hM | exact MT_r7 hM | exact MT_t7 hM | exact MT_l7 hM | exact MT_r8 hM | exact MT_t8 hM | exact MT_l8 hM | exact MT_r9 hM | exact MT_t9 hM | exact MT_l9 hM | exact MT_r10 hM | exact MT_t10 hM | exact MT_l10 hM) (by first | omega | exact hc _ _ | exact k1 _ _ | exact k2 _ _) (by first | omega | exact hc _ _ | exact k1 _ _ | exact k2 _ _) (by omega) (gw_inc1 at289_82 (h := (gw_goto at289_85 ?_)))
      have h8 := ih (i + 1) (by omega) (by omega)
      rw [← gcp_st (by decide) hi0] at h8
      exact h8
  have h9 := lp54 0 (by decide) (by decide)
  rw [gcp_0] at h9
  exact h9
set_option maxHeartbeats 1000000 in
theorem m_rem {g : Nat} {T : gT} {c J : gC} {b : Nat} (hM : MT T b) (hc : RG c) (h13 : 0 ≤ c 500001 13 ∧ c 500001 13 ≤ 10) : gE g 289 0 [.ref 500001] (gm T c J) (fun o M1 => o = .inl none ∧ M1 = gm T (rem c) J) := by
  refine gE_mk am_r289 rfl (Or.inr ⟨_, rfl, (by first | exact MT_0 hM | exact MT_now hM | exact MT_bt hM | exact MT_bl hM | exact MT_r0 hM | exact MT_t0 hM | exact MT_l0 hM | exact MT_r1 hM | exact MT_t1 hM | exact MT_l1 hM | exact MT_r2 hM | exact MT_t2 hM | exact MT_l2 hM | exact MT_r3 hM | exact MT_t3 hM | exact MT_l3 hM | exact MT_r4 hM | exact MT_t4 hM | exact MT_l4 hM | exact MT_r5 hM | exact MT_t5 hM | exact MT_l5 hM | exact MT_r6 hM | exact MT_t6 hM | exact MT_l6 hM | exact MT_r7 hM | exact MT_t7 hM | exact MT_l7 hM | exact MT_r8 hM | exact MT_t8 hM | exact MT_l8 hM | exact MT_r9 hM | exact MT_t9 hM | exact MT_l9 hM | exact MT_r10 hM | exact MT_t10 hM | exact MT_l10 hM)⟩) (fun d hd => ?_)
  show gw d g 289 0 [.ref 500001, am_U] [] _ _
  refine gw_al0 at289_0 (gw_gf (j := 13) at289_1 (by first | exact MT_0 hM | exact MT_now hM | exact MT_bt hM | exact MT_bl hM | exact MT_r0 hM | exact MT_t0 hM | exact MT_l0 hM | exact MT_r1 hM | exact MT_t1 hM | exact MT_l1 hM | exact MT_r2 hM | exact MT_t2 hM | exact MT_l2 hM | exact MT_r3 hM | exact MT_t3 hM | exact MT_l3 hM | exact MT_r4 hM | exact MT_t4 hM | exact MT_l4 hM | exact MT_r5 hM | exact MT_t5 hM | exact MT_l5 hM | exact MT_r6 hM | exact MT_t6 hM | exact MT_l6 hM | exact MT_r7 hM | exact MT_t7 hM | exact MT_l7 hM | exact MT_r8 hM | exact MT_t8 hM | exact MT_l8 hM | exact MT_r9 hM | exact MT_t9 hM | exact MT_l9 hM | exact MT_r10 hM | exact MT_t10 hM | exact MT_l10 hM) rfl (gw_bip at289_4 (by decide) ?_))
  refine gw_cne at289_6 (by first | omega | exact hc _ _ | exact k1 _ _ | exact k2 _ _) (by first | omega | exact hc _ _ | exact k1 _ _ | exact k2 _ _) (fun q6 => ?_) (fun q6 => ?_)
  · first
    | (have e : rm1 c = c := if_neg (by omega)
       have h9 := m_rem52 (g := g) (J := J) hd hM hc h13 (u := am_U) rfl
       rw [e] at h9
       exact h9)
    | (have e : k = 2080 := by omega
       subst e
       have h9 := m_rem52 (g := g) (J := J) hd hM hc h13 (u := gi 2080) rfl
       rw [show rm1 c = gu (gsh c 1872) 500001 13 9 from if_pos h10] at h9
       exact h9)
  · refine gw_sip at289_9 (by decide) (gw_is1 at289_12 (h := ?_))
    have lp13 : ∀ k : Int, 0 ≤ k → k ≤ 2080 → 208 ≤ k → c 500001 13 = 10 → gw d g 289 13 [.ref 500001, gi k] [] (gm T (gsh c (k - 208)) J) (fun o M1 => o = .inl none ∧ M1 = gm T (rem c) J) := by
      refine ind_up 2080 ?_
      intro k hk0 hk1 ih hk2 h10
      have k2 : RG (gsh c (k - 208)) := gsh_RG hc
      have e1 : gsh c (k - 208) 200008 k = c 200008 (k - 208 + 208) := by rw [gsh_hi (by omega), show k - 208 + 208 = k by omega]
      refine gw_il1 at289_13 ?_
      refine gw_sip at289_14 (by decide) ?_
      refine gw_cge at289_17 (by first | omega | exact hc _ _ | exact k1 _ _ | exact k2 _ _) (by first | omega | exact hc _ _ | exact k1 _ _ | exact k2 _ _) (fun q17 => ?_) (fun q17 => ?_)
      · refine gw_al0 at289_42 (gw_dupr at289_43 (gw_gf (j := 13) at289_44 (by first | exact MT_0 hM | exact MT_now hM | exact MT_bt hM | exact MT_bl hM | exact MT_r0 hM | exact MT_t0 hM | exact MT_l0 hM | exact MT_r1 hM | exact MT_t1 hM | exact MT_l1 hM | exact MT_r2 hM | exact MT_t2 hM | exact MT_l2 hM | exact MT_r3 hM | exact MT_t3 hM | exact MT_l3 hM | exact MT_r4 hM | exact MT_t4 hM | exact MT_l4 hM | exact MT_r5 hM | exact MT_t5 hM | exact MT_l5 hM | exact MT_r6 hM | exact MT_t6 hM | exact MT_l6 hM | exact MT_r7 hM | exact MT_t7 hM | exact MT_l7 hM | exact MT_r8 hM | exact MT_t8 hM | exact MT_l8 hM | exact MT_r9 hM | exact MT_t9 hM | exact MT_l9 hM | exact MT_r10 hM | exact MT_t10 hM | exact MT_l10 hM) rfl ?_))
        rw [show gsh c (k - 208) 500001 13 = 10 by rw [gsh_o (by decide)]; exact h10]
        refine gw_const at289_47 (gw_isub at289_48 (gw_pf (j := 13) at289_49 (by first | exact MT_0 hM | exact MT_now hM | exact MT_bt hM | exact MT_bl hM | exact MT_r0 hM | exact MT_t0 hM | exact MT_l0 hM | exact MT_r1 hM | exact MT_t1 hM | exact MT_l1 hM | exact MT_r2 hM | exact MT_t2 hM | exact MT_l2 hM | exact MT_r3 hM | exact MT_t3 hM | exact MT_l3 hM | exact MT_r4 hM | exact MT_t4 hM | exact MT_l4 hM | exact MT_r5 hM | exact MT_t5 hM | exact MT_l5 hM | exact MT_r6 hM | exact MT_t6 hM | exact MT_l6 hM | exact MT_r7 hM | exact MT_t7 hM | exact MT_l7 hM | exact MT_r8 hM | exact MT_t8 hM | exact MT_l8 hM | exact MT_r9 hM | exact MT_t9 hM | exact MT_l9 hM | exact MT_r10 hM | exact MT_t10 hM | exact MT_l10 hM) rfl ?_))
        first
        | (have e : rm1 c = c := if_neg (by omega)
           have h9 := m_rem52 (g := g) (J := J) hd hM hc h13 (u := am_U) rfl
           rw [e] at h9
           exact h9)
        | (have e : k = 2080 := by omega
           subst e
           have h9 := m_rem52 (g := g) (J := J) hd hM hc h13 (u := gi 2080) rfl
           rw [show rm1 c = gu (gsh c 1872) 500001 13 9 from if_pos h10] at h9
           exact h9)
      · refine gw_al0 at289_20 (gw_gr at289_21 (by first | exact MT_0 hM | exact MT_now hM | exact MT_bt hM | exact MT_bl hM | exact MT_r0 hM | exact MT_t0 hM | exact MT_l0 hM | exact MT_r1 hM | exact MT_t1 hM | exact MT_l1 hM | exact MT_r2 hM | exact MT_t2 hM | exact MT_l2 hM | exact MT_r3 hM | exact MT_t3 hM | exact MT_l3 hM | exact MT_r4 hM | exact MT_t4 hM | exact MT_l4 hM | exact MT_r5 hM | exact MT_t5 hM | exact MT_l5 hM | exact MT_r6 hM | exact MT_t6 hM | exact MT_l6 hM | exact MT_r7 hM | exact MT_t7 hM | exact MT_l7 hM | exact MT_r8 hM | exact MT_t8 hM | exact MT_l8 hM | exact MT_r9 hM | exact MT_t9 hM | exact MT_l9 hM | exact MT_r10 hM | exact MT_t10 hM | exact MT_l10 hM) (by first | exact MT_0 hM | exact MT_now hM | exact MT_bt hM | exact MT_bl hM | exact MT_r0 hM | exact MT_t0 hM | exact MT_l0 hM | exact MT_r1 hM | exact MT_t1 hM | exact MT_l1 hM | exact MT_r2 hM | exact MT_t2 hM | exact MT_l2 hM | exact MT_r3 hM | exact MT_t3 hM | exact MT_l3 hM | exact MT_r4 hM | exact MT_t4 hM | exact MT_l4 hM | exact MT_r5 hM | exact MT_t5 hM | exact MT_l5 hM | exact MT_r6 hM | exact MT_t6 hM | exact MT_l6 hM | exact MT_r7 hM | exact MT_t7 hM | exact MT_l7 hM | exact MT_r8 hM | exact MT_t8 hM | exact MT_l8 hM | exact MT_r9 hM | exact MT_t9 hM | exact MT_l9 hM | exact MT_r10 hM | exact MT_t10 hM | exact MT_l10 hM) (gw_il1 at289_24 (gw_sip at289_25 (by decide) (gw_isub at289_28 (gw_al0 at289_29 (gw_gr at289_30 (by first | exact MT_0 hM | exact MT_now hM | exact MT_bt hM | exact MT_bl hM | exact MT_r0 hM | exact MT_t0 hM | exact MT_l0 hM | exact MT_r1 hM | exact MT_t1 hM | exact MT_l1 hM | exact MT_r2 hM | exact MT_t2 hM | exact MT_l2 hM | exact MT_r3 hM | exact MT_t3 hM | exact MT_l3 hM | exact MT_r4 hM | exact MT_t4 hM | exact MT_l4 hM | exact MT_r5 hM | exact MT_t5 hM | exact MT_l5 hM | exact MT_r6 hM | exact MT_t6 hM | exact MT_l6 hM | exact MT_r7 hM | exact MT_t7 hM | exact MT_l7 hM | exact MT_r8 hM | exact MT_t8 hM | exact MT_l8 hM | exact MT_r9 hM | exact MT_t9 hM | exact MT_l9 hM | exact MT_r10 hM | exact MT_t10 hM | exact MT_l10 hM) (by first | exact MT_0 hM | exact MT_now hM | exact MT_bt hM | exact MT_bl hM | exact MT_r0 hM | exact MT_t0 hM | exact MT_l0 hM | exact MT_r1 hM | exact MT_t1 hM | exact MT_l1 hM | exact MT_r2 hM | exact MT_t2 hM | exact MT_l2 hM | exact MT_r3 hM | exact MT_t3 hM | exact MT_l3 hM | exact MT_r4 hM | exact MT_t4 hM | exact MT_l4 hM | exact MT_r5 hM | exact MT_t5 hM | exact MT_l5 hM | exact MT_r6 hM | exact MT_t6 hM | exact MT_l6 hM | exact MT_r7 hM | exact MT_t7 hM | exact MT_l7 hM | exact MT_r8 hM | exact MT_t8 hM | exact MT_l8 hM | exact MT_r9 hM | exact MT_t9 hM | exact MT_l9 hM | exact MT_r10 hM | exact MT_t10 hM | exact MT_l10 hM) (gw_il1 at289_33 (gw_ia at289_34 (by first | exact Or.inl (by first | exact MT_0 hM | exact MT_now hM | exact MT_bt hM | exact MT_bl hM | exact MT_r0 hM | exact MT_t0 hM | exact MT_l0 hM | exact MT_r1 hM | exact MT_t1 hM | exact MT_l1 hM | exact MT_r2 hM | exact MT_t2 hM | exact MT_l2 hM | exact MT_r3 hM | exact MT_t3 hM | exact MT_l3 hM | exact MT_r4 hM | exact MT_t4 hM | exact MT_l4 hM | exact MT_r5 hM | exact MT_t5 hM | exact MT_l5 hM | exact MT_r6 hM | exact MT_t6 hM | exact MT_l6 hM | exact MT_r7 hM | exact MT_t7 hM | exact MT_l7 hM | exact MT_r8 hM | exact MT_t8 hM | exact MT_l8 hM | exact MT_r9 hM | exact MT_t9 hM | exact MT_l9 hM | exact MT_r10 hM | exact MT_t10 hM | exact MT_l10 hM) | exact Or.inr (by first | exact MT_0 hM | exact MT_now hM | exact MT_bt hM | exact MT_bl hM | exact MT_r0 hM | exact MT_t0 hM | exact MT_l0 hM | exact MT_r1 hM | exact MT_t1 hM | exact MT_l1 hM | exact MT_r2 hM | exact MT_t2 hM | exact MT_l2 hM | exact MT_r3 hM | exact MT_t3 hM | exact MT_l3 hM | exact MT_r4 hM | exact MT_t4 hM | exact MT_l4 hM | exact MT_r5 hM | exact MT_t5 hM | exact MT_l5 hM | exact MT_r6 hM | exact MT_t6 hM | exact MT_l6 hM | exact MT_r7 hM | exact MT_t7 hM | exact MT_l7 hM | exact MT_r8 hM | exact MT_t8 hM | exact MT_l8 hM | exact MT_r9 hM | exact MT_t9 hM | exact MT_l9 hM | exact MT_r10 hM | exact MT_t10 hM | exact MT_l10 hM)) (by first | exact MT_0 hM | exact MT_now hM | exact MT_bt hM | exact MT_bl hM | exact MT_r0 hM | exact MT_t0 hM | exact MT_l0 hM | exact MT_r1 hM | exact MT_t1 hM | exact MT_l1 hM | exact MT_r2 hM | exact MT_t2 hM | exact MT_l2 hM | exact MT_r3 hM | exact MT_t3 hM | exact MT_l3 hM | exact MT_r4 hM | exact MT_t4 hM | exact MT_l4 hM | exact MT_r5 hM | exact MT_t5 hM | exact MT_l5 hM | exact MT_r6 hM | exact MT_t6 hM | exact MT_l6 hM | exact MT_r7 hM | exact MT_t7 hM | exact MT_l7 hM | exact MT_r8 hM | exact MT_t8 hM | exact MT_l8 hM | exact MT_r9 hM | exact MT_t9 hM | exact MT_l9 hM | exact MT_r10 hM | exact MT_t10 hM | exact MT_l10 hM) (by first | omega | exact hc _ _ | exact k1 _ _ | exact k2 _ _) (by first | omega | exact hc _ _ | exact k1 _ _ | exact k2 _ _) (by omega) ?_))))))))
        rw [e1]
        refine gw_iw at289_35 (by first | exact MT_0 hM | exact MT_now hM | exact MT_bt hM | exact MT_bl hM | exact MT_r0 hM | exact MT_t0 hM | exact MT_l0 hM | exact MT_r1 hM | exact MT_t1 hM | exact MT_l1 hM | exact MT_r2 hM | exact MT_t2 hM | exact MT_l2 hM | exact MT_r3 hM | exact MT_t3 hM | exact MT_l3 hM | exact MT_r4 hM | exact MT_t4 hM | exact MT_l4 hM | exact MT_r5 hM | exact MT_t5 hM | exact MT_l5 hM | exact MT_r6 hM | exact MT_t6 hM | exact MT_l6 hM | exact MT_r7 hM | exact MT_t7 hM | exact MT_l7 hM | exact MT_r8 hM | exact MT_t8 hM | exact MT_l8 hM | exact MT_r9 hM | exact MT_t9 hM | exact MT_l9 hM | exact MT_r10 hM | exact MT_t10 hM | exact MT_l10 hM) (by first | exact MT_0 hM | exact MT_now hM | exact MT_bt hM | exact MT_bl hM | exact MT_r0 hM | exact MT_t0 hM | exact MT_l0 hM | exact MT_r1 hM | exact MT_t1 hM | exact MT_l1 hM | exact MT_r2 hM | exact MT_t2 hM | exact MT_l2 hM | exact MT_r3 hM | exact MT_t3 hM | exact MT_l3 hM | exact MT_r4 hM | exact MT_t4 hM | exact MT_l4 hM | exact MT_r5 hM | exact MT_t5 hM | exact MT_l5 hM | exact MT_r6 hM | exact MT_t6 hM | exact MT_l6 hM | exact MT_r7 hM | exact MT_t7 hM | exact MT_l7 hM | exact MT_r8 hM | exact MT_t8 hM | exact MT_l8 hM | exact MT_r9 hM | exact MT_t9 hM | exact MT_l9 hM | exact MT_r10 hM | exact MT_t10 hM | exact MT_l10 hM) (by first | omega | exact hc _ _ | exact k1 _ _ | exact k2 _ _) (by first | omega | exact hc _ _ | exact k1 _ _ | exact k2 _ _) (by omega) (gw_inc1 at289_36 (h := (gw_goto at289_39 ?_)))
        have h8 := ih (k + 1) (by omega) (by omega) (by omega) h10
        rw [show k + 1 - 208 = k - 208 + 1 by omega, ← gsh_s (by omega)] at h8
        exact h8
    have h9 := lp13 208 (by decide) (by decide) (by decide) q6
    rw [Int.sub_self, gsh_0] at h9
    exact h9
set_option maxHeartbeats 1000000 in
theorem m_x_undo {g : Nat} {T : gT} {c J : gC} (hM : MT T 200000) (hc : RG c) (hV : NW c 200000) (h13 : 0 ≤ c 500001 13 ∧ c 500001 13 ≤ 10) : gE g 290 2 [.ref 500001] (gm T c J) (fun o M1 => (decide (0 < c 500001 13) = true ∧ o = .inl (some (gi (c 500001 13 - 1))) ∧ M1 = gm T (und (tw c 0)) J) ∨ (decide (0 < c 500001 13) = false ∧ o = .inl (some (gi 0)) ∧ M1 = gm T (tw c 1) J)) := by
  have t1 : RG (tw c 0) := tw_RG hc (by decide)
  have t0 : tw c 0 200000 = c 200000 := tw_k (by decide)
  have t2 : NW (tw c 0) 200000 := NW_of hV t0
  have v0 := hV.1.1
  have v1 := hV.1.2
  have e13 : tw c 0 500001 13 = c 500001 13 := gu_j (by decide)
  have k2 := t1
  refine gE_mk am_r290 rfl (Or.inr ⟨_, rfl, (by first | exact MT_0 hM | exact MT_now hM | exact MT_bt hM | exact MT_bl hM | exact MT_r0 hM | exact MT_t0 hM | exact MT_l0 hM | exact MT_r1 hM | exact MT_t1 hM | exact MT_l1 hM | exact MT_r2 hM | exact MT_t2 hM | exact MT_l2 hM | exact MT_r3 hM | exact MT_t3 hM | exact MT_l3 hM | exact MT_r4 hM | exact MT_t4 hM | exact MT_l4 hM | exact MT_r5 hM | exact MT_t5 hM | exact MT_l5 hM | exact MT_r6 hM | exact MT_t6 hM | exact MT_l6 hM | exact MT_r7 hM | exact MT_t7 hM | exact MT_l7 hM | exact MT_r8 hM | exact MT_t8 hM | exact MT_l8 hM | exact MT_r9 hM | exact MT_t9 hM | exact MT_l9 hM | exact MT_r10 hM | exact MT_t10 hM | exact MT_l10 hM)⟩) (fun d hd => ?_)
  show gw d g 290 0 [.ref 500001, am_U] [] _ _
  refine gw_al0 at290_0 (gw_al0 at290_1 (gw_gf (j := 13) at290_2 (by first | exact MT_0 hM | exact MT_now hM | exact MT_bt hM | exact MT_bl hM | exact MT_r0 hM | exact MT_t0 hM | exact MT_l0 hM | exact MT_r1 hM | exact MT_t1 hM | exact MT_l1 hM | exact MT_r2 hM | exact MT_t2 hM | exact MT_l2 hM | exact MT_r3 hM | exact MT_t3 hM | exact MT_l3 hM | exact MT_r4 hM | exact MT_t4 hM | exact MT_l4 hM | exact MT_r5 hM | exact MT_t5 hM | exact MT_l5 hM | exact MT_r6 hM | exact MT_t6 hM | exact MT_l6 hM | exact MT_r7 hM | exact MT_t7 hM | exact MT_l7 hM | exact MT_r8 hM | exact MT_t8 hM | exact MT_l8 hM | exact MT_r9 hM | exact MT_t9 hM | exact MT_l9 hM | exact MT_r10 hM | exact MT_t10 hM | exact MT_l10 hM) rfl ?_))
  refine gw_zle at290_5 (by first | omega | exact hc _ _ | exact t1 _ _ | exact bi_rg _ | exact k2 _ _) (fun q5 => ?_) (fun q5 => ?_)
  · refine gw_const at290_12 ?_
    refine gw_call2 at290_13 (m_pas1 hM hc (p := false)) (by omega) (Nat.le_of_ble_eq_true rfl) (fun o M1 q13 => ?_)
    rcases q13 with ⟨hp, -, -⟩ | ⟨-, rfl, rfl⟩
    · cases hp
    · show gw _ _ _ _ _ (gi _ :: _) _ _
      refine gw_zne at290_16 (by first | omega | exact hc _ _ | exact t1 _ _ | exact bi_rg _ | exact k2 _ _) (fun q16 => absurd q16 (by decide)) (fun q16 => ?_)
      refine gw_const at290_19 (gw_ri at290_20 am_r290.2.1 ?_)
      first
      | exact Or.inr ⟨decide_eq_false (by omega), rfl, rfl⟩
      | (have e : i = 208 := by omega
         subst e
         exact Or.inl ⟨decide_eq_true h0, rfl, by unfold und; rw [e13]⟩)
  · refine gw_const at290_8 (gw_goto at290_9 ?_)
    refine gw_call2 at290_13 (m_pas1 hM hc (p := true)) (by omega) (Nat.le_of_ble_eq_true rfl) (fun o M1 q13 => ?_)
    rcases q13 with ⟨-, rfl, rfl⟩ | ⟨hp, -, -⟩
    · show gw _ _ _ _ _ (gi _ :: _) _ _
      refine gw_zne at290_16 (by first | omega | exact hc _ _ | exact t1 _ _ | exact bi_rg _ | exact k2 _ _) (fun q16 => ?_) (fun q16 => absurd q16 (by decide))
      refine gw_al0 at290_21 (gw_dupr at290_22 (gw_gf (j := 13) at290_23 (by first | exact MT_0 hM | exact MT_now hM | exact MT_bt hM | exact MT_bl hM | exact MT_r0 hM | exact MT_t0 hM | exact MT_l0 hM | exact MT_r1 hM | exact MT_t1 hM | exact MT_l1 hM | exact MT_r2 hM | exact MT_t2 hM | exact MT_l2 hM | exact MT_r3 hM | exact MT_t3 hM | exact MT_l3 hM | exact MT_r4 hM | exact MT_t4 hM | exact MT_l4 hM | exact MT_r5 hM | exact MT_t5 hM | exact MT_l5 hM | exact MT_r6 hM | exact MT_t6 hM | exact MT_l6 hM | exact MT_r7 hM | exact MT_t7 hM | exact MT_l7 hM | exact MT_r8 hM | exact MT_t8 hM | exact MT_l8 hM | exact MT_r9 hM | exact MT_t9 hM | exact MT_l9 hM | exact MT_r10 hM | exact MT_t10 hM | exact MT_l10 hM) rfl (gw_const at290_26 (gw_isub at290_27 (gw_pf (j := 13) at290_28 (by first | exact MT_0 hM | exact MT_now hM | exact MT_bt hM | exact MT_bl hM | exact MT_r0 hM | exact MT_t0 hM | exact MT_l0 hM | exact MT_r1 hM | exact MT_t1 hM | exact MT_l1 hM | exact MT_r2 hM | exact MT_t2 hM | exact MT_l2 hM | exact MT_r3 hM | exact MT_t3 hM | exact MT_l3 hM | exact MT_r4 hM | exact MT_t4 hM | exact MT_l4 hM | exact MT_r5 hM | exact MT_t5 hM | exact MT_l5 hM | exact MT_r6 hM | exact MT_t6 hM | exact MT_l6 hM | exact MT_r7 hM | exact MT_t7 hM | exact MT_l7 hM | exact MT_r8 hM | exact MT_t8 hM | exact MT_l8 hM | exact MT_r9 hM | exact MT_t9 hM | exact MT_l9 hM | exact MT_r10 hM | exact MT_t10 hM | exact MT_l10 hM) rfl (gw_const at290_31 (gw_is1 at290_32 (h := ?_))))))))
      have lp33 : 0 < c 500001 13 → ∀ i : Int, 0 ≤ i → i ≤ 208 → gw d g 290 33 [.ref 500001, gi i] [] (gm T (gcp (gu (tw c 0) 500001 13 (c 500001 13 - 1)) 200008 200000 (208 * (c 500001 13 - 1)) 0 i) J) (fun o M1 => (decide (0 < c 500001 13) = true ∧ o = .inl (some (gi (c 500001 13 - 1))) ∧ M1 = gm T (und (tw c 0)) J) ∨ (decide (0 < c 500001 13) = false ∧ o = .inl (some (gi 0)) ∧ M1 = gm T (tw c 1) J)) := by
        intro h0
        refine ind_up 208 ?_
        intro i hi0 hi1 ih
        have k1 : RG (gu (tw c 0) 500001 13 (c 500001 13 - 1)) := RG_gu t1 (by omega)
        have k2 : RG (gcp (gu (tw c 0) 500001 13 (c 500001 13 - 1)) 200008 200000 (208 * (c 500001 13 - 1)) 0 i) := RG_gcp k1
        have e1 : (gcp (gu (tw c 0) 500001 13 (c 500001 13 - 1)) 200008 200000 (208 * (c 500001 13 - 1)) 0 i) 500001 13 = c 500001 13 - 1 := by rw [gcp_o (by decide), gu_s]
        have e2 : (gcp (gu (tw c 0) 500001 13 (c 500001 13 - 1)) 200008 200000 (208 * (c 500001 13 - 1)) 0 i) 200008 (208 * (c 500001 13 - 1) + i) = (gu (tw c 0) 500001 13 (c 500001 13 - 1)) 200008 (208 * (c 500001 13 - 1) + i) := gcp_o (by decide)
        refine gw_il1 at290_33 ?_
        refine gw_sip at290_34 (by decide) ?_
        refine gw_cge at290_37 (by first | omega | exact hc _ _ | exact t1 _ _ | exact bi_rg _ | exact k2 _ _) (by first | omega | exact hc _ _ | exact t1 _ _ | exact bi_rg _ | exact k2 _ _) (fun q37 => ?_) (fun q37 => ?_)
        · refine gw_al0 at290_67 (gw_gf (j := 13) at290_68 (by first | exact MT_0 hM | exact MT_now hM | exact MT_bt hM | exact MT_bl hM | exact MT_r0 hM | exact MT_t0 hM | exact MT_l0 hM | exact MT_r1 hM | exact MT_t1 hM | exact MT_l1 hM | exact MT_r2 hM | exact MT_t2 hM | exact MT_l2 hM | exact MT_r3 hM | exact MT_t3 hM | exact MT_l3 hM | exact MT_r4 hM | exact MT_t4 hM | exact MT_l4 hM | exact MT_r5 hM | exact MT_t5 hM | exact MT_l5 hM | exact MT_r6 hM | exact MT_t6 hM | exact MT_l6 hM | exact MT_r7 hM | exact MT_t7 hM | exact MT_l7 hM | exact MT_r8 hM | exact MT_t8 hM | exact MT_l8 hM | exact MT_r9 hM | exact MT_t9 hM | exact MT_l9 hM | exact MT_r10 hM | exact MT_t10 hM | exact MT_l10 hM) rfl ?_)
          rw [e1]
          refine gw_ri at290_71 am_r290.2.1 ?_
          first
          | exact Or.inr ⟨decide_eq_false (by omega), rfl, rfl⟩
          | (have e : i = 208 := by omega
             subst e
             exact Or.inl ⟨decide_eq_true h0, rfl, by unfold und; rw [e13]⟩)
        · refine gw_al0 at290_40 (gw_gr at290_41 (by first | exact MT_0 hM | exact MT_now hM | exact MT_bt hM | exact MT_bl hM | exact MT_r0 hM | exact MT_t0 hM | exact MT_l0 hM | exact MT_r1 hM | exact MT_t1 hM | exact MT_l1 hM | exact MT_r2 hM | exact MT_t2 hM | exact MT_l2 hM | exact MT_r3 hM | exact MT_t3 hM | exact MT_l3 hM | exact MT_r4 hM | exact MT_t4 hM | exact MT_l4 hM | exact MT_r5 hM | exact MT_t5 hM | exact MT_l5 hM | exact MT_r6 hM | exact MT_t6 hM | exact MT_l6 hM | exact MT_r7 hM | exact MT_t7 hM | exact MT_l7 hM | exact MT_r8 hM | exact MT_t8 hM | exact MT_l8 hM | exact MT_r9 hM | exact MT_t9 hM | exact MT_l9 hM | exact MT_r10 hM | exact MT_t10 hM | exact MT_l10 hM) (by first | exact MT_0 hM | exact MT_now hM | exact MT_bt hM | exact MT_bl hM | exact MT_r0 hM | exact MT_t0 hM | exact MT_l0 hM | exact MT_r1 hM | exact MT_t1 hM | exact MT_l1 hM | exact MT_r2 hM | exact MT_t2 hM | exact MT_l2 hM | exact MT_r3 hM | exact MT_t3 hM | exact MT_l3 hM | exact MT_r4 hM | exact MT_t4 hM | exact MT_l4 hM | exact MT_r5 hM | exact MT_t5 hM | exact MT_l5 hM | exact MT_r6 hM | exact MT_t6 hM | exact MT_l6 hM | exact MT_r7 hM | exact MT_t7 hM | exact MT_l7 hM | exact MT_r8 hM | exact MT_t8 hM | exact MT_l8 hM | exact MT_r9 hM | exact MT_t9 hM | exact MT_l9 hM | exact MT_r10 hM | exact MT_t10 hM | exact MT_l10 hM) (gw_il1 at290_44 (gw_al0 at290_45 (gw_gr at290_46 (by first | exact MT_0 hM | exact MT_now hM | exact MT_bt hM | exact MT_bl hM | exact MT_r0 hM | exact MT_t0 hM | exact MT_l0 hM | exact MT_r1 hM | exact MT_t1 hM | exact MT_l1 hM | exact MT_r2 hM | exact MT_t2 hM | exact MT_l2 hM | exact MT_r3 hM | exact MT_t3 hM | exact MT_l3 hM | exact MT_r4 hM | exact MT_t4 hM | exact MT_l4 hM | exact MT_r5 hM | exact MT_t5 hM | exact MT_l5 hM | exact MT_r6 hM | exact MT_t6 hM | exact MT_l6 hM | exact MT_r7 hM | exact MT_t7 hM | exact MT_l7 hM | exact MT_r8 hM | exact MT_t8 hM | exact MT_l8 hM | exact MT_r9 hM | exact MT_t9 hM | exact MT_l9 hM | exact MT_r10 hM | exact MT_t10 hM | exact MT_l10 hM) (by first | exact MT_0 hM | exact MT_now hM | exact MT_bt hM | exact MT_bl hM | exact MT_r0 hM | exact MT_t0 hM | exact MT_l0 hM | exact MT_r1 hM | exact MT_t1 hM | exact MT_l1 hM | exact MT_r2 hM | exact MT_t2 hM | exact MT_l2 hM | exact MT_r3 hM | exact MT_t3 hM | exact MT_l3 hM | exact MT_r4 hM | exact MT_t4 hM | exact MT_l4 hM | exact MT_r5 hM | exact MT_t5 hM | exact MT_l5 hM | exact MT_r6 hM | exact MT_t6 hM | exact MT_l6 hM | exact MT_r7 hM | exact MT_t7 hM | exact MT_l7 hM | exact MT_r8 hM | exact MT_t8 hM | exact MT_l8 hM | exact MT_r9 hM | exact MT_t9 hM | exact MT_l9 hM | exact MT_r10 hM | exact MT_t10 hM | exact MT_l10 hM) (gw_sip at290_49 (by decide) (gw_al0 at290_52 (gw_gf (j := 13) at290_53 (by first | exact MT_0 hM | exact MT_now hM | exact MT_bt hM | exact MT_bl hM | exact MT_r0 hM | exact MT_t0 hM | exact MT_l0 hM | exact MT_r1 hM | exact MT_t1 hM | exact MT_l1 hM | exact MT_r2 hM | exact MT_t2 hM | exact MT_l2 hM | exact MT_r3 hM | exact MT_t3 hM | exact MT_l3 hM | exact MT_r4 hM | exact MT_t4 hM | exact MT_l4 hM | exact MT_r5 hM | exact MT_t5 hM | exact MT_l5 hM | exact MT_r6 hM | exact MT_t6 hM | exact MT_l6 hM | exact MT_r7 hM | exact MT_t7 hM | exact MT_l7 hM | exact MT_r8 hM | exact MT_t8 hM | exact MT_l8 hM | exact MT_r9 hM | exact MT_t9 hM | exact MT_l9 hM | exact MT_r10 hM | exact MT_t10 hM | exact MT_l10 hM) rfl ?_)))))))
          rw [e1]
          refine gw_imul at290_56 (gw_il1 at290_57 (gw_iadd at290_58 (gw_ia at290_59 (by first | exact Or.inl (by first | exact MT_0 hM | exact MT_now hM | exact MT_bt hM | exact MT_bl hM | exact MT_r0 hM | exact MT_t0 hM | exact MT_l0 hM | exact MT_r1 hM | exact MT_t1 hM | exact MT_l1 hM | exact MT_r2 hM | exact MT_t2 hM | exact MT_l2 hM | exact MT_r3 hM | exact MT_t3 hM | exact MT_l3 hM | exact MT_r4 hM | exact MT_t4 hM | exact MT_l4 hM | exact MT_r5 hM | exact MT_t5 hM | exact MT_l5 hM | exact MT_r6 hM | exact MT_t6 hM | exact MT_l6 hM | exact MT_r7 hM | exact MT_t7 hM | exact MT_l7 hM | exact MT_r8 hM | exact MT_t8 hM | exact MT_l8 hM | exact MT_r9 hM | exact MT_t9 hM | exact MT_l9 hM | exact MT_r10 hM | exact MT_t10 hM | exact MT_l10 hM) | exact Or.inr (by first | exact MT_0 hM | exact MT_now hM | exact MT_bt hM | exact MT_bl hM | exact MT_r0 hM | exact MT_t0 hM | exact MT_l0 hM | exact MT_r1 hM | exact MT_t1 hM | exact MT_l1 hM | exact MT_r2 hM | exact MT_t2 hM | exact MT_l2 hM | exact MT_r3 hM | exact MT_t3 hM | exact MT_l3 hM | exact MT_r4 hM | exact MT_t4 hM | exact MT_l4 hM | exact MT_r5 hM | exact MT_t5 hM | exact MT_l5 hM | exact MT_r6 hM | exact MT_t6 hM | exact MT_l6 hM | exact MT_r7 hM | exact MT_t7 hM | exact MT_l7 hM | exact MT_r8 hM | exact MT_t8 hM | exact MT_l8 hM | exact MT_r9 hM | exact MT_t9 hM | exact MT_l9 hM | exact MT_r10 hM | exact MT_t10 hM | exact MT_l10 hM)) (by first | exact MT_0 hM | exact MT_now hM | exact MT_bt hM | exact MT_bl hM | exact MT_r0 hM | exact MT_t0 hM | exact MT_l0 hM | exact MT_r1 hM | exact MT_t1 hM | exact MT_l1 hM | exact MT_r2 hM | exact MT_t2 hM | exact MT_l2 hM | exact MT_r3 hM | exact MT_t3 hM | exact MT_l3 hM | exact MT_r4 hM | exact MT_t4 hM | exact MT_l4 hM | exact MT_r5 hM | exact MT_t5 hM | exact MT_l5 hM | exact MT_r6 hM | exact MT_t6 hM | exact MT_l6 hM | exact MT_r7 hM | exact MT_t7 hM | exact MT_l7 hM | exact MT_r8 hM | exact MT_t8 hM | exact MT_l8 hM | exact MT_r9 hM | exact MT_t9 hM | exact MT_l9 hM | exact MT_r10 hM | exact MT_t10 hM | exact MT_l10 hM) (by first | omega | exact hc _ _ | exact t1 _ _ | exact bi_rg _ | exact k2 _ _) (by first | omega | exact hc _ _ | exact t1 _ _ | exact bi_rg _ | exact k2 _ _) (by omega) ?_)))
          rw [e2]
          refine gw_iw at290_60 (by first | exact MT_0 hM | exact MT_now hM | exact MT_bt hM | exact MT_bl hM | exact MT_r0 hM | exact MT_t0 hM | exact MT_l0 hM | exact MT_r1 hM | exact MT_t1 hM | exact MT_l1 hM | exact MT_r2 hM | exact MT_t2 hM | exact MT_l2 hM | exact MT_r3 hM | exact MT_t3 hM | exact MT_l3 hM | exact MT_r4 hM | exact MT_t4 hM | exact MT_l4 hM | exact MT_r5 hM | exact MT_t5 hM | exact MT_l5 hM | exact MT_r6 hM | exact MT_t6 hM | exact MT_l6 hM | exact MT_r7 hM | exact MT_t7 hM | exact MT_l7 hM | exact MT_r8 hM | exact MT_t8 hM | exact MT_l8 hM | exact MT_r9 hM | exact MT_t9 hM | exact MT_l9 hM | exact MT_r10 hM | exact MT_t10 hM | exact MT_l10 hM) (by first | exact MT_0 hM | exact MT_now hM | exact MT_bt hM | exact MT_bl hM | exact MT_r0 hM | exact MT_t0 hM | exact MT_l0 hM | exact MT_r1 hM | exact MT_t1 hM | exact MT_l1 hM | exact MT_r2 hM | exact MT_t2 hM | exact MT_l2 hM | exact MT_r3 hM | exact MT_t3 hM | exact MT_l3 hM | exact MT_r4 hM | exact MT_t4 hM | exact MT_l4 hM | exact MT_r5 hM | exact MT_t5 hM | exact MT_l5 hM | exact MT_r6 hM | exact MT_t6 hM | exact MT_l6 hM | exact MT_r7 hM | exact MT_t7 hM | exact MT_l7 hM | exact MT_r8 hM | exact MT_t8 hM | exact MT_l8 hM | exact MT_r9 hM | exact MT_t9 hM | exact MT_l9 hM | exact MT_r10 hM | exact MT_t10 hM | exact MT_l10 hM) (by first | omega | exact hc _ _ | exact t1 _ _ | exact bi_rg _ | exact k2 _ _) (by first | omega | exact hc _ _ | exact t1 _ _ | exact bi_rg _ | exact k2 _ _) (by omega) (gw_inc1 at290_61 (h := (gw_goto at290_64 ?_)))
          have h8 := ih (i + 1) (by omega) (by omega)
          rw [← gcp_st (by decide) hi0, Int.zero_add] at h8
          exact h8
      have h9 := lp33 (by omega) 0 (by decide) (by decide)
      rw [gcp_0] at h9
      rw [e13]
      exact h9
    · cases hp
