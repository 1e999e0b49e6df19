/-! the parsers: a road's statement, and a snow's -/
section
variable {c m : gC}
theorem nod2_e (h : PZ c m) {f : Int} (hf : 0 ≤ f) : ((inm c = true ∧ nnm c (c 100032 8) = f) ∧ BAD (fai c 3) (mnd 200001 f m).2) ∨ (¬ (inm c = true ∧ nnm c (c 100032 8) = f) ∧ (((rkn c).1 = -1 ∧ BAD (rkn c).2 (mnd 200001 f m).2) ∨ ((0 ≤ (rkn c).1 ∧ (rkn c).1 < m 200001 0) ∧ (mnd 200001 f m).1 = (rkn c).1 ∧ (rkn c).2 = adv c ∧ (mnd 200001 f m).2 = mad m))) := by
  unfold rkn
  rcases name_e h with ⟨a1, a2⟩ | ⟨a1, a2, a3⟩
  · refine Or.inr ⟨fun w => by rw [a1] at w; exact absurd w.1 (by decide), ?_⟩
    rw [if_pos a1]
    exact Or.inl ⟨rfl, BAD_k a2 KB_nd1⟩
  · have e := nnm_e h a3
    have hd : mnd 200001 f m = (nnm c (c 100032 8), mon (mfi (decide (nnm c (c 100032 8) = f)) (mfi (decide (nnm c (c 100032 8) = -1)) m 4) 3)) := by
      unfold mnd mnd1 mnd2
      rw [a2, ← e]
    rw [hd, if_neg (by rw [a1]; decide)]
    by_cases q0 : nnm c (c 100032 8) = f
    · refine Or.inl ⟨⟨a1, q0⟩, ?_⟩
      dsimp only
      rw [mfi_1 (p := decide (nnm c (c 100032 8) = -1)) (m := m) (z := 4) (decide_eq_false (by omega))]
      exact BAD_k (fai_fi h (by decide) (decide_eq_true q0)) KB_mon
    · refine Or.inr ⟨fun w => q0 w.2, ?_⟩
      by_cases q : nnm c (c 100032 8) = -1
      · rw [if_pos q]
        refine Or.inl ⟨rfl, BAD_k (fai_fi h (z := 4) (by decide) (decide_eq_true q)) ?_⟩
        exact KB_tr KB_fi KB_mon
      · rw [if_neg q]
        obtain ⟨z1, z2⟩ := adv_Z h
        have r1 := nnm_rg (v := c 100032 8) h.2.2.2.2.1.2
        have r2 := mfn_lt (m := m) (v := (mnh m).1)
        rw [← e] at r2
        refine Or.inr ⟨⟨by dsimp only; omega, by dsimp only; omega⟩, rfl, rfl, ?_⟩
        dsimp only
        rw [mfi_1 (p := decide (nnm c (c 100032 8) = -1)) (m := m) (z := 4) (decide_eq_false q), mfi_1 (decide_eq_false q0), z2]
theorem KB_r5 {b : Nat} {n f t l w : Int} {s : Bool} : KB m (mpr5 b n f t l w s m) := fun q => by rw [mpr5_f q]; exact ⟨q, rfl, rfl⟩
theorem KB_r4 {b : Nat} {n f t l w : Int} : KB m (mpr4 b n f t l w m) := KB_tr KB_S KB_r5
theorem KB_r3 {b : Nat} {n f t l : Int} : KB m (mpr3 b n f t l m) := KB_tr KB_nu KB_r4
theorem KB_r2 {b : Nat} {n f t : Int} : KB m (mpr2 b n f t m) := KB_tr KB_nu KB_r3
theorem KB_r1 {b : Nat} {n f : Int} : KB m (mpr1 b n f m) := KB_tr KB_nd KB_r2
theorem KB_rB {b : Nat} {n : Int} : KB m (mprB b n m) := KB_tr KB_mon (KB_tr KB_nd KB_r1)
theorem KB_r0 {b : Nat} {n : Int} : KB m (mpr0 b n m) := KB_tr KB_fi KB_rB
theorem KB_rA {b : Nat} : KB m (mprA b m) := KB_tr KB_mon (KB_tr KB_nh KB_r0)
theorem one_e (h : PZ c m) : mtx m 2 6 = decide (c 100032 9 = 2) := by
  have t := h.1.1.1
  by_cases e : c 100032 5 = 1
  · exact kw_e h e (i := 2) (by decide)
  · have e9 : c 100032 9 = -1 := by
      rcases t.2.2 with ⟨q, -⟩ | ⟨-, q, -⟩ | ⟨-, q, -⟩ | ⟨-, q⟩
      · exact absurd q e
      all_goals exact q
    rw [e9]
    unfold mtx
    rw [← t.1.1, decide_eq_false e]
    simp
theorem rd_Z (h : PZ c m) {n n' f t l w : Int} {o : Bool} (hn : NMR n n') (h12 : m 200001 1 < 12) (hf : 0 ≤ f ∧ f < m 200001 0) (ht : 0 ≤ t ∧ t < m 200001 0) (hl : 1 ≤ l ∧ l ≤ 999) (hw : 1 ≤ w ∧ w ≤ 3) : PZ (rda c 100002 n f t l w o) (rdm 200001 n' f t l w (bi o) m) := by
  have hP := h.2.2.2.2.1
  have hM := h.2.2.2.2.2
  have hr := NMR_rg hn
  have r0 := hM.2.1.1
  obtain ⟨p1, p2⟩ := rda_PN (n := n) (f := f) (t := t) (l := l) (w := w) (b := o) hP (by omega) (by omega) (by omega) (by omega) (by omega)
  have mx := MX_rd (b := 200001) (n := n') (f := f) (t := t) (l := l) (w := w) (s := bi o) (by decide) (MX_rf hM) h12 (by omega) (by omega) (by omega) (by omega) (by omega) (by cases o <;> simp [bi])
  refine PZ_d h (fun k hk => ?_) (fun k hk => ?_) (DN_rd h.2.1 hM.2 (hP.1.1 _ _) hn h12 hf ht hl.1 hw.1) p1 (MP_e hM mx)
  · by_cases e : k = 100032
    · rw [e]; funext j; exact rda_p
    · exact p2 k e hk
  · unfold rdm
    funext j
    rw [gu_k hk, gu_k hk, gu_k hk, gu_k hk, gu_k hk, gu_k hk, gu_k hk]
theorem mad_n (h : PZ c m) : mad m 200001 = m 200001 := (mad_ok (b := 200001) (PZ_mi h)).2.2 _ (by decide)
theorem rro_e (h : PZ c m) : RES (rro c) (mst2 (mpr 200001 m)) := by
  have hV := h.2.2.2.2.2.2
  have hN : c 100002 2 = m 200001 1 := h.2.1.1.1.1.1.2
  unfold rro mpr
  rw [hN]
  by_cases e1 : 12 ≤ m 200001 1
  · rw [if_pos e1]
    exact RES_bad (fai_fi h (by decide) (decide_eq_true (by have := hV.1.2; omega))) KB_rA
  · rw [if_neg e1, mfi_1 (p := decide (m 200001 1 = 12)) (m := m) (z := 5) (decide_eq_false (by omega))]
    obtain ⟨z1, z2⟩ := adv_Z h
    have b1 := mad_n h
    unfold rro1 mprA
    rw [z2]
    rcases name_e z1 with ⟨a1, a2⟩ | ⟨a1, a2, a3⟩
    · rw [if_pos a1]
      exact RES_bad a2 KB_r0
    · rw [if_neg (by rw [a1]; decide), a2]
      have e := rnm_e z1 a3
      unfold mpr0
      rw [← e]
      by_cases q : rnm (adv c) (adv c 100032 8) = -1
      · rw [if_neg (fun w => w q), mfi_1 (p := decide (¬ rnm (adv c) (adv c 100032 8) = -1)) (m := mad m) (z := 3) (decide_eq_false fun w => w q)]
        obtain ⟨y1, y2⟩ := adv_Z z1
        have b2 := mad_n z1
        unfold mprB
        rw [y2]
        generalize adv c 100032 8 = nn at *
        generalize (mnh (mad m)).1 = nn' at *
        rcases nod_e y1 with ⟨n1, n2⟩ | ⟨n1, n2, n3, n4⟩
        · rw [if_pos n1]
          exact RES_bad n2 KB_r1
        · rw [if_neg (by omega), n2, n3, n4]
          generalize (rkn (adv (adv c))).1 = f at *
          obtain ⟨w1, -⟩ := adv_Z y1
          have b3 := mad_n y1
          unfold rro2 mpr1
          rcases nod2_e w1 n1.1 with ⟨p1, p2⟩ | ⟨p1, p2⟩
          · rw [if_pos p1]
            exact RES_bad p2 KB_r2
          · rw [if_neg p1]
            unfold rro3
            rcases p2 with ⟨t1, t2⟩ | ⟨t1, t2, t3, t4⟩
            · rw [if_pos t1]
              unfold rro4 rro4b
              rw [if_pos rfl, if_pos rfl]
              exact RES_bad t2 KB_r2
            · rw [if_neg (by omega), t2, t3, t4]
              generalize (rkn (adv (adv (adv c)))).1 = t at *
              obtain ⟨v1, -⟩ := adv_Z w1
              have b4 := mad_n w1
              unfold mpr2 rro4
              rcases num_e v1 (l := 1) (u := 999) (by decide) (by decide) with ⟨s1, s2⟩ | ⟨s1, s2, s3, s4⟩
              · rw [if_pos s1]
                unfold rro4b
                rw [if_pos rfl]
                exact RES_bad s2 KB_r3
              · rw [if_neg (by omega), s2, s3, s4]
                generalize (rnu (adv (adv (adv (adv c)))) 1 999).1 = l at *
                obtain ⟨x1, -⟩ := adv_Z v1
                have b5 := mad_n v1
                unfold mpr3 rro4b
                rcases num_e x1 (l := 1) (u := 3) (by decide) (by decide) with ⟨k1, k2⟩ | ⟨k1, k2, k3, k4⟩
                · rw [if_pos k1]
                  exact RES_bad k2 KB_r4
                · rw [if_neg (by omega), k2, k3, k4]
                  generalize (rnu (adv (adv (adv (adv (adv c))))) 1 3).1 = w at *
                  obtain ⟨u1, -⟩ := adv_Z x1
                  have b6 := mad_n x1
                  unfold mpr4 rro5 rro6
                  rw [one_e u1]
                  have hro : mad (mad (mad (mad (mad (mad m))))) 200001 = m 200001 := by rw [b6, b5, b4, b3, b2, b1]
                  have hroy : mad (mad m) 200001 = m 200001 := by rw [b2, b1]
                  have hrow : mad (mad (mad m)) 200001 = m 200001 := by rw [b3, b2, b1]
                  rw [hroy] at n1
                  rw [hrow] at t1
                  cases o : decide (adv (adv (adv (adv (adv (adv c))))) 100032 9 = 2) with
                  | false =>
                    have hS : mprS (mad (mad (mad (mad (mad (mad m)))))) = mad (mad (mad (mad (mad (mad m))))) := by
                      unfold mprS
                      rw [one_e u1, o, if_neg (by decide)]
                    rw [hS, if_neg (by decide), mpr5_t (PZ_g u1)]
                    exact ren_e (rd_Z u1 a3 (by rw [hro]; omega) (by rw [hro]; exact n1) (by rw [hro]; exact t1) s1 k1)
                  | true =>
                    obtain ⟨j1, -⟩ := adv_Z u1
                    have b7 := mad_n u1
                    have hS : mprS (mad (mad (mad (mad (mad (mad m)))))) = mad (mad (mad (mad (mad (mad (mad m)))))) := by
                      unfold mprS
                      rw [one_e u1, o, if_pos rfl]
                    rw [hS, if_pos rfl, mpr5_t (PZ_g j1)]
                    exact ren_e (rd_Z j1 a3 (by rw [b7, hro]; omega) (by rw [b7, hro]; exact n1) (by rw [b7, hro]; exact t1) s1 k1)
      · rw [if_pos q]
        exact RES_bad (fai_fi z1 (z := 3) (by decide) (decide_eq_true q)) KB_rB
/-! snow -/
theorem set_Z (h : PZ c m) {q : Nat} {i j v : Int} (hj : ¬ j = 0 ∧ ¬ j = 1) (hq : (q = 100002 + 10 ∧ (0 ≤ i ∧ i < 4) ∧ j = 11 + i) ∨ (q = 100002 + 11 ∧ (0 ≤ i ∧ i < 3) ∧ j = 15 + i) ∨ (q = 100002 ∧ i = 4 ∧ j = 3) ∨ (q = 100002 ∧ i = 5 ∧ j = 4 ∧ 0 ≤ v ∧ v ≤ 99) ∨ (q = 100002 ∧ i = 3 ∧ j = 2 ∧ 0 ≤ v ∧ v < m 200001 0) ∨ (q = 100002 + 9 ∧ (0 ≤ i ∧ i < m 200001 1 ∧ m 200001 1 ≤ 12) ∧ j = 52 + 7 * i + 6 ∧ 0 ≤ v ∧ v ≤ 999)) (hv : (j = 3 → 0 ≤ v ∧ v ≤ 9999) ∧ (11 ≤ j ∧ j < 18 → 0 ≤ v ∧ v ≤ 99)) : PZ (gu c q i v) (gu m 200001 j v) := by
  have hP := h.2.2.2.2.1
  have hM := h.2.2.2.2.2
  have r0 := hM.2.1.1
  have hz : -2147483648 ≤ v ∧ v < 2147483648 := by
    rcases hq with ⟨-, hi, hj2⟩ | ⟨-, hi, hj2⟩ | ⟨-, hi, hj2⟩ | ⟨-, hi, hj2⟩ | ⟨-, hi, hj2⟩ | ⟨-, hi, hj2⟩
    · have := hv.2 (by omega); omega
    · have := hv.2 (by omega); omega
    · have := hv.1 hj2; omega
    all_goals omega
  have hNW : NW (gu m 200001 j v) 200001 := NW_gu hM.2 (fun e => absurd e hj.1) (fun e => absurd e hj.2) (fun e => by
    rcases hq with ⟨-, hi, hj2⟩ | ⟨-, hi, hj2⟩ | ⟨-, hi, hj2⟩ | ⟨-, hi, hj2⟩ | ⟨-, hi, hj2⟩ | ⟨-, hi, hj2⟩ <;> omega) hv.1 (fun a b => hv.2 ⟨a, b⟩) (fun n n0 n1 e => by
    rcases hq with ⟨-, hi, hj2⟩ | ⟨-, hi, hj2⟩ | ⟨-, hi, hj2⟩ | ⟨-, hi, hj2⟩ | ⟨-, hi, hj2⟩ | ⟨-, hi, hj2⟩ <;> omega) (fun r q0 q1 => ⟨fun e => by
    rcases hq with ⟨-, hi, hj2⟩ | ⟨-, hi, hj2⟩ | ⟨-, hi, hj2⟩ | ⟨-, hi, hj2⟩ | ⟨-, hi, hj2⟩ | ⟨-, hi, hj2⟩ <;> omega, fun e => by
    rcases hq with ⟨-, hi, hj2⟩ | ⟨-, hi, hj2⟩ | ⟨-, hi, hj2⟩ | ⟨-, hi, hj2⟩ | ⟨-, hi, hj2⟩ | ⟨-, hi, hj2⟩ <;> omega, fun e => by
    rcases hq with ⟨-, hi, hj2⟩ | ⟨-, hi, hj2⟩ | ⟨-, hi, hj2⟩ | ⟨-, hi, hj2⟩ | ⟨-, hi, hj2⟩ | ⟨-, hi, hj2⟩ <;> omega⟩)
  have mx := MX_b (b := 200001) (c := m) (j := j) (z := v) (by decide) (MX_rf hM) hz hNW (by
    rcases hq with ⟨-, hi, hj2⟩ | ⟨-, hi, hj2⟩ | ⟨-, hi, hj2⟩ | ⟨-, hi, hj2⟩ | ⟨-, hi, hj2⟩ | ⟨-, hi, hj2⟩ <;> omega) (fun e => by
    rcases hq with ⟨-, hi, hj2⟩ | ⟨-, hi, hj2⟩ | ⟨-, hi, hj2⟩ | ⟨-, hi, hj2⟩ | ⟨-, hi, hj2⟩ | ⟨-, hi, hj2⟩ <;> omega)
  have hpn : PN (gu c q i v) := by
    rcases hq with ⟨hq, hi, hj2⟩ | ⟨hq, hi, hj2⟩ | ⟨hq, hi, hj2⟩ | ⟨hq, hi, hj2⟩ | ⟨hq, hi, hj2⟩ | ⟨hq, hi, hj2⟩ <;> subst hq
    · exact (PN_10 hP (hv.2 (by omega))).1
    · exact (PN_11 hP (hv.2 (by omega))).1
    · exact (PN_0 hP (by omega) (by omega) hz).1
    · exact (PN_0 hP (by omega) (by omega) hz).1
    · exact (PN_0 hP (by omega) (by omega) hz).1
    · exact (PN_9 hP hz).1
  exact PZ_d h (fun k hk => funext fun y => gu_k (by omega)) (fun k hk => funext fun y => gu_k hk) (DN_set h.2.1 hj hq hM.2) hpn (MP_e hM mx)
theorem KB_s3 {b : Nat} {r : Int} : KB m (mps3 b r m) := fun q => by
  have k := KB_nu (l := 0) (u := 999) q
  rw [mps3_f k.1]
  exact k
theorem KB_s2 {b : Nat} {r : Int} : KB m (mps2 b r m) := KB_tr KB_mon KB_s3
theorem KB_s1 {b : Nat} {r : Int} : KB m (mps1 b r m) := KB_tr KB_fi KB_s2
theorem rsn_e (h : PZ c m) : RES (rsn c) (mst2 (mps 200001 m)) := by
  have hV := h.2.2.2.2.2.2
  obtain ⟨z1, z2⟩ := adv_Z h
  have b1 := mad_n h
  unfold rsn mps rsn1 mps0
  rcases name_e z1 with ⟨a1, a2⟩ | ⟨a1, a2, a3⟩
  · rw [if_pos a1]
    exact RES_bad a2 KB_s1
  · rw [if_neg (by rw [a1]; decide), a2]
    have e := rnm_e z1 a3
    rw [← e]
    have r1 := rnm_rg (v := adv c 100032 8) z1.2.2.2.2.1.2
    have r2 := mfr_lt (m := mad m) (v := (mnh (mad m)).1)
    rw [← e] at r2
    unfold mps1
    generalize rnm (adv c) (adv c 100032 8) = r at *
    by_cases q : r = -1
    · rw [if_pos q]
      exact RES_bad (fai_fi z1 (z := 4) (by decide) (decide_eq_true q)) KB_s2
    · rw [if_neg q, mfi_1 (p := decide (r = -1)) (m := mad m) (z := 4) (decide_eq_false q)]
      obtain ⟨y1, y2⟩ := adv_Z z1
      have b2 := mad_n z1
      unfold rsn2 mps2
      rw [y2]
      rcases num_e y1 (l := 0) (u := 999) (by decide) (by decide) with ⟨n1, n2⟩ | ⟨n1, n2, n3, n4⟩
      · rw [if_pos n1, mps3_f n2.1]
        exact Or.inr ⟨rfl, BAD_k n2 KB_st2⟩
      · obtain ⟨w1, w2⟩ := adv_Z y1
        have b3 := mad_n y1
        rw [if_neg (by omega), mps3_t (by rw [n4]; exact PZ_g w1), n2, n3, n4]
        have hro : mad (mad (mad m)) 200001 = m 200001 := by rw [b3, b2, b1]
        have r3 := hV.1.2
        rw [b1] at r2
        exact ren_e (set_Z w1 (by omega) (Or.inr (Or.inr (Or.inr (Or.inr (Or.inr ⟨rfl, ⟨by omega, by rw [hro]; omega, by rw [hro]; exact r3.2⟩, rfl, n1⟩))))) ⟨fun _ => by omega, fun _ => by omega⟩)
end
