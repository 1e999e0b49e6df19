/-! the parsers: a road more; a node's statement -/
section
variable {c m : gC}
theorem tb_zor0 {s : Int} (hs : -2147483648 ≤ s ∧ s < 2147483648) {R r : Int} {o : Bool} (hR : 0 ≤ R ∧ R < 12) (hr : 0 ≤ r ∧ r < 12) : tb (zor s (if o = true then zshl 1 R else 0)) r = (tb s r || (o && decide (R = r))) := by
  cases o with
  | false => rw [if_neg (by decide), zor_0r hs]; simp
  | true => rw [if_pos rfl, tb_ors (by omega) (by omega)]; simp
theorem DN_rd (h : DN c m) (hV : NW m 200001) (hc6 : -2147483648 ≤ c 100002 6 ∧ c 100002 6 < 2147483648) {n n' f t l w : Int} {o : Bool} (hn : NMR n n') (h12 : m 200001 1 < 12) (hf : 0 ≤ f ∧ f < m 200001 0) (ht : 0 ≤ t ∧ t < m 200001 0) (hl : 1 ≤ l) (hw : 1 ≤ w) : DN (rda c 100002 n f t l w o) (rdm 200001 n' f t l w (bi o) m) := by
  obtain ⟨⟨d1, d0⟩, d2, d3, d4, d5, d6, d7, d8⟩ := h
  obtain ⟨⟨⟨a1, a2⟩, a3, a4⟩, a5, a6, a7, a8⟩ := d1
  have r0 := hV.1.1
  have r1 := hV.1.2
  have hc1 : c 100002 2 = m 200001 1 := a2
  unfold rda rdm
  rw [if_pos (by rw [hc1]; exact h12), hc1]
  generalize hR : m 200001 1 = R at *
  have mo : ∀ j, ¬ j = 1 → ¬ (52 + 7 * R ≤ j ∧ j ≤ 52 + 7 * R + 5) → gu (gu (gu (gu (gu (gu (gu m 200001 (52 + 7 * R + 0) n') 200001 (52 + 7 * R + 1) f) 200001 (52 + 7 * R + 2) t) 200001 (52 + 7 * R + 3) l) 200001 (52 + 7 * R + 4) w) 200001 (52 + 7 * R + 5) (bi o)) 200001 1 (R + 1) 200001 j = m 200001 j := fun j q1 q2 => by rw [gu_j q1, gu_j (by omega), gu_j (by omega), gu_j (by omega), gu_j (by omega), gu_j (by omega), gu_j (by omega)]
  have m1 : gu (gu (gu (gu (gu (gu (gu m 200001 (52 + 7 * R + 0) n') 200001 (52 + 7 * R + 1) f) 200001 (52 + 7 * R + 2) t) 200001 (52 + 7 * R + 3) l) 200001 (52 + 7 * R + 4) w) 200001 (52 + 7 * R + 5) (bi o)) 200001 1 (R + 1) 200001 1 = R + 1 := gu_s
  have e0 : gu (gu (gu (gu (gu (gu (gu m 200001 (52 + 7 * R + 0) n') 200001 (52 + 7 * R + 1) f) 200001 (52 + 7 * R + 2) t) 200001 (52 + 7 * R + 3) l) 200001 (52 + 7 * R + 4) w) 200001 (52 + 7 * R + 5) (bi o)) 200001 1 (R + 1) 200001 (52 + 7 * R) = n' := by rw [gu_j (by omega), gu_j (by omega), gu_j (by omega), gu_j (by omega), gu_j (by omega), gu_j (by omega), Int.add_zero, gu_s]
  have e1 : gu (gu (gu (gu (gu (gu (gu m 200001 (52 + 7 * R + 0) n') 200001 (52 + 7 * R + 1) f) 200001 (52 + 7 * R + 2) t) 200001 (52 + 7 * R + 3) l) 200001 (52 + 7 * R + 4) w) 200001 (52 + 7 * R + 5) (bi o)) 200001 1 (R + 1) 200001 (52 + 7 * R + 1) = f := by rw [gu_j (by omega), gu_j (by omega), gu_j (by omega), gu_j (by omega), gu_j (by omega), gu_s]
  have e2 : gu (gu (gu (gu (gu (gu (gu m 200001 (52 + 7 * R + 0) n') 200001 (52 + 7 * R + 1) f) 200001 (52 + 7 * R + 2) t) 200001 (52 + 7 * R + 3) l) 200001 (52 + 7 * R + 4) w) 200001 (52 + 7 * R + 5) (bi o)) 200001 1 (R + 1) 200001 (52 + 7 * R + 2) = t := by rw [gu_j (by omega), gu_j (by omega), gu_j (by omega), gu_j (by omega), gu_s]
  have e3 : gu (gu (gu (gu (gu (gu (gu m 200001 (52 + 7 * R + 0) n') 200001 (52 + 7 * R + 1) f) 200001 (52 + 7 * R + 2) t) 200001 (52 + 7 * R + 3) l) 200001 (52 + 7 * R + 4) w) 200001 (52 + 7 * R + 5) (bi o)) 200001 1 (R + 1) 200001 (52 + 7 * R + 3) = l := by rw [gu_j (by omega), gu_j (by omega), gu_j (by omega), gu_s]
  have e4 : gu (gu (gu (gu (gu (gu (gu m 200001 (52 + 7 * R + 0) n') 200001 (52 + 7 * R + 1) f) 200001 (52 + 7 * R + 2) t) 200001 (52 + 7 * R + 3) l) 200001 (52 + 7 * R + 4) w) 200001 (52 + 7 * R + 5) (bi o)) 200001 1 (R + 1) 200001 (52 + 7 * R + 4) = w := by rw [gu_j (by omega), gu_j (by omega), gu_s]
  have e5 : gu (gu (gu (gu (gu (gu (gu m 200001 (52 + 7 * R + 0) n') 200001 (52 + 7 * R + 1) f) 200001 (52 + 7 * R + 2) t) 200001 (52 + 7 * R + 3) l) 200001 (52 + 7 * R + 4) w) 200001 (52 + 7 * R + 5) (bi o)) 200001 1 (R + 1) 200001 (52 + 7 * R + 5) = bi o := by rw [gu_j (by omega), gu_s]
  generalize gu (gu (gu (gu (gu (gu (gu m 200001 (52 + 7 * R + 0) n') 200001 (52 + 7 * R + 1) f) 200001 (52 + 7 * R + 2) t) 200001 (52 + 7 * R + 3) l) 200001 (52 + 7 * R + 4) w) 200001 (52 + 7 * R + 5) (bi o)) 200001 1 (R + 1) = m' at *
  generalize hX : gu (gu (gu (gu (gu (gu (gu (gu c (100002 + 4) R n) (100002 + 5) R f) (100002 + 6) R t) (100002 + 7) R l) (100002 + 8) R w) (100002 + 9) R 0) 100002 6 (zor (c 100002 6) (if o = true then zshl 1 R else 0))) 100002 2 (R + 1) = c'
  have co : ∀ k : Nat, ¬ k = 100002 → ¬ (100006 ≤ k ∧ k ≤ 100011) → c' k = c k := fun k q1 q2 => by rw [← hX]; exact funext fun j => by rw [gu_k q1, gu_k q1, gu_k (by omega), gu_k (by omega), gu_k (by omega), gu_k (by omega), gu_k (by omega), gu_k (by omega)]
  have c0 : ∀ j, ¬ j = 2 → ¬ j = 6 → c' 100002 j = c 100002 j := fun j q q2 => by rw [← hX, gu_j q, gu_j q2, gu_k (by decide), gu_k (by decide), gu_k (by decide), gu_k (by decide), gu_k (by decide), gu_k (by decide)]
  have c02 : c' 100002 2 = R + 1 := by rw [← hX]; exact gu_s
  have c06 : c' 100002 6 = zor (c 100002 6) (if o = true then zshl 1 R else 0) := by rw [← hX, gu_j (by decide), gu_s]
  have c4 : ∀ j, c' (100002 + 4) j = if j = R then n else c (100002 + 4) j := fun j => by rw [← hX, gu_k (by decide), gu_k (by decide), gu_k (by decide), gu_k (by decide), gu_k (by decide), gu_k (by decide), gu_k (by decide), gu_v]
  have c5 : ∀ j, c' (100002 + 5) j = if j = R then f else c (100002 + 5) j := fun j => by rw [← hX, gu_k (by decide), gu_k (by decide), gu_k (by decide), gu_k (by decide), gu_k (by decide), gu_k (by decide), gu_v, gu_k (by decide)]
  have c6 : ∀ j, c' (100002 + 6) j = if j = R then t else c (100002 + 6) j := fun j => by rw [← hX, gu_k (by decide), gu_k (by decide), gu_k (by decide), gu_k (by decide), gu_k (by decide), gu_v, gu_k (by decide), gu_k (by decide)]
  have c7 : ∀ j, c' (100002 + 7) j = if j = R then l else c (100002 + 7) j := fun j => by rw [← hX, gu_k (by decide), gu_k (by decide), gu_k (by decide), gu_k (by decide), gu_v, gu_k (by decide), gu_k (by decide), gu_k (by decide)]
  have c8 : ∀ j, c' (100002 + 8) j = if j = R then w else c (100002 + 8) j := fun j => by rw [← hX, gu_k (by decide), gu_k (by decide), gu_k (by decide), gu_v, gu_k (by decide), gu_k (by decide), gu_k (by decide), gu_k (by decide)]
  have c9 : ∀ j, c' (100002 + 9) j = if j = R then 0 else c (100002 + 9) j := fun j => by rw [← hX, gu_k (by decide), gu_k (by decide), gu_v, gu_k (by decide), gu_k (by decide), gu_k (by decide), gu_k (by decide), gu_k (by decide)]
  have d4R := d4 R (Int.le_refl R) (by omega)
  refine ⟨⟨⟨⟨⟨?_, ?_⟩, ?_, ?_⟩, fun k k0 k1 => ?_, fun r q0 q1 => ?_, fun i i0 i1 => ?_, fun i i0 i1 => ?_⟩, ?_⟩, fun k k0 k1 => ?_, fun r q0 q1 => ?_, fun r q0 q1 => ?_, ?_, ?_, fun k k0 k1 => ?_, fun r q0 q1 => ?_⟩
  · rw [c0 _ (by decide) (by decide), mo _ (by decide) (by omega)]; exact a1
  · rw [c02, m1]
  · rw [c0 _ (by decide) (by decide), mo _ (by decide) (by omega)]; exact a3
  · rw [c0 _ (by decide) (by decide), mo _ (by decide) (by omega)]; exact a4
  · rw [mo 0 (by decide) (by omega)] at k1
    rw [co _ (by decide) (by decide), co _ (by decide) (by decide), mo _ (by omega) (by omega), mo _ (by omega) (by omega)]
    exact a5 k k0 k1
  · rw [m1] at q1
    unfold NNr
    rw [c5, c6, c7, c8, c9, c06, tb_zor0 hc6 (by omega) (by omega), mo 0 (by decide) (by omega)]
    by_cases e : r = R
    · subst e
      rw [if_pos rfl, if_pos rfl, if_pos rfl, if_pos rfl, if_pos rfl, e1, e2, e3, e4, e5, d4R.1, mo (52 + 7 * r + 6) (by omega) (by omega), d4R.2]
      refine ⟨⟨rfl, rfl⟩, ⟨rfl, rfl⟩, ⟨rfl, ?_⟩, hf.2, ht.2⟩
      cases o
      · simp [bi]
      · simp [bi]
    · obtain ⟨⟨b1, b2⟩, ⟨b3, b4⟩, ⟨b5, b6⟩, b7, b8⟩ := a6 r q0 (by omega)
      rw [if_neg e, if_neg e, if_neg e, if_neg e, if_neg e, mo (52 + 7 * r + 1) (by omega) (by omega), mo (52 + 7 * r + 2) (by omega) (by omega), mo (52 + 7 * r + 3) (by omega) (by omega), mo (52 + 7 * r + 4) (by omega) (by omega), mo (52 + 7 * r + 5) (by omega) (by omega), mo (52 + 7 * r + 6) (by omega) (by omega), decide_eq_false (show ¬ R = r by omega), Bool.and_false, Bool.or_false]
      exact ⟨⟨b1, b2⟩, ⟨b3, b4⟩, ⟨b5, b6⟩, b7, b8⟩
  · rw [co _ (by decide) (by decide), mo _ (by omega) (by omega)]; exact a7 i i0 i1
  · rw [co _ (by decide) (by decide), mo _ (by omega) (by omega)]; exact a8 i i0 i1
  · rw [c0 _ (by decide) (by decide), mo _ (by decide) (by omega)]; exact d0
  · rw [mo 0 (by decide) (by omega)] at k1
    rw [co _ (by decide) (by decide), mo _ (by omega) (by omega)]
    exact d2 k k0 k1
  · rw [m1] at q1
    rw [c4]
    by_cases e : r = R
    · subst e
      rw [if_pos rfl, e0, e3, e4, e5, mo (52 + 7 * r + 6) (by omega) (by omega), d4R.2]
      exact ⟨hn, hl, hw, by decide, by cases o <;> simp [bi]⟩
    · rw [if_neg e, mo _ (by omega) (by omega), mo _ (by omega) (by omega), mo _ (by omega) (by omega), mo _ (by omega) (by omega), mo _ (by omega) (by omega)]
      exact d3 r q0 (by omega)
  · rw [m1] at q0
    rw [c06, tb_zor0 hc6 (by omega) (by omega), mo _ (by omega) (by omega), (d4 r (by omega) q1).1, (d4 r (by omega) q1).2, decide_eq_false (show ¬ R = r by omega), Bool.and_false]
    exact ⟨rfl, rfl⟩
  · rw [mo 2 (by decide) (by omega), mo 0 (by decide) (by omega)]
    exact d5
  · rw [mo 4 (by decide) (by omega)]
    exact d6
  · rw [mo 0 (by decide) (by omega)] at k0
    rw [mo _ (by omega) (by omega)]
    exact d7 k k0 k1
  · rw [m1] at q0
    rw [mo _ (by omega) (by omega)]
    exact d8 r (by omega) q1
/-! the node's statement -/
theorem KB_pn4 {b : Nat} {n x y : Int} : KB m (mpn4 b n x y m) := fun q => by rw [mpn4_f q]; exact ⟨q, rfl, rfl⟩
theorem KB_pn3 {b : Nat} {n x : Int} : KB m (mpn3 b n x m) := KB_tr KB_nu KB_pn4
theorem KB_pn2 {b : Nat} {n x : Int} : KB m (mpn2 b n x m) := KB_tr KB_fi KB_pn3
theorem KB_pn1 {b : Nat} {n : Int} : KB m (mpn1 b n m) := KB_tr KB_mon (KB_tr KB_nu KB_pn2)
theorem KB_pn0 {b : Nat} {n : Int} : KB m (mpn0 b n m) := KB_tr KB_fi KB_pn1
theorem KB_pnA {b : Nat} : KB m (mpnA b m) := KB_tr KB_mon (KB_tr KB_nh KB_pn0)
theorem MP_e (h : MP 200001 m) {m' : gC} (h2 : MX 200001 m m') : MP 200001 m' := h2.1.1
theorem tak_e (h : PZ c m) {x v : Int} : mtk m 200001 x v = decide (¬ nat2 c x v = -1) := by
  obtain ⟨⟨d1, d0⟩, -⟩ := h.2.1
  have e : nat2 c x v = ff (fun n => decide (mxo m 200001 n = x) && decide (myo m 200001 n = v)) (m 200001 0) 0 := by
    unfold nat2
    rw [d1.1.1.1]
    refine ff_congr fun n n0 n1 => ?_
    rw [(d1.2.1 n n0 n1).1, (d1.2.1 n n0 n1).2]
    rfl
  unfold mtk
  rw [e]
theorem nd_Z (h : PZ c m) {n n' x y : Int} (hn : NMR n n') (h10 : m 200001 0 < 10) (hx : 0 ≤ x ∧ x ≤ 99) (hy : 0 ≤ y ∧ y ≤ 99) : PZ (nda c 100002 n x y) (ndm 200001 n' x y m) := by
  have hP := h.2.2.2.2.1
  have hM := h.2.2.2.2.2
  have hr := NMR_rg hn
  obtain ⟨p1, p2⟩ := nda_PN (n := n) (x := x) (z := y) hP (by omega) hx hy
  have mx := MX_nd (b := 200001) (n := n') (x := x) (y := y) (by decide) (MX_rf hM) h10 (by omega) hx hy
  refine PZ_d h (fun k hk => ?_) (fun k hk => ?_) (DN_nd h.2.1 hM.2 hn h10) p1 (MP_e hM mx)
  · by_cases e : k = 100032
    · rw [e]; funext j; exact nda_p
    · exact p2 k e hk
  · unfold ndm
    funext j
    rw [gu_k hk, gu_k hk, gu_k hk, gu_k hk]
theorem rno_e (h : PZ c m) : RES (rno c) (mst2 (mpn 200001 m)) := by
  have hV := h.2.2.2.2.2.2
  have hN : c 100002 1 = m 200001 0 := h.2.1.1.1.1.1.1
  unfold rno mpn
  rw [hN]
  by_cases e1 : 10 ≤ m 200001 0
  · rw [if_pos e1]
    exact RES_bad (fai_fi h (by decide) (decide_eq_true (by have := hV.1.1; omega))) KB_pnA
  · rw [if_neg e1, mfi_1 (p := decide (m 200001 0 = 10)) (m := m) (z := 5) (decide_eq_false (by omega))]
    obtain ⟨z1, z2⟩ := adv_Z h
    unfold rno1 mpnA
    rw [z2]
    have hb : mad m 200001 = m 200001 := (mad_ok (b := 200001) (PZ_mi h)).2.2 _ (by decide)
    rcases name_e z1 with ⟨a1, a2⟩ | ⟨a1, a2, a3⟩
    · rw [if_pos a1]
      exact RES_bad a2 KB_pn0
    · rw [if_neg (by rw [a1]; decide), a2]
      have e := nnm_e z1 a3
      unfold mpn0
      rw [← e]
      by_cases q : nnm (adv c) (adv c 100032 8) = -1
      · rw [if_neg (fun w => w q), mfi_1 (p := decide (¬ nnm (adv c) (adv c 100032 8) = -1)) (m := mad m) (z := 3) (decide_eq_false fun w => w q)]
        obtain ⟨y1, y2⟩ := adv_Z z1
        unfold mpn1 rno2
        rw [y2]
        rcases num_e y1 (l := 0) (u := 99) (by decide) (by decide) with ⟨n1, n2⟩ | ⟨n1, n2, n3, n4⟩
        · rw [if_pos n1]
          exact RES_bad n2 KB_pn2
        · rw [if_neg (by omega), n2, n3, n4]
          generalize (rnu (adv (adv c)) 0 99).1 = x at *
          obtain ⟨w1, -⟩ := adv_Z y1
          unfold rno3 mpn2 mpn3
          rcases inu_e w1 (l := 0) (u := 99) (by decide) (by decide) with ⟨i1, i2⟩ | ⟨i1, i2, i3, i4⟩
          · rw [if_pos i1]
            have hP : mpnP 200001 x (mad (mad (mad m))) = false := by
              unfold mpnP
              have t := w1.1.1.1
              rw [← t.1.1]
              by_cases f1 : adv (adv (adv c)) 100032 5 = 2
              · have tv : 0 ≤ adv (adv (adv c)) 100032 8 ∧ mad (mad (mad m)) 500001 20 = min 99999 (adv (adv (adv c)) 100032 8) := by
                  rcases t.2.2 with ⟨e, -⟩ | ⟨-, -, e⟩ | ⟨e, -⟩ | ⟨e, -⟩
                  · omega
                  · exact e
                  all_goals omega
                have f2 : inr (mad (mad (mad m)) 500001 20) 0 99 = false := by
                  refine inr_f.2 fun f3 => ?_
                  unfold inu at i1
                  rw [if_neg (fun w => w f1), if_neg (by omega)] at i1
                  cases i1
                rw [f2]; simp
              · rw [decide_eq_false f1]; rfl
            rw [mfi_1 hP]
            exact RES_bad i2 (KB_tr (KB_tr KB_mon KB_rf) KB_pn4)
          · rw [i1, if_neg (by simp)]
            have hP : mpnP 200001 x (mad (mad (mad m))) = decide (¬ nat2 (adv (adv (adv c))) x (adv (adv (adv c)) 100032 8) = -1) := by
              unfold mpnP
              rw [← w1.1.1.1.1.1, decide_eq_true i3.1, i4, inr_t.2 i3.2, tak_e w1]
              rfl
            by_cases q2 : nat2 (adv (adv (adv c))) x (adv (adv (adv c)) 100032 8) = -1
            · rw [if_neg (fun w => w q2), mfi_1 (p := mpnP 200001 x (mad (mad (mad m)))) (m := mad (mad (mad m))) (z := 3) (by rw [hP]; exact decide_eq_false fun w => w q2)]
              have hnu : mnu 0 99 (mad (mad (mad m))) = (adv (adv (adv c)) 100032 8, mad (mad (mad (mad m)))) := by
                obtain ⟨v1, v2⟩ := adv_Z w1
                unfold mnu mnu3
                rw [i2, v2, if_pos (show mgd (mad (mad (mad (mad m)))) = true from PZ_g v1), i4]
              rw [hnu]
              have h10 : mad (mad (mad m)) 200001 0 < 10 := by
                have hb1 := (mad_ok (b := 200001) (PZ_mi z1)).2.2 200001 (by decide)
                have hb2 := (mad_ok (b := 200001) (PZ_mi y1)).2.2 200001 (by decide)
                rw [hb2, hb1, hb]; omega
              have hZ := nd_Z w1 a3 h10 n1 i3.2
              obtain ⟨u1, u2⟩ := adv_Z hZ
              have hcm : mad (ndm 200001 (mnh (mad m)).1 x (adv (adv (adv c)) 100032 8) (mad (mad (mad m)))) = ndm 200001 (mnh (mad m)).1 x (adv (adv (adv c)) 100032 8) (mad (mad (mad (mad m)))) := by
                have hb3 := (mad_ok (b := 200001) (PZ_mi w1)).2.2 200001 (by decide)
                unfold ndm
                rw [mad_b (by decide), mad_b (by decide), mad_b (by decide), mad_b (by decide), hb3]
              rw [hcm] at u1
              have h4 : mgd (mad (mad (mad (mad m)))) = true := PZ_g (adv_Z w1).1
              rw [mpn4_t h4]
              exact ren_e u1
            · rw [if_pos q2]
              exact RES_bad (fai_fi w1 (z := 3) (by decide) (by rw [hP]; exact decide_eq_true q2)) (KB_tr KB_nu KB_pn4)
      · rw [if_pos q]
        exact RES_bad (fai_fi z1 (z := 3) (by decide) (decide_eq_true q)) KB_pn1
end
