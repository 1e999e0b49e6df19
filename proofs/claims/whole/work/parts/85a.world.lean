/-! a drive over an arc: the worlds go on agreeing -/
theorem drv_e {c m : gC} {n w b : Nat} (h : NN c n m b) (hV : NW m b) (hW : VV c w m b) (hl : LA m b) {a : Int} (ha : mhA m b a = true) (hc : 1 ≤ mcl m b a) (s : Bool) : VV (drv c n w a s) w (mgo m b a s) b := by
  have hr := mhA_rg hV ha
  have v0 := VV_0 (n := n) h hV hW hl ha
  have hm0 : ∀ j : Int, j < 18 ∨ 22 ≤ j → mg0 m b a b j = m b j := fun j hj => by
    have := mkd_rg (c := m) (b := b) (a := m b 7) (e := a)
    unfold mg0
    split
    · rfl
    · rw [gu_j (by omega)]
  have hV0 : NW (mg0 m b a) b := NW_n mg0_NA hV
  have e1 := scn_e (k := n) (w := w) h hV hW hl ha
  have e2 := (NN_bg h hV ha).2
  have e3 := (NN_ln h hV ha).1
  have e4 := NN_sf h hV ha hc
  have hA9 := hW.2.2 a ha
  have q1 : c w 1 + scn c n w a = mg0 m b a b 5 + mse m b a := by rw [e1, hm0 5 (by decide), hW.1.1.1]
  have q2 : en c n a = men (mg0 m b a) b a := by rw [e2, men_n mg0_NA hr]
  have q3 : c w 6 + ln c n a = mg0 m b a b 10 + mln (mg0 m b a) b a := by rw [e3, mln_n mg0_NA hr, hm0 10 (by decide), hW.1.2.2.1.2]
  have q4 : c (w + 2) a + 1 = mg0 m b a b (136 + 3 * a + 2) + 1 := by rw [hm0 _ (by omega), hA9.1]
  have d1 : drv1 c n w a = gv1 (drv0 c n w a) w a (mg0 m b a b 5 + mse m b a) (men (mg0 m b a) b a) (mg0 m b a b 10 + mln (mg0 m b a) b a) (mg0 m b a b (136 + 3 * a + 2) + 1) := by
    rw [← q1, ← q2, ← q3, ← q4]
    rfl
  have v1 := VV_1 (x := mse m b a) hV0 v0 hr
  rw [← d1] at v1
  have p1 : msq (mg0 m b a) b a = sf c n a := by rw [e4, msq_n mg0_NA hV hr]
  have p2 : mg0 m b a b 8 = c w 4 := by rw [hm0 8 (by decide), hW.1.2.1.2]
  have p3 : mg0 m b a b 9 = c w 5 := by rw [hm0 9 (by decide), hW.1.2.2.1.1]
  unfold drv mgo
  by_cases g : (s && decide (sf c n a ≤ c w 4)) = true
  · rw [if_pos g]
    rw [Bool.and_eq_true] at g
    rw [mg3_c g.1 (by rw [p1, p2]; exact of_decide_eq_true g.2)]
    unfold mg2
    rw [p1, p2, p3, q1]
    exact VV_2 (NW_n (mg1_NA hr) hV0) v1 hr
  · rw [if_neg g]
    have : mg3 (mg0 m b a) b a s (mse m b a) = mg1 (mg0 m b a) b a (mse m b a) := by
      unfold mg3
      rw [if_neg (fun x => g (by rw [x.1, decide_eq_true (by rw [← p1, ← p2]; exact x.2)]; rfl))]
    rw [this]
    exact v1
