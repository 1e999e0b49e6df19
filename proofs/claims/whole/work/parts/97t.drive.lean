/-! driving, both worlds -/
theorem mg0_8 {c : gC} {b : Nat} {a : Int} : mg0 c b a b 8 = c b 8 ∧ mg0 c b a b 4 = c b 4 := by
  unfold mg0
  split
  · exact ⟨rfl, rfl⟩
  · have r := mkd_rg (c := c) (b := b) (a := c b 7) (e := a)
    exact ⟨gu_j (by omega), gu_j (by omega)⟩
theorem mg1_8 {c : gC} {b : Nat} {a x : Int} (ha : 0 ≤ a) : mg1 c b a x b 8 = c b 8 ∧ mg1 c b a x b 4 = c b 4 := by
  unfold mg1
  exact ⟨by rw [gu_j (by omega), gu_j (by omega), gu_j (by omega), gu_j (by omega), gu_j (by omega), gu_j (by omega), gu_j (by omega)], by rw [gu_j (by omega), gu_j (by omega), gu_j (by omega), gu_j (by omega), gu_j (by omega), gu_j (by omega), gu_j (by omega)]⟩
theorem mgo_8 {c : gC} {b : Nat} {a : Int} {s : Bool} (ha : 0 ≤ a) (hq : 0 ≤ msq (mg0 c b a) b a) : mgo c b a s b 8 ≤ c b 8 ∧ mgo c b a s b 4 = c b 4 := by
  have h0 := mg0_8 (c := c) (b := b) (a := a)
  have h1 := mg1_8 (c := mg0 c b a) (b := b) (a := a) (x := mse c b a) ha
  unfold mgo mg3
  split
  · unfold mg2
    rw [gu_j (by omega), gu_j (by omega), gu_s, gu_j (by omega), gu_j (by omega), gu_j (by omega), h1.2, h0.1, h0.2]
    omega
  · rw [h1.1, h1.2, h0.1, h0.2]
    exact ⟨Int.le_refl _, rfl⟩
theorem drive_LV {n : Nat} {G : Int → gC} {Lo a : Int} {s : Bool} {c d m c3 : gC} (hn : n ≤ 900) (h : LV G (700000 * (n : Int)) Lo c 100014 100034 c 200000) (ha : mhA c 200000 a = true) (d1 : NF c d 100014) (d2 : WF c d 100034) (em : m 200000 = c 200000) (hq : 0 ≤ msq (mg0 m 200000 a) 200000 a) (e1 : NF d c3 100014) (e2 : WF (drv d 100014 100034 a s) c3 100034) (e3 : c3 200000 = mgo m 200000 a s 200000) : LV G (700000 * ((n + 1 : Nat) : Int)) Lo c3 100014 100034 c3 200000 := by
  have h0 := h
  obtain ⟨⟨a1, b1⟩, ⟨q1, q2⟩, ⟨f1, f2, f3⟩, g1⟩ := h
  have hr := mhA_rg a1.1.2 ha
  have hS : SW d 100014 100034 m 200000 := SW_o a1 d1 d2 em
  have ham : mhA m 200000 a = true := by
    unfold mhA at ha ⊢
    rw [em]
    exact ha
  have hD := (SW_drv hS (Or.inl (by decide)) ham s).1
  have nf : NF d (drv d 100014 100034 a s) 100014 := NF_drv (Or.inl (by decide))
  have nr : NR d 100014 := NR_k2 f1 d1
  have wr : WR d 100034 (700000 * (n : Int)) := WEQ_WR (WEQ_o d2) f2
  have w1 := drv_WR (a := a) (s := s) nr wr (by omega) hr
  have w2 := mgo_WW (a := a) (s := s) hS.1.2 (WW_of f3 em) (by omega) hr
  have m8 := mgo_8 (c := m) (b := 200000) (a := a) (s := s) hr.1 hq
  have na : NA c (mgo m 200000 a s) 200000 := fun j hj => by rw [mgo_NA hr j hj, em]
  have hx : LV G (700000 * ((n + 1 : Nat) : Int)) Lo (drv d 100014 100034 a s) 100014 100034 (mgo m 200000 a s) 200000 := by
    refine LV_w h0 (fun k k0 k1 j => (nf k k0 k1 j).trans (d1 k k0 k1 j)) na ?_ hD.2.1 hD.2.2.1 (WR_mono w1 (by omega) (by omega)) (WW_mono w2 (by omega) (by omega))
    have x3 : mgo m 200000 a s 200000 3 = c 200000 3 := na 3 (by decide)
    rw [m8.2, em, x3]
    rw [em] at m8
    exact ⟨q1.1, Int.le_trans m8.1 q1.2⟩
  refine LV_o (LV_cp hx (NEQ_o fun k k0 k1 j => rfl) (WEQ_o fun k k0 k1 j => rfl) (fun j _ _ => rfl)) (fun k k0 k1 j => ?_) e2 e3
  rw [e1 k k0 k1 j, nf k k0 k1 j]
