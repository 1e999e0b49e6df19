/-! the law's case: bytes appended -/
theorem IV_app {n L : Nat} {T : gT} {c : gC} (h : IV n L T c) (hn : n ≤ 990) {c1 : gC} {a1 a2 a3 a4 a5 : Int} (h1 : -2147483648 ≤ a1 ∧ a1 < 2147483648) (h2 : -2147483648 ≤ a2 ∧ a2 < 2147483648) (h3 : -2147483648 ≤ a3 ∧ a3 < 2147483648) (h4 : -2147483648 ≤ a4 ∧ a4 < 2147483648) (h5 : -2147483648 ≤ a5 ∧ a5 < 2147483648) (hf : c 100000 1 + 20 ≤ 1200) (e1 : c1 = ap5 c a1 a2 a3 a4 a5) : RG c1 ∧ (∀ k : Nat, ¬ k = 100000 → ¬ k = 100001 → c1 k = c k) ∧ c1 100000 1 = c 100000 1 + 20 ∧ IV n L T (ap20 (tw c1 0) a1 a2 a3 a4 a5) ∧ ap20 (tw c1 0) a1 a2 a3 a4 a5 500001 0 = 0 := by
  obtain ⟨⟨bt, br⟩, mi, io1, io2⟩ := IV_in h
  have rg := IV_RG h
  have br0 := br.1
  obtain ⟨p1, q1, o1⟩ := pin_ok (v := a1) rg br
  obtain ⟨p2, q2, o2⟩ := pin_ok (v := a2) p1 q1
  obtain ⟨p3, q3, o3⟩ := pin_ok (v := a3) p2 q2
  obtain ⟨p4, q4, o4⟩ := pin_ok (v := a4) p3 q3
  obtain ⟨p5, q5, o5⟩ := pin_ok (v := a5) p4 q4
  have ek : ∀ k : Nat, ¬ k = 100000 → ¬ k = 100001 → c1 k = c k := fun k k0 k1 => funext fun j => by
    rw [e1]
    unfold ap5
    rw [o5 k k0 k1, o4 k k0 k1, o3 k k0 k1, o2 k k0 k1, o1 k k0 k1]
  have rc1 : RG c1 := by rw [e1]; exact p5
  have y0 : RG (tw c1 0) := tw_RG rc1 (by decide)
  have t15 : tw c1 0 500001 15 = c 500001 15 := by unfold tw; rw [gu_j (by decide), ek _ (by decide) (by decide)]
  have t9 : tw c1 0 200009 = c 200009 := (tw_k (by decide)).trans (ek _ (by decide) (by decide))
  have i0 : IOR c (tw c1 0) (c 100000 1) := ⟨rfl, by rw [t15, io1], fun k k0 k1 => by rw [t9]; exact io2 k k0 k1⟩
  have i1 := IOR_4 i0 (by omega) h1
  have i2 := IOR_4 i1 (by omega) h2
  have i3 := IOR_4 i2 (by omega) h3
  have i4 := IOR_4 i3 (by omega) h4
  have i5 := IOR_4 i4 (by omega) h5
  have m1 := ap4_ok (v := a1) y0 (by rw [i0.2.1]; omega)
  have m2 := ap4_ok (v := a2) m1.2.1 (by rw [i1.2.1]; omega)
  have m3 := ap4_ok (v := a3) m2.2.1 (by rw [i2.2.1]; omega)
  have m4 := ap4_ok (v := a4) m3.2.1 (by rw [i3.2.1]; omega)
  have m5 := ap4_ok (v := a5) m4.2.1 (by rw [i4.2.1]; omega)
  have n9 := ap4_9 (v := a5) (ap4_9 (v := a4) (ap4_9 (v := a3) (ap4_9 (v := a2) (ap4_9 (v := a1) (y := tw c1 0) (fun k k0 k1 => by rw [t9]; exact mi.2.2 k k0 k1)))))
  have n5 : ∀ j, ¬ j = 0 → ¬ j = 15 → ap20 (tw c1 0) a1 a2 a3 a4 a5 500001 j = c 500001 j := fun j j0 j1 => by
    unfold ap20
    rw [ap4_5 j1, ap4_5 j1, ap4_5 j1, ap4_5 j1, ap4_5 j1]
    unfold tw
    rw [gu_j j0, ek _ (by decide) (by decide)]
  have nk : ∀ k : Nat, ¬ k = 200009 → ¬ k = 500001 → ap20 (tw c1 0) a1 a2 a3 a4 a5 k = c1 k := fun k k0 k1 => by
    unfold ap20
    rw [m5.2.2 k k0 k1, m4.2.2 k k0 k1, m3.2.2 k k0 k1, m2.2.2 k k0 k1, m1.2.2 k k0 k1, tw_k k1]
  have x0 : c1 100000 1 = c 100000 1 + 20 := by
    have := i5.1
    rw [e1]
    unfold ap5
    omega
  have x15 : ap20 (tw c1 0) a1 a2 a3 a4 a5 500001 15 = c 100000 1 + 20 := by
    have := i5.2.1
    unfold ap20
    omega
  refine ⟨rc1, ek, x0, IV_io h hn (fun k k0 k1 k2 k3 => (nk k k2 k3).trans (ek k k0 k1)) n5 m5.2.1 ?_ ⟨m5.2.1, by rw [x15]; omega, n9⟩ ⟨?_, fun k k0 k1 => ?_⟩, ?_⟩
  · unfold BR
    rw [nk _ (by decide) (by decide), x0]
    omega
  · rw [nk _ (by decide) (by decide), x0, x15]
  · rw [nk _ (by decide) (by decide), x0] at k1
    rw [nk _ (by decide) (by decide)]
    have := i5.2.2 k k0 (by omega)
    have e9 : c1 = pin (pin (pin (pin (pin c 100000 a1) 100000 a2) 100000 a3) 100000 a4) 100000 a5 := e1
    rw [← e9] at this
    unfold ap20
    exact this
  · unfold ap20
    rw [ap4_5 (by decide), ap4_5 (by decide), ap4_5 (by decide), ap4_5 (by decide), ap4_5 (by decide)]
    exact tw_0
def RAp (p : Prop) (v : Int) (T : gT) (c c' J : gC) : (Int ⊕ Nat) → gT → gC → gC → Prop := fun r T1 c1 J1 => J1 = J ∧ ((p ∧ r = .inl v ∧ T1 = T ∧ c1 = c') ∨ (¬ p ∧ r = .inr 0 ∧ T1 = gTt T ∧ c1 = c))
set_option maxHeartbeats 1000000 in
theorem op_0 {L : Nat} : OPC L 312 := by
  intro n T c J i u5 u6 Q hn h hL hi hu hv hend
  have rg := IV_RG h
  have g1 := rg 800000 (i + 1)
  have g2 := rg 800000 (i + 2)
  have g3 := rg 800000 (i + 3)
  have g4 := rg 800000 (i + 4)
  have g5 := rg 800000 (i + 5)
  obtain ⟨⟨bt, br⟩, mi, io1, io2⟩ := IV_in h
  have fx := IV_fx h hn
  have br0 := br.1
  generalize e1 : c 800000 (i + 1) = a1 at *
  generalize e2 : c 800000 (i + 2) = a2 at *
  generalize e3 : c 800000 (i + 3) = a3 at *
  generalize e4 : c 800000 (i + 4) = a4 at *
  generalize e5 : c 800000 (i + 5) = a5 at *
  generalize hc1 : ap5 c a1 a2 a3 a4 a5 = c1
  have APP := fun hf => IV_app h (by omega) g1 g2 g3 g4 g5 hf hc1.symm
  have h1 : gE 5 97 6 [.ref 500000, gi a1, gi a2, gi a3, gi a4, gi a5] (gm T c J) (gP (RAp (c 100000 1 + 20 ≤ 1200) (c 100000 1 + 20) T c c1 J)) := gE_mono (c_x_append (IV_XT h) bt rg br g1 g2 g3 g4 g5) fun o M1 q => by
    rw [hc1] at q
    rcases q with ⟨hp, rfl, rfl⟩ | ⟨hp, rfl, rfl⟩
    · have x := (APP hp).2.2.1
      exact ⟨T, c1, J, rfl, Or.inl ⟨_, rfl, by omega, IV_out h, rfl, Or.inl ⟨hp, by rw [x], rfl, rfl⟩⟩⟩
    · exact ⟨gTt T, c, J, rfl, Or.inr ⟨0, rfl, fx.1, rfl, Or.inr ⟨hp, rfl, rfl, rfl⟩⟩⟩
  refine lc_0 (HW := 7) (HM := 2) (R := RAp (c 100000 1 + 20 ≤ 1200) (c 100000 1 + 20) T c c1 J) (hm := fun _ => 1) (E := fun T c _ => IV (n + 1) L T c) (by omega) (by omega) h.2 hL hi hu hv (by rw [e1, e2, e3, e4, e5]; exact w_append h1 (fun E T1 c1 J1 q => by
    obtain ⟨-, ⟨-, e, -⟩ | ⟨-, e, -⟩⟩ := q
    · cases e
    · exact Sum.inr.inj e)) (fun v T1 d J1 hR => ?_) (fun X T1 d J1 hR => ?_) (fun z T2 c2 J2 k b q hk hb => hend T2 c2 J2 k b q.2.2.2 hk hb)
  · rw [e1, e2, e3, e4, e5]
    obtain ⟨rfl, ⟨hp, e, rfl, rfl⟩ | ⟨-, e, -⟩⟩ := hR
    · have ev : v = c 100000 1 + 20 := Sum.inl.inj e
      subst ev
      obtain ⟨x1, x2, x3, x4, x5⟩ := APP hp
      have y15 : d 500001 15 = c 100000 1 := by rw [x2 _ (by decide) (by decide), ← io1]
      refine ⟨⟨h.2, x2 _ (by decide) (by decide)⟩, gE_mono (m_x_append (IV_MT h) x1 (NW_of (IV_NW h) (x2 _ (by decide) (by decide))) g1 g2 g3 g4 g5 (by rw [y15]; omega)) fun o M1 q => ?_⟩
      rw [y15] at q
      rcases q with ⟨q1, rfl, rfl⟩ | ⟨q1, -⟩
      · exact ⟨_, _, _, rfl, rfl, ⟨⟨IV_MT h, IV_RG x4⟩, x5, IV_out h, IV_up x4 (by omega)⟩, gu_s, by omega⟩
      · exact absurd hp (of_decide_eq_false q1)
    · cases e
  · rw [e1, e2, e3, e4, e5]
    obtain ⟨rfl, ⟨-, e, -⟩ | ⟨hp, e, rfl, rfl⟩⟩ := hR
    · cases e
    · have i1 := IV_te h hn
      have sm : SAM d (gz d (700000 + T.2.1 7)) := SAM_gz (by omega)
      have y15 : gz d (700000 + T.2.1 7) 500001 15 = d 100000 1 := by rw [show gz d (700000 + T.2.1 7) 500001 = d 500001 from sm 500001 (Or.inl (by decide)), ← io1]
      refine ⟨⟨by decide, by decide⟩, ⟨i1.2, sm _ (Or.inr (by decide))⟩, gE_mono (m_x_append (IV_MT i1) (IV_RG i1) (IV_NW i1) g1 g2 g3 g4 g5 (by rw [y15]; exact br)) fun o M1 q => ?_⟩
      rw [y15] at q
      rcases q with ⟨q1, -⟩ | ⟨q1, rfl, rfl⟩
      · exact absurd (of_decide_eq_true q1) hp
      · have i2 := IV_tw i1 (by omega) (z := 1) (by decide)
        exact ⟨_, _, _, _, rfl, rfl, ⟨IV_MT i1, IV_RG i2⟩, tw_0, IV_out i1, i2⟩
