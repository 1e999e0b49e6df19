/-! least costs: Dijkstra's rows -/
def dR (m : gC) (r t : Int) : Int := m 100028 (r + t)
def wS (m : gC) (u t : Int) : Int := m 100027 (u * 24 + t)
/-- the steps' numbers -/
def wOK (m : gC) : Prop := ∀ u t, I24 u → I24 t → 0 ≤ wS m u t ∧ wS m u t ≤ 100000000
/-- only a row has changed -/
def RW1 (c m : gC) (r : Int) : Prop := (∀ k : Nat, ¬ k = 100028 → m k = c k) ∧ ∀ j, ¬ (r ≤ j ∧ j < r + 24) → m 100028 j = c 100028 j
theorem rlx_t {m : gC} {r u : Int} (hw : wOK m) (hu : I24 u) {i : Int} (h0 : 0 ≤ i) (h1 : i ≤ 24) : RW1 m (itI (rlx r u) m i) r ∧ ∀ t, I24 t → dR (itI (rlx r u) m i) r t = if t < i then min (dR m r t) (dR m r u + wS m u t) else dR m r t := by
  refine itI_inv3 (fun k (s : gC) => RW1 m s r ∧ ∀ t, I24 t → dR s r t = if t < k then min (dR m r t) (dR m r u + wS m u t) else dR m r t) (N := i) ⟨⟨fun _ _ => rfl, fun _ _ => rfl⟩, fun t ht => by rw [if_neg (by unfold I24 at ht; omega)]⟩ (fun k s k0 k1 hs => ?_) h0 (Int.le_refl _)
  obtain ⟨⟨s1, s2⟩, s3⟩ := hs
  have hk : I24 k := ⟨k0, by omega⟩
  have huu := hw u u hu hu
  have e1 : s 100028 (r + u) = dR m r u := (s3 u hu).trans (by
    split
    · omega
    · rfl)
  have e2 : s 100028 (r + k) = dR m r k := (s3 k hk).trans (if_neg (by omega))
  have e3 : s 100027 (u * 24 + k) = wS m u k := congrFun (s1 100027 (by decide)) _
  unfold rlx
  rw [e1, e2, e3]
  refine ⟨⟨fun j hj => by rw [← s1 j hj]; funext q; exact gu_k hj, fun j hj => by rw [gu_j (by unfold I24 at hk; omega)]; exact s2 j hj⟩, fun t ht => ?_⟩
  show gu s 100028 (r + k) _ 100028 (r + t) = _
  rw [gu_v]
  by_cases e : t = k
  · rw [e, if_pos rfl, if_pos (by omega)]
  · rw [if_neg (by omega)]
    refine (s3 t ht).trans ?_
    by_cases e4 : t < k
    · rw [if_pos e4, if_pos (by omega)]
    · rw [if_neg e4, if_neg (by omega)]
theorem rlx_all {m : gC} {r u : Int} (hw : wOK m) (hu : I24 u) : RW1 m (itI (rlx r u) m 24) r ∧ ∀ t, I24 t → dR (itI (rlx r u) m 24) r t = min (dR m r t) (dR m r u + wS m u t) := by
  obtain ⟨h1, h2⟩ := rlx_t (r := r) hw hu (i := 24) (by decide) (by decide)
  exact ⟨h1, fun t ht => (h2 t ht).trans (if_pos ht.2)⟩
def qf (S : Int) : Int → Bool := fun e => decide (0 ≤ e ∧ e < 24) && tb S e
/-- what holds in a row while it is being made: P is what may be said of a number of a place -/
def DKI (c : gC) (r s : Int) (P : Int → Int → Prop) (i : Int) (x : Int × gC) : Prop := RW1 c x.2 r ∧ (∀ t, I24 t → 0 ≤ dR x.2 r t ∧ dR x.2 r t ≤ 100000000) ∧ (∀ t, I24 t → dR x.2 r t < 100000000 → P t (dR x.2 r t)) ∧ (∀ u t, I24 u → I24 t → tb x.1 u = true → dR x.2 r t ≤ dR x.2 r u + wS c u t) ∧ (∀ u v, I24 u → I24 v → tb x.1 u = true → tb x.1 v = false → dR x.2 r u ≤ dR x.2 r v) ∧ dR x.2 r s = 0 ∧ (nun x.2 r x.1 = -1 ∨ i ≤ cnt (qf x.1) 24)
theorem nun_m {m : gC} {r S : Int} (h : nun m r S = -1) {a : Int} (ha : I24 a) (h2 : tb S a = false) : 100000000 ≤ dR m r a := by
  unfold nun at h
  rcases am1_spec (B := 100000000) (f := nuf m r S) (n := 24) (by decide) with ⟨-, h3⟩ | ⟨h3, -⟩
  · have := h3 a ha.1 ha.2
    unfold nuf at this
    rw [if_neg (by rw [h2]; decide)] at this
    exact this
  · omega
theorem nun_y {m : gC} {r S : Int} (h : ¬ nun m r S = -1) : I24 (nun m r S) ∧ tb S (nun m r S) = false ∧ dR m r (nun m r S) < 100000000 ∧ ∀ a, I24 a → tb S a = false → dR m r (nun m r S) ≤ dR m r a := by
  unfold nun at h ⊢
  rcases am1_spec (B := 100000000) (f := nuf m r S) (n := 24) (by decide) with ⟨h1, -⟩ | ⟨h1, h2, h3, h4, h5, h6⟩
  · rw [h1] at h; exact absurd rfl h
  · have e : tb S (am1 100000000 (nuf m r S) 24).1 = false := by
      cases q : tb S (am1 100000000 (nuf m r S) 24).1 with
      | false => rfl
      | true => unfold nuf at h4 q; rw [if_pos q] at h4; omega
    have e2 : nuf m r S (am1 100000000 (nuf m r S) 24).1 = dR m r (am1 100000000 (nuf m r S) 24).1 := if_neg (by rw [e]; decide)
    rw [e2] at h4 h5
    refine ⟨⟨h1, h2⟩, e, h4, fun a ha ht => ?_⟩
    have := h5 a ha.1 ha.2
    rwa [show nuf m r S a = dR m r a from if_neg (by rw [ht]; decide)] at this
theorem rnd_dk {c : gC} {r s : Int} {P : Int → Int → Prop} (hw : wOK c) (hs : I24 s) (hP : ∀ u t v, I24 u → I24 t → P u v → wS c u t < 100000000 → P t (v + wS c u t)) {i : Int} {x : Int × gC} (h : DKI c r s P i x) : DKI c r s P (i + 1) (rnd r x) := by
  obtain ⟨⟨a1, a2⟩, a3, a4, a5, a6, a7, a8⟩ := h
  unfold rnd
  by_cases e : nun x.2 r x.1 = -1
  · rw [if_pos e]
    exact ⟨⟨a1, a2⟩, a3, a4, a5, a6, a7, Or.inl e⟩
  · rw [if_neg e]
    obtain ⟨n1, n2, n3, n4⟩ := nun_y e
    generalize nun x.2 r x.1 = u at *
    have hw2 : wOK x.2 := fun p q hp hq => by
      unfold wS; rw [a1 100027 (by decide)]; exact hw p q hp hq
    have hws : ∀ t, wS x.2 u t = wS c u t := fun t => congrFun (a1 100027 (by decide)) _
    obtain ⟨⟨b1, b2⟩, b3⟩ := rlx_all (r := r) hw2 n1
    have tbn : ∀ e, I24 e → tb (zor x.1 (zshl 1 u)) e = (tb x.1 e || decide (u = e)) := fun e he => tb_ors (by unfold I24 at n1; omega) (by unfold I24 at he; omega)
    have hd : ∀ t, I24 t → tb x.1 t = true → min (dR x.2 r t) (dR x.2 r u + wS x.2 u t) = dR x.2 r t := fun t ht q => by
      have q1 := a6 t u ht n1 q n2
      have q2 := hw2 u t n1 ht
      omega
    have hdu : min (dR x.2 r u) (dR x.2 r u + wS x.2 u u) = dR x.2 r u := by
      have q2 := hw2 u u n1 n1
      omega
    refine ⟨⟨fun k hk => (b1 k hk).trans (a1 k hk), fun j hj => (b2 j hj).trans (a2 j hj)⟩, fun t ht => ?_, fun t ht q => ?_, fun p t hp ht q => ?_, fun p v hp hv q q2 => ?_, ?_, ?_⟩
    · dsimp only
      rw [b3 t ht]
      have q1 := a3 t ht
      have q2 := a3 u n1
      have q3 := hw2 u t n1 ht
      omega
    · dsimp only at q ⊢
      rw [b3 t ht] at q ⊢
      by_cases e2 : dR x.2 r t ≤ dR x.2 r u + wS x.2 u t
      · rw [Int.min_eq_left e2] at q ⊢
        exact a4 t ht q
      · rw [Int.min_eq_right (by omega)] at q ⊢
        have q2 := a3 u n1
        rw [hws] at q ⊢
        exact hP u t _ n1 ht (a4 u n1 n3) (by omega)
    · dsimp only at q ⊢
      rw [tbn p hp, Bool.or_eq_true] at q
      rw [b3 t ht, b3 p hp]
      have q3 := hw2 u t n1 ht
      rcases q with q | q
      · rw [hd p hp q]
        have := a5 p t hp ht q
        omega
      · have := of_decide_eq_true q
        subst this
        rw [hdu, ← hws]
        omega
    · dsimp only at q q2 ⊢
      rw [tbn p hp, Bool.or_eq_true] at q
      rw [tbn v hv, Bool.or_eq_false_iff] at q2
      have q4 := n4 v hv q2.1
      have q3 := hw2 u v n1 hv
      rw [b3 v hv, b3 p hp]
      rcases q with q | q
      · rw [hd p hp q]
        have := a6 p v hp hv q q2.1
        have := a6 p u hp n1 q n2
        omega
      · have := of_decide_eq_true q
        subst this
        rw [hdu]
        omega
    · dsimp only
      rw [b3 s hs, a7]
      have q1 := a3 u n1
      have q3 := hw2 u s n1 hs
      omega
    · right
      dsimp only
      rcases a8 with a8 | a8
      · exact absurd a8 (by assumption)
      · have : cnt (qf x.1) 24 + 1 ≤ cnt (qf (zor x.1 (zshl 1 u))) 24 := cnt_lt (n := 24) (e := u) n1.1 n1.2 (fun e he => by
          unfold qf at he ⊢
          rw [Bool.and_eq_true] at he ⊢
          refine ⟨he.1, ?_⟩
          have he0 : 0 ≤ e ∧ e < 24 := of_decide_eq_true he.1
          rw [tbn e he0, he.2]; rfl) (by
          unfold qf
          rw [tbn u n1, decide_eq_true (show 0 ≤ u ∧ u < 24 from n1)]; simp) (by
          unfold qf
          rw [n2]; simp)
        omega
/-- A ROW: every number below the bound is one that may be said, and no step from a place to the next can lower a number -/
theorem djk_row {c : gC} {s : Int} {P : Int → Int → Prop} (hw : wOK c) (hs : I24 s) (h0 : ∀ t, I24 t → dR c (s * 34) t = 100000000) (hP0 : P s 0) (hP : ∀ u t v, I24 u → I24 t → P u v → wS c u t < 100000000 → P t (v + wS c u t)) : RW1 c (djk c s) (s * 34) ∧ (∀ t, I24 t → 0 ≤ dR (djk c s) (s * 34) t ∧ dR (djk c s) (s * 34) t ≤ 100000000) ∧ (∀ t, I24 t → dR (djk c s) (s * 34) t < 100000000 → P t (dR (djk c s) (s * 34) t)) ∧ (∀ u t, I24 u → I24 t → dR (djk c s) (s * 34) t ≤ dR (djk c s) (s * 34) u + wS c u t) ∧ dR (djk c s) (s * 34) s = 0 := by
  have e0 : ∀ t, I24 t → dR (gu c 100028 (s * 34 + s) 0) (s * 34) t = if t = s then 0 else 100000000 := fun t ht => by
    show gu c 100028 (s * 34 + s) 0 100028 (s * 34 + t) = _
    rw [gu_v]
    by_cases e : t = s
    · rw [e, if_pos rfl, if_pos rfl]
    · rw [if_neg (by omega), if_neg e]
      exact h0 t ht
  have tb0 : ∀ u, I24 u → tb 0 u = false := fun u hu => by
    have := tb_0 (n := u.toNat) (by unfold I24 at hu; omega)
    rwa [show ((u.toNat : Nat) : Int) = u by unfold I24 at hu; omega] at this
  have key : DKI c (s * 34) s P 24 (itI (fun _ => rnd (s * 34)) (0, gu c 100028 (s * 34 + s) 0) 24) := by
    refine itI_inv3 (DKI c (s * 34) s P) (N := 24) ⟨⟨fun k hk => funext fun j => gu_k hk, fun j hj => gu_j (by unfold I24 at hs; omega)⟩, fun t ht => ?_, fun t ht q => ?_, fun u t hu ht q => ?_, fun u v hu hv q => ?_, ?_, Or.inr ?_⟩ (fun j x _ _ hx => rnd_dk hw hs hP hx) (by decide) (Int.le_refl _)
    · dsimp only; rw [e0 t ht]; split <;> omega
    · dsimp only at q ⊢
      rw [e0 t ht] at q ⊢
      by_cases e : t = s
      · rw [if_pos e, e]; exact hP0
      · rw [if_neg e] at q; omega
    · dsimp only at q; rw [tb0 u hu] at q; cases q
    · dsimp only at q; rw [tb0 u hu] at q; cases q
    · dsimp only; rw [e0 s hs, if_pos rfl]
    · exact (cnt_rg (f := qf 0) (n := 24) (by decide)).1
  unfold djk
  obtain ⟨a1, a3, a4, a5, a6, a7, a8⟩ := key
  generalize itI (fun _ => rnd (s * 34)) (0, gu c 100028 (s * 34 + s) 0) 24 = x at *
  refine ⟨a1, a3, a4, fun u t hu ht => ?_, a7⟩
  cases q : tb x.1 u with
  | true => exact a5 u t hu ht q
  | false =>
    have h1 : 100000000 ≤ dR x.2 (s * 34) u := by
      rcases a8 with h | h
      · exact nun_m h hu q
      · exfalso
        have hlt : cnt (qf x.1) 24 + 1 ≤ cnt (fun e => decide (0 ≤ e ∧ e < 24)) 24 := cnt_lt (n := 24) (e := u) hu.1 hu.2 (fun e he => by
          unfold qf at he
          rw [Bool.and_eq_true] at he
          exact he.1) (decide_eq_true (show 0 ≤ u ∧ u < 24 from hu)) (by unfold qf; rw [q]; simp)
        have := (cnt_rg (f := fun e => decide (0 ≤ e ∧ e < 24)) (n := 24) (by decide)).2
        omega
    have h2 := (a3 t ht).2
    have h3 := (hw u t hu ht).1
    omega
