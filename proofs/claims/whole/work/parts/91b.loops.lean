/-! sums and choices over arcs are the same on both sides -/
theorem itI_ind {α β : Type} {f : Int → α → α} {g : Int → β → β} {x : α} {y : β} (P : Int → α → β → Prop) {N : Int} (h0 : P 0 x y) (hs : ∀ j s t, 0 ≤ j → j < N → P j s t → P (j + 1) (f j s) (g j t)) {k : Int} (k0 : 0 ≤ k) (k1 : k ≤ N) : P k (itI f x k) (itI g y k) := by
  have key : ∀ i : Nat, (i : Int) ≤ N → P (i : Int) (itI f x (i : Int)) (itI g y (i : Int)) := by
    intro i
    induction i with
    | zero => intro _; exact h0
    | succ i ih =>
      intro hi
      rw [show ((i + 1 : Nat) : Int) = (i : Int) + 1 by omega, itI_s _ _ (by omega), itI_s _ _ (by omega)]
      exact hs _ _ _ (by omega) (by omega) (ih (by omega))
  have := key k.toNat (by omega)
  rwa [show (k.toNat : Int) = k by omega] at this
section
variable {c m : gC} {b : Nat}
theorem first_e {B : Int} (hV : NW m 200000) (hW : VV c 100034 m 200000) (hR : WW m 200000 B) {q p : Int} (hq : ∀ a, I24 a → tb q a = true → mhA m 200000 a = true) (hp : 0 ≤ p ∧ p ≤ 2000) : itI (sff c q p) (-1) 24 = if 1000000 < itI (fun a s => if tb q a = true then min s (mfs m a p) else s) 1000001 24 then -1 else itI (fun a s => if tb q a = true then min s (mfs m a p) else s) 1000001 24 := by
  have key := itI_ind (f := sff c q p) (x := -1) (g := fun a s => if tb q a = true then min s (mfs m a p) else s) (y := 1000001) (fun _ (l s : Int) => (0 ≤ s ∧ s ≤ 1000001) ∧ l = if 1000000 < s then -1 else s) (N := 24) ⟨by decide, rfl⟩ (fun j l s j0 j1 h => ?_) (k := 24) (by decide) (Int.le_refl _)
  · exact key.2
  · obtain ⟨h1, h2⟩ := h
    unfold sff
    cases e : tb q j with
    | false =>
      rw [if_neg (by decide), sfv_f e]
      exact ⟨h1, by rw [if_neg (by omega)]; exact h2⟩
    | true =>
      rw [if_pos rfl, sfv_t e, su_e hV hW hR (hq j ⟨j0, j1⟩ e) hp]
      have s1 := (mfs_spec (a := j) (p := p) hR).1
      generalize mfs m j p = x at *
      refine ⟨by omega, ?_⟩
      rw [h2]
      by_cases a1 : 1000000 < x
      · rw [if_pos a1, if_neg (by omega)]
        by_cases a2 : 1000000 < s
        · rw [if_pos a2, if_pos (by omega)]
        · rw [if_neg a2, if_neg (by omega)]; omega
      · rw [if_neg a1, if_neg (by omega : ¬ 1000000 < min s x)]
        by_cases a2 : 1000000 < s
        · rw [if_pos a2, if_pos ⟨by omega, Or.inl rfl⟩]; omega
        · rw [if_neg a2]
          by_cases a3 : x < s
          · rw [if_pos ⟨by omega, Or.inr a3⟩]; omega
          · rw [if_neg (by omega)]; omega
theorem mean_e {B : Int} (hV : NW m 200000) (hW : VV c 100034 m 200000) (hR : WW m 200000 B) {q : Int} (h0 : 0 ≤ q ∧ q < 16777216) (hq : ∀ a, I24 a → tb q a = true → mhA m 200000 a = true) : mdp c q = (if q = 0 then -1 else itI (mef m 200000 q) 0 24 / mcb q) ∧ (¬ q = 0 → 0 < mcb q) := by
  have key := itI_ind (f := mdf c q) (x := (0, 0)) (g := mef m 200000 q) (y := 0) (fun k (x : Int × Int) (s : Int) => x.1 = s ∧ x.2 = cnt (tb q) k) (N := 24) ⟨rfl, rfl⟩ (fun j x s j0 j1 h => ?_) (k := 24) (by decide) (Int.le_refl _)
  · obtain ⟨k1, k2⟩ := key
    have e0 : cnt (tb q) 24 = 0 ↔ q = 0 := by
      constructor
      · intro z
        refine Classical.byContradiction fun e => ?_
        obtain ⟨a, a1, a2⟩ := tb_ex h0 e
        have := cnt_lt (n := 24) (e := a) (f := tb q) (f' := fun _ => false) a1.1 a1.2 (fun x hx => absurd hx (by decide)) a2 rfl
        have := (cnt_rg (f := fun _ => false) (n := 24) (by decide)).1
        omega
      · intro z
        have : ∀ a, I24 a → tb q a = false := fun a ha => by
          rw [z]
          have := tb_0 (n := a.toNat) (by unfold I24 at ha; omega)
          rwa [show ((a.toNat : Nat) : Int) = a by unfold I24 at ha; omega] at this
        have := itI_inv2 (f := fun e s => if tb q e = true then s + 1 else s) (x := (0 : Int)) (fun s : Int => s = 0) (N := 24) rfl (fun j s j0 j1 hs => by rw [this j ⟨j0, j1⟩]; exact hs) (Int.le_refl 24)
        exact this
    unfold mdp
    rw [k2, mcb_cnt]
    have hc := (cnt_rg (f := tb q) (n := 24) (by decide)).1
    refine ⟨?_, fun e => by have := mt e0.1 e; omega⟩
    by_cases e : q = 0
    · rw [if_pos (e0.2 e), if_pos e]
    · rw [if_neg (mt e0.1 e), if_neg e, k1]
  · obtain ⟨h1, h2⟩ := h
    rw [cnt_s j0]
    cases e : tb q j with
    | false =>
      rw [mdf_f e, mef_f e, if_neg (by decide)]
      exact ⟨by omega, h2⟩
    | true =>
      have := VV_sn (k := 0) hW hV (hq j ⟨j0, j1⟩ e) 0
      rw [Int.add_zero] at this
      rw [mdf_t e, mef_t e, if_pos rfl, this, h1, h2]
      exact ⟨rfl, rfl⟩
theorem clr_no {s e : Int} (hs : 0 ≤ s ∧ s < 16777216) (he : I24 e) (h : tb s e = false) : clr s e = s := by
  unfold I24 at he
  have h2 := clr_rg2 (q := s) (x := e) hs
  refine tb_ext (by omega) (by omega) fun n hn => ?_
  rw [tb_clr (by omega) (by omega)]
  by_cases q : e = (n : Int)
  · rw [← q, h]; rfl
  · rw [decide_eq_false q]; simp
theorem unt_e (hV : NW m 200000) (hW : VV c 100034 m 200000) {q : Int} (h0 : 0 ≤ q ∧ q < 16777216) (hq : ∀ a, I24 a → tb q a = true → mhA m 200000 a = true) : itI (utf c) q 24 = itI (muf m 200000) q 24 := by
  have key := itI_ind (f := utf c) (x := q) (g := muf m 200000) (y := q) (fun k (s t : Int) => s = t ∧ (0 ≤ t ∧ t < 16777216) ∧ ∀ a, I24 a → tb t a = true → tb q a = true) (N := 24) ⟨rfl, h0, fun _ _ h => h⟩ (fun j s t j0 j1 h => ?_) (k := 24) (by decide) (Int.le_refl _)
  · exact key.1
  · obtain ⟨h1, h2, h3⟩ := h
    have hj : I24 j := ⟨j0, j1⟩
    rw [h1]
    cases e : tb t j with
    | false =>
      rw [muf_f e]
      refine ⟨?_, h2, h3⟩
      unfold utf
      split
      · exact clr_no h2 hj e
      · rfl
    | true =>
      have hp := (hW.2.2 j (hq j hj (h3 j hj e))).1
      have hp2 : c (100034 + 2) j = m 200000 (136 + 3 * j + 2) := hp
      unfold utf
      rw [hp2]
      by_cases e2 : 0 < m 200000 (136 + 3 * j + 2)
      · rw [if_pos e2, muf_t e e2]
        refine ⟨rfl, clr_rg2 h2, fun a ha q2 => ?_⟩
        unfold I24 at ha
        rw [tb_clr (by omega) (by omega), Bool.and_eq_true] at q2
        exact h3 a ha q2.1
      · rw [if_neg e2, muf_g e2]
        exact ⟨rfl, h2, h3⟩
theorem imb_e (h : NN c 100014 m 200000) (hV : NW m 200000) (z : Int) : itI (ibf c z) 0 24 = itI (imf m 200000 z) 0 24 := by
  refine itI_c2 fun j j0 j1 s => ?_
  unfold ibf
  rw [NN_hA h]
  cases e : mhA m 200000 j with
  | false => rw [if_neg (by decide), imf_f e]
  | true =>
    rw [if_pos rfl, imf_t e, (NN_bg h hV e).1, (NN_bg h hV e).2]
    omega
theorem salt_e (h : NN c 100014 m 200000) (hV : NW m 200000) (hC : CL1 m 200000) {q : Int} (hq : ∀ a, I24 a → tb q a = true → mhA m 200000 a = true) : itI (slf c q) 0 24 = itI (mnf m 200000 q) 0 24 := by
  refine itI_c2 fun j j0 j1 s => ?_
  unfold slf
  cases e : tb q j with
  | false => rw [if_neg (by decide), mnf_f e]
  | true =>
    have ha := hq j ⟨j0, j1⟩ e
    rw [if_pos rfl, mnf_t e, NN_sf h hV ha (hC j ha).1]
theorem total_e (h : NN c 100014 m 200000) (hV : NW m 200000) (hW : VV c 100034 m 200000) : itI (tnf c) 0 24 = itI (tnf2 m 200000) 0 24 := by
  refine itI_c2 fun j j0 j1 s => ?_
  cases e : mhA m 200000 j with
  | false => rw [tnf_f (by rw [NN_hA h]; exact e), tnf2_f e]
  | true =>
    have := VV_sn (k := 0) hW hV e 0
    rw [Int.add_zero] at this
    rw [tnf_t (by rw [NN_hA h]; exact e), tnf2_t e, (NN_ln h hV e).1, this]
end
/-! the fall changes -/
theorem chf_v {w : Nat} {a : Int} {m : gC} : (∀ k : Nat, ¬ k = w + 3 → ¬ k = w + 4 → chf w a m k = m k) ∧ (∀ x, ¬ x = a → chf w a m (w + 3) x = m (w + 3) x ∧ chf w a m (w + 4) x = m (w + 4) x) ∧ chf w a m (w + 3) a = sn m w a 0 ∧ chf w a m (w + 4) a = max (m (w + 4) a) (m w 1) := by
  unfold chf
  refine ⟨fun k h1 h2 => funext fun j => ?_, fun x hx => ⟨?_, ?_⟩, ?_, ?_⟩
  · rw [gu_k h2, gu_k h1]
  · rw [gu_k (by omega), gu_j hx]
  · rw [gu_j hx, gu_k (by omega)]
  · rw [gu_k (by omega), gu_s]
  · rw [gu_s]
theorem chi_v {c : gC} {w : Nat} {i : Int} (h0 : 0 ≤ i) (h1 : i ≤ 24) : (∀ k : Nat, ¬ k = w + 3 → ¬ k = w + 4 → itI (chf w) c i k = c k) ∧ ∀ x, I24 x → itI (chf w) c i (w + 3) x = (if x < i then sn c w x 0 else c (w + 3) x) ∧ itI (chf w) c i (w + 4) x = (if x < i then max (c (w + 4) x) (c w 1) else c (w + 4) x) := by
  refine itI_inv3 (fun i (m : gC) => (∀ k : Nat, ¬ k = w + 3 → ¬ k = w + 4 → m k = c k) ∧ ∀ x, I24 x → m (w + 3) x = (if x < i then sn c w x 0 else c (w + 3) x) ∧ m (w + 4) x = (if x < i then max (c (w + 4) x) (c w 1) else c (w + 4) x)) (N := 24) ⟨fun _ _ _ => rfl, fun x hx => by rw [if_neg (by unfold I24 at hx; omega), if_neg (by unfold I24 at hx; omega)]; exact ⟨rfl, rfl⟩⟩ (fun j m j0 j1 h => ?_) h0 h1
  obtain ⟨h2, h3⟩ := h
  obtain ⟨v1, v2, v3, v4⟩ := chf_v (w := w) (a := j) (m := m)
  refine ⟨fun k k1 k2 => by rw [v1 k k1 k2, h2 k k1 k2], fun x hx => ?_⟩
  by_cases e : x = j
  · subst e
    obtain ⟨y1, y2⟩ := h3 x hx
    rw [if_neg (Int.lt_irrefl _)] at y1 y2
    rw [if_pos (by omega), if_pos (by omega), v3, v4, y2, h2 w (by omega) (by omega)]
    refine ⟨?_, rfl⟩
    unfold sn
    rw [y1, y2, h2 w (by omega) (by omega)]
  · obtain ⟨y1, y2⟩ := h3 x hx
    obtain ⟨z1, z2⟩ := v2 x e
    rw [z1, z2, y1, y2]
    by_cases e2 : x < j
    · rw [if_pos e2, if_pos e2, if_pos (by omega), if_pos (by omega)]; exact ⟨rfl, rfl⟩
    · rw [if_neg e2, if_neg e2, if_neg (by omega), if_neg (by omega)]; exact ⟨rfl, rfl⟩
theorem sfl_v {m : gC} {b : Nat} {i : Int} (h0 : 0 ≤ i) (h1 : i ≤ 24) (hV : NW m b) : NA m (itI (sfl b) m i) b ∧ (∀ j, j < 136 → itI (sfl b) m i b j = m b j) ∧ (∀ k : Nat, ¬ k = b → itI (sfl b) m i k = m k) ∧ ∀ x, mhA m b x = true → itI (sfl b) m i b (136 + 3 * x) = (if x < i then msn m b x (m b 5) else m b (136 + 3 * x)) ∧ itI (sfl b) m i b (136 + 3 * x + 1) = (if x < i then max (m b (136 + 3 * x + 1)) (m b 5) else m b (136 + 3 * x + 1)) ∧ itI (sfl b) m i b (136 + 3 * x + 2) = m b (136 + 3 * x + 2) := by
  refine itI_inv3 (fun i (t : gC) => NA m t b ∧ (∀ j, j < 136 → t b j = m b j) ∧ (∀ k : Nat, ¬ k = b → t k = m k) ∧ ∀ x, mhA m b x = true → t b (136 + 3 * x) = (if x < i then msn m b x (m b 5) else m b (136 + 3 * x)) ∧ t b (136 + 3 * x + 1) = (if x < i then max (m b (136 + 3 * x + 1)) (m b 5) else m b (136 + 3 * x + 1)) ∧ t b (136 + 3 * x + 2) = m b (136 + 3 * x + 2)) (N := 24) ⟨NA_rf, fun _ _ => rfl, fun _ _ => rfl, fun x hx => ?_⟩ (fun j t j0 j1 h => ?_) h0 h1
  · have := mhA_rg hV hx
    rw [if_neg (by omega), if_neg (by omega)]
    exact ⟨rfl, rfl, rfl⟩
  · obtain ⟨h2, h3, h4, h5⟩ := h
    have hA : mhA t b j = mhA m b j := mhA_n h2 hV
    cases e : mhA m b j with
    | false =>
      rw [sfl_f (by rw [hA]; exact e)]
      refine ⟨h2, h3, h4, fun x hx => ?_⟩
      have : ¬ x = j := fun q => by rw [q, e] at hx; cases hx
      obtain ⟨y1, y2, y3⟩ := h5 x hx
      rw [y1, y2, y3]
      by_cases e2 : x < j
      · rw [if_pos e2, if_pos e2, if_pos (by omega), if_pos (by omega)]; exact ⟨rfl, rfl, rfl⟩
      · rw [if_neg e2, if_neg e2, if_neg (by omega), if_neg (by omega)]; exact ⟨rfl, rfl, rfl⟩
    | true =>
      rw [sfl_t (by rw [hA]; exact e)]
      refine ⟨NA_gu (NA_gu h2 (by omega)) (by omega), fun i hi => ?_, fun k hk => funext fun i => ?_, fun x hx => ?_⟩
      · rw [gu_j (by omega), gu_j (by omega)]; exact h3 i hi
      · rw [gu_k hk, gu_k hk, h4 k hk]
      · obtain ⟨y1, y2, y3⟩ := h5 x hx
        by_cases e3 : x = j
        · subst e3
          rw [if_neg (Int.lt_irrefl _)] at y1 y2
          rw [if_pos (by omega), if_pos (by omega)]
          have e5 := h3 5 (by omega)
          have e4 := h3 4 (by omega)
          have em : msn t b x (t b 5) = msn m b x (m b 5) := by
            unfold msn
            rw [Int.add_zero, y1, y2, e4, e5]
          refine ⟨?_, ?_, ?_⟩
          · rw [gu_j (by omega), Int.add_zero, gu_s, em]
          · rw [gu_s, y2, e5]
          · rw [gu_j (by omega), gu_j (by omega), y3]
        · rw [gu_j (by omega), gu_j (by omega), gu_j (by omega), gu_j (by omega), gu_j (by omega), gu_j (by omega), y1, y2, y3]
          by_cases e2 : x < j
          · rw [if_pos e2, if_pos e2, if_pos (by omega), if_pos (by omega)]; exact ⟨rfl, rfl, rfl⟩
          · rw [if_neg e2, if_neg e2, if_neg (by omega), if_neg (by omega)]; exact ⟨rfl, rfl, rfl⟩
theorem VV_chr {c m : gC} {w b : Nat} (hV : NW m b) (hW : VV c w m b) (r : Int) : VV (chr c w r) w (gu (itI (sfl b) m 24) b 4 r) b ∧ NA m (gu (itI (sfl b) m 24) b 4 r) b := by
  obtain ⟨v1, v2⟩ := chi_v (c := c) (w := w) (i := 24) (by decide) (by decide)
  obtain ⟨s1, s2, s3, s4⟩ := sfl_v (i := 24) (by decide) (by decide) hV
  have hNA : NA m (gu (itI (sfl b) m 24) b 4 r) b := NA_gu s1 (by omega)
  refine ⟨?_, hNA⟩
  obtain ⟨⟨⟨a1, a2⟩, ⟨a3, a4⟩, ⟨a5, a6⟩, a7⟩, a8, a9⟩ := hW
  unfold chr
  have vw := v1 w (by omega) (by omega)
  refine ⟨⟨⟨?_, ?_⟩, ⟨?_, ?_⟩, ⟨?_, ?_⟩, ?_⟩, fun i i0 i1 => ?_, fun x hx => ?_⟩
  · rw [gu_j (by omega), gu_j (by omega), vw, s2 _ (by omega)]; exact a1
  · rw [gu_j (by omega), gu_j (by omega), vw, s2 _ (by omega)]; exact a2
  · rw [gu_j (by omega), gu_j (by omega), vw, s2 _ (by omega)]; exact a3
  · rw [gu_j (by omega), gu_j (by omega), vw, s2 _ (by omega)]; exact a4
  · rw [gu_j (by omega), gu_j (by omega), vw, s2 _ (by omega)]; exact a5
  · rw [gu_j (by omega), gu_j (by omega), vw, s2 _ (by omega)]; exact a6
  · rw [gu_s, gu_s]
  · rw [gu_k (by omega), gu_j (by omega), v1 (w + 1) (by omega) (by omega), s2 _ (by omega)]; exact a8 i i0 i1
  · rw [mhA_n hNA hV] at hx
    have hr := mhA_rg hV hx
    obtain ⟨y1, y2, y3⟩ := s4 x hx
    obtain ⟨z1, z2⟩ := v2 x hr
    obtain ⟨u1, u2, u3⟩ := a9 x hx
    have hs := VV_sn (k := 0) (w := w) ⟨⟨⟨a1, a2⟩, ⟨a3, a4⟩, ⟨a5, a6⟩, a7⟩, a8, a9⟩ hV hx 0
    rw [Int.add_zero] at hs
    rw [if_pos hr.2] at y1 y2 z1 z2
    refine ⟨?_, ?_, ?_⟩
    · rw [gu_k (by omega), gu_j (by omega), v1 (w + 2) (by omega) (by omega), y3]; exact u1
    · rw [gu_k (by omega), gu_j (by omega), y1, z1, hs]
    · rw [gu_k (by omega), gu_j (by omega), y2, z2, u3, a1]
