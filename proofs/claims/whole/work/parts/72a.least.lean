/-! least costs: the reference's table holds the least costs of walks over arcs -/
/-- a walk from an arc to an arc, and what it costs (behind the first) -/
def WLn (c : gC) (b : Nat) : Nat → Int → Int → Int → Prop
  | 0, a, z, v => mhA c b a = true ∧ a = z ∧ v = 0
  | n + 1, a, z, v => mhA c b a = true ∧ ∃ e u, mfo c b a e = true ∧ v = mct c b a e + mln c b e + u ∧ WLn c b n e z u
def WLK (c : gC) (b : Nat) (a z v : Int) : Prop := ∃ n, WLn c b n a z v
theorem WLK.nil {c : gC} {b : Nat} {a : Int} (h : mhA c b a = true) : WLK c b a a 0 := ⟨0, h, rfl, rfl⟩
theorem WLK.cons {c : gC} {b : Nat} {a e z v : Int} (h : mhA c b a = true) (h2 : mfo c b a e = true) (h3 : WLK c b e z v) : WLK c b a z (mct c b a e + mln c b e + v) := by
  obtain ⟨n, h3⟩ := h3
  exact ⟨n + 1, h, e, v, h2, rfl, h3⟩
theorem WLK_ind {c : gC} {b : Nat} {P : (a z v : Int) → WLK c b a z v → Prop} (nil : ∀ {a : Int} (h : mhA c b a = true), P a a 0 (WLK.nil h)) (cons : ∀ {a e z v : Int} (h : mhA c b a = true) (h2 : mfo c b a e = true) (h3 : WLK c b e z v), P e z v h3 → P a z (mct c b a e + mln c b e + v) (WLK.cons h h2 h3)) {a z v : Int} (h : WLK c b a z v) : P a z v h := by
  obtain ⟨n, hn⟩ := h
  induction n generalizing a z v with
  | zero =>
    obtain ⟨h1, h2, h3⟩ := hn
    subst h2
    subst h3
    exact nil h1
  | succ n ih =>
    have hn2 := hn
    obtain ⟨h1, e, u, h2, h3, h4⟩ := hn2
    subst h3
    exact cons h1 h2 ⟨n, h4⟩ (ih h4)
theorem WLK_cases {c : gC} {b : Nat} {a z v : Int} (h : WLK c b a z v) : (a = z ∧ v = 0) ∨ ∃ e u, mhA c b a = true ∧ mfo c b a e = true ∧ WLK c b e z u ∧ v = mct c b a e + mln c b e + u := by
  obtain ⟨n, hn⟩ := h
  cases n with
  | zero => exact Or.inl ⟨hn.2.1, hn.2.2⟩
  | succ n =>
    obtain ⟨h1, e, u, h2, h3, h4⟩ := hn
    exact Or.inr ⟨e, u, h1, h2, ⟨n, h4⟩, h3⟩
theorem mfo_h {c : gC} {b : Nat} {a e : Int} (h : mfo c b a e = true) : mhA c b e = true ∧ men c b a = mbg c b e := by
  unfold mfo at h
  rw [Bool.and_eq_true] at h
  exact ⟨h.1, of_decide_eq_true h.2⟩
theorem WLK_h {c : gC} {b : Nat} {a z v : Int} (h : WLK c b a z v) : mhA c b a = true ∧ mhA c b z = true := by
  induction h using WLK_ind with
  | nil h => exact ⟨h, h⟩
  | cons h h2 h3 ih => exact ⟨h, ih.2⟩
theorem WLK_app {c : gC} {b : Nat} {a f z u v : Int} (h : WLK c b a f u) (h2 : WLK c b f z v) : WLK c b a z (u + v) := by
  induction h using WLK_ind with
  | nil h => rw [Int.zero_add]; exact h2
  | cons h h1 h3 ih => rw [Int.add_assoc]; exact WLK.cons h h1 (ih h2)
theorem WLK_0 {c : gC} {b : Nat} (hV : NW c b) {a z v : Int} (h : WLK c b a z v) : 0 ≤ v := by
  induction h using WLK_ind with
  | nil h => exact Int.le_refl _
  | @cons a e z v h h1 h3 ih =>
    have q := mln_rg hV (mhA_rg hV (mfo_h h1).1)
    have := mct_rg (a := a) (e := e) hV
    omega
/-- one entry of the table -/
def tE (m : gC) (a e : Int) : Int := m 200003 (24 * a + e)
def I24 (a : Int) : Prop := 0 ≤ a ∧ a < 24
theorem tE_g {m : gC} {a e x y z : Int} (ha : I24 a) (he : I24 e) (hx : I24 x) (hy : I24 y) : tE (gu m 200003 (24 * a + e) z) x y = if x = a ∧ y = e then z else tE m x y := by
  unfold I24 at *
  unfold tE
  rw [gu_v]
  by_cases h : x = a ∧ y = e
  · rw [if_pos h, h.1, h.2, if_pos rfl]
  · rw [if_neg h, if_neg (by omega)]
theorem mi1_t {c : gC} {b : Nat} {a : Int} {m : gC} (ha : I24 a) {i : Int} (h0 : 0 ≤ i) (h1 : i ≤ 24) : ∀ x y, I24 x → I24 y → tE (itI (mi1 c b a) m i) x y = if x = a ∧ y < i then mini c b a y else tE m x y := by
  refine itI_inv3 (fun k (s : gC) => ∀ x y, I24 x → I24 y → tE s x y = if x = a ∧ y < k then mini c b a y else tE m x y) (N := i) (fun x y hx hy => by rw [if_neg (by unfold I24 at *; omega)]) (fun k s k0 k1 hs => ?_) h0 (Int.le_refl _)
  intro x y hx hy
  unfold mi1
  rw [tE_g ha ⟨k0, by omega⟩ hx hy, hs x y hx hy]
  by_cases e : x = a
  · by_cases e2 : y = k
    · rw [if_pos ⟨e, e2⟩, if_pos ⟨e, by omega⟩, e2]
    · rw [if_neg (fun h => e2 h.2)]
      by_cases e3 : y < k
      · rw [if_pos ⟨e, e3⟩, if_pos ⟨e, by omega⟩]
      · rw [if_neg (fun h => e3 h.2), if_neg (fun h => by omega)]
  · rw [if_neg (fun h => e h.1), if_neg (fun h => e h.1), if_neg (fun h => e h.1)]
theorem mi2_t {c : gC} {b : Nat} {i : Int} (h0 : 0 ≤ i) (h1 : i ≤ 24) : ∀ x y, I24 x → I24 y → tE (itI (mi2 c b) c i) x y = if x < i then mini c b x y else tE c x y := by
  refine itI_inv3 (fun k (s : gC) => ∀ x y, I24 x → I24 y → tE s x y = if x < k then mini c b x y else tE c x y) (N := i) (fun x y hx hy => by rw [if_neg (by unfold I24 at *; omega)]) (fun k s k0 k1 hs => ?_) h0 (Int.le_refl _)
  intro x y hx hy
  unfold mi2
  rw [mi1_t ⟨k0, by omega⟩ (by decide) (by decide) x y hx hy, hs x y hx hy]
  by_cases e : x = k
  · rw [if_pos ⟨e, hy.2⟩, if_pos (by omega), e]
  · rw [if_neg (fun h => e h.1)]
    by_cases e3 : x < k
    · rw [if_pos e3, if_pos (by omega)]
    · rw [if_neg e3, if_neg (by omega)]
def tN (m : gC) : Prop := ∀ x y, I24 x → I24 y → 0 ≤ tE m x y
/-- a round's result -/
def tM (m : gC) (k x y : Int) : Int := min (tE m x y) (tE m x k + tE m k y)
theorem mu1_t {m : gC} {k a : Int} (hm : tN m) (hk : I24 k) (ha : I24 a) {i : Int} (h0 : 0 ≤ i) (h1 : i ≤ 24) : ∀ x y, I24 x → I24 y → tE (itI (mu1 k a) m i) x y = if x = a ∧ y < i then tM m k a y else tE m x y := by
  refine itI_inv3 (fun j (s : gC) => ∀ x y, I24 x → I24 y → tE s x y = if x = a ∧ y < j then tM m k a y else tE m x y) (N := i) (fun x y hx hy => by rw [if_neg (by unfold I24 at *; omega)]) (fun j s k0 k1 hs => ?_) h0 (Int.le_refl _)
  intro x y hx hy
  have hj : I24 j := ⟨k0, by omega⟩
  have hkk := hm k k hk hk
  have s1 : mle s a j = tE m a j := (hs a j ha hj).trans (if_neg (by omega))
  have s2 : mle s a k = tE m a k := (hs a k ha hk).trans (by
    by_cases e : k < j
    · rw [if_pos ⟨rfl, e⟩]; unfold tM; omega
    · rw [if_neg (fun h => e h.2)])
  have s3 : mle s k j = tE m k j := (hs k j hk hj).trans (if_neg (by omega))
  unfold mu1
  rw [tE_g ha hj hx hy, hs x y hx hy, s1, s2, s3]
  by_cases e : x = a
  · by_cases e2 : y = j
    · rw [if_pos ⟨e, e2⟩, if_pos ⟨e, by omega⟩, e2]; rfl
    · rw [if_neg (fun h => e2 h.2)]
      by_cases e3 : y < j
      · rw [if_pos ⟨e, e3⟩, if_pos ⟨e, by omega⟩]
      · rw [if_neg (fun h => e3 h.2), if_neg (fun h => by omega)]
  · rw [if_neg (fun h => e h.1), if_neg (fun h => e h.1), if_neg (fun h => e h.1)]
theorem mu2_t {m : gC} {k : Int} (hm : tN m) (hk : I24 k) {i : Int} (h0 : 0 ≤ i) (h1 : i ≤ 24) : ∀ x y, I24 x → I24 y → tE (itI (mu2 k) m i) x y = if x < i then tM m k x y else tE m x y := by
  refine itI_inv3 (fun j (s : gC) => ∀ x y, I24 x → I24 y → tE s x y = if x < j then tM m k x y else tE m x y) (N := i) (fun x y hx hy => by rw [if_neg (by unfold I24 at *; omega)]) (fun j s k0 k1 hs => ?_) h0 (Int.le_refl _)
  intro x y hx hy
  have hj : I24 j := ⟨k0, by omega⟩
  have hkk := hm k k hk hk
  have hsN : tN s := fun x y hx hy => by
    have a1 := hm x y hx hy
    have a2 := hm x k hx hk
    have a3 := hm k y hk hy
    rw [hs x y hx hy]
    unfold tM
    split <;> omega
  have s1 : ∀ y, I24 y → tE s j y = tE m j y := fun y hy => (hs j y hj hy).trans (if_neg (by omega))
  have s3 : ∀ y, I24 y → tE s k y = tE m k y := fun y hy => (hs k y hk hy).trans (by
    have := hm k y hk hy
    split
    · unfold tM; omega
    · rfl)
  unfold mu2
  rw [mu1_t hsN hk hj (by decide) (by decide) x y hx hy, hs x y hx hy]
  by_cases e : x = j
  · rw [if_pos ⟨e, hy.2⟩, if_pos (by omega), e]
    unfold tM
    rw [s1 y hy, s1 k hk, s3 y hy]
  · rw [if_neg (fun h => e h.1)]
    by_cases e3 : x < j
    · rw [if_pos e3, if_pos (by omega)]
    · rw [if_neg e3, if_neg (by omega)]
theorem mu3_t {m : gC} {k : Int} (hm : tN m) (hk : I24 k) {x y : Int} (hx : I24 x) (hy : I24 y) : tE (mu3 k m) x y = tM m k x y := by
  unfold mu3
  rw [mu2_t hm hk (by decide) (by decide) x y hx hy, if_pos hx.2]
/-- what holds after k rounds -/
def FWk (c : gC) (b : Nat) (k : Int) (m : gC) : Prop := tN m ∧ (∀ x y f, I24 x → I24 y → 0 ≤ f → f < k → tE m x y ≤ tE m x f + tE m f y) ∧ (∀ x y, I24 x → I24 y → tE m x y ≤ mini c b x y) ∧ ∀ x y, I24 x → I24 y → tE m x y < 1000000000 → WLK c b x y (tE m x y)
theorem mini_w {c : gC} {b : Nat} {x y : Int} (h : mini c b x y < 1000000000) : WLK c b x y (mini c b x y) := by
  unfold mini at h ⊢
  by_cases e1 : mhA c b x = false ∨ mhA c b y = false
  · rw [if_pos e1] at h; omega
  · rw [if_neg e1] at h ⊢
    have hx : mhA c b x = true := by cases q : mhA c b x with
      | true => rfl
      | false => exact absurd (Or.inl q) e1
    have hy : mhA c b y = true := by cases q : mhA c b y with
      | true => rfl
      | false => exact absurd (Or.inr q) e1
    by_cases e2 : x = y
    · rw [if_pos e2, ← e2]; exact WLK.nil hx
    · rw [if_neg e2] at h ⊢
      by_cases e3 : mfo c b x y = true
      · rw [if_pos e3]
        have := WLK.cons hx e3 (WLK.nil hy)
        rwa [Int.add_zero] at this
      · rw [if_neg e3] at h; omega
theorem FW_0 {c : gC} {b : Nat} (hV : NW c b) : FWk c b 0 (itI (mi2 c b) c 24) := by
  have h : ∀ x y, I24 x → I24 y → tE (itI (mi2 c b) c 24) x y = mini c b x y := fun x y hx hy => by rw [mi2_t (by decide) (by decide) x y hx hy, if_pos hx.2]
  refine ⟨fun x y hx hy => by rw [h x y hx hy]; exact (mini_rg hV hy).1, fun x y f _ _ a d => by omega, fun x y hx hy => by rw [h x y hx hy]; exact Int.le_refl _, fun x y hx hy q => ?_⟩
  rw [h x y hx hy] at q ⊢
  exact mini_w q
theorem FW_s {c : gC} {b : Nat} {m : gC} {k : Int} (hk : I24 k) (h : FWk c b k m) : FWk c b (k + 1) (mu3 k m) := by
  obtain ⟨h1, h2, h3, h4⟩ := h
  have e : ∀ x y, I24 x → I24 y → tE (mu3 k m) x y = tM m k x y := fun x y hx hy => mu3_t h1 hk hx hy
  have hkk := h1 k k hk hk
  refine ⟨fun x y hx hy => ?_, fun x y f hx hy f0 f1 => ?_, fun x y hx hy => ?_, fun x y hx hy q => ?_⟩
  · rw [e x y hx hy]
    have := h1 x y hx hy
    have := h1 x k hx hk
    have := h1 k y hk hy
    unfold tM; omega
  · have hf : I24 f := ⟨f0, by have := hk.2; omega⟩
    rw [e x y hx hy, e x f hx hf, e f y hf hy]
    unfold tM
    have a1 := h1 x k hx hk
    have a2 := h1 k y hk hy
    have a3 := h1 k f hk hf
    have a4 := h1 f k hf hk
    by_cases e2 : f = k
    · subst e2; omega
    · have b1 := h2 x y f hx hy f0 (by omega)
      have b2 := h2 x k f hx hk f0 (by omega)
      have b3 := h2 k y f hk hy f0 (by omega)
      omega
  · rw [e x y hx hy]
    have := h3 x y hx hy
    unfold tM; omega
  · rw [e x y hx hy] at q ⊢
    unfold tM at q ⊢
    by_cases e2 : tE m x y ≤ tE m x k + tE m k y
    · rw [Int.min_eq_left e2] at q ⊢; exact h4 x y hx hy q
    · rw [Int.min_eq_right (by omega)] at q ⊢
      have a1 := h1 x k hx hk
      have a2 := h1 k y hk hy
      exact WLK_app (h4 x k hx hk (by omega)) (h4 k y hk hy (by omega))
/-- THE TABLE: its entries below the bound are walks' costs, and no walk costs less -/
theorem mll_FW {c : gC} {b : Nat} (hV : NW c b) : FWk c b 24 (mll c b) := itI_inv3 (FWk c b) (FW_0 hV) (fun j s j0 j1 hs => FW_s ⟨j0, j1⟩ hs) (by decide) (Int.le_refl _)
theorem FW_le {c m : gC} {b : Nat} (hV : NW c b) (h : FWk c b 24 m) {a z v : Int} (hw : WLK c b a z v) : tE m a z ≤ v := by
  induction hw using WLK_ind with
  | @nil a ha =>
    have := h.2.2.1 a a (mhA_rg hV ha) (mhA_rg hV ha)
    have e : mini c b a a = 0 := by unfold mini; rw [if_neg (by rw [ha]; simp), if_pos rfl]
    omega
  | @cons a e z v ha h2 h3 ih =>
    have he := (mfo_h h2).1
    have hz := (WLK_h h3).2
    have q := h.2.1 a z e (mhA_rg hV ha) (mhA_rg hV hz) (mhA_rg hV he).1 (mhA_rg hV he).2
    have q2 := h.2.2.1 a e (mhA_rg hV ha) (mhA_rg hV he)
    have q3 := mct_rg (a := a) (e := e) hV
    have q4 := mln_rg hV (mhA_rg hV he)
    have : mini c b a e ≤ mct c b a e + mln c b e := by
      unfold mini
      rw [if_neg (by rw [ha, he]; simp)]
      split
      · omega
      · first | (rw [if_pos h2]; exact Int.le_refl _) | exact Int.le_refl _
    omega
