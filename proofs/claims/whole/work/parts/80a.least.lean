/-! least costs: paths, and how large the class's numbers are -/
section
variable {c m M : gC} {b : Nat}
theorem cbw_e (h : TT2 c m M b) (hb : M b = c b) {n t : Int} (hn : 0 ≤ n ∧ n < 10) (ht : 0 ≤ t ∧ t < 10) : cbw m n t = cv (mcw M b n t) ∧ (mcw M b n t < 1000000000 → mcw M b n t ≤ 27450) := by
  unfold cbw mcw
  by_cases e : n = t
  · rw [if_pos e, if_pos e]
    exact ⟨rfl, fun _ => by decide⟩
  · rw [if_neg e, if_neg e]
    exact cfr_e h hb (Or.inl ⟨rfl, rfl, hn.1, hn.2⟩) (Or.inr ⟨by omega, by omega⟩)
theorem tbl_c (h : TT2 c m M b) (hb : M b = c b) {s j : Int} (hs : I24 s) (hj : 0 ≤ j ∧ j < 34) : m 100028 (s * 34 + j) ≤ 26352 ∨ m 100028 (s * 34 + j) = 100000000 := by
  obtain ⟨r1, r2⟩ := h.tb.2 s hs
  cases q : mhA c b s with
  | false => exact Or.inr (r2 q j hj.1 hj.2)
  | true =>
    have arc : ∀ z, I24 z → m 100028 (s * 34 + z) ≤ 26352 ∨ m 100028 (s * 34 + z) = 100000000 := fun z hz => by
      obtain ⟨⟨a1, a2⟩, a3, a4⟩ := (r1 q).1 z hz
      dsimp only at a1 a2 a3 a4
      by_cases e : m 100028 (s * 34 + z) < 100000000
      · left
        have hzz := (WLK_h (a3 e)).2
        rw [row_e h hb q hzz] at e ⊢
        unfold cv at e ⊢
        by_cases e2 : tE M s z < 1000000000
        · rw [if_pos e2]
          exact WLK_small h.nw h.fw h.l1 hb q hzz e2
        · rw [if_neg e2] at e; omega
      · right; omega
    by_cases e : j < 24
    · exact arc j ⟨hj.1, e⟩
    · have q2 := ((r1 q).2 (j - 24) (by omega) (by omega)).2
      dsimp only at q2
      rw [show 24 + (j - 24) = j by omega] at q2
      rcases q2 with w | ⟨a, a0, a1, a2⟩
      · exact Or.inr w
      · rw [a2]
        exact arc a (mhA_rg h.nw a0)
theorem tbl_s (h : TT2 c m M b) {p t : Int} (hp : I34 p) (ht : I24 t) : m 100027 (p * 24 + t) ≤ 1098 ∨ m 100027 (p * 24 + t) = 100000000 := by
  have q := h.tb.1.2 p t hp ht
  unfold sE at q
  rw [q, NN_hA h.nn]
  cases e : mhA c b t with
  | false => right; rw [if_neg (by decide)]
  | true =>
    rw [if_pos rfl]
    have l1 := mln_rg h.nw ht
    by_cases e2 : p < 24
    · obtain ⟨w1, w2, w3⟩ := sV_w h.nn h.nw e ⟨hp.1, e2⟩
      by_cases e3 : sV c p t 100000000 < 100000000
      · have f := w2 e3
        rw [w1 ⟨f.2, f.1⟩]
        have := mct_rg (a := p) (e := t) h.nw
        left; omega
      · right; omega
    · unfold sV
      rw [if_neg e2, (NN_ln h.nn h.nw e).1]
      split
      · left; omega
      · right; rfl
/-- the numbers of fitting tables are small, or mean 'no way' -/
theorem tbl_sm (h : TT2 c m M b) (hb : M b = c b) : ∀ i : Int, 0 ≤ i → i < 816 → (m 100027 i ≤ 1098 ∨ m 100027 i = 100000000) ∧ (m 100028 i ≤ 26352 ∨ m 100028 i = 100000000) := fun i h0 h1 => by
  have a := tbl_s h (p := i / 24) (t := i % 24) ⟨by omega, by omega⟩ ⟨by omega, by omega⟩
  have d := tbl_c h hb (s := i / 34) (j := i % 34) ⟨by omega, by omega⟩ ⟨by omega, by omega⟩
  rw [show i / 24 * 24 + i % 24 = i by omega] at a
  rw [show i / 34 * 34 + i % 34 = i by omega] at d
  exact ⟨a, d⟩
end
