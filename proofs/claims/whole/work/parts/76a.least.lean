/-! least costs: the class's rows -/
/-- a row holds the least costs from s: to arcs, then to nodes -/
def RowOK (c : gC) (b : Nat) (s : Int) (f : Int → Int) : Prop := (∀ t, I24 t → (0 ≤ f t ∧ f t ≤ 100000000) ∧ (f t < 100000000 → WLK c b s t (f t)) ∧ ∀ v, WLK c b s t v → f t ≤ v) ∧ ∀ n, 0 ≤ n → n < 10 → (∀ a, mhA c b a = true → men c b a = n → f (24 + n) ≤ f a) ∧ (f (24 + n) = 100000000 ∨ ∃ a, mhA c b a = true ∧ men c b a = n ∧ f (24 + n) = f a)
section
variable {c : gC} {b : Nat}
theorem sV_w (h : NN c 100014 c b) (hV : NW c b) {u t : Int} (ht : mhA c b t = true) (hu : I24 u) : (mfo c b u t = true ∧ mhA c b u = true → sV c u t 100000000 = mct c b u t + mln c b t) ∧ (sV c u t 100000000 < 100000000 → mhA c b u = true ∧ mfo c b u t = true) ∧ (0 ≤ sV c u t 100000000 ∧ sV c u t 100000000 ≤ 100000000) := by
  have hl := NN_ln h hV ht
  have q2 := mln_rg hV (mhA_rg hV ht)
  have e : mhA c b u = true → ((hA c 100014 u = true ∧ en c 100014 u = bg c 100014 t) ↔ mfo c b u t = true) ∧ c 100024 (tkd c 100014 u t) + ln c 100014 t = mct c b u t + mln c b t := fun a => by
    refine ⟨?_, ?_⟩
    · rw [NN_hA h, (NN_bg h hV a).2, (NN_bg h hV ht).1]
      unfold mfo
      rw [ht, Bool.true_and, decide_eq_true_eq]
      exact ⟨fun x => x.2, fun x => ⟨a, x⟩⟩
    · rw [hl.1]
      have := NN_ct h hV a ht
      rw [show c 100024 (tkd c 100014 u t) = mct c b u t from this]
  unfold sV
  rw [if_pos hu.2]
  refine ⟨fun x => ?_, fun x => ?_, ?_⟩
  · obtain ⟨e1, e2⟩ := e x.2
    rw [if_pos (e1.mpr x.1), e2]
  · by_cases q : hA c 100014 u = true ∧ en c 100014 u = bg c 100014 t
    · have a : mhA c b u = true := by rw [← NN_hA h]; exact q.1
      exact ⟨a, (e a).1.mp q⟩
    · rw [if_neg q] at x; omega
  · by_cases q : hA c 100014 u = true ∧ en c 100014 u = bg c 100014 t
    · have a : mhA c b u = true := by rw [← NN_hA h]; exact q.1
      rw [if_pos q, (e a).2]
      have := mct_rg (a := u) (e := t) hV
      omega
    · rw [if_neg q]; omega
theorem fnf_s {m : gC} {r i : Int} (h : NN c 100014 c b) (hV : NW c b) (hNF : NF c m 100014) (h0 : 0 ≤ i) (h1 : i ≤ 24) : (∀ k : Nat, ¬ k = 100028 → itI (fnf m r) m i k = m k) ∧ (∀ j, ¬ (r + 24 ≤ j ∧ j < r + 34) → itI (fnf m r) m i 100028 j = m 100028 j) ∧ ∀ n, 0 ≤ n → n < 10 → (∀ a, 0 ≤ a → a < i → mhA c b a = true → men c b a = n → itI (fnf m r) m i 100028 (r + (24 + n)) ≤ m 100028 (r + a)) ∧ (itI (fnf m r) m i 100028 (r + (24 + n)) = m 100028 (r + (24 + n)) ∨ ∃ a, mhA c b a = true ∧ men c b a = n ∧ itI (fnf m r) m i 100028 (r + (24 + n)) = m 100028 (r + a)) := by
  refine itI_inv3 (fun i (s : gC) => (∀ k : Nat, ¬ k = 100028 → s k = m k) ∧ (∀ j, ¬ (r + 24 ≤ j ∧ j < r + 34) → s 100028 j = m 100028 j) ∧ ∀ n, 0 ≤ n → n < 10 → (∀ a, 0 ≤ a → a < i → mhA c b a = true → men c b a = n → s 100028 (r + (24 + n)) ≤ m 100028 (r + a)) ∧ (s 100028 (r + (24 + n)) = m 100028 (r + (24 + n)) ∨ ∃ a, mhA c b a = true ∧ men c b a = n ∧ s 100028 (r + (24 + n)) = m 100028 (r + a))) (N := i) ⟨fun _ _ => rfl, fun _ _ => rfl, fun n _ _ => ⟨fun a d e => by omega, Or.inl rfl⟩⟩ (fun j s j0 j1 hs => ?_) h0 (Int.le_refl _)
  obtain ⟨s1, s2, s3⟩ := hs
  cases q : mhA c b j with
  | false =>
    rw [fnf_a (by rw [NF_hA hNF, NN_hA h, q]; decide)]
    refine ⟨s1, s2, fun n n0 n1 => ⟨fun a a0 a1 a2 a3 => (s3 n n0 n1).1 a a0 (by
      by_cases e : a = j
      · rw [e, q] at a2; cases a2
      · omega) a2 a3, (s3 n n0 n1).2⟩⟩
  | true =>
    have hj := mhA_rg hV q
    have hm := men_rg hV hj
    have he : en m 100014 j = men c b j := (NF_en hNF j).trans (NN_bg h hV q).2
    rw [fnf_t (by rw [NF_hA hNF, NN_hA h, q]) (by rw [he]; exact hm.1), he]
    have e1 : s 100028 (r + j) = m 100028 (r + j) := s2 _ (by omega)
    rw [e1]
    refine ⟨fun k hk => by rw [← s1 k hk]; funext x; exact gu_k hk, fun x hx => by rw [gu_j (by omega)]; exact s2 x hx, fun n n0 n1 => ?_⟩
    obtain ⟨t1, t2⟩ := s3 n n0 n1
    rw [gu_v]
    by_cases e : men c b j = n
    · rw [if_pos (by omega), e]
      refine ⟨fun a a0 a1 a2 a3 => ?_, ?_⟩
      · by_cases e5 : a = j
        · rw [e5]; omega
        · have := t1 a a0 (by omega) a2 a3
          omega
      · by_cases e6 : s 100028 (r + (24 + n)) ≤ m 100028 (r + j)
        · rw [Int.min_eq_left e6]; exact t2
        · rw [Int.min_eq_right (by omega)]
          exact Or.inr ⟨j, q, e, rfl⟩
    · rw [if_neg (by omega)]
      exact ⟨fun a a0 a1 a2 a3 => t1 a a0 (by
        by_cases e5 : a = j
        · rw [e5] at a3; exact absurd a3 e
        · omega) a2 a3, t2⟩
/-- a memory with the steps of a network -/
def STP (c m : gC) : Prop := NF c m 100014 ∧ ∀ p t, I34 p → I24 t → sE m p t = if hA c 100014 t = true then sV c p t 100000000 else 100000000
theorem row_ok {m : gC} {s : Int} (h : NN c 100014 c b) (hV : NW c b) (hS : STP c m) (hs : mhA c b s = true) (h0 : ∀ j, 0 ≤ j → j < 34 → m 100028 (s * 34 + j) = 100000000) : (∀ k : Nat, ¬ k = 100028 → fnd (djk m s) s k = m k) ∧ (∀ j, ¬ (s * 34 ≤ j ∧ j < s * 34 + 34) → fnd (djk m s) s 100028 j = m 100028 j) ∧ RowOK c b s (fun j => fnd (djk m s) s 100028 (s * 34 + j)) := by
  have hs0 := mhA_rg hV hs
  have hW : ∀ u t, I24 u → I24 t → wS m u t = if mhA c b t = true then sV c u t 100000000 else 100000000 := fun u t hu ht => by
    have := hS.2 u t ⟨hu.1, by have := hu.2; omega⟩ ht
    rw [NN_hA h] at this
    exact this
  have hw : wOK m := fun u t hu ht => by
    rw [hW u t hu ht]
    split
    · rename_i q; exact (sV_w h hV q hu).2.2
    · omega
  obtain ⟨⟨d1, d2⟩, d3, d4, d5, d6⟩ := djk_row (P := fun t v => WLK c b s t v) hw hs0 (fun t ht => h0 t ht.1 (by have := ht.2; omega)) (WLK.nil hs) (fun u t v hu ht hp q => by
    rw [hW u t hu ht] at q ⊢
    by_cases e : mhA c b t = true
    · rw [if_pos e] at q ⊢
      obtain ⟨w1, w2, w3⟩ := sV_w h hV e hu
      have f := w2 q
      rw [w1 ⟨f.2, f.1⟩]
      have := WLK_app hp (WLK.cons f.1 f.2 (WLK.nil e))
      rwa [Int.add_zero] at this
    · rw [if_neg e] at q; omega)
  have hNF : NF c (djk m s) 100014 := fun x a d y => by rw [d1 x (by omega)]; exact hS.1 x a d y
  obtain ⟨f1, f2, f3⟩ := fnf_s (r := s * 34) h hV hNF (i := 24) (by decide) (by decide)
  change ∀ k : Nat, ¬ k = 100028 → fnd (djk m s) s k = djk m s k at f1
  change ∀ j, ¬ (s * 34 + 24 ≤ j ∧ j < s * 34 + 34) → fnd (djk m s) s 100028 j = djk m s 100028 j at f2
  have fr : ∀ t, I24 t → fnd (djk m s) s 100028 (s * 34 + t) = dR (djk m s) (s * 34) t := fun t ht => f2 _ (by unfold I24 at ht; omega)
  have lo : ∀ a t v, WLK c b a t v → dR (djk m s) (s * 34) t ≤ dR (djk m s) (s * 34) a + v := fun a t v hw2 => by
    induction hw2 using WLK_ind with
    | nil _ => omega
    | @cons a e z v h1 h2 h3 ih =>
      have he := (mfo_h h2).1
      have q := d5 a e (mhA_rg hV h1) (mhA_rg hV he)
      rw [hW a e (mhA_rg hV h1) (mhA_rg hV he), if_pos he, (sV_w h hV he (mhA_rg hV h1)).1 ⟨h2, h1⟩] at q
      omega
  refine ⟨fun k hk => (f1 k hk).trans (d1 k hk), fun j hj => (f2 j (by omega)).trans (d2 j (by omega)), fun t ht => ?_, fun n n0 n1 => ?_⟩
  · dsimp only
    rw [fr t ht]
    refine ⟨d3 t ht, d4 t ht, fun v hv => ?_⟩
    have := lo s t v hv
    omega
  · obtain ⟨g1, g2⟩ := f3 n n0 n1
    change ∀ a, 0 ≤ a → a < 24 → mhA c b a = true → men c b a = n → fnd (djk m s) s 100028 (s * 34 + (24 + n)) ≤ djk m s 100028 (s * 34 + a) at g1
    change fnd (djk m s) s 100028 (s * 34 + (24 + n)) = djk m s 100028 (s * 34 + (24 + n)) ∨ ∃ a, mhA c b a = true ∧ men c b a = n ∧ fnd (djk m s) s 100028 (s * 34 + (24 + n)) = djk m s 100028 (s * 34 + a) at g2
    dsimp only
    refine ⟨fun a a0 a1 => ?_, ?_⟩
    · have ha := mhA_rg hV a0
      rw [fr a ha]
      exact g1 a ha.1 ha.2 a0 a1
    · rcases g2 with g | ⟨a, a0, a1, a2⟩
      · left
        rw [g, d2 _ (by omega)]
        exact h0 (24 + n) (by omega) (by omega)
      · right
        refine ⟨a, a0, a1, ?_⟩
        rw [fr a (mhA_rg hV a0)]
        exact a2
end
