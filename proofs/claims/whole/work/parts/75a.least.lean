/-! least costs: the class's steps -/
def I34 (p : Int) : Prop := 0 ≤ p ∧ p < 34
def sE (m : gC) (p t : Int) : Int := m 100027 (p * 24 + t)
theorem sE_g {m : gC} {p q t u z : Int} (hp : I34 p) (hq : I34 q) (ht : I24 t) (hu : I24 u) : sE (gu m 100027 (q * 24 + u) z) p t = if p = q ∧ t = u then z else sE m p t := by
  unfold I34 I24 at *
  unfold sE
  rw [gu_v]
  by_cases h : p = q ∧ t = u
  · rw [if_pos h, h.1, h.2, if_pos rfl]
  · rw [if_neg h, if_neg (by omega)]
/-- what stands at a place of the steps: d when there is no step -/
def sV (c : gC) (p t d : Int) : Int := if p < 24 then (if hA c 100014 p = true ∧ en c 100014 p = bg c 100014 t then c 100024 (tkd c 100014 p t) + ln c 100014 t else d) else (if p - 24 = bg c 100014 t then ln c 100014 t else d)
theorem sV_o {c m : gC} (h : NF c m 100014) (p t d : Int) : sV m p t d = sV c p t d := by
  unfold sV
  rw [NF_hA h, NF_en h, NF_bg h, NF_tkd h, NF_ln h, h 100024 (by decide) (by decide)]
theorem fsf_s {c m : gC} {t i : Int} (ht : I24 t) (h0 : 0 ≤ i) (h1 : i ≤ 24) : (∀ k : Nat, ¬ k = 100027 → itI (fsf c t) m i k = m k) ∧ ∀ p t', I34 p → I24 t' → sE (itI (fsf c t) m i) p t' = if t' = t ∧ p < i then sV c p t (sE m p t) else sE m p t' := by
  refine itI_inv3 (fun j (s : gC) => (∀ k : Nat, ¬ k = 100027 → s k = m k) ∧ ∀ p t', I34 p → I24 t' → sE s p t' = if t' = t ∧ p < j then sV c p t (sE m p t) else sE m p t') (N := i) ⟨fun _ _ => rfl, fun p t' hp ht' => by rw [if_neg (by unfold I34 at hp; omega)]⟩ (fun j s j0 j1 hs => ?_) h0 (Int.le_refl _)
  obtain ⟨s1, s2⟩ := hs
  have hj : I34 j := ⟨j0, by omega⟩
  have hjj : sE s j t = sE m j t := (s2 j t hj ht).trans (if_neg (by omega))
  have hv : sV c j t (sE m j t) = if hA c 100014 j = true ∧ en c 100014 j = bg c 100014 t then c 100024 (tkd c 100014 j t) + ln c 100014 t else sE m j t := by unfold sV; rw [if_pos (by omega)]
  unfold fsf
  by_cases q : hA c 100014 j = true ∧ en c 100014 j = bg c 100014 t
  · rw [if_pos q] at hv ⊢
    refine ⟨fun k hk => by rw [← s1 k hk]; funext x; exact gu_k hk, fun p t' hp ht' => ?_⟩
    rw [sE_g hp hj ht' ht, s2 p t' hp ht']
    by_cases e : p = j ∧ t' = t
    · rw [if_pos e, if_pos ⟨e.2, by omega⟩, e.1, hv]
    · rw [if_neg e]
      by_cases e2 : t' = t ∧ p < j
      · rw [if_pos e2, if_pos ⟨e2.1, by omega⟩]
      · rw [if_neg e2, if_neg (by omega)]
  · rw [if_neg q] at hv ⊢
    refine ⟨s1, fun p t' hp ht' => ?_⟩
    rw [s2 p t' hp ht']
    by_cases e : p = j ∧ t' = t
    · rw [if_neg (by omega), if_pos ⟨e.2, by omega⟩, e.1, e.2, hv]
    · by_cases e2 : t' = t ∧ p < j
      · rw [if_pos e2, if_pos ⟨e2.1, by omega⟩]
      · rw [if_neg e2, if_neg (by omega)]
theorem fsd_s {c : gC} {t : Int} (hN : NR c 100014) (ht : I24 t) : (∀ k : Nat, ¬ k = 100027 → fsd c t k = c k) ∧ ∀ p t', I34 p → I24 t' → sE (fsd c t) p t' = if t' = t then sV c p t (sE c p t) else sE c p t' := by
  have hb := bg_rg hN t
  have f0 : (∀ k : Nat, ¬ k = 100027 → fs0 c t k = c k) ∧ ∀ p t', I34 p → I24 t' → sE (fs0 c t) p t' = if t' = t ∧ 24 ≤ p then sV c p t (sE c p t) else sE c p t' := by
    unfold fs0
    by_cases q : 0 ≤ bg c 100014 t
    · rw [if_pos q]
      have hq : I34 (24 + bg c 100014 t) := ⟨by omega, by omega⟩
      refine ⟨fun k hk => funext fun x => gu_k hk, fun p t' hp ht' => ?_⟩
      rw [sE_g hp hq ht' ht]
      unfold sV
      by_cases e : p = 24 + bg c 100014 t ∧ t' = t
      · rw [if_pos e, if_pos ⟨e.2, by omega⟩, if_neg (by omega), if_pos (by omega)]
      · rw [if_neg e]
        by_cases e2 : t' = t ∧ 24 ≤ p
        · rw [if_pos e2, if_neg (by omega), if_neg (by omega), e2.1]
        · rw [if_neg e2]
    · rw [if_neg q]
      refine ⟨fun _ _ => rfl, fun p t' hp ht' => ?_⟩
      by_cases e2 : t' = t ∧ 24 ≤ p
      · rw [if_pos e2]
        unfold sV
        rw [if_neg (by omega), if_neg (by omega), e2.1]
      · rw [if_neg e2]
  obtain ⟨g1, g2⟩ := fsf_s (c := c) (m := fs0 c t) ht (i := 24) (by decide) (by decide)
  unfold fsd
  refine ⟨fun k hk => (g1 k hk).trans (f0.1 k hk), fun p t' hp ht' => ?_⟩
  rw [g2 p t' hp ht', f0.2 p t hp ht, f0.2 p t' hp ht']
  by_cases e : t' = t
  · by_cases e2 : p < 24
    · rw [if_pos ⟨e, e2⟩, if_pos e, if_neg (by omega)]
    · rw [if_neg (by omega), if_pos e, if_pos ⟨e, by omega⟩]
  · rw [if_neg (fun h => e h.1), if_neg e, if_neg (fun h => e h.1)]
/-- the steps' table, made -/
theorem rf1_s {c : gC} (hN : NR c 100014) {i : Int} (h0 : 0 ≤ i) (h1 : i ≤ 24) : (∀ k : Nat, ¬ k = 100027 → itI rf1 (rfi c) i k = rfi c k) ∧ ∀ p t, I34 p → I24 t → sE (itI rf1 (rfi c) i) p t = if t < i ∧ hA c 100014 t = true then sV c p t 100000000 else 100000000 := by
  have hf : ∀ k : Nat, ¬ k = 100027 → ¬ k = 100028 → rfi c k = c k := fun k a d => funext fun j => by
    unfold rfi
    rw [fl_k d, fl_k a]
  refine itI_inv3 (fun j (s : gC) => (∀ k : Nat, ¬ k = 100027 → s k = rfi c k) ∧ ∀ p t, I34 p → I24 t → sE s p t = if t < j ∧ hA c 100014 t = true then sV c p t 100000000 else 100000000) (N := i) ⟨fun _ _ => rfl, fun p t hp ht => ?_⟩ (fun j s j0 j1 hs => ?_) h0 (Int.le_refl _)
  · rw [if_neg (by unfold I24 at ht; omega)]
    unfold sE rfi
    unfold I34 at hp
    unfold I24 at ht
    rw [fl_k (by decide), fl_a (by omega)]
  · obtain ⟨s1, s2⟩ := hs
    have hj : I24 j := ⟨j0, by omega⟩
    have hNF : NF c s 100014 := fun x a d y => by rw [s1 x (by omega), hf x (by omega) (by omega)]
    unfold rf1
    rw [NF_hA hNF]
    cases q : hA c 100014 j with
    | true =>
      rw [if_pos rfl]
      obtain ⟨g1, g2⟩ := fsd_s (NF_NR hNF hN) hj
      refine ⟨fun k hk => (g1 k hk).trans (s1 k hk), fun p t hp ht => ?_⟩
      rw [g2 p t hp ht]
      by_cases e : t = j
      · rw [if_pos e, sV_o hNF, s2 p j hp hj, if_neg (show ¬ (j < j ∧ hA c 100014 j = true) by omega), if_pos ⟨by omega, by rw [e]; exact q⟩, e]
      · rw [if_neg e, s2 p t hp ht]
        by_cases e2 : t < j ∧ hA c 100014 t = true
        · rw [if_pos e2, if_pos ⟨by omega, e2.2⟩]
        · rw [if_neg e2, if_neg (fun h => e2 ⟨by omega, h.2⟩)]
    | false =>
      rw [if_neg (by decide)]
      refine ⟨s1, fun p t hp ht => ?_⟩
      rw [s2 p t hp ht]
      by_cases e : t = j
      · rw [if_neg (by omega), if_neg (fun h => by rw [e, q] at h; exact absurd h.2 (by decide))]
      · by_cases e2 : t < j ∧ hA c 100014 t = true
        · rw [if_pos e2, if_pos ⟨by omega, e2.2⟩]
        · rw [if_neg e2, if_neg (fun h => e2 ⟨by omega, h.2⟩)]
