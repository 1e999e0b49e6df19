/-! driving over an arc, the rest of it -/
def gv1 (c : gC) (w : Nat) (a t e l p : Int) : gC := gu (gu (gu (gu (gu (gu (gu c w 1 t) w 2 e) w 3 a) w 6 l) (w + 2) a p) (w + 3) a 0) (w + 4) a t
theorem VV_1 {c m : gC} {w b : Nat} (hV : NW m b) (hW : VV c w m b) {a x : Int} (ha : I24 a) : VV (gv1 c w a (m b 5 + x) (men m b a) (m b 10 + mln m b a) (m b (136 + 3 * a + 2) + 1)) w (mg1 m b a x) b := by
  have hA : ∀ y, mhA (mg1 m b a x) b y = mhA m b y := fun y => mhA_n (mg1_NA ha) hV
  obtain ⟨⟨⟨a1, a2⟩, ⟨a3, a4⟩, ⟨a5, a6⟩, a7⟩, a8, a9⟩ := hW
  unfold I24 at ha
  refine ⟨⟨⟨?_, ?_⟩, ⟨?_, ?_⟩, ⟨?_, ?_⟩, ?_⟩, fun i i0 i1 => ?_, fun y hy => ?_⟩
  · unfold gv1 mg1; simp (disch := omega) only [gu_k, gu_j, gu_s]
  · unfold gv1 mg1; simp (disch := omega) only [gu_k, gu_j, gu_s]
  · unfold gv1 mg1; simp (disch := omega) only [gu_k, gu_j, gu_s]
  · unfold gv1 mg1; simp (disch := omega) only [gu_k, gu_j, gu_s]; exact a4
  · unfold gv1 mg1; simp (disch := omega) only [gu_k, gu_j, gu_s]; exact a5
  · unfold gv1 mg1; simp (disch := omega) only [gu_k, gu_j, gu_s]
  · unfold gv1 mg1; simp (disch := omega) only [gu_k, gu_j, gu_s]; exact a7
  · unfold gv1 mg1; simp (disch := omega) only [gu_k, gu_j, gu_s]; exact a8 i i0 i1
  · rw [hA] at hy
    have hr := mhA_rg hV hy
    by_cases e : y = a
    · subst e
      unfold gv1 mg1
      simp (disch := omega) only [gu_k, gu_j, gu_s]
      simp
      rw [gu_s]
    · unfold gv1 mg1
      simp (disch := omega) only [gu_k, gu_j, gu_s]
      exact a9 y hy
theorem VV_2 {c m : gC} {w b : Nat} (hV : NW m b) (hW : VV c w m b) {a x f t : Int} (ha : I24 a) : VV (gu (gu (gu c w 4 f) w 5 x) (w + 4) a t) w (gu (gu (gu m b 8 f) b 9 x) b (136 + 3 * a + 1) t) b := by
  have hA : ∀ y, mhA (gu (gu (gu m b 8 f) b 9 x) b (136 + 3 * a + 1) t) b y = mhA m b y := fun y => mhA_n (NA_gu (NA_gu (NA_gu NA_rf (by omega)) (by omega)) (by unfold I24 at ha; omega)) hV
  obtain ⟨⟨⟨a1, a2⟩, ⟨a3, a4⟩, ⟨a5, a6⟩, a7⟩, a8, a9⟩ := hW
  unfold I24 at ha
  refine ⟨⟨⟨?_, ?_⟩, ⟨?_, ?_⟩, ⟨?_, ?_⟩, ?_⟩, fun i i0 i1 => ?_, fun y hy => ?_⟩
  · simp (disch := omega) only [gu_k, gu_j, gu_s]; exact a1
  · simp (disch := omega) only [gu_k, gu_j, gu_s]; exact a2
  · simp (disch := omega) only [gu_k, gu_j, gu_s]; exact a3
  · simp (disch := omega) only [gu_k, gu_j, gu_s]
  · simp (disch := omega) only [gu_k, gu_j, gu_s]
  · simp (disch := omega) only [gu_k, gu_j, gu_s]; exact a6
  · simp (disch := omega) only [gu_k, gu_j, gu_s]; exact a7
  · simp (disch := omega) only [gu_k, gu_j, gu_s]; exact a8 i i0 i1
  · rw [hA] at hy
    have hr := mhA_rg hV hy
    obtain ⟨y1, y2, y3⟩ := a9 y hy
    by_cases e : y = a
    · subst e
      simp (disch := omega) only [gu_k, gu_j, gu_s]
      exact ⟨y1, y2, trivial⟩
    · simp (disch := omega) only [gu_k, gu_j, gu_s]
      exact ⟨y1, y2, y3⟩
