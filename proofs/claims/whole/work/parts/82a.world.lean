/-! what a drive over an arc costs is the same on both sides -/
/-- the last arc, if there is one, is an arc -/
def LA (m : gC) (b : Nat) : Prop := m b 7 = -1 ∨ mhA m b (m b 7) = true
theorem scn_e {c m : gC} {k w b : Nat} (h : NN c k m b) (hV : NW m b) (hW : VV c w m b) (hl : LA m b) {a : Int} (ha : mhA m b a = true) : scn c k w a = mse m b a := by
  have l1 := (NN_ln h hV ha).1
  have s1 := VV_sn (w := w) (k := k) hW hV ha 0
  rw [Int.add_zero] at s1
  unfold scn mse
  rw [l1, s1, hW.1.2.1.1]
  rcases hl with e | e
  · rw [if_pos e, if_pos e]
  · have := mhA_rg hV e
    rw [if_neg (by omega), if_neg (by omega), NN_ct h hV e ha]
