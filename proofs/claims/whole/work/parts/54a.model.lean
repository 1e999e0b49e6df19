/-! the reference: a text is loaded -/
def ld0 (c : gC) : gC := gu (gu (gu (gu (gu (gu (gu c 500001 0 0) 500001 16 (c 500001 15)) 500001 15 0) 500001 17 0) 500001 21 0) 500001 22 (-1)) 500001 23 0
def ld1 (c : gC) : gC := mad (mclr (ld0 c) 200001)
/-- statements as long as it goes well -/
def mlop : Nat → Nat → gC → gC
  | 0, _, m => m
  | n + 1, b, m => if (mgd m && decide (¬ m 500001 19 = 0)) = true then mlop n b (mstt b m) else m
theorem mlop_t {n b : Nat} {m : gC} (h : mgd m = true) (h2 : ¬ m 500001 19 = 0) : mlop (n + 1) b m = mlop n b (mstt b m) := if_pos (by rw [h, decide_eq_true h2]; rfl)
theorem mlop_f {n b : Nat} {m : gC} (h : (mgd m && decide (¬ m 500001 19 = 0)) = false) : mlop n b m = m := by
  cases n with
  | zero => rfl
  | succ n => exact if_neg (by rw [h]; decide)
theorem MX_lo {n b : Nat} {c m : gC} (hb : b < 200002) (h : MX b c m) : MX b c (mlop n b m) := by
  induction n generalizing m with
  | zero => exact h
  | succ n ih =>
    unfold mlop
    split
    · exact ih (MX_st hb h)
    · exact h
set_option maxHeartbeats 1000000 in
theorem m_ldst {d g : Nat} {T : gT} {c J : gC} (hd : 10 ≤ d) {b : Nat} (hM : MT T b) (hb : b < 200002) (h : MK b T c) {u : Value} {Q : am_O → am_M → Prop} (h1 : mgd c = true → ¬ c 500001 19 = 0 → gw d g 316 57 [.ref 500001, u] [] (gm T (mstt b c) J) Q) (h2 : (mgd c && decide (¬ c 500001 19 = 0)) = false → gw d g 316 78 [.ref 500001, u] [] (gm T c J) Q) : gw d g 316 57 [.ref 500001, u] [] (gm T c J) (Q) := by
  refine gw_al0 at316_57 (gw_callP1 at316_58 (m_good hM h.1.1.1.1) (by omega) (Nat.le_of_ble_eq_true rfl) ?_)
  refine gw_beq at316_61 (fun q61 => ?_) (fun q61 => ?_)
  · first
    | exact h2 (by rw [q61]; rfl)
    | exact h2 (by rw [q61, decide_eq_false (show ¬ ¬ c 500001 19 = 0 by omega)]; rfl)
  · refine gw_al0 at316_64 (gw_gf (j := 19) at316_65 (by first | exact MT_0 hM | exact MT_now hM | exact MT_bt hM | exact MT_bl hM | exact MT_r0 hM | exact MT_t0 hM | exact MT_l0 hM | exact MT_r1 hM | exact MT_t1 hM | exact MT_l1 hM | exact MT_r2 hM | exact MT_t2 hM | exact MT_l2 hM | exact MT_r3 hM | exact MT_t3 hM | exact MT_l3 hM | exact MT_r4 hM | exact MT_t4 hM | exact MT_l4 hM | exact MT_r5 hM | exact MT_t5 hM | exact MT_l5 hM | exact MT_r6 hM | exact MT_t6 hM | exact MT_l6 hM | exact MT_r7 hM | exact MT_t7 hM | exact MT_l7 hM | exact MT_r8 hM | exact MT_t8 hM | exact MT_l8 hM | exact MT_r9 hM | exact MT_t9 hM | exact MT_l9 hM | exact MT_r10 hM | exact MT_t10 hM | exact MT_l10 hM) rfl ?_)
    refine gw_zeq at316_68 (by first | omega | exact h.1.1.1.1 _ _ | exact bi_rg _) (fun q68 => ?_) (fun q68 => ?_)
    · first
      | exact h2 (by rw [q61]; rfl)
      | exact h2 (by rw [q61, decide_eq_false (show ¬ ¬ c 500001 19 = 0 by omega)]; rfl)
    · refine gw_al0 at316_71 ?_
      refine gw_call1 at316_72 (m_parseStatement hM hb h) (by omega) (Nat.le_of_ble_eq_true rfl) (fun o M1 q72 => ?_)
      obtain ⟨rfl, rfl⟩ := q72
      show gw _ _ _ _ _ [] _ _
      exact gw_goto at316_75 (h1 q61 (by omega))
theorem m_ld57 {d g : Nat} {T : gT} {J : gC} (hd : 10 ≤ d) {b : Nat} (hM : MT T b) (hb : b < 200002) {u : Value} {Q : am_O → am_M → Prop} : ∀ (n : Nat) (m : gC), MK b T m → (mgd m = true → 1200 - m 500001 17 < (n : Int)) → gw d g 316 78 [.ref 500001, u] [] (gm T (mlop n b m) J) Q → gw d g 316 57 [.ref 500001, u] [] (gm T m J) Q
  | 0, m, h, hn, hq => m_ldst hd hM hb h (fun e _ => by have := hn e; have := h.1.1.1.2.1; omega) (fun _ => hq)
  | n + 1, m, h, hn, hq => m_ldst hd hM hb h (fun e e2 => by
      rw [mlop_t e e2] at hq
      have h8 := MK_s hb h (MX_st hb (MX_rf h.1)).1
      exact m_ld57 hd hM hb n (mstt b m) h8 (fun e3 => by have := mstt_PR hb h.1 e3; have := hn e; omega) hq) (fun e => by rw [mlop_f e] at hq; exact hq)
