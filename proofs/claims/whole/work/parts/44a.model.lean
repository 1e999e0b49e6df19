/-! the reference: what the parser keeps; names -/
/-- a word's bytes are letters -/
def LW (m : gC) : Prop := m 500001 19 = 1 → ∀ k, m 500001 18 ≤ k → k < m 500001 17 → 97 ≤ m 200009 k ∧ m 200009 k ≤ 122
def MJ (m : gC) : Prop := MI m ∧ (0 ≤ m 500001 18 ∧ m 500001 18 ≤ m 500001 17) ∧ LW m
theorem zand_lt : ∀ n : Nat, n < 256 → (97 ≤ zand ((n : Int) - 128) 255 ∧ zand ((n : Int) - 128) 255 ≤ 122) → 97 ≤ (n : Int) - 128 ∧ (n : Int) - 128 ≤ 122 := by decide +kernel
theorem bya_lw {m : gC} {k : Int} (h : MI m) (h0 : 0 ≤ k) (e : mlr m 97 122 k = true) : 97 ≤ m 200009 k ∧ m 200009 k ≤ 122 := by
  have hl := mlr_lt (by decide) k e
  have h2 := inr_t.mp e
  unfold bya at h2
  rw [if_pos hl] at h2
  have hb := h.2.2 k h0 (by have := h.2.1; omega)
  have := zand_lt (m 200009 k + 128).toNat (by omega)
  rw [show (((m 200009 k + 128).toNat : Nat) : Int) - 128 = m 200009 k by omega] at this
  exact this h2
/-- the parser's changes: its own fields and the network that it builds -/
def MFr (b : Nat) (c m : gC) : Prop := (∀ k : Nat, ¬ k = 500001 → ¬ k = b → m k = c k) ∧ ∀ j, j < 17 ∨ 23 < j → m 500001 j = c 500001 j
theorem MFr_rf {b : Nat} {c : gC} : MFr b c c := ⟨fun _ _ _ => rfl, fun _ _ => rfl⟩
theorem MFr_tr {b : Nat} {c m n : gC} (h : MFr b c m) (h2 : MFr b m n) : MFr b c n := ⟨fun k p q => by rw [h2.1 k p q, h.1 k p q], fun j p => by rw [h2.2 j p, h.2 j p]⟩
theorem MFr_p {b : Nat} {c m : gC} {j z : Int} (h : MFr b c m) (hj : 17 ≤ j ∧ j ≤ 23) : MFr b c (gu m 500001 j z) := ⟨fun k p q => by rw [← h.1 k p q]; funext i; exact gu_k p, fun i p => by rw [gu_j (by omega)]; exact h.2 i p⟩
theorem MFr_b {b : Nat} {c m : gC} {j z : Int} (h : MFr b c m) (hb : ¬ b = 500001) : MFr b c (gu m b j z) := ⟨fun k p q => by rw [← h.1 k p q]; funext i; exact gu_k q, fun i p => by rw [gu_k (fun e => hb e.symm)]; exact h.2 i p⟩
theorem MJ_p {m : gC} {j z : Int} (h : MJ m) (hj : 20 ≤ j) (hz : -2147483648 ≤ z ∧ z < 2147483648) : MJ (gu m 500001 j z) := ⟨MI_p h.1 (by omega) hz, by rw [gu_j (by omega), gu_j (by omega)]; exact h.2.1, by
  unfold LW
  rw [gu_j (by omega), gu_j (by omega), gu_j (by omega), show gu m 500001 j z 200009 = m 200009 from funext fun i => gu_k (by decide)]
  exact h.2.2⟩
theorem MJ_b {m : gC} {b : Nat} {j z : Int} (h : MJ m) (hb : ¬ b = 500001 ∧ ¬ b = 200009) (hz : -2147483648 ≤ z ∧ z < 2147483648) : MJ (gu m b j z) := by
  obtain ⟨⟨a, d, e⟩, f, f2⟩ := h
  have e1 : gu m b j z 500001 = m 500001 := funext fun i => gu_k (fun x => hb.1 x.symm)
  have e2 : gu m b j z 200009 = m 200009 := funext fun i => gu_k (fun x => hb.2 x.symm)
  refine ⟨⟨RG_gu a hz, ?_, fun k p q => by rw [gu_k (fun x => hb.2 x.symm)]; exact e k p q⟩, ?_, by unfold LW; rw [e1, e2]; exact f2⟩
  · rw [gu_k (fun x => hb.1 x.symm), gu_k (fun x => hb.1 x.symm)]; exact d
  · rw [gu_k (fun x => hb.1 x.symm), gu_k (fun x => hb.1 x.symm)]; exact f
theorem mad1_ok {m : gC} {s : Int} {b : Nat} (h : MI m) (hs : 0 ≤ s ∧ s ≤ m 500001 16) : MJ (mad1 m s) ∧ MFr b m (mad1 m s) ∧ ∀ k : Nat, ¬ k = 500001 → mad1 m s k = m k := by
  have h0 := mad0_MI h hs
  have hb := bya_rg h hs.1
  have f0 : MFr b m (mad0 m s) := MFr_p (MFr_p MFr_rf (by decide)) (by decide)
  have k0 : ∀ k : Nat, ¬ k = 500001 → mad0 m s k = m k := fun k hk => funext fun j => by
    unfold mad0
    rw [gu_k hk, gu_k hk]
  have g0 : ∀ (x : gC) (j z : Int), (∀ k : Nat, ¬ k = 500001 → x k = m k) → ∀ k : Nat, ¬ k = 500001 → gu x 500001 j z k = m k := fun x j z hx k hk => by
    rw [← hx k hk]; funext i; exact gu_k hk
  have s18 : mad0 m s 500001 18 = s := by unfold mad0; rw [gu_s]
  have hsz := h.2.1
  have i17 : ∀ (x : gC) (z : Int), MI x → s ≤ z → z ≤ x 500001 16 → MI (gu x 500001 17 z) := fun x z hx h2 h3 => MI_17 hx ⟨by omega, h3⟩
  have lw : ∀ (x : gC), ¬ x 500001 19 = 1 → LW x := fun x h1 h2 => absurd h2 h1
  by_cases e1 : bya m s = -1
  · rw [mad1_e e1]
    exact ⟨⟨MI_p h0 (by decide) (by decide), by rw [gu_j (by decide), gu_j (by decide), s18, mad0_17]; omega, lw _ (by rw [gu_s]; decide)⟩, MFr_p f0 (by decide), g0 _ _ _ k0⟩
  · have hlt := bya_lt e1
    cases e2 : mlr m 97 122 s with
    | true =>
      rw [mad1_w e1 e2]
      obtain ⟨r1, r2, r3, r4⟩ := rn_ok (p := mlr m 97 122) (mlr_lt (by decide)) hs.1 hs.2 hsz.2.2
      change s ≤ mln2 m s at r1
      change mln2 m s ≤ m 500001 16 at r2
      refine ⟨⟨MI_p (i17 _ _ h0 r1 (by rw [mad0_16]; exact r2)) (by decide) (by decide), ?_, fun _ k a c => ?_⟩, MFr_p (MFr_p f0 (by decide)) (by decide), g0 _ _ _ (g0 _ _ _ k0)⟩
      · rw [gu_j (by decide), gu_j (by decide), gu_j (by decide), gu_s, s18]; omega
      · rw [gu_j (by decide), gu_j (by decide), s18] at a
        rw [gu_j (by decide), gu_s] at c
        rw [gu_k (by decide), gu_k (by decide), k0 200009 (by decide)]
        exact bya_lw h (by omega) (r4 k a c)
    | false =>
      cases e3 : mlr m 48 57 s with
      | true =>
        rw [mad1_n e1 e2 e3]
        obtain ⟨r1, r2, r3, r4⟩ := rn_ok (p := mlr m 48 57) (mlr_lt (by decide)) hs.1 hs.2 hsz.2.2
        change s ≤ mdn m s at r1
        change mdn m s ≤ m 500001 16 at r2
        have hv := mnv_rg (m := m) (s := s) (i := mdn m s) r1 (fun j a b => (inr_t.mp (r4 j a b)).1)
        refine ⟨⟨MI_p (i17 _ _ (MI_p h0 (by decide) (by omega)) r1 (by rw [gu_j (by decide), mad0_16]; exact r2)) (by decide) (by decide), ?_, lw _ (by rw [gu_s]; decide)⟩, MFr_p (MFr_p (MFr_p f0 (by decide)) (by decide)) (by decide), g0 _ _ _ (g0 _ _ _ (g0 _ _ _ k0))⟩
        rw [gu_j (by decide), gu_j (by decide), gu_j (by decide), gu_j (by decide), gu_s, s18]; omega
      | false =>
        rw [mad1_s e1 e2 e3]
        refine ⟨⟨i17 _ _ (MI_p (MI_p h0 (by decide) (by decide)) (by decide) (by omega)) (by omega) (by rw [gu_j (by decide), gu_j (by decide), mad0_16]; omega), ?_, lw _ (by rw [gu_j (by decide), gu_j (by decide), gu_s]; decide)⟩, MFr_p (MFr_p (MFr_p f0 (by decide)) (by decide)) (by decide), g0 _ _ _ (g0 _ _ _ (g0 _ _ _ k0))⟩
        rw [gu_j (by decide), gu_j (by decide), gu_j (by decide), gu_s, s18]; omega
theorem mad_ok {m : gC} {b : Nat} (h : MI m) : MJ (mad m) ∧ MFr b m (mad m) ∧ ∀ k : Nat, ¬ k = 500001 → mad m k = m k := by
  obtain ⟨r1, r2, r3, r4⟩ := rn_ok (p := mbl m) mbl_lt h.2.1.1 h.2.1.2.1 h.2.1.2.2
  exact mad1_ok h ⟨by have := h.2.1.1; unfold mbn; omega, r2⟩
def mon (m : gC) : gC := if mgd m = true then mad m else m
theorem mon_t {m : gC} (h : mgd m = true) : mon m = mad m := if_pos h
theorem mon_f {m : gC} (h : mgd m = false) : mon m = m := if_neg (by rw [h]; exact Bool.false_ne_true)
/-- what the parser works on: the network built so far and the text -/
def MP (b : Nat) (m : gC) : Prop := MJ m ∧ NW m b
/-- a step: it keeps what must be kept -/
def MS (b : Nat) (c m : gC) : Prop := MP b m ∧ MFr b c m
theorem MS_rf {b : Nat} {c : gC} (h : MP b c) : MS b c c := ⟨h, MFr_rf⟩
theorem MS_mon {b : Nat} {c m : gC} (hb : ¬ b = 500001) (h : MS b c m) : MS b c (mon m) := by
  obtain ⟨⟨h1, h2⟩, h3⟩ := h
  cases e : mgd m with
  | false => rw [mon_f e]; exact ⟨⟨h1, h2⟩, h3⟩
  | true =>
    rw [mon_t e]
    obtain ⟨a1, a2, a3⟩ := mad_ok (b := b) h1.1
    exact ⟨⟨a1, NW_of h2 (a3 b hb)⟩, MFr_tr h3 a2⟩
theorem MS_mad {b : Nat} {c m : gC} (hb : ¬ b = 500001) (h : MS b c m) : MS b c (mad m) := by
  obtain ⟨⟨h1, h2⟩, h3⟩ := h
  obtain ⟨a1, a2, a3⟩ := mad_ok (b := b) h1.1
  exact ⟨⟨a1, NW_of h2 (a3 b hb)⟩, MFr_tr h3 a2⟩
theorem MS_p {b : Nat} {c m : gC} {j z : Int} (hb : ¬ b = 500001) (h : MS b c m) (hj : 20 ≤ j ∧ j ≤ 23) (hz : -2147483648 ≤ z ∧ z < 2147483648) : MS b c (gu m 500001 j z) := ⟨⟨MJ_p h.1.1 hj.1 hz, NW_of h.1.2 (funext fun i => gu_k hb)⟩, MFr_p h.2 (by omega)⟩
theorem MS_fl {b : Nat} {c m : gC} {z : Int} (hb : ¬ b = 500001) (h : MS b c m) (hz : -2147483648 ≤ z ∧ z < 2147483648) : MS b c (mfl m z) := by
  unfold mfl
  split
  · exact MS_p hb (MS_p hb h (by decide) hz) (by decide) (h.1.1.1.1 _ _)
  · exact h
/-- fail with z if p -/
def mfi (p : Bool) (m : gC) (z : Int) : gC := if (mgd m && p) = true then mfl m z else m
theorem MS_fi {b : Nat} {c m : gC} {z : Int} {p : Bool} (hb : ¬ b = 500001) (h : MS b c m) (hz : -2147483648 ≤ z ∧ z < 2147483648) : MS b c (mfi p m z) := by
  unfold mfi
  split
  · exact MS_fl hb h hz
  · exact h
theorem mfi_0 {p : Bool} {m : gC} {z : Int} (h : mgd m = false) : mfi p m z = m := if_neg (by rw [h]; simp)
theorem mfi_1 {p : Bool} {m : gC} {z : Int} (h : p = false) : mfi p m z = m := if_neg (by rw [h]; simp)
theorem mfi_2 {p : Bool} {m : gC} {z : Int} (h : mgd m = true) (h2 : p = true) : mfi p m z = mfl m z := if_pos (by rw [h, h2]; rfl)
def mtx (m : gC) (n l : Nat) : Bool := (mgd m && (decide (m 500001 19 = 1) && decide (m 500001 17 - m 500001 18 = (l : Int)))) && decide (ff (fun k => !decide (m 200009 (m 500001 18 + k) = m (910000 + n) k)) (l : Int) 0 = -1)
def mkw2 (m : gC) : Bool := mtx m 0 4 || (mtx m 1 4 || (mtx m 2 6 || (mtx m 3 5 || (mtx m 4 5 || (mtx m 5 4 || (mtx m 6 6 || (mtx m 7 4 || mtx m 8 4)))))))
def mpk (m : gC) : Int := itI (fun k v => 27 * v + (if m 500001 18 + k < m 500001 17 then m 200009 (m 500001 18 + k) - 97 + 1 else 0)) 0 6
def mfn (c : gC) (b : Nat) (v : Int) : Int := ff (fun n => decide (c b (22 + 3 * n) = v)) (c b 0) 0
def mfr (c : gC) (b : Nat) (v : Int) : Int := ff (fun r => decide (c b (52 + 7 * r + 0) = v)) (c b 1) 0
def mtk (c : gC) (b : Nat) (x y : Int) : Bool := decide (¬ ff (fun n => decide (mxo c b n = x) && decide (myo c b n = y)) (c b 0) 0 = -1)
theorem mfn_rg {c : gC} {b : Nat} {v : Int} (hV : NW c b) : -1 ≤ mfn c b v ∧ mfn c b v < 10 := by
  have := ff_rg (p := fun n => decide (c b (22 + 3 * n) = v)) (N := c b 0) (i := 0) (by omega)
  have h := hV.1.1
  unfold mfn; omega
theorem mfr_rg {c : gC} {b : Nat} {v : Int} (hV : NW c b) : -1 ≤ mfr c b v ∧ mfr c b v < 12 := by
  have := ff_rg (p := fun r => decide (c b (52 + 7 * r + 0) = v)) (N := c b 1) (i := 0) (by omega)
  have h := hV.1.2
  unfold mfr; omega
theorem mpk_rg {m : gC} (h : MJ m) (hw : m 500001 19 = 1) {i : Int} (h0 : 0 ≤ i) (h1 : i ≤ 6) : 0 ≤ itI (fun k v => 27 * v + (if m 500001 18 + k < m 500001 17 then m 200009 (m 500001 18 + k) - 97 + 1 else 0)) 0 i ∧ itI (fun k v => 27 * v + (if m 500001 18 + k < m 500001 17 then m 200009 (m 500001 18 + k) - 97 + 1 else 0)) 0 i < bw i := by
  refine itI_inv3 (fun k (v : Int) => 0 ≤ v ∧ v < bw k) (N := i) (by decide) (fun j s j0 j1 hv => ?_) h0 (Int.le_refl _)
  have hb := bw_s j0 (by omega)
  (try dsimp only at hv ⊢)
  split
  · rename_i e
    have := h.2.2 hw (m 500001 18 + j) (by omega) e
    omega
  · omega
