/-! what can be reached, and what a route to it costs -/
section
variable {c : gC} {b : Nat} {w : Int}
theorem rnR_in (hV : NW c b) {s a : Int} (ha : mhA c b a = true) (hw : ¬ a / 2 = w) (ht : tb s (mbg c b a) = true) : tb (rnR c b w s) (men c b a) = true := by
  have hr := mhA_rg hV ha
  have hm := men_rg hV hr
  have hg := mbg_rg hV hr
  have := itI_inv3 (fun (k : Int) (t : Int) => (∀ e, 0 ≤ e → e < 32 → tb s e = true → tb t e = true) ∧ (a < k → tb t (men c b a) = true)) (f := mrs c b w) (x := s) (N := 24) ⟨fun _ _ _ h => h, fun q => by omega⟩ (fun j t j0 j1 h => ?_) (k := 24) (by decide) (Int.le_refl _)
  · exact this.2 hr.2
  · obtain ⟨h1, h2⟩ := h
    have mono : ∀ e, 0 ≤ e → e < 32 → tb t e = true → tb (mrs c b w j t) e = true := fun e e0 e1 e2 => by
      unfold mrs
      split
      · rename_i q
        have := men_rg hV (mhA_rg hV q.1)
        rw [tb_ors (by omega) ⟨e0, e1⟩, e2]
        rfl
      · exact e2
    refine ⟨fun e e0 e1 e2 => mono e e0 e1 (h1 e e0 e1 e2), fun q => ?_⟩
    by_cases e : a < j
    · exact mono _ hm.1 (by omega) (h2 e)
    · have e2 : j = a := by omega
      rw [e2, mrs_t ha hw (h1 _ hg.1 (by omega) ht), tb_ors (by omega) (by omega), decide_eq_true rfl]
      simp
theorem mrc_in (hV : NW c b) (hN : ∀ a, mhA c b a = true → men c b a < c b 0) {n : Int} (hn : 0 ≤ n ∧ n < c b 0) : tb (mrc c b n w) n = true := (rnI_ok (w := w) hV hN hn (i := 10)).2.1
theorem mrc_cl (hV : NW c b) (hN : ∀ a, mhA c b a = true → men c b a < c b 0) {n : Int} (hn : 0 ≤ n ∧ n < c b 0) {a : Int} (ha : mhA c b a = true) (hw : ¬ a / 2 = w) (ht : tb (mrc c b n w) (mbg c b a) = true) : tb (mrc c b n w) (men c b a) = true := by
  have h0 := hV.1.1
  have e2 : mrc c b n w = rnI c b w n 10 := rfl
  have f1 := rnI_fix (w := w) hV hN hn (10 - (c b 0 - 1)).toNat
  have f2 := rnI_fix (w := w) hV hN hn (11 - (c b 0 - 1)).toNat
  rw [show c b 0 - 1 + ((10 - (c b 0 - 1)).toNat : Int) = 10 by omega] at f1
  rw [show c b 0 - 1 + ((11 - (c b 0 - 1)).toNat : Int) = 10 + 1 by omega, rnI_s (by decide)] at f2
  have := rnR_in hV ha hw ht
  rw [e2, f2, ← f1] at this
  exact this
/-- what is in the set was put there by an arc -/
theorem mrc_ind (hV : NW c b) (P : Int → Prop) {n : Int} (hn : 0 ≤ n ∧ n < 32) (h0 : P n) (hs : ∀ a, mhA c b a = true → P (mbg c b a) → P (men c b a)) : ∀ e, 0 ≤ e → e < 32 → tb (mrc c b n w) e = true → P e := by
  have key : ∀ e, 0 ≤ e → e < 32 → tb (rnI c b w n 10) e = true → P e := by
    refine itI_inv (fun s : Int => ∀ e, 0 ≤ e → e < 32 → tb s e = true → P e) (fun e a d q => ?_) (fun j s hs2 => ?_) 10
    · rw [tb_1 hn ⟨a, d⟩] at q
      rw [← of_decide_eq_true q]
      exact h0
    · refine itI_inv2 (fun t : Int => ∀ e, 0 ≤ e → e < 32 → tb t e = true → P e) (N := 24) hs2 (fun i t i0 i1 ht e a d q => ?_) (Int.le_refl _)
      unfold mrs at q
      split at q
      · rename_i h
        have h2 := mhA_rg hV h.1
        have h3 := men_rg hV h2
        have h4 := mbg_rg hV h2
        rw [tb_ors (by omega) ⟨a, d⟩, Bool.or_eq_true] at q
        rcases q with q | q
        · exact ht e a d q
        · rw [← of_decide_eq_true q]
          exact hs i h.1 (ht _ h4.1 (by omega) h.2.2)
      · exact ht e a d q
  exact key
end
section
variable {M : gC} {b : Nat}
theorem mtn_fin (hV : NW M b) (h : FWk M b 24 M) {a e : Int} (ha : mhA M b a = true) (he : mhA M b e = true) (q : tE M a e < 1000000000) {n : Int} (hn : men M b e = n) : mtn M b a n < 1000000000 := by
  have : mtn M b a n ≤ tE M a e := (mtn_sp (c := M) (b := b) (a := a) (n := n)).1 e (I24_A hV he) he hn
  omega
theorem reach_e (hV : NW M b) (h : FWk M b 24 M) (hL : LR M) (h1 : L1 M b) (hN : ∀ a, mhA M b a = true → men M b a < M b 0) {f t : Int} (hf : 0 ≤ f ∧ f < M b 0) (ht : 0 ≤ t ∧ t < M b 0) (hft : ¬ f = t) : tb (mrc M b f (-1)) t = true ↔ mcf M b f (-1) (24 + t) < 1000000000 := by
  have h0 := hV.1.1
  constructor
  · intro q
    have key := mrc_ind (w := -1) hV (fun e => e = f ∨ mcf M b f (-1) (24 + e) < 1000000000) (n := f) (by omega) (Or.inl rfl) (fun a ha hp => ?_) t ht.1 (by omega) q
    · rcases key with e | e
      · exact absurd e.symm hft
      · exact e
    · right
      have hr := I24_A hV ha
      have hme := men_rg hV hr
      have k1 := mtn_fin hV h ha ha (by rw [tE_aa hV h ha]; decide) (n := men M b a) rfl
      have k2 : ∀ x, mlt M b x (24 + men M b a) = mtn M b x (men M b a) := fun x => by rw [mlt_n (by omega), show 24 + men M b a - 24 = men M b a by omega]
      by_cases e : mbg M b a = f
      · have k3 := (mcf_sp (c := M) (b := b) (n := f) (l := -1) (g := 24 + men M b a)).1 a hr ha e
        have k4 := mnc_rg (l := -1) hV hr
        have k5 := mtn_0 hV h hL h1 (n := men M b a) ha
        rw [k2, k5.2 rfl] at k3
        omega
      · have hp2 : mcf M b f (-1) (24 + mbg M b a) < 1000000000 := by
          rcases hp with q | q
          · exact absurd q e
          · exact q
        have hmb := mbg_rg hV hr
        have s1 := mcf_sm hV h h1 (n := f) (l := -1) (g := 24 + mbg M b a) (Or.inr ⟨by omega, by omega⟩) hp2
        rcases (mcf_sp (c := M) (b := b) (n := f) (l := -1) (g := 24 + mbg M b a)).2 with x | ⟨x, x1, x2, x3, x4⟩
        · omega
        · have k6 : mlt M b x (24 + mbg M b a) = mtn M b x (mbg M b a) := by rw [mlt_n (by omega), show 24 + mbg M b a - 24 = mbg M b a by omega]
          have k7 := mnc_rg (l := -1) hV x1
          rw [k6] at x4
          rcases (mtn_sp (c := M) (b := b) (a := x) (n := mbg M b a)).2 with y | ⟨y, y1, y2, y3, y4⟩
          · omega
          · have y5 : mtn M b x (mbg M b a) = tE M x y := y4
            have z1 := h.2.1 x a y x1 hr y1.1 y1.2
            have z2 := tE_fo hV h y2 (mfo_of ha y3.symm)
            have z3 := mct_rg (a := y) (e := a) hV
            have z4 := mln_rg hV hr
            have z5 : mtn M b x (men M b a) ≤ tE M x a := (mtn_sp (c := M) (b := b) (a := x) (n := men M b a)).1 a hr ha rfl
            have z6 := (mcf_sp (c := M) (b := b) (n := f) (l := -1) (g := 24 + men M b a)).1 x x1 x2 x3
            rw [k2] at z6
            omega
  · intro q
    rcases (mcf_sp (c := M) (b := b) (n := f) (l := -1) (g := 24 + t)).2 with x | ⟨x, x1, x2, x3, x4⟩
    · omega
    · have k7 := mnc_rg (l := -1) hV x1
      rw [mlt_n (by omega), show 24 + t - 24 = t by omega] at x4
      rcases (mtn_sp (c := M) (b := b) (a := x) (n := t)).2 with y | ⟨y, y1, y2, y3, y4⟩
      · omega
      · have y5 : mtn M b x t = tE M x y := y4
        have hw := h.2.2.2 x y x1 y1 (by omega)
        have cl : ∀ {a}, mhA M b a = true → tb (mrc M b f (-1)) (mbg M b a) = true → tb (mrc M b f (-1)) (men M b a) = true := fun {a} ha ht2 => mrc_cl hV hN hf ha (by have := mhA_rg hV ha; omega) ht2
        have key : ∀ {a z v : Int} (hw : WLK M b a z v), tb (mrc M b f (-1)) (men M b a) = true → tb (mrc M b f (-1)) (men M b z) = true := by
          intro a z v hw
          induction hw using WLK_ind with
          | nil h => exact fun q => q
          | @cons a e z v h2 h3 h4 ih =>
            intro q
            obtain ⟨g1, g2⟩ := mfo_h h3
            exact ih (cl g1 (by rw [← g2]; exact q))
        have := key hw (cl x2 (by rw [x3]; exact mrc_in hV hN hf))
        rwa [y3] at this
/-- canReach -/
theorem mcr_e (hV : NW M b) (h : FWk M b 24 M) (hL : LR M) (h1 : L1 M b) (hN : ∀ a, mhA M b a = true → men M b a < M b 0) (hf : 0 ≤ M b 6 ∧ M b 6 < M b 0) {t : Int} (ht : 0 ≤ t ∧ t < M b 0) : mcr M b t = true ↔ (M b 6 = t ∨ mcf M b (M b 6) (-1) (24 + t) < 1000000000) := by
  have e : mcr M b t = tb (mrc M b (M b 6) (-1)) t := by
    unfold mcr mno
    rw [inr_t.2 ⟨ht.1, by omega⟩]
    rfl
  rw [e]
  by_cases q : M b 6 = t
  · rw [q]
    have := mrc_in (w := -1) hV hN hf
    rw [q] at this
    exact ⟨fun _ => Or.inl rfl, fun _ => this⟩
  · rw [reach_e hV h hL h1 hN hf ht q]
    exact ⟨Or.inr, fun x => x.resolve_left q⟩
end
