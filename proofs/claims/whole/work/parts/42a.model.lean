/-! the reference: the time of a plan -/
theorem mgt_ok {c : gC} {b : Nat} {n B : Int} {s : Bool} (hb : (¬ b = 200003 ∧ ¬ b = 200004) ∧ ¬ b = 500001) (hc : RG c) (hV : NW c b) (hL : LR c) (hW : WW c b B) (hB : B ≤ 1300000000) (hn : 0 ≤ n ∧ n < 10) (hO : LO c b (24 + n)) (hm : ¬ c b 6 = n → mcf c b (c b 6) (-1) (24 + n) < 1000000000) : RG (mgt c b n s).2 ∧ NA c (mgt c b n s).2 b ∧ WW (mgt c b n s).2 b (B + 600000) ∧ (∀ k : Nat, ¬ k = b → ¬ k = 200004 → ¬ k = 500001 → (mgt c b n s).2 k = c k) ∧ (∀ j, ¬ j = 7 → (mgt c b n s).2 500001 j = c 500001 j) ∧ 0 ≤ (mgt c b n s).1 ∧ (mgt c b n s).1 ≤ 506400 := by
  have hbb := hW.1.1
  have wm : ∀ {m : gC} {X : Int}, WW m b X → X ≤ B + 600000 → WW m b (B + 600000) := fun {m X} h hx => by
    obtain ⟨⟨b1, b2⟩, ⟨b3, b4⟩, ⟨b5, b6⟩, ⟨b7, b8⟩, b9, b10⟩ := h
    exact ⟨⟨by omega, b2⟩, ⟨by omega, b4⟩, ⟨b5, b6⟩, ⟨by omega, by omega⟩, fun i p q => by have := b9 i p q; omega, fun i p q => by have := b10 i p q; omega⟩
  by_cases e : c b 6 = n
  · rw [mgt_e e]
    dsimp only
    exact ⟨hc, NA_rf, wm hW (by omega), fun _ _ _ _ => rfl, fun _ _ => rfl, by decide, by decide⟩
  · rw [mgt_n e]
    obtain ⟨t1, t2, t3, t4, t5⟩ := rtm_ok hc hV hL hn hO hW.2.1.2 (hm e)
    have tb := t2 b hb.1.2 hb.2
    obtain ⟨x1, x2, x3, x4, x5, x6⟩ := gol_ok (s := s) (r := fun k => rtm c b n 200004 k) (N := rtm c b n 500001 7) t1 (NW_of hV tb) (WW_of hW tb) hB (by omega) (fun k a e => (t5 k a e).2) t4.1 (Int.le_refl _)
    exact ⟨x1, NA_tr (NA_e tb) x2, wm x3 (by omega), fun k p q r => by rw [x4 k p, t2 k q r], fun j p => by rw [x4 500001 (fun h => hb.2 h.symm), t3 j p], x5, by omega⟩
theorem WW_mono {c : gC} {b : Nat} {B B' : Int} (h : WW c b B) (h1 : B ≤ B') (h2 : B' ≤ 1500000000) : WW c b B' := by
  obtain ⟨⟨b1, b2⟩, ⟨b3, b4⟩, ⟨b5, b6⟩, ⟨b7, b8⟩, b9, b10⟩ := h
  exact ⟨⟨by omega, b2⟩, ⟨by omega, b4⟩, ⟨b5, b6⟩, ⟨by omega, by omega⟩, fun i p q => by have := b9 i p q; omega, fun i p q => by have := b10 i p q; omega⟩
def qmf (r : Int → Int) (s : Bool) (i : Int) (x : Int × gC) : Int × gC := if x.1 = -1 then x else if mcr x.2 200002 (mbg x.2 200002 (r i)) = false then (-1, x.2) else (x.1 + (mgt x.2 200002 (mbg x.2 200002 (r i)) s).1 + mse (mgt x.2 200002 (mbg x.2 200002 (r i)) s).2 200002 (r i), mgo (mgt x.2 200002 (mbg x.2 200002 (r i)) s).2 200002 (r i) s)
theorem qmf_e {r : Int → Int} {s : Bool} {i : Int} {x : Int × gC} (h : x.1 = -1) : qmf r s i x = x := if_pos h
theorem qmf_n {r : Int → Int} {s : Bool} {i : Int} {x : Int × gC} (h : ¬ x.1 = -1) (h2 : mcr x.2 200002 (mbg x.2 200002 (r i)) = false) : qmf r s i x = (-1, x.2) := by unfold qmf; rw [if_neg h, if_pos h2]
theorem qmf_y {r : Int → Int} {s : Bool} {i : Int} {x : Int × gC} (h : ¬ x.1 = -1) (h2 : mcr x.2 200002 (mbg x.2 200002 (r i)) = true) : qmf r s i x = (x.1 + (mgt x.2 200002 (mbg x.2 200002 (r i)) s).1 + mse (mgt x.2 200002 (mbg x.2 200002 (r i)) s).2 200002 (r i), mgo (mgt x.2 200002 (mbg x.2 200002 (r i)) s).2 200002 (r i) s) := by unfold qmf; rw [if_neg h, if_neg (by rw [h2]; decide)]
def pml (r : Int → Int) (s : Bool) (m : gC) (i : Int) : Int × gC := itI (qmf r s) (0, m) i
theorem pml_s {r : Int → Int} {s : Bool} {m : gC} {i : Int} (h : 0 ≤ i) : pml r s m (i + 1) = qmf r s i (pml r s m i) := by unfold pml; rw [itI_s _ _ h]
theorem pml_0 {r : Int → Int} {s : Bool} {m : gC} : pml r s m 0 = (0, m) := rfl
/-- wherever the plough stands in m's network: routes are routes of least cost, and a node that can be reached has one -/
def GG (m : gC) (b : Nat) : Prop := ∀ x : gC, NA m x b → x 200003 = m 200003 → ∀ n, 0 ≤ n → n < 10 → LO x b (24 + n) ∧ (mcr x b n = true → ¬ x b 6 = n → mcf x b (x b 6) (-1) (24 + n) < 1000000000)
/-- what a prediction leaves alone -/
def PX (m x : gC) : Prop := RG x ∧ NA m x 200002 ∧ (∀ k : Nat, ¬ k = 200002 → ¬ k = 200004 → ¬ k = 500001 → x k = m k) ∧ ∀ j, ¬ j = 7 → x 500001 j = m 500001 j
theorem pml_ok {m : gC} {r : Int → Int} {s : Bool} {B n : Int} (hm : RG m) (hV : NW m 200002) (hL : LR m) (hW : WW m 200002 B) (hB : B ≤ 900000000) (hn : n ≤ 12) (hr : ∀ j, 0 ≤ j → j < n → 0 ≤ r j ∧ r j < 24) (hG : GG m 200002) {i : Int} (h0 : 0 ≤ i) (h1 : i ≤ n) : PX m (pml r s m i).2 ∧ WW (pml r s m i).2 200002 (B + 625000 * i) ∧ -1 ≤ (pml r s m i).1 ∧ (pml r s m i).1 ≤ 530000 * i := by
  have hb := hW.1.1
  refine itI_inv3 (fun k (x : Int × gC) => PX m x.2 ∧ WW x.2 200002 (B + 625000 * k) ∧ -1 ≤ x.1 ∧ x.1 ≤ 530000 * k) (N := i) ⟨⟨hm, NA_rf, fun _ _ _ _ => rfl, fun _ _ => rfl⟩, by rw [show B + 625000 * 0 = B by omega]; exact hW, by show (-1 : Int) ≤ 0; decide, Int.le_refl 0⟩ (fun k x k0 k1 hx => ?_) h0 (Int.le_refl _)
  obtain ⟨⟨x1, x2, x3, x4⟩, x5, x6, x7⟩ := hx
  by_cases e : x.1 = -1
  · rw [qmf_e e]; exact ⟨⟨x1, x2, x3, x4⟩, WW_mono x5 (by omega) (by omega), x6, by omega⟩
  · cases e2 : mcr x.2 200002 (mbg x.2 200002 (r k)) with
    | false => rw [qmf_n e e2]; exact ⟨⟨x1, x2, x3, x4⟩, WW_mono x5 (by omega) (by omega), by dsimp only; omega, by dsimp only; omega⟩
    | true =>
      rw [qmf_y e e2]
      have hV2 := NW_n x2 hV
      have ha := hr k k0 (by omega)
      have hbg := mbg_rg hV2 ha
      have x3k := x3 200003 (by decide) (by decide) (by decide)
      obtain ⟨g1, g2⟩ := hG x.2 x2 x3k _ hbg.1 hbg.2
      obtain ⟨y1, y2, y3, y4, y4b, y5, y6⟩ := mgt_ok (s := s) ⟨⟨by decide, by decide⟩, by decide⟩ x1 hV2 (fun i a b => by rw [x3k]; exact hL i a b) x5 (by omega) hbg g1 (g2 e2)
      have hV3 := NW_n y2 hV2
      have z1 := mse_rg hV3 y3 ha
      have z2 := mgo_WW (s := s) hV3 y3 (by omega) ha
      dsimp only
      exact ⟨⟨mgo_RG y1 hV3 y3 (by omega) ha, NA_tr x2 (NA_tr y2 (mgo_NA ha)), fun j p q t => by rw [mgo_k p, y4 j p q t, x3 j p q t], fun j p => by rw [mgo_k (by decide), y4b j p, x4 j p]⟩, WW_mono z2 (by omega) (by omega), by omega, by omega⟩
def pmt (r : Int → Int) (s : Bool) (m : gC) (n : Int) : Int × gC := if (pml r s m n).1 = -1 then (-1, (pml r s m n).2) else if mcr (pml r s m n).2 200002 ((pml r s m n).2 200002 2) = true then ((pml r s m n).1 + (mgt (pml r s m n).2 200002 ((pml r s m n).2 200002 2) s).1, (mgt (pml r s m n).2 200002 ((pml r s m n).2 200002 2) s).2) else (-1, (pml r s m n).2)
theorem pmt_a {r : Int → Int} {s : Bool} {m : gC} {n : Int} (h : (pml r s m n).1 = -1) : pmt r s m n = (-1, (pml r s m n).2) := if_pos h
theorem pmt_b {r : Int → Int} {s : Bool} {m : gC} {n : Int} (h : ¬ (pml r s m n).1 = -1) (h2 : mcr (pml r s m n).2 200002 ((pml r s m n).2 200002 2) = true) : pmt r s m n = ((pml r s m n).1 + (mgt (pml r s m n).2 200002 ((pml r s m n).2 200002 2) s).1, (mgt (pml r s m n).2 200002 ((pml r s m n).2 200002 2) s).2) := by unfold pmt; rw [if_neg h, if_pos h2]
theorem pmt_c {r : Int → Int} {s : Bool} {m : gC} {n : Int} (h : ¬ (pml r s m n).1 = -1) (h2 : mcr (pml r s m n).2 200002 ((pml r s m n).2 200002 2) = false) : pmt r s m n = (-1, (pml r s m n).2) := by unfold pmt; rw [if_neg h, if_neg (by rw [h2]; decide)]
