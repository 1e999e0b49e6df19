/-! the same network in two memories: the same walks, the same tables -/
theorem NB_sy {M G : gC} {b b' : Nat} (h : NB M b G b') : NB G b' M b := fun j hj => (h j hj).symm
theorem NB_tr {M G H : gC} {b b' b2 : Nat} (h : NB M b G b') (h2 : NB G b' H b2) : NB M b H b2 := fun j hj => (h j hj).trans (h2 j hj)
section
variable {M G : gC} {b b' : Nat}
theorem mhA_B (h : NB M b G b') (hV : NW M b) (a : Int) : mhA M b a = mhA G b' a := by
  have v1 := hV.1.2
  unfold mhA
  rw [← h 1 (by omega)]
  cases q : inr a 0 (2 * M b 1 - 1) with
  | false => rw [Bool.false_and, Bool.false_and]
  | true =>
    have := inr_t.mp q
    rw [h _ (by omega)]
theorem mln_B (h : NB M b G b') {a : Int} (ha : I24 a) : mln M b a = mln G b' a := by unfold I24 at ha; exact h _ (by omega)
theorem mcl_B (h : NB M b G b') {a : Int} (ha : I24 a) : mcl M b a = mcl G b' a := by unfold I24 at ha; exact h _ (by omega)
theorem men_B (h : NB M b G b') {a : Int} (ha : I24 a) : men M b a = men G b' a := by
  unfold I24 at ha
  unfold men
  split <;> exact h _ (by omega)
theorem mbg_B (h : NB M b G b') {a : Int} (ha : I24 a) : mbg M b a = mbg G b' a := by
  unfold I24 at ha
  unfold mbg
  split <;> exact h _ (by omega)
theorem men_rg2 (hV : NW M b) {a : Int} (ha : I24 a) : (0 ≤ men M b a ∧ men M b a < 10) ∧ 0 ≤ mbg M b a ∧ mbg M b a < 10 := by
  unfold I24 at ha
  have v := hV.2.2.2.2.2 (a / 2) (by omega) (by omega)
  unfold men mbg
  split
  · exact ⟨v.2.1, v.1⟩
  · exact ⟨v.1, v.2.1⟩
theorem mkd_B (h : NB M b G b') (hV : NW M b) {a e : Int} (ha : I24 a) (he : I24 e) : mkd M b a e = mkd G b' a e := by
  have r1 := men_rg2 hV ha
  have r2 := men_rg2 hV he
  have x : ∀ n : Int, 0 ≤ n ∧ n < 10 → mxo M b n = mxo G b' n := fun n hn => h _ (by omega)
  have y : ∀ n : Int, 0 ≤ n ∧ n < 10 → myo M b n = myo G b' n := fun n hn => h _ (by omega)
  unfold mkd
  rw [x _ r1.1, x _ r1.2, y _ r1.1, y _ r1.2, x _ r2.1, x _ r2.2, y _ r2.1, y _ r2.2, men_B h ha, men_B h he, mbg_B h ha, mbg_B h he]
theorem mkd_4 {a e : Int} : 0 ≤ mkd M b a e ∧ mkd M b a e < 4 := by
  unfold mkd
  dsimp only
  split
  · decide
  · split
    · decide
    · split <;> decide
theorem mct_B (h : NB M b G b') (hV : NW M b) {a e : Int} (ha : I24 a) (he : I24 e) : mct M b a e = mct G b' a e := by
  have r := mkd_4 (M := M) (b := b) (a := a) (e := e)
  unfold mct
  rw [← mkd_B h hV ha he]
  exact h _ (by omega)
theorem mfo_B (h : NB M b G b') (hV : NW M b) {a e : Int} (ha : I24 a) : mfo M b a e = mfo G b' a e := by
  unfold mfo
  rw [← mhA_B h hV]
  cases q : mhA M b e with
  | false => rw [Bool.false_and, Bool.false_and]
  | true => rw [men_B h ha, mbg_B h (mhA_rg hV q)]
theorem WLK_B (h : NB M b G b') (hV : NW M b) {a z v : Int} (w : WLK M b a z v) : WLK G b' a z v := by
  induction w using WLK_ind with
  | nil q => exact WLK.nil (by rw [← mhA_B h hV]; exact q)
  | @cons a e z v q q2 q3 ih =>
    have ra := I24_A hV q
    have re := I24_A hV (mfo_h q2).1
    rw [mct_B h hV ra re, mln_B h re]
    exact WLK.cons (by rw [← mhA_B h hV]; exact q) (by rw [← mfo_B h hV ra]; exact q2) ih
theorem WLK_i (h : NB M b G b') (hV : NW M b) (hV' : NW G b') {a z v : Int} : WLK M b a z v ↔ WLK G b' a z v := ⟨WLK_B h hV, WLK_B (NB_sy h) hV'⟩
theorem RowOK_B (h : NB M b G b') (hV : NW M b) (hV' : NW G b') {s : Int} {f : Int → Int} (w : RowOK M b s f) : RowOK G b' s f := by
  obtain ⟨w1, w2⟩ := w
  refine ⟨fun t ht => ⟨(w1 t ht).1, fun q => (WLK_i h hV hV').1 ((w1 t ht).2.1 q), fun v q => (w1 t ht).2.2 v ((WLK_i h hV hV').2 q)⟩, fun n n0 n1 => ⟨fun a ha hm => ?_, ?_⟩⟩
  · rw [← mhA_B h hV] at ha
    exact (w2 n n0 n1).1 a ha (by rw [men_B h (I24_A hV ha)]; exact hm)
  · rcases (w2 n n0 n1).2 with e | ⟨a, e1, e2, e3⟩
    · exact Or.inl e
    · exact Or.inr ⟨a, by rw [← mhA_B h hV]; exact e1, by rw [← men_B h (I24_A hV e1)]; exact e2, e3⟩
theorem L1_B (h : NB M b G b') (hV : NW M b) (w : L1 M b) : L1 G b' := fun a ha => by
  rw [← mhA_B h hV] at ha
  rw [← mln_B h (I24_A hV ha)]
  exact w a ha
/-- what a step into an arc costs, of the class -/
theorem sV_B {c g : gC} (hN : NN c 100014 c b) (hN' : NN g 100014 g b') (hV : NW c b) (hV' : NW g b') (h : NB c b g b') {p t : Int} (hp : I34 p) (ht : mhA c b t = true) : sV c p t 100000000 = sV g p t 100000000 := by
  have ht' : mhA g b' t = true := by rw [← mhA_B h hV]; exact ht
  have rt := I24_A hV ht
  by_cases q : p < 24
  · have hu : I24 p := ⟨hp.1, q⟩
    obtain ⟨a1, a2, a3⟩ := sV_w hN hV ht hu
    obtain ⟨d1, d2, d3⟩ := sV_w hN' hV' ht' hu
    have e1 : mfo c b p t = mfo g b' p t := mfo_B h hV hu
    have e2 : mhA c b p = mhA g b' p := mhA_B h hV p
    by_cases x : mfo c b p t = true ∧ mhA c b p = true
    · rw [a1 x, d1 (by rw [← e1, ← e2]; exact x), mct_B h hV hu rt, mln_B h rt]
    · have y1 : ¬ sV c p t 100000000 < 100000000 := fun z => x ⟨(a2 z).2, (a2 z).1⟩
      have y2 : ¬ sV g p t 100000000 < 100000000 := fun z => x (by rw [e1, e2]; exact ⟨(d2 z).2, (d2 z).1⟩)
      omega
  · unfold sV
    rw [if_neg q, if_neg q, (NN_bg hN hV ht).1, (NN_bg hN' hV' ht').1, (NN_ln hN hV ht).1, (NN_ln hN' hV' ht').1, mbg_B h rt, mln_B h rt]
end
/-- the class's tables in c fit the network of G -/
def FT (G c : gC) : Prop := (∀ p t, I34 p → I24 t → sE c p t = if hA G 100014 t = true then sV G p t 100000000 else 100000000) ∧ ∀ s, I24 s → (mhA G 200000 s = true → RowOK G 200000 s (fun j => c 100028 (s * 34 + j))) ∧ (mhA G 200000 s = false → ∀ j, 0 ≤ j → j < 34 → c 100028 (s * 34 + j) = 100000000)
theorem FT_o {G c c' : gC} (h : FT G c) (e1 : c' 100027 = c 100027) (e2 : c' 100028 = c 100028) : FT G c' := by
  unfold FT sE at h ⊢
  rw [e1, e2]
  exact h
theorem FT_G {G G' c : gC} (h : FT G c) (hN : NN G 100014 G 200000) (hN' : NN G' 100014 G' 200000) (hV : NW G 200000) (hV' : NW G' 200000) (hB : NB G 200000 G' 200000) : FT G' c := by
  refine ⟨fun p t hp ht => ?_, fun s hs => ⟨fun q => ?_, fun q => ?_⟩⟩
  · rw [h.1 p t hp ht, NN_hA hN, NN_hA hN', mhA_B hB hV]
    by_cases q : mhA G' 200000 t = true
    · rw [if_pos q, if_pos q, sV_B hN hN' hV hV' hB hp (by rw [mhA_B hB hV]; exact q)]
    · rw [if_neg q, if_neg q]
  · rw [← mhA_B hB hV] at q
    exact RowOK_B hB hV hV' ((h.2 s hs).1 q)
  · rw [← mhA_B hB hV] at q
    exact (h.2 s hs).2 q
theorem TBL_FT {c m : gC} (h : TBL c m 200000) : FT c m := ⟨h.1.2, h.2⟩
theorem FT_TBL {c m : gC} (h : FT c m) (hf : NF c m 100014) : TBL c m 200000 := ⟨⟨hf, h.1⟩, h.2⟩
/-! the reference's tables of the same network are the same -/
section
variable {M G : gC} {b b' : Nat}
theorem tE_B (h : NB M b G b') (hV : NW M b) (hV' : NW G b') (w : FWk M b 24 M) (w' : FWk G b' 24 G) {x y : Int} (hx : mhA M b x = true) (hy : mhA M b y = true) : tE M x y = tE G x y := by
  have rx := I24_A hV hx
  have ry := I24_A hV hy
  have b1 := w.2.2.1 x y rx ry
  have b2 := w'.2.2.1 x y rx ry
  have c1 := mini_rg (c := M) (b := b) (a := x) (e := y) hV ry
  have c2 := mini_rg (c := G) (b := b') (a := x) (e := y) hV' ry
  by_cases q : tE M x y < 1000000000
  · have k := FW_le hV' w' ((WLK_i h hV hV').1 (w.2.2.2 x y rx ry q))
    have k2 := FW_le hV w ((WLK_i h hV hV').2 (w'.2.2.2 x y rx ry (by omega)))
    omega
  · by_cases q2 : tE G x y < 1000000000
    · have k2 := FW_le hV w ((WLK_i h hV hV').2 (w'.2.2.2 x y rx ry q2))
      omega
    · omega
theorem mtn_B (h : NB M b G b') (hV : NW M b) (hV' : NW G b') (w : FWk M b 24 M) (w' : FWk G b' 24 G) {a n : Int} (ha : mhA M b a = true) : mtn M b a n = mtn G b' a n := by
  unfold mtn
  refine itI_congr fun e e0 e1 => funext fun s => ?_
  unfold mtf
  rw [← mhA_B h hV, ← men_B h (show I24 e from ⟨e0, e1⟩)]
  by_cases q : mhA M b e = true ∧ men M b e = n
  · rw [if_pos q, if_pos q]
    have : mle M a e = mle G a e := tE_B h hV hV' w w' ha q.1
    rw [this]
  · rw [if_neg q, if_neg q]
theorem mcf_B (h : NB M b G b') (hV : NW M b) (hV' : NW G b') (w : FWk M b 24 M) (w' : FWk G b' 24 G) {n g : Int} (hg : mhA M b g = true) : mcf M b n (-1) g = mcf G b' n (-1) g := by
  have rg := I24_A hV hg
  unfold mcf
  refine itI_congr fun e e0 e1 => funext fun s => ?_
  unfold mff
  rw [← mhA_B h hV, ← mbg_B h (show I24 e from ⟨e0, e1⟩)]
  by_cases q : mhA M b e = true ∧ mbg M b e = n
  · rw [if_pos q, if_pos q]
    have e2 : mle M e g = mle G e g := tE_B h hV hV' w w' q.1 hg
    unfold mlt mnc
    rw [if_pos rg.2, if_pos rg.2, e2, mln_B h (show I24 e from ⟨e0, e1⟩)]
    simp
  · rw [if_neg q, if_neg q]
end
