/-! parser: rows, roads -/
def rrf (q : Nat) (i : Int) (x : Bool × gC) : Bool × gC := if x.1 = true then (if (inu x.2 0 99).1 = true then (true, adv (gu x.2 q i (x.2 100032 8))) else (false, (inu x.2 0 99).2)) else x
theorem rrf_0 {q : Nat} {i : Int} {x : Bool × gC} (h : x.1 = false) : rrf q i x = x := if_neg (by rw [h]; exact Bool.false_ne_true)
theorem rrf_1 {q : Nat} {i : Int} {x : Bool × gC} (h : x.1 = true) (h2 : (inu x.2 0 99).1 = true) : rrf q i x = (true, adv (gu x.2 q i (x.2 100032 8))) := by unfold rrf; rw [if_pos h, if_pos h2]
theorem rrf_2 {q : Nat} {i : Int} {x : Bool × gC} (h : x.1 = true) (h2 : (inu x.2 0 99).1 = false) : rrf q i x = (false, (inu x.2 0 99).2) := by unfold rrf; rw [if_pos h, if_neg (by rw [h2]; exact Bool.false_ne_true)]
def rrw (c : gC) (q : Nat) (i : Int) : Bool × gC := itI (rrf q) (true, c) i
theorem rrw_of {c m : gC} {q : Nat} (hm : PN m ∧ PFr c m) (hq : q = 100002 + 10 ∨ q = 100002 + 11) (i : Int) : PN (rrw m q i).2 ∧ PFr c (rrw m q i).2 := by
  refine itI_inv (fun x : Bool × gC => PN x.2 ∧ PFr c x.2) hm (fun j x h => ?_) i
  cases e : x.1 with
  | false => rw [rrf_0 e]; exact h
  | true =>
    cases e2 : (inu x.2 0 99).1 with
    | false => rw [rrf_2 e e2]; exact inu_of h
    | true =>
      rw [rrf_1 e e2]
      have h3 := (inu_t e2).2.2
      refine adv_of ?_
      rcases hq with rfl | rfl
      · have h4 := PN_10 (r := j) h.1 h3; exact ⟨h4.1, PFr_tr h.2 h4.2⟩
      · have h4 := PN_11 (r := j) h.1 h3; exact ⟨h4.1, PFr_tr h.2 h4.2⟩
def rro6 (n f t l w : Int) (o : Bool) (c : gC) : Bool × gC := ren (rda (if o = true then adv c else c) 100002 n f t l w o)
def rro5 (n f t l w : Int) (c : gC) : Bool × gC := rro6 n f t l w (decide (c 100032 9 = 2)) c
def rro4b (n f t l w : Int) (c : gC) : Bool × gC := if w = -1 then (false, c) else rro5 n f t l w c
def rro4 (n f t l : Int) (c : gC) : Bool × gC := if l = -1 then rro4b n f t l (-1) c else rro4b n f t l (rnu c 1 3).1 (rnu c 1 3).2
def rro3 (n f : Int) (b : gC) : Bool × gC := if (rkn b).1 = -1 then rro4 n f (-1) (-1) (rkn b).2 else rro4 n f (rkn b).1 (rnu (rkn b).2 1 999).1 (rnu (rkn b).2 1 999).2
def rro2 (n f : Int) (b : gC) : Bool × gC := if inm b = true ∧ nnm b (b 100032 8) = f then (false, fai b 3) else rro3 n f b
def rro1 (a : gC) : Bool × gC := if inm a = false then (false, fai a 1) else if ¬ rnm a (a 100032 8) = -1 then (false, fai a 3) else if (rkn (adv a)).1 = -1 then (false, (rkn (adv a)).2) else rro2 (a 100032 8) (rkn (adv a)).1 (rkn (adv a)).2
def rro (c : gC) : Bool × gC := if 12 ≤ c 100002 2 then (false, fai c 5) else rro1 (adv c)
theorem rro6_of {c m : gC} {n f t l w : Int} {o : Bool} (hm : PN m ∧ PFr c m) (hn : -2147483648 ≤ n ∧ n < 2147483648) (hf : -1 ≤ f ∧ f < 10) (ht : -1 ≤ t ∧ t < 10) (hl : 0 ≤ l ∧ l ≤ 999) (hw : 0 ≤ w ∧ w ≤ 3) : PN (rro6 n f t l w o m).2 ∧ PFr c (rro6 n f t l w o m).2 := by
  unfold rro6
  have h2 : PN (if o = true then adv m else m) ∧ PFr c (if o = true then adv m else m) := by
    split
    · exact adv_of hm
    · exact hm
  have h3 := rda_PN (b := o) h2.1 hn hf ht hl hw
  exact ren_of ⟨h3.1, PFr_tr h2.2 h3.2⟩
theorem rro4_of {c m : gC} {n f t l : Int} (hm : PN m ∧ PFr c m) (hn : -2147483648 ≤ n ∧ n < 2147483648) (hf : -1 ≤ f ∧ f < 10) (ht : -1 ≤ t ∧ t < 10) (hl : l = -1 ∨ (0 ≤ l ∧ l ≤ 999)) : PN (rro4 n f t l m).2 ∧ PFr c (rro4 n f t l m).2 := by
  unfold rro4 rro4b
  split
  · rw [if_pos rfl]; exact hm
  · have h2 := rnu_of (l := 1) (u := 3) hm
    have h3 := rnu_rg (l := 1) (h := 3) hm.1 (by decide) (by decide)
    split
    · exact h2
    · exact rro6_of h2 hn hf ht (by omega) (by omega)
theorem rro3_of {c m : gC} {n f : Int} (hm : PN m ∧ PFr c m) (hn : -2147483648 ≤ n ∧ n < 2147483648) (hf : -1 ≤ f ∧ f < 10) : PN (rro3 n f m).2 ∧ PFr c (rro3 n f m).2 := by
  have h2 := rkn_of hm
  have h3 := rkn_rg hm.1
  unfold rro3
  split
  · exact rro4_of h2 hn hf (by omega) (by omega)
  · have h4 := rnu_of (l := 1) (u := 999) h2
    have h5 := rnu_rg (l := 1) (h := 999) h2.1 (by decide) (by decide)
    exact rro4_of h4 hn hf h3 (by omega)
theorem rro_of {c m : gC} (hm : PN m ∧ PFr c m) : PN (rro m).2 ∧ PFr c (rro m).2 := by
  have h2 := adv_of hm
  unfold rro rro1
  split
  · exact fai_of hm (by decide)
  · split
    · exact fai_of h2 (by decide)
    · split
      · exact fai_of h2 (by decide)
      · have h3 := rkn_of (adv_of h2)
        have h4 := rkn_rg (adv_of h2).1
        split
        · exact h3
        · unfold rro2
          split
          · exact fai_of h3 (by decide)
          · exact rro3_of h3 (h2.1.1.1 _ _) h4
set_option maxHeartbeats 1000000 in
theorem c_rrw {g : Nat} {T : gT} {c J : gC} (hA : AT T) (h : PN c) {q n : Nat} (hq : q = 100002 + 10 ∨ q = 100002 + 11) (hn : n ≤ 4) (hq1 : (T.1 q).1 = 1) (hq2 : (T.1 q).2.1 = n) : gE g 41 3 [.ref 100032, .ref q] (gm T c J) (fun o M1 => o = .inl (some (gi (bi (rrw c q (n : Int)).1))) ∧ M1 = gm T (rrw c q (n : Int)).2 J) := by
  refine gE_mk am_r41 rfl (Or.inr ⟨_, rfl, (by first | exact AT_0 hA | exact AT_r0 hA | exact AT_r1 hA | exact AT_r2 hA | exact AT_t hA | exact AT_l hA | exact AT_b0 hA | exact AT_b1 hA | exact AT_b2 hA | exact AT_b3 hA | exact hq1 | exact hq2)⟩) (fun d hd => ?_)
  show gw d g 41 0 [.ref 100032, .ref q, am_U] [] _ _
  refine gw_const at41_0 (gw_is2 at41_1 (h := ?_))
  have lp2 : ∀ i : Int, 0 ≤ i → i ≤ 4 → i ≤ (n : Int) → (rrw c q i).1 = true → gw d g 41 2 [.ref 100032, .ref q, gi i] [] (gm T (rrw c q i).2 J) (fun o M1 => o = .inl (some (gi (bi (rrw c q (n : Int)).1))) ∧ M1 = gm T (rrw c q (n : Int)).2 J) := by
    refine ind_up 4 ?_
    intro i hi0 hi1 ih hi2 hi3
    obtain ⟨x1, x2⟩ := rrw_of (c := c) (m := c) ⟨h, PFr_rf⟩ hq i
    refine gw_il2 at41_2 ?_
    refine gw_al1 at41_3 (gw_len at41_4 (by first | exact Or.inl (by first | exact AT_0 hA | exact AT_r0 hA | exact AT_r1 hA | exact AT_r2 hA | exact AT_t hA | exact AT_l hA | exact AT_b0 hA | exact AT_b1 hA | exact AT_b2 hA | exact AT_b3 hA | exact hq1 | exact hq2) | exact Or.inr (Or.inl (by first | exact AT_0 hA | exact AT_r0 hA | exact AT_r1 hA | exact AT_r2 hA | exact AT_t hA | exact AT_l hA | exact AT_b0 hA | exact AT_b1 hA | exact AT_b2 hA | exact AT_b3 hA | exact hq1 | exact hq2)) | exact Or.inr (Or.inr (Or.inr (Or.inr (Or.inl (by first | exact AT_0 hA | exact AT_r0 hA | exact AT_r1 hA | exact AT_r2 hA | exact AT_t hA | exact AT_l hA | exact AT_b0 hA | exact AT_b1 hA | exact AT_b2 hA | exact AT_b3 hA | exact hq1 | exact hq2))))) | exact Or.inr (Or.inr (Or.inr (Or.inr (Or.inr (by first | exact AT_0 hA | exact AT_r0 hA | exact AT_r1 hA | exact AT_r2 hA | exact AT_t hA | exact AT_l hA | exact AT_b0 hA | exact AT_b1 hA | exact AT_b2 hA | exact AT_b3 hA | exact hq1 | exact hq2)))))) (by first | exact AT_0 hA | exact AT_r0 hA | exact AT_r1 hA | exact AT_r2 hA | exact AT_t hA | exact AT_l hA | exact AT_b0 hA | exact AT_b1 hA | exact AT_b2 hA | exact AT_b3 hA | exact hq1 | exact hq2) rfl ?_)
    refine gw_cge at41_5 (by first | omega | exact x1.1.1 _ _) (by first | omega | exact x1.1.1 _ _) (fun q5 => ?_) (fun q5 => ?_)
    · refine gw_const at41_37 (gw_r1 at41_38 am_r41.2.1 ?_)
      have e : (n : Int) = i := by omega
      rw [e, hi3]
      exact ⟨rfl, rfl⟩
    · refine gw_al0 at41_8 (gw_const at41_9 (gw_bip at41_10 (by decide) ?_))
      refine gw_call3 at41_12 (c_inu hA x1 (l := 0) (u := 99) (by omega) (by omega)) (by omega) (Nat.le_of_ble_eq_true rfl) (fun o M1 q12 => ?_)
      obtain ⟨rfl, rfl⟩ := q12
      show gw _ _ _ _ _ (gi _ :: []) _ _
      refine gw_bne at41_15 (fun q15 => ?_) (fun q15 => ?_)
      · have e := inu_t q15
        rw [e.1]
        dsimp only
        have x4 : PN (gu (rrw c q i).2 q i ((rrw c q i).2 100032 8)) := by
          rcases hq with rfl | rfl
          · exact (PN_10 x1 e.2.2).1
          · exact (PN_11 x1 e.2.2).1
        refine gw_al1 at41_20 (gw_il2 at41_21 (gw_al0 at41_22 (gw_gf (j := 8) at41_23 (by first | exact AT_0 hA | exact AT_r0 hA | exact AT_r1 hA | exact AT_r2 hA | exact AT_t hA | exact AT_l hA | exact AT_b0 hA | exact AT_b1 hA | exact AT_b2 hA | exact AT_b3 hA | exact hq1 | exact hq2) rfl (gw_iw at41_26 (by first | exact AT_0 hA | exact AT_r0 hA | exact AT_r1 hA | exact AT_r2 hA | exact AT_t hA | exact AT_l hA | exact AT_b0 hA | exact AT_b1 hA | exact AT_b2 hA | exact AT_b3 hA | exact hq1 | exact hq2) (by first | exact AT_0 hA | exact AT_r0 hA | exact AT_r1 hA | exact AT_r2 hA | exact AT_t hA | exact AT_l hA | exact AT_b0 hA | exact AT_b1 hA | exact AT_b2 hA | exact AT_b3 hA | exact hq1 | exact hq2) (by first | omega | exact x1.1.1 _ _) (by first | omega | exact x1.1.1 _ _) (by omega) (gw_al0 at41_27 ?_)))))
        refine gw_call1 at41_28 (c_adv hA x4) (by omega) (Nat.le_of_ble_eq_true rfl) (fun o M1 q28 => ?_)
        obtain ⟨rfl, rfl⟩ := q28
        show gw _ _ _ _ _ [] _ _
        refine gw_inc2 at41_31 (h := (gw_goto at41_34 ?_))
        have h8 := ih (i + 1) (by omega) (by omega) (by omega) ?_
        · unfold rrw at h8 ⊢
          rw [itI_s _ _ hi0] at h8
          rw [show rrf q i (itI (rrf q) (true, c) i) = _ from rrf_1 hi3 q15] at h8
          exact h8
        · unfold rrw
          rw [itI_s _ _ hi0, show rrf q i (itI (rrf q) (true, c) i) = _ from rrf_1 hi3 q15]
      · refine gw_const at41_18 (gw_r0 at41_19 am_r41.2.1 ?_)
        have h7 : rrw c q (i + 1) = (false, (inu (rrw c q i).2 0 99).2) := by
          unfold rrw
          rw [itI_s _ _ hi0]
          exact rrf_2 hi3 q15
        have h6 : rrw c q (n : Int) = (false, (inu (rrw c q i).2 0 99).2) := by
          rw [← h7]
          unfold rrw at h7 ⊢
          exact itI_fx (by omega) (fun j hj => by rw [h7]; exact rrf_0 rfl) _ (by omega)
        rw [h6]
        exact ⟨rfl, rfl⟩
  exact lp2 0 (by omega) (by omega) (by omega) rfl
set_option maxHeartbeats 1000000 in
theorem c_rro6 {d g : Nat} {T : gT} {c J : gC} (hd : 4 ≤ d) (hA : AT T) (h : PN c) {n f t l w : Int} (hn : -2147483648 ≤ n ∧ n < 2147483648) (hf : -1 ≤ f ∧ f < 10) (ht : -1 ≤ t ∧ t < 10) (hl : 0 ≤ l ∧ l ≤ 999) (hw : 0 ≤ w ∧ w ≤ 3) {b1 : Bool} : gw d g 43 167 [.ref 100032, gi n, gi f, gi t, gi l, gi w, gi (bi b1)] [] (gm T c J) (fun o M1 => o = .inl (some (gi (bi (rro6 n f t l w b1 c).1))) ∧ M1 = gm T (rro6 n f t l w b1 c).2 J) := by
  have h3 : PN (if b1 = true then adv c else c) := by
    split
    · exact (adv_PN h).1
    · exact h
  have h4 := rda_PN (b := b1) h3 hn hf ht hl hw
  refine gw_il6 at43_167 ?_
  refine gw_beq at43_169 (fun q169 => ?_) (fun q169 => ?_)
  · first | rw [show adv c = (if b1 = true then adv c else c) by rw [if_pos q169]] | rw [show gm T c J = gm T (if b1 = true then adv c else c) J by rw [if_neg (by rw [q169]; decide)]]
    refine gw_al0 at43_176 (gw_gr at43_177 (by first | exact AT_0 hA | exact AT_r0 hA | exact AT_r1 hA | exact AT_r2 hA | exact AT_t hA | exact AT_l hA | exact AT_b0 hA | exact AT_b1 hA | exact AT_b2 hA | exact AT_b3 hA | exact NT_0 (AT_n hA) | exact NT_r15 (AT_n hA) | exact NT_t15 (AT_n hA) | exact NT_l15 (AT_n hA) | exact NT_r16 (AT_n hA) | exact NT_t16 (AT_n hA) | exact NT_l16 (AT_n hA) | exact NT_r17 (AT_n hA) | exact NT_t17 (AT_n hA) | exact NT_l17 (AT_n hA)) (by first | exact AT_0 hA | exact AT_r0 hA | exact AT_r1 hA | exact AT_r2 hA | exact AT_t hA | exact AT_l hA | exact AT_b0 hA | exact AT_b1 hA | exact AT_b2 hA | exact AT_b3 hA | exact NT_0 (AT_n hA) | exact NT_r15 (AT_n hA) | exact NT_t15 (AT_n hA) | exact NT_l15 (AT_n hA) | exact NT_r16 (AT_n hA) | exact NT_t16 (AT_n hA) | exact NT_l16 (AT_n hA) | exact NT_r17 (AT_n hA) | exact NT_t17 (AT_n hA) | exact NT_l17 (AT_n hA)) (gw_il1 at43_180 (gw_il2 at43_181 (gw_il3 at43_182 (gw_il4 at43_183 (gw_il5 at43_185 (gw_il6 at43_187 ?_)))))))
    refine gw_call7 at43_189 (c_addRoad (b := b1) (AT_n hA) h3.1.1 h3.2 hn (by omega) (by omega) (by omega) (by omega)) (by omega) (Nat.le_of_ble_eq_true rfl) (fun o M1 q189 => ?_)
    obtain ⟨rfl, rfl⟩ := q189
    show gw _ _ _ _ _ [] _ _
    refine gw_al0 at43_192 ?_
    refine gw_call1 at43_193 (c_ren hA h4.1) (by omega) (Nat.le_of_ble_eq_true rfl) (fun o M1 q193 => ?_)
    obtain ⟨rfl, rfl⟩ := q193
    show gw _ _ _ _ _ (gi _ :: []) _ _
    refine gw_rb at43_196 am_r43.2.1 ?_
    exact ⟨rfl, rfl⟩
  · refine gw_al0 at43_172 ?_
    refine gw_call1 at43_173 (c_adv hA h) (by omega) (Nat.le_of_ble_eq_true rfl) (fun o M1 q173 => ?_)
    obtain ⟨rfl, rfl⟩ := q173
    show gw _ _ _ _ _ [] _ _
    first | rw [show adv c = (if b1 = true then adv c else c) by rw [if_pos q169]] | rw [show gm T c J = gm T (if b1 = true then adv c else c) J by rw [if_neg (by rw [q169]; decide)]]
    refine gw_al0 at43_176 (gw_gr at43_177 (by first | exact AT_0 hA | exact AT_r0 hA | exact AT_r1 hA | exact AT_r2 hA | exact AT_t hA | exact AT_l hA | exact AT_b0 hA | exact AT_b1 hA | exact AT_b2 hA | exact AT_b3 hA | exact NT_0 (AT_n hA) | exact NT_r15 (AT_n hA) | exact NT_t15 (AT_n hA) | exact NT_l15 (AT_n hA) | exact NT_r16 (AT_n hA) | exact NT_t16 (AT_n hA) | exact NT_l16 (AT_n hA) | exact NT_r17 (AT_n hA) | exact NT_t17 (AT_n hA) | exact NT_l17 (AT_n hA)) (by first | exact AT_0 hA | exact AT_r0 hA | exact AT_r1 hA | exact AT_r2 hA | exact AT_t hA | exact AT_l hA | exact AT_b0 hA | exact AT_b1 hA | exact AT_b2 hA | exact AT_b3 hA | exact NT_0 (AT_n hA) | exact NT_r15 (AT_n hA) | exact NT_t15 (AT_n hA) | exact NT_l15 (AT_n hA) | exact NT_r16 (AT_n hA) | exact NT_t16 (AT_n hA) | exact NT_l16 (AT_n hA) | exact NT_r17 (AT_n hA) | exact NT_t17 (AT_n hA) | exact NT_l17 (AT_n hA)) (gw_il1 at43_180 (gw_il2 at43_181 (gw_il3 at43_182 (gw_il4 at43_183 (gw_il5 at43_185 (gw_il6 at43_187 ?_)))))))
    refine gw_call7 at43_189 (c_addRoad (b := b1) (AT_n hA) h3.1.1 h3.2 hn (by omega) (by omega) (by omega) (by omega)) (by omega) (Nat.le_of_ble_eq_true rfl) (fun o M1 q189 => ?_)
    obtain ⟨rfl, rfl⟩ := q189
    show gw _ _ _ _ _ [] _ _
    refine gw_al0 at43_192 ?_
    refine gw_call1 at43_193 (c_ren hA h4.1) (by omega) (Nat.le_of_ble_eq_true rfl) (fun o M1 q193 => ?_)
    obtain ⟨rfl, rfl⟩ := q193
    show gw _ _ _ _ _ (gi _ :: []) _ _
    refine gw_rb at43_196 am_r43.2.1 ?_
    exact ⟨rfl, rfl⟩
set_option maxHeartbeats 1000000 in
theorem c_rro5 {d g : Nat} {T : gT} {c J : gC} (hd : 4 ≤ d) (hA : AT T) (h : PN c) {n f t l w : Int} (hn : -2147483648 ≤ n ∧ n < 2147483648) (hf : -1 ≤ f ∧ f < 10) (ht : -1 ≤ t ∧ t < 10) (hl : 0 ≤ l ∧ l ≤ 999) (hw : 0 ≤ w ∧ w ≤ 3) {u : Value} (hu : am_nl u = true) : gw d g 43 152 [.ref 100032, gi n, gi f, gi t, gi l, gi w, u] [] (gm T c J) (fun o M1 => o = .inl (some (gi (bi (rro5 n f t l w c).1))) ∧ M1 = gm T (rro5 n f t l w c).2 J) := by
  refine gw_al0 at43_152 (gw_gf (j := 9) at43_153 (by first | exact AT_0 hA | exact AT_r0 hA | exact AT_r1 hA | exact AT_r2 hA | exact AT_t hA | exact AT_l hA | exact AT_b0 hA | exact AT_b1 hA | exact AT_b2 hA | exact AT_b3 hA | exact NT_0 (AT_n hA) | exact NT_r15 (AT_n hA) | exact NT_t15 (AT_n hA) | exact NT_l15 (AT_n hA) | exact NT_r16 (AT_n hA) | exact NT_t16 (AT_n hA) | exact NT_l16 (AT_n hA) | exact NT_r17 (AT_n hA) | exact NT_t17 (AT_n hA) | exact NT_l17 (AT_n hA)) rfl (gw_const at43_156 ?_))
  refine gw_cne at43_157 (by first | omega | exact h.1.1 _ _) (by first | omega | exact h.1.1 _ _) (fun q157 => ?_) (fun q157 => ?_)
  · refine gw_const at43_164 (gw_is6 at43_165 (h := ?_))
    unfold rro5
    first | (rw [decide_eq_true (by omega : c 100032 9 = 2)]; exact c_rro6 (b1 := true) (by omega) hA h hn hf ht hl hw) | (rw [decide_eq_false (by omega : ¬ c 100032 9 = 2)]; exact c_rro6 (b1 := false) (by omega) hA h hn hf ht hl hw)
  · refine gw_const at43_160 (gw_goto at43_161 (gw_is6 at43_165 (h := ?_)))
    unfold rro5
    first | (rw [decide_eq_true (by omega : c 100032 9 = 2)]; exact c_rro6 (b1 := true) (by omega) hA h hn hf ht hl hw) | (rw [decide_eq_false (by omega : ¬ c 100032 9 = 2)]; exact c_rro6 (b1 := false) (by omega) hA h hn hf ht hl hw)
set_option maxHeartbeats 1000000 in
theorem c_rro4b {d g : Nat} {T : gT} {c J : gC} (hd : 4 ≤ d) (hA : AT T) (h : PN c) {n f t l w : Int} (hn : -2147483648 ≤ n ∧ n < 2147483648) (hf : -1 ≤ f ∧ f < 10) (ht : -1 ≤ t ∧ t < 10) (hw : w = -1 ∨ ((0 ≤ l ∧ l ≤ 999) ∧ 0 ≤ w ∧ w ≤ 3)) {u : Value} (hu : am_nl u = true) : gw d g 43 144 [.ref 100032, gi n, gi f, gi t, gi l, gi w, u] [] (gm T c J) (fun o M1 => o = .inl (some (gi (bi (rro4b n f t l w c).1))) ∧ M1 = gm T (rro4b n f t l w c).2 J) := by
  refine gw_il5 at43_144 (gw_const at43_146 ?_)
  refine gw_cne at43_147 (by first | omega | exact h.1.1 _ _) (by first | omega | exact h.1.1 _ _) (fun q147 => ?_) (fun q147 => ?_)
  · rw [show rro4b n f t l w c = rro5 n f t l w c from if_neg (by omega)]
    exact c_rro5 (by omega) hA h hn hf ht (by omega) (by omega) hu
  · refine gw_const at43_150 (gw_r0 at43_151 am_r43.2.1 ?_)
    rw [show rro4b n f t l w c = (false, c) from if_pos (by omega)]
    exact ⟨rfl, rfl⟩
set_option maxHeartbeats 1000000 in
theorem c_rro4 {d g : Nat} {T : gT} {c J : gC} (hd : 4 ≤ d) (hA : AT T) (h : PN c) {n f t l : Int} (hn : -2147483648 ≤ n ∧ n < 2147483648) (hf : -1 ≤ f ∧ f < 10) (ht : -1 ≤ t ∧ t < 10) (hl : l = -1 ∨ (0 ≤ l ∧ l ≤ 999)) {u1 u : Value} (hu1 : am_nl u1 = true) (hu : am_nl u = true) : gw d g 43 126 [.ref 100032, gi n, gi f, gi t, gi l, u1, u] [] (gm T c J) (fun o M1 => o = .inl (some (gi (bi (rro4 n f t l c).1))) ∧ M1 = gm T (rro4 n f t l c).2 J) := by
  have h2 := rnu_PN (l := 1) (h := 3) h
  have h3 := rnu_rg (l := 1) (h := 3) h (by decide) (by decide)
  refine gw_il4 at43_126 (gw_const at43_128 ?_)
  refine gw_cne at43_129 (by first | omega | exact h.1.1 _ _) (by first | omega | exact h.1.1 _ _) (fun q129 => ?_) (fun q129 => ?_)
  · refine gw_al0 at43_136 (gw_const at43_137 (gw_const at43_138 ?_))
    refine gw_call3 at43_139 (c_rnu hA h (l := 1) (u := 3) (by omega) (by omega)) (by omega) (Nat.le_of_ble_eq_true rfl) (fun o M1 q139 => ?_)
    obtain ⟨rfl, rfl⟩ := q139
    show gw _ _ _ _ _ (gi _ :: []) _ _
    refine gw_is5 at43_142 (h := ?_)
    first | (rw [show rro4 n f t l c = rro4b n f t l (-1) c from if_pos (by omega)]; exact c_rro4b (by omega) hA h hn hf ht (Or.inl rfl) hu) | (rw [show rro4 n f t l c = rro4b n f t l (rnu c 1 3).1 (rnu c 1 3).2 from if_neg (by omega)]; exact c_rro4b (by omega) hA h2.1 hn hf ht (by omega) hu)
  · refine gw_const at43_132 (gw_goto at43_133 (gw_is5 at43_142 (h := ?_)))
    first | (rw [show rro4 n f t l c = rro4b n f t l (-1) c from if_pos (by omega)]; exact c_rro4b (by omega) hA h hn hf ht (Or.inl rfl) hu) | (rw [show rro4 n f t l c = rro4b n f t l (rnu c 1 3).1 (rnu c 1 3).2 from if_neg (by omega)]; exact c_rro4b (by omega) hA h2.1 hn hf ht (by omega) hu)
set_option maxHeartbeats 1000000 in
theorem c_rro3 {d g : Nat} {T : gT} {c J : gC} (hd : 4 ≤ d) (hA : AT T) (h : PN c) {n f : Int} (hn : -2147483648 ≤ n ∧ n < 2147483648) (hf : -1 ≤ f ∧ f < 10) {u1 u2 u3 u : Value} (hu1 : am_nl u1 = true) (hu2 : am_nl u2 = true) (hu3 : am_nl u3 = true) (hu : am_nl u = true) : gw d g 43 102 [.ref 100032, gi n, gi f, u1, u2, u3, u] [] (gm T c J) (fun o M1 => o = .inl (some (gi (bi (rro3 n f c).1))) ∧ M1 = gm T (rro3 n f c).2 J) := by
  have h2 := rkn_PN h
  have h3 := rkn_rg h
  have h4 := rnu_PN (l := 1) (h := 999) h2.1
  have h5 := rnu_rg (l := 1) (h := 999) h2.1 (by decide) (by decide)
  refine gw_al0 at43_102 ?_
  refine gw_call1 at43_103 (c_rkn hA h) (by omega) (Nat.le_of_ble_eq_true rfl) (fun o M1 q103 => ?_)
  obtain ⟨rfl, rfl⟩ := q103
  show gw _ _ _ _ _ (gi _ :: []) _ _
  refine gw_is3 at43_106 (h := (gw_il3 at43_107 (gw_const at43_108 ?_)))
  refine gw_cne at43_109 (by first | omega | exact h.1.1 _ _) (by first | omega | exact h.1.1 _ _) (fun q109 => ?_) (fun q109 => ?_)
  · refine gw_al0 at43_116 (gw_const at43_117 (gw_sip at43_118 (by decide) ?_))
    refine gw_call3 at43_121 (c_rnu hA h2.1 (l := 1) (u := 999) (by omega) (by omega)) (by omega) (Nat.le_of_ble_eq_true rfl) (fun o M1 q121 => ?_)
    obtain ⟨rfl, rfl⟩ := q121
    show gw _ _ _ _ _ (gi _ :: []) _ _
    refine gw_is4 at43_124 (h := ?_)
    first | (rw [show rro3 n f c = rro4 n f (-1) (-1) (rkn c).2 from if_pos (by omega), show (rkn c).1 = -1 by omega]; exact c_rro4 (by omega) hA h2.1 hn hf (by omega) (Or.inl rfl) hu3 hu) | (rw [show rro3 n f c = rro4 n f (rkn c).1 (rnu (rkn c).2 1 999).1 (rnu (rkn c).2 1 999).2 from if_neg (by omega)]; exact c_rro4 (by omega) hA h4.1 hn hf (by omega) (by omega) hu3 hu)
  · refine gw_const at43_112 (gw_goto at43_113 (gw_is4 at43_124 (h := ?_)))
    first | (rw [show rro3 n f c = rro4 n f (-1) (-1) (rkn c).2 from if_pos (by omega), show (rkn c).1 = -1 by omega]; exact c_rro4 (by omega) hA h2.1 hn hf (by omega) (Or.inl rfl) hu3 hu) | (rw [show rro3 n f c = rro4 n f (rkn c).1 (rnu (rkn c).2 1 999).1 (rnu (rkn c).2 1 999).2 from if_neg (by omega)]; exact c_rro4 (by omega) hA h4.1 hn hf (by omega) (by omega) hu3 hu)
set_option maxHeartbeats 1000000 in
theorem c_rro2 {d g : Nat} {T : gT} {c J : gC} (hd : 4 ≤ d) (hA : AT T) (h : PN c) {n f : Int} (hn : -2147483648 ≤ n ∧ n < 2147483648) (hf : -1 ≤ f ∧ f < 10) {u1 u2 u3 u : Value} (hu1 : am_nl u1 = true) (hu2 : am_nl u2 = true) (hu3 : am_nl u3 = true) (hu : am_nl u = true) : gw d g 43 74 [.ref 100032, gi n, gi f, u1, u2, u3, u] [] (gm T c J) (fun o M1 => o = .inl (some (gi (bi (rro2 n f c).1))) ∧ M1 = gm T (rro2 n f c).2 J) := by
  refine gw_al0 at43_74 (gw_callP1 at43_75 (c_inm hA h) (by omega) (Nat.le_of_ble_eq_true rfl) ?_)
  refine gw_beq at43_78 (fun q78 => ?_) (fun q78 => ?_)
  · rw [show rro2 n f c = rro3 n f c from if_neg (by first | (intro hh; rw [q78] at hh; exact absurd hh.1 (by decide)) | (intro hh; omega))]
    exact c_rro3 (by omega) hA h hn hf hu1 hu2 hu3 hu
  · refine gw_al0 at43_81 (gw_gr at43_82 (by first | exact AT_0 hA | exact AT_r0 hA | exact AT_r1 hA | exact AT_r2 hA | exact AT_t hA | exact AT_l hA | exact AT_b0 hA | exact AT_b1 hA | exact AT_b2 hA | exact AT_b3 hA | exact NT_0 (AT_n hA) | exact NT_r15 (AT_n hA) | exact NT_t15 (AT_n hA) | exact NT_l15 (AT_n hA) | exact NT_r16 (AT_n hA) | exact NT_t16 (AT_n hA) | exact NT_l16 (AT_n hA) | exact NT_r17 (AT_n hA) | exact NT_t17 (AT_n hA) | exact NT_l17 (AT_n hA)) (by first | exact AT_0 hA | exact AT_r0 hA | exact AT_r1 hA | exact AT_r2 hA | exact AT_t hA | exact AT_l hA | exact AT_b0 hA | exact AT_b1 hA | exact AT_b2 hA | exact AT_b3 hA | exact NT_0 (AT_n hA) | exact NT_r15 (AT_n hA) | exact NT_t15 (AT_n hA) | exact NT_l15 (AT_n hA) | exact NT_r16 (AT_n hA) | exact NT_t16 (AT_n hA) | exact NT_l16 (AT_n hA) | exact NT_r17 (AT_n hA) | exact NT_t17 (AT_n hA) | exact NT_l17 (AT_n hA)) (gw_al0 at43_85 (gw_gf (j := 8) at43_86 (by first | exact AT_0 hA | exact AT_r0 hA | exact AT_r1 hA | exact AT_r2 hA | exact AT_t hA | exact AT_l hA | exact AT_b0 hA | exact AT_b1 hA | exact AT_b2 hA | exact AT_b3 hA | exact NT_0 (AT_n hA) | exact NT_r15 (AT_n hA) | exact NT_t15 (AT_n hA) | exact NT_l15 (AT_n hA) | exact NT_r16 (AT_n hA) | exact NT_t16 (AT_n hA) | exact NT_l16 (AT_n hA) | exact NT_r17 (AT_n hA) | exact NT_t17 (AT_n hA) | exact NT_l17 (AT_n hA)) rfl (gw_callP2 at43_89 (c_nnm hA h (h.1.1 _ _)) (by omega) (Nat.le_of_ble_eq_true rfl) (gw_il2 at43_92 ?_)))))
    refine gw_cne at43_93 (by first | omega | exact h.1.1 _ _ | (have := nnm_rg (v := c 100032 8) h.2; omega)) (by first | omega | exact h.1.1 _ _ | (have := nnm_rg (v := c 100032 8) h.2; omega)) (fun q93 => ?_) (fun q93 => ?_)
    · rw [show rro2 n f c = rro3 n f c from if_neg (by first | (intro hh; rw [q78] at hh; exact absurd hh.1 (by decide)) | (intro hh; omega))]
      exact c_rro3 (by omega) hA h hn hf hu1 hu2 hu3 hu
    · refine gw_al0 at43_96 (gw_const at43_97 ?_)
      refine gw_call2 at43_98 (c_fai hA) (by omega) (Nat.le_of_ble_eq_true rfl) (fun o M1 q98 => ?_)
      obtain ⟨rfl, rfl⟩ := q98
      show gw _ _ _ _ _ (gi _ :: []) _ _
      refine gw_rb at43_101 am_r43.2.1 ?_
      rw [show rro2 n f c = (false, fai c 3) from if_pos ⟨q78, by omega⟩]
      exact ⟨rfl, rfl⟩
set_option maxHeartbeats 1000000 in
theorem c_rro1 {d g : Nat} {T : gT} {c J : gC} (hd : 4 ≤ d) (hA : AT T) (h : PN c) {v1 v2 : Value} {u1 u2 u3 u : Value} (hu1 : am_nl u1 = true) (hu2 : am_nl u2 = true) (hu3 : am_nl u3 = true) (hu : am_nl u = true) (hv1 : am_nl v1 = true) (hv2 : am_nl v2 = true) : gw d g 43 22 [.ref 100032, v1, v2, u1, u2, u3, u] [] (gm T c J) (fun o M1 => o = .inl (some (gi (bi (rro1 c).1))) ∧ M1 = gm T (rro1 c).2 J) := by
  have h2 := rnm_rg (v := c 100032 8) h.2
  have h3 := rkn_PN (adv_PN h).1
  have h4 := rkn_rg (adv_PN h).1
  refine gw_al0 at43_22 (gw_gf (j := 8) at43_23 (by first | exact AT_0 hA | exact AT_r0 hA | exact AT_r1 hA | exact AT_r2 hA | exact AT_t hA | exact AT_l hA | exact AT_b0 hA | exact AT_b1 hA | exact AT_b2 hA | exact AT_b3 hA | exact NT_0 (AT_n hA) | exact NT_r15 (AT_n hA) | exact NT_t15 (AT_n hA) | exact NT_l15 (AT_n hA) | exact NT_r16 (AT_n hA) | exact NT_t16 (AT_n hA) | exact NT_l16 (AT_n hA) | exact NT_r17 (AT_n hA) | exact NT_t17 (AT_n hA) | exact NT_l17 (AT_n hA)) rfl (gw_is1 at43_26 (h := (gw_al0 at43_27 (gw_callP1 at43_28 (c_inm hA h) (by omega) (Nat.le_of_ble_eq_true rfl) ?_)))))
  refine gw_bne at43_31 (fun q31 => ?_) (fun q31 => ?_)
  · refine gw_al0 at43_40 (gw_gr at43_41 (by first | exact AT_0 hA | exact AT_r0 hA | exact AT_r1 hA | exact AT_r2 hA | exact AT_t hA | exact AT_l hA | exact AT_b0 hA | exact AT_b1 hA | exact AT_b2 hA | exact AT_b3 hA | exact NT_0 (AT_n hA) | exact NT_r15 (AT_n hA) | exact NT_t15 (AT_n hA) | exact NT_l15 (AT_n hA) | exact NT_r16 (AT_n hA) | exact NT_t16 (AT_n hA) | exact NT_l16 (AT_n hA) | exact NT_r17 (AT_n hA) | exact NT_t17 (AT_n hA) | exact NT_l17 (AT_n hA)) (by first | exact AT_0 hA | exact AT_r0 hA | exact AT_r1 hA | exact AT_r2 hA | exact AT_t hA | exact AT_l hA | exact AT_b0 hA | exact AT_b1 hA | exact AT_b2 hA | exact AT_b3 hA | exact NT_0 (AT_n hA) | exact NT_r15 (AT_n hA) | exact NT_t15 (AT_n hA) | exact NT_l15 (AT_n hA) | exact NT_r16 (AT_n hA) | exact NT_t16 (AT_n hA) | exact NT_l16 (AT_n hA) | exact NT_r17 (AT_n hA) | exact NT_t17 (AT_n hA) | exact NT_l17 (AT_n hA)) (gw_il1 at43_44 (gw_callP2 at43_45 (c_rnm hA h (h.1.1 _ _)) (by omega) (Nat.le_of_ble_eq_true rfl) (gw_const at43_48 ?_))))
    refine gw_ceq at43_49 (by first | omega | exact h.1.1 _ _) (by first | omega | exact h.1.1 _ _) (fun q49 => ?_) (fun q49 => ?_)
    · refine gw_al0 at43_58 ?_
      refine gw_call1 at43_59 (c_adv hA h) (by omega) (Nat.le_of_ble_eq_true rfl) (fun o M1 q59 => ?_)
      obtain ⟨rfl, rfl⟩ := q59
      show gw _ _ _ _ _ [] _ _
      refine gw_al0 at43_62 ?_
      refine gw_call1 at43_63 (c_rkn hA (adv_PN h).1) (by omega) (Nat.le_of_ble_eq_true rfl) (fun o M1 q63 => ?_)
      obtain ⟨rfl, rfl⟩ := q63
      show gw _ _ _ _ _ (gi _ :: []) _ _
      refine gw_is2 at43_66 (h := (gw_il2 at43_67 (gw_const at43_68 ?_)))
      refine gw_cne at43_69 (by first | omega | exact h.1.1 _ _) (by first | omega | exact h.1.1 _ _) (fun q69 => ?_) (fun q69 => ?_)
      · rw [show rro1 c = rro2 (c 100032 8) (rkn (adv c)).1 (rkn (adv c)).2 by unfold rro1; rw [if_neg (by rw [q31]; decide), if_neg (by omega), if_neg (by omega)]]
        exact c_rro2 (by omega) hA h3.1 (h.1.1 _ _) h4 hu1 hu2 hu3 hu
      · refine gw_const at43_72 (gw_r0 at43_73 am_r43.2.1 ?_)
        unfold rro1
        rw [if_neg (by rw [q31]; decide), if_neg (by omega), if_pos (by omega)]
        exact ⟨rfl, rfl⟩
    · refine gw_al0 at43_52 (gw_const at43_53 ?_)
      refine gw_call2 at43_54 (c_fai hA) (by omega) (Nat.le_of_ble_eq_true rfl) (fun o M1 q54 => ?_)
      obtain ⟨rfl, rfl⟩ := q54
      show gw _ _ _ _ _ (gi _ :: []) _ _
      refine gw_rb at43_57 am_r43.2.1 ?_
      unfold rro1
      rw [if_neg (by rw [q31]; decide), if_pos (by omega)]
      exact ⟨rfl, rfl⟩
  · refine gw_al0 at43_34 (gw_const at43_35 ?_)
    refine gw_call2 at43_36 (c_fai hA) (by omega) (Nat.le_of_ble_eq_true rfl) (fun o M1 q36 => ?_)
    obtain ⟨rfl, rfl⟩ := q36
    show gw _ _ _ _ _ (gi _ :: []) _ _
    refine gw_rb at43_39 am_r43.2.1 ?_
    unfold rro1
    rw [if_pos q31]
    exact ⟨rfl, rfl⟩
set_option maxHeartbeats 1000000 in
theorem c_rro {g : Nat} {T : gT} {c J : gC} (hA : AT T) (h : PN c) : gE g 43 4 [.ref 100032] (gm T c J) (fun o M1 => o = .inl (some (gi (bi (rro c).1))) ∧ M1 = gm T (rro c).2 J) := by
  refine gE_mk am_r43 rfl (Or.inr ⟨_, rfl, (by first | exact AT_0 hA | exact AT_r0 hA | exact AT_r1 hA | exact AT_r2 hA | exact AT_t hA | exact AT_l hA | exact AT_b0 hA | exact AT_b1 hA | exact AT_b2 hA | exact AT_b3 hA | exact NT_0 (AT_n hA) | exact NT_r15 (AT_n hA) | exact NT_t15 (AT_n hA) | exact NT_l15 (AT_n hA) | exact NT_r16 (AT_n hA) | exact NT_t16 (AT_n hA) | exact NT_l16 (AT_n hA) | exact NT_r17 (AT_n hA) | exact NT_t17 (AT_n hA) | exact NT_l17 (AT_n hA))⟩) (fun d hd => ?_)
  show gw d g 43 0 [.ref 100032, am_U, am_U, am_U, am_U, am_U, am_U] [] _ _
  refine gw_al0 at43_0 (gw_gr at43_1 (by first | exact AT_0 hA | exact AT_r0 hA | exact AT_r1 hA | exact AT_r2 hA | exact AT_t hA | exact AT_l hA | exact AT_b0 hA | exact AT_b1 hA | exact AT_b2 hA | exact AT_b3 hA | exact NT_0 (AT_n hA) | exact NT_r15 (AT_n hA) | exact NT_t15 (AT_n hA) | exact NT_l15 (AT_n hA) | exact NT_r16 (AT_n hA) | exact NT_t16 (AT_n hA) | exact NT_l16 (AT_n hA) | exact NT_r17 (AT_n hA) | exact NT_t17 (AT_n hA) | exact NT_l17 (AT_n hA)) (by first | exact AT_0 hA | exact AT_r0 hA | exact AT_r1 hA | exact AT_r2 hA | exact AT_t hA | exact AT_l hA | exact AT_b0 hA | exact AT_b1 hA | exact AT_b2 hA | exact AT_b3 hA | exact NT_0 (AT_n hA) | exact NT_r15 (AT_n hA) | exact NT_t15 (AT_n hA) | exact NT_l15 (AT_n hA) | exact NT_r16 (AT_n hA) | exact NT_t16 (AT_n hA) | exact NT_l16 (AT_n hA) | exact NT_r17 (AT_n hA) | exact NT_t17 (AT_n hA) | exact NT_l17 (AT_n hA)) (gw_gf (j := 2) at43_4 (by first | exact AT_0 hA | exact AT_r0 hA | exact AT_r1 hA | exact AT_r2 hA | exact AT_t hA | exact AT_l hA | exact AT_b0 hA | exact AT_b1 hA | exact AT_b2 hA | exact AT_b3 hA | exact NT_0 (AT_n hA) | exact NT_r15 (AT_n hA) | exact NT_t15 (AT_n hA) | exact NT_l15 (AT_n hA) | exact NT_r16 (AT_n hA) | exact NT_t16 (AT_n hA) | exact NT_l16 (AT_n hA) | exact NT_r17 (AT_n hA) | exact NT_t17 (AT_n hA) | exact NT_l17 (AT_n hA)) rfl (gw_bip at43_7 (by decide) ?_)))
  refine gw_clt at43_9 (by first | omega | exact h.1.1 _ _) (by first | omega | exact h.1.1 _ _) (fun q9 => ?_) (fun q9 => ?_)
  · refine gw_al0 at43_18 ?_
    refine gw_call1 at43_19 (c_adv hA h) (by omega) (Nat.le_of_ble_eq_true rfl) (fun o M1 q19 => ?_)
    obtain ⟨rfl, rfl⟩ := q19
    show gw _ _ _ _ _ [] _ _
    rw [show rro c = rro1 (adv c) by unfold rro; rw [if_neg (by omega)]]
    exact c_rro1 (by omega) hA (adv_PN h).1 rfl rfl rfl rfl rfl rfl
  · refine gw_al0 at43_12 (gw_const at43_13 ?_)
    refine gw_call2 at43_14 (c_fai hA) (by omega) (Nat.le_of_ble_eq_true rfl) (fun o M1 q14 => ?_)
    obtain ⟨rfl, rfl⟩ := q14
    show gw _ _ _ _ _ (gi _ :: []) _ _
    refine gw_rb at43_17 am_r43.2.1 ?_
    unfold rro
    rw [if_pos (by omega)]
    exact ⟨rfl, rfl⟩
