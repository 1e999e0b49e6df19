/-! between two calls, with the script -/
def IV (n L : Nat) (T : gT) (c : gC) : Prop := (∃ G Lo R Z, INV n G Lo R Z T c) ∧ (T.1 800000).1 = 41 ∧ (T.1 800000).2.1 = L
/-- the same but for what was caught -/
def SAM (c c' : gC) : Prop := ∀ k : Nat, k < 700000 ∨ 800000 ≤ k → c' k = c k
theorem SAM_rf {c : gC} : SAM c c := fun _ _ => rfl
theorem SAM_gz {c : gC} {q : Nat} (hq : q < 100000) : SAM c (gz c (700000 + q)) := fun k hk => funext fun j => gz_k (by omega)
section
variable {n L : Nat} {T : gT} {c : gC}
theorem IV_RG (h : IV n L T c) : RG c := by
  obtain ⟨⟨G, Lo, R, Z, -, ⟨⟨a, -⟩, -⟩, -⟩, -⟩ := h
  exact a
theorem IV_MT (h : IV n L T c) : MT T 200000 := by
  obtain ⟨⟨G, Lo, R, Z, ⟨⟨⟨-, -, a⟩, -⟩, -⟩, -⟩, -⟩ := h
  exact a
theorem IV_out (h : IV n L T c) : (T.1 500002).1 = 3 ∧ (T.1 500002).2.1 = 1 := by
  obtain ⟨⟨G, Lo, R, Z, ⟨⟨-, a, -⟩, -⟩, -⟩, -⟩ := h
  exact a
theorem IV_fx (h : IV n L T c) (hn : n < 900) : (T.1 (700000 + T.2.1 7)).1 = 0 ∧ T.2.1 7 < 900 := by
  obtain ⟨⟨G, Lo, R, Z, ⟨-, a⟩, -⟩, -⟩ := h
  exact ⟨FRE_x a (by omega), by have := a.1.2; omega⟩
theorem IV_SW (h : IV n L T c) : SW c 100014 100034 c 200000 := by
  obtain ⟨⟨G, Lo, R, Z, -, -, -, ⟨⟨⟨a, -⟩, -⟩, -⟩, -⟩, -⟩ := h
  exact a
theorem IV_NW (h : IV n L T c) : NW c 200000 := (IV_SW h).1.2
theorem IV_NN (h : IV n L T c) : NN c 100014 c 200000 := (IV_SW h).1.1
theorem IV_NR (h : IV n L T c) : NR c 100014 := by
  obtain ⟨⟨G, Lo, R, Z, -, -, -, ⟨⟨-, -, ⟨a, -⟩, -⟩, -⟩, -⟩, -⟩ := h
  exact a
theorem IV_WR (h : IV n L T c) : WR c 100034 (700000 * (n : Int)) ∧ WW c 200000 (700000 * (n : Int)) := by
  obtain ⟨⟨G, Lo, R, Z, -, -, -, ⟨⟨-, -, ⟨-, a, b⟩, -⟩, -⟩, -⟩, -⟩ := h
  exact ⟨a, b⟩
theorem IV_XT (h : IV n L T c) : XT T := by
  obtain ⟨⟨G, Lo, R, Z, ⟨⟨⟨a, -⟩, -⟩, -⟩, -⟩, -⟩ := h
  exact a
theorem IV_CT (h : IV n L T c) : CT T := by
  obtain ⟨⟨G, Lo, R, Z, ⟨⟨⟨-, a, -⟩, -⟩, -⟩, -⟩, -⟩ := h
  exact a
theorem IV_NT (h : IV n L T c) : NT T 100014 := (IV_CT h).2.2.1
theorem IV_WT (h : IV n L T c) : WT T 100034 ∧ (T.1 100034).2.2 0 = 100014 + 1 := (IV_CT h).2.2.2.2.1
theorem IV_MLK (h : IV n L T c) {c' : gC} (k : MLK c c') (h2 : n ≤ 999) : IV n L T c' := by
  obtain ⟨⟨G, Lo, R, Z, i⟩, s⟩ := h
  have t := i.1.1
  refine ⟨⟨G, Lo, R, Z, INV_m i k (TGS_c t (k.1 _ (by decide) (by decide)) fun q hq j => by rw [k.1 q (by omega) (by omega)]) i.1.2 (Nat.le_refl _) (by omega)⟩, s⟩
theorem IV_LQ (h : IV n L T c) : LQ c ∧ 0 ≤ c 500001 7 ∧ c 500001 7 ≤ 24 := by
  obtain ⟨⟨G, Lo, R, Z, -, ⟨-, ⟨-, a, -, b⟩, -⟩, -⟩, -⟩ := h
  exact ⟨a, b⟩
theorem IV_tw (h : IV n L T c) (h2 : n ≤ 999) {z : Int} (hz : -2147483648 ≤ z ∧ z < 2147483648) : IV n L T (tw c z) := IV_MLK h (MLK_tw (IV_RG h) (IV_LQ h).1 (IV_LQ h).2 hz) h2
theorem IV_up (h : IV n L T c) (h2 : n ≤ 990) : IV (n + 1) L T c := by
  obtain ⟨⟨G, Lo, R, Z, i⟩, s⟩ := h
  have i0 := i
  obtain ⟨⟨t, f⟩, ⟨⟨a1, -, ⟨a3, a4, a5⟩, -, -⟩, ⟨-, b2, -, b4⟩, -⟩, ⟨-, d2, d3⟩, -⟩ := i
  exact ⟨⟨G, Lo, R, Z, INV_k i0 KEEP_rf a1 a3 a4 a5 b2 b4 d2 d3 t (FRE_n f) (Nat.le_succ _) (by omega)⟩, s⟩
/-- thrown and caught -/
theorem IV_te (h : IV n L T c) (h2 : n < 900) : IV (n + 1) L (gTe (gTt T)) (gz c (700000 + T.2.1 7)) := by
  have fx := IV_fx h h2
  obtain ⟨⟨G, Lo, R, Z, i⟩, s⟩ := h
  have i0 := i
  obtain ⟨⟨t, f⟩, ⟨⟨a1, -, ⟨a3, a4, a5⟩, -, -⟩, ⟨-, b2, -, b4⟩, -⟩, ⟨-, d2, d3⟩, -⟩ := i
  have sm : SAM c (gz c (700000 + T.2.1 7)) := SAM_gz (by omega)
  have e : ∀ k : Nat, k < 700000 → gz c (700000 + T.2.1 7) k = c k := fun k hk => sm k (Or.inl hk)
  have t2 : TGS R Z (gTe (gTt T)) (gz c (700000 + T.2.1 7)) := TGS_c (TGS_e (TGS_t t) (by show T.2.1 7 < 100000; omega)) (e _ (by decide)) fun k hk j => by rw [sm k (Or.inr (by omega))]
  have kp : KEEP c (gz c (700000 + T.2.1 7)) := ⟨fun k hk => sm k (by omega), by rw [e _ (by decide)], fun j _ _ _ => by rw [e _ (by decide)]⟩
  have rg : RG (gz c (700000 + T.2.1 7)) := RG_gz a1
  refine ⟨⟨G, Lo, R, Z, INV_k i0 kp rg (SR_o2 a3 (e _ (by decide)) (e _ (by decide))) (PR_o a4 fun k hk => e k (by omega)) (PQ_o a5 (PT_k t.2.2.1).1 fun k hk => e k (by omega)) (fun j j0 j1 => by rw [e _ (by decide)]; exact b2 j j0 j1) (by rw [e _ (by decide)]; exact b4) (CCR_o d2 (by rw [e _ (by decide)]) (e _ (by decide)) (e _ (by decide))) (CCP_o d3 fun k k0 k1 => e k (by omega)) t2 (FRE_te f (by omega)) (Nat.le_succ _) (by omega)⟩, ?_⟩
  rw [gTe_k (by decide) (by show T.2.1 7 < 100000; omega)]
  exact s
end
/-- told, or thrown, with nothing changed -/
def RI (p : Prop) (X : Nat) (v : Int) (T : gT) (c J : gC) : (Int ⊕ Nat) → gT → gC → gC → Prop := fun r T1 c1 J1 => c1 = c ∧ J1 = J ∧ ((p ∧ r = .inl v ∧ T1 = T) ∨ (¬ p ∧ r = .inr X ∧ T1 = gTt T))
theorem opq1 {n L : Nat} {T : gT} {c J : gC} (h : IV n L T c) (hn : n < 900) {F HF X : Nat} {as : List Value} {p : Prop} {v : Int} (hv : p → -2147483648 ≤ v ∧ v < 2147483648) (e : gE 5 F HF as (gm T c J) (gI p X v T c J)) : gE 5 F HF as (gm T c J) (gP (RI p X v T c J)) := by
  have fx := IV_fx h hn
  refine gE_mono e fun o M1 q => ?_
  rcases q with ⟨hp, rfl, rfl⟩ | ⟨hp, rfl, rfl⟩
  · exact ⟨T, c, J, rfl, Or.inl ⟨v, rfl, hv hp, IV_out h, rfl, rfl, Or.inl ⟨hp, rfl, rfl⟩⟩⟩
  · exact ⟨gTt T, c, J, rfl, Or.inr ⟨X, rfl, fx.1, rfl, rfl, Or.inr ⟨hp, rfl, rfl⟩⟩⟩
theorem RI_E {p : Prop} {X : Nat} {v : Int} {T : gT} {c J : gC} (Y : Nat) (T1 : gT) (c1 J1 : gC) (h : RI p X v T c J (.inr Y) T1 c1 J1) : Y = X := by
  obtain ⟨-, -, ⟨-, e, -⟩ | ⟨-, e, -⟩⟩ := h
  · cases e
  · exact Sum.inr.inj e
/-- what the reference tells: the same, or the number of what was thrown -/
def gMI (p : Prop) (v k : Int) (T : gT) (c J : gC) : am_O → am_M → Prop := fun o M1 => (p ∧ o = .inl (some (gi v)) ∧ M1 = gm T (tw c 0) J) ∨ (¬ p ∧ ∃ b, o = .inl (some (gi b)) ∧ M1 = gm T (tw c k) J)
theorem tw_0 {c : gC} {z : Int} : tw c z 500001 0 = z := gu_s
theorem opq2 {n L : Nat} {T : gT} {c J : gC} (h : IV n L T c) (hn : n < 900) {Y HM X : Nat} {as : List Value} {p : Prop} {v k : Int} (hv : p → -2147483648 ≤ v ∧ v < 2147483648) (em : ∀ n' T' c' J', IV n' L T' c' → n' < 901 → SAM c c' → gE 5 Y HM as (gm T' c' J') (gMI p v k T' c' J')) : ∀ v' T1 c1 J1, RI p X v T c J (.inl v') T1 c1 J1 → SCP L c T1 c1 ∧ gE 5 Y HM as (gm T1 c1 (gu J1 500002 0 v')) (fun o M1 => ∃ T2 c2 J2, o = .inl (some (gi v')) ∧ M1 = gm T2 c2 J2 ∧ ESP (fun T c _ => IV (n + 1) L T c) 0 T2 c2 J2 ∧ J2 500002 0 = v' ∧ -2147483648 ≤ v' ∧ v' < 2147483648) := by
  intro v' T1 c1 J1 hR
  obtain ⟨rfl, rfl, ⟨hp, e, rfl⟩ | ⟨-, e, -⟩⟩ := hR
  · have e1 : v' = v := Sum.inl.inj e
    subst e1
    refine ⟨⟨h.2, rfl⟩, gE_mono (em n _ _ _ h (by omega) SAM_rf) fun o M1 q => ?_⟩
    rcases q with ⟨-, rfl, rfl⟩ | ⟨hq, -⟩
    · have i2 := IV_tw h (by omega) (z := 0) (by decide)
      exact ⟨_, _, _, rfl, rfl, ⟨⟨IV_MT h, IV_RG i2⟩, tw_0, IV_out h, IV_up i2 (by omega)⟩, gu_s, hv hp⟩
    · exact absurd hp hq
  · cases e
theorem opq3 {n L : Nat} {T : gT} {c J : gC} (h : IV n L T c) (hn : n < 900) {Y HM X : Nat} {as : List Value} {p : Prop} {v k : Int} {hm : Nat → Int} (hk : hm X = k ∧ 1 ≤ k ∧ k ≤ 3) (em : ∀ n' T' c' J', IV n' L T' c' → n' < 901 → SAM c c' → gE 5 Y HM as (gm T' c' J') (gMI p v k T' c' J')) : ∀ X' T1 c1 J1, RI p X v T c J (.inr X') T1 c1 J1 → (1 ≤ hm X' ∧ hm X' ≤ 3) ∧ SCP L c (gTe T1) (gz c1 (700000 + T1.2.1 7)) ∧ gE 5 Y HM as (gm (gTe T1) (gz c1 (700000 + T1.2.1 7)) (gz J1 (700000 + T1.2.1 7))) (fun o M1 => ∃ b T2 c2 J2, o = .inl (some (gi b)) ∧ M1 = gm T2 c2 J2 ∧ ESP (fun T c _ => IV (n + 1) L T c) (hm X') T2 c2 J2) := by
  intro X' T1 c1 J1 hR
  obtain ⟨rfl, rfl, ⟨-, e, -⟩ | ⟨hp, e, rfl⟩⟩ := hR
  · cases e
  · have e1 : X' = X := Sum.inr.inj e
    subst e1
    have i1 := IV_te h hn
    have fx := IV_fx h hn
    have sm : SAM c1 (gz c1 (700000 + T.2.1 7)) := SAM_gz (by omega)
    refine ⟨by rw [hk.1]; exact hk.2, ⟨i1.2, sm _ (Or.inr (by decide))⟩, gE_mono (em (n + 1) _ _ _ i1 (by omega) sm) fun o M1 q => ?_⟩
    rcases q with ⟨hq, -⟩ | ⟨-, b, rfl, rfl⟩
    · exact absurd hq hp
    · have i2 := IV_tw i1 (by omega) (z := k) (by omega)
      exact ⟨b, _, _, _, rfl, rfl, ⟨IV_MT i1, IV_RG i2⟩, by rw [hk.1]; exact tw_0, IV_out i1, i2⟩
