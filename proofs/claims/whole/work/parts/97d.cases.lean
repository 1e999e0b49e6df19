/-! the law's cases: one call of the class, one of the reference -/
/-- the script stays -/
def SCP (L : Nat) (c : gC) (T1 : gT) (c1 : gC) : Prop := ((T1.1 800000).1 = 41 ∧ (T1.1 800000).2.1 = L) ∧ c1 800000 = c 800000
def ESP (E : gT → gC → gC → Prop) (z : Int) (T : gT) (c J : gC) : Prop := (MT T 200000 ∧ RG c) ∧ c 500001 0 = z ∧ ((T.1 500002).1 = 3 ∧ (T.1 500002).2.1 = 1) ∧ E T c J
theorem gw_bsel {d g y pc pc1 pc2 pc3 pc4 : Nat} {off o2 : Int} {a2 b0 b2 b3 a3 b4 : Nat} {L r : List Value} {T : gT} {c J : gC} {Q : am_O → am_M → Prop} {z : Int} {p : Bool} (hi : am_at y pc pc1 (.ifCond .eq off) 0 pc3 b0) (h1 : am_at y pc1 pc2 (.iconst 1) 0 a3 b3) (h2 : am_at y pc2 pc3 (.goto o2) 0 pc4 b2) (h0 : am_at y pc3 pc4 (.iconst 0) 0 a2 b4) (hz : -2147483648 ≤ z ∧ z < 2147483648) (hp : p = decide (¬ z = 0)) (h : gw d g y pc4 L (gi (bi p) :: r) (gm T c J) Q) : gw d g y pc L (gi z :: r) (gm T c J) Q := by
  refine gw_zeq hi hz (fun q => ?_) (fun q => ?_)
  · refine gw_const h0 ?_
    rw [hp, decide_eq_false (fun x => x q)] at h
    exact h
  · refine gw_const h1 (gw_goto h2 ?_)
    rw [hp, decide_eq_true q] at h
    exact h
set_option maxHeartbeats 1000000 in
theorem lc_0 {d HW HM : Nat} {T : gT} {c J : gC} {L : Nat} {i : Int} {E : gT → gC → gC → Prop} {Q : am_O → am_M → Prop} {hm : Nat → Int} {R : (Int ⊕ Nat) → gT → gC → gC → Prop} {u5 u6 : Value} (hHW : HW + 1 ≤ d) (hHM : HM + 1 ≤ d) (hL : (T.1 800000).1 = 41 ∧ (T.1 800000).2.1 = L) (hL2 : L ≤ 3072) (hi : 0 ≤ i ∧ i + 6 ≤ (L : Int)) (hu : am_nl u5 = true) (hv : am_nl u6 = true) (h1 : gE 5 341 HW [.ref 500000, gi (c 800000 (i + 1)), gi (c 800000 (i + 2)), gi (c 800000 (i + 3)), gi (c 800000 (i + 4)), gi (c 800000 (i + 5)), .ref 500002] (gm T c J) (gW hm R)) (h2 : ∀ v T1 c1 J1, R (.inl v) T1 c1 J1 → SCP L c T1 c1 ∧ gE 5 293 HM [.ref 500001, gi (c 800000 (i + 1)), gi (c 800000 (i + 2)), gi (c 800000 (i + 3)), gi (c 800000 (i + 4)), gi (c 800000 (i + 5))] (gm T1 c1 (gu J1 500002 0 v)) (fun o M1 => ∃ T2 c2 J2, o = .inl (some (gi v)) ∧ M1 = gm T2 c2 J2 ∧ ESP E 0 T2 c2 J2 ∧ J2 500002 0 = v ∧ -2147483648 ≤ v ∧ v < 2147483648)) (h3 : ∀ X T1 c1 J1, R (.inr X) T1 c1 J1 → (1 ≤ hm X ∧ hm X ≤ 3) ∧ SCP L c (gTe T1) (gz c1 (700000 + T1.2.1 7)) ∧ gE 5 293 HM [.ref 500001, gi (c 800000 (i + 1)), gi (c 800000 (i + 2)), gi (c 800000 (i + 3)), gi (c 800000 (i + 4)), gi (c 800000 (i + 5))] (gm (gTe T1) (gz c1 (700000 + T1.2.1 7)) (gz J1 (700000 + T1.2.1 7))) (fun o M1 => ∃ b T2 c2 J2, o = .inl (some (gi b)) ∧ M1 = gm T2 c2 J2 ∧ ESP E (hm X) T2 c2 J2)) (hend : ∀ z T2 c2 J2 (k b : Value), ESP E z T2 c2 J2 → am_nl k = true → am_nl b = true → gw d 5 387 3366 [.ref 800000, .ref 500000, .ref 500001, .ref 500002, gi i, k, b] [] (gm T2 c2 J2) Q) : gw d 5 387 312 [.ref 800000, .ref 500000, .ref 500001, .ref 500002, gi i, u5, u6] [] (gm T c J) Q := by
  refine gw_al1 at387_312 (gw_al0 at387_313 (gw_il4 at387_314 (gw_const at387_316 (gw_iadd at387_317 (gw_ia at387_318 (Or.inr hL.1) hL.2 (by omega) (by omega) (by omega) (gw_al0 at387_319 (gw_il4 at387_320 (gw_const at387_322 (gw_iadd at387_323 (gw_ia at387_324 (Or.inr hL.1) hL.2 (by omega) (by omega) (by omega) (gw_al0 at387_325 (gw_il4 at387_326 (gw_const at387_328 (gw_iadd at387_329 (gw_ia at387_330 (Or.inr hL.1) hL.2 (by omega) (by omega) (by omega) (gw_al0 at387_331 (gw_il4 at387_332 (gw_const at387_334 (gw_iadd at387_335 (gw_ia at387_336 (Or.inr hL.1) hL.2 (by omega) (by omega) (by omega) (gw_al0 at387_337 (gw_il4 at387_338 (gw_const at387_340 (gw_iadd at387_341 (gw_ia at387_342 (Or.inr hL.1) hL.2 (by omega) (by omega) (by omega) (gw_al3 at387_343 (?_)))))))))))))))))))))))))))
  refine gw_call7 at387_344 h1 (by omega) (Nat.le_of_ble_eq_true rfl) (fun o M1 q => ?_)
  obtain ⟨T1, c1, J1, ⟨v, hR, rfl, rfl⟩ | ⟨X, hR, rfl, rfl⟩⟩ := q
  · obtain ⟨s, e⟩ := h2 v T1 c1 J1 hR
    show gw _ _ _ _ _ (gi 0 :: _) _ _
    refine gw_is5 at387_347 (h := ?_)
    refine gw_al2 at387_349 (gw_al0 at387_350 (gw_il4 at387_351 (gw_const at387_353 (gw_iadd at387_354 (gw_ia at387_355 (Or.inr s.1.1) s.1.2 (by omega) (by omega) (by omega) (gw_al0 at387_356 (gw_il4 at387_357 (gw_const at387_359 (gw_iadd at387_360 (gw_ia at387_361 (Or.inr s.1.1) s.1.2 (by omega) (by omega) (by omega) (gw_al0 at387_362 (gw_il4 at387_363 (gw_const at387_365 (gw_iadd at387_366 (gw_ia at387_367 (Or.inr s.1.1) s.1.2 (by omega) (by omega) (by omega) (gw_al0 at387_368 (gw_il4 at387_369 (gw_const at387_371 (gw_iadd at387_372 (gw_ia at387_373 (Or.inr s.1.1) s.1.2 (by omega) (by omega) (by omega) (gw_al0 at387_374 (gw_il4 at387_375 (gw_const at387_377 (gw_iadd at387_378 (gw_ia at387_379 (Or.inr s.1.1) s.1.2 (by omega) (by omega) (by omega) (?_))))))))))))))))))))))))))
    rw [s.2]
    refine gw_call6 at387_380 e (by omega) (Nat.le_of_ble_eq_true rfl) (fun o M1 q2 => ?_)
    obtain ⟨T2, c2, J2, rfl, rfl, hE, hv2, hvr⟩ := q2
    have hE0 := hE
    obtain ⟨⟨g1, g2⟩, g3, g4, -⟩ := hE
    show gw _ _ _ _ _ (gi v :: _) _ _
    refine gw_is6 at387_383 (h := ?_)
    refine gw_al2 at387_385 (gw_callP1 at387_386 (m_thrown g1 g2) (by omega) (Nat.le_of_ble_eq_true rfl) ?_)
    rw [g3]
    refine gw_il5 at387_389 (gw_ceq at387_391 (by decide) (by decide) (fun _ => ?_) (fun q => absurd rfl q))
    refine gw_il5 at387_396 (gw_zne at387_398 (by decide) (fun q => absurd rfl q) (fun _ => ?_))
    refine gw_al3 at387_401 (gw_const at387_402 (gw_la at387_403 g4.1 g4.2 (by decide) (by decide) (by decide) ?_))
    rw [hv2]
    refine gw_il6 at387_404 (gw_i2l at387_406 hvr (gw_lceq at387_407 at387_408 (by omega) (by omega) (fun _ => ?_) (fun q => absurd rfl q)))
    exact gw_goto at387_413 (hend _ T2 c2 J2 _ _ hE0 rfl rfl)
  · obtain ⟨hk, s, e⟩ := h3 X T1 c1 J1 hR
    show gw _ _ _ _ _ (gi (hm X) :: _) _ _
    refine gw_is5 at387_347 (h := ?_)
    refine gw_al2 at387_349 (gw_al0 at387_350 (gw_il4 at387_351 (gw_const at387_353 (gw_iadd at387_354 (gw_ia at387_355 (Or.inr s.1.1) s.1.2 (by omega) (by omega) (by omega) (gw_al0 at387_356 (gw_il4 at387_357 (gw_const at387_359 (gw_iadd at387_360 (gw_ia at387_361 (Or.inr s.1.1) s.1.2 (by omega) (by omega) (by omega) (gw_al0 at387_362 (gw_il4 at387_363 (gw_const at387_365 (gw_iadd at387_366 (gw_ia at387_367 (Or.inr s.1.1) s.1.2 (by omega) (by omega) (by omega) (gw_al0 at387_368 (gw_il4 at387_369 (gw_const at387_371 (gw_iadd at387_372 (gw_ia at387_373 (Or.inr s.1.1) s.1.2 (by omega) (by omega) (by omega) (gw_al0 at387_374 (gw_il4 at387_375 (gw_const at387_377 (gw_iadd at387_378 (gw_ia at387_379 (Or.inr s.1.1) s.1.2 (by omega) (by omega) (by omega) (?_))))))))))))))))))))))))))
    rw [s.2]
    refine gw_call6 at387_380 e (by omega) (Nat.le_of_ble_eq_true rfl) (fun o M1 q2 => ?_)
    obtain ⟨b, T2, c2, J2, rfl, rfl, hE⟩ := q2
    have hE0 := hE
    obtain ⟨⟨g1, g2⟩, g3, g4, -⟩ := hE
    show gw _ _ _ _ _ (gi b :: _) _ _
    refine gw_is6 at387_383 (h := ?_)
    refine gw_al2 at387_385 (gw_callP1 at387_386 (m_thrown g1 g2) (by omega) (Nat.le_of_ble_eq_true rfl) ?_)
    rw [g3]
    refine gw_il5 at387_389 (gw_ceq at387_391 (by omega) (by omega) (fun _ => ?_) (fun q => absurd rfl q))
    refine gw_il5 at387_396 (gw_zne at387_398 (by omega) (fun _ => ?_) (fun q => absurd q (by omega)))
    exact gw_goto at387_413 (hend _ T2 c2 J2 _ _ hE0 rfl rfl)
set_option maxHeartbeats 1000000 in
theorem lc_1 {d HW HM : Nat} {T : gT} {c J : gC} {L : Nat} {i : Int} {E : gT → gC → gC → Prop} {Q : am_O → am_M → Prop} {hm : Nat → Int} {R : (Int ⊕ Nat) → gT → gC → gC → Prop} {u5 u6 : Value} (hHW : HW + 1 ≤ d) (hHM : HM + 1 ≤ d) (hL : (T.1 800000).1 = 41 ∧ (T.1 800000).2.1 = L) (hL2 : L ≤ 3072) (hi : 0 ≤ i ∧ i + 6 ≤ (L : Int)) (hu : am_nl u5 = true) (hv : am_nl u6 = true) (h1 : gE 5 342 HW [.ref 500000, gi (c 800000 (i + 1))] (gm T c J) (gW0 hm R)) (h2 : ∀ T1 c1 J1, R (.inl 0) T1 c1 J1 → SCP L c T1 c1 ∧ gE 5 294 HM [.ref 500001, gi (c 800000 (i + 1))] (gm T1 c1 J1) (fun o M1 => ∃ T2 c2 J2, o = .inl none ∧ M1 = gm T2 c2 J2 ∧ ESP E 0 T2 c2 J2)) (h3 : ∀ X T1 c1 J1, R (.inr X) T1 c1 J1 → (1 ≤ hm X ∧ hm X ≤ 3) ∧ SCP L c (gTe T1) (gz c1 (700000 + T1.2.1 7)) ∧ gE 5 294 HM [.ref 500001, gi (c 800000 (i + 1))] (gm (gTe T1) (gz c1 (700000 + T1.2.1 7)) (gz J1 (700000 + T1.2.1 7))) (fun o M1 => ∃ T2 c2 J2, o = .inl none ∧ M1 = gm T2 c2 J2 ∧ ESP E (hm X) T2 c2 J2)) (hend : ∀ z T2 c2 J2 (k b : Value), ESP E z T2 c2 J2 → am_nl k = true → am_nl b = true → gw d 5 387 3366 [.ref 800000, .ref 500000, .ref 500001, .ref 500002, gi i, k, b] [] (gm T2 c2 J2) Q) : gw d 5 387 416 [.ref 800000, .ref 500000, .ref 500001, .ref 500002, gi i, u5, u6] [] (gm T c J) Q := by
  refine gw_al1 at387_416 (gw_al0 at387_417 (gw_il4 at387_418 (gw_const at387_420 (gw_iadd at387_421 (gw_ia at387_422 (Or.inr hL.1) hL.2 (by omega) (by omega) (by omega) (?_))))))
  refine gw_call2 at387_423 h1 (by omega) (Nat.le_of_ble_eq_true rfl) (fun o M1 q => ?_)
  obtain ⟨T1, c1, J1, ⟨hR, rfl, rfl⟩ | ⟨X, hR, rfl, rfl⟩⟩ := q
  · obtain ⟨s, e⟩ := h2 T1 c1 J1 hR
    show gw _ _ _ _ _ (gi 0 :: _) _ _
    refine gw_is5 at387_426 (h := ?_)
    refine gw_al2 at387_428 (gw_al0 at387_429 (gw_il4 at387_430 (gw_const at387_432 (gw_iadd at387_433 (gw_ia at387_434 (Or.inr s.1.1) s.1.2 (by omega) (by omega) (by omega) (?_))))))
    rw [s.2]
    refine gw_call2 at387_435 e (by omega) (Nat.le_of_ble_eq_true rfl) (fun o M1 q2 => ?_)
    obtain ⟨T2, c2, J2, rfl, rfl, hE⟩ := q2
    have hE0 := hE
    obtain ⟨⟨g1, g2⟩, g3, g4, -⟩ := hE
    show gw _ _ _ _ _ [] _ _
    refine gw_al2 at387_438 (gw_callP1 at387_439 (m_thrown g1 g2) (by omega) (Nat.le_of_ble_eq_true rfl) ?_)
    rw [g3]
    refine gw_il5 at387_442 (gw_ceq at387_444 (by decide) (by decide) (fun _ => ?_) (fun q => absurd rfl q))
    exact gw_goto at387_449 (hend _ T2 c2 J2 _ _ hE0 rfl hv)
  · obtain ⟨hk, s, e⟩ := h3 X T1 c1 J1 hR
    show gw _ _ _ _ _ (gi (hm X) :: _) _ _
    refine gw_is5 at387_426 (h := ?_)
    refine gw_al2 at387_428 (gw_al0 at387_429 (gw_il4 at387_430 (gw_const at387_432 (gw_iadd at387_433 (gw_ia at387_434 (Or.inr s.1.1) s.1.2 (by omega) (by omega) (by omega) (?_))))))
    rw [s.2]
    refine gw_call2 at387_435 e (by omega) (Nat.le_of_ble_eq_true rfl) (fun o M1 q2 => ?_)
    obtain ⟨T2, c2, J2, rfl, rfl, hE⟩ := q2
    have hE0 := hE
    obtain ⟨⟨g1, g2⟩, g3, g4, -⟩ := hE
    show gw _ _ _ _ _ [] _ _
    refine gw_al2 at387_438 (gw_callP1 at387_439 (m_thrown g1 g2) (by omega) (Nat.le_of_ble_eq_true rfl) ?_)
    rw [g3]
    refine gw_il5 at387_442 (gw_ceq at387_444 (by omega) (by omega) (fun _ => ?_) (fun q => absurd rfl q))
    exact gw_goto at387_449 (hend _ T2 c2 J2 _ _ hE0 rfl hv)
set_option maxHeartbeats 1000000 in
theorem lc_2 {d HW HM : Nat} {T : gT} {c J : gC} {i : Int} {E : gT → gC → gC → Prop} {Q : am_O → am_M → Prop} {R : Int → gT → gC → gC → Prop} {u5 u6 : Value} (hHW : HW + 1 ≤ d) (hHM : HM + 1 ≤ d) (hu : am_nl u5 = true) (hv : am_nl u6 = true) (h1 : gE 5 99 HW [.ref 500000] (gm T c J) (fun o M1 => ∃ v T1 c1 J1, o = .inl (some (gi v)) ∧ M1 = gm T1 c1 J1 ∧ R v T1 c1 J1)) (h2 : ∀ v T1 c1 J1, R v T1 c1 J1 → (-2147483648 ≤ v ∧ v < 2147483648) ∧ gE 5 316 HM [.ref 500001] (gm T1 c1 J1) (fun o M1 => ∃ z T2 c2 J2, o = .inl (some (gi v)) ∧ M1 = gm T2 c2 J2 ∧ ESP E z T2 c2 J2)) (hend : ∀ z T2 c2 J2 (k b : Value), ESP E z T2 c2 J2 → am_nl k = true → am_nl b = true → gw d 5 387 3366 [.ref 800000, .ref 500000, .ref 500001, .ref 500002, gi i, k, b] [] (gm T2 c2 J2) Q) : gw d 5 387 452 [.ref 800000, .ref 500000, .ref 500001, .ref 500002, gi i, u5, u6] [] (gm T c J) Q := by
  refine gw_al1 at387_452 (gw_call1 at387_453 h1 (by omega) (Nat.le_of_ble_eq_true rfl) (fun o M1 q => ?_))
  obtain ⟨v, T1, c1, J1, rfl, rfl, hR⟩ := q
  obtain ⟨hr, e⟩ := h2 v T1 c1 J1 hR
  show gw _ _ _ _ _ (gi v :: _) _ _
  refine gw_al2 at387_456 (gw_call1 at387_457 e (by omega) (Nat.le_of_ble_eq_true rfl) (fun o M1 q2 => ?_))
  obtain ⟨z, T2, c2, J2, rfl, rfl, hE⟩ := q2
  show gw _ _ _ _ _ (gi v :: _) _ _
  exact gw_ceq at387_460 hr hr (fun _ => hend _ T2 c2 J2 _ _ hE hu hv) (fun q => absurd rfl q)
set_option maxHeartbeats 1000000 in
theorem lc_3 {d HW HM : Nat} {T : gT} {c J : gC} {i : Int} {E : gT → gC → gC → Prop} {Q : am_O → am_M → Prop} {R : Int → gT → gC → gC → Prop} {u5 u6 : Value} (hHW : HW + 1 ≤ d) (hHM : HM + 1 ≤ d) (hu : am_nl u5 = true) (hv : am_nl u6 = true) (h1 : gE 5 100 HW [.ref 500000] (gm T c J) (fun o M1 => ∃ v T1 c1 J1, o = .inl (some (gi v)) ∧ M1 = gm T1 c1 J1 ∧ R v T1 c1 J1)) (h2 : ∀ v T1 c1 J1, R v T1 c1 J1 → (-2147483648 ≤ v ∧ v < 2147483648) ∧ gE 5 317 HM [.ref 500001] (gm T1 c1 J1) (fun o M1 => ∃ z T2 c2 J2, o = .inl (some (gi v)) ∧ M1 = gm T2 c2 J2 ∧ ESP E z T2 c2 J2)) (hend : ∀ z T2 c2 J2 (k b : Value), ESP E z T2 c2 J2 → am_nl k = true → am_nl b = true → gw d 5 387 3366 [.ref 800000, .ref 500000, .ref 500001, .ref 500002, gi i, k, b] [] (gm T2 c2 J2) Q) : gw d 5 387 465 [.ref 800000, .ref 500000, .ref 500001, .ref 500002, gi i, u5, u6] [] (gm T c J) Q := by
  refine gw_al1 at387_465 (gw_call1 at387_466 h1 (by omega) (Nat.le_of_ble_eq_true rfl) (fun o M1 q => ?_))
  obtain ⟨v, T1, c1, J1, rfl, rfl, hR⟩ := q
  obtain ⟨hr, e⟩ := h2 v T1 c1 J1 hR
  show gw _ _ _ _ _ (gi v :: _) _ _
  refine gw_al2 at387_469 (gw_call1 at387_470 e (by omega) (Nat.le_of_ble_eq_true rfl) (fun o M1 q2 => ?_))
  obtain ⟨z, T2, c2, J2, rfl, rfl, hE⟩ := q2
  show gw _ _ _ _ _ (gi v :: _) _ _
  exact gw_ceq at387_473 hr hr (fun _ => hend _ T2 c2 J2 _ _ hE hu hv) (fun q => absurd rfl q)
set_option maxHeartbeats 1000000 in
theorem lc_4 {d HW HM : Nat} {T : gT} {c J : gC} {i : Int} {E : gT → gC → gC → Prop} {Q : am_O → am_M → Prop} {R : Int → gT → gC → gC → Prop} {u5 u6 : Value} (hHW : HW + 1 ≤ d) (hHM : HM + 1 ≤ d) (hu : am_nl u5 = true) (hv : am_nl u6 = true) (h1 : gE 5 101 HW [.ref 500000] (gm T c J) (fun o M1 => ∃ v T1 c1 J1, o = .inl (some (gi v)) ∧ M1 = gm T1 c1 J1 ∧ R v T1 c1 J1)) (h2 : ∀ v T1 c1 J1, R v T1 c1 J1 → (-2147483648 ≤ v ∧ v < 2147483648) ∧ gE 5 318 HM [.ref 500001] (gm T1 c1 J1) (fun o M1 => ∃ z T2 c2 J2, o = .inl (some (gi v)) ∧ M1 = gm T2 c2 J2 ∧ ESP E z T2 c2 J2)) (hend : ∀ z T2 c2 J2 (k b : Value), ESP E z T2 c2 J2 → am_nl k = true → am_nl b = true → gw d 5 387 3366 [.ref 800000, .ref 500000, .ref 500001, .ref 500002, gi i, k, b] [] (gm T2 c2 J2) Q) : gw d 5 387 478 [.ref 800000, .ref 500000, .ref 500001, .ref 500002, gi i, u5, u6] [] (gm T c J) Q := by
  refine gw_al1 at387_478 (gw_call1 at387_479 h1 (by omega) (Nat.le_of_ble_eq_true rfl) (fun o M1 q => ?_))
  obtain ⟨v, T1, c1, J1, rfl, rfl, hR⟩ := q
  obtain ⟨hr, e⟩ := h2 v T1 c1 J1 hR
  show gw _ _ _ _ _ (gi v :: _) _ _
  refine gw_al2 at387_482 (gw_call1 at387_483 e (by omega) (Nat.le_of_ble_eq_true rfl) (fun o M1 q2 => ?_))
  obtain ⟨z, T2, c2, J2, rfl, rfl, hE⟩ := q2
  show gw _ _ _ _ _ (gi v :: _) _ _
  exact gw_ceq at387_486 hr hr (fun _ => hend _ T2 c2 J2 _ _ hE hu hv) (fun q => absurd rfl q)
set_option maxHeartbeats 1000000 in
theorem lc_5 {d HW HM : Nat} {T : gT} {c J : gC} {i : Int} {E : gT → gC → gC → Prop} {Q : am_O → am_M → Prop} {R : Int → gT → gC → gC → Prop} {u5 u6 : Value} (hHW : HW + 1 ≤ d) (hHM : HM + 1 ≤ d) (hu : am_nl u5 = true) (hv : am_nl u6 = true) (h1 : gE 5 102 HW [.ref 500000] (gm T c J) (fun o M1 => ∃ v T1 c1 J1, o = .inl (some (gi v)) ∧ M1 = gm T1 c1 J1 ∧ R v T1 c1 J1)) (h2 : ∀ v T1 c1 J1, R v T1 c1 J1 → (-2147483648 ≤ v ∧ v < 2147483648) ∧ gE 5 207 HM [.ref 500001] (gm T1 c1 J1) (fun o M1 => ∃ z T2 c2 J2, o = .inl (some (gi v)) ∧ M1 = gm T2 c2 J2 ∧ ESP E z T2 c2 J2)) (hend : ∀ z T2 c2 J2 (k b : Value), ESP E z T2 c2 J2 → am_nl k = true → am_nl b = true → gw d 5 387 3366 [.ref 800000, .ref 500000, .ref 500001, .ref 500002, gi i, k, b] [] (gm T2 c2 J2) Q) : gw d 5 387 491 [.ref 800000, .ref 500000, .ref 500001, .ref 500002, gi i, u5, u6] [] (gm T c J) Q := by
  refine gw_al1 at387_491 (gw_call1 at387_492 h1 (by omega) (Nat.le_of_ble_eq_true rfl) (fun o M1 q => ?_))
  obtain ⟨v, T1, c1, J1, rfl, rfl, hR⟩ := q
  obtain ⟨hr, e⟩ := h2 v T1 c1 J1 hR
  show gw _ _ _ _ _ (gi v :: _) _ _
  refine gw_al2 at387_495 (gw_call1 at387_496 e (by omega) (Nat.le_of_ble_eq_true rfl) (fun o M1 q2 => ?_))
  obtain ⟨z, T2, c2, J2, rfl, rfl, hE⟩ := q2
  show gw _ _ _ _ _ (gi v :: _) _ _
  exact gw_ceq at387_499 hr hr (fun _ => hend _ T2 c2 J2 _ _ hE hu hv) (fun q => absurd rfl q)
set_option maxHeartbeats 1000000 in
theorem lc_6 {d HW HM : Nat} {T : gT} {c J : gC} {i : Int} {E : gT → gC → gC → Prop} {Q : am_O → am_M → Prop} {R : Int → gT → gC → gC → Prop} {u5 u6 : Value} (hHW : HW + 1 ≤ d) (hHM : HM + 1 ≤ d) (hu : am_nl u5 = true) (hv : am_nl u6 = true) (h1 : gE 5 103 HW [.ref 500000] (gm T c J) (fun o M1 => ∃ v T1 c1 J1, o = .inl (some (gi v)) ∧ M1 = gm T1 c1 J1 ∧ R v T1 c1 J1)) (h2 : ∀ v T1 c1 J1, R v T1 c1 J1 → (-2147483648 ≤ v ∧ v < 2147483648) ∧ gE 5 208 HM [.ref 500001] (gm T1 c1 J1) (fun o M1 => ∃ z T2 c2 J2, o = .inl (some (gi v)) ∧ M1 = gm T2 c2 J2 ∧ ESP E z T2 c2 J2)) (hend : ∀ z T2 c2 J2 (k b : Value), ESP E z T2 c2 J2 → am_nl k = true → am_nl b = true → gw d 5 387 3366 [.ref 800000, .ref 500000, .ref 500001, .ref 500002, gi i, k, b] [] (gm T2 c2 J2) Q) : gw d 5 387 504 [.ref 800000, .ref 500000, .ref 500001, .ref 500002, gi i, u5, u6] [] (gm T c J) Q := by
  refine gw_al1 at387_504 (gw_call1 at387_505 h1 (by omega) (Nat.le_of_ble_eq_true rfl) (fun o M1 q => ?_))
  obtain ⟨v, T1, c1, J1, rfl, rfl, hR⟩ := q
  obtain ⟨hr, e⟩ := h2 v T1 c1 J1 hR
  show gw _ _ _ _ _ (gi v :: _) _ _
  refine gw_al2 at387_508 (gw_call1 at387_509 e (by omega) (Nat.le_of_ble_eq_true rfl) (fun o M1 q2 => ?_))
  obtain ⟨z, T2, c2, J2, rfl, rfl, hE⟩ := q2
  show gw _ _ _ _ _ (gi v :: _) _ _
  exact gw_ceq at387_512 hr hr (fun _ => hend _ T2 c2 J2 _ _ hE hu hv) (fun q => absurd rfl q)
set_option maxHeartbeats 1000000 in
theorem lc_7 {d HW HM : Nat} {T : gT} {c J : gC} {L : Nat} {i : Int} {E : gT → gC → gC → Prop} {Q : am_O → am_M → Prop} {hm : Nat → Int} {R : (Int ⊕ Nat) → gT → gC → gC → Prop} {u5 u6 : Value} (hHW : HW + 1 ≤ d) (hHM : HM + 1 ≤ d) (hL : (T.1 800000).1 = 41 ∧ (T.1 800000).2.1 = L) (hL2 : L ≤ 3072) (hi : 0 ≤ i ∧ i + 6 ≤ (L : Int)) (hu : am_nl u5 = true) (hv : am_nl u6 = true) {p : Bool} (hp : p = decide (¬ c 800000 (i + 1) = 0)) (hs : -2147483648 ≤ c 800000 (i + 1) ∧ c 800000 (i + 1) < 2147483648) (h1 : gE 5 343 HW [.ref 500000, gi (bi p), .ref 500002] (gm T c J) (gW hm R)) (h2 : ∀ v T1 c1 J1, R (.inl v) T1 c1 J1 → SCP L c T1 c1 ∧ gE 5 319 HM [.ref 500001, gi (bi p)] (gm T1 c1 (gu J1 500002 0 v)) (fun o M1 => ∃ T2 c2 J2, o = .inl (some (gi v)) ∧ M1 = gm T2 c2 J2 ∧ ESP E 0 T2 c2 J2 ∧ J2 500002 0 = v ∧ -2147483648 ≤ v ∧ v < 2147483648)) (h3 : ∀ X T1 c1 J1, R (.inr X) T1 c1 J1 → (1 ≤ hm X ∧ hm X ≤ 3) ∧ SCP L c (gTe T1) (gz c1 (700000 + T1.2.1 7)) ∧ gE 5 319 HM [.ref 500001, gi (bi p)] (gm (gTe T1) (gz c1 (700000 + T1.2.1 7)) (gz J1 (700000 + T1.2.1 7))) (fun o M1 => ∃ b T2 c2 J2, o = .inl (some (gi b)) ∧ M1 = gm T2 c2 J2 ∧ ESP E (hm X) T2 c2 J2)) (hend : ∀ z T2 c2 J2 (k b : Value), ESP E z T2 c2 J2 → am_nl k = true → am_nl b = true → gw d 5 387 3366 [.ref 800000, .ref 500000, .ref 500001, .ref 500002, gi i, k, b] [] (gm T2 c2 J2) Q) : gw d 5 387 517 [.ref 800000, .ref 500000, .ref 500001, .ref 500002, gi i, u5, u6] [] (gm T c J) Q := by
  refine gw_al1 at387_517 (gw_al0 at387_518 (gw_il4 at387_519 (gw_const at387_521 (gw_iadd at387_522 (gw_ia at387_523 (Or.inr hL.1) hL.2 (by omega) (by omega) (by omega) (?_))))))
  refine gw_bsel at387_524 at387_527 at387_528 at387_531 hs hp ?_
  refine gw_al3 at387_532 (?_)
  refine gw_call3 at387_533 h1 (by omega) (Nat.le_of_ble_eq_true rfl) (fun o M1 q => ?_)
  obtain ⟨T1, c1, J1, ⟨v, hR, rfl, rfl⟩ | ⟨X, hR, rfl, rfl⟩⟩ := q
  · obtain ⟨s, e⟩ := h2 v T1 c1 J1 hR
    show gw _ _ _ _ _ (gi 0 :: _) _ _
    refine gw_is5 at387_536 (h := ?_)
    refine gw_al2 at387_538 (gw_al0 at387_539 (gw_il4 at387_540 (gw_const at387_542 (gw_iadd at387_543 (gw_ia at387_544 (Or.inr s.1.1) s.1.2 (by omega) (by omega) (by omega) (?_))))))
    rw [s.2]
    refine gw_bsel at387_545 at387_548 at387_549 at387_552 hs hp ?_
    refine gw_call2 at387_553 e (by omega) (Nat.le_of_ble_eq_true rfl) (fun o M1 q2 => ?_)
    obtain ⟨T2, c2, J2, rfl, rfl, hE, hv2, hvr⟩ := q2
    have hE0 := hE
    obtain ⟨⟨g1, g2⟩, g3, g4, -⟩ := hE
    show gw _ _ _ _ _ (gi v :: _) _ _
    refine gw_is6 at387_556 (h := ?_)
    refine gw_al2 at387_558 (gw_callP1 at387_559 (m_thrown g1 g2) (by omega) (Nat.le_of_ble_eq_true rfl) ?_)
    rw [g3]
    refine gw_il5 at387_562 (gw_ceq at387_564 (by decide) (by decide) (fun _ => ?_) (fun q => absurd rfl q))
    refine gw_il5 at387_569 (gw_zne at387_571 (by decide) (fun q => absurd rfl q) (fun _ => ?_))
    refine gw_al3 at387_574 (gw_const at387_575 (gw_la at387_576 g4.1 g4.2 (by decide) (by decide) (by decide) ?_))
    rw [hv2]
    refine gw_il6 at387_577 (gw_i2l at387_579 hvr (gw_lceq at387_580 at387_581 (by omega) (by omega) (fun _ => ?_) (fun q => absurd rfl q)))
    exact gw_goto at387_586 (hend _ T2 c2 J2 _ _ hE0 rfl rfl)
  · obtain ⟨hk, s, e⟩ := h3 X T1 c1 J1 hR
    show gw _ _ _ _ _ (gi (hm X) :: _) _ _
    refine gw_is5 at387_536 (h := ?_)
    refine gw_al2 at387_538 (gw_al0 at387_539 (gw_il4 at387_540 (gw_const at387_542 (gw_iadd at387_543 (gw_ia at387_544 (Or.inr s.1.1) s.1.2 (by omega) (by omega) (by omega) (?_))))))
    rw [s.2]
    refine gw_bsel at387_545 at387_548 at387_549 at387_552 hs hp ?_
    refine gw_call2 at387_553 e (by omega) (Nat.le_of_ble_eq_true rfl) (fun o M1 q2 => ?_)
    obtain ⟨b, T2, c2, J2, rfl, rfl, hE⟩ := q2
    have hE0 := hE
    obtain ⟨⟨g1, g2⟩, g3, g4, -⟩ := hE
    show gw _ _ _ _ _ (gi b :: _) _ _
    refine gw_is6 at387_556 (h := ?_)
    refine gw_al2 at387_558 (gw_callP1 at387_559 (m_thrown g1 g2) (by omega) (Nat.le_of_ble_eq_true rfl) ?_)
    rw [g3]
    refine gw_il5 at387_562 (gw_ceq at387_564 (by omega) (by omega) (fun _ => ?_) (fun q => absurd rfl q))
    refine gw_il5 at387_569 (gw_zne at387_571 (by omega) (fun _ => ?_) (fun q => absurd q (by omega)))
    exact gw_goto at387_586 (hend _ T2 c2 J2 _ _ hE0 rfl rfl)
set_option maxHeartbeats 1000000 in
theorem lc_8 {d HW HM : Nat} {T : gT} {c J : gC} {i : Int} {E : gT → gC → gC → Prop} {Q : am_O → am_M → Prop} {R : Int → gT → gC → gC → Prop} {u5 u6 : Value} (hHW : HW + 1 ≤ d) (hHM : HM + 1 ≤ d) (hu : am_nl u5 = true) (hv : am_nl u6 = true) (h1 : gE 5 105 HW [.ref 500000] (gm T c J) (fun o M1 => ∃ v T1 c1 J1, o = .inl (some (gi v)) ∧ M1 = gm T1 c1 J1 ∧ R v T1 c1 J1)) (h2 : ∀ v T1 c1 J1, R v T1 c1 J1 → (-2147483648 ≤ v ∧ v < 2147483648) ∧ gE 5 210 HM [.ref 500001] (gm T1 c1 J1) (fun o M1 => ∃ z T2 c2 J2, o = .inl (some (gi v)) ∧ M1 = gm T2 c2 J2 ∧ ESP E z T2 c2 J2)) (hend : ∀ z T2 c2 J2 (k b : Value), ESP E z T2 c2 J2 → am_nl k = true → am_nl b = true → gw d 5 387 3366 [.ref 800000, .ref 500000, .ref 500001, .ref 500002, gi i, k, b] [] (gm T2 c2 J2) Q) : gw d 5 387 589 [.ref 800000, .ref 500000, .ref 500001, .ref 500002, gi i, u5, u6] [] (gm T c J) Q := by
  refine gw_al1 at387_589 (gw_call1 at387_590 h1 (by omega) (Nat.le_of_ble_eq_true rfl) (fun o M1 q => ?_))
  obtain ⟨v, T1, c1, J1, rfl, rfl, hR⟩ := q
  obtain ⟨hr, e⟩ := h2 v T1 c1 J1 hR
  show gw _ _ _ _ _ (gi v :: _) _ _
  refine gw_al2 at387_593 (gw_call1 at387_594 e (by omega) (Nat.le_of_ble_eq_true rfl) (fun o M1 q2 => ?_))
  obtain ⟨z, T2, c2, J2, rfl, rfl, hE⟩ := q2
  show gw _ _ _ _ _ (gi v :: _) _ _
  exact gw_ceq at387_597 hr hr (fun _ => hend _ T2 c2 J2 _ _ hE hu hv) (fun q => absurd rfl q)
set_option maxHeartbeats 1000000 in
theorem lc_9 {d HW HM : Nat} {T : gT} {c J : gC} {L : Nat} {i : Int} {E : gT → gC → gC → Prop} {Q : am_O → am_M → Prop} {hm : Nat → Int} {R : (Int ⊕ Nat) → gT → gC → gC → Prop} {u5 u6 : Value} (hHW : HW + 1 ≤ d) (hHM : HM + 1 ≤ d) (hL : (T.1 800000).1 = 41 ∧ (T.1 800000).2.1 = L) (hL2 : L ≤ 3072) (hi : 0 ≤ i ∧ i + 6 ≤ (L : Int)) (hu : am_nl u5 = true) (hv : am_nl u6 = true) (h1 : gE 5 344 HW [.ref 500000, gi (c 800000 (i + 1)), .ref 500002] (gm T c J) (gW hm R)) (h2 : ∀ v T1 c1 J1, R (.inl v) T1 c1 J1 → SCP L c T1 c1 ∧ gE 5 211 HM [.ref 500001, gi (c 800000 (i + 1))] (gm T1 c1 (gu J1 500002 0 v)) (fun o M1 => ∃ T2 c2 J2, o = .inl (some (gi v)) ∧ M1 = gm T2 c2 J2 ∧ ESP E 0 T2 c2 J2 ∧ J2 500002 0 = v ∧ -2147483648 ≤ v ∧ v < 2147483648)) (h3 : ∀ X T1 c1 J1, R (.inr X) T1 c1 J1 → (1 ≤ hm X ∧ hm X ≤ 3) ∧ SCP L c (gTe T1) (gz c1 (700000 + T1.2.1 7)) ∧ gE 5 211 HM [.ref 500001, gi (c 800000 (i + 1))] (gm (gTe T1) (gz c1 (700000 + T1.2.1 7)) (gz J1 (700000 + T1.2.1 7))) (fun o M1 => ∃ b T2 c2 J2, o = .inl (some (gi b)) ∧ M1 = gm T2 c2 J2 ∧ ESP E (hm X) T2 c2 J2)) (hend : ∀ z T2 c2 J2 (k b : Value), ESP E z T2 c2 J2 → am_nl k = true → am_nl b = true → gw d 5 387 3366 [.ref 800000, .ref 500000, .ref 500001, .ref 500002, gi i, k, b] [] (gm T2 c2 J2) Q) : gw d 5 387 602 [.ref 800000, .ref 500000, .ref 500001, .ref 500002, gi i, u5, u6] [] (gm T c J) Q := by
  refine gw_al1 at387_602 (gw_al0 at387_603 (gw_il4 at387_604 (gw_const at387_606 (gw_iadd at387_607 (gw_ia at387_608 (Or.inr hL.1) hL.2 (by omega) (by omega) (by omega) (gw_al3 at387_609 (?_)))))))
  refine gw_call3 at387_610 h1 (by omega) (Nat.le_of_ble_eq_true rfl) (fun o M1 q => ?_)
  obtain ⟨T1, c1, J1, ⟨v, hR, rfl, rfl⟩ | ⟨X, hR, rfl, rfl⟩⟩ := q
  · obtain ⟨s, e⟩ := h2 v T1 c1 J1 hR
    show gw _ _ _ _ _ (gi 0 :: _) _ _
    refine gw_is5 at387_613 (h := ?_)
    refine gw_al2 at387_615 (gw_al0 at387_616 (gw_il4 at387_617 (gw_const at387_619 (gw_iadd at387_620 (gw_ia at387_621 (Or.inr s.1.1) s.1.2 (by omega) (by omega) (by omega) (?_))))))
    rw [s.2]
    refine gw_call2 at387_622 e (by omega) (Nat.le_of_ble_eq_true rfl) (fun o M1 q2 => ?_)
    obtain ⟨T2, c2, J2, rfl, rfl, hE, hv2, hvr⟩ := q2
    have hE0 := hE
    obtain ⟨⟨g1, g2⟩, g3, g4, -⟩ := hE
    show gw _ _ _ _ _ (gi v :: _) _ _
    refine gw_is6 at387_625 (h := ?_)
    refine gw_al2 at387_627 (gw_callP1 at387_628 (m_thrown g1 g2) (by omega) (Nat.le_of_ble_eq_true rfl) ?_)
    rw [g3]
    refine gw_il5 at387_631 (gw_ceq at387_633 (by decide) (by decide) (fun _ => ?_) (fun q => absurd rfl q))
    refine gw_il5 at387_638 (gw_zne at387_640 (by decide) (fun q => absurd rfl q) (fun _ => ?_))
    refine gw_al3 at387_643 (gw_const at387_644 (gw_la at387_645 g4.1 g4.2 (by decide) (by decide) (by decide) ?_))
    rw [hv2]
    refine gw_il6 at387_646 (gw_i2l at387_648 hvr (gw_lceq at387_649 at387_650 (by omega) (by omega) (fun _ => ?_) (fun q => absurd rfl q)))
    exact gw_goto at387_655 (hend _ T2 c2 J2 _ _ hE0 rfl rfl)
  · obtain ⟨hk, s, e⟩ := h3 X T1 c1 J1 hR
    show gw _ _ _ _ _ (gi (hm X) :: _) _ _
    refine gw_is5 at387_613 (h := ?_)
    refine gw_al2 at387_615 (gw_al0 at387_616 (gw_il4 at387_617 (gw_const at387_619 (gw_iadd at387_620 (gw_ia at387_621 (Or.inr s.1.1) s.1.2 (by omega) (by omega) (by omega) (?_))))))
    rw [s.2]
    refine gw_call2 at387_622 e (by omega) (Nat.le_of_ble_eq_true rfl) (fun o M1 q2 => ?_)
    obtain ⟨b, T2, c2, J2, rfl, rfl, hE⟩ := q2
    have hE0 := hE
    obtain ⟨⟨g1, g2⟩, g3, g4, -⟩ := hE
    show gw _ _ _ _ _ (gi b :: _) _ _
    refine gw_is6 at387_625 (h := ?_)
    refine gw_al2 at387_627 (gw_callP1 at387_628 (m_thrown g1 g2) (by omega) (Nat.le_of_ble_eq_true rfl) ?_)
    rw [g3]
    refine gw_il5 at387_631 (gw_ceq at387_633 (by omega) (by omega) (fun _ => ?_) (fun q => absurd rfl q))
    refine gw_il5 at387_638 (gw_zne at387_640 (by omega) (fun _ => ?_) (fun q => absurd q (by omega)))
    exact gw_goto at387_655 (hend _ T2 c2 J2 _ _ hE0 rfl rfl)
set_option maxHeartbeats 1000000 in
theorem lc_10 {d HW HM : Nat} {T : gT} {c J : gC} {L : Nat} {i : Int} {E : gT → gC → gC → Prop} {Q : am_O → am_M → Prop} {hm : Nat → Int} {R : (Int ⊕ Nat) → gT → gC → gC → Prop} {u5 u6 : Value} (hHW : HW + 1 ≤ d) (hHM : HM + 1 ≤ d) (hL : (T.1 800000).1 = 41 ∧ (T.1 800000).2.1 = L) (hL2 : L ≤ 3072) (hi : 0 ≤ i ∧ i + 6 ≤ (L : Int)) (hu : am_nl u5 = true) (hv : am_nl u6 = true) (h1 : gE 5 345 HW [.ref 500000, gi (c 800000 (i + 1)), .ref 500002] (gm T c J) (gW hm R)) (h2 : ∀ v T1 c1 J1, R (.inl v) T1 c1 J1 → SCP L c T1 c1 ∧ gE 5 212 HM [.ref 500001, gi (c 800000 (i + 1))] (gm T1 c1 (gu J1 500002 0 v)) (fun o M1 => ∃ T2 c2 J2, o = .inl (some (gi v)) ∧ M1 = gm T2 c2 J2 ∧ ESP E 0 T2 c2 J2 ∧ J2 500002 0 = v ∧ -2147483648 ≤ v ∧ v < 2147483648)) (h3 : ∀ X T1 c1 J1, R (.inr X) T1 c1 J1 → (1 ≤ hm X ∧ hm X ≤ 3) ∧ SCP L c (gTe T1) (gz c1 (700000 + T1.2.1 7)) ∧ gE 5 212 HM [.ref 500001, gi (c 800000 (i + 1))] (gm (gTe T1) (gz c1 (700000 + T1.2.1 7)) (gz J1 (700000 + T1.2.1 7))) (fun o M1 => ∃ b T2 c2 J2, o = .inl (some (gi b)) ∧ M1 = gm T2 c2 J2 ∧ ESP E (hm X) T2 c2 J2)) (hend : ∀ z T2 c2 J2 (k b : Value), ESP E z T2 c2 J2 → am_nl k = true → am_nl b = true → gw d 5 387 3366 [.ref 800000, .ref 500000, .ref 500001, .ref 500002, gi i, k, b] [] (gm T2 c2 J2) Q) : gw d 5 387 658 [.ref 800000, .ref 500000, .ref 500001, .ref 500002, gi i, u5, u6] [] (gm T c J) Q := by
  refine gw_al1 at387_658 (gw_al0 at387_659 (gw_il4 at387_660 (gw_const at387_662 (gw_iadd at387_663 (gw_ia at387_664 (Or.inr hL.1) hL.2 (by omega) (by omega) (by omega) (gw_al3 at387_665 (?_)))))))
  refine gw_call3 at387_666 h1 (by omega) (Nat.le_of_ble_eq_true rfl) (fun o M1 q => ?_)
  obtain ⟨T1, c1, J1, ⟨v, hR, rfl, rfl⟩ | ⟨X, hR, rfl, rfl⟩⟩ := q
  · obtain ⟨s, e⟩ := h2 v T1 c1 J1 hR
    show gw _ _ _ _ _ (gi 0 :: _) _ _
    refine gw_is5 at387_669 (h := ?_)
    refine gw_al2 at387_671 (gw_al0 at387_672 (gw_il4 at387_673 (gw_const at387_675 (gw_iadd at387_676 (gw_ia at387_677 (Or.inr s.1.1) s.1.2 (by omega) (by omega) (by omega) (?_))))))
    rw [s.2]
    refine gw_call2 at387_678 e (by omega) (Nat.le_of_ble_eq_true rfl) (fun o M1 q2 => ?_)
    obtain ⟨T2, c2, J2, rfl, rfl, hE, hv2, hvr⟩ := q2
    have hE0 := hE
    obtain ⟨⟨g1, g2⟩, g3, g4, -⟩ := hE
    show gw _ _ _ _ _ (gi v :: _) _ _
    refine gw_is6 at387_681 (h := ?_)
    refine gw_al2 at387_683 (gw_callP1 at387_684 (m_thrown g1 g2) (by omega) (Nat.le_of_ble_eq_true rfl) ?_)
    rw [g3]
    refine gw_il5 at387_687 (gw_ceq at387_689 (by decide) (by decide) (fun _ => ?_) (fun q => absurd rfl q))
    refine gw_il5 at387_694 (gw_zne at387_696 (by decide) (fun q => absurd rfl q) (fun _ => ?_))
    refine gw_al3 at387_699 (gw_const at387_700 (gw_la at387_701 g4.1 g4.2 (by decide) (by decide) (by decide) ?_))
    rw [hv2]
    refine gw_il6 at387_702 (gw_i2l at387_704 hvr (gw_lceq at387_705 at387_706 (by omega) (by omega) (fun _ => ?_) (fun q => absurd rfl q)))
    exact gw_goto at387_711 (hend _ T2 c2 J2 _ _ hE0 rfl rfl)
  · obtain ⟨hk, s, e⟩ := h3 X T1 c1 J1 hR
    show gw _ _ _ _ _ (gi (hm X) :: _) _ _
    refine gw_is5 at387_669 (h := ?_)
    refine gw_al2 at387_671 (gw_al0 at387_672 (gw_il4 at387_673 (gw_const at387_675 (gw_iadd at387_676 (gw_ia at387_677 (Or.inr s.1.1) s.1.2 (by omega) (by omega) (by omega) (?_))))))
    rw [s.2]
    refine gw_call2 at387_678 e (by omega) (Nat.le_of_ble_eq_true rfl) (fun o M1 q2 => ?_)
    obtain ⟨b, T2, c2, J2, rfl, rfl, hE⟩ := q2
    have hE0 := hE
    obtain ⟨⟨g1, g2⟩, g3, g4, -⟩ := hE
    show gw _ _ _ _ _ (gi b :: _) _ _
    refine gw_is6 at387_681 (h := ?_)
    refine gw_al2 at387_683 (gw_callP1 at387_684 (m_thrown g1 g2) (by omega) (Nat.le_of_ble_eq_true rfl) ?_)
    rw [g3]
    refine gw_il5 at387_687 (gw_ceq at387_689 (by omega) (by omega) (fun _ => ?_) (fun q => absurd rfl q))
    refine gw_il5 at387_694 (gw_zne at387_696 (by omega) (fun _ => ?_) (fun q => absurd q (by omega)))
    exact gw_goto at387_711 (hend _ T2 c2 J2 _ _ hE0 rfl rfl)
set_option maxHeartbeats 1000000 in
theorem lc_11 {d HW HM : Nat} {T : gT} {c J : gC} {L : Nat} {i : Int} {E : gT → gC → gC → Prop} {Q : am_O → am_M → Prop} {hm : Nat → Int} {R : (Int ⊕ Nat) → gT → gC → gC → Prop} {u5 u6 : Value} (hHW : HW + 1 ≤ d) (hHM : HM + 1 ≤ d) (hL : (T.1 800000).1 = 41 ∧ (T.1 800000).2.1 = L) (hL2 : L ≤ 3072) (hi : 0 ≤ i ∧ i + 6 ≤ (L : Int)) (hu : am_nl u5 = true) (hv : am_nl u6 = true) (h1 : gE 5 346 HW [.ref 500000, gi (c 800000 (i + 1)), .ref 500002] (gm T c J) (gW hm R)) (h2 : ∀ v T1 c1 J1, R (.inl v) T1 c1 J1 → SCP L c T1 c1 ∧ gE 5 213 HM [.ref 500001, gi (c 800000 (i + 1))] (gm T1 c1 (gu J1 500002 0 v)) (fun o M1 => ∃ T2 c2 J2, o = .inl (some (gi v)) ∧ M1 = gm T2 c2 J2 ∧ ESP E 0 T2 c2 J2 ∧ J2 500002 0 = v ∧ -2147483648 ≤ v ∧ v < 2147483648)) (h3 : ∀ X T1 c1 J1, R (.inr X) T1 c1 J1 → (1 ≤ hm X ∧ hm X ≤ 3) ∧ SCP L c (gTe T1) (gz c1 (700000 + T1.2.1 7)) ∧ gE 5 213 HM [.ref 500001, gi (c 800000 (i + 1))] (gm (gTe T1) (gz c1 (700000 + T1.2.1 7)) (gz J1 (700000 + T1.2.1 7))) (fun o M1 => ∃ b T2 c2 J2, o = .inl (some (gi b)) ∧ M1 = gm T2 c2 J2 ∧ ESP E (hm X) T2 c2 J2)) (hend : ∀ z T2 c2 J2 (k b : Value), ESP E z T2 c2 J2 → am_nl k = true → am_nl b = true → gw d 5 387 3366 [.ref 800000, .ref 500000, .ref 500001, .ref 500002, gi i, k, b] [] (gm T2 c2 J2) Q) : gw d 5 387 714 [.ref 800000, .ref 500000, .ref 500001, .ref 500002, gi i, u5, u6] [] (gm T c J) Q := by
  refine gw_al1 at387_714 (gw_al0 at387_715 (gw_il4 at387_716 (gw_const at387_718 (gw_iadd at387_719 (gw_ia at387_720 (Or.inr hL.1) hL.2 (by omega) (by omega) (by omega) (gw_al3 at387_721 (?_)))))))
  refine gw_call3 at387_722 h1 (by omega) (Nat.le_of_ble_eq_true rfl) (fun o M1 q => ?_)
  obtain ⟨T1, c1, J1, ⟨v, hR, rfl, rfl⟩ | ⟨X, hR, rfl, rfl⟩⟩ := q
  · obtain ⟨s, e⟩ := h2 v T1 c1 J1 hR
    show gw _ _ _ _ _ (gi 0 :: _) _ _
    refine gw_is5 at387_725 (h := ?_)
    refine gw_al2 at387_727 (gw_al0 at387_728 (gw_il4 at387_729 (gw_const at387_731 (gw_iadd at387_732 (gw_ia at387_733 (Or.inr s.1.1) s.1.2 (by omega) (by omega) (by omega) (?_))))))
    rw [s.2]
    refine gw_call2 at387_734 e (by omega) (Nat.le_of_ble_eq_true rfl) (fun o M1 q2 => ?_)
    obtain ⟨T2, c2, J2, rfl, rfl, hE, hv2, hvr⟩ := q2
    have hE0 := hE
    obtain ⟨⟨g1, g2⟩, g3, g4, -⟩ := hE
    show gw _ _ _ _ _ (gi v :: _) _ _
    refine gw_is6 at387_737 (h := ?_)
    refine gw_al2 at387_739 (gw_callP1 at387_740 (m_thrown g1 g2) (by omega) (Nat.le_of_ble_eq_true rfl) ?_)
    rw [g3]
    refine gw_il5 at387_743 (gw_ceq at387_745 (by decide) (by decide) (fun _ => ?_) (fun q => absurd rfl q))
    refine gw_il5 at387_750 (gw_zne at387_752 (by decide) (fun q => absurd rfl q) (fun _ => ?_))
    refine gw_al3 at387_755 (gw_const at387_756 (gw_la at387_757 g4.1 g4.2 (by decide) (by decide) (by decide) ?_))
    rw [hv2]
    refine gw_il6 at387_758 (gw_i2l at387_760 hvr (gw_lceq at387_761 at387_762 (by omega) (by omega) (fun _ => ?_) (fun q => absurd rfl q)))
    exact gw_goto at387_767 (hend _ T2 c2 J2 _ _ hE0 rfl rfl)
  · obtain ⟨hk, s, e⟩ := h3 X T1 c1 J1 hR
    show gw _ _ _ _ _ (gi (hm X) :: _) _ _
    refine gw_is5 at387_725 (h := ?_)
    refine gw_al2 at387_727 (gw_al0 at387_728 (gw_il4 at387_729 (gw_const at387_731 (gw_iadd at387_732 (gw_ia at387_733 (Or.inr s.1.1) s.1.2 (by omega) (by omega) (by omega) (?_))))))
    rw [s.2]
    refine gw_call2 at387_734 e (by omega) (Nat.le_of_ble_eq_true rfl) (fun o M1 q2 => ?_)
    obtain ⟨b, T2, c2, J2, rfl, rfl, hE⟩ := q2
    have hE0 := hE
    obtain ⟨⟨g1, g2⟩, g3, g4, -⟩ := hE
    show gw _ _ _ _ _ (gi b :: _) _ _
    refine gw_is6 at387_737 (h := ?_)
    refine gw_al2 at387_739 (gw_callP1 at387_740 (m_thrown g1 g2) (by omega) (Nat.le_of_ble_eq_true rfl) ?_)
    rw [g3]
    refine gw_il5 at387_743 (gw_ceq at387_745 (by omega) (by omega) (fun _ => ?_) (fun q => absurd rfl q))
    refine gw_il5 at387_750 (gw_zne at387_752 (by omega) (fun _ => ?_) (fun q => absurd q (by omega)))
    exact gw_goto at387_767 (hend _ T2 c2 J2 _ _ hE0 rfl rfl)
set_option maxHeartbeats 1000000 in
theorem lc_12 {d HW HM : Nat} {T : gT} {c J : gC} {L : Nat} {i : Int} {E : gT → gC → gC → Prop} {Q : am_O → am_M → Prop} {hm : Nat → Int} {R : (Int ⊕ Nat) → gT → gC → gC → Prop} {u5 u6 : Value} (hHW : HW + 1 ≤ d) (hHM : HM + 1 ≤ d) (hL : (T.1 800000).1 = 41 ∧ (T.1 800000).2.1 = L) (hL2 : L ≤ 3072) (hi : 0 ≤ i ∧ i + 6 ≤ (L : Int)) (hu : am_nl u5 = true) (hv : am_nl u6 = true) (h1 : gE 5 347 HW [.ref 500000, gi (c 800000 (i + 1)), .ref 500002] (gm T c J) (gW hm R)) (h2 : ∀ v T1 c1 J1, R (.inl v) T1 c1 J1 → SCP L c T1 c1 ∧ gE 5 214 HM [.ref 500001, gi (c 800000 (i + 1))] (gm T1 c1 (gu J1 500002 0 v)) (fun o M1 => ∃ T2 c2 J2, o = .inl (some (gi v)) ∧ M1 = gm T2 c2 J2 ∧ ESP E 0 T2 c2 J2 ∧ J2 500002 0 = v ∧ -2147483648 ≤ v ∧ v < 2147483648)) (h3 : ∀ X T1 c1 J1, R (.inr X) T1 c1 J1 → (1 ≤ hm X ∧ hm X ≤ 3) ∧ SCP L c (gTe T1) (gz c1 (700000 + T1.2.1 7)) ∧ gE 5 214 HM [.ref 500001, gi (c 800000 (i + 1))] (gm (gTe T1) (gz c1 (700000 + T1.2.1 7)) (gz J1 (700000 + T1.2.1 7))) (fun o M1 => ∃ b T2 c2 J2, o = .inl (some (gi b)) ∧ M1 = gm T2 c2 J2 ∧ ESP E (hm X) T2 c2 J2)) (hend : ∀ z T2 c2 J2 (k b : Value), ESP E z T2 c2 J2 → am_nl k = true → am_nl b = true → gw d 5 387 3366 [.ref 800000, .ref 500000, .ref 500001, .ref 500002, gi i, k, b] [] (gm T2 c2 J2) Q) : gw d 5 387 770 [.ref 800000, .ref 500000, .ref 500001, .ref 500002, gi i, u5, u6] [] (gm T c J) Q := by
  refine gw_al1 at387_770 (gw_al0 at387_771 (gw_il4 at387_772 (gw_const at387_774 (gw_iadd at387_775 (gw_ia at387_776 (Or.inr hL.1) hL.2 (by omega) (by omega) (by omega) (gw_al3 at387_777 (?_)))))))
  refine gw_call3 at387_778 h1 (by omega) (Nat.le_of_ble_eq_true rfl) (fun o M1 q => ?_)
  obtain ⟨T1, c1, J1, ⟨v, hR, rfl, rfl⟩ | ⟨X, hR, rfl, rfl⟩⟩ := q
  · obtain ⟨s, e⟩ := h2 v T1 c1 J1 hR
    show gw _ _ _ _ _ (gi 0 :: _) _ _
    refine gw_is5 at387_781 (h := ?_)
    refine gw_al2 at387_783 (gw_al0 at387_784 (gw_il4 at387_785 (gw_const at387_787 (gw_iadd at387_788 (gw_ia at387_789 (Or.inr s.1.1) s.1.2 (by omega) (by omega) (by omega) (?_))))))
    rw [s.2]
    refine gw_call2 at387_790 e (by omega) (Nat.le_of_ble_eq_true rfl) (fun o M1 q2 => ?_)
    obtain ⟨T2, c2, J2, rfl, rfl, hE, hv2, hvr⟩ := q2
    have hE0 := hE
    obtain ⟨⟨g1, g2⟩, g3, g4, -⟩ := hE
    show gw _ _ _ _ _ (gi v :: _) _ _
    refine gw_is6 at387_793 (h := ?_)
    refine gw_al2 at387_795 (gw_callP1 at387_796 (m_thrown g1 g2) (by omega) (Nat.le_of_ble_eq_true rfl) ?_)
    rw [g3]
    refine gw_il5 at387_799 (gw_ceq at387_801 (by decide) (by decide) (fun _ => ?_) (fun q => absurd rfl q))
    refine gw_il5 at387_806 (gw_zne at387_808 (by decide) (fun q => absurd rfl q) (fun _ => ?_))
    refine gw_al3 at387_811 (gw_const at387_812 (gw_la at387_813 g4.1 g4.2 (by decide) (by decide) (by decide) ?_))
    rw [hv2]
    refine gw_il6 at387_814 (gw_i2l at387_816 hvr (gw_lceq at387_817 at387_818 (by omega) (by omega) (fun _ => ?_) (fun q => absurd rfl q)))
    exact gw_goto at387_823 (hend _ T2 c2 J2 _ _ hE0 rfl rfl)
  · obtain ⟨hk, s, e⟩ := h3 X T1 c1 J1 hR
    show gw _ _ _ _ _ (gi (hm X) :: _) _ _
    refine gw_is5 at387_781 (h := ?_)
    refine gw_al2 at387_783 (gw_al0 at387_784 (gw_il4 at387_785 (gw_const at387_787 (gw_iadd at387_788 (gw_ia at387_789 (Or.inr s.1.1) s.1.2 (by omega) (by omega) (by omega) (?_))))))
    rw [s.2]
    refine gw_call2 at387_790 e (by omega) (Nat.le_of_ble_eq_true rfl) (fun o M1 q2 => ?_)
    obtain ⟨b, T2, c2, J2, rfl, rfl, hE⟩ := q2
    have hE0 := hE
    obtain ⟨⟨g1, g2⟩, g3, g4, -⟩ := hE
    show gw _ _ _ _ _ (gi b :: _) _ _
    refine gw_is6 at387_793 (h := ?_)
    refine gw_al2 at387_795 (gw_callP1 at387_796 (m_thrown g1 g2) (by omega) (Nat.le_of_ble_eq_true rfl) ?_)
    rw [g3]
    refine gw_il5 at387_799 (gw_ceq at387_801 (by omega) (by omega) (fun _ => ?_) (fun q => absurd rfl q))
    refine gw_il5 at387_806 (gw_zne at387_808 (by omega) (fun _ => ?_) (fun q => absurd q (by omega)))
    exact gw_goto at387_823 (hend _ T2 c2 J2 _ _ hE0 rfl rfl)
set_option maxHeartbeats 1000000 in
theorem lc_13 {d HW HM : Nat} {T : gT} {c J : gC} {L : Nat} {i : Int} {E : gT → gC → gC → Prop} {Q : am_O → am_M → Prop} {hm : Nat → Int} {R : (Int ⊕ Nat) → gT → gC → gC → Prop} {u5 u6 : Value} (hHW : HW + 1 ≤ d) (hHM : HM + 1 ≤ d) (hL : (T.1 800000).1 = 41 ∧ (T.1 800000).2.1 = L) (hL2 : L ≤ 3072) (hi : 0 ≤ i ∧ i + 6 ≤ (L : Int)) (hu : am_nl u5 = true) (hv : am_nl u6 = true) (h1 : gE 5 348 HW [.ref 500000, gi (c 800000 (i + 1)), gi (c 800000 (i + 2)), .ref 500002] (gm T c J) (gW hm R)) (h2 : ∀ v T1 c1 J1, R (.inl v) T1 c1 J1 → SCP L c T1 c1 ∧ gE 5 215 HM [.ref 500001, gi (c 800000 (i + 1)), gi (c 800000 (i + 2))] (gm T1 c1 (gu J1 500002 0 v)) (fun o M1 => ∃ T2 c2 J2, o = .inl (some (gi v)) ∧ M1 = gm T2 c2 J2 ∧ ESP E 0 T2 c2 J2 ∧ J2 500002 0 = v ∧ -2147483648 ≤ v ∧ v < 2147483648)) (h3 : ∀ X T1 c1 J1, R (.inr X) T1 c1 J1 → (1 ≤ hm X ∧ hm X ≤ 3) ∧ SCP L c (gTe T1) (gz c1 (700000 + T1.2.1 7)) ∧ gE 5 215 HM [.ref 500001, gi (c 800000 (i + 1)), gi (c 800000 (i + 2))] (gm (gTe T1) (gz c1 (700000 + T1.2.1 7)) (gz J1 (700000 + T1.2.1 7))) (fun o M1 => ∃ b T2 c2 J2, o = .inl (some (gi b)) ∧ M1 = gm T2 c2 J2 ∧ ESP E (hm X) T2 c2 J2)) (hend : ∀ z T2 c2 J2 (k b : Value), ESP E z T2 c2 J2 → am_nl k = true → am_nl b = true → gw d 5 387 3366 [.ref 800000, .ref 500000, .ref 500001, .ref 500002, gi i, k, b] [] (gm T2 c2 J2) Q) : gw d 5 387 826 [.ref 800000, .ref 500000, .ref 500001, .ref 500002, gi i, u5, u6] [] (gm T c J) Q := by
  refine gw_al1 at387_826 (gw_al0 at387_827 (gw_il4 at387_828 (gw_const at387_830 (gw_iadd at387_831 (gw_ia at387_832 (Or.inr hL.1) hL.2 (by omega) (by omega) (by omega) (gw_al0 at387_833 (gw_il4 at387_834 (gw_const at387_836 (gw_iadd at387_837 (gw_ia at387_838 (Or.inr hL.1) hL.2 (by omega) (by omega) (by omega) (gw_al3 at387_839 (?_))))))))))))
  refine gw_call4 at387_840 h1 (by omega) (Nat.le_of_ble_eq_true rfl) (fun o M1 q => ?_)
  obtain ⟨T1, c1, J1, ⟨v, hR, rfl, rfl⟩ | ⟨X, hR, rfl, rfl⟩⟩ := q
  · obtain ⟨s, e⟩ := h2 v T1 c1 J1 hR
    show gw _ _ _ _ _ (gi 0 :: _) _ _
    refine gw_is5 at387_843 (h := ?_)
    refine gw_al2 at387_845 (gw_al0 at387_846 (gw_il4 at387_847 (gw_const at387_849 (gw_iadd at387_850 (gw_ia at387_851 (Or.inr s.1.1) s.1.2 (by omega) (by omega) (by omega) (gw_al0 at387_852 (gw_il4 at387_853 (gw_const at387_855 (gw_iadd at387_856 (gw_ia at387_857 (Or.inr s.1.1) s.1.2 (by omega) (by omega) (by omega) (?_)))))))))))
    rw [s.2]
    refine gw_call3 at387_858 e (by omega) (Nat.le_of_ble_eq_true rfl) (fun o M1 q2 => ?_)
    obtain ⟨T2, c2, J2, rfl, rfl, hE, hv2, hvr⟩ := q2
    have hE0 := hE
    obtain ⟨⟨g1, g2⟩, g3, g4, -⟩ := hE
    show gw _ _ _ _ _ (gi v :: _) _ _
    refine gw_is6 at387_861 (h := ?_)
    refine gw_al2 at387_863 (gw_callP1 at387_864 (m_thrown g1 g2) (by omega) (Nat.le_of_ble_eq_true rfl) ?_)
    rw [g3]
    refine gw_il5 at387_867 (gw_ceq at387_869 (by decide) (by decide) (fun _ => ?_) (fun q => absurd rfl q))
    refine gw_il5 at387_874 (gw_zne at387_876 (by decide) (fun q => absurd rfl q) (fun _ => ?_))
    refine gw_al3 at387_879 (gw_const at387_880 (gw_la at387_881 g4.1 g4.2 (by decide) (by decide) (by decide) ?_))
    rw [hv2]
    refine gw_il6 at387_882 (gw_i2l at387_884 hvr (gw_lceq at387_885 at387_886 (by omega) (by omega) (fun _ => ?_) (fun q => absurd rfl q)))
    exact gw_goto at387_891 (hend _ T2 c2 J2 _ _ hE0 rfl rfl)
  · obtain ⟨hk, s, e⟩ := h3 X T1 c1 J1 hR
    show gw _ _ _ _ _ (gi (hm X) :: _) _ _
    refine gw_is5 at387_843 (h := ?_)
    refine gw_al2 at387_845 (gw_al0 at387_846 (gw_il4 at387_847 (gw_const at387_849 (gw_iadd at387_850 (gw_ia at387_851 (Or.inr s.1.1) s.1.2 (by omega) (by omega) (by omega) (gw_al0 at387_852 (gw_il4 at387_853 (gw_const at387_855 (gw_iadd at387_856 (gw_ia at387_857 (Or.inr s.1.1) s.1.2 (by omega) (by omega) (by omega) (?_)))))))))))
    rw [s.2]
    refine gw_call3 at387_858 e (by omega) (Nat.le_of_ble_eq_true rfl) (fun o M1 q2 => ?_)
    obtain ⟨b, T2, c2, J2, rfl, rfl, hE⟩ := q2
    have hE0 := hE
    obtain ⟨⟨g1, g2⟩, g3, g4, -⟩ := hE
    show gw _ _ _ _ _ (gi b :: _) _ _
    refine gw_is6 at387_861 (h := ?_)
    refine gw_al2 at387_863 (gw_callP1 at387_864 (m_thrown g1 g2) (by omega) (Nat.le_of_ble_eq_true rfl) ?_)
    rw [g3]
    refine gw_il5 at387_867 (gw_ceq at387_869 (by omega) (by omega) (fun _ => ?_) (fun q => absurd rfl q))
    refine gw_il5 at387_874 (gw_zne at387_876 (by omega) (fun _ => ?_) (fun q => absurd q (by omega)))
    exact gw_goto at387_891 (hend _ T2 c2 J2 _ _ hE0 rfl rfl)
set_option maxHeartbeats 1000000 in
theorem lc_14 {d HW HM : Nat} {T : gT} {c J : gC} {L : Nat} {i : Int} {E : gT → gC → gC → Prop} {Q : am_O → am_M → Prop} {hm : Nat → Int} {R : (Int ⊕ Nat) → gT → gC → gC → Prop} {u5 u6 : Value} (hHW : HW + 1 ≤ d) (hHM : HM + 1 ≤ d) (hL : (T.1 800000).1 = 41 ∧ (T.1 800000).2.1 = L) (hL2 : L ≤ 3072) (hi : 0 ≤ i ∧ i + 6 ≤ (L : Int)) (hu : am_nl u5 = true) (hv : am_nl u6 = true) (h1 : gE 5 349 HW [.ref 500000, gi (c 800000 (i + 1)), .ref 500002] (gm T c J) (gW hm R)) (h2 : ∀ v T1 c1 J1, R (.inl v) T1 c1 J1 → SCP L c T1 c1 ∧ gE 5 217 HM [.ref 500001, gi (c 800000 (i + 1))] (gm T1 c1 (gu J1 500002 0 v)) (fun o M1 => ∃ T2 c2 J2, o = .inl (some (gi v)) ∧ M1 = gm T2 c2 J2 ∧ ESP E 0 T2 c2 J2 ∧ J2 500002 0 = v ∧ -2147483648 ≤ v ∧ v < 2147483648)) (h3 : ∀ X T1 c1 J1, R (.inr X) T1 c1 J1 → (1 ≤ hm X ∧ hm X ≤ 3) ∧ SCP L c (gTe T1) (gz c1 (700000 + T1.2.1 7)) ∧ gE 5 217 HM [.ref 500001, gi (c 800000 (i + 1))] (gm (gTe T1) (gz c1 (700000 + T1.2.1 7)) (gz J1 (700000 + T1.2.1 7))) (fun o M1 => ∃ b T2 c2 J2, o = .inl (some (gi b)) ∧ M1 = gm T2 c2 J2 ∧ ESP E (hm X) T2 c2 J2)) (hend : ∀ z T2 c2 J2 (k b : Value), ESP E z T2 c2 J2 → am_nl k = true → am_nl b = true → gw d 5 387 3366 [.ref 800000, .ref 500000, .ref 500001, .ref 500002, gi i, k, b] [] (gm T2 c2 J2) Q) : gw d 5 387 894 [.ref 800000, .ref 500000, .ref 500001, .ref 500002, gi i, u5, u6] [] (gm T c J) Q := by
  refine gw_al1 at387_894 (gw_al0 at387_895 (gw_il4 at387_896 (gw_const at387_898 (gw_iadd at387_899 (gw_ia at387_900 (Or.inr hL.1) hL.2 (by omega) (by omega) (by omega) (gw_al3 at387_901 (?_)))))))
  refine gw_call3 at387_902 h1 (by omega) (Nat.le_of_ble_eq_true rfl) (fun o M1 q => ?_)
  obtain ⟨T1, c1, J1, ⟨v, hR, rfl, rfl⟩ | ⟨X, hR, rfl, rfl⟩⟩ := q
  · obtain ⟨s, e⟩ := h2 v T1 c1 J1 hR
    show gw _ _ _ _ _ (gi 0 :: _) _ _
    refine gw_is5 at387_905 (h := ?_)
    refine gw_al2 at387_907 (gw_al0 at387_908 (gw_il4 at387_909 (gw_const at387_911 (gw_iadd at387_912 (gw_ia at387_913 (Or.inr s.1.1) s.1.2 (by omega) (by omega) (by omega) (?_))))))
    rw [s.2]
    refine gw_call2 at387_914 e (by omega) (Nat.le_of_ble_eq_true rfl) (fun o M1 q2 => ?_)
    obtain ⟨T2, c2, J2, rfl, rfl, hE, hv2, hvr⟩ := q2
    have hE0 := hE
    obtain ⟨⟨g1, g2⟩, g3, g4, -⟩ := hE
    show gw _ _ _ _ _ (gi v :: _) _ _
    refine gw_is6 at387_917 (h := ?_)
    refine gw_al2 at387_919 (gw_callP1 at387_920 (m_thrown g1 g2) (by omega) (Nat.le_of_ble_eq_true rfl) ?_)
    rw [g3]
    refine gw_il5 at387_923 (gw_ceq at387_925 (by decide) (by decide) (fun _ => ?_) (fun q => absurd rfl q))
    refine gw_il5 at387_930 (gw_zne at387_932 (by decide) (fun q => absurd rfl q) (fun _ => ?_))
    refine gw_al3 at387_935 (gw_const at387_936 (gw_la at387_937 g4.1 g4.2 (by decide) (by decide) (by decide) ?_))
    rw [hv2]
    refine gw_il6 at387_938 (gw_i2l at387_940 hvr (gw_lceq at387_941 at387_942 (by omega) (by omega) (fun _ => ?_) (fun q => absurd rfl q)))
    exact gw_goto at387_947 (hend _ T2 c2 J2 _ _ hE0 rfl rfl)
  · obtain ⟨hk, s, e⟩ := h3 X T1 c1 J1 hR
    show gw _ _ _ _ _ (gi (hm X) :: _) _ _
    refine gw_is5 at387_905 (h := ?_)
    refine gw_al2 at387_907 (gw_al0 at387_908 (gw_il4 at387_909 (gw_const at387_911 (gw_iadd at387_912 (gw_ia at387_913 (Or.inr s.1.1) s.1.2 (by omega) (by omega) (by omega) (?_))))))
    rw [s.2]
    refine gw_call2 at387_914 e (by omega) (Nat.le_of_ble_eq_true rfl) (fun o M1 q2 => ?_)
    obtain ⟨b, T2, c2, J2, rfl, rfl, hE⟩ := q2
    have hE0 := hE
    obtain ⟨⟨g1, g2⟩, g3, g4, -⟩ := hE
    show gw _ _ _ _ _ (gi b :: _) _ _
    refine gw_is6 at387_917 (h := ?_)
    refine gw_al2 at387_919 (gw_callP1 at387_920 (m_thrown g1 g2) (by omega) (Nat.le_of_ble_eq_true rfl) ?_)
    rw [g3]
    refine gw_il5 at387_923 (gw_ceq at387_925 (by omega) (by omega) (fun _ => ?_) (fun q => absurd rfl q))
    refine gw_il5 at387_930 (gw_zne at387_932 (by omega) (fun _ => ?_) (fun q => absurd q (by omega)))
    exact gw_goto at387_947 (hend _ T2 c2 J2 _ _ hE0 rfl rfl)
set_option maxHeartbeats 1000000 in
theorem lc_15 {d HW HM : Nat} {T : gT} {c J : gC} {L : Nat} {i : Int} {E : gT → gC → gC → Prop} {Q : am_O → am_M → Prop} {hm : Nat → Int} {R : (Int ⊕ Nat) → gT → gC → gC → Prop} {u5 u6 : Value} (hHW : HW + 1 ≤ d) (hHM : HM + 1 ≤ d) (hL : (T.1 800000).1 = 41 ∧ (T.1 800000).2.1 = L) (hL2 : L ≤ 3072) (hi : 0 ≤ i ∧ i + 6 ≤ (L : Int)) (hu : am_nl u5 = true) (hv : am_nl u6 = true) (h1 : gE 5 350 HW [.ref 500000, gi (c 800000 (i + 1)), gi (c 800000 (i + 2)), .ref 500002] (gm T c J) (gW hm R)) (h2 : ∀ v T1 c1 J1, R (.inl v) T1 c1 J1 → SCP L c T1 c1 ∧ gE 5 218 HM [.ref 500001, gi (c 800000 (i + 1)), gi (c 800000 (i + 2))] (gm T1 c1 (gu J1 500002 0 v)) (fun o M1 => ∃ T2 c2 J2, o = .inl (some (gi v)) ∧ M1 = gm T2 c2 J2 ∧ ESP E 0 T2 c2 J2 ∧ J2 500002 0 = v ∧ -2147483648 ≤ v ∧ v < 2147483648)) (h3 : ∀ X T1 c1 J1, R (.inr X) T1 c1 J1 → (1 ≤ hm X ∧ hm X ≤ 3) ∧ SCP L c (gTe T1) (gz c1 (700000 + T1.2.1 7)) ∧ gE 5 218 HM [.ref 500001, gi (c 800000 (i + 1)), gi (c 800000 (i + 2))] (gm (gTe T1) (gz c1 (700000 + T1.2.1 7)) (gz J1 (700000 + T1.2.1 7))) (fun o M1 => ∃ b T2 c2 J2, o = .inl (some (gi b)) ∧ M1 = gm T2 c2 J2 ∧ ESP E (hm X) T2 c2 J2)) (hend : ∀ z T2 c2 J2 (k b : Value), ESP E z T2 c2 J2 → am_nl k = true → am_nl b = true → gw d 5 387 3366 [.ref 800000, .ref 500000, .ref 500001, .ref 500002, gi i, k, b] [] (gm T2 c2 J2) Q) : gw d 5 387 950 [.ref 800000, .ref 500000, .ref 500001, .ref 500002, gi i, u5, u6] [] (gm T c J) Q := by
  refine gw_al1 at387_950 (gw_al0 at387_951 (gw_il4 at387_952 (gw_const at387_954 (gw_iadd at387_955 (gw_ia at387_956 (Or.inr hL.1) hL.2 (by omega) (by omega) (by omega) (gw_al0 at387_957 (gw_il4 at387_958 (gw_const at387_960 (gw_iadd at387_961 (gw_ia at387_962 (Or.inr hL.1) hL.2 (by omega) (by omega) (by omega) (gw_al3 at387_963 (?_))))))))))))
  refine gw_call4 at387_964 h1 (by omega) (Nat.le_of_ble_eq_true rfl) (fun o M1 q => ?_)
  obtain ⟨T1, c1, J1, ⟨v, hR, rfl, rfl⟩ | ⟨X, hR, rfl, rfl⟩⟩ := q
  · obtain ⟨s, e⟩ := h2 v T1 c1 J1 hR
    show gw _ _ _ _ _ (gi 0 :: _) _ _
    refine gw_is5 at387_967 (h := ?_)
    refine gw_al2 at387_969 (gw_al0 at387_970 (gw_il4 at387_971 (gw_const at387_973 (gw_iadd at387_974 (gw_ia at387_975 (Or.inr s.1.1) s.1.2 (by omega) (by omega) (by omega) (gw_al0 at387_976 (gw_il4 at387_977 (gw_const at387_979 (gw_iadd at387_980 (gw_ia at387_981 (Or.inr s.1.1) s.1.2 (by omega) (by omega) (by omega) (?_)))))))))))
    rw [s.2]
    refine gw_call3 at387_982 e (by omega) (Nat.le_of_ble_eq_true rfl) (fun o M1 q2 => ?_)
    obtain ⟨T2, c2, J2, rfl, rfl, hE, hv2, hvr⟩ := q2
    have hE0 := hE
    obtain ⟨⟨g1, g2⟩, g3, g4, -⟩ := hE
    show gw _ _ _ _ _ (gi v :: _) _ _
    refine gw_is6 at387_985 (h := ?_)
    refine gw_al2 at387_987 (gw_callP1 at387_988 (m_thrown g1 g2) (by omega) (Nat.le_of_ble_eq_true rfl) ?_)
    rw [g3]
    refine gw_il5 at387_991 (gw_ceq at387_993 (by decide) (by decide) (fun _ => ?_) (fun q => absurd rfl q))
    refine gw_il5 at387_998 (gw_zne at387_1000 (by decide) (fun q => absurd rfl q) (fun _ => ?_))
    refine gw_al3 at387_1003 (gw_const at387_1004 (gw_la at387_1005 g4.1 g4.2 (by decide) (by decide) (by decide) ?_))
    rw [hv2]
    refine gw_il6 at387_1006 (gw_i2l at387_1008 hvr (gw_lceq at387_1009 at387_1010 (by omega) (by omega) (fun _ => ?_) (fun q => absurd rfl q)))
    exact gw_goto at387_1015 (hend _ T2 c2 J2 _ _ hE0 rfl rfl)
  · obtain ⟨hk, s, e⟩ := h3 X T1 c1 J1 hR
    show gw _ _ _ _ _ (gi (hm X) :: _) _ _
    refine gw_is5 at387_967 (h := ?_)
    refine gw_al2 at387_969 (gw_al0 at387_970 (gw_il4 at387_971 (gw_const at387_973 (gw_iadd at387_974 (gw_ia at387_975 (Or.inr s.1.1) s.1.2 (by omega) (by omega) (by omega) (gw_al0 at387_976 (gw_il4 at387_977 (gw_const at387_979 (gw_iadd at387_980 (gw_ia at387_981 (Or.inr s.1.1) s.1.2 (by omega) (by omega) (by omega) (?_)))))))))))
    rw [s.2]
    refine gw_call3 at387_982 e (by omega) (Nat.le_of_ble_eq_true rfl) (fun o M1 q2 => ?_)
    obtain ⟨b, T2, c2, J2, rfl, rfl, hE⟩ := q2
    have hE0 := hE
    obtain ⟨⟨g1, g2⟩, g3, g4, -⟩ := hE
    show gw _ _ _ _ _ (gi b :: _) _ _
    refine gw_is6 at387_985 (h := ?_)
    refine gw_al2 at387_987 (gw_callP1 at387_988 (m_thrown g1 g2) (by omega) (Nat.le_of_ble_eq_true rfl) ?_)
    rw [g3]
    refine gw_il5 at387_991 (gw_ceq at387_993 (by omega) (by omega) (fun _ => ?_) (fun q => absurd rfl q))
    refine gw_il5 at387_998 (gw_zne at387_1000 (by omega) (fun _ => ?_) (fun q => absurd q (by omega)))
    exact gw_goto at387_1015 (hend _ T2 c2 J2 _ _ hE0 rfl rfl)
set_option maxHeartbeats 1000000 in
theorem lc_16 {d HW HM : Nat} {T : gT} {c J : gC} {L : Nat} {i : Int} {E : gT → gC → gC → Prop} {Q : am_O → am_M → Prop} {hm : Nat → Int} {R : (Int ⊕ Nat) → gT → gC → gC → Prop} {u5 u6 : Value} (hHW : HW + 1 ≤ d) (hHM : HM + 1 ≤ d) (hL : (T.1 800000).1 = 41 ∧ (T.1 800000).2.1 = L) (hL2 : L ≤ 3072) (hi : 0 ≤ i ∧ i + 6 ≤ (L : Int)) (hu : am_nl u5 = true) (hv : am_nl u6 = true) (h1 : gE 5 351 HW [.ref 500000, gi (c 800000 (i + 1)), gi (c 800000 (i + 2)), .ref 500002] (gm T c J) (gW hm R)) (h2 : ∀ v T1 c1 J1, R (.inl v) T1 c1 J1 → SCP L c T1 c1 ∧ gE 5 219 HM [.ref 500001, gi (c 800000 (i + 1)), gi (c 800000 (i + 2))] (gm T1 c1 (gu J1 500002 0 v)) (fun o M1 => ∃ T2 c2 J2, o = .inl (some (gi v)) ∧ M1 = gm T2 c2 J2 ∧ ESP E 0 T2 c2 J2 ∧ J2 500002 0 = v ∧ -2147483648 ≤ v ∧ v < 2147483648)) (h3 : ∀ X T1 c1 J1, R (.inr X) T1 c1 J1 → (1 ≤ hm X ∧ hm X ≤ 3) ∧ SCP L c (gTe T1) (gz c1 (700000 + T1.2.1 7)) ∧ gE 5 219 HM [.ref 500001, gi (c 800000 (i + 1)), gi (c 800000 (i + 2))] (gm (gTe T1) (gz c1 (700000 + T1.2.1 7)) (gz J1 (700000 + T1.2.1 7))) (fun o M1 => ∃ b T2 c2 J2, o = .inl (some (gi b)) ∧ M1 = gm T2 c2 J2 ∧ ESP E (hm X) T2 c2 J2)) (hend : ∀ z T2 c2 J2 (k b : Value), ESP E z T2 c2 J2 → am_nl k = true → am_nl b = true → gw d 5 387 3366 [.ref 800000, .ref 500000, .ref 500001, .ref 500002, gi i, k, b] [] (gm T2 c2 J2) Q) : gw d 5 387 1018 [.ref 800000, .ref 500000, .ref 500001, .ref 500002, gi i, u5, u6] [] (gm T c J) Q := by
  refine gw_al1 at387_1018 (gw_al0 at387_1019 (gw_il4 at387_1020 (gw_const at387_1022 (gw_iadd at387_1023 (gw_ia at387_1024 (Or.inr hL.1) hL.2 (by omega) (by omega) (by omega) (gw_al0 at387_1025 (gw_il4 at387_1026 (gw_const at387_1028 (gw_iadd at387_1029 (gw_ia at387_1030 (Or.inr hL.1) hL.2 (by omega) (by omega) (by omega) (gw_al3 at387_1031 (?_))))))))))))
  refine gw_call4 at387_1032 h1 (by omega) (Nat.le_of_ble_eq_true rfl) (fun o M1 q => ?_)
  obtain ⟨T1, c1, J1, ⟨v, hR, rfl, rfl⟩ | ⟨X, hR, rfl, rfl⟩⟩ := q
  · obtain ⟨s, e⟩ := h2 v T1 c1 J1 hR
    show gw _ _ _ _ _ (gi 0 :: _) _ _
    refine gw_is5 at387_1035 (h := ?_)
    refine gw_al2 at387_1037 (gw_al0 at387_1038 (gw_il4 at387_1039 (gw_const at387_1041 (gw_iadd at387_1042 (gw_ia at387_1043 (Or.inr s.1.1) s.1.2 (by omega) (by omega) (by omega) (gw_al0 at387_1044 (gw_il4 at387_1045 (gw_const at387_1047 (gw_iadd at387_1048 (gw_ia at387_1049 (Or.inr s.1.1) s.1.2 (by omega) (by omega) (by omega) (?_)))))))))))
    rw [s.2]
    refine gw_call3 at387_1050 e (by omega) (Nat.le_of_ble_eq_true rfl) (fun o M1 q2 => ?_)
    obtain ⟨T2, c2, J2, rfl, rfl, hE, hv2, hvr⟩ := q2
    have hE0 := hE
    obtain ⟨⟨g1, g2⟩, g3, g4, -⟩ := hE
    show gw _ _ _ _ _ (gi v :: _) _ _
    refine gw_is6 at387_1053 (h := ?_)
    refine gw_al2 at387_1055 (gw_callP1 at387_1056 (m_thrown g1 g2) (by omega) (Nat.le_of_ble_eq_true rfl) ?_)
    rw [g3]
    refine gw_il5 at387_1059 (gw_ceq at387_1061 (by decide) (by decide) (fun _ => ?_) (fun q => absurd rfl q))
    refine gw_il5 at387_1066 (gw_zne at387_1068 (by decide) (fun q => absurd rfl q) (fun _ => ?_))
    refine gw_al3 at387_1071 (gw_const at387_1072 (gw_la at387_1073 g4.1 g4.2 (by decide) (by decide) (by decide) ?_))
    rw [hv2]
    refine gw_il6 at387_1074 (gw_i2l at387_1076 hvr (gw_lceq at387_1077 at387_1078 (by omega) (by omega) (fun _ => ?_) (fun q => absurd rfl q)))
    exact gw_goto at387_1083 (hend _ T2 c2 J2 _ _ hE0 rfl rfl)
  · obtain ⟨hk, s, e⟩ := h3 X T1 c1 J1 hR
    show gw _ _ _ _ _ (gi (hm X) :: _) _ _
    refine gw_is5 at387_1035 (h := ?_)
    refine gw_al2 at387_1037 (gw_al0 at387_1038 (gw_il4 at387_1039 (gw_const at387_1041 (gw_iadd at387_1042 (gw_ia at387_1043 (Or.inr s.1.1) s.1.2 (by omega) (by omega) (by omega) (gw_al0 at387_1044 (gw_il4 at387_1045 (gw_const at387_1047 (gw_iadd at387_1048 (gw_ia at387_1049 (Or.inr s.1.1) s.1.2 (by omega) (by omega) (by omega) (?_)))))))))))
    rw [s.2]
    refine gw_call3 at387_1050 e (by omega) (Nat.le_of_ble_eq_true rfl) (fun o M1 q2 => ?_)
    obtain ⟨b, T2, c2, J2, rfl, rfl, hE⟩ := q2
    have hE0 := hE
    obtain ⟨⟨g1, g2⟩, g3, g4, -⟩ := hE
    show gw _ _ _ _ _ (gi b :: _) _ _
    refine gw_is6 at387_1053 (h := ?_)
    refine gw_al2 at387_1055 (gw_callP1 at387_1056 (m_thrown g1 g2) (by omega) (Nat.le_of_ble_eq_true rfl) ?_)
    rw [g3]
    refine gw_il5 at387_1059 (gw_ceq at387_1061 (by omega) (by omega) (fun _ => ?_) (fun q => absurd rfl q))
    refine gw_il5 at387_1066 (gw_zne at387_1068 (by omega) (fun _ => ?_) (fun q => absurd q (by omega)))
    exact gw_goto at387_1083 (hend _ T2 c2 J2 _ _ hE0 rfl rfl)
set_option maxHeartbeats 1000000 in
theorem lc_17 {d HW HM : Nat} {T : gT} {c J : gC} {L : Nat} {i : Int} {E : gT → gC → gC → Prop} {Q : am_O → am_M → Prop} {hm : Nat → Int} {R : (Int ⊕ Nat) → gT → gC → gC → Prop} {u5 u6 : Value} (hHW : HW + 1 ≤ d) (hHM : HM + 1 ≤ d) (hL : (T.1 800000).1 = 41 ∧ (T.1 800000).2.1 = L) (hL2 : L ≤ 3072) (hi : 0 ≤ i ∧ i + 6 ≤ (L : Int)) (hu : am_nl u5 = true) (hv : am_nl u6 = true) (h1 : gE 5 352 HW [.ref 500000, gi (c 800000 (i + 1)), gi (c 800000 (i + 2)), gi (c 800000 (i + 3)), .ref 500002] (gm T c J) (gW hm R)) (h2 : ∀ v T1 c1 J1, R (.inl v) T1 c1 J1 → SCP L c T1 c1 ∧ gE 5 220 HM [.ref 500001, gi (c 800000 (i + 1)), gi (c 800000 (i + 2)), gi (c 800000 (i + 3))] (gm T1 c1 (gu J1 500002 0 v)) (fun o M1 => ∃ T2 c2 J2, o = .inl (some (gi v)) ∧ M1 = gm T2 c2 J2 ∧ ESP E 0 T2 c2 J2 ∧ J2 500002 0 = v ∧ -2147483648 ≤ v ∧ v < 2147483648)) (h3 : ∀ X T1 c1 J1, R (.inr X) T1 c1 J1 → (1 ≤ hm X ∧ hm X ≤ 3) ∧ SCP L c (gTe T1) (gz c1 (700000 + T1.2.1 7)) ∧ gE 5 220 HM [.ref 500001, gi (c 800000 (i + 1)), gi (c 800000 (i + 2)), gi (c 800000 (i + 3))] (gm (gTe T1) (gz c1 (700000 + T1.2.1 7)) (gz J1 (700000 + T1.2.1 7))) (fun o M1 => ∃ b T2 c2 J2, o = .inl (some (gi b)) ∧ M1 = gm T2 c2 J2 ∧ ESP E (hm X) T2 c2 J2)) (hend : ∀ z T2 c2 J2 (k b : Value), ESP E z T2 c2 J2 → am_nl k = true → am_nl b = true → gw d 5 387 3366 [.ref 800000, .ref 500000, .ref 500001, .ref 500002, gi i, k, b] [] (gm T2 c2 J2) Q) : gw d 5 387 1086 [.ref 800000, .ref 500000, .ref 500001, .ref 500002, gi i, u5, u6] [] (gm T c J) Q := by
  refine gw_al1 at387_1086 (gw_al0 at387_1087 (gw_il4 at387_1088 (gw_const at387_1090 (gw_iadd at387_1091 (gw_ia at387_1092 (Or.inr hL.1) hL.2 (by omega) (by omega) (by omega) (gw_al0 at387_1093 (gw_il4 at387_1094 (gw_const at387_1096 (gw_iadd at387_1097 (gw_ia at387_1098 (Or.inr hL.1) hL.2 (by omega) (by omega) (by omega) (gw_al0 at387_1099 (gw_il4 at387_1100 (gw_const at387_1102 (gw_iadd at387_1103 (gw_ia at387_1104 (Or.inr hL.1) hL.2 (by omega) (by omega) (by omega) (gw_al3 at387_1105 (?_)))))))))))))))))
  refine gw_call5 at387_1106 h1 (by omega) (Nat.le_of_ble_eq_true rfl) (fun o M1 q => ?_)
  obtain ⟨T1, c1, J1, ⟨v, hR, rfl, rfl⟩ | ⟨X, hR, rfl, rfl⟩⟩ := q
  · obtain ⟨s, e⟩ := h2 v T1 c1 J1 hR
    show gw _ _ _ _ _ (gi 0 :: _) _ _
    refine gw_is5 at387_1109 (h := ?_)
    refine gw_al2 at387_1111 (gw_al0 at387_1112 (gw_il4 at387_1113 (gw_const at387_1115 (gw_iadd at387_1116 (gw_ia at387_1117 (Or.inr s.1.1) s.1.2 (by omega) (by omega) (by omega) (gw_al0 at387_1118 (gw_il4 at387_1119 (gw_const at387_1121 (gw_iadd at387_1122 (gw_ia at387_1123 (Or.inr s.1.1) s.1.2 (by omega) (by omega) (by omega) (gw_al0 at387_1124 (gw_il4 at387_1125 (gw_const at387_1127 (gw_iadd at387_1128 (gw_ia at387_1129 (Or.inr s.1.1) s.1.2 (by omega) (by omega) (by omega) (?_))))))))))))))))
    rw [s.2]
    refine gw_call4 at387_1130 e (by omega) (Nat.le_of_ble_eq_true rfl) (fun o M1 q2 => ?_)
    obtain ⟨T2, c2, J2, rfl, rfl, hE, hv2, hvr⟩ := q2
    have hE0 := hE
    obtain ⟨⟨g1, g2⟩, g3, g4, -⟩ := hE
    show gw _ _ _ _ _ (gi v :: _) _ _
    refine gw_is6 at387_1133 (h := ?_)
    refine gw_al2 at387_1135 (gw_callP1 at387_1136 (m_thrown g1 g2) (by omega) (Nat.le_of_ble_eq_true rfl) ?_)
    rw [g3]
    refine gw_il5 at387_1139 (gw_ceq at387_1141 (by decide) (by decide) (fun _ => ?_) (fun q => absurd rfl q))
    refine gw_il5 at387_1146 (gw_zne at387_1148 (by decide) (fun q => absurd rfl q) (fun _ => ?_))
    refine gw_al3 at387_1151 (gw_const at387_1152 (gw_la at387_1153 g4.1 g4.2 (by decide) (by decide) (by decide) ?_))
    rw [hv2]
    refine gw_il6 at387_1154 (gw_i2l at387_1156 hvr (gw_lceq at387_1157 at387_1158 (by omega) (by omega) (fun _ => ?_) (fun q => absurd rfl q)))
    exact gw_goto at387_1163 (hend _ T2 c2 J2 _ _ hE0 rfl rfl)
  · obtain ⟨hk, s, e⟩ := h3 X T1 c1 J1 hR
    show gw _ _ _ _ _ (gi (hm X) :: _) _ _
    refine gw_is5 at387_1109 (h := ?_)
    refine gw_al2 at387_1111 (gw_al0 at387_1112 (gw_il4 at387_1113 (gw_const at387_1115 (gw_iadd at387_1116 (gw_ia at387_1117 (Or.inr s.1.1) s.1.2 (by omega) (by omega) (by omega) (gw_al0 at387_1118 (gw_il4 at387_1119 (gw_const at387_1121 (gw_iadd at387_1122 (gw_ia at387_1123 (Or.inr s.1.1) s.1.2 (by omega) (by omega) (by omega) (gw_al0 at387_1124 (gw_il4 at387_1125 (gw_const at387_1127 (gw_iadd at387_1128 (gw_ia at387_1129 (Or.inr s.1.1) s.1.2 (by omega) (by omega) (by omega) (?_))))))))))))))))
    rw [s.2]
    refine gw_call4 at387_1130 e (by omega) (Nat.le_of_ble_eq_true rfl) (fun o M1 q2 => ?_)
    obtain ⟨b, T2, c2, J2, rfl, rfl, hE⟩ := q2
    have hE0 := hE
    obtain ⟨⟨g1, g2⟩, g3, g4, -⟩ := hE
    show gw _ _ _ _ _ (gi b :: _) _ _
    refine gw_is6 at387_1133 (h := ?_)
    refine gw_al2 at387_1135 (gw_callP1 at387_1136 (m_thrown g1 g2) (by omega) (Nat.le_of_ble_eq_true rfl) ?_)
    rw [g3]
    refine gw_il5 at387_1139 (gw_ceq at387_1141 (by omega) (by omega) (fun _ => ?_) (fun q => absurd rfl q))
    refine gw_il5 at387_1146 (gw_zne at387_1148 (by omega) (fun _ => ?_) (fun q => absurd q (by omega)))
    exact gw_goto at387_1163 (hend _ T2 c2 J2 _ _ hE0 rfl rfl)
set_option maxHeartbeats 1000000 in
theorem lc_18 {d HW HM : Nat} {T : gT} {c J : gC} {L : Nat} {i : Int} {E : gT → gC → gC → Prop} {Q : am_O → am_M → Prop} {hm : Nat → Int} {R : (Int ⊕ Nat) → gT → gC → gC → Prop} {u5 u6 : Value} (hHW : HW + 1 ≤ d) (hHM : HM + 1 ≤ d) (hL : (T.1 800000).1 = 41 ∧ (T.1 800000).2.1 = L) (hL2 : L ≤ 3072) (hi : 0 ≤ i ∧ i + 6 ≤ (L : Int)) (hu : am_nl u5 = true) (hv : am_nl u6 = true) (h1 : gE 5 353 HW [.ref 500000, gi (c 800000 (i + 1)), .ref 500002] (gm T c J) (gW hm R)) (h2 : ∀ v T1 c1 J1, R (.inl v) T1 c1 J1 → SCP L c T1 c1 ∧ gE 5 222 HM [.ref 500001, gi (c 800000 (i + 1))] (gm T1 c1 (gu J1 500002 0 v)) (fun o M1 => ∃ T2 c2 J2, o = .inl (some (gi v)) ∧ M1 = gm T2 c2 J2 ∧ ESP E 0 T2 c2 J2 ∧ J2 500002 0 = v ∧ -2147483648 ≤ v ∧ v < 2147483648)) (h3 : ∀ X T1 c1 J1, R (.inr X) T1 c1 J1 → (1 ≤ hm X ∧ hm X ≤ 3) ∧ SCP L c (gTe T1) (gz c1 (700000 + T1.2.1 7)) ∧ gE 5 222 HM [.ref 500001, gi (c 800000 (i + 1))] (gm (gTe T1) (gz c1 (700000 + T1.2.1 7)) (gz J1 (700000 + T1.2.1 7))) (fun o M1 => ∃ b T2 c2 J2, o = .inl (some (gi b)) ∧ M1 = gm T2 c2 J2 ∧ ESP E (hm X) T2 c2 J2)) (hend : ∀ z T2 c2 J2 (k b : Value), ESP E z T2 c2 J2 → am_nl k = true → am_nl b = true → gw d 5 387 3366 [.ref 800000, .ref 500000, .ref 500001, .ref 500002, gi i, k, b] [] (gm T2 c2 J2) Q) : gw d 5 387 1166 [.ref 800000, .ref 500000, .ref 500001, .ref 500002, gi i, u5, u6] [] (gm T c J) Q := by
  refine gw_al1 at387_1166 (gw_al0 at387_1167 (gw_il4 at387_1168 (gw_const at387_1170 (gw_iadd at387_1171 (gw_ia at387_1172 (Or.inr hL.1) hL.2 (by omega) (by omega) (by omega) (gw_al3 at387_1173 (?_)))))))
  refine gw_call3 at387_1174 h1 (by omega) (Nat.le_of_ble_eq_true rfl) (fun o M1 q => ?_)
  obtain ⟨T1, c1, J1, ⟨v, hR, rfl, rfl⟩ | ⟨X, hR, rfl, rfl⟩⟩ := q
  · obtain ⟨s, e⟩ := h2 v T1 c1 J1 hR
    show gw _ _ _ _ _ (gi 0 :: _) _ _
    refine gw_is5 at387_1177 (h := ?_)
    refine gw_al2 at387_1179 (gw_al0 at387_1180 (gw_il4 at387_1181 (gw_const at387_1183 (gw_iadd at387_1184 (gw_ia at387_1185 (Or.inr s.1.1) s.1.2 (by omega) (by omega) (by omega) (?_))))))
    rw [s.2]
    refine gw_call2 at387_1186 e (by omega) (Nat.le_of_ble_eq_true rfl) (fun o M1 q2 => ?_)
    obtain ⟨T2, c2, J2, rfl, rfl, hE, hv2, hvr⟩ := q2
    have hE0 := hE
    obtain ⟨⟨g1, g2⟩, g3, g4, -⟩ := hE
    show gw _ _ _ _ _ (gi v :: _) _ _
    refine gw_is6 at387_1189 (h := ?_)
    refine gw_al2 at387_1191 (gw_callP1 at387_1192 (m_thrown g1 g2) (by omega) (Nat.le_of_ble_eq_true rfl) ?_)
    rw [g3]
    refine gw_il5 at387_1195 (gw_ceq at387_1197 (by decide) (by decide) (fun _ => ?_) (fun q => absurd rfl q))
    refine gw_il5 at387_1202 (gw_zne at387_1204 (by decide) (fun q => absurd rfl q) (fun _ => ?_))
    refine gw_al3 at387_1207 (gw_const at387_1208 (gw_la at387_1209 g4.1 g4.2 (by decide) (by decide) (by decide) ?_))
    rw [hv2]
    refine gw_il6 at387_1210 (gw_i2l at387_1212 hvr (gw_lceq at387_1213 at387_1214 (by omega) (by omega) (fun _ => ?_) (fun q => absurd rfl q)))
    exact gw_goto at387_1219 (hend _ T2 c2 J2 _ _ hE0 rfl rfl)
  · obtain ⟨hk, s, e⟩ := h3 X T1 c1 J1 hR
    show gw _ _ _ _ _ (gi (hm X) :: _) _ _
    refine gw_is5 at387_1177 (h := ?_)
    refine gw_al2 at387_1179 (gw_al0 at387_1180 (gw_il4 at387_1181 (gw_const at387_1183 (gw_iadd at387_1184 (gw_ia at387_1185 (Or.inr s.1.1) s.1.2 (by omega) (by omega) (by omega) (?_))))))
    rw [s.2]
    refine gw_call2 at387_1186 e (by omega) (Nat.le_of_ble_eq_true rfl) (fun o M1 q2 => ?_)
    obtain ⟨b, T2, c2, J2, rfl, rfl, hE⟩ := q2
    have hE0 := hE
    obtain ⟨⟨g1, g2⟩, g3, g4, -⟩ := hE
    show gw _ _ _ _ _ (gi b :: _) _ _
    refine gw_is6 at387_1189 (h := ?_)
    refine gw_al2 at387_1191 (gw_callP1 at387_1192 (m_thrown g1 g2) (by omega) (Nat.le_of_ble_eq_true rfl) ?_)
    rw [g3]
    refine gw_il5 at387_1195 (gw_ceq at387_1197 (by omega) (by omega) (fun _ => ?_) (fun q => absurd rfl q))
    refine gw_il5 at387_1202 (gw_zne at387_1204 (by omega) (fun _ => ?_) (fun q => absurd q (by omega)))
    exact gw_goto at387_1219 (hend _ T2 c2 J2 _ _ hE0 rfl rfl)
set_option maxHeartbeats 1000000 in
theorem lc_19 {d HW HM : Nat} {T : gT} {c J : gC} {i : Int} {E : gT → gC → gC → Prop} {Q : am_O → am_M → Prop} {R : Int → gT → gC → gC → Prop} {u5 u6 : Value} (hHW : HW + 1 ≤ d) (hHM : HM + 1 ≤ d) (hu : am_nl u5 = true) (hv : am_nl u6 = true) (h1 : gE 5 116 HW [.ref 500000] (gm T c J) (fun o M1 => ∃ v T1 c1 J1, o = .inl (some (gi v)) ∧ M1 = gm T1 c1 J1 ∧ R v T1 c1 J1)) (h2 : ∀ v T1 c1 J1, R v T1 c1 J1 → (-2147483648 ≤ v ∧ v < 2147483648) ∧ gE 5 224 HM [.ref 500001] (gm T1 c1 J1) (fun o M1 => ∃ z T2 c2 J2, o = .inl (some (gi v)) ∧ M1 = gm T2 c2 J2 ∧ ESP E z T2 c2 J2)) (hend : ∀ z T2 c2 J2 (k b : Value), ESP E z T2 c2 J2 → am_nl k = true → am_nl b = true → gw d 5 387 3366 [.ref 800000, .ref 500000, .ref 500001, .ref 500002, gi i, k, b] [] (gm T2 c2 J2) Q) : gw d 5 387 1222 [.ref 800000, .ref 500000, .ref 500001, .ref 500002, gi i, u5, u6] [] (gm T c J) Q := by
  refine gw_al1 at387_1222 (gw_call1 at387_1223 h1 (by omega) (Nat.le_of_ble_eq_true rfl) (fun o M1 q => ?_))
  obtain ⟨v, T1, c1, J1, rfl, rfl, hR⟩ := q
  obtain ⟨hr, e⟩ := h2 v T1 c1 J1 hR
  show gw _ _ _ _ _ (gi v :: _) _ _
  refine gw_al2 at387_1226 (gw_call1 at387_1227 e (by omega) (Nat.le_of_ble_eq_true rfl) (fun o M1 q2 => ?_))
  obtain ⟨z, T2, c2, J2, rfl, rfl, hE⟩ := q2
  show gw _ _ _ _ _ (gi v :: _) _ _
  exact gw_ceq at387_1230 hr hr (fun _ => hend _ T2 c2 J2 _ _ hE hu hv) (fun q => absurd rfl q)
set_option maxHeartbeats 1000000 in
theorem lc_20 {d HW HM : Nat} {T : gT} {c J : gC} {L : Nat} {i : Int} {E : gT → gC → gC → Prop} {Q : am_O → am_M → Prop} {hm : Nat → Int} {R : (Int ⊕ Nat) → gT → gC → gC → Prop} {u5 u6 : Value} (hHW : HW + 1 ≤ d) (hHM : HM + 1 ≤ d) (hL : (T.1 800000).1 = 41 ∧ (T.1 800000).2.1 = L) (hL2 : L ≤ 3072) (hi : 0 ≤ i ∧ i + 6 ≤ (L : Int)) (hu : am_nl u5 = true) (hv : am_nl u6 = true) (h1 : gE 5 354 HW [.ref 500000, gi (c 800000 (i + 1)), .ref 500002] (gm T c J) (gW hm R)) (h2 : ∀ v T1 c1 J1, R (.inl v) T1 c1 J1 → SCP L c T1 c1 ∧ gE 5 226 HM [.ref 500001, gi (c 800000 (i + 1))] (gm T1 c1 (gu J1 500002 0 v)) (fun o M1 => ∃ T2 c2 J2, o = .inl (some (gi v)) ∧ M1 = gm T2 c2 J2 ∧ ESP E 0 T2 c2 J2 ∧ J2 500002 0 = v ∧ -2147483648 ≤ v ∧ v < 2147483648)) (h3 : ∀ X T1 c1 J1, R (.inr X) T1 c1 J1 → (1 ≤ hm X ∧ hm X ≤ 3) ∧ SCP L c (gTe T1) (gz c1 (700000 + T1.2.1 7)) ∧ gE 5 226 HM [.ref 500001, gi (c 800000 (i + 1))] (gm (gTe T1) (gz c1 (700000 + T1.2.1 7)) (gz J1 (700000 + T1.2.1 7))) (fun o M1 => ∃ b T2 c2 J2, o = .inl (some (gi b)) ∧ M1 = gm T2 c2 J2 ∧ ESP E (hm X) T2 c2 J2)) (hend : ∀ z T2 c2 J2 (k b : Value), ESP E z T2 c2 J2 → am_nl k = true → am_nl b = true → gw d 5 387 3366 [.ref 800000, .ref 500000, .ref 500001, .ref 500002, gi i, k, b] [] (gm T2 c2 J2) Q) : gw d 5 387 1235 [.ref 800000, .ref 500000, .ref 500001, .ref 500002, gi i, u5, u6] [] (gm T c J) Q := by
  refine gw_al1 at387_1235 (gw_al0 at387_1236 (gw_il4 at387_1237 (gw_const at387_1239 (gw_iadd at387_1240 (gw_ia at387_1241 (Or.inr hL.1) hL.2 (by omega) (by omega) (by omega) (gw_al3 at387_1242 (?_)))))))
  refine gw_call3 at387_1243 h1 (by omega) (Nat.le_of_ble_eq_true rfl) (fun o M1 q => ?_)
  obtain ⟨T1, c1, J1, ⟨v, hR, rfl, rfl⟩ | ⟨X, hR, rfl, rfl⟩⟩ := q
  · obtain ⟨s, e⟩ := h2 v T1 c1 J1 hR
    show gw _ _ _ _ _ (gi 0 :: _) _ _
    refine gw_is5 at387_1246 (h := ?_)
    refine gw_al2 at387_1248 (gw_al0 at387_1249 (gw_il4 at387_1250 (gw_const at387_1252 (gw_iadd at387_1253 (gw_ia at387_1254 (Or.inr s.1.1) s.1.2 (by omega) (by omega) (by omega) (?_))))))
    rw [s.2]
    refine gw_call2 at387_1255 e (by omega) (Nat.le_of_ble_eq_true rfl) (fun o M1 q2 => ?_)
    obtain ⟨T2, c2, J2, rfl, rfl, hE, hv2, hvr⟩ := q2
    have hE0 := hE
    obtain ⟨⟨g1, g2⟩, g3, g4, -⟩ := hE
    show gw _ _ _ _ _ (gi v :: _) _ _
    refine gw_is6 at387_1258 (h := ?_)
    refine gw_al2 at387_1260 (gw_callP1 at387_1261 (m_thrown g1 g2) (by omega) (Nat.le_of_ble_eq_true rfl) ?_)
    rw [g3]
    refine gw_il5 at387_1264 (gw_ceq at387_1266 (by decide) (by decide) (fun _ => ?_) (fun q => absurd rfl q))
    refine gw_il5 at387_1271 (gw_zne at387_1273 (by decide) (fun q => absurd rfl q) (fun _ => ?_))
    refine gw_al3 at387_1276 (gw_const at387_1277 (gw_la at387_1278 g4.1 g4.2 (by decide) (by decide) (by decide) ?_))
    rw [hv2]
    refine gw_il6 at387_1279 (gw_i2l at387_1281 hvr (gw_lceq at387_1282 at387_1283 (by omega) (by omega) (fun _ => ?_) (fun q => absurd rfl q)))
    exact gw_goto at387_1288 (hend _ T2 c2 J2 _ _ hE0 rfl rfl)
  · obtain ⟨hk, s, e⟩ := h3 X T1 c1 J1 hR
    show gw _ _ _ _ _ (gi (hm X) :: _) _ _
    refine gw_is5 at387_1246 (h := ?_)
    refine gw_al2 at387_1248 (gw_al0 at387_1249 (gw_il4 at387_1250 (gw_const at387_1252 (gw_iadd at387_1253 (gw_ia at387_1254 (Or.inr s.1.1) s.1.2 (by omega) (by omega) (by omega) (?_))))))
    rw [s.2]
    refine gw_call2 at387_1255 e (by omega) (Nat.le_of_ble_eq_true rfl) (fun o M1 q2 => ?_)
    obtain ⟨b, T2, c2, J2, rfl, rfl, hE⟩ := q2
    have hE0 := hE
    obtain ⟨⟨g1, g2⟩, g3, g4, -⟩ := hE
    show gw _ _ _ _ _ (gi b :: _) _ _
    refine gw_is6 at387_1258 (h := ?_)
    refine gw_al2 at387_1260 (gw_callP1 at387_1261 (m_thrown g1 g2) (by omega) (Nat.le_of_ble_eq_true rfl) ?_)
    rw [g3]
    refine gw_il5 at387_1264 (gw_ceq at387_1266 (by omega) (by omega) (fun _ => ?_) (fun q => absurd rfl q))
    refine gw_il5 at387_1271 (gw_zne at387_1273 (by omega) (fun _ => ?_) (fun q => absurd q (by omega)))
    exact gw_goto at387_1288 (hend _ T2 c2 J2 _ _ hE0 rfl rfl)
set_option maxHeartbeats 1000000 in
theorem lc_21 {d HW HM : Nat} {T : gT} {c J : gC} {L : Nat} {i : Int} {E : gT → gC → gC → Prop} {Q : am_O → am_M → Prop} {hm : Nat → Int} {R : (Int ⊕ Nat) → gT → gC → gC → Prop} {u5 u6 : Value} (hHW : HW + 1 ≤ d) (hHM : HM + 1 ≤ d) (hL : (T.1 800000).1 = 41 ∧ (T.1 800000).2.1 = L) (hL2 : L ≤ 3072) (hi : 0 ≤ i ∧ i + 6 ≤ (L : Int)) (hu : am_nl u5 = true) (hv : am_nl u6 = true) (h1 : gE 5 355 HW [.ref 500000, gi (c 800000 (i + 1)), .ref 500002] (gm T c J) (gW hm R)) (h2 : ∀ v T1 c1 J1, R (.inl v) T1 c1 J1 → SCP L c T1 c1 ∧ gE 5 233 HM [.ref 500001, gi (c 800000 (i + 1))] (gm T1 c1 (gu J1 500002 0 v)) (fun o M1 => ∃ T2 c2 J2, o = .inl (some (gi v)) ∧ M1 = gm T2 c2 J2 ∧ ESP E 0 T2 c2 J2 ∧ J2 500002 0 = v ∧ -2147483648 ≤ v ∧ v < 2147483648)) (h3 : ∀ X T1 c1 J1, R (.inr X) T1 c1 J1 → (1 ≤ hm X ∧ hm X ≤ 3) ∧ SCP L c (gTe T1) (gz c1 (700000 + T1.2.1 7)) ∧ gE 5 233 HM [.ref 500001, gi (c 800000 (i + 1))] (gm (gTe T1) (gz c1 (700000 + T1.2.1 7)) (gz J1 (700000 + T1.2.1 7))) (fun o M1 => ∃ b T2 c2 J2, o = .inl (some (gi b)) ∧ M1 = gm T2 c2 J2 ∧ ESP E (hm X) T2 c2 J2)) (hend : ∀ z T2 c2 J2 (k b : Value), ESP E z T2 c2 J2 → am_nl k = true → am_nl b = true → gw d 5 387 3366 [.ref 800000, .ref 500000, .ref 500001, .ref 500002, gi i, k, b] [] (gm T2 c2 J2) Q) : gw d 5 387 1291 [.ref 800000, .ref 500000, .ref 500001, .ref 500002, gi i, u5, u6] [] (gm T c J) Q := by
  refine gw_al1 at387_1291 (gw_al0 at387_1292 (gw_il4 at387_1293 (gw_const at387_1295 (gw_iadd at387_1296 (gw_ia at387_1297 (Or.inr hL.1) hL.2 (by omega) (by omega) (by omega) (gw_al3 at387_1298 (?_)))))))
  refine gw_call3 at387_1299 h1 (by omega) (Nat.le_of_ble_eq_true rfl) (fun o M1 q => ?_)
  obtain ⟨T1, c1, J1, ⟨v, hR, rfl, rfl⟩ | ⟨X, hR, rfl, rfl⟩⟩ := q
  · obtain ⟨s, e⟩ := h2 v T1 c1 J1 hR
    show gw _ _ _ _ _ (gi 0 :: _) _ _
    refine gw_is5 at387_1302 (h := ?_)
    refine gw_al2 at387_1304 (gw_al0 at387_1305 (gw_il4 at387_1306 (gw_const at387_1308 (gw_iadd at387_1309 (gw_ia at387_1310 (Or.inr s.1.1) s.1.2 (by omega) (by omega) (by omega) (?_))))))
    rw [s.2]
    refine gw_call2 at387_1311 e (by omega) (Nat.le_of_ble_eq_true rfl) (fun o M1 q2 => ?_)
    obtain ⟨T2, c2, J2, rfl, rfl, hE, hv2, hvr⟩ := q2
    have hE0 := hE
    obtain ⟨⟨g1, g2⟩, g3, g4, -⟩ := hE
    show gw _ _ _ _ _ (gi v :: _) _ _
    refine gw_is6 at387_1314 (h := ?_)
    refine gw_al2 at387_1316 (gw_callP1 at387_1317 (m_thrown g1 g2) (by omega) (Nat.le_of_ble_eq_true rfl) ?_)
    rw [g3]
    refine gw_il5 at387_1320 (gw_ceq at387_1322 (by decide) (by decide) (fun _ => ?_) (fun q => absurd rfl q))
    refine gw_il5 at387_1327 (gw_zne at387_1329 (by decide) (fun q => absurd rfl q) (fun _ => ?_))
    refine gw_al3 at387_1332 (gw_const at387_1333 (gw_la at387_1334 g4.1 g4.2 (by decide) (by decide) (by decide) ?_))
    rw [hv2]
    refine gw_il6 at387_1335 (gw_i2l at387_1337 hvr (gw_lceq at387_1338 at387_1339 (by omega) (by omega) (fun _ => ?_) (fun q => absurd rfl q)))
    exact gw_goto at387_1344 (hend _ T2 c2 J2 _ _ hE0 rfl rfl)
  · obtain ⟨hk, s, e⟩ := h3 X T1 c1 J1 hR
    show gw _ _ _ _ _ (gi (hm X) :: _) _ _
    refine gw_is5 at387_1302 (h := ?_)
    refine gw_al2 at387_1304 (gw_al0 at387_1305 (gw_il4 at387_1306 (gw_const at387_1308 (gw_iadd at387_1309 (gw_ia at387_1310 (Or.inr s.1.1) s.1.2 (by omega) (by omega) (by omega) (?_))))))
    rw [s.2]
    refine gw_call2 at387_1311 e (by omega) (Nat.le_of_ble_eq_true rfl) (fun o M1 q2 => ?_)
    obtain ⟨b, T2, c2, J2, rfl, rfl, hE⟩ := q2
    have hE0 := hE
    obtain ⟨⟨g1, g2⟩, g3, g4, -⟩ := hE
    show gw _ _ _ _ _ (gi b :: _) _ _
    refine gw_is6 at387_1314 (h := ?_)
    refine gw_al2 at387_1316 (gw_callP1 at387_1317 (m_thrown g1 g2) (by omega) (Nat.le_of_ble_eq_true rfl) ?_)
    rw [g3]
    refine gw_il5 at387_1320 (gw_ceq at387_1322 (by omega) (by omega) (fun _ => ?_) (fun q => absurd rfl q))
    refine gw_il5 at387_1327 (gw_zne at387_1329 (by omega) (fun _ => ?_) (fun q => absurd q (by omega)))
    exact gw_goto at387_1344 (hend _ T2 c2 J2 _ _ hE0 rfl rfl)
set_option maxHeartbeats 1000000 in
theorem lc_22 {d HW HM : Nat} {T : gT} {c J : gC} {L : Nat} {i : Int} {E : gT → gC → gC → Prop} {Q : am_O → am_M → Prop} {hm : Nat → Int} {R : (Int ⊕ Nat) → gT → gC → gC → Prop} {u5 u6 : Value} (hHW : HW + 1 ≤ d) (hHM : HM + 1 ≤ d) (hL : (T.1 800000).1 = 41 ∧ (T.1 800000).2.1 = L) (hL2 : L ≤ 3072) (hi : 0 ≤ i ∧ i + 6 ≤ (L : Int)) (hu : am_nl u5 = true) (hv : am_nl u6 = true) (h1 : gE 5 356 HW [.ref 500000, gi (c 800000 (i + 1)), .ref 500002] (gm T c J) (gW hm R)) (h2 : ∀ v T1 c1 J1, R (.inl v) T1 c1 J1 → SCP L c T1 c1 ∧ gE 5 243 HM [.ref 500001, gi (c 800000 (i + 1))] (gm T1 c1 (gu J1 500002 0 v)) (fun o M1 => ∃ T2 c2 J2, o = .inl (some (gi v)) ∧ M1 = gm T2 c2 J2 ∧ ESP E 0 T2 c2 J2 ∧ J2 500002 0 = v ∧ -2147483648 ≤ v ∧ v < 2147483648)) (h3 : ∀ X T1 c1 J1, R (.inr X) T1 c1 J1 → (1 ≤ hm X ∧ hm X ≤ 3) ∧ SCP L c (gTe T1) (gz c1 (700000 + T1.2.1 7)) ∧ gE 5 243 HM [.ref 500001, gi (c 800000 (i + 1))] (gm (gTe T1) (gz c1 (700000 + T1.2.1 7)) (gz J1 (700000 + T1.2.1 7))) (fun o M1 => ∃ b T2 c2 J2, o = .inl (some (gi b)) ∧ M1 = gm T2 c2 J2 ∧ ESP E (hm X) T2 c2 J2)) (hend : ∀ z T2 c2 J2 (k b : Value), ESP E z T2 c2 J2 → am_nl k = true → am_nl b = true → gw d 5 387 3366 [.ref 800000, .ref 500000, .ref 500001, .ref 500002, gi i, k, b] [] (gm T2 c2 J2) Q) : gw d 5 387 1347 [.ref 800000, .ref 500000, .ref 500001, .ref 500002, gi i, u5, u6] [] (gm T c J) Q := by
  refine gw_al1 at387_1347 (gw_al0 at387_1348 (gw_il4 at387_1349 (gw_const at387_1351 (gw_iadd at387_1352 (gw_ia at387_1353 (Or.inr hL.1) hL.2 (by omega) (by omega) (by omega) (gw_al3 at387_1354 (?_)))))))
  refine gw_call3 at387_1355 h1 (by omega) (Nat.le_of_ble_eq_true rfl) (fun o M1 q => ?_)
  obtain ⟨T1, c1, J1, ⟨v, hR, rfl, rfl⟩ | ⟨X, hR, rfl, rfl⟩⟩ := q
  · obtain ⟨s, e⟩ := h2 v T1 c1 J1 hR
    show gw _ _ _ _ _ (gi 0 :: _) _ _
    refine gw_is5 at387_1358 (h := ?_)
    refine gw_al2 at387_1360 (gw_al0 at387_1361 (gw_il4 at387_1362 (gw_const at387_1364 (gw_iadd at387_1365 (gw_ia at387_1366 (Or.inr s.1.1) s.1.2 (by omega) (by omega) (by omega) (?_))))))
    rw [s.2]
    refine gw_call2 at387_1367 e (by omega) (Nat.le_of_ble_eq_true rfl) (fun o M1 q2 => ?_)
    obtain ⟨T2, c2, J2, rfl, rfl, hE, hv2, hvr⟩ := q2
    have hE0 := hE
    obtain ⟨⟨g1, g2⟩, g3, g4, -⟩ := hE
    show gw _ _ _ _ _ (gi v :: _) _ _
    refine gw_is6 at387_1370 (h := ?_)
    refine gw_al2 at387_1372 (gw_callP1 at387_1373 (m_thrown g1 g2) (by omega) (Nat.le_of_ble_eq_true rfl) ?_)
    rw [g3]
    refine gw_il5 at387_1376 (gw_ceq at387_1378 (by decide) (by decide) (fun _ => ?_) (fun q => absurd rfl q))
    refine gw_il5 at387_1383 (gw_zne at387_1385 (by decide) (fun q => absurd rfl q) (fun _ => ?_))
    refine gw_al3 at387_1388 (gw_const at387_1389 (gw_la at387_1390 g4.1 g4.2 (by decide) (by decide) (by decide) ?_))
    rw [hv2]
    refine gw_il6 at387_1391 (gw_i2l at387_1393 hvr (gw_lceq at387_1394 at387_1395 (by omega) (by omega) (fun _ => ?_) (fun q => absurd rfl q)))
    exact gw_goto at387_1400 (hend _ T2 c2 J2 _ _ hE0 rfl rfl)
  · obtain ⟨hk, s, e⟩ := h3 X T1 c1 J1 hR
    show gw _ _ _ _ _ (gi (hm X) :: _) _ _
    refine gw_is5 at387_1358 (h := ?_)
    refine gw_al2 at387_1360 (gw_al0 at387_1361 (gw_il4 at387_1362 (gw_const at387_1364 (gw_iadd at387_1365 (gw_ia at387_1366 (Or.inr s.1.1) s.1.2 (by omega) (by omega) (by omega) (?_))))))
    rw [s.2]
    refine gw_call2 at387_1367 e (by omega) (Nat.le_of_ble_eq_true rfl) (fun o M1 q2 => ?_)
    obtain ⟨b, T2, c2, J2, rfl, rfl, hE⟩ := q2
    have hE0 := hE
    obtain ⟨⟨g1, g2⟩, g3, g4, -⟩ := hE
    show gw _ _ _ _ _ (gi b :: _) _ _
    refine gw_is6 at387_1370 (h := ?_)
    refine gw_al2 at387_1372 (gw_callP1 at387_1373 (m_thrown g1 g2) (by omega) (Nat.le_of_ble_eq_true rfl) ?_)
    rw [g3]
    refine gw_il5 at387_1376 (gw_ceq at387_1378 (by omega) (by omega) (fun _ => ?_) (fun q => absurd rfl q))
    refine gw_il5 at387_1383 (gw_zne at387_1385 (by omega) (fun _ => ?_) (fun q => absurd q (by omega)))
    exact gw_goto at387_1400 (hend _ T2 c2 J2 _ _ hE0 rfl rfl)
set_option maxHeartbeats 1000000 in
theorem lc_23 {d HW HM : Nat} {T : gT} {c J : gC} {L : Nat} {i : Int} {E : gT → gC → gC → Prop} {Q : am_O → am_M → Prop} {hm : Nat → Int} {R : (Int ⊕ Nat) → gT → gC → gC → Prop} {u5 u6 : Value} (hHW : HW + 1 ≤ d) (hHM : HM + 1 ≤ d) (hL : (T.1 800000).1 = 41 ∧ (T.1 800000).2.1 = L) (hL2 : L ≤ 3072) (hi : 0 ≤ i ∧ i + 6 ≤ (L : Int)) (hu : am_nl u5 = true) (hv : am_nl u6 = true) (h1 : gE 5 357 HW [.ref 500000, gi (c 800000 (i + 1)), gi (c 800000 (i + 2)), .ref 500002] (gm T c J) (gW hm R)) (h2 : ∀ v T1 c1 J1, R (.inl v) T1 c1 J1 → SCP L c T1 c1 ∧ gE 5 244 HM [.ref 500001, gi (c 800000 (i + 1)), gi (c 800000 (i + 2))] (gm T1 c1 (gu J1 500002 0 v)) (fun o M1 => ∃ T2 c2 J2, o = .inl (some (gi v)) ∧ M1 = gm T2 c2 J2 ∧ ESP E 0 T2 c2 J2 ∧ J2 500002 0 = v ∧ -2147483648 ≤ v ∧ v < 2147483648)) (h3 : ∀ X T1 c1 J1, R (.inr X) T1 c1 J1 → (1 ≤ hm X ∧ hm X ≤ 3) ∧ SCP L c (gTe T1) (gz c1 (700000 + T1.2.1 7)) ∧ gE 5 244 HM [.ref 500001, gi (c 800000 (i + 1)), gi (c 800000 (i + 2))] (gm (gTe T1) (gz c1 (700000 + T1.2.1 7)) (gz J1 (700000 + T1.2.1 7))) (fun o M1 => ∃ b T2 c2 J2, o = .inl (some (gi b)) ∧ M1 = gm T2 c2 J2 ∧ ESP E (hm X) T2 c2 J2)) (hend : ∀ z T2 c2 J2 (k b : Value), ESP E z T2 c2 J2 → am_nl k = true → am_nl b = true → gw d 5 387 3366 [.ref 800000, .ref 500000, .ref 500001, .ref 500002, gi i, k, b] [] (gm T2 c2 J2) Q) : gw d 5 387 1403 [.ref 800000, .ref 500000, .ref 500001, .ref 500002, gi i, u5, u6] [] (gm T c J) Q := by
  refine gw_al1 at387_1403 (gw_al0 at387_1404 (gw_il4 at387_1405 (gw_const at387_1407 (gw_iadd at387_1408 (gw_ia at387_1409 (Or.inr hL.1) hL.2 (by omega) (by omega) (by omega) (gw_al0 at387_1410 (gw_il4 at387_1411 (gw_const at387_1413 (gw_iadd at387_1414 (gw_ia at387_1415 (Or.inr hL.1) hL.2 (by omega) (by omega) (by omega) (gw_al3 at387_1416 (?_))))))))))))
  refine gw_call4 at387_1417 h1 (by omega) (Nat.le_of_ble_eq_true rfl) (fun o M1 q => ?_)
  obtain ⟨T1, c1, J1, ⟨v, hR, rfl, rfl⟩ | ⟨X, hR, rfl, rfl⟩⟩ := q
  · obtain ⟨s, e⟩ := h2 v T1 c1 J1 hR
    show gw _ _ _ _ _ (gi 0 :: _) _ _
    refine gw_is5 at387_1420 (h := ?_)
    refine gw_al2 at387_1422 (gw_al0 at387_1423 (gw_il4 at387_1424 (gw_const at387_1426 (gw_iadd at387_1427 (gw_ia at387_1428 (Or.inr s.1.1) s.1.2 (by omega) (by omega) (by omega) (gw_al0 at387_1429 (gw_il4 at387_1430 (gw_const at387_1432 (gw_iadd at387_1433 (gw_ia at387_1434 (Or.inr s.1.1) s.1.2 (by omega) (by omega) (by omega) (?_)))))))))))
    rw [s.2]
    refine gw_call3 at387_1435 e (by omega) (Nat.le_of_ble_eq_true rfl) (fun o M1 q2 => ?_)
    obtain ⟨T2, c2, J2, rfl, rfl, hE, hv2, hvr⟩ := q2
    have hE0 := hE
    obtain ⟨⟨g1, g2⟩, g3, g4, -⟩ := hE
    show gw _ _ _ _ _ (gi v :: _) _ _
    refine gw_is6 at387_1438 (h := ?_)
    refine gw_al2 at387_1440 (gw_callP1 at387_1441 (m_thrown g1 g2) (by omega) (Nat.le_of_ble_eq_true rfl) ?_)
    rw [g3]
    refine gw_il5 at387_1444 (gw_ceq at387_1446 (by decide) (by decide) (fun _ => ?_) (fun q => absurd rfl q))
    refine gw_il5 at387_1451 (gw_zne at387_1453 (by decide) (fun q => absurd rfl q) (fun _ => ?_))
    refine gw_al3 at387_1456 (gw_const at387_1457 (gw_la at387_1458 g4.1 g4.2 (by decide) (by decide) (by decide) ?_))
    rw [hv2]
    refine gw_il6 at387_1459 (gw_i2l at387_1461 hvr (gw_lceq at387_1462 at387_1463 (by omega) (by omega) (fun _ => ?_) (fun q => absurd rfl q)))
    exact gw_goto at387_1468 (hend _ T2 c2 J2 _ _ hE0 rfl rfl)
  · obtain ⟨hk, s, e⟩ := h3 X T1 c1 J1 hR
    show gw _ _ _ _ _ (gi (hm X) :: _) _ _
    refine gw_is5 at387_1420 (h := ?_)
    refine gw_al2 at387_1422 (gw_al0 at387_1423 (gw_il4 at387_1424 (gw_const at387_1426 (gw_iadd at387_1427 (gw_ia at387_1428 (Or.inr s.1.1) s.1.2 (by omega) (by omega) (by omega) (gw_al0 at387_1429 (gw_il4 at387_1430 (gw_const at387_1432 (gw_iadd at387_1433 (gw_ia at387_1434 (Or.inr s.1.1) s.1.2 (by omega) (by omega) (by omega) (?_)))))))))))
    rw [s.2]
    refine gw_call3 at387_1435 e (by omega) (Nat.le_of_ble_eq_true rfl) (fun o M1 q2 => ?_)
    obtain ⟨b, T2, c2, J2, rfl, rfl, hE⟩ := q2
    have hE0 := hE
    obtain ⟨⟨g1, g2⟩, g3, g4, -⟩ := hE
    show gw _ _ _ _ _ (gi b :: _) _ _
    refine gw_is6 at387_1438 (h := ?_)
    refine gw_al2 at387_1440 (gw_callP1 at387_1441 (m_thrown g1 g2) (by omega) (Nat.le_of_ble_eq_true rfl) ?_)
    rw [g3]
    refine gw_il5 at387_1444 (gw_ceq at387_1446 (by omega) (by omega) (fun _ => ?_) (fun q => absurd rfl q))
    refine gw_il5 at387_1451 (gw_zne at387_1453 (by omega) (fun _ => ?_) (fun q => absurd q (by omega)))
    exact gw_goto at387_1468 (hend _ T2 c2 J2 _ _ hE0 rfl rfl)
set_option maxHeartbeats 1000000 in
theorem lc_24 {d HW HM : Nat} {T : gT} {c J : gC} {L : Nat} {i : Int} {E : gT → gC → gC → Prop} {Q : am_O → am_M → Prop} {hm : Nat → Int} {R : (Int ⊕ Nat) → gT → gC → gC → Prop} {u5 u6 : Value} (hHW : HW + 1 ≤ d) (hHM : HM + 1 ≤ d) (hL : (T.1 800000).1 = 41 ∧ (T.1 800000).2.1 = L) (hL2 : L ≤ 3072) (hi : 0 ≤ i ∧ i + 6 ≤ (L : Int)) (hu : am_nl u5 = true) (hv : am_nl u6 = true) (h1 : gE 5 358 HW [.ref 500000, gi (c 800000 (i + 1)), .ref 500002] (gm T c J) (gW hm R)) (h2 : ∀ v T1 c1 J1, R (.inl v) T1 c1 J1 → SCP L c T1 c1 ∧ gE 5 246 HM [.ref 500001, gi (c 800000 (i + 1))] (gm T1 c1 (gu J1 500002 0 v)) (fun o M1 => ∃ T2 c2 J2, o = .inl (some (gi v)) ∧ M1 = gm T2 c2 J2 ∧ ESP E 0 T2 c2 J2 ∧ J2 500002 0 = v ∧ -2147483648 ≤ v ∧ v < 2147483648)) (h3 : ∀ X T1 c1 J1, R (.inr X) T1 c1 J1 → (1 ≤ hm X ∧ hm X ≤ 3) ∧ SCP L c (gTe T1) (gz c1 (700000 + T1.2.1 7)) ∧ gE 5 246 HM [.ref 500001, gi (c 800000 (i + 1))] (gm (gTe T1) (gz c1 (700000 + T1.2.1 7)) (gz J1 (700000 + T1.2.1 7))) (fun o M1 => ∃ b T2 c2 J2, o = .inl (some (gi b)) ∧ M1 = gm T2 c2 J2 ∧ ESP E (hm X) T2 c2 J2)) (hend : ∀ z T2 c2 J2 (k b : Value), ESP E z T2 c2 J2 → am_nl k = true → am_nl b = true → gw d 5 387 3366 [.ref 800000, .ref 500000, .ref 500001, .ref 500002, gi i, k, b] [] (gm T2 c2 J2) Q) : gw d 5 387 1471 [.ref 800000, .ref 500000, .ref 500001, .ref 500002, gi i, u5, u6] [] (gm T c J) Q := by
  refine gw_al1 at387_1471 (gw_al0 at387_1472 (gw_il4 at387_1473 (gw_const at387_1475 (gw_iadd at387_1476 (gw_ia at387_1477 (Or.inr hL.1) hL.2 (by omega) (by omega) (by omega) (gw_al3 at387_1478 (?_)))))))
  refine gw_call3 at387_1479 h1 (by omega) (Nat.le_of_ble_eq_true rfl) (fun o M1 q => ?_)
  obtain ⟨T1, c1, J1, ⟨v, hR, rfl, rfl⟩ | ⟨X, hR, rfl, rfl⟩⟩ := q
  · obtain ⟨s, e⟩ := h2 v T1 c1 J1 hR
    show gw _ _ _ _ _ (gi 0 :: _) _ _
    refine gw_is5 at387_1482 (h := ?_)
    refine gw_al2 at387_1484 (gw_al0 at387_1485 (gw_il4 at387_1486 (gw_const at387_1488 (gw_iadd at387_1489 (gw_ia at387_1490 (Or.inr s.1.1) s.1.2 (by omega) (by omega) (by omega) (?_))))))
    rw [s.2]
    refine gw_call2 at387_1491 e (by omega) (Nat.le_of_ble_eq_true rfl) (fun o M1 q2 => ?_)
    obtain ⟨T2, c2, J2, rfl, rfl, hE, hv2, hvr⟩ := q2
    have hE0 := hE
    obtain ⟨⟨g1, g2⟩, g3, g4, -⟩ := hE
    show gw _ _ _ _ _ (gi v :: _) _ _
    refine gw_is6 at387_1494 (h := ?_)
    refine gw_al2 at387_1496 (gw_callP1 at387_1497 (m_thrown g1 g2) (by omega) (Nat.le_of_ble_eq_true rfl) ?_)
    rw [g3]
    refine gw_il5 at387_1500 (gw_ceq at387_1502 (by decide) (by decide) (fun _ => ?_) (fun q => absurd rfl q))
    refine gw_il5 at387_1507 (gw_zne at387_1509 (by decide) (fun q => absurd rfl q) (fun _ => ?_))
    refine gw_al3 at387_1512 (gw_const at387_1513 (gw_la at387_1514 g4.1 g4.2 (by decide) (by decide) (by decide) ?_))
    rw [hv2]
    refine gw_il6 at387_1515 (gw_i2l at387_1517 hvr (gw_lceq at387_1518 at387_1519 (by omega) (by omega) (fun _ => ?_) (fun q => absurd rfl q)))
    exact gw_goto at387_1524 (hend _ T2 c2 J2 _ _ hE0 rfl rfl)
  · obtain ⟨hk, s, e⟩ := h3 X T1 c1 J1 hR
    show gw _ _ _ _ _ (gi (hm X) :: _) _ _
    refine gw_is5 at387_1482 (h := ?_)
    refine gw_al2 at387_1484 (gw_al0 at387_1485 (gw_il4 at387_1486 (gw_const at387_1488 (gw_iadd at387_1489 (gw_ia at387_1490 (Or.inr s.1.1) s.1.2 (by omega) (by omega) (by omega) (?_))))))
    rw [s.2]
    refine gw_call2 at387_1491 e (by omega) (Nat.le_of_ble_eq_true rfl) (fun o M1 q2 => ?_)
    obtain ⟨b, T2, c2, J2, rfl, rfl, hE⟩ := q2
    have hE0 := hE
    obtain ⟨⟨g1, g2⟩, g3, g4, -⟩ := hE
    show gw _ _ _ _ _ (gi b :: _) _ _
    refine gw_is6 at387_1494 (h := ?_)
    refine gw_al2 at387_1496 (gw_callP1 at387_1497 (m_thrown g1 g2) (by omega) (Nat.le_of_ble_eq_true rfl) ?_)
    rw [g3]
    refine gw_il5 at387_1500 (gw_ceq at387_1502 (by omega) (by omega) (fun _ => ?_) (fun q => absurd rfl q))
    refine gw_il5 at387_1507 (gw_zne at387_1509 (by omega) (fun _ => ?_) (fun q => absurd q (by omega)))
    exact gw_goto at387_1524 (hend _ T2 c2 J2 _ _ hE0 rfl rfl)
set_option maxHeartbeats 1000000 in
theorem lc_25 {d HW HM : Nat} {T : gT} {c J : gC} {L : Nat} {i : Int} {E : gT → gC → gC → Prop} {Q : am_O → am_M → Prop} {hm : Nat → Int} {R : (Int ⊕ Nat) → gT → gC → gC → Prop} {u5 u6 : Value} (hHW : HW + 1 ≤ d) (hHM : HM + 1 ≤ d) (hL : (T.1 800000).1 = 41 ∧ (T.1 800000).2.1 = L) (hL2 : L ≤ 3072) (hi : 0 ≤ i ∧ i + 6 ≤ (L : Int)) (hu : am_nl u5 = true) (hv : am_nl u6 = true) (h1 : gE 5 359 HW [.ref 500000, gi (c 800000 (i + 1)), .ref 500002] (gm T c J) (gW hm R)) (h2 : ∀ v T1 c1 J1, R (.inl v) T1 c1 J1 → SCP L c T1 c1 ∧ gE 5 245 HM [.ref 500001, gi (c 800000 (i + 1))] (gm T1 c1 (gu J1 500002 0 v)) (fun o M1 => ∃ T2 c2 J2, o = .inl (some (gi v)) ∧ M1 = gm T2 c2 J2 ∧ ESP E 0 T2 c2 J2 ∧ J2 500002 0 = v ∧ -2147483648 ≤ v ∧ v < 2147483648)) (h3 : ∀ X T1 c1 J1, R (.inr X) T1 c1 J1 → (1 ≤ hm X ∧ hm X ≤ 3) ∧ SCP L c (gTe T1) (gz c1 (700000 + T1.2.1 7)) ∧ gE 5 245 HM [.ref 500001, gi (c 800000 (i + 1))] (gm (gTe T1) (gz c1 (700000 + T1.2.1 7)) (gz J1 (700000 + T1.2.1 7))) (fun o M1 => ∃ b T2 c2 J2, o = .inl (some (gi b)) ∧ M1 = gm T2 c2 J2 ∧ ESP E (hm X) T2 c2 J2)) (hend : ∀ z T2 c2 J2 (k b : Value), ESP E z T2 c2 J2 → am_nl k = true → am_nl b = true → gw d 5 387 3366 [.ref 800000, .ref 500000, .ref 500001, .ref 500002, gi i, k, b] [] (gm T2 c2 J2) Q) : gw d 5 387 1527 [.ref 800000, .ref 500000, .ref 500001, .ref 500002, gi i, u5, u6] [] (gm T c J) Q := by
  refine gw_al1 at387_1527 (gw_al0 at387_1528 (gw_il4 at387_1529 (gw_const at387_1531 (gw_iadd at387_1532 (gw_ia at387_1533 (Or.inr hL.1) hL.2 (by omega) (by omega) (by omega) (gw_al3 at387_1534 (?_)))))))
  refine gw_call3 at387_1535 h1 (by omega) (Nat.le_of_ble_eq_true rfl) (fun o M1 q => ?_)
  obtain ⟨T1, c1, J1, ⟨v, hR, rfl, rfl⟩ | ⟨X, hR, rfl, rfl⟩⟩ := q
  · obtain ⟨s, e⟩ := h2 v T1 c1 J1 hR
    show gw _ _ _ _ _ (gi 0 :: _) _ _
    refine gw_is5 at387_1538 (h := ?_)
    refine gw_al2 at387_1540 (gw_al0 at387_1541 (gw_il4 at387_1542 (gw_const at387_1544 (gw_iadd at387_1545 (gw_ia at387_1546 (Or.inr s.1.1) s.1.2 (by omega) (by omega) (by omega) (?_))))))
    rw [s.2]
    refine gw_call2 at387_1547 e (by omega) (Nat.le_of_ble_eq_true rfl) (fun o M1 q2 => ?_)
    obtain ⟨T2, c2, J2, rfl, rfl, hE, hv2, hvr⟩ := q2
    have hE0 := hE
    obtain ⟨⟨g1, g2⟩, g3, g4, -⟩ := hE
    show gw _ _ _ _ _ (gi v :: _) _ _
    refine gw_is6 at387_1550 (h := ?_)
    refine gw_al2 at387_1552 (gw_callP1 at387_1553 (m_thrown g1 g2) (by omega) (Nat.le_of_ble_eq_true rfl) ?_)
    rw [g3]
    refine gw_il5 at387_1556 (gw_ceq at387_1558 (by decide) (by decide) (fun _ => ?_) (fun q => absurd rfl q))
    refine gw_il5 at387_1563 (gw_zne at387_1565 (by decide) (fun q => absurd rfl q) (fun _ => ?_))
    refine gw_al3 at387_1568 (gw_const at387_1569 (gw_la at387_1570 g4.1 g4.2 (by decide) (by decide) (by decide) ?_))
    rw [hv2]
    refine gw_il6 at387_1571 (gw_i2l at387_1573 hvr (gw_lceq at387_1574 at387_1575 (by omega) (by omega) (fun _ => ?_) (fun q => absurd rfl q)))
    exact gw_goto at387_1580 (hend _ T2 c2 J2 _ _ hE0 rfl rfl)
  · obtain ⟨hk, s, e⟩ := h3 X T1 c1 J1 hR
    show gw _ _ _ _ _ (gi (hm X) :: _) _ _
    refine gw_is5 at387_1538 (h := ?_)
    refine gw_al2 at387_1540 (gw_al0 at387_1541 (gw_il4 at387_1542 (gw_const at387_1544 (gw_iadd at387_1545 (gw_ia at387_1546 (Or.inr s.1.1) s.1.2 (by omega) (by omega) (by omega) (?_))))))
    rw [s.2]
    refine gw_call2 at387_1547 e (by omega) (Nat.le_of_ble_eq_true rfl) (fun o M1 q2 => ?_)
    obtain ⟨b, T2, c2, J2, rfl, rfl, hE⟩ := q2
    have hE0 := hE
    obtain ⟨⟨g1, g2⟩, g3, g4, -⟩ := hE
    show gw _ _ _ _ _ (gi b :: _) _ _
    refine gw_is6 at387_1550 (h := ?_)
    refine gw_al2 at387_1552 (gw_callP1 at387_1553 (m_thrown g1 g2) (by omega) (Nat.le_of_ble_eq_true rfl) ?_)
    rw [g3]
    refine gw_il5 at387_1556 (gw_ceq at387_1558 (by omega) (by omega) (fun _ => ?_) (fun q => absurd rfl q))
    refine gw_il5 at387_1563 (gw_zne at387_1565 (by omega) (fun _ => ?_) (fun q => absurd q (by omega)))
    exact gw_goto at387_1580 (hend _ T2 c2 J2 _ _ hE0 rfl rfl)
set_option maxHeartbeats 1000000 in
theorem lc_26 {d HW HM : Nat} {T : gT} {c J : gC} {i : Int} {E : gT → gC → gC → Prop} {Q : am_O → am_M → Prop} {R : Int → gT → gC → gC → Prop} {u5 u6 : Value} (hHW : HW + 1 ≤ d) (hHM : HM + 1 ≤ d) (hu : am_nl u5 = true) (hv : am_nl u6 = true) (h1 : gE 5 130 HW [.ref 500000] (gm T c J) (fun o M1 => ∃ v T1 c1 J1, o = .inl (some (gi v)) ∧ M1 = gm T1 c1 J1 ∧ R v T1 c1 J1)) (h2 : ∀ v T1 c1 J1, R v T1 c1 J1 → (-2147483648 ≤ v ∧ v < 2147483648) ∧ gE 5 251 HM [.ref 500001] (gm T1 c1 J1) (fun o M1 => ∃ z T2 c2 J2, o = .inl (some (gi v)) ∧ M1 = gm T2 c2 J2 ∧ ESP E z T2 c2 J2)) (hend : ∀ z T2 c2 J2 (k b : Value), ESP E z T2 c2 J2 → am_nl k = true → am_nl b = true → gw d 5 387 3366 [.ref 800000, .ref 500000, .ref 500001, .ref 500002, gi i, k, b] [] (gm T2 c2 J2) Q) : gw d 5 387 1583 [.ref 800000, .ref 500000, .ref 500001, .ref 500002, gi i, u5, u6] [] (gm T c J) Q := by
  refine gw_al1 at387_1583 (gw_call1 at387_1584 h1 (by omega) (Nat.le_of_ble_eq_true rfl) (fun o M1 q => ?_))
  obtain ⟨v, T1, c1, J1, rfl, rfl, hR⟩ := q
  obtain ⟨hr, e⟩ := h2 v T1 c1 J1 hR
  show gw _ _ _ _ _ (gi v :: _) _ _
  refine gw_al2 at387_1587 (gw_call1 at387_1588 e (by omega) (Nat.le_of_ble_eq_true rfl) (fun o M1 q2 => ?_))
  obtain ⟨z, T2, c2, J2, rfl, rfl, hE⟩ := q2
  show gw _ _ _ _ _ (gi v :: _) _ _
  exact gw_ceq at387_1591 hr hr (fun _ => hend _ T2 c2 J2 _ _ hE hu hv) (fun q => absurd rfl q)
set_option maxHeartbeats 1000000 in
theorem lc_27 {d HW HM : Nat} {T : gT} {c J : gC} {i : Int} {E : gT → gC → gC → Prop} {Q : am_O → am_M → Prop} {R : Int → gT → gC → gC → Prop} {u5 u6 : Value} (hHW : HW + 1 ≤ d) (hHM : HM + 1 ≤ d) (hu : am_nl u5 = true) (hv : am_nl u6 = true) (h1 : gE 5 142 HW [.ref 500000] (gm T c J) (fun o M1 => ∃ v T1 c1 J1, o = .inl (some (gi v)) ∧ M1 = gm T1 c1 J1 ∧ R v T1 c1 J1)) (h2 : ∀ v T1 c1 J1, R v T1 c1 J1 → (-2147483648 ≤ v ∧ v < 2147483648) ∧ gE 5 252 HM [.ref 500001] (gm T1 c1 J1) (fun o M1 => ∃ z T2 c2 J2, o = .inl (some (gi v)) ∧ M1 = gm T2 c2 J2 ∧ ESP E z T2 c2 J2)) (hend : ∀ z T2 c2 J2 (k b : Value), ESP E z T2 c2 J2 → am_nl k = true → am_nl b = true → gw d 5 387 3366 [.ref 800000, .ref 500000, .ref 500001, .ref 500002, gi i, k, b] [] (gm T2 c2 J2) Q) : gw d 5 387 1596 [.ref 800000, .ref 500000, .ref 500001, .ref 500002, gi i, u5, u6] [] (gm T c J) Q := by
  refine gw_al1 at387_1596 (gw_call1 at387_1597 h1 (by omega) (Nat.le_of_ble_eq_true rfl) (fun o M1 q => ?_))
  obtain ⟨v, T1, c1, J1, rfl, rfl, hR⟩ := q
  obtain ⟨hr, e⟩ := h2 v T1 c1 J1 hR
  show gw _ _ _ _ _ (gi v :: _) _ _
  refine gw_al2 at387_1600 (gw_call1 at387_1601 e (by omega) (Nat.le_of_ble_eq_true rfl) (fun o M1 q2 => ?_))
  obtain ⟨z, T2, c2, J2, rfl, rfl, hE⟩ := q2
  show gw _ _ _ _ _ (gi v :: _) _ _
  exact gw_ceq at387_1604 hr hr (fun _ => hend _ T2 c2 J2 _ _ hE hu hv) (fun q => absurd rfl q)
set_option maxHeartbeats 1000000 in
theorem lc_28 {d HW HM : Nat} {T : gT} {c J : gC} {i : Int} {E : gT → gC → gC → Prop} {Q : am_O → am_M → Prop} {R : Int → gT → gC → gC → Prop} {u5 u6 : Value} (hHW : HW + 1 ≤ d) (hHM : HM + 1 ≤ d) (hu : am_nl u5 = true) (hv : am_nl u6 = true) (h1 : gE 5 143 HW [.ref 500000] (gm T c J) (fun o M1 => ∃ v T1 c1 J1, o = .inl (some (gi v)) ∧ M1 = gm T1 c1 J1 ∧ R v T1 c1 J1)) (h2 : ∀ v T1 c1 J1, R v T1 c1 J1 → (-2147483648 ≤ v ∧ v < 2147483648) ∧ gE 5 253 HM [.ref 500001] (gm T1 c1 J1) (fun o M1 => ∃ z T2 c2 J2, o = .inl (some (gi v)) ∧ M1 = gm T2 c2 J2 ∧ ESP E z T2 c2 J2)) (hend : ∀ z T2 c2 J2 (k b : Value), ESP E z T2 c2 J2 → am_nl k = true → am_nl b = true → gw d 5 387 3366 [.ref 800000, .ref 500000, .ref 500001, .ref 500002, gi i, k, b] [] (gm T2 c2 J2) Q) : gw d 5 387 1609 [.ref 800000, .ref 500000, .ref 500001, .ref 500002, gi i, u5, u6] [] (gm T c J) Q := by
  refine gw_al1 at387_1609 (gw_call1 at387_1610 h1 (by omega) (Nat.le_of_ble_eq_true rfl) (fun o M1 q => ?_))
  obtain ⟨v, T1, c1, J1, rfl, rfl, hR⟩ := q
  obtain ⟨hr, e⟩ := h2 v T1 c1 J1 hR
  show gw _ _ _ _ _ (gi v :: _) _ _
  refine gw_al2 at387_1613 (gw_call1 at387_1614 e (by omega) (Nat.le_of_ble_eq_true rfl) (fun o M1 q2 => ?_))
  obtain ⟨z, T2, c2, J2, rfl, rfl, hE⟩ := q2
  show gw _ _ _ _ _ (gi v :: _) _ _
  exact gw_ceq at387_1617 hr hr (fun _ => hend _ T2 c2 J2 _ _ hE hu hv) (fun q => absurd rfl q)
set_option maxHeartbeats 1000000 in
theorem lc_29 {d HW HM : Nat} {T : gT} {c J : gC} {i : Int} {E : gT → gC → gC → Prop} {Q : am_O → am_M → Prop} {R : Int → gT → gC → gC → Prop} {u5 u6 : Value} (hHW : HW + 1 ≤ d) (hHM : HM + 1 ≤ d) (hu : am_nl u5 = true) (hv : am_nl u6 = true) (h1 : gE 5 144 HW [.ref 500000] (gm T c J) (fun o M1 => ∃ v T1 c1 J1, o = .inl (some (gi v)) ∧ M1 = gm T1 c1 J1 ∧ R v T1 c1 J1)) (h2 : ∀ v T1 c1 J1, R v T1 c1 J1 → (-2147483648 ≤ v ∧ v < 2147483648) ∧ gE 5 254 HM [.ref 500001] (gm T1 c1 J1) (fun o M1 => ∃ z T2 c2 J2, o = .inl (some (gi v)) ∧ M1 = gm T2 c2 J2 ∧ ESP E z T2 c2 J2)) (hend : ∀ z T2 c2 J2 (k b : Value), ESP E z T2 c2 J2 → am_nl k = true → am_nl b = true → gw d 5 387 3366 [.ref 800000, .ref 500000, .ref 500001, .ref 500002, gi i, k, b] [] (gm T2 c2 J2) Q) : gw d 5 387 1622 [.ref 800000, .ref 500000, .ref 500001, .ref 500002, gi i, u5, u6] [] (gm T c J) Q := by
  refine gw_al1 at387_1622 (gw_call1 at387_1623 h1 (by omega) (Nat.le_of_ble_eq_true rfl) (fun o M1 q => ?_))
  obtain ⟨v, T1, c1, J1, rfl, rfl, hR⟩ := q
  obtain ⟨hr, e⟩ := h2 v T1 c1 J1 hR
  show gw _ _ _ _ _ (gi v :: _) _ _
  refine gw_al2 at387_1626 (gw_call1 at387_1627 e (by omega) (Nat.le_of_ble_eq_true rfl) (fun o M1 q2 => ?_))
  obtain ⟨z, T2, c2, J2, rfl, rfl, hE⟩ := q2
  show gw _ _ _ _ _ (gi v :: _) _ _
  exact gw_ceq at387_1630 hr hr (fun _ => hend _ T2 c2 J2 _ _ hE hu hv) (fun q => absurd rfl q)
set_option maxHeartbeats 1000000 in
theorem lc_30 {d HW HM : Nat} {T : gT} {c J : gC} {i : Int} {E : gT → gC → gC → Prop} {Q : am_O → am_M → Prop} {R : Int → gT → gC → gC → Prop} {u5 u6 : Value} (hHW : HW + 1 ≤ d) (hHM : HM + 1 ≤ d) (hu : am_nl u5 = true) (hv : am_nl u6 = true) (h1 : gE 5 131 HW [.ref 500000] (gm T c J) (fun o M1 => ∃ v T1 c1 J1, o = .inl (some (gi v)) ∧ M1 = gm T1 c1 J1 ∧ R v T1 c1 J1)) (h2 : ∀ v T1 c1 J1, R v T1 c1 J1 → (-2147483648 ≤ v ∧ v < 2147483648) ∧ gE 5 255 HM [.ref 500001] (gm T1 c1 J1) (fun o M1 => ∃ z T2 c2 J2, o = .inl (some (gi v)) ∧ M1 = gm T2 c2 J2 ∧ ESP E z T2 c2 J2)) (hend : ∀ z T2 c2 J2 (k b : Value), ESP E z T2 c2 J2 → am_nl k = true → am_nl b = true → gw d 5 387 3366 [.ref 800000, .ref 500000, .ref 500001, .ref 500002, gi i, k, b] [] (gm T2 c2 J2) Q) : gw d 5 387 1635 [.ref 800000, .ref 500000, .ref 500001, .ref 500002, gi i, u5, u6] [] (gm T c J) Q := by
  refine gw_al1 at387_1635 (gw_call1 at387_1636 h1 (by omega) (Nat.le_of_ble_eq_true rfl) (fun o M1 q => ?_))
  obtain ⟨v, T1, c1, J1, rfl, rfl, hR⟩ := q
  obtain ⟨hr, e⟩ := h2 v T1 c1 J1 hR
  show gw _ _ _ _ _ (gi v :: _) _ _
  refine gw_al2 at387_1639 (gw_call1 at387_1640 e (by omega) (Nat.le_of_ble_eq_true rfl) (fun o M1 q2 => ?_))
  obtain ⟨z, T2, c2, J2, rfl, rfl, hE⟩ := q2
  show gw _ _ _ _ _ (gi v :: _) _ _
  exact gw_ceq at387_1643 hr hr (fun _ => hend _ T2 c2 J2 _ _ hE hu hv) (fun q => absurd rfl q)
set_option maxHeartbeats 1000000 in
theorem lc_31 {d HW HM : Nat} {T : gT} {c J : gC} {L : Nat} {i : Int} {E : gT → gC → gC → Prop} {Q : am_O → am_M → Prop} {hm : Nat → Int} {R : (Int ⊕ Nat) → gT → gC → gC → Prop} {u5 u6 : Value} (hHW : HW + 1 ≤ d) (hHM : HM + 1 ≤ d) (hL : (T.1 800000).1 = 41 ∧ (T.1 800000).2.1 = L) (hL2 : L ≤ 3072) (hi : 0 ≤ i ∧ i + 6 ≤ (L : Int)) (hu : am_nl u5 = true) (hv : am_nl u6 = true) (h1 : gE 5 360 HW [.ref 500000, gi (c 800000 (i + 1)), .ref 500002] (gm T c J) (gW hm R)) (h2 : ∀ v T1 c1 J1, R (.inl v) T1 c1 J1 → SCP L c T1 c1 ∧ gE 5 256 HM [.ref 500001, gi (c 800000 (i + 1))] (gm T1 c1 (gu J1 500002 0 v)) (fun o M1 => ∃ T2 c2 J2, o = .inl (some (gi v)) ∧ M1 = gm T2 c2 J2 ∧ ESP E 0 T2 c2 J2 ∧ J2 500002 0 = v ∧ -2147483648 ≤ v ∧ v < 2147483648)) (h3 : ∀ X T1 c1 J1, R (.inr X) T1 c1 J1 → (1 ≤ hm X ∧ hm X ≤ 3) ∧ SCP L c (gTe T1) (gz c1 (700000 + T1.2.1 7)) ∧ gE 5 256 HM [.ref 500001, gi (c 800000 (i + 1))] (gm (gTe T1) (gz c1 (700000 + T1.2.1 7)) (gz J1 (700000 + T1.2.1 7))) (fun o M1 => ∃ b T2 c2 J2, o = .inl (some (gi b)) ∧ M1 = gm T2 c2 J2 ∧ ESP E (hm X) T2 c2 J2)) (hend : ∀ z T2 c2 J2 (k b : Value), ESP E z T2 c2 J2 → am_nl k = true → am_nl b = true → gw d 5 387 3366 [.ref 800000, .ref 500000, .ref 500001, .ref 500002, gi i, k, b] [] (gm T2 c2 J2) Q) : gw d 5 387 1648 [.ref 800000, .ref 500000, .ref 500001, .ref 500002, gi i, u5, u6] [] (gm T c J) Q := by
  refine gw_al1 at387_1648 (gw_al0 at387_1649 (gw_il4 at387_1650 (gw_const at387_1652 (gw_iadd at387_1653 (gw_ia at387_1654 (Or.inr hL.1) hL.2 (by omega) (by omega) (by omega) (gw_al3 at387_1655 (?_)))))))
  refine gw_call3 at387_1656 h1 (by omega) (Nat.le_of_ble_eq_true rfl) (fun o M1 q => ?_)
  obtain ⟨T1, c1, J1, ⟨v, hR, rfl, rfl⟩ | ⟨X, hR, rfl, rfl⟩⟩ := q
  · obtain ⟨s, e⟩ := h2 v T1 c1 J1 hR
    show gw _ _ _ _ _ (gi 0 :: _) _ _
    refine gw_is5 at387_1659 (h := ?_)
    refine gw_al2 at387_1661 (gw_al0 at387_1662 (gw_il4 at387_1663 (gw_const at387_1665 (gw_iadd at387_1666 (gw_ia at387_1667 (Or.inr s.1.1) s.1.2 (by omega) (by omega) (by omega) (?_))))))
    rw [s.2]
    refine gw_call2 at387_1668 e (by omega) (Nat.le_of_ble_eq_true rfl) (fun o M1 q2 => ?_)
    obtain ⟨T2, c2, J2, rfl, rfl, hE, hv2, hvr⟩ := q2
    have hE0 := hE
    obtain ⟨⟨g1, g2⟩, g3, g4, -⟩ := hE
    show gw _ _ _ _ _ (gi v :: _) _ _
    refine gw_is6 at387_1671 (h := ?_)
    refine gw_al2 at387_1673 (gw_callP1 at387_1674 (m_thrown g1 g2) (by omega) (Nat.le_of_ble_eq_true rfl) ?_)
    rw [g3]
    refine gw_il5 at387_1677 (gw_ceq at387_1679 (by decide) (by decide) (fun _ => ?_) (fun q => absurd rfl q))
    refine gw_il5 at387_1684 (gw_zne at387_1686 (by decide) (fun q => absurd rfl q) (fun _ => ?_))
    refine gw_al3 at387_1689 (gw_const at387_1690 (gw_la at387_1691 g4.1 g4.2 (by decide) (by decide) (by decide) ?_))
    rw [hv2]
    refine gw_il6 at387_1692 (gw_i2l at387_1694 hvr (gw_lceq at387_1695 at387_1696 (by omega) (by omega) (fun _ => ?_) (fun q => absurd rfl q)))
    exact gw_goto at387_1701 (hend _ T2 c2 J2 _ _ hE0 rfl rfl)
  · obtain ⟨hk, s, e⟩ := h3 X T1 c1 J1 hR
    show gw _ _ _ _ _ (gi (hm X) :: _) _ _
    refine gw_is5 at387_1659 (h := ?_)
    refine gw_al2 at387_1661 (gw_al0 at387_1662 (gw_il4 at387_1663 (gw_const at387_1665 (gw_iadd at387_1666 (gw_ia at387_1667 (Or.inr s.1.1) s.1.2 (by omega) (by omega) (by omega) (?_))))))
    rw [s.2]
    refine gw_call2 at387_1668 e (by omega) (Nat.le_of_ble_eq_true rfl) (fun o M1 q2 => ?_)
    obtain ⟨b, T2, c2, J2, rfl, rfl, hE⟩ := q2
    have hE0 := hE
    obtain ⟨⟨g1, g2⟩, g3, g4, -⟩ := hE
    show gw _ _ _ _ _ (gi b :: _) _ _
    refine gw_is6 at387_1671 (h := ?_)
    refine gw_al2 at387_1673 (gw_callP1 at387_1674 (m_thrown g1 g2) (by omega) (Nat.le_of_ble_eq_true rfl) ?_)
    rw [g3]
    refine gw_il5 at387_1677 (gw_ceq at387_1679 (by omega) (by omega) (fun _ => ?_) (fun q => absurd rfl q))
    refine gw_il5 at387_1684 (gw_zne at387_1686 (by omega) (fun _ => ?_) (fun q => absurd q (by omega)))
    exact gw_goto at387_1701 (hend _ T2 c2 J2 _ _ hE0 rfl rfl)
set_option maxHeartbeats 1000000 in
theorem lc_32 {d HW HM : Nat} {T : gT} {c J : gC} {L : Nat} {i : Int} {E : gT → gC → gC → Prop} {Q : am_O → am_M → Prop} {hm : Nat → Int} {R : (Int ⊕ Nat) → gT → gC → gC → Prop} {u5 u6 : Value} (hHW : HW + 1 ≤ d) (hHM : HM + 1 ≤ d) (hL : (T.1 800000).1 = 41 ∧ (T.1 800000).2.1 = L) (hL2 : L ≤ 3072) (hi : 0 ≤ i ∧ i + 6 ≤ (L : Int)) (hu : am_nl u5 = true) (hv : am_nl u6 = true) (h1 : gE 5 361 HW [.ref 500000, gi (c 800000 (i + 1)), .ref 500002] (gm T c J) (gW hm R)) (h2 : ∀ v T1 c1 J1, R (.inl v) T1 c1 J1 → SCP L c T1 c1 ∧ gE 5 257 HM [.ref 500001, gi (c 800000 (i + 1))] (gm T1 c1 (gu J1 500002 0 v)) (fun o M1 => ∃ T2 c2 J2, o = .inl (some (gi v)) ∧ M1 = gm T2 c2 J2 ∧ ESP E 0 T2 c2 J2 ∧ J2 500002 0 = v ∧ -2147483648 ≤ v ∧ v < 2147483648)) (h3 : ∀ X T1 c1 J1, R (.inr X) T1 c1 J1 → (1 ≤ hm X ∧ hm X ≤ 3) ∧ SCP L c (gTe T1) (gz c1 (700000 + T1.2.1 7)) ∧ gE 5 257 HM [.ref 500001, gi (c 800000 (i + 1))] (gm (gTe T1) (gz c1 (700000 + T1.2.1 7)) (gz J1 (700000 + T1.2.1 7))) (fun o M1 => ∃ b T2 c2 J2, o = .inl (some (gi b)) ∧ M1 = gm T2 c2 J2 ∧ ESP E (hm X) T2 c2 J2)) (hend : ∀ z T2 c2 J2 (k b : Value), ESP E z T2 c2 J2 → am_nl k = true → am_nl b = true → gw d 5 387 3366 [.ref 800000, .ref 500000, .ref 500001, .ref 500002, gi i, k, b] [] (gm T2 c2 J2) Q) : gw d 5 387 1704 [.ref 800000, .ref 500000, .ref 500001, .ref 500002, gi i, u5, u6] [] (gm T c J) Q := by
  refine gw_al1 at387_1704 (gw_al0 at387_1705 (gw_il4 at387_1706 (gw_const at387_1708 (gw_iadd at387_1709 (gw_ia at387_1710 (Or.inr hL.1) hL.2 (by omega) (by omega) (by omega) (gw_al3 at387_1711 (?_)))))))
  refine gw_call3 at387_1712 h1 (by omega) (Nat.le_of_ble_eq_true rfl) (fun o M1 q => ?_)
  obtain ⟨T1, c1, J1, ⟨v, hR, rfl, rfl⟩ | ⟨X, hR, rfl, rfl⟩⟩ := q
  · obtain ⟨s, e⟩ := h2 v T1 c1 J1 hR
    show gw _ _ _ _ _ (gi 0 :: _) _ _
    refine gw_is5 at387_1715 (h := ?_)
    refine gw_al2 at387_1717 (gw_al0 at387_1718 (gw_il4 at387_1719 (gw_const at387_1721 (gw_iadd at387_1722 (gw_ia at387_1723 (Or.inr s.1.1) s.1.2 (by omega) (by omega) (by omega) (?_))))))
    rw [s.2]
    refine gw_call2 at387_1724 e (by omega) (Nat.le_of_ble_eq_true rfl) (fun o M1 q2 => ?_)
    obtain ⟨T2, c2, J2, rfl, rfl, hE, hv2, hvr⟩ := q2
    have hE0 := hE
    obtain ⟨⟨g1, g2⟩, g3, g4, -⟩ := hE
    show gw _ _ _ _ _ (gi v :: _) _ _
    refine gw_is6 at387_1727 (h := ?_)
    refine gw_al2 at387_1729 (gw_callP1 at387_1730 (m_thrown g1 g2) (by omega) (Nat.le_of_ble_eq_true rfl) ?_)
    rw [g3]
    refine gw_il5 at387_1733 (gw_ceq at387_1735 (by decide) (by decide) (fun _ => ?_) (fun q => absurd rfl q))
    refine gw_il5 at387_1740 (gw_zne at387_1742 (by decide) (fun q => absurd rfl q) (fun _ => ?_))
    refine gw_al3 at387_1745 (gw_const at387_1746 (gw_la at387_1747 g4.1 g4.2 (by decide) (by decide) (by decide) ?_))
    rw [hv2]
    refine gw_il6 at387_1748 (gw_i2l at387_1750 hvr (gw_lceq at387_1751 at387_1752 (by omega) (by omega) (fun _ => ?_) (fun q => absurd rfl q)))
    exact gw_goto at387_1757 (hend _ T2 c2 J2 _ _ hE0 rfl rfl)
  · obtain ⟨hk, s, e⟩ := h3 X T1 c1 J1 hR
    show gw _ _ _ _ _ (gi (hm X) :: _) _ _
    refine gw_is5 at387_1715 (h := ?_)
    refine gw_al2 at387_1717 (gw_al0 at387_1718 (gw_il4 at387_1719 (gw_const at387_1721 (gw_iadd at387_1722 (gw_ia at387_1723 (Or.inr s.1.1) s.1.2 (by omega) (by omega) (by omega) (?_))))))
    rw [s.2]
    refine gw_call2 at387_1724 e (by omega) (Nat.le_of_ble_eq_true rfl) (fun o M1 q2 => ?_)
    obtain ⟨b, T2, c2, J2, rfl, rfl, hE⟩ := q2
    have hE0 := hE
    obtain ⟨⟨g1, g2⟩, g3, g4, -⟩ := hE
    show gw _ _ _ _ _ (gi b :: _) _ _
    refine gw_is6 at387_1727 (h := ?_)
    refine gw_al2 at387_1729 (gw_callP1 at387_1730 (m_thrown g1 g2) (by omega) (Nat.le_of_ble_eq_true rfl) ?_)
    rw [g3]
    refine gw_il5 at387_1733 (gw_ceq at387_1735 (by omega) (by omega) (fun _ => ?_) (fun q => absurd rfl q))
    refine gw_il5 at387_1740 (gw_zne at387_1742 (by omega) (fun _ => ?_) (fun q => absurd q (by omega)))
    exact gw_goto at387_1757 (hend _ T2 c2 J2 _ _ hE0 rfl rfl)
set_option maxHeartbeats 1000000 in
theorem lc_33 {d HW HM : Nat} {T : gT} {c J : gC} {L : Nat} {i : Int} {E : gT → gC → gC → Prop} {Q : am_O → am_M → Prop} {hm : Nat → Int} {R : (Int ⊕ Nat) → gT → gC → gC → Prop} {u5 u6 : Value} (hHW : HW + 1 ≤ d) (hHM : HM + 1 ≤ d) (hL : (T.1 800000).1 = 41 ∧ (T.1 800000).2.1 = L) (hL2 : L ≤ 3072) (hi : 0 ≤ i ∧ i + 6 ≤ (L : Int)) (hu : am_nl u5 = true) (hv : am_nl u6 = true) (h1 : gE 5 362 HW [.ref 500000, gi (c 800000 (i + 1)), .ref 500002] (gm T c J) (gW hm R)) (h2 : ∀ v T1 c1 J1, R (.inl v) T1 c1 J1 → SCP L c T1 c1 ∧ gE 5 260 HM [.ref 500001, gi (c 800000 (i + 1))] (gm T1 c1 (gu J1 500002 0 v)) (fun o M1 => ∃ T2 c2 J2, o = .inl (some (gi v)) ∧ M1 = gm T2 c2 J2 ∧ ESP E 0 T2 c2 J2 ∧ J2 500002 0 = v ∧ -2147483648 ≤ v ∧ v < 2147483648)) (h3 : ∀ X T1 c1 J1, R (.inr X) T1 c1 J1 → (1 ≤ hm X ∧ hm X ≤ 3) ∧ SCP L c (gTe T1) (gz c1 (700000 + T1.2.1 7)) ∧ gE 5 260 HM [.ref 500001, gi (c 800000 (i + 1))] (gm (gTe T1) (gz c1 (700000 + T1.2.1 7)) (gz J1 (700000 + T1.2.1 7))) (fun o M1 => ∃ b T2 c2 J2, o = .inl (some (gi b)) ∧ M1 = gm T2 c2 J2 ∧ ESP E (hm X) T2 c2 J2)) (hend : ∀ z T2 c2 J2 (k b : Value), ESP E z T2 c2 J2 → am_nl k = true → am_nl b = true → gw d 5 387 3366 [.ref 800000, .ref 500000, .ref 500001, .ref 500002, gi i, k, b] [] (gm T2 c2 J2) Q) : gw d 5 387 1760 [.ref 800000, .ref 500000, .ref 500001, .ref 500002, gi i, u5, u6] [] (gm T c J) Q := by
  refine gw_al1 at387_1760 (gw_al0 at387_1761 (gw_il4 at387_1762 (gw_const at387_1764 (gw_iadd at387_1765 (gw_ia at387_1766 (Or.inr hL.1) hL.2 (by omega) (by omega) (by omega) (gw_al3 at387_1767 (?_)))))))
  refine gw_call3 at387_1768 h1 (by omega) (Nat.le_of_ble_eq_true rfl) (fun o M1 q => ?_)
  obtain ⟨T1, c1, J1, ⟨v, hR, rfl, rfl⟩ | ⟨X, hR, rfl, rfl⟩⟩ := q
  · obtain ⟨s, e⟩ := h2 v T1 c1 J1 hR
    show gw _ _ _ _ _ (gi 0 :: _) _ _
    refine gw_is5 at387_1771 (h := ?_)
    refine gw_al2 at387_1773 (gw_al0 at387_1774 (gw_il4 at387_1775 (gw_const at387_1777 (gw_iadd at387_1778 (gw_ia at387_1779 (Or.inr s.1.1) s.1.2 (by omega) (by omega) (by omega) (?_))))))
    rw [s.2]
    refine gw_call2 at387_1780 e (by omega) (Nat.le_of_ble_eq_true rfl) (fun o M1 q2 => ?_)
    obtain ⟨T2, c2, J2, rfl, rfl, hE, hv2, hvr⟩ := q2
    have hE0 := hE
    obtain ⟨⟨g1, g2⟩, g3, g4, -⟩ := hE
    show gw _ _ _ _ _ (gi v :: _) _ _
    refine gw_is6 at387_1783 (h := ?_)
    refine gw_al2 at387_1785 (gw_callP1 at387_1786 (m_thrown g1 g2) (by omega) (Nat.le_of_ble_eq_true rfl) ?_)
    rw [g3]
    refine gw_il5 at387_1789 (gw_ceq at387_1791 (by decide) (by decide) (fun _ => ?_) (fun q => absurd rfl q))
    refine gw_il5 at387_1796 (gw_zne at387_1798 (by decide) (fun q => absurd rfl q) (fun _ => ?_))
    refine gw_al3 at387_1801 (gw_const at387_1802 (gw_la at387_1803 g4.1 g4.2 (by decide) (by decide) (by decide) ?_))
    rw [hv2]
    refine gw_il6 at387_1804 (gw_i2l at387_1806 hvr (gw_lceq at387_1807 at387_1808 (by omega) (by omega) (fun _ => ?_) (fun q => absurd rfl q)))
    exact gw_goto at387_1813 (hend _ T2 c2 J2 _ _ hE0 rfl rfl)
  · obtain ⟨hk, s, e⟩ := h3 X T1 c1 J1 hR
    show gw _ _ _ _ _ (gi (hm X) :: _) _ _
    refine gw_is5 at387_1771 (h := ?_)
    refine gw_al2 at387_1773 (gw_al0 at387_1774 (gw_il4 at387_1775 (gw_const at387_1777 (gw_iadd at387_1778 (gw_ia at387_1779 (Or.inr s.1.1) s.1.2 (by omega) (by omega) (by omega) (?_))))))
    rw [s.2]
    refine gw_call2 at387_1780 e (by omega) (Nat.le_of_ble_eq_true rfl) (fun o M1 q2 => ?_)
    obtain ⟨b, T2, c2, J2, rfl, rfl, hE⟩ := q2
    have hE0 := hE
    obtain ⟨⟨g1, g2⟩, g3, g4, -⟩ := hE
    show gw _ _ _ _ _ (gi b :: _) _ _
    refine gw_is6 at387_1783 (h := ?_)
    refine gw_al2 at387_1785 (gw_callP1 at387_1786 (m_thrown g1 g2) (by omega) (Nat.le_of_ble_eq_true rfl) ?_)
    rw [g3]
    refine gw_il5 at387_1789 (gw_ceq at387_1791 (by omega) (by omega) (fun _ => ?_) (fun q => absurd rfl q))
    refine gw_il5 at387_1796 (gw_zne at387_1798 (by omega) (fun _ => ?_) (fun q => absurd q (by omega)))
    exact gw_goto at387_1813 (hend _ T2 c2 J2 _ _ hE0 rfl rfl)
set_option maxHeartbeats 1000000 in
theorem lc_34 {d HW HM : Nat} {T : gT} {c J : gC} {i : Int} {E : gT → gC → gC → Prop} {Q : am_O → am_M → Prop} {R : Int → gT → gC → gC → Prop} {u5 u6 : Value} (hHW : HW + 1 ≤ d) (hHM : HM + 1 ≤ d) (hu : am_nl u5 = true) (hv : am_nl u6 = true) (h1 : gE 5 135 HW [.ref 500000] (gm T c J) (fun o M1 => ∃ v T1 c1 J1, o = .inl (some (gl v)) ∧ M1 = gm T1 c1 J1 ∧ R v T1 c1 J1)) (h2 : ∀ v T1 c1 J1, R v T1 c1 J1 → (-9223372036854775808 ≤ v ∧ v < 9223372036854775808) ∧ gE 5 261 HM [.ref 500001] (gm T1 c1 J1) (fun o M1 => ∃ z T2 c2 J2, o = .inl (some (gl v)) ∧ M1 = gm T2 c2 J2 ∧ ESP E z T2 c2 J2)) (hend : ∀ z T2 c2 J2 (k b : Value), ESP E z T2 c2 J2 → am_nl k = true → am_nl b = true → gw d 5 387 3366 [.ref 800000, .ref 500000, .ref 500001, .ref 500002, gi i, k, b] [] (gm T2 c2 J2) Q) : gw d 5 387 1816 [.ref 800000, .ref 500000, .ref 500001, .ref 500002, gi i, u5, u6] [] (gm T c J) Q := by
  refine gw_al1 at387_1816 (gw_call1 at387_1817 h1 (by omega) (Nat.le_of_ble_eq_true rfl) (fun o M1 q => ?_))
  obtain ⟨v, T1, c1, J1, rfl, rfl, hR⟩ := q
  obtain ⟨hr, e⟩ := h2 v T1 c1 J1 hR
  show gw _ _ _ _ _ (gl v :: _) _ _
  refine gw_al2 at387_1820 (gw_call1 at387_1821 e (by omega) (Nat.le_of_ble_eq_true rfl) (fun o M1 q2 => ?_))
  obtain ⟨z, T2, c2, J2, rfl, rfl, hE⟩ := q2
  show gw _ _ _ _ _ (gl v :: _) _ _
  exact gw_lceq at387_1824 at387_1825 hr hr (fun _ => hend _ T2 c2 J2 _ _ hE hu hv) (fun q => absurd rfl q)
set_option maxHeartbeats 1000000 in
theorem lc_35 {d HW HM : Nat} {T : gT} {c J : gC} {L : Nat} {i : Int} {E : gT → gC → gC → Prop} {Q : am_O → am_M → Prop} {hm : Nat → Int} {R : (Int ⊕ Nat) → gT → gC → gC → Prop} {u5 u6 : Value} (hHW : HW + 1 ≤ d) (hHM : HM + 1 ≤ d) (hL : (T.1 800000).1 = 41 ∧ (T.1 800000).2.1 = L) (hL2 : L ≤ 3072) (hi : 0 ≤ i ∧ i + 6 ≤ (L : Int)) (hu : am_nl u5 = true) (hv : am_nl u6 = true) (h1 : gE 5 363 HW [.ref 500000, gi (c 800000 (i + 1)), gi (c 800000 (i + 2)), .ref 500002] (gm T c J) (gW hm R)) (h2 : ∀ v T1 c1 J1, R (.inl v) T1 c1 J1 → SCP L c T1 c1 ∧ gE 5 263 HM [.ref 500001, gi (c 800000 (i + 1)), gi (c 800000 (i + 2))] (gm T1 c1 (gu J1 500002 0 v)) (fun o M1 => ∃ T2 c2 J2, o = .inl (some (gi v)) ∧ M1 = gm T2 c2 J2 ∧ ESP E 0 T2 c2 J2 ∧ J2 500002 0 = v ∧ -2147483648 ≤ v ∧ v < 2147483648)) (h3 : ∀ X T1 c1 J1, R (.inr X) T1 c1 J1 → (1 ≤ hm X ∧ hm X ≤ 3) ∧ SCP L c (gTe T1) (gz c1 (700000 + T1.2.1 7)) ∧ gE 5 263 HM [.ref 500001, gi (c 800000 (i + 1)), gi (c 800000 (i + 2))] (gm (gTe T1) (gz c1 (700000 + T1.2.1 7)) (gz J1 (700000 + T1.2.1 7))) (fun o M1 => ∃ b T2 c2 J2, o = .inl (some (gi b)) ∧ M1 = gm T2 c2 J2 ∧ ESP E (hm X) T2 c2 J2)) (hend : ∀ z T2 c2 J2 (k b : Value), ESP E z T2 c2 J2 → am_nl k = true → am_nl b = true → gw d 5 387 3366 [.ref 800000, .ref 500000, .ref 500001, .ref 500002, gi i, k, b] [] (gm T2 c2 J2) Q) : gw d 5 387 1830 [.ref 800000, .ref 500000, .ref 500001, .ref 500002, gi i, u5, u6] [] (gm T c J) Q := by
  refine gw_al1 at387_1830 (gw_al0 at387_1831 (gw_il4 at387_1832 (gw_const at387_1834 (gw_iadd at387_1835 (gw_ia at387_1836 (Or.inr hL.1) hL.2 (by omega) (by omega) (by omega) (gw_al0 at387_1837 (gw_il4 at387_1838 (gw_const at387_1840 (gw_iadd at387_1841 (gw_ia at387_1842 (Or.inr hL.1) hL.2 (by omega) (by omega) (by omega) (gw_al3 at387_1843 (?_))))))))))))
  refine gw_call4 at387_1844 h1 (by omega) (Nat.le_of_ble_eq_true rfl) (fun o M1 q => ?_)
  obtain ⟨T1, c1, J1, ⟨v, hR, rfl, rfl⟩ | ⟨X, hR, rfl, rfl⟩⟩ := q
  · obtain ⟨s, e⟩ := h2 v T1 c1 J1 hR
    show gw _ _ _ _ _ (gi 0 :: _) _ _
    refine gw_is5 at387_1847 (h := ?_)
    refine gw_al2 at387_1849 (gw_al0 at387_1850 (gw_il4 at387_1851 (gw_const at387_1853 (gw_iadd at387_1854 (gw_ia at387_1855 (Or.inr s.1.1) s.1.2 (by omega) (by omega) (by omega) (gw_al0 at387_1856 (gw_il4 at387_1857 (gw_const at387_1859 (gw_iadd at387_1860 (gw_ia at387_1861 (Or.inr s.1.1) s.1.2 (by omega) (by omega) (by omega) (?_)))))))))))
    rw [s.2]
    refine gw_call3 at387_1862 e (by omega) (Nat.le_of_ble_eq_true rfl) (fun o M1 q2 => ?_)
    obtain ⟨T2, c2, J2, rfl, rfl, hE, hv2, hvr⟩ := q2
    have hE0 := hE
    obtain ⟨⟨g1, g2⟩, g3, g4, -⟩ := hE
    show gw _ _ _ _ _ (gi v :: _) _ _
    refine gw_is6 at387_1865 (h := ?_)
    refine gw_al2 at387_1867 (gw_callP1 at387_1868 (m_thrown g1 g2) (by omega) (Nat.le_of_ble_eq_true rfl) ?_)
    rw [g3]
    refine gw_il5 at387_1871 (gw_ceq at387_1873 (by decide) (by decide) (fun _ => ?_) (fun q => absurd rfl q))
    refine gw_il5 at387_1878 (gw_zne at387_1880 (by decide) (fun q => absurd rfl q) (fun _ => ?_))
    refine gw_al3 at387_1883 (gw_const at387_1884 (gw_la at387_1885 g4.1 g4.2 (by decide) (by decide) (by decide) ?_))
    rw [hv2]
    refine gw_il6 at387_1886 (gw_i2l at387_1888 hvr (gw_lceq at387_1889 at387_1890 (by omega) (by omega) (fun _ => ?_) (fun q => absurd rfl q)))
    exact gw_goto at387_1895 (hend _ T2 c2 J2 _ _ hE0 rfl rfl)
  · obtain ⟨hk, s, e⟩ := h3 X T1 c1 J1 hR
    show gw _ _ _ _ _ (gi (hm X) :: _) _ _
    refine gw_is5 at387_1847 (h := ?_)
    refine gw_al2 at387_1849 (gw_al0 at387_1850 (gw_il4 at387_1851 (gw_const at387_1853 (gw_iadd at387_1854 (gw_ia at387_1855 (Or.inr s.1.1) s.1.2 (by omega) (by omega) (by omega) (gw_al0 at387_1856 (gw_il4 at387_1857 (gw_const at387_1859 (gw_iadd at387_1860 (gw_ia at387_1861 (Or.inr s.1.1) s.1.2 (by omega) (by omega) (by omega) (?_)))))))))))
    rw [s.2]
    refine gw_call3 at387_1862 e (by omega) (Nat.le_of_ble_eq_true rfl) (fun o M1 q2 => ?_)
    obtain ⟨b, T2, c2, J2, rfl, rfl, hE⟩ := q2
    have hE0 := hE
    obtain ⟨⟨g1, g2⟩, g3, g4, -⟩ := hE
    show gw _ _ _ _ _ (gi b :: _) _ _
    refine gw_is6 at387_1865 (h := ?_)
    refine gw_al2 at387_1867 (gw_callP1 at387_1868 (m_thrown g1 g2) (by omega) (Nat.le_of_ble_eq_true rfl) ?_)
    rw [g3]
    refine gw_il5 at387_1871 (gw_ceq at387_1873 (by omega) (by omega) (fun _ => ?_) (fun q => absurd rfl q))
    refine gw_il5 at387_1878 (gw_zne at387_1880 (by omega) (fun _ => ?_) (fun q => absurd q (by omega)))
    exact gw_goto at387_1895 (hend _ T2 c2 J2 _ _ hE0 rfl rfl)
set_option maxHeartbeats 1000000 in
theorem lc_36 {d HW HM : Nat} {T : gT} {c J : gC} {L : Nat} {i : Int} {E : gT → gC → gC → Prop} {Q : am_O → am_M → Prop} {hm : Nat → Int} {R : (Int ⊕ Nat) → gT → gC → gC → Prop} {u5 u6 : Value} (hHW : HW + 1 ≤ d) (hHM : HM + 1 ≤ d) (hL : (T.1 800000).1 = 41 ∧ (T.1 800000).2.1 = L) (hL2 : L ≤ 3072) (hi : 0 ≤ i ∧ i + 6 ≤ (L : Int)) (hu : am_nl u5 = true) (hv : am_nl u6 = true) (h1 : gE 5 364 HW [.ref 500000, gi (c 800000 (i + 1)), .ref 500002] (gm T c J) (gW hm R)) (h2 : ∀ v T1 c1 J1, R (.inl v) T1 c1 J1 → SCP L c T1 c1 ∧ gE 5 272 HM [.ref 500001, gi (c 800000 (i + 1))] (gm T1 c1 (gu J1 500002 0 v)) (fun o M1 => ∃ T2 c2 J2, o = .inl (some (gi v)) ∧ M1 = gm T2 c2 J2 ∧ ESP E 0 T2 c2 J2 ∧ J2 500002 0 = v ∧ -2147483648 ≤ v ∧ v < 2147483648)) (h3 : ∀ X T1 c1 J1, R (.inr X) T1 c1 J1 → (1 ≤ hm X ∧ hm X ≤ 3) ∧ SCP L c (gTe T1) (gz c1 (700000 + T1.2.1 7)) ∧ gE 5 272 HM [.ref 500001, gi (c 800000 (i + 1))] (gm (gTe T1) (gz c1 (700000 + T1.2.1 7)) (gz J1 (700000 + T1.2.1 7))) (fun o M1 => ∃ b T2 c2 J2, o = .inl (some (gi b)) ∧ M1 = gm T2 c2 J2 ∧ ESP E (hm X) T2 c2 J2)) (hend : ∀ z T2 c2 J2 (k b : Value), ESP E z T2 c2 J2 → am_nl k = true → am_nl b = true → gw d 5 387 3366 [.ref 800000, .ref 500000, .ref 500001, .ref 500002, gi i, k, b] [] (gm T2 c2 J2) Q) : gw d 5 387 1898 [.ref 800000, .ref 500000, .ref 500001, .ref 500002, gi i, u5, u6] [] (gm T c J) Q := by
  refine gw_al1 at387_1898 (gw_al0 at387_1899 (gw_il4 at387_1900 (gw_const at387_1902 (gw_iadd at387_1903 (gw_ia at387_1904 (Or.inr hL.1) hL.2 (by omega) (by omega) (by omega) (gw_al3 at387_1905 (?_)))))))
  refine gw_call3 at387_1906 h1 (by omega) (Nat.le_of_ble_eq_true rfl) (fun o M1 q => ?_)
  obtain ⟨T1, c1, J1, ⟨v, hR, rfl, rfl⟩ | ⟨X, hR, rfl, rfl⟩⟩ := q
  · obtain ⟨s, e⟩ := h2 v T1 c1 J1 hR
    show gw _ _ _ _ _ (gi 0 :: _) _ _
    refine gw_is5 at387_1909 (h := ?_)
    refine gw_al2 at387_1911 (gw_al0 at387_1912 (gw_il4 at387_1913 (gw_const at387_1915 (gw_iadd at387_1916 (gw_ia at387_1917 (Or.inr s.1.1) s.1.2 (by omega) (by omega) (by omega) (?_))))))
    rw [s.2]
    refine gw_call2 at387_1918 e (by omega) (Nat.le_of_ble_eq_true rfl) (fun o M1 q2 => ?_)
    obtain ⟨T2, c2, J2, rfl, rfl, hE, hv2, hvr⟩ := q2
    have hE0 := hE
    obtain ⟨⟨g1, g2⟩, g3, g4, -⟩ := hE
    show gw _ _ _ _ _ (gi v :: _) _ _
    refine gw_is6 at387_1921 (h := ?_)
    refine gw_al2 at387_1923 (gw_callP1 at387_1924 (m_thrown g1 g2) (by omega) (Nat.le_of_ble_eq_true rfl) ?_)
    rw [g3]
    refine gw_il5 at387_1927 (gw_ceq at387_1929 (by decide) (by decide) (fun _ => ?_) (fun q => absurd rfl q))
    refine gw_il5 at387_1934 (gw_zne at387_1936 (by decide) (fun q => absurd rfl q) (fun _ => ?_))
    refine gw_al3 at387_1939 (gw_const at387_1940 (gw_la at387_1941 g4.1 g4.2 (by decide) (by decide) (by decide) ?_))
    rw [hv2]
    refine gw_il6 at387_1942 (gw_i2l at387_1944 hvr (gw_lceq at387_1945 at387_1946 (by omega) (by omega) (fun _ => ?_) (fun q => absurd rfl q)))
    exact gw_goto at387_1951 (hend _ T2 c2 J2 _ _ hE0 rfl rfl)
  · obtain ⟨hk, s, e⟩ := h3 X T1 c1 J1 hR
    show gw _ _ _ _ _ (gi (hm X) :: _) _ _
    refine gw_is5 at387_1909 (h := ?_)
    refine gw_al2 at387_1911 (gw_al0 at387_1912 (gw_il4 at387_1913 (gw_const at387_1915 (gw_iadd at387_1916 (gw_ia at387_1917 (Or.inr s.1.1) s.1.2 (by omega) (by omega) (by omega) (?_))))))
    rw [s.2]
    refine gw_call2 at387_1918 e (by omega) (Nat.le_of_ble_eq_true rfl) (fun o M1 q2 => ?_)
    obtain ⟨b, T2, c2, J2, rfl, rfl, hE⟩ := q2
    have hE0 := hE
    obtain ⟨⟨g1, g2⟩, g3, g4, -⟩ := hE
    show gw _ _ _ _ _ (gi b :: _) _ _
    refine gw_is6 at387_1921 (h := ?_)
    refine gw_al2 at387_1923 (gw_callP1 at387_1924 (m_thrown g1 g2) (by omega) (Nat.le_of_ble_eq_true rfl) ?_)
    rw [g3]
    refine gw_il5 at387_1927 (gw_ceq at387_1929 (by omega) (by omega) (fun _ => ?_) (fun q => absurd rfl q))
    refine gw_il5 at387_1934 (gw_zne at387_1936 (by omega) (fun _ => ?_) (fun q => absurd q (by omega)))
    exact gw_goto at387_1951 (hend _ T2 c2 J2 _ _ hE0 rfl rfl)
set_option maxHeartbeats 1000000 in
theorem lc_37 {d HW HM : Nat} {T : gT} {c J : gC} {L : Nat} {i : Int} {E : gT → gC → gC → Prop} {Q : am_O → am_M → Prop} {hm : Nat → Int} {R : (Int ⊕ Nat) → gT → gC → gC → Prop} {u5 u6 : Value} (hHW : HW + 1 ≤ d) (hHM : HM + 1 ≤ d) (hL : (T.1 800000).1 = 41 ∧ (T.1 800000).2.1 = L) (hL2 : L ≤ 3072) (hi : 0 ≤ i ∧ i + 6 ≤ (L : Int)) (hu : am_nl u5 = true) (hv : am_nl u6 = true) {p : Bool} (hp : p = decide (¬ c 800000 (i + 2) = 0)) (hs : -2147483648 ≤ c 800000 (i + 2) ∧ c 800000 (i + 2) < 2147483648) (h1 : gE 5 365 HW [.ref 500000, gi (c 800000 (i + 1)), gi (bi p), .ref 500002] (gm T c J) (gW hm R)) (h2 : ∀ v T1 c1 J1, R (.inl v) T1 c1 J1 → SCP L c T1 c1 ∧ gE 5 273 HM [.ref 500001, gi (c 800000 (i + 1)), gi (bi p)] (gm T1 c1 (gu J1 500002 0 v)) (fun o M1 => ∃ T2 c2 J2, o = .inl (some (gi v)) ∧ M1 = gm T2 c2 J2 ∧ ESP E 0 T2 c2 J2 ∧ J2 500002 0 = v ∧ -2147483648 ≤ v ∧ v < 2147483648)) (h3 : ∀ X T1 c1 J1, R (.inr X) T1 c1 J1 → (1 ≤ hm X ∧ hm X ≤ 3) ∧ SCP L c (gTe T1) (gz c1 (700000 + T1.2.1 7)) ∧ gE 5 273 HM [.ref 500001, gi (c 800000 (i + 1)), gi (bi p)] (gm (gTe T1) (gz c1 (700000 + T1.2.1 7)) (gz J1 (700000 + T1.2.1 7))) (fun o M1 => ∃ b T2 c2 J2, o = .inl (some (gi b)) ∧ M1 = gm T2 c2 J2 ∧ ESP E (hm X) T2 c2 J2)) (hend : ∀ z T2 c2 J2 (k b : Value), ESP E z T2 c2 J2 → am_nl k = true → am_nl b = true → gw d 5 387 3366 [.ref 800000, .ref 500000, .ref 500001, .ref 500002, gi i, k, b] [] (gm T2 c2 J2) Q) : gw d 5 387 1954 [.ref 800000, .ref 500000, .ref 500001, .ref 500002, gi i, u5, u6] [] (gm T c J) Q := by
  refine gw_al1 at387_1954 (gw_al0 at387_1955 (gw_il4 at387_1956 (gw_const at387_1958 (gw_iadd at387_1959 (gw_ia at387_1960 (Or.inr hL.1) hL.2 (by omega) (by omega) (by omega) (gw_al0 at387_1961 (gw_il4 at387_1962 (gw_const at387_1964 (gw_iadd at387_1965 (gw_ia at387_1966 (Or.inr hL.1) hL.2 (by omega) (by omega) (by omega) (?_)))))))))))
  refine gw_bsel at387_1967 at387_1970 at387_1971 at387_1974 hs hp ?_
  refine gw_al3 at387_1975 (?_)
  refine gw_call4 at387_1976 h1 (by omega) (Nat.le_of_ble_eq_true rfl) (fun o M1 q => ?_)
  obtain ⟨T1, c1, J1, ⟨v, hR, rfl, rfl⟩ | ⟨X, hR, rfl, rfl⟩⟩ := q
  · obtain ⟨s, e⟩ := h2 v T1 c1 J1 hR
    show gw _ _ _ _ _ (gi 0 :: _) _ _
    refine gw_is5 at387_1979 (h := ?_)
    refine gw_al2 at387_1981 (gw_al0 at387_1982 (gw_il4 at387_1983 (gw_const at387_1985 (gw_iadd at387_1986 (gw_ia at387_1987 (Or.inr s.1.1) s.1.2 (by omega) (by omega) (by omega) (gw_al0 at387_1988 (gw_il4 at387_1989 (gw_const at387_1991 (gw_iadd at387_1992 (gw_ia at387_1993 (Or.inr s.1.1) s.1.2 (by omega) (by omega) (by omega) (?_)))))))))))
    rw [s.2]
    refine gw_bsel at387_1994 at387_1997 at387_1998 at387_2001 hs hp ?_
    refine gw_call3 at387_2002 e (by omega) (Nat.le_of_ble_eq_true rfl) (fun o M1 q2 => ?_)
    obtain ⟨T2, c2, J2, rfl, rfl, hE, hv2, hvr⟩ := q2
    have hE0 := hE
    obtain ⟨⟨g1, g2⟩, g3, g4, -⟩ := hE
    show gw _ _ _ _ _ (gi v :: _) _ _
    refine gw_is6 at387_2005 (h := ?_)
    refine gw_al2 at387_2007 (gw_callP1 at387_2008 (m_thrown g1 g2) (by omega) (Nat.le_of_ble_eq_true rfl) ?_)
    rw [g3]
    refine gw_il5 at387_2011 (gw_ceq at387_2013 (by decide) (by decide) (fun _ => ?_) (fun q => absurd rfl q))
    refine gw_il5 at387_2018 (gw_zne at387_2020 (by decide) (fun q => absurd rfl q) (fun _ => ?_))
    refine gw_al3 at387_2023 (gw_const at387_2024 (gw_la at387_2025 g4.1 g4.2 (by decide) (by decide) (by decide) ?_))
    rw [hv2]
    refine gw_il6 at387_2026 (gw_i2l at387_2028 hvr (gw_lceq at387_2029 at387_2030 (by omega) (by omega) (fun _ => ?_) (fun q => absurd rfl q)))
    exact gw_goto at387_2035 (hend _ T2 c2 J2 _ _ hE0 rfl rfl)
  · obtain ⟨hk, s, e⟩ := h3 X T1 c1 J1 hR
    show gw _ _ _ _ _ (gi (hm X) :: _) _ _
    refine gw_is5 at387_1979 (h := ?_)
    refine gw_al2 at387_1981 (gw_al0 at387_1982 (gw_il4 at387_1983 (gw_const at387_1985 (gw_iadd at387_1986 (gw_ia at387_1987 (Or.inr s.1.1) s.1.2 (by omega) (by omega) (by omega) (gw_al0 at387_1988 (gw_il4 at387_1989 (gw_const at387_1991 (gw_iadd at387_1992 (gw_ia at387_1993 (Or.inr s.1.1) s.1.2 (by omega) (by omega) (by omega) (?_)))))))))))
    rw [s.2]
    refine gw_bsel at387_1994 at387_1997 at387_1998 at387_2001 hs hp ?_
    refine gw_call3 at387_2002 e (by omega) (Nat.le_of_ble_eq_true rfl) (fun o M1 q2 => ?_)
    obtain ⟨b, T2, c2, J2, rfl, rfl, hE⟩ := q2
    have hE0 := hE
    obtain ⟨⟨g1, g2⟩, g3, g4, -⟩ := hE
    show gw _ _ _ _ _ (gi b :: _) _ _
    refine gw_is6 at387_2005 (h := ?_)
    refine gw_al2 at387_2007 (gw_callP1 at387_2008 (m_thrown g1 g2) (by omega) (Nat.le_of_ble_eq_true rfl) ?_)
    rw [g3]
    refine gw_il5 at387_2011 (gw_ceq at387_2013 (by omega) (by omega) (fun _ => ?_) (fun q => absurd rfl q))
    refine gw_il5 at387_2018 (gw_zne at387_2020 (by omega) (fun _ => ?_) (fun q => absurd q (by omega)))
    exact gw_goto at387_2035 (hend _ T2 c2 J2 _ _ hE0 rfl rfl)
set_option maxHeartbeats 1000000 in
theorem lc_38 {d HW HM : Nat} {T : gT} {c J : gC} {L : Nat} {i : Int} {E : gT → gC → gC → Prop} {Q : am_O → am_M → Prop} {hm : Nat → Int} {R : (Int ⊕ Nat) → gT → gC → gC → Prop} {u5 u6 : Value} (hHW : HW + 1 ≤ d) (hHM : HM + 1 ≤ d) (hL : (T.1 800000).1 = 41 ∧ (T.1 800000).2.1 = L) (hL2 : L ≤ 3072) (hi : 0 ≤ i ∧ i + 6 ≤ (L : Int)) (hu : am_nl u5 = true) (hv : am_nl u6 = true) {p : Bool} (hp : p = decide (¬ c 800000 (i + 2) = 0)) (hs : -2147483648 ≤ c 800000 (i + 2) ∧ c 800000 (i + 2) < 2147483648) (h1 : gE 5 366 HW [.ref 500000, gi (c 800000 (i + 1)), gi (bi p), .ref 500002] (gm T c J) (gW hm R)) (h2 : ∀ v T1 c1 J1, R (.inl v) T1 c1 J1 → SCP L c T1 c1 ∧ gE 5 275 HM [.ref 500001, gi (c 800000 (i + 1)), gi (bi p)] (gm T1 c1 (gu J1 500002 0 v)) (fun o M1 => ∃ T2 c2 J2, o = .inl (some (gi v)) ∧ M1 = gm T2 c2 J2 ∧ ESP E 0 T2 c2 J2 ∧ J2 500002 0 = v ∧ -2147483648 ≤ v ∧ v < 2147483648)) (h3 : ∀ X T1 c1 J1, R (.inr X) T1 c1 J1 → (1 ≤ hm X ∧ hm X ≤ 3) ∧ SCP L c (gTe T1) (gz c1 (700000 + T1.2.1 7)) ∧ gE 5 275 HM [.ref 500001, gi (c 800000 (i + 1)), gi (bi p)] (gm (gTe T1) (gz c1 (700000 + T1.2.1 7)) (gz J1 (700000 + T1.2.1 7))) (fun o M1 => ∃ b T2 c2 J2, o = .inl (some (gi b)) ∧ M1 = gm T2 c2 J2 ∧ ESP E (hm X) T2 c2 J2)) (hend : ∀ z T2 c2 J2 (k b : Value), ESP E z T2 c2 J2 → am_nl k = true → am_nl b = true → gw d 5 387 3366 [.ref 800000, .ref 500000, .ref 500001, .ref 500002, gi i, k, b] [] (gm T2 c2 J2) Q) : gw d 5 387 2038 [.ref 800000, .ref 500000, .ref 500001, .ref 500002, gi i, u5, u6] [] (gm T c J) Q := by
  refine gw_al1 at387_2038 (gw_al0 at387_2039 (gw_il4 at387_2040 (gw_const at387_2042 (gw_iadd at387_2043 (gw_ia at387_2044 (Or.inr hL.1) hL.2 (by omega) (by omega) (by omega) (gw_al0 at387_2045 (gw_il4 at387_2046 (gw_const at387_2048 (gw_iadd at387_2049 (gw_ia at387_2050 (Or.inr hL.1) hL.2 (by omega) (by omega) (by omega) (?_)))))))))))
  refine gw_bsel at387_2051 at387_2054 at387_2055 at387_2058 hs hp ?_
  refine gw_al3 at387_2059 (?_)
  refine gw_call4 at387_2060 h1 (by omega) (Nat.le_of_ble_eq_true rfl) (fun o M1 q => ?_)
  obtain ⟨T1, c1, J1, ⟨v, hR, rfl, rfl⟩ | ⟨X, hR, rfl, rfl⟩⟩ := q
  · obtain ⟨s, e⟩ := h2 v T1 c1 J1 hR
    show gw _ _ _ _ _ (gi 0 :: _) _ _
    refine gw_is5 at387_2063 (h := ?_)
    refine gw_al2 at387_2065 (gw_al0 at387_2066 (gw_il4 at387_2067 (gw_const at387_2069 (gw_iadd at387_2070 (gw_ia at387_2071 (Or.inr s.1.1) s.1.2 (by omega) (by omega) (by omega) (gw_al0 at387_2072 (gw_il4 at387_2073 (gw_const at387_2075 (gw_iadd at387_2076 (gw_ia at387_2077 (Or.inr s.1.1) s.1.2 (by omega) (by omega) (by omega) (?_)))))))))))
    rw [s.2]
    refine gw_bsel at387_2078 at387_2081 at387_2082 at387_2085 hs hp ?_
    refine gw_call3 at387_2086 e (by omega) (Nat.le_of_ble_eq_true rfl) (fun o M1 q2 => ?_)
    obtain ⟨T2, c2, J2, rfl, rfl, hE, hv2, hvr⟩ := q2
    have hE0 := hE
    obtain ⟨⟨g1, g2⟩, g3, g4, -⟩ := hE
    show gw _ _ _ _ _ (gi v :: _) _ _
    refine gw_is6 at387_2089 (h := ?_)
    refine gw_al2 at387_2091 (gw_callP1 at387_2092 (m_thrown g1 g2) (by omega) (Nat.le_of_ble_eq_true rfl) ?_)
    rw [g3]
    refine gw_il5 at387_2095 (gw_ceq at387_2097 (by decide) (by decide) (fun _ => ?_) (fun q => absurd rfl q))
    refine gw_il5 at387_2102 (gw_zne at387_2104 (by decide) (fun q => absurd rfl q) (fun _ => ?_))
    refine gw_al3 at387_2107 (gw_const at387_2108 (gw_la at387_2109 g4.1 g4.2 (by decide) (by decide) (by decide) ?_))
    rw [hv2]
    refine gw_il6 at387_2110 (gw_i2l at387_2112 hvr (gw_lceq at387_2113 at387_2114 (by omega) (by omega) (fun _ => ?_) (fun q => absurd rfl q)))
    exact gw_goto at387_2119 (hend _ T2 c2 J2 _ _ hE0 rfl rfl)
  · obtain ⟨hk, s, e⟩ := h3 X T1 c1 J1 hR
    show gw _ _ _ _ _ (gi (hm X) :: _) _ _
    refine gw_is5 at387_2063 (h := ?_)
    refine gw_al2 at387_2065 (gw_al0 at387_2066 (gw_il4 at387_2067 (gw_const at387_2069 (gw_iadd at387_2070 (gw_ia at387_2071 (Or.inr s.1.1) s.1.2 (by omega) (by omega) (by omega) (gw_al0 at387_2072 (gw_il4 at387_2073 (gw_const at387_2075 (gw_iadd at387_2076 (gw_ia at387_2077 (Or.inr s.1.1) s.1.2 (by omega) (by omega) (by omega) (?_)))))))))))
    rw [s.2]
    refine gw_bsel at387_2078 at387_2081 at387_2082 at387_2085 hs hp ?_
    refine gw_call3 at387_2086 e (by omega) (Nat.le_of_ble_eq_true rfl) (fun o M1 q2 => ?_)
    obtain ⟨b, T2, c2, J2, rfl, rfl, hE⟩ := q2
    have hE0 := hE
    obtain ⟨⟨g1, g2⟩, g3, g4, -⟩ := hE
    show gw _ _ _ _ _ (gi b :: _) _ _
    refine gw_is6 at387_2089 (h := ?_)
    refine gw_al2 at387_2091 (gw_callP1 at387_2092 (m_thrown g1 g2) (by omega) (Nat.le_of_ble_eq_true rfl) ?_)
    rw [g3]
    refine gw_il5 at387_2095 (gw_ceq at387_2097 (by omega) (by omega) (fun _ => ?_) (fun q => absurd rfl q))
    refine gw_il5 at387_2102 (gw_zne at387_2104 (by omega) (fun _ => ?_) (fun q => absurd q (by omega)))
    exact gw_goto at387_2119 (hend _ T2 c2 J2 _ _ hE0 rfl rfl)
set_option maxHeartbeats 1000000 in
theorem lc_39 {d HW HM : Nat} {T : gT} {c J : gC} {L : Nat} {i : Int} {E : gT → gC → gC → Prop} {Q : am_O → am_M → Prop} {hm : Nat → Int} {R : (Int ⊕ Nat) → gT → gC → gC → Prop} {u5 u6 : Value} (hHW : HW + 1 ≤ d) (hHM : HM + 1 ≤ d) (hL : (T.1 800000).1 = 41 ∧ (T.1 800000).2.1 = L) (hL2 : L ≤ 3072) (hi : 0 ≤ i ∧ i + 6 ≤ (L : Int)) (hu : am_nl u5 = true) (hv : am_nl u6 = true) (h1 : gE 5 367 HW [.ref 500000, gi (c 800000 (i + 1)), .ref 500002] (gm T c J) (gW hm R)) (h2 : ∀ v T1 c1 J1, R (.inl v) T1 c1 J1 → SCP L c T1 c1 ∧ gE 5 276 HM [.ref 500001, gi (c 800000 (i + 1))] (gm T1 c1 (gu J1 500002 0 v)) (fun o M1 => ∃ T2 c2 J2, o = .inl (some (gi v)) ∧ M1 = gm T2 c2 J2 ∧ ESP E 0 T2 c2 J2 ∧ J2 500002 0 = v ∧ -2147483648 ≤ v ∧ v < 2147483648)) (h3 : ∀ X T1 c1 J1, R (.inr X) T1 c1 J1 → (1 ≤ hm X ∧ hm X ≤ 3) ∧ SCP L c (gTe T1) (gz c1 (700000 + T1.2.1 7)) ∧ gE 5 276 HM [.ref 500001, gi (c 800000 (i + 1))] (gm (gTe T1) (gz c1 (700000 + T1.2.1 7)) (gz J1 (700000 + T1.2.1 7))) (fun o M1 => ∃ b T2 c2 J2, o = .inl (some (gi b)) ∧ M1 = gm T2 c2 J2 ∧ ESP E (hm X) T2 c2 J2)) (hend : ∀ z T2 c2 J2 (k b : Value), ESP E z T2 c2 J2 → am_nl k = true → am_nl b = true → gw d 5 387 3366 [.ref 800000, .ref 500000, .ref 500001, .ref 500002, gi i, k, b] [] (gm T2 c2 J2) Q) : gw d 5 387 2122 [.ref 800000, .ref 500000, .ref 500001, .ref 500002, gi i, u5, u6] [] (gm T c J) Q := by
  refine gw_al1 at387_2122 (gw_al0 at387_2123 (gw_il4 at387_2124 (gw_const at387_2126 (gw_iadd at387_2127 (gw_ia at387_2128 (Or.inr hL.1) hL.2 (by omega) (by omega) (by omega) (gw_al3 at387_2129 (?_)))))))
  refine gw_call3 at387_2130 h1 (by omega) (Nat.le_of_ble_eq_true rfl) (fun o M1 q => ?_)
  obtain ⟨T1, c1, J1, ⟨v, hR, rfl, rfl⟩ | ⟨X, hR, rfl, rfl⟩⟩ := q
  · obtain ⟨s, e⟩ := h2 v T1 c1 J1 hR
    show gw _ _ _ _ _ (gi 0 :: _) _ _
    refine gw_is5 at387_2133 (h := ?_)
    refine gw_al2 at387_2135 (gw_al0 at387_2136 (gw_il4 at387_2137 (gw_const at387_2139 (gw_iadd at387_2140 (gw_ia at387_2141 (Or.inr s.1.1) s.1.2 (by omega) (by omega) (by omega) (?_))))))
    rw [s.2]
    refine gw_call2 at387_2142 e (by omega) (Nat.le_of_ble_eq_true rfl) (fun o M1 q2 => ?_)
    obtain ⟨T2, c2, J2, rfl, rfl, hE, hv2, hvr⟩ := q2
    have hE0 := hE
    obtain ⟨⟨g1, g2⟩, g3, g4, -⟩ := hE
    show gw _ _ _ _ _ (gi v :: _) _ _
    refine gw_is6 at387_2145 (h := ?_)
    refine gw_al2 at387_2147 (gw_callP1 at387_2148 (m_thrown g1 g2) (by omega) (Nat.le_of_ble_eq_true rfl) ?_)
    rw [g3]
    refine gw_il5 at387_2151 (gw_ceq at387_2153 (by decide) (by decide) (fun _ => ?_) (fun q => absurd rfl q))
    refine gw_il5 at387_2158 (gw_zne at387_2160 (by decide) (fun q => absurd rfl q) (fun _ => ?_))
    refine gw_al3 at387_2163 (gw_const at387_2164 (gw_la at387_2165 g4.1 g4.2 (by decide) (by decide) (by decide) ?_))
    rw [hv2]
    refine gw_il6 at387_2166 (gw_i2l at387_2168 hvr (gw_lceq at387_2169 at387_2170 (by omega) (by omega) (fun _ => ?_) (fun q => absurd rfl q)))
    exact gw_goto at387_2175 (hend _ T2 c2 J2 _ _ hE0 rfl rfl)
  · obtain ⟨hk, s, e⟩ := h3 X T1 c1 J1 hR
    show gw _ _ _ _ _ (gi (hm X) :: _) _ _
    refine gw_is5 at387_2133 (h := ?_)
    refine gw_al2 at387_2135 (gw_al0 at387_2136 (gw_il4 at387_2137 (gw_const at387_2139 (gw_iadd at387_2140 (gw_ia at387_2141 (Or.inr s.1.1) s.1.2 (by omega) (by omega) (by omega) (?_))))))
    rw [s.2]
    refine gw_call2 at387_2142 e (by omega) (Nat.le_of_ble_eq_true rfl) (fun o M1 q2 => ?_)
    obtain ⟨b, T2, c2, J2, rfl, rfl, hE⟩ := q2
    have hE0 := hE
    obtain ⟨⟨g1, g2⟩, g3, g4, -⟩ := hE
    show gw _ _ _ _ _ (gi b :: _) _ _
    refine gw_is6 at387_2145 (h := ?_)
    refine gw_al2 at387_2147 (gw_callP1 at387_2148 (m_thrown g1 g2) (by omega) (Nat.le_of_ble_eq_true rfl) ?_)
    rw [g3]
    refine gw_il5 at387_2151 (gw_ceq at387_2153 (by omega) (by omega) (fun _ => ?_) (fun q => absurd rfl q))
    refine gw_il5 at387_2158 (gw_zne at387_2160 (by omega) (fun _ => ?_) (fun q => absurd q (by omega)))
    exact gw_goto at387_2175 (hend _ T2 c2 J2 _ _ hE0 rfl rfl)
set_option maxHeartbeats 1000000 in
theorem lc_40 {d HW HM : Nat} {T : gT} {c J : gC} {L : Nat} {i : Int} {E : gT → gC → gC → Prop} {Q : am_O → am_M → Prop} {hm : Nat → Int} {R : (Int ⊕ Nat) → gT → gC → gC → Prop} {u5 u6 : Value} (hHW : HW + 1 ≤ d) (hHM : HM + 1 ≤ d) (hL : (T.1 800000).1 = 41 ∧ (T.1 800000).2.1 = L) (hL2 : L ≤ 3072) (hi : 0 ≤ i ∧ i + 6 ≤ (L : Int)) (hu : am_nl u5 = true) (hv : am_nl u6 = true) (h1 : gE 5 368 HW [.ref 500000, .ref 500002] (gm T c J) (gW hm R)) (h2 : ∀ v T1 c1 J1, R (.inl v) T1 c1 J1 → SCP L c T1 c1 ∧ gE 5 277 HM [.ref 500001] (gm T1 c1 (gu J1 500002 0 v)) (fun o M1 => ∃ T2 c2 J2, o = .inl (some (gi v)) ∧ M1 = gm T2 c2 J2 ∧ ESP E 0 T2 c2 J2 ∧ J2 500002 0 = v ∧ -2147483648 ≤ v ∧ v < 2147483648)) (h3 : ∀ X T1 c1 J1, R (.inr X) T1 c1 J1 → (1 ≤ hm X ∧ hm X ≤ 3) ∧ SCP L c (gTe T1) (gz c1 (700000 + T1.2.1 7)) ∧ gE 5 277 HM [.ref 500001] (gm (gTe T1) (gz c1 (700000 + T1.2.1 7)) (gz J1 (700000 + T1.2.1 7))) (fun o M1 => ∃ b T2 c2 J2, o = .inl (some (gi b)) ∧ M1 = gm T2 c2 J2 ∧ ESP E (hm X) T2 c2 J2)) (hend : ∀ z T2 c2 J2 (k b : Value), ESP E z T2 c2 J2 → am_nl k = true → am_nl b = true → gw d 5 387 3366 [.ref 800000, .ref 500000, .ref 500001, .ref 500002, gi i, k, b] [] (gm T2 c2 J2) Q) : gw d 5 387 2178 [.ref 800000, .ref 500000, .ref 500001, .ref 500002, gi i, u5, u6] [] (gm T c J) Q := by
  refine gw_al1 at387_2178 (gw_al3 at387_2179 (?_))
  refine gw_call2 at387_2180 h1 (by omega) (Nat.le_of_ble_eq_true rfl) (fun o M1 q => ?_)
  obtain ⟨T1, c1, J1, ⟨v, hR, rfl, rfl⟩ | ⟨X, hR, rfl, rfl⟩⟩ := q
  · obtain ⟨s, e⟩ := h2 v T1 c1 J1 hR
    show gw _ _ _ _ _ (gi 0 :: _) _ _
    refine gw_is5 at387_2183 (h := ?_)
    refine gw_al2 at387_2185 (?_)
    refine gw_call1 at387_2186 e (by omega) (Nat.le_of_ble_eq_true rfl) (fun o M1 q2 => ?_)
    obtain ⟨T2, c2, J2, rfl, rfl, hE, hv2, hvr⟩ := q2
    have hE0 := hE
    obtain ⟨⟨g1, g2⟩, g3, g4, -⟩ := hE
    show gw _ _ _ _ _ (gi v :: _) _ _
    refine gw_is6 at387_2189 (h := ?_)
    refine gw_al2 at387_2191 (gw_callP1 at387_2192 (m_thrown g1 g2) (by omega) (Nat.le_of_ble_eq_true rfl) ?_)
    rw [g3]
    refine gw_il5 at387_2195 (gw_ceq at387_2197 (by decide) (by decide) (fun _ => ?_) (fun q => absurd rfl q))
    refine gw_il5 at387_2202 (gw_zne at387_2204 (by decide) (fun q => absurd rfl q) (fun _ => ?_))
    refine gw_al3 at387_2207 (gw_const at387_2208 (gw_la at387_2209 g4.1 g4.2 (by decide) (by decide) (by decide) ?_))
    rw [hv2]
    refine gw_il6 at387_2210 (gw_i2l at387_2212 hvr (gw_lceq at387_2213 at387_2214 (by omega) (by omega) (fun _ => ?_) (fun q => absurd rfl q)))
    exact gw_goto at387_2219 (hend _ T2 c2 J2 _ _ hE0 rfl rfl)
  · obtain ⟨hk, s, e⟩ := h3 X T1 c1 J1 hR
    show gw _ _ _ _ _ (gi (hm X) :: _) _ _
    refine gw_is5 at387_2183 (h := ?_)
    refine gw_al2 at387_2185 (?_)
    refine gw_call1 at387_2186 e (by omega) (Nat.le_of_ble_eq_true rfl) (fun o M1 q2 => ?_)
    obtain ⟨b, T2, c2, J2, rfl, rfl, hE⟩ := q2
    have hE0 := hE
    obtain ⟨⟨g1, g2⟩, g3, g4, -⟩ := hE
    show gw _ _ _ _ _ (gi b :: _) _ _
    refine gw_is6 at387_2189 (h := ?_)
    refine gw_al2 at387_2191 (gw_callP1 at387_2192 (m_thrown g1 g2) (by omega) (Nat.le_of_ble_eq_true rfl) ?_)
    rw [g3]
    refine gw_il5 at387_2195 (gw_ceq at387_2197 (by omega) (by omega) (fun _ => ?_) (fun q => absurd rfl q))
    refine gw_il5 at387_2202 (gw_zne at387_2204 (by omega) (fun _ => ?_) (fun q => absurd q (by omega)))
    exact gw_goto at387_2219 (hend _ T2 c2 J2 _ _ hE0 rfl rfl)
set_option maxHeartbeats 1000000 in
theorem lc_41 {d HW HM : Nat} {T : gT} {c J : gC} {L : Nat} {i : Int} {E : gT → gC → gC → Prop} {Q : am_O → am_M → Prop} {hm : Nat → Int} {R : (Int ⊕ Nat) → gT → gC → gC → Prop} {u5 u6 : Value} (hHW : HW + 1 ≤ d) (hHM : HM + 1 ≤ d) (hL : (T.1 800000).1 = 41 ∧ (T.1 800000).2.1 = L) (hL2 : L ≤ 3072) (hi : 0 ≤ i ∧ i + 6 ≤ (L : Int)) (hu : am_nl u5 = true) (hv : am_nl u6 = true) (h1 : gE 5 369 HW [.ref 500000, gi (c 800000 (i + 1)), .ref 500002] (gm T c J) (gW hm R)) (h2 : ∀ v T1 c1 J1, R (.inl v) T1 c1 J1 → SCP L c T1 c1 ∧ gE 5 278 HM [.ref 500001, gi (c 800000 (i + 1))] (gm T1 c1 (gu J1 500002 0 v)) (fun o M1 => ∃ T2 c2 J2, o = .inl (some (gi v)) ∧ M1 = gm T2 c2 J2 ∧ ESP E 0 T2 c2 J2 ∧ J2 500002 0 = v ∧ -2147483648 ≤ v ∧ v < 2147483648)) (h3 : ∀ X T1 c1 J1, R (.inr X) T1 c1 J1 → (1 ≤ hm X ∧ hm X ≤ 3) ∧ SCP L c (gTe T1) (gz c1 (700000 + T1.2.1 7)) ∧ gE 5 278 HM [.ref 500001, gi (c 800000 (i + 1))] (gm (gTe T1) (gz c1 (700000 + T1.2.1 7)) (gz J1 (700000 + T1.2.1 7))) (fun o M1 => ∃ b T2 c2 J2, o = .inl (some (gi b)) ∧ M1 = gm T2 c2 J2 ∧ ESP E (hm X) T2 c2 J2)) (hend : ∀ z T2 c2 J2 (k b : Value), ESP E z T2 c2 J2 → am_nl k = true → am_nl b = true → gw d 5 387 3366 [.ref 800000, .ref 500000, .ref 500001, .ref 500002, gi i, k, b] [] (gm T2 c2 J2) Q) : gw d 5 387 2222 [.ref 800000, .ref 500000, .ref 500001, .ref 500002, gi i, u5, u6] [] (gm T c J) Q := by
  refine gw_al1 at387_2222 (gw_al0 at387_2223 (gw_il4 at387_2224 (gw_const at387_2226 (gw_iadd at387_2227 (gw_ia at387_2228 (Or.inr hL.1) hL.2 (by omega) (by omega) (by omega) (gw_al3 at387_2229 (?_)))))))
  refine gw_call3 at387_2230 h1 (by omega) (Nat.le_of_ble_eq_true rfl) (fun o M1 q => ?_)
  obtain ⟨T1, c1, J1, ⟨v, hR, rfl, rfl⟩ | ⟨X, hR, rfl, rfl⟩⟩ := q
  · obtain ⟨s, e⟩ := h2 v T1 c1 J1 hR
    show gw _ _ _ _ _ (gi 0 :: _) _ _
    refine gw_is5 at387_2233 (h := ?_)
    refine gw_al2 at387_2235 (gw_al0 at387_2236 (gw_il4 at387_2237 (gw_const at387_2239 (gw_iadd at387_2240 (gw_ia at387_2241 (Or.inr s.1.1) s.1.2 (by omega) (by omega) (by omega) (?_))))))
    rw [s.2]
    refine gw_call2 at387_2242 e (by omega) (Nat.le_of_ble_eq_true rfl) (fun o M1 q2 => ?_)
    obtain ⟨T2, c2, J2, rfl, rfl, hE, hv2, hvr⟩ := q2
    have hE0 := hE
    obtain ⟨⟨g1, g2⟩, g3, g4, -⟩ := hE
    show gw _ _ _ _ _ (gi v :: _) _ _
    refine gw_is6 at387_2245 (h := ?_)
    refine gw_al2 at387_2247 (gw_callP1 at387_2248 (m_thrown g1 g2) (by omega) (Nat.le_of_ble_eq_true rfl) ?_)
    rw [g3]
    refine gw_il5 at387_2251 (gw_ceq at387_2253 (by decide) (by decide) (fun _ => ?_) (fun q => absurd rfl q))
    refine gw_il5 at387_2258 (gw_zne at387_2260 (by decide) (fun q => absurd rfl q) (fun _ => ?_))
    refine gw_al3 at387_2263 (gw_const at387_2264 (gw_la at387_2265 g4.1 g4.2 (by decide) (by decide) (by decide) ?_))
    rw [hv2]
    refine gw_il6 at387_2266 (gw_i2l at387_2268 hvr (gw_lceq at387_2269 at387_2270 (by omega) (by omega) (fun _ => ?_) (fun q => absurd rfl q)))
    exact gw_goto at387_2275 (hend _ T2 c2 J2 _ _ hE0 rfl rfl)
  · obtain ⟨hk, s, e⟩ := h3 X T1 c1 J1 hR
    show gw _ _ _ _ _ (gi (hm X) :: _) _ _
    refine gw_is5 at387_2233 (h := ?_)
    refine gw_al2 at387_2235 (gw_al0 at387_2236 (gw_il4 at387_2237 (gw_const at387_2239 (gw_iadd at387_2240 (gw_ia at387_2241 (Or.inr s.1.1) s.1.2 (by omega) (by omega) (by omega) (?_))))))
    rw [s.2]
    refine gw_call2 at387_2242 e (by omega) (Nat.le_of_ble_eq_true rfl) (fun o M1 q2 => ?_)
    obtain ⟨b, T2, c2, J2, rfl, rfl, hE⟩ := q2
    have hE0 := hE
    obtain ⟨⟨g1, g2⟩, g3, g4, -⟩ := hE
    show gw _ _ _ _ _ (gi b :: _) _ _
    refine gw_is6 at387_2245 (h := ?_)
    refine gw_al2 at387_2247 (gw_callP1 at387_2248 (m_thrown g1 g2) (by omega) (Nat.le_of_ble_eq_true rfl) ?_)
    rw [g3]
    refine gw_il5 at387_2251 (gw_ceq at387_2253 (by omega) (by omega) (fun _ => ?_) (fun q => absurd rfl q))
    refine gw_il5 at387_2258 (gw_zne at387_2260 (by omega) (fun _ => ?_) (fun q => absurd q (by omega)))
    exact gw_goto at387_2275 (hend _ T2 c2 J2 _ _ hE0 rfl rfl)
set_option maxHeartbeats 1000000 in
theorem lc_42 {d HW HM : Nat} {T : gT} {c J : gC} {i : Int} {E : gT → gC → gC → Prop} {Q : am_O → am_M → Prop} {R : Int → gT → gC → gC → Prop} {u5 u6 : Value} (hHW : HW + 1 ≤ d) (hHM : HM + 1 ≤ d) (hu : am_nl u5 = true) (hv : am_nl u6 = true) (h1 : gE 5 152 HW [.ref 500000] (gm T c J) (fun o M1 => ∃ v T1 c1 J1, o = .inl (some (gi v)) ∧ M1 = gm T1 c1 J1 ∧ R v T1 c1 J1)) (h2 : ∀ v T1 c1 J1, R v T1 c1 J1 → (-2147483648 ≤ v ∧ v < 2147483648) ∧ gE 5 279 HM [.ref 500001] (gm T1 c1 J1) (fun o M1 => ∃ z T2 c2 J2, o = .inl (some (gi v)) ∧ M1 = gm T2 c2 J2 ∧ ESP E z T2 c2 J2)) (hend : ∀ z T2 c2 J2 (k b : Value), ESP E z T2 c2 J2 → am_nl k = true → am_nl b = true → gw d 5 387 3366 [.ref 800000, .ref 500000, .ref 500001, .ref 500002, gi i, k, b] [] (gm T2 c2 J2) Q) : gw d 5 387 2278 [.ref 800000, .ref 500000, .ref 500001, .ref 500002, gi i, u5, u6] [] (gm T c J) Q := by
  refine gw_al1 at387_2278 (gw_call1 at387_2279 h1 (by omega) (Nat.le_of_ble_eq_true rfl) (fun o M1 q => ?_))
  obtain ⟨v, T1, c1, J1, rfl, rfl, hR⟩ := q
  obtain ⟨hr, e⟩ := h2 v T1 c1 J1 hR
  show gw _ _ _ _ _ (gi v :: _) _ _
  refine gw_al2 at387_2282 (gw_call1 at387_2283 e (by omega) (Nat.le_of_ble_eq_true rfl) (fun o M1 q2 => ?_))
  obtain ⟨z, T2, c2, J2, rfl, rfl, hE⟩ := q2
  show gw _ _ _ _ _ (gi v :: _) _ _
  exact gw_ceq at387_2286 hr hr (fun _ => hend _ T2 c2 J2 _ _ hE hu hv) (fun q => absurd rfl q)
set_option maxHeartbeats 1000000 in
theorem lc_43 {d HW HM : Nat} {T : gT} {c J : gC} {i : Int} {E : gT → gC → gC → Prop} {Q : am_O → am_M → Prop} {R : Int → gT → gC → gC → Prop} {u5 u6 : Value} (hHW : HW + 1 ≤ d) (hHM : HM + 1 ≤ d) (hu : am_nl u5 = true) (hv : am_nl u6 = true) (h1 : gE 5 153 HW [.ref 500000] (gm T c J) (fun o M1 => ∃ v T1 c1 J1, o = .inl (some (gi v)) ∧ M1 = gm T1 c1 J1 ∧ R v T1 c1 J1)) (h2 : ∀ v T1 c1 J1, R v T1 c1 J1 → (-2147483648 ≤ v ∧ v < 2147483648) ∧ gE 5 280 HM [.ref 500001] (gm T1 c1 J1) (fun o M1 => ∃ z T2 c2 J2, o = .inl (some (gi v)) ∧ M1 = gm T2 c2 J2 ∧ ESP E z T2 c2 J2)) (hend : ∀ z T2 c2 J2 (k b : Value), ESP E z T2 c2 J2 → am_nl k = true → am_nl b = true → gw d 5 387 3366 [.ref 800000, .ref 500000, .ref 500001, .ref 500002, gi i, k, b] [] (gm T2 c2 J2) Q) : gw d 5 387 2291 [.ref 800000, .ref 500000, .ref 500001, .ref 500002, gi i, u5, u6] [] (gm T c J) Q := by
  refine gw_al1 at387_2291 (gw_call1 at387_2292 h1 (by omega) (Nat.le_of_ble_eq_true rfl) (fun o M1 q => ?_))
  obtain ⟨v, T1, c1, J1, rfl, rfl, hR⟩ := q
  obtain ⟨hr, e⟩ := h2 v T1 c1 J1 hR
  show gw _ _ _ _ _ (gi v :: _) _ _
  refine gw_al2 at387_2295 (gw_call1 at387_2296 e (by omega) (Nat.le_of_ble_eq_true rfl) (fun o M1 q2 => ?_))
  obtain ⟨z, T2, c2, J2, rfl, rfl, hE⟩ := q2
  show gw _ _ _ _ _ (gi v :: _) _ _
  exact gw_ceq at387_2299 hr hr (fun _ => hend _ T2 c2 J2 _ _ hE hu hv) (fun q => absurd rfl q)
set_option maxHeartbeats 1000000 in
theorem lc_44 {d HW HM : Nat} {T : gT} {c J : gC} {L : Nat} {i : Int} {E : gT → gC → gC → Prop} {Q : am_O → am_M → Prop} {hm : Nat → Int} {R : (Int ⊕ Nat) → gT → gC → gC → Prop} {u5 u6 : Value} (hHW : HW + 1 ≤ d) (hHM : HM + 1 ≤ d) (hL : (T.1 800000).1 = 41 ∧ (T.1 800000).2.1 = L) (hL2 : L ≤ 3072) (hi : 0 ≤ i ∧ i + 6 ≤ (L : Int)) (hu : am_nl u5 = true) (hv : am_nl u6 = true) (h1 : gE 5 370 HW [.ref 500000, gi (c 800000 (i + 1)), .ref 500002] (gm T c J) (gW hm R)) (h2 : ∀ v T1 c1 J1, R (.inl v) T1 c1 J1 → SCP L c T1 c1 ∧ gE 5 281 HM [.ref 500001, gi (c 800000 (i + 1))] (gm T1 c1 (gu J1 500002 0 v)) (fun o M1 => ∃ T2 c2 J2, o = .inl (some (gi v)) ∧ M1 = gm T2 c2 J2 ∧ ESP E 0 T2 c2 J2 ∧ J2 500002 0 = v ∧ -2147483648 ≤ v ∧ v < 2147483648)) (h3 : ∀ X T1 c1 J1, R (.inr X) T1 c1 J1 → (1 ≤ hm X ∧ hm X ≤ 3) ∧ SCP L c (gTe T1) (gz c1 (700000 + T1.2.1 7)) ∧ gE 5 281 HM [.ref 500001, gi (c 800000 (i + 1))] (gm (gTe T1) (gz c1 (700000 + T1.2.1 7)) (gz J1 (700000 + T1.2.1 7))) (fun o M1 => ∃ b T2 c2 J2, o = .inl (some (gi b)) ∧ M1 = gm T2 c2 J2 ∧ ESP E (hm X) T2 c2 J2)) (hend : ∀ z T2 c2 J2 (k b : Value), ESP E z T2 c2 J2 → am_nl k = true → am_nl b = true → gw d 5 387 3366 [.ref 800000, .ref 500000, .ref 500001, .ref 500002, gi i, k, b] [] (gm T2 c2 J2) Q) : gw d 5 387 2304 [.ref 800000, .ref 500000, .ref 500001, .ref 500002, gi i, u5, u6] [] (gm T c J) Q := by
  refine gw_al1 at387_2304 (gw_al0 at387_2305 (gw_il4 at387_2306 (gw_const at387_2308 (gw_iadd at387_2309 (gw_ia at387_2310 (Or.inr hL.1) hL.2 (by omega) (by omega) (by omega) (gw_al3 at387_2311 (?_)))))))
  refine gw_call3 at387_2312 h1 (by omega) (Nat.le_of_ble_eq_true rfl) (fun o M1 q => ?_)
  obtain ⟨T1, c1, J1, ⟨v, hR, rfl, rfl⟩ | ⟨X, hR, rfl, rfl⟩⟩ := q
  · obtain ⟨s, e⟩ := h2 v T1 c1 J1 hR
    show gw _ _ _ _ _ (gi 0 :: _) _ _
    refine gw_is5 at387_2315 (h := ?_)
    refine gw_al2 at387_2317 (gw_al0 at387_2318 (gw_il4 at387_2319 (gw_const at387_2321 (gw_iadd at387_2322 (gw_ia at387_2323 (Or.inr s.1.1) s.1.2 (by omega) (by omega) (by omega) (?_))))))
    rw [s.2]
    refine gw_call2 at387_2324 e (by omega) (Nat.le_of_ble_eq_true rfl) (fun o M1 q2 => ?_)
    obtain ⟨T2, c2, J2, rfl, rfl, hE, hv2, hvr⟩ := q2
    have hE0 := hE
    obtain ⟨⟨g1, g2⟩, g3, g4, -⟩ := hE
    show gw _ _ _ _ _ (gi v :: _) _ _
    refine gw_is6 at387_2327 (h := ?_)
    refine gw_al2 at387_2329 (gw_callP1 at387_2330 (m_thrown g1 g2) (by omega) (Nat.le_of_ble_eq_true rfl) ?_)
    rw [g3]
    refine gw_il5 at387_2333 (gw_ceq at387_2335 (by decide) (by decide) (fun _ => ?_) (fun q => absurd rfl q))
    refine gw_il5 at387_2340 (gw_zne at387_2342 (by decide) (fun q => absurd rfl q) (fun _ => ?_))
    refine gw_al3 at387_2345 (gw_const at387_2346 (gw_la at387_2347 g4.1 g4.2 (by decide) (by decide) (by decide) ?_))
    rw [hv2]
    refine gw_il6 at387_2348 (gw_i2l at387_2350 hvr (gw_lceq at387_2351 at387_2352 (by omega) (by omega) (fun _ => ?_) (fun q => absurd rfl q)))
    exact gw_goto at387_2357 (hend _ T2 c2 J2 _ _ hE0 rfl rfl)
  · obtain ⟨hk, s, e⟩ := h3 X T1 c1 J1 hR
    show gw _ _ _ _ _ (gi (hm X) :: _) _ _
    refine gw_is5 at387_2315 (h := ?_)
    refine gw_al2 at387_2317 (gw_al0 at387_2318 (gw_il4 at387_2319 (gw_const at387_2321 (gw_iadd at387_2322 (gw_ia at387_2323 (Or.inr s.1.1) s.1.2 (by omega) (by omega) (by omega) (?_))))))
    rw [s.2]
    refine gw_call2 at387_2324 e (by omega) (Nat.le_of_ble_eq_true rfl) (fun o M1 q2 => ?_)
    obtain ⟨b, T2, c2, J2, rfl, rfl, hE⟩ := q2
    have hE0 := hE
    obtain ⟨⟨g1, g2⟩, g3, g4, -⟩ := hE
    show gw _ _ _ _ _ (gi b :: _) _ _
    refine gw_is6 at387_2327 (h := ?_)
    refine gw_al2 at387_2329 (gw_callP1 at387_2330 (m_thrown g1 g2) (by omega) (Nat.le_of_ble_eq_true rfl) ?_)
    rw [g3]
    refine gw_il5 at387_2333 (gw_ceq at387_2335 (by omega) (by omega) (fun _ => ?_) (fun q => absurd rfl q))
    refine gw_il5 at387_2340 (gw_zne at387_2342 (by omega) (fun _ => ?_) (fun q => absurd q (by omega)))
    exact gw_goto at387_2357 (hend _ T2 c2 J2 _ _ hE0 rfl rfl)
set_option maxHeartbeats 1000000 in
theorem lc_45 {d HW HM : Nat} {T : gT} {c J : gC} {L : Nat} {i : Int} {E : gT → gC → gC → Prop} {Q : am_O → am_M → Prop} {hm : Nat → Int} {R : (Int ⊕ Nat) → gT → gC → gC → Prop} {u5 u6 : Value} (hHW : HW + 1 ≤ d) (hHM : HM + 1 ≤ d) (hL : (T.1 800000).1 = 41 ∧ (T.1 800000).2.1 = L) (hL2 : L ≤ 3072) (hi : 0 ≤ i ∧ i + 6 ≤ (L : Int)) (hu : am_nl u5 = true) (hv : am_nl u6 = true) (h1 : gE 5 371 HW [.ref 500000, gi (c 800000 (i + 1)), .ref 500002] (gm T c J) (gW hm R)) (h2 : ∀ v T1 c1 J1, R (.inl v) T1 c1 J1 → SCP L c T1 c1 ∧ gE 5 282 HM [.ref 500001, gi (c 800000 (i + 1))] (gm T1 c1 (gu J1 500002 0 v)) (fun o M1 => ∃ T2 c2 J2, o = .inl (some (gi v)) ∧ M1 = gm T2 c2 J2 ∧ ESP E 0 T2 c2 J2 ∧ J2 500002 0 = v ∧ -2147483648 ≤ v ∧ v < 2147483648)) (h3 : ∀ X T1 c1 J1, R (.inr X) T1 c1 J1 → (1 ≤ hm X ∧ hm X ≤ 3) ∧ SCP L c (gTe T1) (gz c1 (700000 + T1.2.1 7)) ∧ gE 5 282 HM [.ref 500001, gi (c 800000 (i + 1))] (gm (gTe T1) (gz c1 (700000 + T1.2.1 7)) (gz J1 (700000 + T1.2.1 7))) (fun o M1 => ∃ b T2 c2 J2, o = .inl (some (gi b)) ∧ M1 = gm T2 c2 J2 ∧ ESP E (hm X) T2 c2 J2)) (hend : ∀ z T2 c2 J2 (k b : Value), ESP E z T2 c2 J2 → am_nl k = true → am_nl b = true → gw d 5 387 3366 [.ref 800000, .ref 500000, .ref 500001, .ref 500002, gi i, k, b] [] (gm T2 c2 J2) Q) : gw d 5 387 2360 [.ref 800000, .ref 500000, .ref 500001, .ref 500002, gi i, u5, u6] [] (gm T c J) Q := by
  refine gw_al1 at387_2360 (gw_al0 at387_2361 (gw_il4 at387_2362 (gw_const at387_2364 (gw_iadd at387_2365 (gw_ia at387_2366 (Or.inr hL.1) hL.2 (by omega) (by omega) (by omega) (gw_al3 at387_2367 (?_)))))))
  refine gw_call3 at387_2368 h1 (by omega) (Nat.le_of_ble_eq_true rfl) (fun o M1 q => ?_)
  obtain ⟨T1, c1, J1, ⟨v, hR, rfl, rfl⟩ | ⟨X, hR, rfl, rfl⟩⟩ := q
  · obtain ⟨s, e⟩ := h2 v T1 c1 J1 hR
    show gw _ _ _ _ _ (gi 0 :: _) _ _
    refine gw_is5 at387_2371 (h := ?_)
    refine gw_al2 at387_2373 (gw_al0 at387_2374 (gw_il4 at387_2375 (gw_const at387_2377 (gw_iadd at387_2378 (gw_ia at387_2379 (Or.inr s.1.1) s.1.2 (by omega) (by omega) (by omega) (?_))))))
    rw [s.2]
    refine gw_call2 at387_2380 e (by omega) (Nat.le_of_ble_eq_true rfl) (fun o M1 q2 => ?_)
    obtain ⟨T2, c2, J2, rfl, rfl, hE, hv2, hvr⟩ := q2
    have hE0 := hE
    obtain ⟨⟨g1, g2⟩, g3, g4, -⟩ := hE
    show gw _ _ _ _ _ (gi v :: _) _ _
    refine gw_is6 at387_2383 (h := ?_)
    refine gw_al2 at387_2385 (gw_callP1 at387_2386 (m_thrown g1 g2) (by omega) (Nat.le_of_ble_eq_true rfl) ?_)
    rw [g3]
    refine gw_il5 at387_2389 (gw_ceq at387_2391 (by decide) (by decide) (fun _ => ?_) (fun q => absurd rfl q))
    refine gw_il5 at387_2396 (gw_zne at387_2398 (by decide) (fun q => absurd rfl q) (fun _ => ?_))
    refine gw_al3 at387_2401 (gw_const at387_2402 (gw_la at387_2403 g4.1 g4.2 (by decide) (by decide) (by decide) ?_))
    rw [hv2]
    refine gw_il6 at387_2404 (gw_i2l at387_2406 hvr (gw_lceq at387_2407 at387_2408 (by omega) (by omega) (fun _ => ?_) (fun q => absurd rfl q)))
    exact gw_goto at387_2413 (hend _ T2 c2 J2 _ _ hE0 rfl rfl)
  · obtain ⟨hk, s, e⟩ := h3 X T1 c1 J1 hR
    show gw _ _ _ _ _ (gi (hm X) :: _) _ _
    refine gw_is5 at387_2371 (h := ?_)
    refine gw_al2 at387_2373 (gw_al0 at387_2374 (gw_il4 at387_2375 (gw_const at387_2377 (gw_iadd at387_2378 (gw_ia at387_2379 (Or.inr s.1.1) s.1.2 (by omega) (by omega) (by omega) (?_))))))
    rw [s.2]
    refine gw_call2 at387_2380 e (by omega) (Nat.le_of_ble_eq_true rfl) (fun o M1 q2 => ?_)
    obtain ⟨b, T2, c2, J2, rfl, rfl, hE⟩ := q2
    have hE0 := hE
    obtain ⟨⟨g1, g2⟩, g3, g4, -⟩ := hE
    show gw _ _ _ _ _ (gi b :: _) _ _
    refine gw_is6 at387_2383 (h := ?_)
    refine gw_al2 at387_2385 (gw_callP1 at387_2386 (m_thrown g1 g2) (by omega) (Nat.le_of_ble_eq_true rfl) ?_)
    rw [g3]
    refine gw_il5 at387_2389 (gw_ceq at387_2391 (by omega) (by omega) (fun _ => ?_) (fun q => absurd rfl q))
    refine gw_il5 at387_2396 (gw_zne at387_2398 (by omega) (fun _ => ?_) (fun q => absurd q (by omega)))
    exact gw_goto at387_2413 (hend _ T2 c2 J2 _ _ hE0 rfl rfl)
set_option maxHeartbeats 1000000 in
theorem lc_46 {d HW HM : Nat} {T : gT} {c J : gC} {L : Nat} {i : Int} {E : gT → gC → gC → Prop} {Q : am_O → am_M → Prop} {hm : Nat → Int} {R : (Int ⊕ Nat) → gT → gC → gC → Prop} {u5 u6 : Value} (hHW : HW + 1 ≤ d) (hHM : HM + 1 ≤ d) (hL : (T.1 800000).1 = 41 ∧ (T.1 800000).2.1 = L) (hL2 : L ≤ 3072) (hi : 0 ≤ i ∧ i + 6 ≤ (L : Int)) (hu : am_nl u5 = true) (hv : am_nl u6 = true) (h1 : gE 5 372 HW [.ref 500000, gi (c 800000 (i + 1)), .ref 500002] (gm T c J) (gW hm R)) (h2 : ∀ v T1 c1 J1, R (.inl v) T1 c1 J1 → SCP L c T1 c1 ∧ gE 5 283 HM [.ref 500001, gi (c 800000 (i + 1))] (gm T1 c1 (gu J1 500002 0 v)) (fun o M1 => ∃ T2 c2 J2, o = .inl (some (gi v)) ∧ M1 = gm T2 c2 J2 ∧ ESP E 0 T2 c2 J2 ∧ J2 500002 0 = v ∧ -2147483648 ≤ v ∧ v < 2147483648)) (h3 : ∀ X T1 c1 J1, R (.inr X) T1 c1 J1 → (1 ≤ hm X ∧ hm X ≤ 3) ∧ SCP L c (gTe T1) (gz c1 (700000 + T1.2.1 7)) ∧ gE 5 283 HM [.ref 500001, gi (c 800000 (i + 1))] (gm (gTe T1) (gz c1 (700000 + T1.2.1 7)) (gz J1 (700000 + T1.2.1 7))) (fun o M1 => ∃ b T2 c2 J2, o = .inl (some (gi b)) ∧ M1 = gm T2 c2 J2 ∧ ESP E (hm X) T2 c2 J2)) (hend : ∀ z T2 c2 J2 (k b : Value), ESP E z T2 c2 J2 → am_nl k = true → am_nl b = true → gw d 5 387 3366 [.ref 800000, .ref 500000, .ref 500001, .ref 500002, gi i, k, b] [] (gm T2 c2 J2) Q) : gw d 5 387 2416 [.ref 800000, .ref 500000, .ref 500001, .ref 500002, gi i, u5, u6] [] (gm T c J) Q := by
  refine gw_al1 at387_2416 (gw_al0 at387_2417 (gw_il4 at387_2418 (gw_const at387_2420 (gw_iadd at387_2421 (gw_ia at387_2422 (Or.inr hL.1) hL.2 (by omega) (by omega) (by omega) (gw_al3 at387_2423 (?_)))))))
  refine gw_call3 at387_2424 h1 (by omega) (Nat.le_of_ble_eq_true rfl) (fun o M1 q => ?_)
  obtain ⟨T1, c1, J1, ⟨v, hR, rfl, rfl⟩ | ⟨X, hR, rfl, rfl⟩⟩ := q
  · obtain ⟨s, e⟩ := h2 v T1 c1 J1 hR
    show gw _ _ _ _ _ (gi 0 :: _) _ _
    refine gw_is5 at387_2427 (h := ?_)
    refine gw_al2 at387_2429 (gw_al0 at387_2430 (gw_il4 at387_2431 (gw_const at387_2433 (gw_iadd at387_2434 (gw_ia at387_2435 (Or.inr s.1.1) s.1.2 (by omega) (by omega) (by omega) (?_))))))
    rw [s.2]
    refine gw_call2 at387_2436 e (by omega) (Nat.le_of_ble_eq_true rfl) (fun o M1 q2 => ?_)
    obtain ⟨T2, c2, J2, rfl, rfl, hE, hv2, hvr⟩ := q2
    have hE0 := hE
    obtain ⟨⟨g1, g2⟩, g3, g4, -⟩ := hE
    show gw _ _ _ _ _ (gi v :: _) _ _
    refine gw_is6 at387_2439 (h := ?_)
    refine gw_al2 at387_2441 (gw_callP1 at387_2442 (m_thrown g1 g2) (by omega) (Nat.le_of_ble_eq_true rfl) ?_)
    rw [g3]
    refine gw_il5 at387_2445 (gw_ceq at387_2447 (by decide) (by decide) (fun _ => ?_) (fun q => absurd rfl q))
    refine gw_il5 at387_2452 (gw_zne at387_2454 (by decide) (fun q => absurd rfl q) (fun _ => ?_))
    refine gw_al3 at387_2457 (gw_const at387_2458 (gw_la at387_2459 g4.1 g4.2 (by decide) (by decide) (by decide) ?_))
    rw [hv2]
    refine gw_il6 at387_2460 (gw_i2l at387_2462 hvr (gw_lceq at387_2463 at387_2464 (by omega) (by omega) (fun _ => ?_) (fun q => absurd rfl q)))
    exact gw_goto at387_2469 (hend _ T2 c2 J2 _ _ hE0 rfl rfl)
  · obtain ⟨hk, s, e⟩ := h3 X T1 c1 J1 hR
    show gw _ _ _ _ _ (gi (hm X) :: _) _ _
    refine gw_is5 at387_2427 (h := ?_)
    refine gw_al2 at387_2429 (gw_al0 at387_2430 (gw_il4 at387_2431 (gw_const at387_2433 (gw_iadd at387_2434 (gw_ia at387_2435 (Or.inr s.1.1) s.1.2 (by omega) (by omega) (by omega) (?_))))))
    rw [s.2]
    refine gw_call2 at387_2436 e (by omega) (Nat.le_of_ble_eq_true rfl) (fun o M1 q2 => ?_)
    obtain ⟨b, T2, c2, J2, rfl, rfl, hE⟩ := q2
    have hE0 := hE
    obtain ⟨⟨g1, g2⟩, g3, g4, -⟩ := hE
    show gw _ _ _ _ _ (gi b :: _) _ _
    refine gw_is6 at387_2439 (h := ?_)
    refine gw_al2 at387_2441 (gw_callP1 at387_2442 (m_thrown g1 g2) (by omega) (Nat.le_of_ble_eq_true rfl) ?_)
    rw [g3]
    refine gw_il5 at387_2445 (gw_ceq at387_2447 (by omega) (by omega) (fun _ => ?_) (fun q => absurd rfl q))
    refine gw_il5 at387_2452 (gw_zne at387_2454 (by omega) (fun _ => ?_) (fun q => absurd q (by omega)))
    exact gw_goto at387_2469 (hend _ T2 c2 J2 _ _ hE0 rfl rfl)
set_option maxHeartbeats 1000000 in
theorem lc_47 {d HW HM : Nat} {T : gT} {c J : gC} {L : Nat} {i : Int} {E : gT → gC → gC → Prop} {Q : am_O → am_M → Prop} {hm : Nat → Int} {R : (Int ⊕ Nat) → gT → gC → gC → Prop} {u5 u6 : Value} (hHW : HW + 1 ≤ d) (hHM : HM + 1 ≤ d) (hL : (T.1 800000).1 = 41 ∧ (T.1 800000).2.1 = L) (hL2 : L ≤ 3072) (hi : 0 ≤ i ∧ i + 6 ≤ (L : Int)) (hu : am_nl u5 = true) (hv : am_nl u6 = true) {p : Bool} (hp : p = decide (¬ c 800000 (i + 2) = 0)) (hs : -2147483648 ≤ c 800000 (i + 2) ∧ c 800000 (i + 2) < 2147483648) (h1 : gE 5 373 HW [.ref 500000, gi (c 800000 (i + 1)), gi (bi p), .ref 500002] (gm T c J) (gW hm R)) (h2 : ∀ v T1 c1 J1, R (.inl v) T1 c1 J1 → SCP L c T1 c1 ∧ gE 5 285 HM [.ref 500001, gi (c 800000 (i + 1)), gi (bi p)] (gm T1 c1 (gu J1 500002 0 v)) (fun o M1 => ∃ T2 c2 J2, o = .inl (some (gi v)) ∧ M1 = gm T2 c2 J2 ∧ ESP E 0 T2 c2 J2 ∧ J2 500002 0 = v ∧ -2147483648 ≤ v ∧ v < 2147483648)) (h3 : ∀ X T1 c1 J1, R (.inr X) T1 c1 J1 → (1 ≤ hm X ∧ hm X ≤ 3) ∧ SCP L c (gTe T1) (gz c1 (700000 + T1.2.1 7)) ∧ gE 5 285 HM [.ref 500001, gi (c 800000 (i + 1)), gi (bi p)] (gm (gTe T1) (gz c1 (700000 + T1.2.1 7)) (gz J1 (700000 + T1.2.1 7))) (fun o M1 => ∃ b T2 c2 J2, o = .inl (some (gi b)) ∧ M1 = gm T2 c2 J2 ∧ ESP E (hm X) T2 c2 J2)) (hend : ∀ z T2 c2 J2 (k b : Value), ESP E z T2 c2 J2 → am_nl k = true → am_nl b = true → gw d 5 387 3366 [.ref 800000, .ref 500000, .ref 500001, .ref 500002, gi i, k, b] [] (gm T2 c2 J2) Q) : gw d 5 387 2472 [.ref 800000, .ref 500000, .ref 500001, .ref 500002, gi i, u5, u6] [] (gm T c J) Q := by
  refine gw_al1 at387_2472 (gw_al0 at387_2473 (gw_il4 at387_2474 (gw_const at387_2476 (gw_iadd at387_2477 (gw_ia at387_2478 (Or.inr hL.1) hL.2 (by omega) (by omega) (by omega) (gw_al0 at387_2479 (gw_il4 at387_2480 (gw_const at387_2482 (gw_iadd at387_2483 (gw_ia at387_2484 (Or.inr hL.1) hL.2 (by omega) (by omega) (by omega) (?_)))))))))))
  refine gw_bsel at387_2485 at387_2488 at387_2489 at387_2492 hs hp ?_
  refine gw_al3 at387_2493 (?_)
  refine gw_call4 at387_2494 h1 (by omega) (Nat.le_of_ble_eq_true rfl) (fun o M1 q => ?_)
  obtain ⟨T1, c1, J1, ⟨v, hR, rfl, rfl⟩ | ⟨X, hR, rfl, rfl⟩⟩ := q
  · obtain ⟨s, e⟩ := h2 v T1 c1 J1 hR
    show gw _ _ _ _ _ (gi 0 :: _) _ _
    refine gw_is5 at387_2497 (h := ?_)
    refine gw_al2 at387_2499 (gw_al0 at387_2500 (gw_il4 at387_2501 (gw_const at387_2503 (gw_iadd at387_2504 (gw_ia at387_2505 (Or.inr s.1.1) s.1.2 (by omega) (by omega) (by omega) (gw_al0 at387_2506 (gw_il4 at387_2507 (gw_const at387_2509 (gw_iadd at387_2510 (gw_ia at387_2511 (Or.inr s.1.1) s.1.2 (by omega) (by omega) (by omega) (?_)))))))))))
    rw [s.2]
    refine gw_bsel at387_2512 at387_2515 at387_2516 at387_2519 hs hp ?_
    refine gw_call3 at387_2520 e (by omega) (Nat.le_of_ble_eq_true rfl) (fun o M1 q2 => ?_)
    obtain ⟨T2, c2, J2, rfl, rfl, hE, hv2, hvr⟩ := q2
    have hE0 := hE
    obtain ⟨⟨g1, g2⟩, g3, g4, -⟩ := hE
    show gw _ _ _ _ _ (gi v :: _) _ _
    refine gw_is6 at387_2523 (h := ?_)
    refine gw_al2 at387_2525 (gw_callP1 at387_2526 (m_thrown g1 g2) (by omega) (Nat.le_of_ble_eq_true rfl) ?_)
    rw [g3]
    refine gw_il5 at387_2529 (gw_ceq at387_2531 (by decide) (by decide) (fun _ => ?_) (fun q => absurd rfl q))
    refine gw_il5 at387_2536 (gw_zne at387_2538 (by decide) (fun q => absurd rfl q) (fun _ => ?_))
    refine gw_al3 at387_2541 (gw_const at387_2542 (gw_la at387_2543 g4.1 g4.2 (by decide) (by decide) (by decide) ?_))
    rw [hv2]
    refine gw_il6 at387_2544 (gw_i2l at387_2546 hvr (gw_lceq at387_2547 at387_2548 (by omega) (by omega) (fun _ => ?_) (fun q => absurd rfl q)))
    exact gw_goto at387_2553 (hend _ T2 c2 J2 _ _ hE0 rfl rfl)
  · obtain ⟨hk, s, e⟩ := h3 X T1 c1 J1 hR
    show gw _ _ _ _ _ (gi (hm X) :: _) _ _
    refine gw_is5 at387_2497 (h := ?_)
    refine gw_al2 at387_2499 (gw_al0 at387_2500 (gw_il4 at387_2501 (gw_const at387_2503 (gw_iadd at387_2504 (gw_ia at387_2505 (Or.inr s.1.1) s.1.2 (by omega) (by omega) (by omega) (gw_al0 at387_2506 (gw_il4 at387_2507 (gw_const at387_2509 (gw_iadd at387_2510 (gw_ia at387_2511 (Or.inr s.1.1) s.1.2 (by omega) (by omega) (by omega) (?_)))))))))))
    rw [s.2]
    refine gw_bsel at387_2512 at387_2515 at387_2516 at387_2519 hs hp ?_
    refine gw_call3 at387_2520 e (by omega) (Nat.le_of_ble_eq_true rfl) (fun o M1 q2 => ?_)
    obtain ⟨b, T2, c2, J2, rfl, rfl, hE⟩ := q2
    have hE0 := hE
    obtain ⟨⟨g1, g2⟩, g3, g4, -⟩ := hE
    show gw _ _ _ _ _ (gi b :: _) _ _
    refine gw_is6 at387_2523 (h := ?_)
    refine gw_al2 at387_2525 (gw_callP1 at387_2526 (m_thrown g1 g2) (by omega) (Nat.le_of_ble_eq_true rfl) ?_)
    rw [g3]
    refine gw_il5 at387_2529 (gw_ceq at387_2531 (by omega) (by omega) (fun _ => ?_) (fun q => absurd rfl q))
    refine gw_il5 at387_2536 (gw_zne at387_2538 (by omega) (fun _ => ?_) (fun q => absurd q (by omega)))
    exact gw_goto at387_2553 (hend _ T2 c2 J2 _ _ hE0 rfl rfl)
set_option maxHeartbeats 1000000 in
theorem lc_48 {d HW HM : Nat} {T : gT} {c J : gC} {L : Nat} {i : Int} {E : gT → gC → gC → Prop} {Q : am_O → am_M → Prop} {hm : Nat → Int} {R : (Int ⊕ Nat) → gT → gC → gC → Prop} {u5 u6 : Value} (hHW : HW + 1 ≤ d) (hHM : HM + 1 ≤ d) (hL : (T.1 800000).1 = 41 ∧ (T.1 800000).2.1 = L) (hL2 : L ≤ 3072) (hi : 0 ≤ i ∧ i + 6 ≤ (L : Int)) (hu : am_nl u5 = true) (hv : am_nl u6 = true) (h1 : gE 5 374 HW [.ref 500000, .ref 500002] (gm T c J) (gW hm R)) (h2 : ∀ v T1 c1 J1, R (.inl v) T1 c1 J1 → SCP L c T1 c1 ∧ gE 5 290 HM [.ref 500001] (gm T1 c1 (gu J1 500002 0 v)) (fun o M1 => ∃ T2 c2 J2, o = .inl (some (gi v)) ∧ M1 = gm T2 c2 J2 ∧ ESP E 0 T2 c2 J2 ∧ J2 500002 0 = v ∧ -2147483648 ≤ v ∧ v < 2147483648)) (h3 : ∀ X T1 c1 J1, R (.inr X) T1 c1 J1 → (1 ≤ hm X ∧ hm X ≤ 3) ∧ SCP L c (gTe T1) (gz c1 (700000 + T1.2.1 7)) ∧ gE 5 290 HM [.ref 500001] (gm (gTe T1) (gz c1 (700000 + T1.2.1 7)) (gz J1 (700000 + T1.2.1 7))) (fun o M1 => ∃ b T2 c2 J2, o = .inl (some (gi b)) ∧ M1 = gm T2 c2 J2 ∧ ESP E (hm X) T2 c2 J2)) (hend : ∀ z T2 c2 J2 (k b : Value), ESP E z T2 c2 J2 → am_nl k = true → am_nl b = true → gw d 5 387 3366 [.ref 800000, .ref 500000, .ref 500001, .ref 500002, gi i, k, b] [] (gm T2 c2 J2) Q) : gw d 5 387 2556 [.ref 800000, .ref 500000, .ref 500001, .ref 500002, gi i, u5, u6] [] (gm T c J) Q := by
  refine gw_al1 at387_2556 (gw_al3 at387_2557 (?_))
  refine gw_call2 at387_2558 h1 (by omega) (Nat.le_of_ble_eq_true rfl) (fun o M1 q => ?_)
  obtain ⟨T1, c1, J1, ⟨v, hR, rfl, rfl⟩ | ⟨X, hR, rfl, rfl⟩⟩ := q
  · obtain ⟨s, e⟩ := h2 v T1 c1 J1 hR
    show gw _ _ _ _ _ (gi 0 :: _) _ _
    refine gw_is5 at387_2561 (h := ?_)
    refine gw_al2 at387_2563 (?_)
    refine gw_call1 at387_2564 e (by omega) (Nat.le_of_ble_eq_true rfl) (fun o M1 q2 => ?_)
    obtain ⟨T2, c2, J2, rfl, rfl, hE, hv2, hvr⟩ := q2
    have hE0 := hE
    obtain ⟨⟨g1, g2⟩, g3, g4, -⟩ := hE
    show gw _ _ _ _ _ (gi v :: _) _ _
    refine gw_is6 at387_2567 (h := ?_)
    refine gw_al2 at387_2569 (gw_callP1 at387_2570 (m_thrown g1 g2) (by omega) (Nat.le_of_ble_eq_true rfl) ?_)
    rw [g3]
    refine gw_il5 at387_2573 (gw_ceq at387_2575 (by decide) (by decide) (fun _ => ?_) (fun q => absurd rfl q))
    refine gw_il5 at387_2580 (gw_zne at387_2582 (by decide) (fun q => absurd rfl q) (fun _ => ?_))
    refine gw_al3 at387_2585 (gw_const at387_2586 (gw_la at387_2587 g4.1 g4.2 (by decide) (by decide) (by decide) ?_))
    rw [hv2]
    refine gw_il6 at387_2588 (gw_i2l at387_2590 hvr (gw_lceq at387_2591 at387_2592 (by omega) (by omega) (fun _ => ?_) (fun q => absurd rfl q)))
    exact gw_goto at387_2597 (hend _ T2 c2 J2 _ _ hE0 rfl rfl)
  · obtain ⟨hk, s, e⟩ := h3 X T1 c1 J1 hR
    show gw _ _ _ _ _ (gi (hm X) :: _) _ _
    refine gw_is5 at387_2561 (h := ?_)
    refine gw_al2 at387_2563 (?_)
    refine gw_call1 at387_2564 e (by omega) (Nat.le_of_ble_eq_true rfl) (fun o M1 q2 => ?_)
    obtain ⟨b, T2, c2, J2, rfl, rfl, hE⟩ := q2
    have hE0 := hE
    obtain ⟨⟨g1, g2⟩, g3, g4, -⟩ := hE
    show gw _ _ _ _ _ (gi b :: _) _ _
    refine gw_is6 at387_2567 (h := ?_)
    refine gw_al2 at387_2569 (gw_callP1 at387_2570 (m_thrown g1 g2) (by omega) (Nat.le_of_ble_eq_true rfl) ?_)
    rw [g3]
    refine gw_il5 at387_2573 (gw_ceq at387_2575 (by omega) (by omega) (fun _ => ?_) (fun q => absurd rfl q))
    refine gw_il5 at387_2580 (gw_zne at387_2582 (by omega) (fun _ => ?_) (fun q => absurd q (by omega)))
    exact gw_goto at387_2597 (hend _ T2 c2 J2 _ _ hE0 rfl rfl)
set_option maxHeartbeats 1000000 in
theorem lc_49 {d HW HM : Nat} {T : gT} {c J : gC} {i : Int} {E : gT → gC → gC → Prop} {Q : am_O → am_M → Prop} {R : Int → gT → gC → gC → Prop} {u5 u6 : Value} (hHW : HW + 1 ≤ d) (hHM : HM + 1 ≤ d) (hu : am_nl u5 = true) (hv : am_nl u6 = true) (h1 : gE 5 158 HW [.ref 500000] (gm T c J) (fun o M1 => ∃ v T1 c1 J1, o = .inl (some (gi v)) ∧ M1 = gm T1 c1 J1 ∧ R v T1 c1 J1)) (h2 : ∀ v T1 c1 J1, R v T1 c1 J1 → (-2147483648 ≤ v ∧ v < 2147483648) ∧ gE 5 291 HM [.ref 500001] (gm T1 c1 J1) (fun o M1 => ∃ z T2 c2 J2, o = .inl (some (gi v)) ∧ M1 = gm T2 c2 J2 ∧ ESP E z T2 c2 J2)) (hend : ∀ z T2 c2 J2 (k b : Value), ESP E z T2 c2 J2 → am_nl k = true → am_nl b = true → gw d 5 387 3366 [.ref 800000, .ref 500000, .ref 500001, .ref 500002, gi i, k, b] [] (gm T2 c2 J2) Q) : gw d 5 387 2600 [.ref 800000, .ref 500000, .ref 500001, .ref 500002, gi i, u5, u6] [] (gm T c J) Q := by
  refine gw_al1 at387_2600 (gw_call1 at387_2601 h1 (by omega) (Nat.le_of_ble_eq_true rfl) (fun o M1 q => ?_))
  obtain ⟨v, T1, c1, J1, rfl, rfl, hR⟩ := q
  obtain ⟨hr, e⟩ := h2 v T1 c1 J1 hR
  show gw _ _ _ _ _ (gi v :: _) _ _
  refine gw_al2 at387_2604 (gw_call1 at387_2605 e (by omega) (Nat.le_of_ble_eq_true rfl) (fun o M1 q2 => ?_))
  obtain ⟨z, T2, c2, J2, rfl, rfl, hE⟩ := q2
  show gw _ _ _ _ _ (gi v :: _) _ _
  exact gw_ceq at387_2608 hr hr (fun _ => hend _ T2 c2 J2 _ _ hE hu hv) (fun q => absurd rfl q)
set_option maxHeartbeats 1000000 in
theorem lc_50 {d HW HM : Nat} {T : gT} {c J : gC} {i : Int} {E : gT → gC → gC → Prop} {Q : am_O → am_M → Prop} {R : Int → gT → gC → gC → Prop} {u5 u6 : Value} (hHW : HW + 1 ≤ d) (hHM : HM + 1 ≤ d) (hu : am_nl u5 = true) (hv : am_nl u6 = true) (h1 : gE 5 159 HW [.ref 500000] (gm T c J) (fun o M1 => ∃ v T1 c1 J1, o = .inl (some (gi v)) ∧ M1 = gm T1 c1 J1 ∧ R v T1 c1 J1)) (h2 : ∀ v T1 c1 J1, R v T1 c1 J1 → (-2147483648 ≤ v ∧ v < 2147483648) ∧ gE 5 330 HM [.ref 500001] (gm T1 c1 J1) (fun o M1 => ∃ z T2 c2 J2, o = .inl (some (gi v)) ∧ M1 = gm T2 c2 J2 ∧ ESP E z T2 c2 J2)) (hend : ∀ z T2 c2 J2 (k b : Value), ESP E z T2 c2 J2 → am_nl k = true → am_nl b = true → gw d 5 387 3366 [.ref 800000, .ref 500000, .ref 500001, .ref 500002, gi i, k, b] [] (gm T2 c2 J2) Q) : gw d 5 387 2613 [.ref 800000, .ref 500000, .ref 500001, .ref 500002, gi i, u5, u6] [] (gm T c J) Q := by
  refine gw_al1 at387_2613 (gw_call1 at387_2614 h1 (by omega) (Nat.le_of_ble_eq_true rfl) (fun o M1 q => ?_))
  obtain ⟨v, T1, c1, J1, rfl, rfl, hR⟩ := q
  obtain ⟨hr, e⟩ := h2 v T1 c1 J1 hR
  show gw _ _ _ _ _ (gi v :: _) _ _
  refine gw_al2 at387_2617 (gw_call1 at387_2618 e (by omega) (Nat.le_of_ble_eq_true rfl) (fun o M1 q2 => ?_))
  obtain ⟨z, T2, c2, J2, rfl, rfl, hE⟩ := q2
  show gw _ _ _ _ _ (gi v :: _) _ _
  exact gw_ceq at387_2621 hr hr (fun _ => hend _ T2 c2 J2 _ _ hE hu hv) (fun q => absurd rfl q)
set_option maxHeartbeats 1000000 in
theorem lc_51 {d HW HM : Nat} {T : gT} {c J : gC} {L : Nat} {i : Int} {E : gT → gC → gC → Prop} {Q : am_O → am_M → Prop} {hm : Nat → Int} {R : (Int ⊕ Nat) → gT → gC → gC → Prop} {u5 u6 : Value} (hHW : HW + 1 ≤ d) (hHM : HM + 1 ≤ d) (hL : (T.1 800000).1 = 41 ∧ (T.1 800000).2.1 = L) (hL2 : L ≤ 3072) (hi : 0 ≤ i ∧ i + 6 ≤ (L : Int)) (hu : am_nl u5 = true) (hv : am_nl u6 = true) (h1 : gE 5 375 HW [.ref 500000, gi (c 800000 (i + 1)), .ref 500002] (gm T c J) (gW hm R)) (h2 : ∀ v T1 c1 J1, R (.inl v) T1 c1 J1 → SCP L c T1 c1 ∧ gE 5 331 HM [.ref 500001, gi (c 800000 (i + 1))] (gm T1 c1 (gu J1 500002 0 v)) (fun o M1 => ∃ T2 c2 J2, o = .inl (some (gi v)) ∧ M1 = gm T2 c2 J2 ∧ ESP E 0 T2 c2 J2 ∧ J2 500002 0 = v ∧ -2147483648 ≤ v ∧ v < 2147483648)) (h3 : ∀ X T1 c1 J1, R (.inr X) T1 c1 J1 → (1 ≤ hm X ∧ hm X ≤ 3) ∧ SCP L c (gTe T1) (gz c1 (700000 + T1.2.1 7)) ∧ gE 5 331 HM [.ref 500001, gi (c 800000 (i + 1))] (gm (gTe T1) (gz c1 (700000 + T1.2.1 7)) (gz J1 (700000 + T1.2.1 7))) (fun o M1 => ∃ b T2 c2 J2, o = .inl (some (gi b)) ∧ M1 = gm T2 c2 J2 ∧ ESP E (hm X) T2 c2 J2)) (hend : ∀ z T2 c2 J2 (k b : Value), ESP E z T2 c2 J2 → am_nl k = true → am_nl b = true → gw d 5 387 3366 [.ref 800000, .ref 500000, .ref 500001, .ref 500002, gi i, k, b] [] (gm T2 c2 J2) Q) : gw d 5 387 2626 [.ref 800000, .ref 500000, .ref 500001, .ref 500002, gi i, u5, u6] [] (gm T c J) Q := by
  refine gw_al1 at387_2626 (gw_al0 at387_2627 (gw_il4 at387_2628 (gw_const at387_2630 (gw_iadd at387_2631 (gw_ia at387_2632 (Or.inr hL.1) hL.2 (by omega) (by omega) (by omega) (gw_al3 at387_2633 (?_)))))))
  refine gw_call3 at387_2634 h1 (by omega) (Nat.le_of_ble_eq_true rfl) (fun o M1 q => ?_)
  obtain ⟨T1, c1, J1, ⟨v, hR, rfl, rfl⟩ | ⟨X, hR, rfl, rfl⟩⟩ := q
  · obtain ⟨s, e⟩ := h2 v T1 c1 J1 hR
    show gw _ _ _ _ _ (gi 0 :: _) _ _
    refine gw_is5 at387_2637 (h := ?_)
    refine gw_al2 at387_2639 (gw_al0 at387_2640 (gw_il4 at387_2641 (gw_const at387_2643 (gw_iadd at387_2644 (gw_ia at387_2645 (Or.inr s.1.1) s.1.2 (by omega) (by omega) (by omega) (?_))))))
    rw [s.2]
    refine gw_call2 at387_2646 e (by omega) (Nat.le_of_ble_eq_true rfl) (fun o M1 q2 => ?_)
    obtain ⟨T2, c2, J2, rfl, rfl, hE, hv2, hvr⟩ := q2
    have hE0 := hE
    obtain ⟨⟨g1, g2⟩, g3, g4, -⟩ := hE
    show gw _ _ _ _ _ (gi v :: _) _ _
    refine gw_is6 at387_2649 (h := ?_)
    refine gw_al2 at387_2651 (gw_callP1 at387_2652 (m_thrown g1 g2) (by omega) (Nat.le_of_ble_eq_true rfl) ?_)
    rw [g3]
    refine gw_il5 at387_2655 (gw_ceq at387_2657 (by decide) (by decide) (fun _ => ?_) (fun q => absurd rfl q))
    refine gw_il5 at387_2662 (gw_zne at387_2664 (by decide) (fun q => absurd rfl q) (fun _ => ?_))
    refine gw_al3 at387_2667 (gw_const at387_2668 (gw_la at387_2669 g4.1 g4.2 (by decide) (by decide) (by decide) ?_))
    rw [hv2]
    refine gw_il6 at387_2670 (gw_i2l at387_2672 hvr (gw_lceq at387_2673 at387_2674 (by omega) (by omega) (fun _ => ?_) (fun q => absurd rfl q)))
    exact gw_goto at387_2679 (hend _ T2 c2 J2 _ _ hE0 rfl rfl)
  · obtain ⟨hk, s, e⟩ := h3 X T1 c1 J1 hR
    show gw _ _ _ _ _ (gi (hm X) :: _) _ _
    refine gw_is5 at387_2637 (h := ?_)
    refine gw_al2 at387_2639 (gw_al0 at387_2640 (gw_il4 at387_2641 (gw_const at387_2643 (gw_iadd at387_2644 (gw_ia at387_2645 (Or.inr s.1.1) s.1.2 (by omega) (by omega) (by omega) (?_))))))
    rw [s.2]
    refine gw_call2 at387_2646 e (by omega) (Nat.le_of_ble_eq_true rfl) (fun o M1 q2 => ?_)
    obtain ⟨b, T2, c2, J2, rfl, rfl, hE⟩ := q2
    have hE0 := hE
    obtain ⟨⟨g1, g2⟩, g3, g4, -⟩ := hE
    show gw _ _ _ _ _ (gi b :: _) _ _
    refine gw_is6 at387_2649 (h := ?_)
    refine gw_al2 at387_2651 (gw_callP1 at387_2652 (m_thrown g1 g2) (by omega) (Nat.le_of_ble_eq_true rfl) ?_)
    rw [g3]
    refine gw_il5 at387_2655 (gw_ceq at387_2657 (by omega) (by omega) (fun _ => ?_) (fun q => absurd rfl q))
    refine gw_il5 at387_2662 (gw_zne at387_2664 (by omega) (fun _ => ?_) (fun q => absurd q (by omega)))
    exact gw_goto at387_2679 (hend _ T2 c2 J2 _ _ hE0 rfl rfl)
set_option maxHeartbeats 1000000 in
theorem lc_52 {d HW HM : Nat} {T : gT} {c J : gC} {L : Nat} {i : Int} {E : gT → gC → gC → Prop} {Q : am_O → am_M → Prop} {hm : Nat → Int} {R : (Int ⊕ Nat) → gT → gC → gC → Prop} {u5 u6 : Value} (hHW : HW + 1 ≤ d) (hHM : HM + 1 ≤ d) (hL : (T.1 800000).1 = 41 ∧ (T.1 800000).2.1 = L) (hL2 : L ≤ 3072) (hi : 0 ≤ i ∧ i + 6 ≤ (L : Int)) (hu : am_nl u5 = true) (hv : am_nl u6 = true) (h1 : gE 5 376 HW [.ref 500000, gi (c 800000 (i + 1)), .ref 500002] (gm T c J) (gW hm R)) (h2 : ∀ v T1 c1 J1, R (.inl v) T1 c1 J1 → SCP L c T1 c1 ∧ gE 5 266 HM [.ref 500001, gi (c 800000 (i + 1))] (gm T1 c1 (gu J1 500002 0 v)) (fun o M1 => ∃ T2 c2 J2, o = .inl (some (gi v)) ∧ M1 = gm T2 c2 J2 ∧ ESP E 0 T2 c2 J2 ∧ J2 500002 0 = v ∧ -2147483648 ≤ v ∧ v < 2147483648)) (h3 : ∀ X T1 c1 J1, R (.inr X) T1 c1 J1 → (1 ≤ hm X ∧ hm X ≤ 3) ∧ SCP L c (gTe T1) (gz c1 (700000 + T1.2.1 7)) ∧ gE 5 266 HM [.ref 500001, gi (c 800000 (i + 1))] (gm (gTe T1) (gz c1 (700000 + T1.2.1 7)) (gz J1 (700000 + T1.2.1 7))) (fun o M1 => ∃ b T2 c2 J2, o = .inl (some (gi b)) ∧ M1 = gm T2 c2 J2 ∧ ESP E (hm X) T2 c2 J2)) (hend : ∀ z T2 c2 J2 (k b : Value), ESP E z T2 c2 J2 → am_nl k = true → am_nl b = true → gw d 5 387 3366 [.ref 800000, .ref 500000, .ref 500001, .ref 500002, gi i, k, b] [] (gm T2 c2 J2) Q) : gw d 5 387 2682 [.ref 800000, .ref 500000, .ref 500001, .ref 500002, gi i, u5, u6] [] (gm T c J) Q := by
  refine gw_al1 at387_2682 (gw_al0 at387_2683 (gw_il4 at387_2684 (gw_const at387_2686 (gw_iadd at387_2687 (gw_ia at387_2688 (Or.inr hL.1) hL.2 (by omega) (by omega) (by omega) (gw_al3 at387_2689 (?_)))))))
  refine gw_call3 at387_2690 h1 (by omega) (Nat.le_of_ble_eq_true rfl) (fun o M1 q => ?_)
  obtain ⟨T1, c1, J1, ⟨v, hR, rfl, rfl⟩ | ⟨X, hR, rfl, rfl⟩⟩ := q
  · obtain ⟨s, e⟩ := h2 v T1 c1 J1 hR
    show gw _ _ _ _ _ (gi 0 :: _) _ _
    refine gw_is5 at387_2693 (h := ?_)
    refine gw_al2 at387_2695 (gw_al0 at387_2696 (gw_il4 at387_2697 (gw_const at387_2699 (gw_iadd at387_2700 (gw_ia at387_2701 (Or.inr s.1.1) s.1.2 (by omega) (by omega) (by omega) (?_))))))
    rw [s.2]
    refine gw_call2 at387_2702 e (by omega) (Nat.le_of_ble_eq_true rfl) (fun o M1 q2 => ?_)
    obtain ⟨T2, c2, J2, rfl, rfl, hE, hv2, hvr⟩ := q2
    have hE0 := hE
    obtain ⟨⟨g1, g2⟩, g3, g4, -⟩ := hE
    show gw _ _ _ _ _ (gi v :: _) _ _
    refine gw_is6 at387_2705 (h := ?_)
    refine gw_al2 at387_2707 (gw_callP1 at387_2708 (m_thrown g1 g2) (by omega) (Nat.le_of_ble_eq_true rfl) ?_)
    rw [g3]
    refine gw_il5 at387_2711 (gw_ceq at387_2713 (by decide) (by decide) (fun _ => ?_) (fun q => absurd rfl q))
    refine gw_il5 at387_2718 (gw_zne at387_2720 (by decide) (fun q => absurd rfl q) (fun _ => ?_))
    refine gw_al3 at387_2723 (gw_const at387_2724 (gw_la at387_2725 g4.1 g4.2 (by decide) (by decide) (by decide) ?_))
    rw [hv2]
    refine gw_il6 at387_2726 (gw_i2l at387_2728 hvr (gw_lceq at387_2729 at387_2730 (by omega) (by omega) (fun _ => ?_) (fun q => absurd rfl q)))
    exact gw_goto at387_2735 (hend _ T2 c2 J2 _ _ hE0 rfl rfl)
  · obtain ⟨hk, s, e⟩ := h3 X T1 c1 J1 hR
    show gw _ _ _ _ _ (gi (hm X) :: _) _ _
    refine gw_is5 at387_2693 (h := ?_)
    refine gw_al2 at387_2695 (gw_al0 at387_2696 (gw_il4 at387_2697 (gw_const at387_2699 (gw_iadd at387_2700 (gw_ia at387_2701 (Or.inr s.1.1) s.1.2 (by omega) (by omega) (by omega) (?_))))))
    rw [s.2]
    refine gw_call2 at387_2702 e (by omega) (Nat.le_of_ble_eq_true rfl) (fun o M1 q2 => ?_)
    obtain ⟨b, T2, c2, J2, rfl, rfl, hE⟩ := q2
    have hE0 := hE
    obtain ⟨⟨g1, g2⟩, g3, g4, -⟩ := hE
    show gw _ _ _ _ _ (gi b :: _) _ _
    refine gw_is6 at387_2705 (h := ?_)
    refine gw_al2 at387_2707 (gw_callP1 at387_2708 (m_thrown g1 g2) (by omega) (Nat.le_of_ble_eq_true rfl) ?_)
    rw [g3]
    refine gw_il5 at387_2711 (gw_ceq at387_2713 (by omega) (by omega) (fun _ => ?_) (fun q => absurd rfl q))
    refine gw_il5 at387_2718 (gw_zne at387_2720 (by omega) (fun _ => ?_) (fun q => absurd q (by omega)))
    exact gw_goto at387_2735 (hend _ T2 c2 J2 _ _ hE0 rfl rfl)
set_option maxHeartbeats 1000000 in
theorem lc_53 {d HW HM : Nat} {T : gT} {c J : gC} {L : Nat} {i : Int} {E : gT → gC → gC → Prop} {Q : am_O → am_M → Prop} {hm : Nat → Int} {R : (Int ⊕ Nat) → gT → gC → gC → Prop} {u5 u6 : Value} (hHW : HW + 1 ≤ d) (hHM : HM + 1 ≤ d) (hL : (T.1 800000).1 = 41 ∧ (T.1 800000).2.1 = L) (hL2 : L ≤ 3072) (hi : 0 ≤ i ∧ i + 6 ≤ (L : Int)) (hu : am_nl u5 = true) (hv : am_nl u6 = true) (h1 : gE 5 377 HW [.ref 500000, gi (c 800000 (i + 1)), .ref 500002] (gm T c J) (gW hm R)) (h2 : ∀ v T1 c1 J1, R (.inl v) T1 c1 J1 → SCP L c T1 c1 ∧ gE 5 227 HM [.ref 500001, gi (c 800000 (i + 1))] (gm T1 c1 (gu J1 500002 0 v)) (fun o M1 => ∃ T2 c2 J2, o = .inl (some (gi v)) ∧ M1 = gm T2 c2 J2 ∧ ESP E 0 T2 c2 J2 ∧ J2 500002 0 = v ∧ -2147483648 ≤ v ∧ v < 2147483648)) (h3 : ∀ X T1 c1 J1, R (.inr X) T1 c1 J1 → (1 ≤ hm X ∧ hm X ≤ 3) ∧ SCP L c (gTe T1) (gz c1 (700000 + T1.2.1 7)) ∧ gE 5 227 HM [.ref 500001, gi (c 800000 (i + 1))] (gm (gTe T1) (gz c1 (700000 + T1.2.1 7)) (gz J1 (700000 + T1.2.1 7))) (fun o M1 => ∃ b T2 c2 J2, o = .inl (some (gi b)) ∧ M1 = gm T2 c2 J2 ∧ ESP E (hm X) T2 c2 J2)) (hend : ∀ z T2 c2 J2 (k b : Value), ESP E z T2 c2 J2 → am_nl k = true → am_nl b = true → gw d 5 387 3366 [.ref 800000, .ref 500000, .ref 500001, .ref 500002, gi i, k, b] [] (gm T2 c2 J2) Q) : gw d 5 387 2738 [.ref 800000, .ref 500000, .ref 500001, .ref 500002, gi i, u5, u6] [] (gm T c J) Q := by
  refine gw_al1 at387_2738 (gw_al0 at387_2739 (gw_il4 at387_2740 (gw_const at387_2742 (gw_iadd at387_2743 (gw_ia at387_2744 (Or.inr hL.1) hL.2 (by omega) (by omega) (by omega) (gw_al3 at387_2745 (?_)))))))
  refine gw_call3 at387_2746 h1 (by omega) (Nat.le_of_ble_eq_true rfl) (fun o M1 q => ?_)
  obtain ⟨T1, c1, J1, ⟨v, hR, rfl, rfl⟩ | ⟨X, hR, rfl, rfl⟩⟩ := q
  · obtain ⟨s, e⟩ := h2 v T1 c1 J1 hR
    show gw _ _ _ _ _ (gi 0 :: _) _ _
    refine gw_is5 at387_2749 (h := ?_)
    refine gw_al2 at387_2751 (gw_al0 at387_2752 (gw_il4 at387_2753 (gw_const at387_2755 (gw_iadd at387_2756 (gw_ia at387_2757 (Or.inr s.1.1) s.1.2 (by omega) (by omega) (by omega) (?_))))))
    rw [s.2]
    refine gw_call2 at387_2758 e (by omega) (Nat.le_of_ble_eq_true rfl) (fun o M1 q2 => ?_)
    obtain ⟨T2, c2, J2, rfl, rfl, hE, hv2, hvr⟩ := q2
    have hE0 := hE
    obtain ⟨⟨g1, g2⟩, g3, g4, -⟩ := hE
    show gw _ _ _ _ _ (gi v :: _) _ _
    refine gw_is6 at387_2761 (h := ?_)
    refine gw_al2 at387_2763 (gw_callP1 at387_2764 (m_thrown g1 g2) (by omega) (Nat.le_of_ble_eq_true rfl) ?_)
    rw [g3]
    refine gw_il5 at387_2767 (gw_ceq at387_2769 (by decide) (by decide) (fun _ => ?_) (fun q => absurd rfl q))
    refine gw_il5 at387_2774 (gw_zne at387_2776 (by decide) (fun q => absurd rfl q) (fun _ => ?_))
    refine gw_al3 at387_2779 (gw_const at387_2780 (gw_la at387_2781 g4.1 g4.2 (by decide) (by decide) (by decide) ?_))
    rw [hv2]
    refine gw_il6 at387_2782 (gw_i2l at387_2784 hvr (gw_lceq at387_2785 at387_2786 (by omega) (by omega) (fun _ => ?_) (fun q => absurd rfl q)))
    exact gw_goto at387_2791 (hend _ T2 c2 J2 _ _ hE0 rfl rfl)
  · obtain ⟨hk, s, e⟩ := h3 X T1 c1 J1 hR
    show gw _ _ _ _ _ (gi (hm X) :: _) _ _
    refine gw_is5 at387_2749 (h := ?_)
    refine gw_al2 at387_2751 (gw_al0 at387_2752 (gw_il4 at387_2753 (gw_const at387_2755 (gw_iadd at387_2756 (gw_ia at387_2757 (Or.inr s.1.1) s.1.2 (by omega) (by omega) (by omega) (?_))))))
    rw [s.2]
    refine gw_call2 at387_2758 e (by omega) (Nat.le_of_ble_eq_true rfl) (fun o M1 q2 => ?_)
    obtain ⟨b, T2, c2, J2, rfl, rfl, hE⟩ := q2
    have hE0 := hE
    obtain ⟨⟨g1, g2⟩, g3, g4, -⟩ := hE
    show gw _ _ _ _ _ (gi b :: _) _ _
    refine gw_is6 at387_2761 (h := ?_)
    refine gw_al2 at387_2763 (gw_callP1 at387_2764 (m_thrown g1 g2) (by omega) (Nat.le_of_ble_eq_true rfl) ?_)
    rw [g3]
    refine gw_il5 at387_2767 (gw_ceq at387_2769 (by omega) (by omega) (fun _ => ?_) (fun q => absurd rfl q))
    refine gw_il5 at387_2774 (gw_zne at387_2776 (by omega) (fun _ => ?_) (fun q => absurd q (by omega)))
    exact gw_goto at387_2791 (hend _ T2 c2 J2 _ _ hE0 rfl rfl)
set_option maxHeartbeats 1000000 in
theorem lc_54 {d HW HM : Nat} {T : gT} {c J : gC} {L : Nat} {i : Int} {E : gT → gC → gC → Prop} {Q : am_O → am_M → Prop} {hm : Nat → Int} {R : (Int ⊕ Nat) → gT → gC → gC → Prop} {u5 u6 : Value} (hHW : HW + 1 ≤ d) (hHM : HM + 1 ≤ d) (hL : (T.1 800000).1 = 41 ∧ (T.1 800000).2.1 = L) (hL2 : L ≤ 3072) (hi : 0 ≤ i ∧ i + 6 ≤ (L : Int)) (hu : am_nl u5 = true) (hv : am_nl u6 = true) (h1 : gE 5 378 HW [.ref 500000, gi (c 800000 (i + 1)), .ref 500002] (gm T c J) (gW hm R)) (h2 : ∀ v T1 c1 J1, R (.inl v) T1 c1 J1 → SCP L c T1 c1 ∧ gE 5 229 HM [.ref 500001, gi (c 800000 (i + 1))] (gm T1 c1 (gu J1 500002 0 v)) (fun o M1 => ∃ T2 c2 J2, o = .inl (some (gi v)) ∧ M1 = gm T2 c2 J2 ∧ ESP E 0 T2 c2 J2 ∧ J2 500002 0 = v ∧ -2147483648 ≤ v ∧ v < 2147483648)) (h3 : ∀ X T1 c1 J1, R (.inr X) T1 c1 J1 → (1 ≤ hm X ∧ hm X ≤ 3) ∧ SCP L c (gTe T1) (gz c1 (700000 + T1.2.1 7)) ∧ gE 5 229 HM [.ref 500001, gi (c 800000 (i + 1))] (gm (gTe T1) (gz c1 (700000 + T1.2.1 7)) (gz J1 (700000 + T1.2.1 7))) (fun o M1 => ∃ b T2 c2 J2, o = .inl (some (gi b)) ∧ M1 = gm T2 c2 J2 ∧ ESP E (hm X) T2 c2 J2)) (hend : ∀ z T2 c2 J2 (k b : Value), ESP E z T2 c2 J2 → am_nl k = true → am_nl b = true → gw d 5 387 3366 [.ref 800000, .ref 500000, .ref 500001, .ref 500002, gi i, k, b] [] (gm T2 c2 J2) Q) : gw d 5 387 2794 [.ref 800000, .ref 500000, .ref 500001, .ref 500002, gi i, u5, u6] [] (gm T c J) Q := by
  refine gw_al1 at387_2794 (gw_al0 at387_2795 (gw_il4 at387_2796 (gw_const at387_2798 (gw_iadd at387_2799 (gw_ia at387_2800 (Or.inr hL.1) hL.2 (by omega) (by omega) (by omega) (gw_al3 at387_2801 (?_)))))))
  refine gw_call3 at387_2802 h1 (by omega) (Nat.le_of_ble_eq_true rfl) (fun o M1 q => ?_)
  obtain ⟨T1, c1, J1, ⟨v, hR, rfl, rfl⟩ | ⟨X, hR, rfl, rfl⟩⟩ := q
  · obtain ⟨s, e⟩ := h2 v T1 c1 J1 hR
    show gw _ _ _ _ _ (gi 0 :: _) _ _
    refine gw_is5 at387_2805 (h := ?_)
    refine gw_al2 at387_2807 (gw_al0 at387_2808 (gw_il4 at387_2809 (gw_const at387_2811 (gw_iadd at387_2812 (gw_ia at387_2813 (Or.inr s.1.1) s.1.2 (by omega) (by omega) (by omega) (?_))))))
    rw [s.2]
    refine gw_call2 at387_2814 e (by omega) (Nat.le_of_ble_eq_true rfl) (fun o M1 q2 => ?_)
    obtain ⟨T2, c2, J2, rfl, rfl, hE, hv2, hvr⟩ := q2
    have hE0 := hE
    obtain ⟨⟨g1, g2⟩, g3, g4, -⟩ := hE
    show gw _ _ _ _ _ (gi v :: _) _ _
    refine gw_is6 at387_2817 (h := ?_)
    refine gw_al2 at387_2819 (gw_callP1 at387_2820 (m_thrown g1 g2) (by omega) (Nat.le_of_ble_eq_true rfl) ?_)
    rw [g3]
    refine gw_il5 at387_2823 (gw_ceq at387_2825 (by decide) (by decide) (fun _ => ?_) (fun q => absurd rfl q))
    refine gw_il5 at387_2830 (gw_zne at387_2832 (by decide) (fun q => absurd rfl q) (fun _ => ?_))
    refine gw_al3 at387_2835 (gw_const at387_2836 (gw_la at387_2837 g4.1 g4.2 (by decide) (by decide) (by decide) ?_))
    rw [hv2]
    refine gw_il6 at387_2838 (gw_i2l at387_2840 hvr (gw_lceq at387_2841 at387_2842 (by omega) (by omega) (fun _ => ?_) (fun q => absurd rfl q)))
    exact gw_goto at387_2847 (hend _ T2 c2 J2 _ _ hE0 rfl rfl)
  · obtain ⟨hk, s, e⟩ := h3 X T1 c1 J1 hR
    show gw _ _ _ _ _ (gi (hm X) :: _) _ _
    refine gw_is5 at387_2805 (h := ?_)
    refine gw_al2 at387_2807 (gw_al0 at387_2808 (gw_il4 at387_2809 (gw_const at387_2811 (gw_iadd at387_2812 (gw_ia at387_2813 (Or.inr s.1.1) s.1.2 (by omega) (by omega) (by omega) (?_))))))
    rw [s.2]
    refine gw_call2 at387_2814 e (by omega) (Nat.le_of_ble_eq_true rfl) (fun o M1 q2 => ?_)
    obtain ⟨b, T2, c2, J2, rfl, rfl, hE⟩ := q2
    have hE0 := hE
    obtain ⟨⟨g1, g2⟩, g3, g4, -⟩ := hE
    show gw _ _ _ _ _ (gi b :: _) _ _
    refine gw_is6 at387_2817 (h := ?_)
    refine gw_al2 at387_2819 (gw_callP1 at387_2820 (m_thrown g1 g2) (by omega) (Nat.le_of_ble_eq_true rfl) ?_)
    rw [g3]
    refine gw_il5 at387_2823 (gw_ceq at387_2825 (by omega) (by omega) (fun _ => ?_) (fun q => absurd rfl q))
    refine gw_il5 at387_2830 (gw_zne at387_2832 (by omega) (fun _ => ?_) (fun q => absurd q (by omega)))
    exact gw_goto at387_2847 (hend _ T2 c2 J2 _ _ hE0 rfl rfl)
set_option maxHeartbeats 1000000 in
theorem lc_55 {d HW HM : Nat} {T : gT} {c J : gC} {i : Int} {E : gT → gC → gC → Prop} {Q : am_O → am_M → Prop} {R : Int → gT → gC → gC → Prop} {u5 u6 : Value} (hHW : HW + 1 ≤ d) (hHM : HM + 1 ≤ d) (hu : am_nl u5 = true) (hv : am_nl u6 = true) (h1 : gE 5 120 HW [.ref 500000] (gm T c J) (fun o M1 => ∃ v T1 c1 J1, o = .inl (some (gi v)) ∧ M1 = gm T1 c1 J1 ∧ R v T1 c1 J1)) (h2 : ∀ v T1 c1 J1, R v T1 c1 J1 → (-2147483648 ≤ v ∧ v < 2147483648) ∧ gE 5 230 HM [.ref 500001] (gm T1 c1 J1) (fun o M1 => ∃ z T2 c2 J2, o = .inl (some (gi v)) ∧ M1 = gm T2 c2 J2 ∧ ESP E z T2 c2 J2)) (hend : ∀ z T2 c2 J2 (k b : Value), ESP E z T2 c2 J2 → am_nl k = true → am_nl b = true → gw d 5 387 3366 [.ref 800000, .ref 500000, .ref 500001, .ref 500002, gi i, k, b] [] (gm T2 c2 J2) Q) : gw d 5 387 2850 [.ref 800000, .ref 500000, .ref 500001, .ref 500002, gi i, u5, u6] [] (gm T c J) Q := by
  refine gw_al1 at387_2850 (gw_call1 at387_2851 h1 (by omega) (Nat.le_of_ble_eq_true rfl) (fun o M1 q => ?_))
  obtain ⟨v, T1, c1, J1, rfl, rfl, hR⟩ := q
  obtain ⟨hr, e⟩ := h2 v T1 c1 J1 hR
  show gw _ _ _ _ _ (gi v :: _) _ _
  refine gw_al2 at387_2854 (gw_call1 at387_2855 e (by omega) (Nat.le_of_ble_eq_true rfl) (fun o M1 q2 => ?_))
  obtain ⟨z, T2, c2, J2, rfl, rfl, hE⟩ := q2
  show gw _ _ _ _ _ (gi v :: _) _ _
  exact gw_ceq at387_2858 hr hr (fun _ => hend _ T2 c2 J2 _ _ hE hu hv) (fun q => absurd rfl q)
set_option maxHeartbeats 1000000 in
theorem lc_56 {d HW HM : Nat} {T : gT} {c J : gC} {L : Nat} {i : Int} {E : gT → gC → gC → Prop} {Q : am_O → am_M → Prop} {hm : Nat → Int} {R : (Int ⊕ Nat) → gT → gC → gC → Prop} {u5 u6 : Value} (hHW : HW + 1 ≤ d) (hHM : HM + 1 ≤ d) (hL : (T.1 800000).1 = 41 ∧ (T.1 800000).2.1 = L) (hL2 : L ≤ 3072) (hi : 0 ≤ i ∧ i + 6 ≤ (L : Int)) (hu : am_nl u5 = true) (hv : am_nl u6 = true) (h1 : gE 5 379 HW [.ref 500000, gi (c 800000 (i + 1)), .ref 500002] (gm T c J) (gW hm R)) (h2 : ∀ v T1 c1 J1, R (.inl v) T1 c1 J1 → SCP L c T1 c1 ∧ gE 5 225 HM [.ref 500001, gi (c 800000 (i + 1))] (gm T1 c1 (gu J1 500002 0 v)) (fun o M1 => ∃ T2 c2 J2, o = .inl (some (gi v)) ∧ M1 = gm T2 c2 J2 ∧ ESP E 0 T2 c2 J2 ∧ J2 500002 0 = v ∧ (v = 0 ∨ v = 1))) (h3 : ∀ X T1 c1 J1, R (.inr X) T1 c1 J1 → (1 ≤ hm X ∧ hm X ≤ 3) ∧ SCP L c (gTe T1) (gz c1 (700000 + T1.2.1 7)) ∧ gE 5 225 HM [.ref 500001, gi (c 800000 (i + 1))] (gm (gTe T1) (gz c1 (700000 + T1.2.1 7)) (gz J1 (700000 + T1.2.1 7))) (fun o M1 => ∃ b T2 c2 J2, o = .inl (some (gi b)) ∧ M1 = gm T2 c2 J2 ∧ ESP E (hm X) T2 c2 J2)) (hend : ∀ z T2 c2 J2 (k b : Value), ESP E z T2 c2 J2 → am_nl k = true → am_nl b = true → gw d 5 387 3366 [.ref 800000, .ref 500000, .ref 500001, .ref 500002, gi i, k, b] [] (gm T2 c2 J2) Q) : gw d 5 387 2863 [.ref 800000, .ref 500000, .ref 500001, .ref 500002, gi i, u5, u6] [] (gm T c J) Q := by
  refine gw_al1 at387_2863 (gw_al0 at387_2864 (gw_il4 at387_2865 (gw_const at387_2867 (gw_iadd at387_2868 (gw_ia at387_2869 (Or.inr hL.1) hL.2 (by omega) (by omega) (by omega) (gw_al3 at387_2870 (?_)))))))
  refine gw_call3 at387_2871 h1 (by omega) (Nat.le_of_ble_eq_true rfl) (fun o M1 q => ?_)
  obtain ⟨T1, c1, J1, ⟨v, hR, rfl, rfl⟩ | ⟨X, hR, rfl, rfl⟩⟩ := q
  · obtain ⟨s, e⟩ := h2 v T1 c1 J1 hR
    show gw _ _ _ _ _ (gi 0 :: _) _ _
    refine gw_is5 at387_2874 (h := ?_)
    refine gw_al2 at387_2876 (gw_al0 at387_2877 (gw_il4 at387_2878 (gw_const at387_2880 (gw_iadd at387_2881 (gw_ia at387_2882 (Or.inr s.1.1) s.1.2 (by omega) (by omega) (by omega) (?_))))))
    rw [s.2]
    refine gw_call2 at387_2883 e (by omega) (Nat.le_of_ble_eq_true rfl) (fun o M1 q2 => ?_)
    obtain ⟨T2, c2, J2, rfl, rfl, hE, hv2, hv01⟩ := q2
    have hE0 := hE
    obtain ⟨⟨g1, g2⟩, g3, g4, -⟩ := hE
    show gw _ _ _ _ _ (gi v :: _) _ _
    refine gw_is6 at387_2886 (h := ?_)
    refine gw_al2 at387_2888 (gw_callP1 at387_2889 (m_thrown g1 g2) (by omega) (Nat.le_of_ble_eq_true rfl) ?_)
    rw [g3]
    refine gw_il5 at387_2892 (gw_ceq at387_2894 (by decide) (by decide) (fun _ => ?_) (fun q => absurd rfl q))
    refine gw_il5 at387_2899 (gw_zne at387_2901 (by decide) (fun q => absurd rfl q) (fun _ => ?_))
    refine gw_al3 at387_2904 (gw_const at387_2905 (gw_la at387_2906 g4.1 g4.2 (by decide) (by decide) (by decide) ?_))
    rw [hv2]
    refine gw_il6 at387_2907 ?_
    rcases hv01 with hv01 | hv01 <;> subst hv01
    · refine gw_zeq at387_2909 (by decide) (fun _ => ?_) (fun q => absurd rfl q)
      refine gw_lconst (z := 0) at387_2916 rfl (gw_lceq at387_2917 at387_2918 (by decide) (by decide) (fun _ => ?_) (fun q => absurd rfl q))
      exact gw_goto at387_2923 (hend _ T2 c2 J2 _ _ hE0 rfl rfl)
    · refine gw_zeq at387_2909 (by decide) (fun q => absurd q (by decide)) (fun _ => ?_)
      refine gw_lconst (z := 1) at387_2912 rfl (gw_goto at387_2913 (gw_lceq at387_2917 at387_2918 (by decide) (by decide) (fun _ => ?_) (fun q => absurd rfl q)))
      exact gw_goto at387_2923 (hend _ T2 c2 J2 _ _ hE0 rfl rfl)
  · obtain ⟨hk, s, e⟩ := h3 X T1 c1 J1 hR
    show gw _ _ _ _ _ (gi (hm X) :: _) _ _
    refine gw_is5 at387_2874 (h := ?_)
    refine gw_al2 at387_2876 (gw_al0 at387_2877 (gw_il4 at387_2878 (gw_const at387_2880 (gw_iadd at387_2881 (gw_ia at387_2882 (Or.inr s.1.1) s.1.2 (by omega) (by omega) (by omega) (?_))))))
    rw [s.2]
    refine gw_call2 at387_2883 e (by omega) (Nat.le_of_ble_eq_true rfl) (fun o M1 q2 => ?_)
    obtain ⟨b, T2, c2, J2, rfl, rfl, hE⟩ := q2
    have hE0 := hE
    obtain ⟨⟨g1, g2⟩, g3, g4, -⟩ := hE
    show gw _ _ _ _ _ (gi b :: _) _ _
    refine gw_is6 at387_2886 (h := ?_)
    refine gw_al2 at387_2888 (gw_callP1 at387_2889 (m_thrown g1 g2) (by omega) (Nat.le_of_ble_eq_true rfl) ?_)
    rw [g3]
    refine gw_il5 at387_2892 (gw_ceq at387_2894 (by omega) (by omega) (fun _ => ?_) (fun q => absurd rfl q))
    refine gw_il5 at387_2899 (gw_zne at387_2901 (by omega) (fun _ => ?_) (fun q => absurd q (by omega)))
    exact gw_goto at387_2923 (hend _ T2 c2 J2 _ _ hE0 rfl rfl)
set_option maxHeartbeats 1000000 in
theorem lc_57 {d HW HM : Nat} {T : gT} {c J : gC} {L : Nat} {i : Int} {E : gT → gC → gC → Prop} {Q : am_O → am_M → Prop} {hm : Nat → Int} {R : (Int ⊕ Nat) → gT → gC → gC → Prop} {u5 u6 : Value} (hHW : HW + 1 ≤ d) (hHM : HM + 1 ≤ d) (hL : (T.1 800000).1 = 41 ∧ (T.1 800000).2.1 = L) (hL2 : L ≤ 3072) (hi : 0 ≤ i ∧ i + 6 ≤ (L : Int)) (hu : am_nl u5 = true) (hv : am_nl u6 = true) (h1 : gE 5 380 HW [.ref 500000, gi (c 800000 (i + 1)), .ref 500002] (gm T c J) (gW hm R)) (h2 : ∀ v T1 c1 J1, R (.inl v) T1 c1 J1 → SCP L c T1 c1 ∧ gE 5 284 HM [.ref 500001, gi (c 800000 (i + 1))] (gm T1 c1 (gu J1 500002 0 v)) (fun o M1 => ∃ T2 c2 J2, o = .inl (some (gi v)) ∧ M1 = gm T2 c2 J2 ∧ ESP E 0 T2 c2 J2 ∧ J2 500002 0 = v ∧ -2147483648 ≤ v ∧ v < 2147483648)) (h3 : ∀ X T1 c1 J1, R (.inr X) T1 c1 J1 → (1 ≤ hm X ∧ hm X ≤ 3) ∧ SCP L c (gTe T1) (gz c1 (700000 + T1.2.1 7)) ∧ gE 5 284 HM [.ref 500001, gi (c 800000 (i + 1))] (gm (gTe T1) (gz c1 (700000 + T1.2.1 7)) (gz J1 (700000 + T1.2.1 7))) (fun o M1 => ∃ b T2 c2 J2, o = .inl (some (gi b)) ∧ M1 = gm T2 c2 J2 ∧ ESP E (hm X) T2 c2 J2)) (hend : ∀ z T2 c2 J2 (k b : Value), ESP E z T2 c2 J2 → am_nl k = true → am_nl b = true → gw d 5 387 3366 [.ref 800000, .ref 500000, .ref 500001, .ref 500002, gi i, k, b] [] (gm T2 c2 J2) Q) : gw d 5 387 2926 [.ref 800000, .ref 500000, .ref 500001, .ref 500002, gi i, u5, u6] [] (gm T c J) Q := by
  refine gw_al1 at387_2926 (gw_al0 at387_2927 (gw_il4 at387_2928 (gw_const at387_2930 (gw_iadd at387_2931 (gw_ia at387_2932 (Or.inr hL.1) hL.2 (by omega) (by omega) (by omega) (gw_al3 at387_2933 (?_)))))))
  refine gw_call3 at387_2934 h1 (by omega) (Nat.le_of_ble_eq_true rfl) (fun o M1 q => ?_)
  obtain ⟨T1, c1, J1, ⟨v, hR, rfl, rfl⟩ | ⟨X, hR, rfl, rfl⟩⟩ := q
  · obtain ⟨s, e⟩ := h2 v T1 c1 J1 hR
    show gw _ _ _ _ _ (gi 0 :: _) _ _
    refine gw_is5 at387_2937 (h := ?_)
    refine gw_al2 at387_2939 (gw_al0 at387_2940 (gw_il4 at387_2941 (gw_const at387_2943 (gw_iadd at387_2944 (gw_ia at387_2945 (Or.inr s.1.1) s.1.2 (by omega) (by omega) (by omega) (?_))))))
    rw [s.2]
    refine gw_call2 at387_2946 e (by omega) (Nat.le_of_ble_eq_true rfl) (fun o M1 q2 => ?_)
    obtain ⟨T2, c2, J2, rfl, rfl, hE, hv2, hvr⟩ := q2
    have hE0 := hE
    obtain ⟨⟨g1, g2⟩, g3, g4, -⟩ := hE
    show gw _ _ _ _ _ (gi v :: _) _ _
    refine gw_is6 at387_2949 (h := ?_)
    refine gw_al2 at387_2951 (gw_callP1 at387_2952 (m_thrown g1 g2) (by omega) (Nat.le_of_ble_eq_true rfl) ?_)
    rw [g3]
    refine gw_il5 at387_2955 (gw_ceq at387_2957 (by decide) (by decide) (fun _ => ?_) (fun q => absurd rfl q))
    refine gw_il5 at387_2962 (gw_zne at387_2964 (by decide) (fun q => absurd rfl q) (fun _ => ?_))
    refine gw_al3 at387_2967 (gw_const at387_2968 (gw_la at387_2969 g4.1 g4.2 (by decide) (by decide) (by decide) ?_))
    rw [hv2]
    refine gw_il6 at387_2970 (gw_i2l at387_2972 hvr (gw_lceq at387_2973 at387_2974 (by omega) (by omega) (fun _ => ?_) (fun q => absurd rfl q)))
    exact gw_goto at387_2979 (hend _ T2 c2 J2 _ _ hE0 rfl rfl)
  · obtain ⟨hk, s, e⟩ := h3 X T1 c1 J1 hR
    show gw _ _ _ _ _ (gi (hm X) :: _) _ _
    refine gw_is5 at387_2937 (h := ?_)
    refine gw_al2 at387_2939 (gw_al0 at387_2940 (gw_il4 at387_2941 (gw_const at387_2943 (gw_iadd at387_2944 (gw_ia at387_2945 (Or.inr s.1.1) s.1.2 (by omega) (by omega) (by omega) (?_))))))
    rw [s.2]
    refine gw_call2 at387_2946 e (by omega) (Nat.le_of_ble_eq_true rfl) (fun o M1 q2 => ?_)
    obtain ⟨b, T2, c2, J2, rfl, rfl, hE⟩ := q2
    have hE0 := hE
    obtain ⟨⟨g1, g2⟩, g3, g4, -⟩ := hE
    show gw _ _ _ _ _ (gi b :: _) _ _
    refine gw_is6 at387_2949 (h := ?_)
    refine gw_al2 at387_2951 (gw_callP1 at387_2952 (m_thrown g1 g2) (by omega) (Nat.le_of_ble_eq_true rfl) ?_)
    rw [g3]
    refine gw_il5 at387_2955 (gw_ceq at387_2957 (by omega) (by omega) (fun _ => ?_) (fun q => absurd rfl q))
    refine gw_il5 at387_2962 (gw_zne at387_2964 (by omega) (fun _ => ?_) (fun q => absurd q (by omega)))
    exact gw_goto at387_2979 (hend _ T2 c2 J2 _ _ hE0 rfl rfl)
set_option maxHeartbeats 1000000 in
theorem lc_58 {d HW HM : Nat} {T : gT} {c J : gC} {L : Nat} {i : Int} {E : gT → gC → gC → Prop} {Q : am_O → am_M → Prop} {hm : Nat → Int} {R : (Int ⊕ Nat) → gT → gC → gC → Prop} {u5 u6 : Value} (hHW : HW + 1 ≤ d) (hHM : HM + 1 ≤ d) (hL : (T.1 800000).1 = 41 ∧ (T.1 800000).2.1 = L) (hL2 : L ≤ 3072) (hi : 0 ≤ i ∧ i + 6 ≤ (L : Int)) (hu : am_nl u5 = true) (hv : am_nl u6 = true) (h1 : gE 5 381 HW [.ref 500000, gi (c 800000 (i + 1)), gi (c 800000 (i + 2)), .ref 500002] (gm T c J) (gW hm R)) (h2 : ∀ v T1 c1 J1, R (.inl v) T1 c1 J1 → SCP L c T1 c1 ∧ gE 5 248 HM [.ref 500001, gi (c 800000 (i + 1)), gi (c 800000 (i + 2))] (gm T1 c1 (gu J1 500002 0 v)) (fun o M1 => ∃ T2 c2 J2, o = .inl (some (gi v)) ∧ M1 = gm T2 c2 J2 ∧ ESP E 0 T2 c2 J2 ∧ J2 500002 0 = v ∧ -2147483648 ≤ v ∧ v < 2147483648)) (h3 : ∀ X T1 c1 J1, R (.inr X) T1 c1 J1 → (1 ≤ hm X ∧ hm X ≤ 3) ∧ SCP L c (gTe T1) (gz c1 (700000 + T1.2.1 7)) ∧ gE 5 248 HM [.ref 500001, gi (c 800000 (i + 1)), gi (c 800000 (i + 2))] (gm (gTe T1) (gz c1 (700000 + T1.2.1 7)) (gz J1 (700000 + T1.2.1 7))) (fun o M1 => ∃ b T2 c2 J2, o = .inl (some (gi b)) ∧ M1 = gm T2 c2 J2 ∧ ESP E (hm X) T2 c2 J2)) (hend : ∀ z T2 c2 J2 (k b : Value), ESP E z T2 c2 J2 → am_nl k = true → am_nl b = true → gw d 5 387 3366 [.ref 800000, .ref 500000, .ref 500001, .ref 500002, gi i, k, b] [] (gm T2 c2 J2) Q) : gw d 5 387 2982 [.ref 800000, .ref 500000, .ref 500001, .ref 500002, gi i, u5, u6] [] (gm T c J) Q := by
  refine gw_al1 at387_2982 (gw_al0 at387_2983 (gw_il4 at387_2984 (gw_const at387_2986 (gw_iadd at387_2987 (gw_ia at387_2988 (Or.inr hL.1) hL.2 (by omega) (by omega) (by omega) (gw_al0 at387_2989 (gw_il4 at387_2990 (gw_const at387_2992 (gw_iadd at387_2993 (gw_ia at387_2994 (Or.inr hL.1) hL.2 (by omega) (by omega) (by omega) (gw_al3 at387_2995 (?_))))))))))))
  refine gw_call4 at387_2996 h1 (by omega) (Nat.le_of_ble_eq_true rfl) (fun o M1 q => ?_)
  obtain ⟨T1, c1, J1, ⟨v, hR, rfl, rfl⟩ | ⟨X, hR, rfl, rfl⟩⟩ := q
  · obtain ⟨s, e⟩ := h2 v T1 c1 J1 hR
    show gw _ _ _ _ _ (gi 0 :: _) _ _
    refine gw_is5 at387_2999 (h := ?_)
    refine gw_al2 at387_3001 (gw_al0 at387_3002 (gw_il4 at387_3003 (gw_const at387_3005 (gw_iadd at387_3006 (gw_ia at387_3007 (Or.inr s.1.1) s.1.2 (by omega) (by omega) (by omega) (gw_al0 at387_3008 (gw_il4 at387_3009 (gw_const at387_3011 (gw_iadd at387_3012 (gw_ia at387_3013 (Or.inr s.1.1) s.1.2 (by omega) (by omega) (by omega) (?_)))))))))))
    rw [s.2]
    refine gw_call3 at387_3014 e (by omega) (Nat.le_of_ble_eq_true rfl) (fun o M1 q2 => ?_)
    obtain ⟨T2, c2, J2, rfl, rfl, hE, hv2, hvr⟩ := q2
    have hE0 := hE
    obtain ⟨⟨g1, g2⟩, g3, g4, -⟩ := hE
    show gw _ _ _ _ _ (gi v :: _) _ _
    refine gw_is6 at387_3017 (h := ?_)
    refine gw_al2 at387_3019 (gw_callP1 at387_3020 (m_thrown g1 g2) (by omega) (Nat.le_of_ble_eq_true rfl) ?_)
    rw [g3]
    refine gw_il5 at387_3023 (gw_ceq at387_3025 (by decide) (by decide) (fun _ => ?_) (fun q => absurd rfl q))
    refine gw_il5 at387_3030 (gw_zne at387_3032 (by decide) (fun q => absurd rfl q) (fun _ => ?_))
    refine gw_al3 at387_3035 (gw_const at387_3036 (gw_la at387_3037 g4.1 g4.2 (by decide) (by decide) (by decide) ?_))
    rw [hv2]
    refine gw_il6 at387_3038 (gw_i2l at387_3040 hvr (gw_lceq at387_3041 at387_3042 (by omega) (by omega) (fun _ => ?_) (fun q => absurd rfl q)))
    exact gw_goto at387_3047 (hend _ T2 c2 J2 _ _ hE0 rfl rfl)
  · obtain ⟨hk, s, e⟩ := h3 X T1 c1 J1 hR
    show gw _ _ _ _ _ (gi (hm X) :: _) _ _
    refine gw_is5 at387_2999 (h := ?_)
    refine gw_al2 at387_3001 (gw_al0 at387_3002 (gw_il4 at387_3003 (gw_const at387_3005 (gw_iadd at387_3006 (gw_ia at387_3007 (Or.inr s.1.1) s.1.2 (by omega) (by omega) (by omega) (gw_al0 at387_3008 (gw_il4 at387_3009 (gw_const at387_3011 (gw_iadd at387_3012 (gw_ia at387_3013 (Or.inr s.1.1) s.1.2 (by omega) (by omega) (by omega) (?_)))))))))))
    rw [s.2]
    refine gw_call3 at387_3014 e (by omega) (Nat.le_of_ble_eq_true rfl) (fun o M1 q2 => ?_)
    obtain ⟨b, T2, c2, J2, rfl, rfl, hE⟩ := q2
    have hE0 := hE
    obtain ⟨⟨g1, g2⟩, g3, g4, -⟩ := hE
    show gw _ _ _ _ _ (gi b :: _) _ _
    refine gw_is6 at387_3017 (h := ?_)
    refine gw_al2 at387_3019 (gw_callP1 at387_3020 (m_thrown g1 g2) (by omega) (Nat.le_of_ble_eq_true rfl) ?_)
    rw [g3]
    refine gw_il5 at387_3023 (gw_ceq at387_3025 (by omega) (by omega) (fun _ => ?_) (fun q => absurd rfl q))
    refine gw_il5 at387_3030 (gw_zne at387_3032 (by omega) (fun _ => ?_) (fun q => absurd q (by omega)))
    exact gw_goto at387_3047 (hend _ T2 c2 J2 _ _ hE0 rfl rfl)
set_option maxHeartbeats 1000000 in
theorem lc_59 {d HW HM : Nat} {T : gT} {c J : gC} {L : Nat} {i : Int} {E : gT → gC → gC → Prop} {Q : am_O → am_M → Prop} {hm : Nat → Int} {R : (Int ⊕ Nat) → gT → gC → gC → Prop} {u5 u6 : Value} (hHW : HW + 1 ≤ d) (hHM : HM + 1 ≤ d) (hL : (T.1 800000).1 = 41 ∧ (T.1 800000).2.1 = L) (hL2 : L ≤ 3072) (hi : 0 ≤ i ∧ i + 6 ≤ (L : Int)) (hu : am_nl u5 = true) (hv : am_nl u6 = true) (h1 : gE 5 382 HW [.ref 500000, gi (c 800000 (i + 1)), gi (c 800000 (i + 2)), .ref 500002] (gm T c J) (gW hm R)) (h2 : ∀ v T1 c1 J1, R (.inl v) T1 c1 J1 → SCP L c T1 c1 ∧ gE 5 265 HM [.ref 500001, gi (c 800000 (i + 1)), gi (c 800000 (i + 2))] (gm T1 c1 (gu J1 500002 0 v)) (fun o M1 => ∃ T2 c2 J2, o = .inl (some (gi v)) ∧ M1 = gm T2 c2 J2 ∧ ESP E 0 T2 c2 J2 ∧ J2 500002 0 = v ∧ -2147483648 ≤ v ∧ v < 2147483648)) (h3 : ∀ X T1 c1 J1, R (.inr X) T1 c1 J1 → (1 ≤ hm X ∧ hm X ≤ 3) ∧ SCP L c (gTe T1) (gz c1 (700000 + T1.2.1 7)) ∧ gE 5 265 HM [.ref 500001, gi (c 800000 (i + 1)), gi (c 800000 (i + 2))] (gm (gTe T1) (gz c1 (700000 + T1.2.1 7)) (gz J1 (700000 + T1.2.1 7))) (fun o M1 => ∃ b T2 c2 J2, o = .inl (some (gi b)) ∧ M1 = gm T2 c2 J2 ∧ ESP E (hm X) T2 c2 J2)) (hend : ∀ z T2 c2 J2 (k b : Value), ESP E z T2 c2 J2 → am_nl k = true → am_nl b = true → gw d 5 387 3366 [.ref 800000, .ref 500000, .ref 500001, .ref 500002, gi i, k, b] [] (gm T2 c2 J2) Q) : gw d 5 387 3050 [.ref 800000, .ref 500000, .ref 500001, .ref 500002, gi i, u5, u6] [] (gm T c J) Q := by
  refine gw_al1 at387_3050 (gw_al0 at387_3051 (gw_il4 at387_3052 (gw_const at387_3054 (gw_iadd at387_3055 (gw_ia at387_3056 (Or.inr hL.1) hL.2 (by omega) (by omega) (by omega) (gw_al0 at387_3057 (gw_il4 at387_3058 (gw_const at387_3060 (gw_iadd at387_3061 (gw_ia at387_3062 (Or.inr hL.1) hL.2 (by omega) (by omega) (by omega) (gw_al3 at387_3063 (?_))))))))))))
  refine gw_call4 at387_3064 h1 (by omega) (Nat.le_of_ble_eq_true rfl) (fun o M1 q => ?_)
  obtain ⟨T1, c1, J1, ⟨v, hR, rfl, rfl⟩ | ⟨X, hR, rfl, rfl⟩⟩ := q
  · obtain ⟨s, e⟩ := h2 v T1 c1 J1 hR
    show gw _ _ _ _ _ (gi 0 :: _) _ _
    refine gw_is5 at387_3067 (h := ?_)
    refine gw_al2 at387_3069 (gw_al0 at387_3070 (gw_il4 at387_3071 (gw_const at387_3073 (gw_iadd at387_3074 (gw_ia at387_3075 (Or.inr s.1.1) s.1.2 (by omega) (by omega) (by omega) (gw_al0 at387_3076 (gw_il4 at387_3077 (gw_const at387_3079 (gw_iadd at387_3080 (gw_ia at387_3081 (Or.inr s.1.1) s.1.2 (by omega) (by omega) (by omega) (?_)))))))))))
    rw [s.2]
    refine gw_call3 at387_3082 e (by omega) (Nat.le_of_ble_eq_true rfl) (fun o M1 q2 => ?_)
    obtain ⟨T2, c2, J2, rfl, rfl, hE, hv2, hvr⟩ := q2
    have hE0 := hE
    obtain ⟨⟨g1, g2⟩, g3, g4, -⟩ := hE
    show gw _ _ _ _ _ (gi v :: _) _ _
    refine gw_is6 at387_3085 (h := ?_)
    refine gw_al2 at387_3087 (gw_callP1 at387_3088 (m_thrown g1 g2) (by omega) (Nat.le_of_ble_eq_true rfl) ?_)
    rw [g3]
    refine gw_il5 at387_3091 (gw_ceq at387_3093 (by decide) (by decide) (fun _ => ?_) (fun q => absurd rfl q))
    refine gw_il5 at387_3098 (gw_zne at387_3100 (by decide) (fun q => absurd rfl q) (fun _ => ?_))
    refine gw_al3 at387_3103 (gw_const at387_3104 (gw_la at387_3105 g4.1 g4.2 (by decide) (by decide) (by decide) ?_))
    rw [hv2]
    refine gw_il6 at387_3106 (gw_i2l at387_3108 hvr (gw_lceq at387_3109 at387_3110 (by omega) (by omega) (fun _ => ?_) (fun q => absurd rfl q)))
    exact gw_goto at387_3115 (hend _ T2 c2 J2 _ _ hE0 rfl rfl)
  · obtain ⟨hk, s, e⟩ := h3 X T1 c1 J1 hR
    show gw _ _ _ _ _ (gi (hm X) :: _) _ _
    refine gw_is5 at387_3067 (h := ?_)
    refine gw_al2 at387_3069 (gw_al0 at387_3070 (gw_il4 at387_3071 (gw_const at387_3073 (gw_iadd at387_3074 (gw_ia at387_3075 (Or.inr s.1.1) s.1.2 (by omega) (by omega) (by omega) (gw_al0 at387_3076 (gw_il4 at387_3077 (gw_const at387_3079 (gw_iadd at387_3080 (gw_ia at387_3081 (Or.inr s.1.1) s.1.2 (by omega) (by omega) (by omega) (?_)))))))))))
    rw [s.2]
    refine gw_call3 at387_3082 e (by omega) (Nat.le_of_ble_eq_true rfl) (fun o M1 q2 => ?_)
    obtain ⟨b, T2, c2, J2, rfl, rfl, hE⟩ := q2
    have hE0 := hE
    obtain ⟨⟨g1, g2⟩, g3, g4, -⟩ := hE
    show gw _ _ _ _ _ (gi b :: _) _ _
    refine gw_is6 at387_3085 (h := ?_)
    refine gw_al2 at387_3087 (gw_callP1 at387_3088 (m_thrown g1 g2) (by omega) (Nat.le_of_ble_eq_true rfl) ?_)
    rw [g3]
    refine gw_il5 at387_3091 (gw_ceq at387_3093 (by omega) (by omega) (fun _ => ?_) (fun q => absurd rfl q))
    refine gw_il5 at387_3098 (gw_zne at387_3100 (by omega) (fun _ => ?_) (fun q => absurd q (by omega)))
    exact gw_goto at387_3115 (hend _ T2 c2 J2 _ _ hE0 rfl rfl)
set_option maxHeartbeats 1000000 in
theorem lc_60 {d HW HM : Nat} {T : gT} {c J : gC} {L : Nat} {i : Int} {E : gT → gC → gC → Prop} {Q : am_O → am_M → Prop} {hm : Nat → Int} {R : (Int ⊕ Nat) → gT → gC → gC → Prop} {u5 u6 : Value} (hHW : HW + 1 ≤ d) (hHM : HM + 1 ≤ d) (hL : (T.1 800000).1 = 41 ∧ (T.1 800000).2.1 = L) (hL2 : L ≤ 3072) (hi : 0 ≤ i ∧ i + 6 ≤ (L : Int)) (hu : am_nl u5 = true) (hv : am_nl u6 = true) (h1 : gE 5 383 HW [.ref 500000, gi (c 800000 (i + 1)), gi (c 800000 (i + 2)), .ref 500002] (gm T c J) (gW hm R)) (h2 : ∀ v T1 c1 J1, R (.inl v) T1 c1 J1 → SCP L c T1 c1 ∧ gE 5 264 HM [.ref 500001, gi (c 800000 (i + 1)), gi (c 800000 (i + 2))] (gm T1 c1 (gu J1 500002 0 v)) (fun o M1 => ∃ T2 c2 J2, o = .inl (some (gi v)) ∧ M1 = gm T2 c2 J2 ∧ ESP E 0 T2 c2 J2 ∧ J2 500002 0 = v ∧ -2147483648 ≤ v ∧ v < 2147483648)) (h3 : ∀ X T1 c1 J1, R (.inr X) T1 c1 J1 → (1 ≤ hm X ∧ hm X ≤ 3) ∧ SCP L c (gTe T1) (gz c1 (700000 + T1.2.1 7)) ∧ gE 5 264 HM [.ref 500001, gi (c 800000 (i + 1)), gi (c 800000 (i + 2))] (gm (gTe T1) (gz c1 (700000 + T1.2.1 7)) (gz J1 (700000 + T1.2.1 7))) (fun o M1 => ∃ b T2 c2 J2, o = .inl (some (gi b)) ∧ M1 = gm T2 c2 J2 ∧ ESP E (hm X) T2 c2 J2)) (hend : ∀ z T2 c2 J2 (k b : Value), ESP E z T2 c2 J2 → am_nl k = true → am_nl b = true → gw d 5 387 3366 [.ref 800000, .ref 500000, .ref 500001, .ref 500002, gi i, k, b] [] (gm T2 c2 J2) Q) : gw d 5 387 3118 [.ref 800000, .ref 500000, .ref 500001, .ref 500002, gi i, u5, u6] [] (gm T c J) Q := by
  refine gw_al1 at387_3118 (gw_al0 at387_3119 (gw_il4 at387_3120 (gw_const at387_3122 (gw_iadd at387_3123 (gw_ia at387_3124 (Or.inr hL.1) hL.2 (by omega) (by omega) (by omega) (gw_al0 at387_3125 (gw_il4 at387_3126 (gw_const at387_3128 (gw_iadd at387_3129 (gw_ia at387_3130 (Or.inr hL.1) hL.2 (by omega) (by omega) (by omega) (gw_al3 at387_3131 (?_))))))))))))
  refine gw_call4 at387_3132 h1 (by omega) (Nat.le_of_ble_eq_true rfl) (fun o M1 q => ?_)
  obtain ⟨T1, c1, J1, ⟨v, hR, rfl, rfl⟩ | ⟨X, hR, rfl, rfl⟩⟩ := q
  · obtain ⟨s, e⟩ := h2 v T1 c1 J1 hR
    show gw _ _ _ _ _ (gi 0 :: _) _ _
    refine gw_is5 at387_3135 (h := ?_)
    refine gw_al2 at387_3137 (gw_al0 at387_3138 (gw_il4 at387_3139 (gw_const at387_3141 (gw_iadd at387_3142 (gw_ia at387_3143 (Or.inr s.1.1) s.1.2 (by omega) (by omega) (by omega) (gw_al0 at387_3144 (gw_il4 at387_3145 (gw_const at387_3147 (gw_iadd at387_3148 (gw_ia at387_3149 (Or.inr s.1.1) s.1.2 (by omega) (by omega) (by omega) (?_)))))))))))
    rw [s.2]
    refine gw_call3 at387_3150 e (by omega) (Nat.le_of_ble_eq_true rfl) (fun o M1 q2 => ?_)
    obtain ⟨T2, c2, J2, rfl, rfl, hE, hv2, hvr⟩ := q2
    have hE0 := hE
    obtain ⟨⟨g1, g2⟩, g3, g4, -⟩ := hE
    show gw _ _ _ _ _ (gi v :: _) _ _
    refine gw_is6 at387_3153 (h := ?_)
    refine gw_al2 at387_3155 (gw_callP1 at387_3156 (m_thrown g1 g2) (by omega) (Nat.le_of_ble_eq_true rfl) ?_)
    rw [g3]
    refine gw_il5 at387_3159 (gw_ceq at387_3161 (by decide) (by decide) (fun _ => ?_) (fun q => absurd rfl q))
    refine gw_il5 at387_3166 (gw_zne at387_3168 (by decide) (fun q => absurd rfl q) (fun _ => ?_))
    refine gw_al3 at387_3171 (gw_const at387_3172 (gw_la at387_3173 g4.1 g4.2 (by decide) (by decide) (by decide) ?_))
    rw [hv2]
    refine gw_il6 at387_3174 (gw_i2l at387_3176 hvr (gw_lceq at387_3177 at387_3178 (by omega) (by omega) (fun _ => ?_) (fun q => absurd rfl q)))
    exact gw_goto at387_3183 (hend _ T2 c2 J2 _ _ hE0 rfl rfl)
  · obtain ⟨hk, s, e⟩ := h3 X T1 c1 J1 hR
    show gw _ _ _ _ _ (gi (hm X) :: _) _ _
    refine gw_is5 at387_3135 (h := ?_)
    refine gw_al2 at387_3137 (gw_al0 at387_3138 (gw_il4 at387_3139 (gw_const at387_3141 (gw_iadd at387_3142 (gw_ia at387_3143 (Or.inr s.1.1) s.1.2 (by omega) (by omega) (by omega) (gw_al0 at387_3144 (gw_il4 at387_3145 (gw_const at387_3147 (gw_iadd at387_3148 (gw_ia at387_3149 (Or.inr s.1.1) s.1.2 (by omega) (by omega) (by omega) (?_)))))))))))
    rw [s.2]
    refine gw_call3 at387_3150 e (by omega) (Nat.le_of_ble_eq_true rfl) (fun o M1 q2 => ?_)
    obtain ⟨b, T2, c2, J2, rfl, rfl, hE⟩ := q2
    have hE0 := hE
    obtain ⟨⟨g1, g2⟩, g3, g4, -⟩ := hE
    show gw _ _ _ _ _ (gi b :: _) _ _
    refine gw_is6 at387_3153 (h := ?_)
    refine gw_al2 at387_3155 (gw_callP1 at387_3156 (m_thrown g1 g2) (by omega) (Nat.le_of_ble_eq_true rfl) ?_)
    rw [g3]
    refine gw_il5 at387_3159 (gw_ceq at387_3161 (by omega) (by omega) (fun _ => ?_) (fun q => absurd rfl q))
    refine gw_il5 at387_3166 (gw_zne at387_3168 (by omega) (fun _ => ?_) (fun q => absurd q (by omega)))
    exact gw_goto at387_3183 (hend _ T2 c2 J2 _ _ hE0 rfl rfl)
set_option maxHeartbeats 1000000 in
theorem lc_61 {d HW HM : Nat} {T : gT} {c J : gC} {L : Nat} {i : Int} {E : gT → gC → gC → Prop} {Q : am_O → am_M → Prop} {hm : Nat → Int} {R : (Int ⊕ Nat) → gT → gC → gC → Prop} {u5 u6 : Value} (hHW : HW + 1 ≤ d) (hHM : HM + 1 ≤ d) (hL : (T.1 800000).1 = 41 ∧ (T.1 800000).2.1 = L) (hL2 : L ≤ 3072) (hi : 0 ≤ i ∧ i + 6 ≤ (L : Int)) (hu : am_nl u5 = true) (hv : am_nl u6 = true) (h1 : gE 5 384 HW [.ref 500000, gi (c 800000 (i + 1)), .ref 500002] (gm T c J) (gW hm R)) (h2 : ∀ v T1 c1 J1, R (.inl v) T1 c1 J1 → SCP L c T1 c1 ∧ gE 5 286 HM [.ref 500001, gi (c 800000 (i + 1))] (gm T1 c1 (gu J1 500002 0 v)) (fun o M1 => ∃ T2 c2 J2, o = .inl (some (gi v)) ∧ M1 = gm T2 c2 J2 ∧ ESP E 0 T2 c2 J2 ∧ J2 500002 0 = v ∧ -2147483648 ≤ v ∧ v < 2147483648)) (h3 : ∀ X T1 c1 J1, R (.inr X) T1 c1 J1 → (1 ≤ hm X ∧ hm X ≤ 3) ∧ SCP L c (gTe T1) (gz c1 (700000 + T1.2.1 7)) ∧ gE 5 286 HM [.ref 500001, gi (c 800000 (i + 1))] (gm (gTe T1) (gz c1 (700000 + T1.2.1 7)) (gz J1 (700000 + T1.2.1 7))) (fun o M1 => ∃ b T2 c2 J2, o = .inl (some (gi b)) ∧ M1 = gm T2 c2 J2 ∧ ESP E (hm X) T2 c2 J2)) (hend : ∀ z T2 c2 J2 (k b : Value), ESP E z T2 c2 J2 → am_nl k = true → am_nl b = true → gw d 5 387 3366 [.ref 800000, .ref 500000, .ref 500001, .ref 500002, gi i, k, b] [] (gm T2 c2 J2) Q) : gw d 5 387 3186 [.ref 800000, .ref 500000, .ref 500001, .ref 500002, gi i, u5, u6] [] (gm T c J) Q := by
  refine gw_al1 at387_3186 (gw_al0 at387_3187 (gw_il4 at387_3188 (gw_const at387_3190 (gw_iadd at387_3191 (gw_ia at387_3192 (Or.inr hL.1) hL.2 (by omega) (by omega) (by omega) (gw_al3 at387_3193 (?_)))))))
  refine gw_call3 at387_3194 h1 (by omega) (Nat.le_of_ble_eq_true rfl) (fun o M1 q => ?_)
  obtain ⟨T1, c1, J1, ⟨v, hR, rfl, rfl⟩ | ⟨X, hR, rfl, rfl⟩⟩ := q
  · obtain ⟨s, e⟩ := h2 v T1 c1 J1 hR
    show gw _ _ _ _ _ (gi 0 :: _) _ _
    refine gw_is5 at387_3197 (h := ?_)
    refine gw_al2 at387_3199 (gw_al0 at387_3200 (gw_il4 at387_3201 (gw_const at387_3203 (gw_iadd at387_3204 (gw_ia at387_3205 (Or.inr s.1.1) s.1.2 (by omega) (by omega) (by omega) (?_))))))
    rw [s.2]
    refine gw_call2 at387_3206 e (by omega) (Nat.le_of_ble_eq_true rfl) (fun o M1 q2 => ?_)
    obtain ⟨T2, c2, J2, rfl, rfl, hE, hv2, hvr⟩ := q2
    have hE0 := hE
    obtain ⟨⟨g1, g2⟩, g3, g4, -⟩ := hE
    show gw _ _ _ _ _ (gi v :: _) _ _
    refine gw_is6 at387_3209 (h := ?_)
    refine gw_al2 at387_3211 (gw_callP1 at387_3212 (m_thrown g1 g2) (by omega) (Nat.le_of_ble_eq_true rfl) ?_)
    rw [g3]
    refine gw_il5 at387_3215 (gw_ceq at387_3217 (by decide) (by decide) (fun _ => ?_) (fun q => absurd rfl q))
    refine gw_il5 at387_3222 (gw_zne at387_3224 (by decide) (fun q => absurd rfl q) (fun _ => ?_))
    refine gw_al3 at387_3227 (gw_const at387_3228 (gw_la at387_3229 g4.1 g4.2 (by decide) (by decide) (by decide) ?_))
    rw [hv2]
    refine gw_il6 at387_3230 (gw_i2l at387_3232 hvr (gw_lceq at387_3233 at387_3234 (by omega) (by omega) (fun _ => ?_) (fun q => absurd rfl q)))
    exact gw_goto at387_3239 (hend _ T2 c2 J2 _ _ hE0 rfl rfl)
  · obtain ⟨hk, s, e⟩ := h3 X T1 c1 J1 hR
    show gw _ _ _ _ _ (gi (hm X) :: _) _ _
    refine gw_is5 at387_3197 (h := ?_)
    refine gw_al2 at387_3199 (gw_al0 at387_3200 (gw_il4 at387_3201 (gw_const at387_3203 (gw_iadd at387_3204 (gw_ia at387_3205 (Or.inr s.1.1) s.1.2 (by omega) (by omega) (by omega) (?_))))))
    rw [s.2]
    refine gw_call2 at387_3206 e (by omega) (Nat.le_of_ble_eq_true rfl) (fun o M1 q2 => ?_)
    obtain ⟨b, T2, c2, J2, rfl, rfl, hE⟩ := q2
    have hE0 := hE
    obtain ⟨⟨g1, g2⟩, g3, g4, -⟩ := hE
    show gw _ _ _ _ _ (gi b :: _) _ _
    refine gw_is6 at387_3209 (h := ?_)
    refine gw_al2 at387_3211 (gw_callP1 at387_3212 (m_thrown g1 g2) (by omega) (Nat.le_of_ble_eq_true rfl) ?_)
    rw [g3]
    refine gw_il5 at387_3215 (gw_ceq at387_3217 (by omega) (by omega) (fun _ => ?_) (fun q => absurd rfl q))
    refine gw_il5 at387_3222 (gw_zne at387_3224 (by omega) (fun _ => ?_) (fun q => absurd q (by omega)))
    exact gw_goto at387_3239 (hend _ T2 c2 J2 _ _ hE0 rfl rfl)
set_option maxHeartbeats 1000000 in
theorem lc_62 {d HW HM : Nat} {T : gT} {c J : gC} {L : Nat} {i : Int} {E : gT → gC → gC → Prop} {Q : am_O → am_M → Prop} {hm : Nat → Int} {R : (Int ⊕ Nat) → gT → gC → gC → Prop} {u5 u6 : Value} (hHW : HW + 1 ≤ d) (hHM : HM + 1 ≤ d) (hL : (T.1 800000).1 = 41 ∧ (T.1 800000).2.1 = L) (hL2 : L ≤ 3072) (hi : 0 ≤ i ∧ i + 6 ≤ (L : Int)) (hu : am_nl u5 = true) (hv : am_nl u6 = true) (h1 : gE 5 385 HW [.ref 500000, gi (c 800000 (i + 1)), .ref 500002] (gm T c J) (gW hm R)) (h2 : ∀ v T1 c1 J1, R (.inl v) T1 c1 J1 → SCP L c T1 c1 ∧ gE 5 287 HM [.ref 500001, gi (c 800000 (i + 1))] (gm T1 c1 (gu J1 500002 0 v)) (fun o M1 => ∃ T2 c2 J2, o = .inl (some (gi v)) ∧ M1 = gm T2 c2 J2 ∧ ESP E 0 T2 c2 J2 ∧ J2 500002 0 = v ∧ -2147483648 ≤ v ∧ v < 2147483648)) (h3 : ∀ X T1 c1 J1, R (.inr X) T1 c1 J1 → (1 ≤ hm X ∧ hm X ≤ 3) ∧ SCP L c (gTe T1) (gz c1 (700000 + T1.2.1 7)) ∧ gE 5 287 HM [.ref 500001, gi (c 800000 (i + 1))] (gm (gTe T1) (gz c1 (700000 + T1.2.1 7)) (gz J1 (700000 + T1.2.1 7))) (fun o M1 => ∃ b T2 c2 J2, o = .inl (some (gi b)) ∧ M1 = gm T2 c2 J2 ∧ ESP E (hm X) T2 c2 J2)) (hend : ∀ z T2 c2 J2 (k b : Value), ESP E z T2 c2 J2 → am_nl k = true → am_nl b = true → gw d 5 387 3366 [.ref 800000, .ref 500000, .ref 500001, .ref 500002, gi i, k, b] [] (gm T2 c2 J2) Q) : gw d 5 387 3242 [.ref 800000, .ref 500000, .ref 500001, .ref 500002, gi i, u5, u6] [] (gm T c J) Q := by
  refine gw_al1 at387_3242 (gw_al0 at387_3243 (gw_il4 at387_3244 (gw_const at387_3246 (gw_iadd at387_3247 (gw_ia at387_3248 (Or.inr hL.1) hL.2 (by omega) (by omega) (by omega) (gw_al3 at387_3249 (?_)))))))
  refine gw_call3 at387_3250 h1 (by omega) (Nat.le_of_ble_eq_true rfl) (fun o M1 q => ?_)
  obtain ⟨T1, c1, J1, ⟨v, hR, rfl, rfl⟩ | ⟨X, hR, rfl, rfl⟩⟩ := q
  · obtain ⟨s, e⟩ := h2 v T1 c1 J1 hR
    show gw _ _ _ _ _ (gi 0 :: _) _ _
    refine gw_is5 at387_3253 (h := ?_)
    refine gw_al2 at387_3255 (gw_al0 at387_3256 (gw_il4 at387_3257 (gw_const at387_3259 (gw_iadd at387_3260 (gw_ia at387_3261 (Or.inr s.1.1) s.1.2 (by omega) (by omega) (by omega) (?_))))))
    rw [s.2]
    refine gw_call2 at387_3262 e (by omega) (Nat.le_of_ble_eq_true rfl) (fun o M1 q2 => ?_)
    obtain ⟨T2, c2, J2, rfl, rfl, hE, hv2, hvr⟩ := q2
    have hE0 := hE
    obtain ⟨⟨g1, g2⟩, g3, g4, -⟩ := hE
    show gw _ _ _ _ _ (gi v :: _) _ _
    refine gw_is6 at387_3265 (h := ?_)
    refine gw_al2 at387_3267 (gw_callP1 at387_3268 (m_thrown g1 g2) (by omega) (Nat.le_of_ble_eq_true rfl) ?_)
    rw [g3]
    refine gw_il5 at387_3271 (gw_ceq at387_3273 (by decide) (by decide) (fun _ => ?_) (fun q => absurd rfl q))
    refine gw_il5 at387_3278 (gw_zne at387_3280 (by decide) (fun q => absurd rfl q) (fun _ => ?_))
    refine gw_al3 at387_3283 (gw_const at387_3284 (gw_la at387_3285 g4.1 g4.2 (by decide) (by decide) (by decide) ?_))
    rw [hv2]
    refine gw_il6 at387_3286 (gw_i2l at387_3288 hvr (gw_lceq at387_3289 at387_3290 (by omega) (by omega) (fun _ => ?_) (fun q => absurd rfl q)))
    exact gw_goto at387_3295 (hend _ T2 c2 J2 _ _ hE0 rfl rfl)
  · obtain ⟨hk, s, e⟩ := h3 X T1 c1 J1 hR
    show gw _ _ _ _ _ (gi (hm X) :: _) _ _
    refine gw_is5 at387_3253 (h := ?_)
    refine gw_al2 at387_3255 (gw_al0 at387_3256 (gw_il4 at387_3257 (gw_const at387_3259 (gw_iadd at387_3260 (gw_ia at387_3261 (Or.inr s.1.1) s.1.2 (by omega) (by omega) (by omega) (?_))))))
    rw [s.2]
    refine gw_call2 at387_3262 e (by omega) (Nat.le_of_ble_eq_true rfl) (fun o M1 q2 => ?_)
    obtain ⟨b, T2, c2, J2, rfl, rfl, hE⟩ := q2
    have hE0 := hE
    obtain ⟨⟨g1, g2⟩, g3, g4, -⟩ := hE
    show gw _ _ _ _ _ (gi b :: _) _ _
    refine gw_is6 at387_3265 (h := ?_)
    refine gw_al2 at387_3267 (gw_callP1 at387_3268 (m_thrown g1 g2) (by omega) (Nat.le_of_ble_eq_true rfl) ?_)
    rw [g3]
    refine gw_il5 at387_3271 (gw_ceq at387_3273 (by omega) (by omega) (fun _ => ?_) (fun q => absurd rfl q))
    refine gw_il5 at387_3278 (gw_zne at387_3280 (by omega) (fun _ => ?_) (fun q => absurd q (by omega)))
    exact gw_goto at387_3295 (hend _ T2 c2 J2 _ _ hE0 rfl rfl)
set_option maxHeartbeats 1000000 in
theorem lc_63 {d HW HM : Nat} {T : gT} {c J : gC} {L : Nat} {i : Int} {E : gT → gC → gC → Prop} {Q : am_O → am_M → Prop} {hm : Nat → Int} {R : (Int ⊕ Nat) → gT → gC → gC → Prop} {u5 u6 : Value} (hHW : HW + 1 ≤ d) (hHM : HM + 1 ≤ d) (hL : (T.1 800000).1 = 41 ∧ (T.1 800000).2.1 = L) (hL2 : L ≤ 3072) (hi : 0 ≤ i ∧ i + 6 ≤ (L : Int)) (hu : am_nl u5 = true) (hv : am_nl u6 = true) (h1 : gE 5 386 HW [.ref 500000, gi (c 800000 (i + 1)), gi (c 800000 (i + 2)), .ref 500002] (gm T c J) (gW hm R)) (h2 : ∀ v T1 c1 J1, R (.inl v) T1 c1 J1 → SCP L c T1 c1 ∧ gE 5 288 HM [.ref 500001, gi (c 800000 (i + 1)), gi (c 800000 (i + 2))] (gm T1 c1 (gu J1 500002 0 v)) (fun o M1 => ∃ T2 c2 J2, o = .inl (some (gi v)) ∧ M1 = gm T2 c2 J2 ∧ ESP E 0 T2 c2 J2 ∧ J2 500002 0 = v ∧ -2147483648 ≤ v ∧ v < 2147483648)) (h3 : ∀ X T1 c1 J1, R (.inr X) T1 c1 J1 → (1 ≤ hm X ∧ hm X ≤ 3) ∧ SCP L c (gTe T1) (gz c1 (700000 + T1.2.1 7)) ∧ gE 5 288 HM [.ref 500001, gi (c 800000 (i + 1)), gi (c 800000 (i + 2))] (gm (gTe T1) (gz c1 (700000 + T1.2.1 7)) (gz J1 (700000 + T1.2.1 7))) (fun o M1 => ∃ b T2 c2 J2, o = .inl (some (gi b)) ∧ M1 = gm T2 c2 J2 ∧ ESP E (hm X) T2 c2 J2)) (hend : ∀ z T2 c2 J2 (k b : Value), ESP E z T2 c2 J2 → am_nl k = true → am_nl b = true → gw d 5 387 3366 [.ref 800000, .ref 500000, .ref 500001, .ref 500002, gi i, k, b] [] (gm T2 c2 J2) Q) : gw d 5 387 3298 [.ref 800000, .ref 500000, .ref 500001, .ref 500002, gi i, u5, u6] [] (gm T c J) Q := by
  refine gw_al1 at387_3298 (gw_al0 at387_3299 (gw_il4 at387_3300 (gw_const at387_3302 (gw_iadd at387_3303 (gw_ia at387_3304 (Or.inr hL.1) hL.2 (by omega) (by omega) (by omega) (gw_al0 at387_3305 (gw_il4 at387_3306 (gw_const at387_3308 (gw_iadd at387_3309 (gw_ia at387_3310 (Or.inr hL.1) hL.2 (by omega) (by omega) (by omega) (gw_al3 at387_3311 (?_))))))))))))
  refine gw_call4 at387_3312 h1 (by omega) (Nat.le_of_ble_eq_true rfl) (fun o M1 q => ?_)
  obtain ⟨T1, c1, J1, ⟨v, hR, rfl, rfl⟩ | ⟨X, hR, rfl, rfl⟩⟩ := q
  · obtain ⟨s, e⟩ := h2 v T1 c1 J1 hR
    show gw _ _ _ _ _ (gi 0 :: _) _ _
    refine gw_is5 at387_3315 (h := ?_)
    refine gw_al2 at387_3317 (gw_al0 at387_3318 (gw_il4 at387_3319 (gw_const at387_3321 (gw_iadd at387_3322 (gw_ia at387_3323 (Or.inr s.1.1) s.1.2 (by omega) (by omega) (by omega) (gw_al0 at387_3324 (gw_il4 at387_3325 (gw_const at387_3327 (gw_iadd at387_3328 (gw_ia at387_3329 (Or.inr s.1.1) s.1.2 (by omega) (by omega) (by omega) (?_)))))))))))
    rw [s.2]
    refine gw_call3 at387_3330 e (by omega) (Nat.le_of_ble_eq_true rfl) (fun o M1 q2 => ?_)
    obtain ⟨T2, c2, J2, rfl, rfl, hE, hv2, hvr⟩ := q2
    have hE0 := hE
    obtain ⟨⟨g1, g2⟩, g3, g4, -⟩ := hE
    show gw _ _ _ _ _ (gi v :: _) _ _
    refine gw_is6 at387_3333 (h := ?_)
    refine gw_al2 at387_3335 (gw_callP1 at387_3336 (m_thrown g1 g2) (by omega) (Nat.le_of_ble_eq_true rfl) ?_)
    rw [g3]
    refine gw_il5 at387_3339 (gw_ceq at387_3341 (by decide) (by decide) (fun _ => ?_) (fun q => absurd rfl q))
    refine gw_il5 at387_3346 (gw_zne at387_3348 (by decide) (fun q => absurd rfl q) (fun _ => ?_))
    refine gw_al3 at387_3351 (gw_const at387_3352 (gw_la at387_3353 g4.1 g4.2 (by decide) (by decide) (by decide) ?_))
    rw [hv2]
    refine gw_il6 at387_3354 (gw_i2l at387_3356 hvr (gw_lceq at387_3357 at387_3358 (by omega) (by omega) (fun _ => ?_) (fun q => absurd rfl q)))
    exact gw_goto at387_3363 (hend _ T2 c2 J2 _ _ hE0 rfl rfl)
  · obtain ⟨hk, s, e⟩ := h3 X T1 c1 J1 hR
    show gw _ _ _ _ _ (gi (hm X) :: _) _ _
    refine gw_is5 at387_3315 (h := ?_)
    refine gw_al2 at387_3317 (gw_al0 at387_3318 (gw_il4 at387_3319 (gw_const at387_3321 (gw_iadd at387_3322 (gw_ia at387_3323 (Or.inr s.1.1) s.1.2 (by omega) (by omega) (by omega) (gw_al0 at387_3324 (gw_il4 at387_3325 (gw_const at387_3327 (gw_iadd at387_3328 (gw_ia at387_3329 (Or.inr s.1.1) s.1.2 (by omega) (by omega) (by omega) (?_)))))))))))
    rw [s.2]
    refine gw_call3 at387_3330 e (by omega) (Nat.le_of_ble_eq_true rfl) (fun o M1 q2 => ?_)
    obtain ⟨b, T2, c2, J2, rfl, rfl, hE⟩ := q2
    have hE0 := hE
    obtain ⟨⟨g1, g2⟩, g3, g4, -⟩ := hE
    show gw _ _ _ _ _ (gi b :: _) _ _
    refine gw_is6 at387_3333 (h := ?_)
    refine gw_al2 at387_3335 (gw_callP1 at387_3336 (m_thrown g1 g2) (by omega) (Nat.le_of_ble_eq_true rfl) ?_)
    rw [g3]
    refine gw_il5 at387_3339 (gw_ceq at387_3341 (by omega) (by omega) (fun _ => ?_) (fun q => absurd rfl q))
    refine gw_il5 at387_3346 (gw_zne at387_3348 (by omega) (fun _ => ?_) (fun q => absurd q (by omega)))
    exact gw_goto at387_3363 (hend _ T2 c2 J2 _ _ hE0 rfl rfl)
