/-! the law's cases: one call of the class, one of the reference -/
/-- the script stays -/
def SCP (L : Nat) (c : gC) (T1 : gT) (c1 : gC) : Prop := ((T1.1 800000).1 = 41 ∧ (T1.1 800000).2.1 = L) ∧ c1 800000 = c 800000
def ESP (E : gT → gC → gC → Prop) (z : Int) (T : gT) (c J : gC) : Prop := (MT T 200000 ∧ RG c) ∧ c 500001 0 = z ∧ ((T.1 500002).1 = 3 ∧ (T.1 500002).2.1 = 1) ∧ E T c J
theorem gw_bsel {d g y pc pc1 pc2 pc3 pc4 : Nat} {off o2 : Int} {a2 b0 b2 b3 a3 b4 : Nat} {L r : List Value} {T : gT} {c J : gC} {Q : am_O → am_M → Prop} {z : Int} {p : Bool} (hi : am_at y pc pc1 (.ifCond .eq off) 0 pc3 b0) (h1 : am_at y pc1 pc2 (.iconst 1) 0 a3 b3) (h2 : am_at y pc2 pc3 (.goto o2) 0 pc4 b2) (h0 : am_at y pc3 pc4 (.iconst 0) 0 a2 b4) (hz : -2147483648 ≤ z ∧ z < 2147483648) (hp : p = decide (¬ z = 0)) (h : gw d g y pc4 L (gi (bi p) :: r) (gm T c J) Q) : gw d g y pc L (gi z :: r) (gm T c J) Q := by
  refine gw_zeq hi hz (fun q => ?_) (fun q => ?_)
  · refine gw_const h0 ?_
    rw [hp, decide_eq_false (fun x => x q)] at h
    exact h
  · refine gw_const h1 (gw_goto h2 ?_)
    rw [hp, decide_eq_true q] at h
    exact h
set_option maxHeartbeats 1000000 in
theorem lc_0 {d HW HM : Nat} {T : gT} {c J : gC} {L : Nat} {i : Int} {E : gT → gC → gC → Prop} {Q : am_O → am_M → Prop} {hm : Nat → Int} {R : (Int ⊕ Nat) → gT → gC → gC → Prop} {u5 u6 : Value} (hHW : HW + 1 ≤ d) (hHM : HM + 1 ≤ d) (hL : (T.1 800000).1 = 41 ∧ (T.1 800000).2.1 = L) (hL2 : L ≤ 3072) (hi : 0 ≤ i ∧ i + 6 ≤ (L : Int)) (hu : am_nl u5 = true) (hv : am_nl u6 = true) (h1 : gE 5 341 HW [.ref 500000, gi (c 800000 (i + 1)), gi (c 800000 (i + 2)), gi (c 800000 (i + 3)), gi (c 800000 (i + 4)), gi (c 800000 (i + 5)), .ref 500002] (gm T c J) (gW hm R)) (h2 : ∀ v T1 c1 J1, R (.inl v) T1 c1 J1 → SCP L c T1 c1 ∧ gE 5 293 HM [.ref 500001, gi (c 800000 (i + 1)), gi (c 800000 (i + 2)), gi (c 800000 (i + 3)), gi (c 800000 (i + 4)), gi (c 800000 (i + 5))] (gm T1 c1 (gu J1 500002 0 v)) (fun o M1 => ∃ T2 c2 J2, o = .inl (some (gi v)) ∧ M1 = gm T2 c2 J2 ∧ ESP E 0 T2 c2 J2 ∧ J2 500002 0 = v ∧ -2147483648 ≤ v ∧ v < 2147483648)) (h3 : ∀ X T1 c1 J1, R (.inr X) T1 c1 J1 → (1 ≤ hm X ∧ hm X ≤ 3) ∧ SCP L c (gTe T1) (gz c1 (700000 + T1.2.1 7)) ∧ gE 5 293 HM [.ref 500001, gi (c 800000 (i + 1)), gi (c 800000 (i + 2)), gi (c 800000 (i + 3)), gi (c 800000 (i + 4)), gi (c 800000 (i + 5))] (gm (gTe T1) (gz c1 (700000 + T1.2.1 7)) (gz J1 (700000 + T1.2.1 7))) (fun o M1 => ∃ b T2 c2 J2, o = .inl (some (gi b)) ∧ M1 = gm T2 c2 J2 ∧ ESP E (hm X) T2 c2 J2)) (hend : ∀ z T2 c2 J2 (k b : Value), ESP E z T2 c2 J2 → am_nl k = true → am_nl b = true → gw d 5 388 3366 [.ref 800000, .ref 500000, .ref 500001, .ref 500002, gi i, k, b] [] (gm T2 c2 J2) Q) : gw d 5 388 312 [.ref 800000, .ref 500000, .ref 500001, .ref 500002, gi i, u5, u6] [] (gm T c J) Q := by
  refine gw_al1 at388_312 (gw_al0 at388_313 (gw_il4 at388_314 (gw_const at388_316 (gw_iadd at388_317 (gw_ia at388_318 (Or.inr hL.1) hL.2 (by omega) (by omega) (by omega) (gw_al0 at388_319 (gw_il4 at388_320 (gw_const at388_322 (gw_iadd at388_323 (gw_ia at388_324 (Or.inr hL.1) hL.2 (by omega) (by omega) (by omega) (gw_al0 at388_325 (gw_il4 at388_326 (gw_const at388_328 (gw_iadd at388_329 (gw_ia at388_330 (Or.inr hL.1) hL.2 (by omega) (by omega) (by omega) (gw_al0 at388_331 (gw_il4 at388_332 (gw_const at388_334 (gw_iadd at388_335 (gw_ia at388_336 (Or.inr hL.1) hL.2 (by omega) (by omega) (by omega) (gw_al0 at388_337 (gw_il4 at388_338 (gw_const at388_340 (gw_iadd at388_341 (gw_ia at388_342 (Or.inr hL.1) hL.2 (by omega) (by omega) (by omega) (gw_al3 at388_343 (?_)))))))))))))))))))))))))))
  refine gw_call7 at388_344 h1 (by omega) (Nat.le_of_ble_eq_true rfl) (fun o M1 q => ?_)
  obtain ⟨T1, c1, J1, ⟨v, hR, rfl, rfl⟩ | ⟨X, hR, rfl, rfl⟩⟩ := q
  · obtain ⟨s, e⟩ := h2 v T1 c1 J1 hR
    show gw _ _ _ _ _ (gi 0 :: _) _ _
    refine gw_is5 at388_347 (h := ?_)
    refine gw_al2 at388_349 (gw_al0 at388_350 (gw_il4 at388_351 (gw_const at388_353 (gw_iadd at388_354 (gw_ia at388_355 (Or.inr s.1.1) s.1.2 (by omega) (by omega) (by omega) (gw_al0 at388_356 (gw_il4 at388_357 (gw_const at388_359 (gw_iadd at388_360 (gw_ia at388_361 (Or.inr s.1.1) s.1.2 (by omega) (by omega) (by omega) (gw_al0 at388_362 (gw_il4 at388_363 (gw_const at388_365 (gw_iadd at388_366 (gw_ia at388_367 (Or.inr s.1.1) s.1.2 (by omega) (by omega) (by omega) (gw_al0 at388_368 (gw_il4 at388_369 (gw_const at388_371 (gw_iadd at388_372 (gw_ia at388_373 (Or.inr s.1.1) s.1.2 (by omega) (by omega) (by omega) (gw_al0 at388_374 (gw_il4 at388_375 (gw_const at388_377 (gw_iadd at388_378 (gw_ia at388_379 (Or.inr s.1.1) s.1.2 (by omega) (by omega) (by omega) (?_))))))))))))))))))))))))))
    rw [s.2]
    refine gw_call6 at388_380 e (by omega) (Nat.le_of_ble_eq_true rfl) (fun o M1 q2 => ?_)
    obtain ⟨T2, c2, J2, rfl, rfl, hE, hv2, hvr⟩ := q2
    have hE0 := hE
    obtain ⟨⟨g1, g2⟩, g3, g4, -⟩ := hE
    show gw _ _ _ _ _ (gi v :: _) _ _
    refine gw_is6 at388_383 (h := ?_)
    refine gw_al2 at388_385 (gw_callP1 at388_386 (m_thrown g1 g2) (by omega) (Nat.le_of_ble_eq_true rfl) ?_)
    rw [g3]
    refine gw_il5 at388_389 (gw_ceq at388_391 (by decide) (by decide) (fun _ => ?_) (fun q => absurd rfl q))
    refine gw_il5 at388_396 (gw_zne at388_398 (by decide) (fun q => absurd rfl q) (fun _ => ?_))
    refine gw_al3 at388_401 (gw_const at388_402 (gw_la at388_403 g4.1 g4.2 (by decide) (by decide) (by decide) ?_))
    rw [hv2]
    refine gw_il6 at388_404 (gw_i2l at388_406 hvr (gw_lceq at388_407 at388_408 (by omega) (by omega) (fun _ => ?_) (fun q => absurd rfl q)))
    exact gw_goto at388_413 (hend _ T2 c2 J2 _ _ hE0 rfl rfl)
  · obtain ⟨hk, s, e⟩ := h3 X T1 c1 J1 hR
    show gw _ _ _ _ _ (gi (hm X) :: _) _ _
    refine gw_is5 at388_347 (h := ?_)
    refine gw_al2 at388_349 (gw_al0 at388_350 (gw_il4 at388_351 (gw_const at388_353 (gw_iadd at388_354 (gw_ia at388_355 (Or.inr s.1.1) s.1.2 (by omega) (by omega) (by omega) (gw_al0 at388_356 (gw_il4 at388_357 (gw_const at388_359 (gw_iadd at388_360 (gw_ia at388_361 (Or.inr s.1.1) s.1.2 (by omega) (by omega) (by omega) (gw_al0 at388_362 (gw_il4 at388_363 (gw_const at388_365 (gw_iadd at388_366 (gw_ia at388_367 (Or.inr s.1.1) s.1.2 (by omega) (by omega) (by omega) (gw_al0 at388_368 (gw_il4 at388_369 (gw_const at388_371 (gw_iadd at388_372 (gw_ia at388_373 (Or.inr s.1.1) s.1.2 (by omega) (by omega) (by omega) (gw_al0 at388_374 (gw_il4 at388_375 (gw_const at388_377 (gw_iadd at388_378 (gw_ia at388_379 (Or.inr s.1.1) s.1.2 (by omega) (by omega) (by omega) (?_))))))))))))))))))))))))))
    rw [s.2]
    refine gw_call6 at388_380 e (by omega) (Nat.le_of_ble_eq_true rfl) (fun o M1 q2 => ?_)
    obtain ⟨b, T2, c2, J2, rfl, rfl, hE⟩ := q2
    have hE0 := hE
    obtain ⟨⟨g1, g2⟩, g3, g4, -⟩ := hE
    show gw _ _ _ _ _ (gi b :: _) _ _
    refine gw_is6 at388_383 (h := ?_)
    refine gw_al2 at388_385 (gw_callP1 at388_386 (m_thrown g1 g2) (by omega) (Nat.le_of_ble_eq_true rfl) ?_)
    rw [g3]
    refine gw_il5 at388_389 (gw_ceq at388_391 (by omega) (by omega) (fun _ => ?_) (fun q => absurd rfl q))
    refine gw_il5 at388_396 (gw_zne at388_398 (by omega) (fun _ => ?_) (fun q => absurd q (by omega)))
    exact gw_goto at388_413 (hend _ T2 c2 J2 _ _ hE0 rfl rfl)
set_option maxHeartbeats 1000000 in
theorem lc_1 {d HW HM : Nat} {T : gT} {c J : gC} {L : Nat} {i : Int} {E : gT → gC → gC → Prop} {Q : am_O → am_M → Prop} {hm : Nat → Int} {R : (Int ⊕ Nat) → gT → gC → gC → Prop} {u5 u6 : Value} (hHW : HW + 1 ≤ d) (hHM : HM + 1 ≤ d) (hL : (T.1 800000).1 = 41 ∧ (T.1 800000).2.1 = L) (hL2 : L ≤ 3072) (hi : 0 ≤ i ∧ i + 6 ≤ (L : Int)) (hu : am_nl u5 = true) (hv : am_nl u6 = true) (h1 : gE 5 342 HW [.ref 500000, gi (c 800000 (i + 1))] (gm T c J) (gW0 hm R)) (h2 : ∀ T1 c1 J1, R (.inl 0) T1 c1 J1 → SCP L c T1 c1 ∧ gE 5 294 HM [.ref 500001, gi (c 800000 (i + 1))] (gm T1 c1 J1) (fun o M1 => ∃ T2 c2 J2, o = .inl none ∧ M1 = gm T2 c2 J2 ∧ ESP E 0 T2 c2 J2)) (h3 : ∀ X T1 c1 J1, R (.inr X) T1 c1 J1 → (1 ≤ hm X ∧ hm X ≤ 3) ∧ SCP L c (gTe T1) (gz c1 (700000 + T1.2.1 7)) ∧ gE 5 294 HM [.ref 500001, gi (c 800000 (i + 1))] (gm (gTe T1) (gz c1 (700000 + T1.2.1 7)) (gz J1 (700000 + T1.2.1 7))) (fun o M1 => ∃ T2 c2 J2, o = .inl none ∧ M1 = gm T2 c2 J2 ∧ ESP E (hm X) T2 c2 J2)) (hend : ∀ z T2 c2 J2 (k b : Value), ESP E z T2 c2 J2 → am_nl k = true → am_nl b = true → gw d 5 388 3366 [.ref 800000, .ref 500000, .ref 500001, .ref 500002, gi i, k, b] [] (gm T2 c2 J2) Q) : gw d 5 388 416 [.ref 800000, .ref 500000, .ref 500001, .ref 500002, gi i, u5, u6] [] (gm T c J) Q := by
  refine gw_al1 at388_416 (gw_al0 at388_417 (gw_il4 at388_418 (gw_const at388_420 (gw_iadd at388_421 (gw_ia at388_422 (Or.inr hL.1) hL.2 (by omega) (by omega) (by omega) (?_))))))
  refine gw_call2 at388_423 h1 (by omega) (Nat.le_of_ble_eq_true rfl) (fun o M1 q => ?_)
  obtain ⟨T1, c1, J1, ⟨hR, rfl, rfl⟩ | ⟨X, hR, rfl, rfl⟩⟩ := q
  · obtain ⟨s, e⟩ := h2 T1 c1 J1 hR
    show gw _ _ _ _ _ (gi 0 :: _) _ _
    refine gw_is5 at388_426 (h := ?_)
    refine gw_al2 at388_428 (gw_al0 at388_429 (gw_il4 at388_430 (gw_const at388_432 (gw_iadd at388_433 (gw_ia at388_434 (Or.inr s.1.1) s.1.2 (by omega) (by omega) (by omega) (?_))))))
    rw [s.2]
    refine gw_call2 at388_435 e (by omega) (Nat.le_of_ble_eq_true rfl) (fun o M1 q2 => ?_)
    obtain ⟨T2, c2, J2, rfl, rfl, hE⟩ := q2
    have hE0 := hE
    obtain ⟨⟨g1, g2⟩, g3, g4, -⟩ := hE
    show gw _ _ _ _ _ [] _ _
    refine gw_al2 at388_438 (gw_callP1 at388_439 (m_thrown g1 g2) (by omega) (Nat.le_of_ble_eq_true rfl) ?_)
    rw [g3]
    refine gw_il5 at388_442 (gw_ceq at388_444 (by decide) (by decide) (fun _ => ?_) (fun q => absurd rfl q))
    exact gw_goto at388_449 (hend _ T2 c2 J2 _ _ hE0 rfl hv)
  · obtain ⟨hk, s, e⟩ := h3 X T1 c1 J1 hR
    show gw _ _ _ _ _ (gi (hm X) :: _) _ _
    refine gw_is5 at388_426 (h := ?_)
    refine gw_al2 at388_428 (gw_al0 at388_429 (gw_il4 at388_430 (gw_const at388_432 (gw_iadd at388_433 (gw_ia at388_434 (Or.inr s.1.1) s.1.2 (by omega) (by omega) (by omega) (?_))))))
    rw [s.2]
    refine gw_call2 at388_435 e (by omega) (Nat.le_of_ble_eq_true rfl) (fun o M1 q2 => ?_)
    obtain ⟨T2, c2, J2, rfl, rfl, hE⟩ := q2
    have hE0 := hE
    obtain ⟨⟨g1, g2⟩, g3, g4, -⟩ := hE
    show gw _ _ _ _ _ [] _ _
    refine gw_al2 at388_438 (gw_callP1 at388_439 (m_thrown g1 g2) (by omega) (Nat.le_of_ble_eq_true rfl) ?_)
    rw [g3]
    refine gw_il5 at388_442 (gw_ceq at388_444 (by omega) (by omega) (fun _ => ?_) (fun q => absurd rfl q))
    exact gw_goto at388_449 (hend _ T2 c2 J2 _ _ hE0 rfl hv)
set_option maxHeartbeats 1000000 in
theorem lc_2 {d HW HM : Nat} {T : gT} {c J : gC} {i : Int} {E : gT → gC → gC → Prop} {Q : am_O → am_M → Prop} {R : Int → gT → gC → gC → Prop} {u5 u6 : Value} (hHW : HW + 1 ≤ d) (hHM : HM + 1 ≤ d) (hu : am_nl u5 = true) (hv : am_nl u6 = true) (h1 : gE 5 99 HW [.ref 500000] (gm T c J) (fun o M1 => ∃ v T1 c1 J1, o = .inl (some (gi v)) ∧ M1 = gm T1 c1 J1 ∧ R v T1 c1 J1)) (h2 : ∀ v T1 c1 J1, R v T1 c1 J1 → (-2147483648 ≤ v ∧ v < 2147483648) ∧ gE 5 316 HM [.ref 500001] (gm T1 c1 J1) (fun o M1 => ∃ z T2 c2 J2, o = .inl (some (gi v)) ∧ M1 = gm T2 c2 J2 ∧ ESP E z T2 c2 J2)) (hend : ∀ z T2 c2 J2 (k b : Value), ESP E z T2 c2 J2 → am_nl k = true → am_nl b = true → gw d 5 388 3366 [.ref 800000, .ref 500000, .ref 500001, .ref 500002, gi i, k, b] [] (gm T2 c2 J2) Q) : gw d 5 388 452 [.ref 800000, .ref 500000, .ref 500001, .ref 500002, gi i, u5, u6] [] (gm T c J) Q := by
  refine gw_al1 at388_452 (gw_call1 at388_453 h1 (by omega) (Nat.le_of_ble_eq_true rfl) (fun o M1 q => ?_))
  obtain ⟨v, T1, c1, J1, rfl, rfl, hR⟩ := q
  obtain ⟨hr, e⟩ := h2 v T1 c1 J1 hR
  show gw _ _ _ _ _ (gi v :: _) _ _
  refine gw_al2 at388_456 (gw_call1 at388_457 e (by omega) (Nat.le_of_ble_eq_true rfl) (fun o M1 q2 => ?_))
  obtain ⟨z, T2, c2, J2, rfl, rfl, hE⟩ := q2
  show gw _ _ _ _ _ (gi v :: _) _ _
  exact gw_ceq at388_460 hr hr (fun _ => hend _ T2 c2 J2 _ _ hE hu hv) (fun q => absurd rfl q)
set_option maxHeartbeats 1000000 in
theorem lc_3 {d HW HM : Nat} {T : gT} {c J : gC} {i : Int} {E : gT → gC → gC → Prop} {Q : am_O → am_M → Prop} {R : Int → gT → gC → gC → Prop} {u5 u6 : Value} (hHW : HW + 1 ≤ d) (hHM : HM + 1 ≤ d) (hu : am_nl u5 = true) (hv : am_nl u6 = true) (h1 : gE 5 100 HW [.ref 500000] (gm T c J) (fun o M1 => ∃ v T1 c1 J1, o = .inl (some (gi v)) ∧ M1 = gm T1 c1 J1 ∧ R v T1 c1 J1)) (h2 : ∀ v T1 c1 J1, R v T1 c1 J1 → (-2147483648 ≤ v ∧ v < 2147483648) ∧ gE 5 317 HM [.ref 500001] (gm T1 c1 J1) (fun o M1 => ∃ z T2 c2 J2, o = .inl (some (gi v)) ∧ M1 = gm T2 c2 J2 ∧ ESP E z T2 c2 J2)) (hend : ∀ z T2 c2 J2 (k b : Value), ESP E z T2 c2 J2 → am_nl k = true → am_nl b = true → gw d 5 388 3366 [.ref 800000, .ref 500000, .ref 500001, .ref 500002, gi i, k, b] [] (gm T2 c2 J2) Q) : gw d 5 388 465 [.ref 800000, .ref 500000, .ref 500001, .ref 500002, gi i, u5, u6] [] (gm T c J) Q := by
  refine gw_al1 at388_465 (gw_call1 at388_466 h1 (by omega) (Nat.le_of_ble_eq_true rfl) (fun o M1 q => ?_))
  obtain ⟨v, T1, c1, J1, rfl, rfl, hR⟩ := q
  obtain ⟨hr, e⟩ := h2 v T1 c1 J1 hR
  show gw _ _ _ _ _ (gi v :: _) _ _
  refine gw_al2 at388_469 (gw_call1 at388_470 e (by omega) (Nat.le_of_ble_eq_true rfl) (fun o M1 q2 => ?_))
  obtain ⟨z, T2, c2, J2, rfl, rfl, hE⟩ := q2
  show gw _ _ _ _ _ (gi v :: _) _ _
  exact gw_ceq at388_473 hr hr (fun _ => hend _ T2 c2 J2 _ _ hE hu hv) (fun q => absurd rfl q)
set_option maxHeartbeats 1000000 in
theorem lc_4 {d HW HM : Nat} {T : gT} {c J : gC} {i : Int} {E : gT → gC → gC → Prop} {Q : am_O → am_M → Prop} {R : Int → gT → gC → gC → Prop} {u5 u6 : Value} (hHW : HW + 1 ≤ d) (hHM : HM + 1 ≤ d) (hu : am_nl u5 = true) (hv : am_nl u6 = true) (h1 : gE 5 101 HW [.ref 500000] (gm T c J) (fun o M1 => ∃ v T1 c1 J1, o = .inl (some (gi v)) ∧ M1 = gm T1 c1 J1 ∧ R v T1 c1 J1)) (h2 : ∀ v T1 c1 J1, R v T1 c1 J1 → (-2147483648 ≤ v ∧ v < 2147483648) ∧ gE 5 318 HM [.ref 500001] (gm T1 c1 J1) (fun o M1 => ∃ z T2 c2 J2, o = .inl (some (gi v)) ∧ M1 = gm T2 c2 J2 ∧ ESP E z T2 c2 J2)) (hend : ∀ z T2 c2 J2 (k b : Value), ESP E z T2 c2 J2 → am_nl k = true → am_nl b = true → gw d 5 388 3366 [.ref 800000, .ref 500000, .ref 500001, .ref 500002, gi i, k, b] [] (gm T2 c2 J2) Q) : gw d 5 388 478 [.ref 800000, .ref 500000, .ref 500001, .ref 500002, gi i, u5, u6] [] (gm T c J) Q := by
  refine gw_al1 at388_478 (gw_call1 at388_479 h1 (by omega) (Nat.le_of_ble_eq_true rfl) (fun o M1 q => ?_))
  obtain ⟨v, T1, c1, J1, rfl, rfl, hR⟩ := q
  obtain ⟨hr, e⟩ := h2 v T1 c1 J1 hR
  show gw _ _ _ _ _ (gi v :: _) _ _
  refine gw_al2 at388_482 (gw_call1 at388_483 e (by omega) (Nat.le_of_ble_eq_true rfl) (fun o M1 q2 => ?_))
  obtain ⟨z, T2, c2, J2, rfl, rfl, hE⟩ := q2
  show gw _ _ _ _ _ (gi v :: _) _ _
  exact gw_ceq at388_486 hr hr (fun _ => hend _ T2 c2 J2 _ _ hE hu hv) (fun q => absurd rfl q)
set_option maxHeartbeats 1000000 in
theorem lc_5 {d HW HM : Nat} {T : gT} {c J : gC} {i : Int} {E : gT → gC → gC → Prop} {Q : am_O → am_M → Prop} {R : Int → gT → gC → gC → Prop} {u5 u6 : Value} (hHW : HW + 1 ≤ d) (hHM : HM + 1 ≤ d) (hu : am_nl u5 = true) (hv : am_nl u6 = true) (h1 : gE 5 102 HW [.ref 500000] (gm T c J) (fun o M1 => ∃ v T1 c1 J1, o = .inl (some (gi v)) ∧ M1 = gm T1 c1 J1 ∧ R v T1 c1 J1)) (h2 : ∀ v T1 c1 J1, R v T1 c1 J1 → (-2147483648 ≤ v ∧ v < 2147483648) ∧ gE 5 207 HM [.ref 500001] (gm T1 c1 J1) (fun o M1 => ∃ z T2 c2 J2, o = .inl (some (gi v)) ∧ M1 = gm T2 c2 J2 ∧ ESP E z T2 c2 J2)) (hend : ∀ z T2 c2 J2 (k b : Value), ESP E z T2 c2 J2 → am_nl k = true → am_nl b = true → gw d 5 388 3366 [.ref 800000, .ref 500000, .ref 500001, .ref 500002, gi i, k, b] [] (gm T2 c2 J2) Q) : gw d 5 388 491 [.ref 800000, .ref 500000, .ref 500001, .ref 500002, gi i, u5, u6] [] (gm T c J) Q := by
  refine gw_al1 at388_491 (gw_call1 at388_492 h1 (by omega) (Nat.le_of_ble_eq_true rfl) (fun o M1 q => ?_))
  obtain ⟨v, T1, c1, J1, rfl, rfl, hR⟩ := q
  obtain ⟨hr, e⟩ := h2 v T1 c1 J1 hR
  show gw _ _ _ _ _ (gi v :: _) _ _
  refine gw_al2 at388_495 (gw_call1 at388_496 e (by omega) (Nat.le_of_ble_eq_true rfl) (fun o M1 q2 => ?_))
  obtain ⟨z, T2, c2, J2, rfl, rfl, hE⟩ := q2
  show gw _ _ _ _ _ (gi v :: _) _ _
  exact gw_ceq at388_499 hr hr (fun _ => hend _ T2 c2 J2 _ _ hE hu hv) (fun q => absurd rfl q)
set_option maxHeartbeats 1000000 in
theorem lc_6 {d HW HM : Nat} {T : gT} {c J : gC} {i : Int} {E : gT → gC → gC → Prop} {Q : am_O → am_M → Prop} {R : Int → gT → gC → gC → Prop} {u5 u6 : Value} (hHW : HW + 1 ≤ d) (hHM : HM + 1 ≤ d) (hu : am_nl u5 = true) (hv : am_nl u6 = true) (h1 : gE 5 103 HW [.ref 500000] (gm T c J) (fun o M1 => ∃ v T1 c1 J1, o = .inl (some (gi v)) ∧ M1 = gm T1 c1 J1 ∧ R v T1 c1 J1)) (h2 : ∀ v T1 c1 J1, R v T1 c1 J1 → (-2147483648 ≤ v ∧ v < 2147483648) ∧ gE 5 208 HM [.ref 500001] (gm T1 c1 J1) (fun o M1 => ∃ z T2 c2 J2, o = .inl (some (gi v)) ∧ M1 = gm T2 c2 J2 ∧ ESP E z T2 c2 J2)) (hend : ∀ z T2 c2 J2 (k b : Value), ESP E z T2 c2 J2 → am_nl k = true → am_nl b = true → gw d 5 388 3366 [.ref 800000, .ref 500000, .ref 500001, .ref 500002, gi i, k, b] [] (gm T2 c2 J2) Q) : gw d 5 388 504 [.ref 800000, .ref 500000, .ref 500001, .ref 500002, gi i, u5, u6] [] (gm T c J) Q := by
  refine gw_al1 at388_504 (gw_call1 at388_505 h1 (by omega) (Nat.le_of_ble_eq_true rfl) (fun o M1 q => ?_))
  obtain ⟨v, T1, c1, J1, rfl, rfl, hR⟩ := q
  obtain ⟨hr, e⟩ := h2 v T1 c1 J1 hR
  show gw _ _ _ _ _ (gi v :: _) _ _
  refine gw_al2 at388_508 (gw_call1 at388_509 e (by omega) (Nat.le_of_ble_eq_true rfl) (fun o M1 q2 => ?_))
  obtain ⟨z, T2, c2, J2, rfl, rfl, hE⟩ := q2
  show gw _ _ _ _ _ (gi v :: _) _ _
  exact gw_ceq at388_512 hr hr (fun _ => hend _ T2 c2 J2 _ _ hE hu hv) (fun q => absurd rfl q)
set_option maxHeartbeats 1000000 in
theorem lc_7 {d HW HM : Nat} {T : gT} {c J : gC} {L : Nat} {i : Int} {E : gT → gC → gC → Prop} {Q : am_O → am_M → Prop} {hm : Nat → Int} {R : (Int ⊕ Nat) → gT → gC → gC → Prop} {u5 u6 : Value} (hHW : HW + 1 ≤ d) (hHM : HM + 1 ≤ d) (hL : (T.1 800000).1 = 41 ∧ (T.1 800000).2.1 = L) (hL2 : L ≤ 3072) (hi : 0 ≤ i ∧ i + 6 ≤ (L : Int)) (hu : am_nl u5 = true) (hv : am_nl u6 = true) {p : Bool} (hp : p = decide (¬ c 800000 (i + 1) = 0)) (hs : -2147483648 ≤ c 800000 (i + 1) ∧ c 800000 (i + 1) < 2147483648) (h1 : gE 5 343 HW [.ref 500000, gi (bi p), .ref 500002] (gm T c J) (gW hm R)) (h2 : ∀ v T1 c1 J1, R (.inl v) T1 c1 J1 → SCP L c T1 c1 ∧ gE 5 319 HM [.ref 500001, gi (bi p)] (gm T1 c1 (gu J1 500002 0 v)) (fun o M1 => ∃ T2 c2 J2, o = .inl (some (gi v)) ∧ M1 = gm T2 c2 J2 ∧ ESP E 0 T2 c2 J2 ∧ J2 500002 0 = v ∧ -2147483648 ≤ v ∧ v < 2147483648)) (h3 : ∀ X T1 c1 J1, R (.inr X) T1 c1 J1 → (1 ≤ hm X ∧ hm X ≤ 3) ∧ SCP L c (gTe T1) (gz c1 (700000 + T1.2.1 7)) ∧ gE 5 319 HM [.ref 500001, gi (bi p)] (gm (gTe T1) (gz c1 (700000 + T1.2.1 7)) (gz J1 (700000 + T1.2.1 7))) (fun o M1 => ∃ b T2 c2 J2, o = .inl (some (gi b)) ∧ M1 = gm T2 c2 J2 ∧ ESP E (hm X) T2 c2 J2)) (hend : ∀ z T2 c2 J2 (k b : Value), ESP E z T2 c2 J2 → am_nl k = true → am_nl b = true → gw d 5 388 3366 [.ref 800000, .ref 500000, .ref 500001, .ref 500002, gi i, k, b] [] (gm T2 c2 J2) Q) : gw d 5 388 517 [.ref 800000, .ref 500000, .ref 500001, .ref 500002, gi i, u5, u6] [] (gm T c J) Q := by
  refine gw_al1 at388_517 (gw_al0 at388_518 (gw_il4 at388_519 (gw_const at388_521 (gw_iadd at388_522 (gw_ia at388_523 (Or.inr hL.1) hL.2 (by omega) (by omega) (by omega) (?_))))))
  refine gw_bsel at388_524 at388_527 at388_528 at388_531 hs hp ?_
  refine gw_al3 at388_532 (?_)
  refine gw_call3 at388_533 h1 (by omega) (Nat.le_of_ble_eq_true rfl) (fun o M1 q => ?_)
  obtain ⟨T1, c1, J1, ⟨v, hR, rfl, rfl⟩ | ⟨X, hR, rfl, rfl⟩⟩ := q
  · obtain ⟨s, e⟩ := h2 v T1 c1 J1 hR
    show gw _ _ _ _ _ (gi 0 :: _) _ _
    refine gw_is5 at388_536 (h := ?_)
    refine gw_al2 at388_538 (gw_al0 at388_539 (gw_il4 at388_540 (gw_const at388_542 (gw_iadd at388_543 (gw_ia at388_544 (Or.inr s.1.1) s.1.2 (by omega) (by omega) (by omega) (?_))))))
    rw [s.2]
    refine gw_bsel at388_545 at388_548 at388_549 at388_552 hs hp ?_
    refine gw_call2 at388_553 e (by omega) (Nat.le_of_ble_eq_true rfl) (fun o M1 q2 => ?_)
    obtain ⟨T2, c2, J2, rfl, rfl, hE, hv2, hvr⟩ := q2
    have hE0 := hE
    obtain ⟨⟨g1, g2⟩, g3, g4, -⟩ := hE
    show gw _ _ _ _ _ (gi v :: _) _ _
    refine gw_is6 at388_556 (h := ?_)
    refine gw_al2 at388_558 (gw_callP1 at388_559 (m_thrown g1 g2) (by omega) (Nat.le_of_ble_eq_true rfl) ?_)
    rw [g3]
    refine gw_il5 at388_562 (gw_ceq at388_564 (by decide) (by decide) (fun _ => ?_) (fun q => absurd rfl q))
    refine gw_il5 at388_569 (gw_zne at388_571 (by decide) (fun q => absurd rfl q) (fun _ => ?_))
    refine gw_al3 at388_574 (gw_const at388_575 (gw_la at388_576 g4.1 g4.2 (by decide) (by decide) (by decide) ?_))
    rw [hv2]
    refine gw_il6 at388_577 (gw_i2l at388_579 hvr (gw_lceq at388_580 at388_581 (by omega) (by omega) (fun _ => ?_) (fun q => absurd rfl q)))
    exact gw_goto at388_586 (hend _ T2 c2 J2 _ _ hE0 rfl rfl)
  · obtain ⟨hk, s, e⟩ := h3 X T1 c1 J1 hR
    show gw _ _ _ _ _ (gi (hm X) :: _) _ _
    refine gw_is5 at388_536 (h := ?_)
    refine gw_al2 at388_538 (gw_al0 at388_539 (gw_il4 at388_540 (gw_const at388_542 (gw_iadd at388_543 (gw_ia at388_544 (Or.inr s.1.1) s.1.2 (by omega) (by omega) (by omega) (?_))))))
    rw [s.2]
    refine gw_bsel at388_545 at388_548 at388_549 at388_552 hs hp ?_
    refine gw_call2 at388_553 e (by omega) (Nat.le_of_ble_eq_true rfl) (fun o M1 q2 => ?_)
    obtain ⟨b, T2, c2, J2, rfl, rfl, hE⟩ := q2
    have hE0 := hE
    obtain ⟨⟨g1, g2⟩, g3, g4, -⟩ := hE
    show gw _ _ _ _ _ (gi b :: _) _ _
    refine gw_is6 at388_556 (h := ?_)
    refine gw_al2 at388_558 (gw_callP1 at388_559 (m_thrown g1 g2) (by omega) (Nat.le_of_ble_eq_true rfl) ?_)
    rw [g3]
    refine gw_il5 at388_562 (gw_ceq at388_564 (by omega) (by omega) (fun _ => ?_) (fun q => absurd rfl q))
    refine gw_il5 at388_569 (gw_zne at388_571 (by omega) (fun _ => ?_) (fun q => absurd q (by omega)))
    exact gw_goto at388_586 (hend _ T2 c2 J2 _ _ hE0 rfl rfl)
set_option maxHeartbeats 1000000 in
theorem lc_8 {d HW HM : Nat} {T : gT} {c J : gC} {i : Int} {E : gT → gC → gC → Prop} {Q : am_O → am_M → Prop} {R : Int → gT → gC → gC → Prop} {u5 u6 : Value} (hHW : HW + 1 ≤ d) (hHM : HM + 1 ≤ d) (hu : am_nl u5 = true) (hv : am_nl u6 = true) (h1 : gE 5 105 HW [.ref 500000] (gm T c J) (fun o M1 => ∃ v T1 c1 J1, o = .inl (some (gi v)) ∧ M1 = gm T1 c1 J1 ∧ R v T1 c1 J1)) (h2 : ∀ v T1 c1 J1, R v T1 c1 J1 → (-2147483648 ≤ v ∧ v < 2147483648) ∧ gE 5 210 HM [.ref 500001] (gm T1 c1 J1) (fun o M1 => ∃ z T2 c2 J2, o = .inl (some (gi v)) ∧ M1 = gm T2 c2 J2 ∧ ESP E z T2 c2 J2)) (hend : ∀ z T2 c2 J2 (k b : Value), ESP E z T2 c2 J2 → am_nl k = true → am_nl b = true → gw d 5 388 3366 [.ref 800000, .ref 500000, .ref 500001, .ref 500002, gi i, k, b] [] (gm T2 c2 J2) Q) : gw d 5 388 589 [.ref 800000, .ref 500000, .ref 500001, .ref 500002, gi i, u5, u6] [] (gm T c J) Q := by
  refine gw_al1 at388_589 (gw_call1 at388_590 h1 (by omega) (Nat.le_of_ble_eq_true rfl) (fun o M1 q => ?_))
  obtain ⟨v, T1, c1, J1, rfl, rfl, hR⟩ := q
  obtain ⟨hr, e⟩ := h2 v T1 c1 J1 hR
  show gw _ _ _ _ _ (gi v :: _) _ _
  refine gw_al2 at388_593 (gw_call1 at388_594 e (by omega) (Nat.le_of_ble_eq_true rfl) (fun o M1 q2 => ?_))
  obtain ⟨z, T2, c2, J2, rfl, rfl, hE⟩ := q2
  show gw _ _ _ _ _ (gi v :: _) _ _
  exact gw_ceq at388_597 hr hr (fun _ => hend _ T2 c2 J2 _ _ hE hu hv) (fun q => absurd rfl q)
set_option maxHeartbeats 1000000 in
theorem lc_9 {d HW HM : Nat} {T : gT} {c J : gC} {L : Nat} {i : Int} {E : gT → gC → gC → Prop} {Q : am_O → am_M → Prop} {hm : Nat → Int} {R : (Int ⊕ Nat) → gT → gC → gC → Prop} {u5 u6 : Value} (hHW : HW + 1 ≤ d) (hHM : HM + 1 ≤ d) (hL : (T.1 800000).1 = 41 ∧ (T.1 800000).2.1 = L) (hL2 : L ≤ 3072) (hi : 0 ≤ i ∧ i + 6 ≤ (L : Int)) (hu : am_nl u5 = true) (hv : am_nl u6 = true) (h1 : gE 5 344 HW [.ref 500000, gi (c 800000 (i + 1)), .ref 500002] (gm T c J) (gW hm R)) (h2 : ∀ v T1 c1 J1, R (.inl v) T1 c1 J1 → SCP L c T1 c1 ∧ gE 5 211 HM [.ref 500001, gi (c 800000 (i + 1))] (gm T1 c1 (gu J1 500002 0 v)) (fun o M1 => ∃ T2 c2 J2, o = .inl (some (gi v)) ∧ M1 = gm T2 c2 J2 ∧ ESP E 0 T2 c2 J2 ∧ J2 500002 0 = v ∧ -2147483648 ≤ v ∧ v < 2147483648)) (h3 : ∀ X T1 c1 J1, R (.inr X) T1 c1 J1 → (1 ≤ hm X ∧ hm X ≤ 3) ∧ SCP L c (gTe T1) (gz c1 (700000 + T1.2.1 7)) ∧ gE 5 211 HM [.ref 500001, gi (c 800000 (i + 1))] (gm (gTe T1) (gz c1 (700000 + T1.2.1 7)) (gz J1 (700000 + T1.2.1 7))) (fun o M1 => ∃ b T2 c2 J2, o = .inl (some (gi b)) ∧ M1 = gm T2 c2 J2 ∧ ESP E (hm X) T2 c2 J2)) (hend : ∀ z T2 c2 J2 (k b : Value), ESP E z T2 c2 J2 → am_nl k = true → am_nl b = true → gw d 5 388 3366 [.ref 800000, .ref 500000, .ref 500001, .ref 500002, gi i, k, b] [] (gm T2 c2 J2) Q) : gw d 5 388 602 [.ref 800000, .ref 500000, .ref 500001, .ref 500002, gi i, u5, u6] [] (gm T c J) Q := by
  refine gw_al1 at388_602 (gw_al0 at388_603 (gw_il4 at388_604 (gw_const at388_606 (gw_iadd at388_607 (gw_ia at388_608 (Or.inr hL.1) hL.2 (by omega) (by omega) (by omega) (gw_al3 at388_609 (?_)))))))
  refine gw_call3 at388_610 h1 (by omega) (Nat.le_of_ble_eq_true rfl) (fun o M1 q => ?_)
  obtain ⟨T1, c1, J1, ⟨v, hR, rfl, rfl⟩ | ⟨X, hR, rfl, rfl⟩⟩ := q
  · obtain ⟨s, e⟩ := h2 v T1 c1 J1 hR
    show gw _ _ _ _ _ (gi 0 :: _) _ _
    refine gw_is5 at388_613 (h := ?_)
    refine gw_al2 at388_615 (gw_al0 at388_616 (gw_il4 at388_617 (gw_const at388_619 (gw_iadd at388_620 (gw_ia at388_621 (Or.inr s.1.1) s.1.2 (by omega) (by omega) (by omega) (?_))))))
    rw [s.2]
    refine gw_call2 at388_622 e (by omega) (Nat.le_of_ble_eq_true rfl) (fun o M1 q2 => ?_)
    obtain ⟨T2, c2, J2, rfl, rfl, hE, hv2, hvr⟩ := q2
    have hE0 := hE
    obtain ⟨⟨g1, g2⟩, g3, g4, -⟩ := hE
    show gw _ _ _ _ _ (gi v :: _) _ _
    refine gw_is6 at388_625 (h := ?_)
    refine gw_al2 at388_627 (gw_callP1 at388_628 (m_thrown g1 g2) (by omega) (Nat.le_of_ble_eq_true rfl) ?_)
    rw [g3]
    refine gw_il5 at388_631 (gw_ceq at388_633 (by decide) (by decide) (fun _ => ?_) (fun q => absurd rfl q))
    refine gw_il5 at388_638 (gw_zne at388_640 (by decide) (fun q => absurd rfl q) (fun _ => ?_))
    refine gw_al3 at388_643 (gw_const at388_644 (gw_la at388_645 g4.1 g4.2 (by decide) (by decide) (by decide) ?_))
    rw [hv2]
    refine gw_il6 at388_646 (gw_i2l at388_648 hvr (gw_lceq at388_649 at388_650 (by omega) (by omega) (fun _ => ?_) (fun q => absurd rfl q)))
    exact gw_goto at388_655 (hend _ T2 c2 J2 _ _ hE0 rfl rfl)
  · obtain ⟨hk, s, e⟩ := h3 X T1 c1 J1 hR
    show gw _ _ _ _ _ (gi (hm X) :: _) _ _
    refine gw_is5 at388_613 (h := ?_)
    refine gw_al2 at388_615 (gw_al0 at388_616 (gw_il4 at388_617 (gw_const at388_619 (gw_iadd at388_620 (gw_ia at388_621 (Or.inr s.1.1) s.1.2 (by omega) (by omega) (by omega) (?_))))))
    rw [s.2]
    refine gw_call2 at388_622 e (by omega) (Nat.le_of_ble_eq_true rfl) (fun o M1 q2 => ?_)
    obtain ⟨b, T2, c2, J2, rfl, rfl, hE⟩ := q2
    have hE0 := hE
    obtain ⟨⟨g1, g2⟩, g3, g4, -⟩ := hE
    show gw _ _ _ _ _ (gi b :: _) _ _
    refine gw_is6 at388_625 (h := ?_)
    refine gw_al2 at388_627 (gw_callP1 at388_628 (m_thrown g1 g2) (by omega) (Nat.le_of_ble_eq_true rfl) ?_)
    rw [g3]
    refine gw_il5 at388_631 (gw_ceq at388_633 (by omega) (by omega) (fun _ => ?_) (fun q => absurd rfl q))
    refine gw_il5 at388_638 (gw_zne at388_640 (by omega) (fun _ => ?_) (fun q => absurd q (by omega)))
    exact gw_goto at388_655 (hend _ T2 c2 J2 _ _ hE0 rfl rfl)
set_option maxHeartbeats 1000000 in
theorem lc_10 {d HW HM : Nat} {T : gT} {c J : gC} {L : Nat} {i : Int} {E : gT → gC → gC → Prop} {Q : am_O → am_M → Prop} {hm : Nat → Int} {R : (Int ⊕ Nat) → gT → gC → gC → Prop} {u5 u6 : Value} (hHW : HW + 1 ≤ d) (hHM : HM + 1 ≤ d) (hL : (T.1 800000).1 = 41 ∧ (T.1 800000).2.1 = L) (hL2 : L ≤ 3072) (hi : 0 ≤ i ∧ i + 6 ≤ (L : Int)) (hu : am_nl u5 = true) (hv : am_nl u6 = true) (h1 : gE 5 345 HW [.ref 500000, gi (c 800000 (i + 1)), .ref 500002] (gm T c J) (gW hm R)) (h2 : ∀ v T1 c1 J1, R (.inl v) T1 c1 J1 → SCP L c T1 c1 ∧ gE 5 212 HM [.ref 500001, gi (c 800000 (i + 1))] (gm T1 c1 (gu J1 500002 0 v)) (fun o M1 => ∃ T2 c2 J2, o = .inl (some (gi v)) ∧ M1 = gm T2 c2 J2 ∧ ESP E 0 T2 c2 J2 ∧ J2 500002 0 = v ∧ -2147483648 ≤ v ∧ v < 2147483648)) (h3 : ∀ X T1 c1 J1, R (.inr X) T1 c1 J1 → (1 ≤ hm X ∧ hm X ≤ 3) ∧ SCP L c (gTe T1) (gz c1 (700000 + T1.2.1 7)) ∧ gE 5 212 HM [.ref 500001, gi (c 800000 (i + 1))] (gm (gTe T1) (gz c1 (700000 + T1.2.1 7)) (gz J1 (700000 + T1.2.1 7))) (fun o M1 => ∃ b T2 c2 J2, o = .inl (some (gi b)) ∧ M1 = gm T2 c2 J2 ∧ ESP E (hm X) T2 c2 J2)) (hend : ∀ z T2 c2 J2 (k b : Value), ESP E z T2 c2 J2 → am_nl k = true → am_nl b = true → gw d 5 388 3366 [.ref 800000, .ref 500000, .ref 500001, .ref 500002, gi i, k, b] [] (gm T2 c2 J2) Q) : gw d 5 388 658 [.ref 800000, .ref 500000, .ref 500001, .ref 500002, gi i, u5, u6] [] (gm T c J) Q := by
  refine gw_al1 at388_658 (gw_al0 at388_659 (gw_il4 at388_660 (gw_const at388_662 (gw_iadd at388_663 (gw_ia at388_664 (Or.inr hL.1) hL.2 (by omega) (by omega) (by omega) (gw_al3 at388_665 (?_)))))))
  refine gw_call3 at388_666 h1 (by omega) (Nat.le_of_ble_eq_true rfl) (fun o M1 q => ?_)
  obtain ⟨T1, c1, J1, ⟨v, hR, rfl, rfl⟩ | ⟨X, hR, rfl, rfl⟩⟩ := q
  · obtain ⟨s, e⟩ := h2 v T1 c1 J1 hR
    show gw _ _ _ _ _ (gi 0 :: _) _ _
    refine gw_is5 at388_669 (h := ?_)
    refine gw_al2 at388_671 (gw_al0 at388_672 (gw_il4 at388_673 (gw_const at388_675 (gw_iadd at388_676 (gw_ia at388_677 (Or.inr s.1.1) s.1.2 (by omega) (by omega) (by omega) (?_))))))
    rw [s.2]
    refine gw_call2 at388_678 e (by omega) (Nat.le_of_ble_eq_true rfl) (fun o M1 q2 => ?_)
    obtain ⟨T2, c2, J2, rfl, rfl, hE, hv2, hvr⟩ := q2
    have hE0 := hE
    obtain ⟨⟨g1, g2⟩, g3, g4, -⟩ := hE
    show gw _ _ _ _ _ (gi v :: _) _ _
    refine gw_is6 at388_681 (h := ?_)
    refine gw_al2 at388_683 (gw_callP1 at388_684 (m_thrown g1 g2) (by omega) (Nat.le_of_ble_eq_true rfl) ?_)
    rw [g3]
    refine gw_il5 at388_687 (gw_ceq at388_689 (by decide) (by decide) (fun _ => ?_) (fun q => absurd rfl q))
    refine gw_il5 at388_694 (gw_zne at388_696 (by decide) (fun q => absurd rfl q) (fun _ => ?_))
    refine gw_al3 at388_699 (gw_const at388_700 (gw_la at388_701 g4.1 g4.2 (by decide) (by decide) (by decide) ?_))
    rw [hv2]
    refine gw_il6 at388_702 (gw_i2l at388_704 hvr (gw_lceq at388_705 at388_706 (by omega) (by omega) (fun _ => ?_) (fun q => absurd rfl q)))
    exact gw_goto at388_711 (hend _ T2 c2 J2 _ _ hE0 rfl rfl)
  · obtain ⟨hk, s, e⟩ := h3 X T1 c1 J1 hR
    show gw _ _ _ _ _ (gi (hm X) :: _) _ _
    refine gw_is5 at388_669 (h := ?_)
    refine gw_al2 at388_671 (gw_al0 at388_672 (gw_il4 at388_673 (gw_const at388_675 (gw_iadd at388_676 (gw_ia at388_677 (Or.inr s.1.1) s.1.2 (by omega) (by omega) (by omega) (?_))))))
    rw [s.2]
    refine gw_call2 at388_678 e (by omega) (Nat.le_of_ble_eq_true rfl) (fun o M1 q2 => ?_)
    obtain ⟨b, T2, c2, J2, rfl, rfl, hE⟩ := q2
    have hE0 := hE
    obtain ⟨⟨g1, g2⟩, g3, g4, -⟩ := hE
    show gw _ _ _ _ _ (gi b :: _) _ _
    refine gw_is6 at388_681 (h := ?_)
    refine gw_al2 at388_683 (gw_callP1 at388_684 (m_thrown g1 g2) (by omega) (Nat.le_of_ble_eq_true rfl) ?_)
    rw [g3]
    refine gw_il5 at388_687 (gw_ceq at388_689 (by omega) (by omega) (fun _ => ?_) (fun q => absurd rfl q))
    refine gw_il5 at388_694 (gw_zne at388_696 (by omega) (fun _ => ?_) (fun q => absurd q (by omega)))
    exact gw_goto at388_711 (hend _ T2 c2 J2 _ _ hE0 rfl rfl)
set_option maxHeartbeats 1000000 in
theorem lc_11 {d HW HM : Nat} {T : gT} {c J : gC} {L : Nat} {i : Int} {E : gT → gC → gC → Prop} {Q : am_O → am_M → Prop} {hm : Nat → Int} {R : (Int ⊕ Nat) → gT → gC → gC → Prop} {u5 u6 : Value} (hHW : HW + 1 ≤ d) (hHM : HM + 1 ≤ d) (hL : (T.1 800000).1 = 41 ∧ (T.1 800000).2.1 = L) (hL2 : L ≤ 3072) (hi : 0 ≤ i ∧ i + 6 ≤ (L : Int)) (hu : am_nl u5 = true) (hv : am_nl u6 = true) (h1 : gE 5 346 HW [.ref 500000, gi (c 800000 (i + 1)), .ref 500002] (gm T c J) (gW hm R)) (h2 : ∀ v T1 c1 J1, R (.inl v) T1 c1 J1 → SCP L c T1 c1 ∧ gE 5 213 HM [.ref 500001, gi (c 800000 (i + 1))] (gm T1 c1 (gu J1 500002 0 v)) (fun o M1 => ∃ T2 c2 J2, o = .inl (some (gi v)) ∧ M1 = gm T2 c2 J2 ∧ ESP E 0 T2 c2 J2 ∧ J2 500002 0 = v ∧ -2147483648 ≤ v ∧ v < 2147483648)) (h3 : ∀ X T1 c1 J1, R (.inr X) T1 c1 J1 → (1 ≤ hm X ∧ hm X ≤ 3) ∧ SCP L c (gTe T1) (gz c1 (700000 + T1.2.1 7)) ∧ gE 5 213 HM [.ref 500001, gi (c 800000 (i + 1))] (gm (gTe T1) (gz c1 (700000 + T1.2.1 7)) (gz J1 (700000 + T1.2.1 7))) (fun o M1 => ∃ b T2 c2 J2, o = .inl (some (gi b)) ∧ M1 = gm T2 c2 J2 ∧ ESP E (hm X) T2 c2 J2)) (hend : ∀ z T2 c2 J2 (k b : Value), ESP E z T2 c2 J2 → am_nl k = true → am_nl b = true → gw d 5 388 3366 [.ref 800000, .ref 500000, .ref 500001, .ref 500002, gi i, k, b] [] (gm T2 c2 J2) Q) : gw d 5 388 714 [.ref 800000, .ref 500000, .ref 500001, .ref 500002, gi i, u5, u6] [] (gm T c J) Q := by
  refine gw_al1 at388_714 (gw_al0 at388_715 (gw_il4 at388_716 (gw_const at388_718 (gw_iadd at388_719 (gw_ia at388_720 (Or.inr hL.1) hL.2 (by omega) (by omega) (by omega) (gw_al3 at388_721 (?_)))))))
  refine gw_call3 at388_722 h1 (by omega) (Nat.le_of_ble_eq_true rfl) (fun o M1 q => ?_)
  obtain ⟨T1, c1, J1, ⟨v, hR, rfl, rfl⟩ | ⟨X, hR, rfl, rfl⟩⟩ := q
  · obtain ⟨s, e⟩ := h2 v T1 c1 J1 hR
    show gw _ _ _ _ _ (gi 0 :: _) _ _
    refine gw_is5 at388_725 (h := ?_)
    refine gw_al2 at388_727 (gw_al0 at388_728 (gw_il4 at388_729 (gw_const at388_731 (gw_iadd at388_732 (gw_ia at388_733 (Or.inr s.1.1) s.1.2 (by omega) (by omega) (by omega) (?_))))))
    rw [s.2]
    refine gw_call2 at388_734 e (by omega) (Nat.le_of_ble_eq_true rfl) (fun o M1 q2 => ?_)
    obtain ⟨T2, c2, J2, rfl, rfl, hE, hv2, hvr⟩ := q2
    have hE0 := hE
    obtain ⟨⟨g1, g2⟩, g3, g4, -⟩ := hE
    show gw _ _ _ _ _ (gi v :: _) _ _
    refine gw_is6 at388_737 (h := ?_)
    refine gw_al2 at388_739 (gw_callP1 at388_740 (m_thrown g1 g2) (by omega) (Nat.le_of_ble_eq_true rfl) ?_)
    rw [g3]
    refine gw_il5 at388_743 (gw_ceq at388_745 (by decide) (by decide) (fun _ => ?_) (fun q => absurd rfl q))
    refine gw_il5 at388_750 (gw_zne at388_752 (by decide) (fun q => absurd rfl q) (fun _ => ?_))
    refine gw_al3 at388_755 (gw_const at388_756 (gw_la at388_757 g4.1 g4.2 (by decide) (by decide) (by decide) ?_))
    rw [hv2]
    refine gw_il6 at388_758 (gw_i2l at388_760 hvr (gw_lceq at388_761 at388_762 (by omega) (by omega) (fun _ => ?_) (fun q => absurd rfl q)))
    exact gw_goto at388_767 (hend _ T2 c2 J2 _ _ hE0 rfl rfl)
  · obtain ⟨hk, s, e⟩ := h3 X T1 c1 J1 hR
    show gw _ _ _ _ _ (gi (hm X) :: _) _ _
    refine gw_is5 at388_725 (h := ?_)
    refine gw_al2 at388_727 (gw_al0 at388_728 (gw_il4 at388_729 (gw_const at388_731 (gw_iadd at388_732 (gw_ia at388_733 (Or.inr s.1.1) s.1.2 (by omega) (by omega) (by omega) (?_))))))
    rw [s.2]
    refine gw_call2 at388_734 e (by omega) (Nat.le_of_ble_eq_true rfl) (fun o M1 q2 => ?_)
    obtain ⟨b, T2, c2, J2, rfl, rfl, hE⟩ := q2
    have hE0 := hE
    obtain ⟨⟨g1, g2⟩, g3, g4, -⟩ := hE
    show gw _ _ _ _ _ (gi b :: _) _ _
    refine gw_is6 at388_737 (h := ?_)
    refine gw_al2 at388_739 (gw_callP1 at388_740 (m_thrown g1 g2) (by omega) (Nat.le_of_ble_eq_true rfl) ?_)
    rw [g3]
    refine gw_il5 at388_743 (gw_ceq at388_745 (by omega) (by omega) (fun _ => ?_) (fun q => absurd rfl q))
    refine gw_il5 at388_750 (gw_zne at388_752 (by omega) (fun _ => ?_) (fun q => absurd q (by omega)))
    exact gw_goto at388_767 (hend _ T2 c2 J2 _ _ hE0 rfl rfl)
set_option maxHeartbeats 1000000 in
theorem lc_12 {d HW HM : Nat} {T : gT} {c J : gC} {L : Nat} {i : Int} {E : gT → gC → gC → Prop} {Q : am_O → am_M → Prop} {hm : Nat → Int} {R : (Int ⊕ Nat) → gT → gC → gC → Prop} {u5 u6 : Value} (hHW : HW + 1 ≤ d) (hHM : HM + 1 ≤ d) (hL : (T.1 800000).1 = 41 ∧ (T.1 800000).2.1 = L) (hL2 : L ≤ 3072) (hi : 0 ≤ i ∧ i + 6 ≤ (L : Int)) (hu : am_nl u5 = true) (hv : am_nl u6 = true) (h1 : gE 5 347 HW [.ref 500000, gi (c 800000 (i + 1)), .ref 500002] (gm T c J) (gW hm R)) (h2 : ∀ v T1 c1 J1, R (.inl v) T1 c1 J1 → SCP L c T1 c1 ∧ gE 5 214 HM [.ref 500001, gi (c 800000 (i + 1))] (gm T1 c1 (gu J1 500002 0 v)) (fun o M1 => ∃ T2 c2 J2, o = .inl (some (gi v)) ∧ M1 = gm T2 c2 J2 ∧ ESP E 0 T2 c2 J2 ∧ J2 500002 0 = v ∧ -2147483648 ≤ v ∧ v < 2147483648)) (h3 : ∀ X T1 c1 J1, R (.inr X) T1 c1 J1 → (1 ≤ hm X ∧ hm X ≤ 3) ∧ SCP L c (gTe T1) (gz c1 (700000 + T1.2.1 7)) ∧ gE 5 214 HM [.ref 500001, gi (c 800000 (i + 1))] (gm (gTe T1) (gz c1 (700000 + T1.2.1 7)) (gz J1 (700000 + T1.2.1 7))) (fun o M1 => ∃ b T2 c2 J2, o = .inl (some (gi b)) ∧ M1 = gm T2 c2 J2 ∧ ESP E (hm X) T2 c2 J2)) (hend : ∀ z T2 c2 J2 (k b : Value), ESP E z T2 c2 J2 → am_nl k = true → am_nl b = true → gw d 5 388 3366 [.ref 800000, .ref 500000, .ref 500001, .ref 500002, gi i, k, b] [] (gm T2 c2 J2) Q) : gw d 5 388 770 [.ref 800000, .ref 500000, .ref 500001, .ref 500002, gi i, u5, u6] [] (gm T c J) Q := by
  refine gw_al1 at388_770 (gw_al0 at388_771 (gw_il4 at388_772 (gw_const at388_774 (gw_iadd at388_775 (gw_ia at388_776 (Or.inr hL.1) hL.2 (by omega) (by omega) (by omega) (gw_al3 at388_777 (?_)))))))
  refine gw_call3 at388_778 h1 (by omega) (Nat.le_of_ble_eq_true rfl) (fun o M1 q => ?_)
  obtain ⟨T1, c1, J1, ⟨v, hR, rfl, rfl⟩ | ⟨X, hR, rfl, rfl⟩⟩ := q
  · obtain ⟨s, e⟩ := h2 v T1 c1 J1 hR
    show gw _ _ _ _ _ (gi 0 :: _) _ _
    refine gw_is5 at388_781 (h := ?_)
    refine gw_al2 at388_783 (gw_al0 at388_784 (gw_il4 at388_785 (gw_const at388_787 (gw_iadd at388_788 (gw_ia at388_789 (Or.inr s.1.1) s.1.2 (by omega) (by omega) (by omega) (?_))))))
    rw [s.2]
    refine gw_call2 at388_790 e (by omega) (Nat.le_of_ble_eq_true rfl) (fun o M1 q2 => ?_)
    obtain ⟨T2, c2, J2, rfl, rfl, hE, hv2, hvr⟩ := q2
    have hE0 := hE
    obtain ⟨⟨g1, g2⟩, g3, g4, -⟩ := hE
    show gw _ _ _ _ _ (gi v :: _) _ _
    refine gw_is6 at388_793 (h := ?_)
    refine gw_al2 at388_795 (gw_callP1 at388_796 (m_thrown g1 g2) (by omega) (Nat.le_of_ble_eq_true rfl) ?_)
    rw [g3]
    refine gw_il5 at388_799 (gw_ceq at388_801 (by decide) (by decide) (fun _ => ?_) (fun q => absurd rfl q))
    refine gw_il5 at388_806 (gw_zne at388_808 (by decide) (fun q => absurd rfl q) (fun _ => ?_))
    refine gw_al3 at388_811 (gw_const at388_812 (gw_la at388_813 g4.1 g4.2 (by decide) (by decide) (by decide) ?_))
    rw [hv2]
    refine gw_il6 at388_814 (gw_i2l at388_816 hvr (gw_lceq at388_817 at388_818 (by omega) (by omega) (fun _ => ?_) (fun q => absurd rfl q)))
    exact gw_goto at388_823 (hend _ T2 c2 J2 _ _ hE0 rfl rfl)
  · obtain ⟨hk, s, e⟩ := h3 X T1 c1 J1 hR
    show gw _ _ _ _ _ (gi (hm X) :: _) _ _
    refine gw_is5 at388_781 (h := ?_)
    refine gw_al2 at388_783 (gw_al0 at388_784 (gw_il4 at388_785 (gw_const at388_787 (gw_iadd at388_788 (gw_ia at388_789 (Or.inr s.1.1) s.1.2 (by omega) (by omega) (by omega) (?_))))))
    rw [s.2]
    refine gw_call2 at388_790 e (by omega) (Nat.le_of_ble_eq_true rfl) (fun o M1 q2 => ?_)
    obtain ⟨b, T2, c2, J2, rfl, rfl, hE⟩ := q2
    have hE0 := hE
    obtain ⟨⟨g1, g2⟩, g3, g4, -⟩ := hE
    show gw _ _ _ _ _ (gi b :: _) _ _
    refine gw_is6 at388_793 (h := ?_)
    refine gw_al2 at388_795 (gw_callP1 at388_796 (m_thrown g1 g2) (by omega) (Nat.le_of_ble_eq_true rfl) ?_)
    rw [g3]
    refine gw_il5 at388_799 (gw_ceq at388_801 (by omega) (by omega) (fun _ => ?_) (fun q => absurd rfl q))
    refine gw_il5 at388_806 (gw_zne at388_808 (by omega) (fun _ => ?_) (fun q => absurd q (by omega)))
    exact gw_goto at388_823 (hend _ T2 c2 J2 _ _ hE0 rfl rfl)
set_option maxHeartbeats 1000000 in
theorem lc_13 {d HW HM : Nat} {T : gT} {c J : gC} {L : Nat} {i : Int} {E : gT → gC → gC → Prop} {Q : am_O → am_M → Prop} {hm : Nat → Int} {R : (Int ⊕ Nat) → gT → gC → gC → Prop} {u5 u6 : Value} (hHW : HW + 1 ≤ d) (hHM : HM + 1 ≤ d) (hL : (T.1 800000).1 = 41 ∧ (T.1 800000).2.1 = L) (hL2 : L ≤ 3072) (hi : 0 ≤ i ∧ i + 6 ≤ (L : Int)) (hu : am_nl u5 = true) (hv : am_nl u6 = true) (h1 : gE 5 348 HW [.ref 500000, gi (c 800000 (i + 1)), gi (c 800000 (i + 2)), .ref 500002] (gm T c J) (gW hm R)) (h2 : ∀ v T1 c1 J1, R (.inl v) T1 c1 J1 → SCP L c T1 c1 ∧ gE 5 215 HM [.ref 500001, gi (c 800000 (i + 1)), gi (c 800000 (i + 2))] (gm T1 c1 (gu J1 500002 0 v)) (fun o M1 => ∃ T2 c2 J2, o = .inl (some (gi v)) ∧ M1 = gm T2 c2 J2 ∧ ESP E 0 T2 c2 J2 ∧ J2 500002 0 = v ∧ -2147483648 ≤ v ∧ v < 2147483648)) (h3 : ∀ X T1 c1 J1, R (.inr X) T1 c1 J1 → (1 ≤ hm X ∧ hm X ≤ 3) ∧ SCP L c (gTe T1) (gz c1 (700000 + T1.2.1 7)) ∧ gE 5 215 HM [.ref 500001, gi (c 800000 (i + 1)), gi (c 800000 (i + 2))] (gm (gTe T1) (gz c1 (700000 + T1.2.1 7)) (gz J1 (700000 + T1.2.1 7))) (fun o M1 => ∃ b T2 c2 J2, o = .inl (some (gi b)) ∧ M1 = gm T2 c2 J2 ∧ ESP E (hm X) T2 c2 J2)) (hend : ∀ z T2 c2 J2 (k b : Value), ESP E z T2 c2 J2 → am_nl k = true → am_nl b = true → gw d 5 388 3366 [.ref 800000, .ref 500000, .ref 500001, .ref 500002, gi i, k, b] [] (gm T2 c2 J2) Q) : gw d 5 388 826 [.ref 800000, .ref 500000, .ref 500001, .ref 500002, gi i, u5, u6] [] (gm T c J) Q := by
  refine gw_al1 at388_826 (gw_al0 at388_827 (gw_il4 at388_828 (gw_const at388_830 (gw_iadd at388_831 (gw_ia at388_832 (Or.inr hL.1) hL.2 (by omega) (by omega) (by omega) (gw_al0 at388_833 (gw_il4 at388_834 (gw_const at388_836 (gw_iadd at388_837 (gw_ia at388_838 (Or.inr hL.1) hL.2 (by omega) (by omega) (by omega) (gw_al3 at388_839 (?_))))))))))))
  refine gw_call4 at388_840 h1 (by omega) (Nat.le_of_ble_eq_true rfl) (fun o M1 q => ?_)
  obtain ⟨T1, c1, J1, ⟨v, hR, rfl, rfl⟩ | ⟨X, hR, rfl, rfl⟩⟩ := q
  · obtain ⟨s, e⟩ := h2 v T1 c1 J1 hR
    show gw _ _ _ _ _ (gi 0 :: _) _ _
    refine gw_is5 at388_843 (h := ?_)
    refine gw_al2 at388_845 (gw_al0 at388_846 (gw_il4 at388_847 (gw_const at388_849 (gw_iadd at388_850 (gw_ia at388_851 (Or.inr s.1.1) s.1.2 (by omega) (by omega) (by omega) (gw_al0 at388_852 (gw_il4 at388_853 (gw_const at388_855 (gw_iadd at388_856 (gw_ia at388_857 (Or.inr s.1.1) s.1.2 (by omega) (by omega) (by omega) (?_)))))))))))
    rw [s.2]
    refine gw_call3 at388_858 e (by omega) (Nat.le_of_ble_eq_true rfl) (fun o M1 q2 => ?_)
    obtain ⟨T2, c2, J2, rfl, rfl, hE, hv2, hvr⟩ := q2
    have hE0 := hE
    obtain ⟨⟨g1, g2⟩, g3, g4, -⟩ := hE
    show gw _ _ _ _ _ (gi v :: _) _ _
    refine gw_is6 at388_861 (h := ?_)
    refine gw_al2 at388_863 (gw_callP1 at388_864 (m_thrown g1 g2) (by omega) (Nat.le_of_ble_eq_true rfl) ?_)
    rw [g3]
    refine gw_il5 at388_867 (gw_ceq at388_869 (by decide) (by decide) (fun _ => ?_) (fun q => absurd rfl q))
    refine gw_il5 at388_874 (gw_zne at388_876 (by decide) (fun q => absurd rfl q) (fun _ => ?_))
    refine gw_al3 at388_879 (gw_const at388_880 (gw_la at388_881 g4.1 g4.2 (by decide) (by decide) (by decide) ?_))
    rw [hv2]
    refine gw_il6 at388_882 (gw_i2l at388_884 hvr (gw_lceq at388_885 at388_886 (by omega) (by omega) (fun _ => ?_) (fun q => absurd rfl q)))
    exact gw_goto at388_891 (hend _ T2 c2 J2 _ _ hE0 rfl rfl)
  · obtain ⟨hk, s, e⟩ := h3 X T1 c1 J1 hR
    show gw _ _ _ _ _ (gi (hm X) :: _) _ _
    refine gw_is5 at388_843 (h := ?_)
    refine gw_al2 at388_845 (gw_al0 at388_846 (gw_il4 at388_847 (gw_const at388_849 (gw_iadd at388_850 (gw_ia at388_851 (Or.inr s.1.1) s.1.2 (by omega) (by omega) (by omega) (gw_al0 at388_852 (gw_il4 at388_853 (gw_const at388_855 (gw_iadd at388_856 (gw_ia at388_857 (Or.inr s.1.1) s.1.2 (by omega) (by omega) (by omega) (?_)))))))))))
    rw [s.2]
    refine gw_call3 at388_858 e (by omega) (Nat.le_of_ble_eq_true rfl) (fun o M1 q2 => ?_)
    obtain ⟨b, T2, c2, J2, rfl, rfl, hE⟩ := q2
    have hE0 := hE
    obtain ⟨⟨g1, g2⟩, g3, g4, -⟩ := hE
    show gw _ _ _ _ _ (gi b :: _) _ _
    refine gw_is6 at388_861 (h := ?_)
    refine gw_al2 at388_863 (gw_callP1 at388_864 (m_thrown g1 g2) (by omega) (Nat.le_of_ble_eq_true rfl) ?_)
    rw [g3]
    refine gw_il5 at388_867 (gw_ceq at388_869 (by omega) (by omega) (fun _ => ?_) (fun q => absurd rfl q))
    refine gw_il5 at388_874 (gw_zne at388_876 (by omega) (fun _ => ?_) (fun q => absurd q (by omega)))
    exact gw_goto at388_891 (hend _ T2 c2 J2 _ _ hE0 rfl rfl)
set_option maxHeartbeats 1000000 in
theorem lc_14 {d HW HM : Nat} {T : gT} {c J : gC} {L : Nat} {i : Int} {E : gT → gC → gC → Prop} {Q : am_O → am_M → Prop} {hm : Nat → Int} {R : (Int ⊕ Nat) → gT → gC → gC → Prop} {u5 u6 : Value} (hHW : HW + 1 ≤ d) (hHM : HM + 1 ≤ d) (hL : (T.1 800000).1 = 41 ∧ (T.1 800000).2.1 = L) (hL2 : L ≤ 3072) (hi : 0 ≤ i ∧ i + 6 ≤ (L : Int)) (hu : am_nl u5 = true) (hv : am_nl u6 = true) (h1 : gE 5 349 HW [.ref 500000, gi (c 800000 (i + 1)), .ref 500002] (gm T c J) (gW hm R)) (h2 : ∀ v T1 c1 J1, R (.inl v) T1 c1 J1 → SCP L c T1 c1 ∧ gE 5 217 HM [.ref 500001, gi (c 800000 (i + 1))] (gm T1 c1 (gu J1 500002 0 v)) (fun o M1 => ∃ T2 c2 J2, o = .inl (some (gi v)) ∧ M1 = gm T2 c2 J2 ∧ ESP E 0 T2 c2 J2 ∧ J2 500002 0 = v ∧ -2147483648 ≤ v ∧ v < 2147483648)) (h3 : ∀ X T1 c1 J1, R (.inr X) T1 c1 J1 → (1 ≤ hm X ∧ hm X ≤ 3) ∧ SCP L c (gTe T1) (gz c1 (700000 + T1.2.1 7)) ∧ gE 5 217 HM [.ref 500001, gi (c 800000 (i + 1))] (gm (gTe T1) (gz c1 (700000 + T1.2.1 7)) (gz J1 (700000 + T1.2.1 7))) (fun o M1 => ∃ b T2 c2 J2, o = .inl (some (gi b)) ∧ M1 = gm T2 c2 J2 ∧ ESP E (hm X) T2 c2 J2)) (hend : ∀ z T2 c2 J2 (k b : Value), ESP E z T2 c2 J2 → am_nl k = true → am_nl b = true → gw d 5 388 3366 [.ref 800000, .ref 500000, .ref 500001, .ref 500002, gi i, k, b] [] (gm T2 c2 J2) Q) : gw d 5 388 894 [.ref 800000, .ref 500000, .ref 500001, .ref 500002, gi i, u5, u6] [] (gm T c J) Q := by
  refine gw_al1 at388_894 (gw_al0 at388_895 (gw_il4 at388_896 (gw_const at388_898 (gw_iadd at388_899 (gw_ia at388_900 (Or.inr hL.1) hL.2 (by omega) (by omega) (by omega) (gw_al3 at388_901 (?_)))))))
  refine gw_call3 at388_902 h1 (by omega) (Nat.le_of_ble_eq_true rfl) (fun o M1 q => ?_)
  obtain ⟨T1, c1, J1, ⟨v, hR, rfl, rfl⟩ | ⟨X, hR, rfl, rfl⟩⟩ := q
  · obtain ⟨s, e⟩ := h2 v T1 c1 J1 hR
    show gw _ _ _ _ _ (gi 0 :: _) _ _
    refine gw_is5 at388_905 (h := ?_)
    refine gw_al2 at388_907 (gw_al0 at388_908 (gw_il4 at388_909 (gw_const at388_911 (gw_iadd at388_912 (gw_ia at388_913 (Or.inr s.1.1) s.1.2 (by omega) (by omega) (by omega) (?_))))))
    rw [s.2]
    refine gw_call2 at388_914 e (by omega) (Nat.le_of_ble_eq_true rfl) (fun o M1 q2 => ?_)
    obtain ⟨T2, c2, J2, rfl, rfl, hE, hv2, hvr⟩ := q2
    have hE0 := hE
    obtain ⟨⟨g1, g2⟩, g3, g4, -⟩ := hE
    show gw _ _ _ _ _ (gi v :: _) _ _
    refine gw_is6 at388_917 (h := ?_)
    refine gw_al2 at388_919 (gw_callP1 at388_920 (m_thrown g1 g2) (by omega) (Nat.le_of_ble_eq_true rfl) ?_)
    rw [g3]
    refine gw_il5 at388_923 (gw_ceq at388_925 (by decide) (by decide) (fun _ => ?_) (fun q => absurd rfl q))
    refine gw_il5 at388_930 (gw_zne at388_932 (by decide) (fun q => absurd rfl q) (fun _ => ?_))
    refine gw_al3 at388_935 (gw_const at388_936 (gw_la at388_937 g4.1 g4.2 (by decide) (by decide) (by decide) ?_))
    rw [hv2]
    refine gw_il6 at388_938 (gw_i2l at388_940 hvr (gw_lceq at388_941 at388_942 (by omega) (by omega) (fun _ => ?_) (fun q => absurd rfl q)))
    exact gw_goto at388_947 (hend _ T2 c2 J2 _ _ hE0 rfl rfl)
  · obtain ⟨hk, s, e⟩ := h3 X T1 c1 J1 hR
    show gw _ _ _ _ _ (gi (hm X) :: _) _ _
    refine gw_is5 at388_905 (h := ?_)
    refine gw_al2 at388_907 (gw_al0 at388_908 (gw_il4 at388_909 (gw_const at388_911 (gw_iadd at388_912 (gw_ia at388_913 (Or.inr s.1.1) s.1.2 (by omega) (by omega) (by omega) (?_))))))
    rw [s.2]
    refine gw_call2 at388_914 e (by omega) (Nat.le_of_ble_eq_true rfl) (fun o M1 q2 => ?_)
    obtain ⟨b, T2, c2, J2, rfl, rfl, hE⟩ := q2
    have hE0 := hE
    obtain ⟨⟨g1, g2⟩, g3, g4, -⟩ := hE
    show gw _ _ _ _ _ (gi b :: _) _ _
    refine gw_is6 at388_917 (h := ?_)
    refine gw_al2 at388_919 (gw_callP1 at388_920 (m_thrown g1 g2) (by omega) (Nat.le_of_ble_eq_true rfl) ?_)
    rw [g3]
    refine gw_il5 at388_923 (gw_ceq at388_925 (by omega) (by omega) (fun _ => ?_) (fun q => absurd rfl q))
    refine gw_il5 at388_930 (gw_zne at388_932 (by omega) (fun _ => ?_) (fun q => absurd q (by omega)))
    exact gw_goto at388_947 (hend _ T2 c2 J2 _ _ hE0 rfl rfl)
set_option maxHeartbeats 1000000 in
theorem lc_15 {d HW HM : Nat} {T : gT} {c J : gC} {L : Nat} {i : Int} {E : gT → gC → gC → Prop} {Q : am_O → am_M → Prop} {hm : Nat → Int} {R : (Int ⊕ Nat) → gT → gC → gC → Prop} {u5 u6 : Value} (hHW : HW + 1 ≤ d) (hHM : HM + 1 ≤ d) (hL : (T.1 800000).1 = 41 ∧ (T.1 800000).2.1 = L) (hL2 : L ≤ 3072) (hi : 0 ≤ i ∧ i + 6 ≤ (L : Int)) (hu : am_nl u5 = true) (hv : am_nl u6 = true) (h1 : gE 5 350 HW [.ref 500000, gi (c 800000 (i + 1)), gi (c 800000 (i + 2)), .ref 500002] (gm T c J) (gW hm R)) (h2 : ∀ v T1 c1 J1, R (.inl v) T1 c1 J1 → SCP L c T1 c1 ∧ gE 5 218 HM [.ref 500001, gi (c 800000 (i + 1)), gi (c 800000 (i + 2))] (gm T1 c1 (gu J1 500002 0 v)) (fun o M1 => ∃ T2 c2 J2, o = .inl (some (gi v)) ∧ M1 = gm T2 c2 J2 ∧ ESP E 0 T2 c2 J2 ∧ J2 500002 0 = v ∧ -2147483648 ≤ v ∧ v < 2147483648)) (h3 : ∀ X T1 c1 J1, R (.inr X) T1 c1 J1 → (1 ≤ hm X ∧ hm X ≤ 3) ∧ SCP L c (gTe T1) (gz c1 (700000 + T1.2.1 7)) ∧ gE 5 218 HM [.ref 500001, gi (c 800000 (i + 1)), gi (c 800000 (i + 2))] (gm (gTe T1) (gz c1 (700000 + T1.2.1 7)) (gz J1 (700000 + T1.2.1 7))) (fun o M1 => ∃ b T2 c2 J2, o = .inl (some (gi b)) ∧ M1 = gm T2 c2 J2 ∧ ESP E (hm X) T2 c2 J2)) (hend : ∀ z T2 c2 J2 (k b : Value), ESP E z T2 c2 J2 → am_nl k = true → am_nl b = true → gw d 5 388 3366 [.ref 800000, .ref 500000, .ref 500001, .ref 500002, gi i, k, b] [] (gm T2 c2 J2) Q) : gw d 5 388 950 [.ref 800000, .ref 500000, .ref 500001, .ref 500002, gi i, u5, u6] [] (gm T c J) Q := by
  refine gw_al1 at388_950 (gw_al0 at388_951 (gw_il4 at388_952 (gw_const at388_954 (gw_iadd at388_955 (gw_ia at388_956 (Or.inr hL.1) hL.2 (by omega) (by omega) (by omega) (gw_al0 at388_957 (gw_il4 at388_958 (gw_const at388_960 (gw_iadd at388_961 (gw_ia at388_962 (Or.inr hL.1) hL.2 (by omega) (by omega) (by omega) (gw_al3 at388_963 (?_))))))))))))
  refine gw_call4 at388_964 h1 (by omega) (Nat.le_of_ble_eq_true rfl) (fun o M1 q => ?_)
  obtain ⟨T1, c1, J1, ⟨v, hR, rfl, rfl⟩ | ⟨X, hR, rfl, rfl⟩⟩ := q
  · obtain ⟨s, e⟩ := h2 v T1 c1 J1 hR
    show gw _ _ _ _ _ (gi 0 :: _) _ _
    refine gw_is5 at388_967 (h := ?_)
    refine gw_al2 at388_969 (gw_al0 at388_970 (gw_il4 at388_971 (gw_const at388_973 (gw_iadd at388_974 (gw_ia at388_975 (Or.inr s.1.1) s.1.2 (by omega) (by omega) (by omega) (gw_al0 at388_976 (gw_il4 at388_977 (gw_const at388_979 (gw_iadd at388_980 (gw_ia at388_981 (Or.inr s.1.1) s.1.2 (by omega) (by omega) (by omega) (?_)))))))))))
    rw [s.2]
    refine gw_call3 at388_982 e (by omega) (Nat.le_of_ble_eq_true rfl) (fun o M1 q2 => ?_)
    obtain ⟨T2, c2, J2, rfl, rfl, hE, hv2, hvr⟩ := q2
    have hE0 := hE
    obtain ⟨⟨g1, g2⟩, g3, g4, -⟩ := hE
    show gw _ _ _ _ _ (gi v :: _) _ _
    refine gw_is6 at388_985 (h := ?_)
    refine gw_al2 at388_987 (gw_callP1 at388_988 (m_thrown g1 g2) (by omega) (Nat.le_of_ble_eq_true rfl) ?_)
    rw [g3]
    refine gw_il5 at388_991 (gw_ceq at388_993 (by decide) (by decide) (fun _ => ?_) (fun q => absurd rfl q))
    refine gw_il5 at388_998 (gw_zne at388_1000 (by decide) (fun q => absurd rfl q) (fun _ => ?_))
    refine gw_al3 at388_1003 (gw_const at388_1004 (gw_la at388_1005 g4.1 g4.2 (by decide) (by decide) (by decide) ?_))
    rw [hv2]
    refine gw_il6 at388_1006 (gw_i2l at388_1008 hvr (gw_lceq at388_1009 at388_1010 (by omega) (by omega) (fun _ => ?_) (fun q => absurd rfl q)))
    exact gw_goto at388_1015 (hend _ T2 c2 J2 _ _ hE0 rfl rfl)
  · obtain ⟨hk, s, e⟩ := h3 X T1 c1 J1 hR
    show gw _ _ _ _ _ (gi (hm X) :: _) _ _
    refine gw_is5 at388_967 (h := ?_)
    refine gw_al2 at388_969 (gw_al0 at388_970 (gw_il4 at388_971 (gw_const at388_973 (gw_iadd at388_974 (gw_ia at388_975 (Or.inr s.1.1) s.1.2 (by omega) (by omega) (by omega) (gw_al0 at388_976 (gw_il4 at388_977 (gw_const at388_979 (gw_iadd at388_980 (gw_ia at388_981 (Or.inr s.1.1) s.1.2 (by omega) (by omega) (by omega) (?_)))))))))))
    rw [s.2]
    refine gw_call3 at388_982 e (by omega) (Nat.le_of_ble_eq_true rfl) (fun o M1 q2 => ?_)
    obtain ⟨b, T2, c2, J2, rfl, rfl, hE⟩ := q2
    have hE0 := hE
    obtain ⟨⟨g1, g2⟩, g3, g4, -⟩ := hE
    show gw _ _ _ _ _ (gi b :: _) _ _
    refine gw_is6 at388_985 (h := ?_)
    refine gw_al2 at388_987 (gw_callP1 at388_988 (m_thrown g1 g2) (by omega) (Nat.le_of_ble_eq_true rfl) ?_)
    rw [g3]
    refine gw_il5 at388_991 (gw_ceq at388_993 (by omega) (by omega) (fun _ => ?_) (fun q => absurd rfl q))
    refine gw_il5 at388_998 (gw_zne at388_1000 (by omega) (fun _ => ?_) (fun q => absurd q (by omega)))
    exact gw_goto at388_1015 (hend _ T2 c2 J2 _ _ hE0 rfl rfl)
set_option maxHeartbeats 1000000 in
theorem lc_16 {d HW HM : Nat} {T : gT} {c J : gC} {L : Nat} {i : Int} {E : gT → gC → gC → Prop} {Q : am_O → am_M → Prop} {hm : Nat → Int} {R : (Int ⊕ Nat) → gT → gC → gC → Prop} {u5 u6 : Value} (hHW : HW + 1 ≤ d) (hHM : HM + 1 ≤ d) (hL : (T.1 800000).1 = 41 ∧ (T.1 800000).2.1 = L) (hL2 : L ≤ 3072) (hi : 0 ≤ i ∧ i + 6 ≤ (L : Int)) (hu : am_nl u5 = true) (hv : am_nl u6 = true) (h1 : gE 5 351 HW [.ref 500000, gi (c 800000 (i + 1)), gi (c 800000 (i + 2)), .ref 500002] (gm T c J) (gW hm R)) (h2 : ∀ v T1 c1 J1, R (.inl v) T1 c1 J1 → SCP L c T1 c1 ∧ gE 5 219 HM [.ref 500001, gi (c 800000 (i + 1)), gi (c 800000 (i + 2))] (gm T1 c1 (gu J1 500002 0 v)) (fun o M1 => ∃ T2 c2 J2, o = .inl (some (gi v)) ∧ M1 = gm T2 c2 J2 ∧ ESP E 0 T2 c2 J2 ∧ J2 500002 0 = v ∧ -2147483648 ≤ v ∧ v < 2147483648)) (h3 : ∀ X T1 c1 J1, R (.inr X) T1 c1 J1 → (1 ≤ hm X ∧ hm X ≤ 3) ∧ SCP L c (gTe T1) (gz c1 (700000 + T1.2.1 7)) ∧ gE 5 219 HM [.ref 500001, gi (c 800000 (i + 1)), gi (c 800000 (i + 2))] (gm (gTe T1) (gz c1 (700000 + T1.2.1 7)) (gz J1 (700000 + T1.2.1 7))) (fun o M1 => ∃ b T2 c2 J2, o = .inl (some (gi b)) ∧ M1 = gm T2 c2 J2 ∧ ESP E (hm X) T2 c2 J2)) (hend : ∀ z T2 c2 J2 (k b : Value), ESP E z T2 c2 J2 → am_nl k = true → am_nl b = true → gw d 5 388 3366 [.ref 800000, .ref 500000, .ref 500001, .ref 500002, gi i, k, b] [] (gm T2 c2 J2) Q) : gw d 5 388 1018 [.ref 800000, .ref 500000, .ref 500001, .ref 500002, gi i, u5, u6] [] (gm T c J) Q := by
  refine gw_al1 at388_1018 (gw_al0 at388_1019 (gw_il4 at388_1020 (gw_const at388_1022 (gw_iadd at388_1023 (gw_ia at388_1024 (Or.inr hL.1) hL.2 (by omega) (by omega) (by omega) (gw_al0 at388_1025 (gw_il4 at388_1026 (gw_const at388_1028 (gw_iadd at388_1029 (gw_ia at388_1030 (Or.inr hL.1) hL.2 (by omega) (by omega) (by omega) (gw_al3 at388_1031 (?_))))))))))))
  refine gw_call4 at388_1032 h1 (by omega) (Nat.le_of_ble_eq_true rfl) (fun o M1 q => ?_)
  obtain ⟨T1, c1, J1, ⟨v, hR, rfl, rfl⟩ | ⟨X, hR, rfl, rfl⟩⟩ := q
  · obtain ⟨s, e⟩ := h2 v T1 c1 J1 hR
    show gw _ _ _ _ _ (gi 0 :: _) _ _
    refine gw_is5 at388_1035 (h := ?_)
    refine gw_al2 at388_1037 (gw_al0 at388_1038 (gw_il4 at388_1039 (gw_const at388_1041 (gw_iadd at388_1042 (gw_ia at388_1043 (Or.inr s.1.1) s.1.2 (by omega) (by omega) (by omega) (gw_al0 at388_1044 (gw_il4 at388_1045 (gw_const at388_1047 (gw_iadd at388_1048 (gw_ia at388_1049 (Or.inr s.1.1) s.1.2 (by omega) (by omega) (by omega) (?_)))))))))))
    rw [s.2]
    refine gw_call3 at388_1050 e (by omega) (Nat.le_of_ble_eq_true rfl) (fun o M1 q2 => ?_)
    obtain ⟨T2, c2, J2, rfl, rfl, hE, hv2, hvr⟩ := q2
    have hE0 := hE
    obtain ⟨⟨g1, g2⟩, g3, g4, -⟩ := hE
    show gw _ _ _ _ _ (gi v :: _) _ _
    refine gw_is6 at388_1053 (h := ?_)
    refine gw_al2 at388_1055 (gw_callP1 at388_1056 (m_thrown g1 g2) (by omega) (Nat.le_of_ble_eq_true rfl) ?_)
    rw [g3]
    refine gw_il5 at388_1059 (gw_ceq at388_1061 (by decide) (by decide) (fun _ => ?_) (fun q => absurd rfl q))
    refine gw_il5 at388_1066 (gw_zne at388_1068 (by decide) (fun q => absurd rfl q) (fun _ => ?_))
    refine gw_al3 at388_1071 (gw_const at388_1072 (gw_la at388_1073 g4.1 g4.2 (by decide) (by decide) (by decide) ?_))
    rw [hv2]
    refine gw_il6 at388_1074 (gw_i2l at388_1076 hvr (gw_lceq at388_1077 at388_1078 (by omega) (by omega) (fun _ => ?_) (fun q => absurd rfl q)))
    exact gw_goto at388_1083 (hend _ T2 c2 J2 _ _ hE0 rfl rfl)
  · obtain ⟨hk, s, e⟩ := h3 X T1 c1 J1 hR
    show gw _ _ _ _ _ (gi (hm X) :: _) _ _
    refine gw_is5 at388_1035 (h := ?_)
    refine gw_al2 at388_1037 (gw_al0 at388_1038 (gw_il4 at388_1039 (gw_const at388_1041 (gw_iadd at388_1042 (gw_ia at388_1043 (Or.inr s.1.1) s.1.2 (by omega) (by omega) (by omega) (gw_al0 at388_1044 (gw_il4 at388_1045 (gw_const at388_1047 (gw_iadd at388_1048 (gw_ia at388_1049 (Or.inr s.1.1) s.1.2 (by omega) (by omega) (by omega) (?_)))))))))))
    rw [s.2]
    refine gw_call3 at388_1050 e (by omega) (Nat.le_of_ble_eq_true rfl) (fun o M1 q2 => ?_)
    obtain ⟨b, T2, c2, J2, rfl, rfl, hE⟩ := q2
    have hE0 := hE
    obtain ⟨⟨g1, g2⟩, g3, g4, -⟩ := hE
    show gw _ _ _ _ _ (gi b :: _) _ _
    refine gw_is6 at388_1053 (h := ?_)
    refine gw_al2 at388_1055 (gw_callP1 at388_1056 (m_thrown g1 g2) (by omega) (Nat.le_of_ble_eq_true rfl) ?_)
    rw [g3]
    refine gw_il5 at388_1059 (gw_ceq at388_1061 (by omega) (by omega) (fun _ => ?_) (fun q => absurd rfl q))
    refine gw_il5 at388_1066 (gw_zne at388_1068 (by omega) (fun _ => ?_) (fun q => absurd q (by omega)))
    exact gw_goto at388_1083 (hend _ T2 c2 J2 _ _ hE0 rfl rfl)
set_option maxHeartbeats 1000000 in
theorem lc_17 {d HW HM : Nat} {T : gT} {c J : gC} {L : Nat} {i : Int} {E : gT → gC → gC → Prop} {Q : am_O → am_M → Prop} {hm : Nat → Int} {R : (Int ⊕ Nat) → gT → gC → gC → Prop} {u5 u6 : Value} (hHW : HW + 1 ≤ d) (hHM : HM + 1 ≤ d) (hL : (T.1 800000).1 = 41 ∧ (T.1 800000).2.1 = L) (hL2 : L ≤ 3072) (hi : 0 ≤ i ∧ i + 6 ≤ (L : Int)) (hu : am_nl u5 = true) (hv : am_nl u6 = true) (h1 : gE 5 352 HW [.ref 500000, gi (c 800000 (i + 1)), gi (c 800000 (i + 2)), gi (c 800000 (i + 3)), .ref 500002] (gm T c J) (gW hm R)) (h2 : ∀ v T1 c1 J1, R (.inl v) T1 c1 J1 → SCP L c T1 c1 ∧ gE 5 220 HM [.ref 500001, gi (c 800000 (i + 1)), gi (c 800000 (i + 2)), gi (c 800000 (i + 3))] (gm T1 c1 (gu J1 500002 0 v)) (fun o M1 => ∃ T2 c2 J2, o = .inl (some (gi v)) ∧ M1 = gm T2 c2 J2 ∧ ESP E 0 T2 c2 J2 ∧ J2 500002 0 = v ∧ -2147483648 ≤ v ∧ v < 2147483648)) (h3 : ∀ X T1 c1 J1, R (.inr X) T1 c1 J1 → (1 ≤ hm X ∧ hm X ≤ 3) ∧ SCP L c (gTe T1) (gz c1 (700000 + T1.2.1 7)) ∧ gE 5 220 HM [.ref 500001, gi (c 800000 (i + 1)), gi (c 800000 (i + 2)), gi (c 800000 (i + 3))] (gm (gTe T1) (gz c1 (700000 + T1.2.1 7)) (gz J1 (700000 + T1.2.1 7))) (fun o M1 => ∃ b T2 c2 J2, o = .inl (some (gi b)) ∧ M1 = gm T2 c2 J2 ∧ ESP E (hm X) T2 c2 J2)) (hend : ∀ z T2 c2 J2 (k b : Value), ESP E z T2 c2 J2 → am_nl k = true → am_nl b = true → gw d 5 388 3366 [.ref 800000, .ref 500000, .ref 500001, .ref 500002, gi i, k, b] [] (gm T2 c2 J2) Q) : gw d 5 388 1086 [.ref 800000, .ref 500000, .ref 500001, .ref 500002, gi i, u5, u6] [] (gm T c J) Q := by
  refine gw_al1 at388_1086 (gw_al0 at388_1087 (gw_il4 at388_1088 (gw_const at388_1090 (gw_iadd at388_1091 (gw_ia at388_1092 (Or.inr hL.1) hL.2 (by omega) (by omega) (by omega) (gw_al0 at388_1093 (gw_il4 at388_1094 (gw_const at388_1096 (gw_iadd at388_1097 (gw_ia at388_1098 (Or.inr hL.1) hL.2 (by omega) (by omega) (by omega) (gw_al0 at388_1099 (gw_il4 at388_1100 (gw_const at388_1102 (gw_iadd at388_1103 (gw_ia at388_1104 (Or.inr hL.1) hL.2 (by omega) (by omega) (by omega) (gw_al3 at388_1105 (?_)))))))))))))))))
  refine gw_call5 at388_1106 h1 (by omega) (Nat.le_of_ble_eq_true rfl) (fun o M1 q => ?_)
  obtain ⟨T1, c1, J1, ⟨v, hR, rfl, rfl⟩ | ⟨X, hR, rfl, rfl⟩⟩ := q
  · obtain ⟨s, e⟩ := h2 v T1 c1 J1 hR
    show gw _ _ _ _ _ (gi 0 :: _) _ _
    refine gw_is5 at388_1109 (h := ?_)
    refine gw_al2 at388_1111 (gw_al0 at388_1112 (gw_il4 at388_1113 (gw_const at388_1115 (gw_iadd at388_1116 (gw_ia at388_1117 (Or.inr s.1.1) s.1.2 (by omega) (by omega) (by omega) (gw_al0 at388_1118 (gw_il4 at388_1119 (gw_const at388_1121 (gw_iadd at388_1122 (gw_ia at388_1123 (Or.inr s.1.1) s.1.2 (by omega) (by omega) (by omega) (gw_al0 at388_1124 (gw_il4 at388_1125 (gw_const at388_1127 (gw_iadd at388_1128 (gw_ia at388_1129 (Or.inr s.1.1) s.1.2 (by omega) (by omega) (by omega) (?_))))))))))))))))
    rw [s.2]
    refine gw_call4 at388_1130 e (by omega) (Nat.le_of_ble_eq_true rfl) (fun o M1 q2 => ?_)
    obtain ⟨T2, c2, J2, rfl, rfl, hE, hv2, hvr⟩ := q2
    have hE0 := hE
    obtain ⟨⟨g1, g2⟩, g3, g4, -⟩ := hE
    show gw _ _ _ _ _ (gi v :: _) _ _
    refine gw_is6 at388_1133 (h := ?_)
    refine gw_al2 at388_1135 (gw_callP1 at388_1136 (m_thrown g1 g2) (by omega) (Nat.le_of_ble_eq_true rfl) ?_)
    rw [g3]
    refine gw_il5 at388_1139 (gw_ceq at388_1141 (by decide) (by decide) (fun _ => ?_) (fun q => absurd rfl q))
    refine gw_il5 at388_1146 (gw_zne at388_1148 (by decide) (fun q => absurd rfl q) (fun _ => ?_))
    refine gw_al3 at388_1151 (gw_const at388_1152 (gw_la at388_1153 g4.1 g4.2 (by decide) (by decide) (by decide) ?_))
    rw [hv2]
    refine gw_il6 at388_1154 (gw_i2l at388_1156 hvr (gw_lceq at388_1157 at388_1158 (by omega) (by omega) (fun _ => ?_) (fun q => absurd rfl q)))
    exact gw_goto at388_1163 (hend _ T2 c2 J2 _ _ hE0 rfl rfl)
  · obtain ⟨hk, s, e⟩ := h3 X T1 c1 J1 hR
    show gw _ _ _ _ _ (gi (hm X) :: _) _ _
    refine gw_is5 at388_1109 (h := ?_)
    refine gw_al2 at388_1111 (gw_al0 at388_1112 (gw_il4 at388_1113 (gw_const at388_1115 (gw_iadd at388_1116 (gw_ia at388_1117 (Or.inr s.1.1) s.1.2 (by omega) (by omega) (by omega) (gw_al0 at388_1118 (gw_il4 at388_1119 (gw_const at388_1121 (gw_iadd at388_1122 (gw_ia at388_1123 (Or.inr s.1.1) s.1.2 (by omega) (by omega) (by omega) (gw_al0 at388_1124 (gw_il4 at388_1125 (gw_const at388_1127 (gw_iadd at388_1128 (gw_ia at388_1129 (Or.inr s.1.1) s.1.2 (by omega) (by omega) (by omega) (?_))))))))))))))))
    rw [s.2]
    refine gw_call4 at388_1130 e (by omega) (Nat.le_of_ble_eq_true rfl) (fun o M1 q2 => ?_)
    obtain ⟨b, T2, c2, J2, rfl, rfl, hE⟩ := q2
    have hE0 := hE
    obtain ⟨⟨g1, g2⟩, g3, g4, -⟩ := hE
    show gw _ _ _ _ _ (gi b :: _) _ _
    refine gw_is6 at388_1133 (h := ?_)
    refine gw_al2 at388_1135 (gw_callP1 at388_1136 (m_thrown g1 g2) (by omega) (Nat.le_of_ble_eq_true rfl) ?_)
    rw [g3]
    refine gw_il5 at388_1139 (gw_ceq at388_1141 (by omega) (by omega) (fun _ => ?_) (fun q => absurd rfl q))
    refine gw_il5 at388_1146 (gw_zne at388_1148 (by omega) (fun _ => ?_) (fun q => absurd q (by omega)))
    exact gw_goto at388_1163 (hend _ T2 c2 J2 _ _ hE0 rfl rfl)
set_option maxHeartbeats 1000000 in
theorem lc_18 {d HW HM : Nat} {T : gT} {c J : gC} {L : Nat} {i : Int} {E : gT → gC → gC → Prop} {Q : am_O → am_M → Prop} {hm : Nat → Int} {R : (Int ⊕ Nat) → gT → gC → gC → Prop} {u5 u6 : Value} (hHW : HW + 1 ≤ d) (hHM : HM + 1 ≤ d) (hL : (T.1 800000).1 = 41 ∧ (T.1 800000).2.1 = L) (hL2 : L ≤ 3072) (hi : 0 ≤ i ∧ i + 6 ≤ (L : Int)) (hu : am_nl u5 = true) (hv : am_nl u6 = true) (h1 : gE 5 353 HW [.ref 500000, gi (c 800000 (i + 1)), .ref 500002] (gm T c J) (gW hm R)) (h2 : ∀ v T1 c1 J1, R (.inl v) T1 c1 J1 → SCP L c T1 c1 ∧ gE 5 222 HM [.ref 500001, gi (c 800000 (i + 1))] (gm T1 c1 (gu J1 500002 0 v)) (fun o M1 => ∃ T2 c2 J2, o = .inl (some (gi v)) ∧ M1 = gm T2 c2 J2 ∧ ESP E 0 T2 c2 J2 ∧ J2 500002 0 = v ∧ -2147483648 ≤ v ∧ v < 2147483648)) (h3 : ∀ X T1 c1 J1, R (.inr X) T1 c1 J1 → (1 ≤ hm X ∧ hm X ≤ 3) ∧ SCP L c (gTe T1) (gz c1 (700000 + T1.2.1 7)) ∧ gE 5 222 HM [.ref 500001, gi (c 800000 (i + 1))] (gm (gTe T1) (gz c1 (700000 + T1.2.1 7)) (gz J1 (700000 + T1.2.1 7))) (fun o M1 => ∃ b T2 c2 J2, o = .inl (some (gi b)) ∧ M1 = gm T2 c2 J2 ∧ ESP E (hm X) T2 c2 J2)) (hend : ∀ z T2 c2 J2 (k b : Value), ESP E z T2 c2 J2 → am_nl k = true → am_nl b = true → gw d 5 388 3366 [.ref 800000, .ref 500000, .ref 500001, .ref 500002, gi i, k, b] [] (gm T2 c2 J2) Q) : gw d 5 388 1166 [.ref 800000, .ref 500000, .ref 500001, .ref 500002, gi i, u5, u6] [] (gm T c J) Q := by
  refine gw_al1 at388_1166 (gw_al0 at388_1167 (gw_il4 at388_1168 (gw_const at388_1170 (gw_iadd at388_1171 (gw_ia at388_1172 (Or.inr hL.1) hL.2 (by omega) (by omega) (by omega) (gw_al3 at388_1173 (?_)))))))
  refine gw_call3 at388_1174 h1 (by omega) (Nat.le_of_ble_eq_true rfl) (fun o M1 q => ?_)
  obtain ⟨T1, c1, J1, ⟨v, hR, rfl, rfl⟩ | ⟨X, hR, rfl, rfl⟩⟩ := q
  · obtain ⟨s, e⟩ := h2 v T1 c1 J1 hR
    show gw _ _ _ _ _ (gi 0 :: _) _ _
    refine gw_is5 at388_1177 (h := ?_)
    refine gw_al2 at388_1179 (gw_al0 at388_1180 (gw_il4 at388_1181 (gw_const at388_1183 (gw_iadd at388_1184 (gw_ia at388_1185 (Or.inr s.1.1) s.1.2 (by omega) (by omega) (by omega) (?_))))))
    rw [s.2]
    refine gw_call2 at388_1186 e (by omega) (Nat.le_of_ble_eq_true rfl) (fun o M1 q2 => ?_)
    obtain ⟨T2, c2, J2, rfl, rfl, hE, hv2, hvr⟩ := q2
    have hE0 := hE
    obtain ⟨⟨g1, g2⟩, g3, g4, -⟩ := hE
    show gw _ _ _ _ _ (gi v :: _) _ _
    refine gw_is6 at388_1189 (h := ?_)
    refine gw_al2 at388_1191 (gw_callP1 at388_1192 (m_thrown g1 g2) (by omega) (Nat.le_of_ble_eq_true rfl) ?_)
    rw [g3]
    refine gw_il5 at388_1195 (gw_ceq at388_1197 (by decide) (by decide) (fun _ => ?_) (fun q => absurd rfl q))
    refine gw_il5 at388_1202 (gw_zne at388_1204 (by decide) (fun q => absurd rfl q) (fun _ => ?_))
    refine gw_al3 at388_1207 (gw_const at388_1208 (gw_la at388_1209 g4.1 g4.2 (by decide) (by decide) (by decide) ?_))
    rw [hv2]
    refine gw_il6 at388_1210 (gw_i2l at388_1212 hvr (gw_lceq at388_1213 at388_1214 (by omega) (by omega) (fun _ => ?_) (fun q => absurd rfl q)))
    exact gw_goto at388_1219 (hend _ T2 c2 J2 _ _ hE0 rfl rfl)
  · obtain ⟨hk, s, e⟩ := h3 X T1 c1 J1 hR
    show gw _ _ _ _ _ (gi (hm X) :: _) _ _
    refine gw_is5 at388_1177 (h := ?_)
    refine gw_al2 at388_1179 (gw_al0 at388_1180 (gw_il4 at388_1181 (gw_const at388_1183 (gw_iadd at388_1184 (gw_ia at388_1185 (Or.inr s.1.1) s.1.2 (by omega) (by omega) (by omega) (?_))))))
    rw [s.2]
    refine gw_call2 at388_1186 e (by omega) (Nat.le_of_ble_eq_true rfl) (fun o M1 q2 => ?_)
    obtain ⟨b, T2, c2, J2, rfl, rfl, hE⟩ := q2
    have hE0 := hE
    obtain ⟨⟨g1, g2⟩, g3, g4, -⟩ := hE
    show gw _ _ _ _ _ (gi b :: _) _ _
    refine gw_is6 at388_1189 (h := ?_)
    refine gw_al2 at388_1191 (gw_callP1 at388_1192 (m_thrown g1 g2) (by omega) (Nat.le_of_ble_eq_true rfl) ?_)
    rw [g3]
    refine gw_il5 at388_1195 (gw_ceq at388_1197 (by omega) (by omega) (fun _ => ?_) (fun q => absurd rfl q))
    refine gw_il5 at388_1202 (gw_zne at388_1204 (by omega) (fun _ => ?_) (fun q => absurd q (by omega)))
    exact gw_goto at388_1219 (hend _ T2 c2 J2 _ _ hE0 rfl rfl)
set_option maxHeartbeats 1000000 in
theorem lc_19 {d HW HM : Nat} {T : gT} {c J : gC} {i : Int} {E : gT → gC → gC → Prop} {Q : am_O → am_M → Prop} {R : Int → gT → gC → gC → Prop} {u5 u6 : Value} (hHW : HW + 1 ≤ d) (hHM : HM + 1 ≤ d) (hu : am_nl u5 = true) (hv : am_nl u6 = true) (h1 : gE 5 116 HW [.ref 500000] (gm T c J) (fun o M1 => ∃ v T1 c1 J1, o = .inl (some (gi v)) ∧ M1 = gm T1 c1 J1 ∧ R v T1 c1 J1)) (h2 : ∀ v T1 c1 J1, R v T1 c1 J1 → (-2147483648 ≤ v ∧ v < 2147483648) ∧ gE 5 224 HM [.ref 500001] (gm T1 c1 J1) (fun o M1 => ∃ z T2 c2 J2, o = .inl (some (gi v)) ∧ M1 = gm T2 c2 J2 ∧ ESP E z T2 c2 J2)) (hend : ∀ z T2 c2 J2 (k b : Value), ESP E z T2 c2 J2 → am_nl k = true → am_nl b = true → gw d 5 388 3366 [.ref 800000, .ref 500000, .ref 500001, .ref 500002, gi i, k, b] [] (gm T2 c2 J2) Q) : gw d 5 388 1222 [.ref 800000, .ref 500000, .ref 500001, .ref 500002, gi i, u5, u6] [] (gm T c J) Q := by
  refine gw_al1 at388_1222 (gw_call1 at388_1223 h1 (by omega) (Nat.le_of_ble_eq_true rfl) (fun o M1 q => ?_))
  obtain ⟨v, T1, c1, J1, rfl, rfl, hR⟩ := q
  obtain ⟨hr, e⟩ := h2 v T1 c1 J1 hR
  show gw _ _ _ _ _ (gi v :: _) _ _
  refine gw_al2 at388_1226 (gw_call1 at388_1227 e (by omega) (Nat.le_of_ble_eq_true rfl) (fun o M1 q2 => ?_))
  obtain ⟨z, T2, c2, J2, rfl, rfl, hE⟩ := q2
  show gw _ _ _ _ _ (gi v :: _) _ _
  exact gw_ceq at388_1230 hr hr (fun _ => hend _ T2 c2 J2 _ _ hE hu hv) (fun q => absurd rfl q)
set_option maxHeartbeats 1000000 in
theorem lc_20 {d HW HM : Nat} {T : gT} {c J : gC} {L : Nat} {i : Int} {E : gT → gC → gC → Prop} {Q : am_O → am_M → Prop} {hm : Nat → Int} {R : (Int ⊕ Nat) → gT → gC → gC → Prop} {u5 u6 : Value} (hHW : HW + 1 ≤ d) (hHM : HM + 1 ≤ d) (hL : (T.1 800000).1 = 41 ∧ (T.1 800000).2.1 = L) (hL2 : L ≤ 3072) (hi : 0 ≤ i ∧ i + 6 ≤ (L : Int)) (hu : am_nl u5 = true) (hv : am_nl u6 = true) (h1 : gE 5 354 HW [.ref 500000, gi (c 800000 (i + 1)), .ref 500002] (gm T c J) (gW hm R)) (h2 : ∀ v T1 c1 J1, R (.inl v) T1 c1 J1 → SCP L c T1 c1 ∧ gE 5 226 HM [.ref 500001, gi (c 800000 (i + 1))] (gm T1 c1 (gu J1 500002 0 v)) (fun o M1 => ∃ T2 c2 J2, o = .inl (some (gi v)) ∧ M1 = gm T2 c2 J2 ∧ ESP E 0 T2 c2 J2 ∧ J2 500002 0 = v ∧ -2147483648 ≤ v ∧ v < 2147483648)) (h3 : ∀ X T1 c1 J1, R (.inr X) T1 c1 J1 → (1 ≤ hm X ∧ hm X ≤ 3) ∧ SCP L c (gTe T1) (gz c1 (700000 + T1.2.1 7)) ∧ gE 5 226 HM [.ref 500001, gi (c 800000 (i + 1))] (gm (gTe T1) (gz c1 (700000 + T1.2.1 7)) (gz J1 (700000 + T1.2.1 7))) (fun o M1 => ∃ b T2 c2 J2, o = .inl (some (gi b)) ∧ M1 = gm T2 c2 J2 ∧ ESP E (hm X) T2 c2 J2)) (hend : ∀ z T2 c2 J2 (k b : Value), ESP E z T2 c2 J2 → am_nl k = true → am_nl b = true → gw d 5 388 3366 [.ref 800000, .ref 500000, .ref 500001, .ref 500002, gi i, k, b] [] (gm T2 c2 J2) Q) : gw d 5 388 1235 [.ref 800000, .ref 500000, .ref 500001, .ref 500002, gi i, u5, u6] [] (gm T c J) Q := by
  refine gw_al1 at388_1235 (gw_al0 at388_1236 (gw_il4 at388_1237 (gw_const at388_1239 (gw_iadd at388_1240 (gw_ia at388_1241 (Or.inr hL.1) hL.2 (by omega) (by omega) (by omega) (gw_al3 at388_1242 (?_)))))))
  refine gw_call3 at388_1243 h1 (by omega) (Nat.le_of_ble_eq_true rfl) (fun o M1 q => ?_)
  obtain ⟨T1, c1, J1, ⟨v, hR, rfl, rfl⟩ | ⟨X, hR, rfl, rfl⟩⟩ := q
  · obtain ⟨s, e⟩ := h2 v T1 c1 J1 hR
    show gw _ _ _ _ _ (gi 0 :: _) _ _
    refine gw_is5 at388_1246 (h := ?_)
    refine gw_al2 at388_1248 (gw_al0 at388_1249 (gw_il4 at388_1250 (gw_const at388_1252 (gw_iadd at388_1253 (gw_ia at388_1254 (Or.inr s.1.1) s.1.2 (by omega) (by omega) (by omega) (?_))))))
    rw [s.2]
    refine gw_call2 at388_1255 e (by omega) (Nat.le_of_ble_eq_true rfl) (fun o M1 q2 => ?_)
    obtain ⟨T2, c2, J2, rfl, rfl, hE, hv2, hvr⟩ := q2
    have hE0 := hE
    obtain ⟨⟨g1, g2⟩, g3, g4, -⟩ := hE
    show gw _ _ _ _ _ (gi v :: _) _ _
    refine gw_is6 at388_1258 (h := ?_)
    refine gw_al2 at388_1260 (gw_callP1 at388_1261 (m_thrown g1 g2) (by omega) (Nat.le_of_ble_eq_true rfl) ?_)
    rw [g3]
    refine gw_il5 at388_1264 (gw_ceq at388_1266 (by decide) (by decide) (fun _ => ?_) (fun q => absurd rfl q))
    refine gw_il5 at388_1271 (gw_zne at388_1273 (by decide) (fun q => absurd rfl q) (fun _ => ?_))
    refine gw_al3 at388_1276 (gw_const at388_1277 (gw_la at388_1278 g4.1 g4.2 (by decide) (by decide) (by decide) ?_))
    rw [hv2]
    refine gw_il6 at388_1279 (gw_i2l at388_1281 hvr (gw_lceq at388_1282 at388_1283 (by omega) (by omega) (fun _ => ?_) (fun q => absurd rfl q)))
    exact gw_goto at388_1288 (hend _ T2 c2 J2 _ _ hE0 rfl rfl)
  · obtain ⟨hk, s, e⟩ := h3 X T1 c1 J1 hR
    show gw _ _ _ _ _ (gi (hm X) :: _) _ _
    refine gw_is5 at388_1246 (h := ?_)
    refine gw_al2 at388_1248 (gw_al0 at388_1249 (gw_il4 at388_1250 (gw_const at388_1252 (gw_iadd at388_1253 (gw_ia at388_1254 (Or.inr s.1.1) s.1.2 (by omega) (by omega) (by omega) (?_))))))
    rw [s.2]
    refine gw_call2 at388_1255 e (by omega) (Nat.le_of_ble_eq_true rfl) (fun o M1 q2 => ?_)
    obtain ⟨b, T2, c2, J2, rfl, rfl, hE⟩ := q2
    have hE0 := hE
    obtain ⟨⟨g1, g2⟩, g3, g4, -⟩ := hE
    show gw _ _ _ _ _ (gi b :: _) _ _
    refine gw_is6 at388_1258 (h := ?_)
    refine gw_al2 at388_1260 (gw_callP1 at388_1261 (m_thrown g1 g2) (by omega) (Nat.le_of_ble_eq_true rfl) ?_)
    rw [g3]
    refine gw_il5 at388_1264 (gw_ceq at388_1266 (by omega) (by omega) (fun _ => ?_) (fun q => absurd rfl q))
    refine gw_il5 at388_1271 (gw_zne at388_1273 (by omega) (fun _ => ?_) (fun q => absurd q (by omega)))
    exact gw_goto at388_1288 (hend _ T2 c2 J2 _ _ hE0 rfl rfl)
set_option maxHeartbeats 1000000 in
theorem lc_21 {d HW HM : Nat} {T : gT} {c J : gC} {L : Nat} {i : Int} {E : gT → gC → gC → Prop} {Q : am_O → am_M → Prop} {hm : Nat → Int} {R : (Int ⊕ Nat) → gT → gC → gC → Prop} {u5 u6 : Value} (hHW : HW + 1 ≤ d) (hHM : HM + 1 ≤ d) (hL : (T.1 800000).1 = 41 ∧ (T.1 800000).2.1 = L) (hL2 : L ≤ 3072) (hi : 0 ≤ i ∧ i + 6 ≤ (L : Int)) (hu : am_nl u5 = true) (hv : am_nl u6 = true) (h1 : gE 5 355 HW [.ref 500000, gi (c 800000 (i + 1)), .ref 500002] (gm T c J) (gW hm R)) (h2 : ∀ v T1 c1 J1, R (.inl v) T1 c1 J1 → SCP L c T1 c1 ∧ gE 5 233 HM [.ref 500001, gi (c 800000 (i + 1))] (gm T1 c1 (gu J1 500002 0 v)) (fun o M1 => ∃ T2 c2 J2, o = .inl (some (gi v)) ∧ M1 = gm T2 c2 J2 ∧ ESP E 0 T2 c2 J2 ∧ J2 500002 0 = v ∧ -2147483648 ≤ v ∧ v < 2147483648)) (h3 : ∀ X T1 c1 J1, R (.inr X) T1 c1 J1 → (1 ≤ hm X ∧ hm X ≤ 3) ∧ SCP L c (gTe T1) (gz c1 (700000 + T1.2.1 7)) ∧ gE 5 233 HM [.ref 500001, gi (c 800000 (i + 1))] (gm (gTe T1) (gz c1 (700000 + T1.2.1 7)) (gz J1 (700000 + T1.2.1 7))) (fun o M1 => ∃ b T2 c2 J2, o = .inl (some (gi b)) ∧ M1 = gm T2 c2 J2 ∧ ESP E (hm X) T2 c2 J2)) (hend : ∀ z T2 c2 J2 (k b : Value), ESP E z T2 c2 J2 → am_nl k = true → am_nl b = true → gw d 5 388 3366 [.ref 800000, .ref 500000, .ref 500001, .ref 500002, gi i, k, b] [] (gm T2 c2 J2) Q) : gw d 5 388 1291 [.ref 800000, .ref 500000, .ref 500001, .ref 500002, gi i, u5, u6] [] (gm T c J) Q := by
  refine gw_al1 at388_1291 (gw_al0 at388_1292 (gw_il4 at388_1293 (gw_const at388_1295 (gw_iadd at388_1296 (gw_ia at388_1297 (Or.inr hL.1) hL.2 (by omega) (by omega) (by omega) (gw_al3 at388_1298 (?_)))))))
  refine gw_call3 at388_1299 h1 (by omega) (Nat.le_of_ble_eq_true rfl) (fun o M1 q => ?_)
  obtain ⟨T1, c1, J1, ⟨v, hR, rfl, rfl⟩ | ⟨X, hR, rfl, rfl⟩⟩ := q
  · obtain ⟨s, e⟩ := h2 v T1 c1 J1 hR
    show gw _ _ _ _ _ (gi 0 :: _) _ _
    refine gw_is5 at388_1302 (h := ?_)
    refine gw_al2 at388_1304 (gw_al0 at388_1305 (gw_il4 at388_1306 (gw_const at388_1308 (gw_iadd at388_1309 (gw_ia at388_1310 (Or.inr s.1.1) s.1.2 (by omega) (by omega) (by omega) (?_))))))
    rw [s.2]
    refine gw_call2 at388_1311 e (by omega) (Nat.le_of_ble_eq_true rfl) (fun o M1 q2 => ?_)
    obtain ⟨T2, c2, J2, rfl, rfl, hE, hv2, hvr⟩ := q2
    have hE0 := hE
    obtain ⟨⟨g1, g2⟩, g3, g4, -⟩ := hE
    show gw _ _ _ _ _ (gi v :: _) _ _
    refine gw_is6 at388_1314 (h := ?_)
    refine gw_al2 at388_1316 (gw_callP1 at388_1317 (m_thrown g1 g2) (by omega) (Nat.le_of_ble_eq_true rfl) ?_)
    rw [g3]
    refine gw_il5 at388_1320 (gw_ceq at388_1322 (by decide) (by decide) (fun _ => ?_) (fun q => absurd rfl q))
    refine gw_il5 at388_1327 (gw_zne at388_1329 (by decide) (fun q => absurd rfl q) (fun _ => ?_))
    refine gw_al3 at388_1332 (gw_const at388_1333 (gw_la at388_1334 g4.1 g4.2 (by decide) (by decide) (by decide) ?_))
    rw [hv2]
    refine gw_il6 at388_1335 (gw_i2l at388_1337 hvr (gw_lceq at388_1338 at388_1339 (by omega) (by omega) (fun _ => ?_) (fun q => absurd rfl q)))
    exact gw_goto at388_1344 (hend _ T2 c2 J2 _ _ hE0 rfl rfl)
  · obtain ⟨hk, s, e⟩ := h3 X T1 c1 J1 hR
    show gw _ _ _ _ _ (gi (hm X) :: _) _ _
    refine gw_is5 at388_1302 (h := ?_)
    refine gw_al2 at388_1304 (gw_al0 at388_1305 (gw_il4 at388_1306 (gw_const at388_1308 (gw_iadd at388_1309 (gw_ia at388_1310 (Or.inr s.1.1) s.1.2 (by omega) (by omega) (by omega) (?_))))))
    rw [s.2]
    refine gw_call2 at388_1311 e (by omega) (Nat.le_of_ble_eq_true rfl) (fun o M1 q2 => ?_)
    obtain ⟨b, T2, c2, J2, rfl, rfl, hE⟩ := q2
    have hE0 := hE
    obtain ⟨⟨g1, g2⟩, g3, g4, -⟩ := hE
    show gw _ _ _ _ _ (gi b :: _) _ _
    refine gw_is6 at388_1314 (h := ?_)
    refine gw_al2 at388_1316 (gw_callP1 at388_1317 (m_thrown g1 g2) (by omega) (Nat.le_of_ble_eq_true rfl) ?_)
    rw [g3]
    refine gw_il5 at388_1320 (gw_ceq at388_1322 (by omega) (by omega) (fun _ => ?_) (fun q => absurd rfl q))
    refine gw_il5 at388_1327 (gw_zne at388_1329 (by omega) (fun _ => ?_) (fun q => absurd q (by omega)))
    exact gw_goto at388_1344 (hend _ T2 c2 J2 _ _ hE0 rfl rfl)
set_option maxHeartbeats 1000000 in
theorem lc_22 {d HW HM : Nat} {T : gT} {c J : gC} {L : Nat} {i : Int} {E : gT → gC → gC → Prop} {Q : am_O → am_M → Prop} {hm : Nat → Int} {R : (Int ⊕ Nat) → gT → gC → gC → Prop} {u5 u6 : Value} (hHW : HW + 1 ≤ d) (hHM : HM + 1 ≤ d) (hL : (T.1 800000).1 = 41 ∧ (T.1 800000).2.1 = L) (hL2 : L ≤ 3072) (hi : 0 ≤ i ∧ i + 6 ≤ (L : Int)) (hu : am_nl u5 = true) (hv : am_nl u6 = true) (h1 : gE 5 356 HW [.ref 500000, gi (c 800000 (i + 1)), .ref 500002] (gm T c J) (gW hm R)) (h2 : ∀ v T1 c1 J1, R (.inl v) T1 c1 J1 → SCP L c T1 c1 ∧ gE 5 243 HM [.ref 500001, gi (c 800000 (i + 1))] (gm T1 c1 (gu J1 500002 0 v)) (fun o M1 => ∃ T2 c2 J2, o = .inl (some (gi v)) ∧ M1 = gm T2 c2 J2 ∧ ESP E 0 T2 c2 J2 ∧ J2 500002 0 = v ∧ -2147483648 ≤ v ∧ v < 2147483648)) (h3 : ∀ X T1 c1 J1, R (.inr X) T1 c1 J1 → (1 ≤ hm X ∧ hm X ≤ 3) ∧ SCP L c (gTe T1) (gz c1 (700000 + T1.2.1 7)) ∧ gE 5 243 HM [.ref 500001, gi (c 800000 (i + 1))] (gm (gTe T1) (gz c1 (700000 + T1.2.1 7)) (gz J1 (700000 + T1.2.1 7))) (fun o M1 => ∃ b T2 c2 J2, o = .inl (some (gi b)) ∧ M1 = gm T2 c2 J2 ∧ ESP E (hm X) T2 c2 J2)) (hend : ∀ z T2 c2 J2 (k b : Value), ESP E z T2 c2 J2 → am_nl k = true → am_nl b = true → gw d 5 388 3366 [.ref 800000, .ref 500000, .ref 500001, .ref 500002, gi i, k, b] [] (gm T2 c2 J2) Q) : gw d 5 388 1347 [.ref 800000, .ref 500000, .ref 500001, .ref 500002, gi i, u5, u6] [] (gm T c J) Q := by
  refine gw_al1 at388_1347 (gw_al0 at388_1348 (gw_il4 at388_1349 (gw_const at388_1351 (gw_iadd at388_1352 (gw_ia at388_1353 (Or.inr hL.1) hL.2 (by omega) (by omega) (by omega) (gw_al3 at388_1354 (?_)))))))
  refine gw_call3 at388_1355 h1 (by omega) (Nat.le_of_ble_eq_true rfl) (fun o M1 q => ?_)
  obtain ⟨T1, c1, J1, ⟨v, hR, rfl, rfl⟩ | ⟨X, hR, rfl, rfl⟩⟩ := q
  · obtain ⟨s, e⟩ := h2 v T1 c1 J1 hR
    show gw _ _ _ _ _ (gi 0 :: _) _ _
    refine gw_is5 at388_1358 (h := ?_)
    refine gw_al2 at388_1360 (gw_al0 at388_1361 (gw_il4 at388_1362 (gw_const at388_1364 (gw_iadd at388_1365 (gw_ia at388_1366 (Or.inr s.1.1) s.1.2 (by omega) (by omega) (by omega) (?_))))))
    rw [s.2]
    refine gw_call2 at388_1367 e (by omega) (Nat.le_of_ble_eq_true rfl) (fun o M1 q2 => ?_)
    obtain ⟨T2, c2, J2, rfl, rfl, hE, hv2, hvr⟩ := q2
    have hE0 := hE
    obtain ⟨⟨g1, g2⟩, g3, g4, -⟩ := hE
    show gw _ _ _ _ _ (gi v :: _) _ _
    refine gw_is6 at388_1370 (h := ?_)
    refine gw_al2 at388_1372 (gw_callP1 at388_1373 (m_thrown g1 g2) (by omega) (Nat.le_of_ble_eq_true rfl) ?_)
    rw [g3]
    refine gw_il5 at388_1376 (gw_ceq at388_1378 (by decide) (by decide) (fun _ => ?_) (fun q => absurd rfl q))
    refine gw_il5 at388_1383 (gw_zne at388_1385 (by decide) (fun q => absurd rfl q) (fun _ => ?_))
    refine gw_al3 at388_1388 (gw_const at388_1389 (gw_la at388_1390 g4.1 g4.2 (by decide) (by decide) (by decide) ?_))
    rw [hv2]
    refine gw_il6 at388_1391 (gw_i2l at388_1393 hvr (gw_lceq at388_1394 at388_1395 (by omega) (by omega) (fun _ => ?_) (fun q => absurd rfl q)))
    exact gw_goto at388_1400 (hend _ T2 c2 J2 _ _ hE0 rfl rfl)
  · obtain ⟨hk, s, e⟩ := h3 X T1 c1 J1 hR
    show gw _ _ _ _ _ (gi (hm X) :: _) _ _
    refine gw_is5 at388_1358 (h := ?_)
    refine gw_al2 at388_1360 (gw_al0 at388_1361 (gw_il4 at388_1362 (gw_const at388_1364 (gw_iadd at388_1365 (gw_ia at388_1366 (Or.inr s.1.1) s.1.2 (by omega) (by omega) (by omega) (?_))))))
    rw [s.2]
    refine gw_call2 at388_1367 e (by omega) (Nat.le_of_ble_eq_true rfl) (fun o M1 q2 => ?_)
    obtain ⟨b, T2, c2, J2, rfl, rfl, hE⟩ := q2
    have hE0 := hE
    obtain ⟨⟨g1, g2⟩, g3, g4, -⟩ := hE
    show gw _ _ _ _ _ (gi b :: _) _ _
    refine gw_is6 at388_1370 (h := ?_)
    refine gw_al2 at388_1372 (gw_callP1 at388_1373 (m_thrown g1 g2) (by omega) (Nat.le_of_ble_eq_true rfl) ?_)
    rw [g3]
    refine gw_il5 at388_1376 (gw_ceq at388_1378 (by omega) (by omega) (fun _ => ?_) (fun q => absurd rfl q))
    refine gw_il5 at388_1383 (gw_zne at388_1385 (by omega) (fun _ => ?_) (fun q => absurd q (by omega)))
    exact gw_goto at388_1400 (hend _ T2 c2 J2 _ _ hE0 rfl rfl)
set_option maxHeartbeats 1000000 in
theorem lc_23 {d HW HM : Nat} {T : gT} {c J : gC} {L : Nat} {i : Int} {E : gT → gC → gC → Prop} {Q : am_O → am_M → Prop} {hm : Nat → Int} {R : (Int ⊕ Nat) → gT → gC → gC → Prop} {u5 u6 : Value} (hHW : HW + 1 ≤ d) (hHM : HM + 1 ≤ d) (hL : (T.1 800000).1 = 41 ∧ (T.1 800000).2.1 = L) (hL2 : L ≤ 3072) (hi : 0 ≤ i ∧ i + 6 ≤ (L : Int)) (hu : am_nl u5 = true) (hv : am_nl u6 = true) (h1 : gE 5 357 HW [.ref 500000, gi (c 800000 (i + 1)), gi (c 800000 (i + 2)), .ref 500002] (gm T c J) (gW hm R)) (h2 : ∀ v T1 c1 J1, R (.inl v) T1 c1 J1 → SCP L c T1 c1 ∧ gE 5 244 HM [.ref 500001, gi (c 800000 (i + 1)), gi (c 800000 (i + 2))] (gm T1 c1 (gu J1 500002 0 v)) (fun o M1 => ∃ T2 c2 J2, o = .inl (some (gi v)) ∧ M1 = gm T2 c2 J2 ∧ ESP E 0 T2 c2 J2 ∧ J2 500002 0 = v ∧ -2147483648 ≤ v ∧ v < 2147483648)) (h3 : ∀ X T1 c1 J1, R (.inr X) T1 c1 J1 → (1 ≤ hm X ∧ hm X ≤ 3) ∧ SCP L c (gTe T1) (gz c1 (700000 + T1.2.1 7)) ∧ gE 5 244 HM [.ref 500001, gi (c 800000 (i + 1)), gi (c 800000 (i + 2))] (gm (gTe T1) (gz c1 (700000 + T1.2.1 7)) (gz J1 (700000 + T1.2.1 7))) (fun o M1 => ∃ b T2 c2 J2, o = .inl (some (gi b)) ∧ M1 = gm T2 c2 J2 ∧ ESP E (hm X) T2 c2 J2)) (hend : ∀ z T2 c2 J2 (k b : Value), ESP E z T2 c2 J2 → am_nl k = true → am_nl b = true → gw d 5 388 3366 [.ref 800000, .ref 500000, .ref 500001, .ref 500002, gi i, k, b] [] (gm T2 c2 J2) Q) : gw d 5 388 1403 [.ref 800000, .ref 500000, .ref 500001, .ref 500002, gi i, u5, u6] [] (gm T c J) Q := by
  refine gw_al1 at388_1403 (gw_al0 at388_1404 (gw_il4 at388_1405 (gw_const at388_1407 (gw_iadd at388_1408 (gw_ia at388_1409 (Or.inr hL.1) hL.2 (by omega) (by omega) (by omega) (gw_al0 at388_1410 (gw_il4 at388_1411 (gw_const at388_1413 (gw_iadd at388_1414 (gw_ia at388_1415 (Or.inr hL.1) hL.2 (by omega) (by omega) (by omega) (gw_al3 at388_1416 (?_))))))))))))
  refine gw_call4 at388_1417 h1 (by omega) (Nat.le_of_ble_eq_true rfl) (fun o M1 q => ?_)
  obtain ⟨T1, c1, J1, ⟨v, hR, rfl, rfl⟩ | ⟨X, hR, rfl, rfl⟩⟩ := q
  · obtain ⟨s, e⟩ := h2 v T1 c1 J1 hR
    show gw _ _ _ _ _ (gi 0 :: _) _ _
    refine gw_is5 at388_1420 (h := ?_)
    refine gw_al2 at388_1422 (gw_al0 at388_1423 (gw_il4 at388_1424 (gw_const at388_1426 (gw_iadd at388_1427 (gw_ia at388_1428 (Or.inr s.1.1) s.1.2 (by omega) (by omega) (by omega) (gw_al0 at388_1429 (gw_il4 at388_1430 (gw_const at388_1432 (gw_iadd at388_1433 (gw_ia at388_1434 (Or.inr s.1.1) s.1.2 (by omega) (by omega) (by omega) (?_)))))))))))
    rw [s.2]
    refine gw_call3 at388_1435 e (by omega) (Nat.le_of_ble_eq_true rfl) (fun o M1 q2 => ?_)
    obtain ⟨T2, c2, J2, rfl, rfl, hE, hv2, hvr⟩ := q2
    have hE0 := hE
    obtain ⟨⟨g1, g2⟩, g3, g4, -⟩ := hE
    show gw _ _ _ _ _ (gi v :: _) _ _
    refine gw_is6 at388_1438 (h := ?_)
    refine gw_al2 at388_1440 (gw_callP1 at388_1441 (m_thrown g1 g2) (by omega) (Nat.le_of_ble_eq_true rfl) ?_)
    rw [g3]
    refine gw_il5 at388_1444 (gw_ceq at388_1446 (by decide) (by decide) (fun _ => ?_) (fun q => absurd rfl q))
    refine gw_il5 at388_1451 (gw_zne at388_1453 (by decide) (fun q => absurd rfl q) (fun _ => ?_))
    refine gw_al3 at388_1456 (gw_const at388_1457 (gw_la at388_1458 g4.1 g4.2 (by decide) (by decide) (by decide) ?_))
    rw [hv2]
    refine gw_il6 at388_1459 (gw_i2l at388_1461 hvr (gw_lceq at388_1462 at388_1463 (by omega) (by omega) (fun _ => ?_) (fun q => absurd rfl q)))
    exact gw_goto at388_1468 (hend _ T2 c2 J2 _ _ hE0 rfl rfl)
  · obtain ⟨hk, s, e⟩ := h3 X T1 c1 J1 hR
    show gw _ _ _ _ _ (gi (hm X) :: _) _ _
    refine gw_is5 at388_1420 (h := ?_)
    refine gw_al2 at388_1422 (gw_al0 at388_1423 (gw_il4 at388_1424 (gw_const at388_1426 (gw_iadd at388_1427 (gw_ia at388_1428 (Or.inr s.1.1) s.1.2 (by omega) (by omega) (by omega) (gw_al0 at388_1429 (gw_il4 at388_1430 (gw_const at388_1432 (gw_iadd at388_1433 (gw_ia at388_1434 (Or.inr s.1.1) s.1.2 (by omega) (by omega) (by omega) (?_)))))))))))
    rw [s.2]
    refine gw_call3 at388_1435 e (by omega) (Nat.le_of_ble_eq_true rfl) (fun o M1 q2 => ?_)
    obtain ⟨b, T2, c2, J2, rfl, rfl, hE⟩ := q2
    have hE0 := hE
    obtain ⟨⟨g1, g2⟩, g3, g4, -⟩ := hE
    show gw _ _ _ _ _ (gi b :: _) _ _
    refine gw_is6 at388_1438 (h := ?_)
    refine gw_al2 at388_1440 (gw_callP1 at388_1441 (m_thrown g1 g2) (by omega) (Nat.le_of_ble_eq_true rfl) ?_)
    rw [g3]
    refine gw_il5 at388_1444 (gw_ceq at388_1446 (by omega) (by omega) (fun _ => ?_) (fun q => absurd rfl q))
    refine gw_il5 at388_1451 (gw_zne at388_1453 (by omega) (fun _ => ?_) (fun q => absurd q (by omega)))
    exact gw_goto at388_1468 (hend _ T2 c2 J2 _ _ hE0 rfl rfl)
set_option maxHeartbeats 1000000 in
theorem lc_24 {d HW HM : Nat} {T : gT} {c J : gC} {L : Nat} {i : Int} {E : gT → gC → gC → Prop} {Q : am_O → am_M → Prop} {hm : Nat → Int} {R : (Int ⊕ Nat) → gT → gC → gC → Prop} {u5 u6 : Value} (hHW : HW + 1 ≤ d) (hHM : HM + 1 ≤ d) (hL : (T.1 800000).1 = 41 ∧ (T.1 800000).2.1 = L) (hL2 : L ≤ 3072) (hi : 0 ≤ i ∧ i + 6 ≤ (L : Int)) (hu : am_nl u5 = true) (hv : am_nl u6 = true) (h1 : gE 5 358 HW [.ref 500000, gi (c 800000 (i + 1)), .ref 500002] (gm T c J) (gW hm R)) (h2 : ∀ v T1 c1 J1, R (.inl v) T1 c1 J1 → SCP L c T1 c1 ∧ gE 5 246 HM [.ref 500001, gi (c 800000 (i + 1))] (gm T1 c1 (gu J1 500002 0 v)) (fun o M1 => ∃ T2 c2 J2, o = .inl (some (gi v)) ∧ M1 = gm T2 c2 J2 ∧ ESP E 0 T2 c2 J2 ∧ J2 500002 0 = v ∧ -2147483648 ≤ v ∧ v < 2147483648)) (h3 : ∀ X T1 c1 J1, R (.inr X) T1 c1 J1 → (1 ≤ hm X ∧ hm X ≤ 3) ∧ SCP L c (gTe T1) (gz c1 (700000 + T1.2.1 7)) ∧ gE 5 246 HM [.ref 500001, gi (c 800000 (i + 1))] (gm (gTe T1) (gz c1 (700000 + T1.2.1 7)) (gz J1 (700000 + T1.2.1 7))) (fun o M1 => ∃ b T2 c2 J2, o = .inl (some (gi b)) ∧ M1 = gm T2 c2 J2 ∧ ESP E (hm X) T2 c2 J2)) (hend : ∀ z T2 c2 J2 (k b : Value), ESP E z T2 c2 J2 → am_nl k = true → am_nl b = true → gw d 5 388 3366 [.ref 800000, .ref 500000, .ref 500001, .ref 500002, gi i, k, b] [] (gm T2 c2 J2) Q) : gw d 5 388 1471 [.ref 800000, .ref 500000, .ref 500001, .ref 500002, gi i, u5, u6] [] (gm T c J) Q := by
  refine gw_al1 at388_1471 (gw_al0 at388_1472 (gw_il4 at388_1473 (gw_const at388_1475 (gw_iadd at388_1476 (gw_ia at388_1477 (Or.inr hL.1) hL.2 (by omega) (by omega) (by omega) (gw_al3 at388_1478 (?_)))))))
  refine gw_call3 at388_1479 h1 (by omega) (Nat.le_of_ble_eq_true rfl) (fun o M1 q => ?_)
  obtain ⟨T1, c1, J1, ⟨v, hR, rfl, rfl⟩ | ⟨X, hR, rfl, rfl⟩⟩ := q
  · obtain ⟨s, e⟩ := h2 v T1 c1 J1 hR
    show gw _ _ _ _ _ (gi 0 :: _) _ _
    refine gw_is5 at388_1482 (h := ?_)
    refine gw_al2 at388_1484 (gw_al0 at388_1485 (gw_il4 at388_1486 (gw_const at388_1488 (gw_iadd at388_1489 (gw_ia at388_1490 (Or.inr s.1.1) s.1.2 (by omega) (by omega) (by omega) (?_))))))
    rw [s.2]
    refine gw_call2 at388_1491 e (by omega) (Nat.le_of_ble_eq_true rfl) (fun o M1 q2 => ?_)
    obtain ⟨T2, c2, J2, rfl, rfl, hE, hv2, hvr⟩ := q2
    have hE0 := hE
    obtain ⟨⟨g1, g2⟩, g3, g4, -⟩ := hE
    show gw _ _ _ _ _ (gi v :: _) _ _
    refine gw_is6 at388_1494 (h := ?_)
    refine gw_al2 at388_1496 (gw_callP1 at388_1497 (m_thrown g1 g2) (by omega) (Nat.le_of_ble_eq_true rfl) ?_)
    rw [g3]
    refine gw_il5 at388_1500 (gw_ceq at388_1502 (by decide) (by decide) (fun _ => ?_) (fun q => absurd rfl q))
    refine gw_il5 at388_1507 (gw_zne at388_1509 (by decide) (fun q => absurd rfl q) (fun _ => ?_))
    refine gw_al3 at388_1512 (gw_const at388_1513 (gw_la at388_1514 g4.1 g4.2 (by decide) (by decide) (by decide) ?_))
    rw [hv2]
    refine gw_il6 at388_1515 (gw_i2l at388_1517 hvr (gw_lceq at388_1518 at388_1519 (by omega) (by omega) (fun _ => ?_) (fun q => absurd rfl q)))
    exact gw_goto at388_1524 (hend _ T2 c2 J2 _ _ hE0 rfl rfl)
  · obtain ⟨hk, s, e⟩ := h3 X T1 c1 J1 hR
    show gw _ _ _ _ _ (gi (hm X) :: _) _ _
    refine gw_is5 at388_1482 (h := ?_)
    refine gw_al2 at388_1484 (gw_al0 at388_1485 (gw_il4 at388_1486 (gw_const at388_1488 (gw_iadd at388_1489 (gw_ia at388_1490 (Or.inr s.1.1) s.1.2 (by omega) (by omega) (by omega) (?_))))))
    rw [s.2]
    refine gw_call2 at388_1491 e (by omega) (Nat.le_of_ble_eq_true rfl) (fun o M1 q2 => ?_)
    obtain ⟨b, T2, c2, J2, rfl, rfl, hE⟩ := q2
    have hE0 := hE
    obtain ⟨⟨g1, g2⟩, g3, g4, -⟩ := hE
    show gw _ _ _ _ _ (gi b :: _) _ _
    refine gw_is6 at388_1494 (h := ?_)
    refine gw_al2 at388_1496 (gw_callP1 at388_1497 (m_thrown g1 g2) (by omega) (Nat.le_of_ble_eq_true rfl) ?_)
    rw [g3]
    refine gw_il5 at388_1500 (gw_ceq at388_1502 (by omega) (by omega) (fun _ => ?_) (fun q => absurd rfl q))
    refine gw_il5 at388_1507 (gw_zne at388_1509 (by omega) (fun _ => ?_) (fun q => absurd q (by omega)))
    exact gw_goto at388_1524 (hend _ T2 c2 J2 _ _ hE0 rfl rfl)
set_option maxHeartbeats 1000000 in
theorem lc_25 {d HW HM : Nat} {T : gT} {c J : gC} {L : Nat} {i : Int} {E : gT → gC → gC → Prop} {Q : am_O → am_M → Prop} {hm : Nat → Int} {R : (Int ⊕ Nat) → gT → gC → gC → Prop} {u5 u6 : Value} (hHW : HW + 1 ≤ d) (hHM : HM + 1 ≤ d) (hL : (T.1 800000).1 = 41 ∧ (T.1 800000).2.1 = L) (hL2 : L ≤ 3072) (hi : 0 ≤ i ∧ i + 6 ≤ (L : Int)) (hu : am_nl u5 = true) (hv : am_nl u6 = true) (h1 : gE 5 359 HW [.ref 500000, gi (c 800000 (i + 1)), .ref 500002] (gm T c J) (gW hm R)) (h2 : ∀ v T1 c1 J1, R (.inl v) T1 c1 J1 → SCP L c T1 c1 ∧ gE 5 245 HM [.ref 500001, gi (c 800000 (i + 1))] (gm T1 c1 (gu J1 500002 0 v)) (fun o M1 => ∃ T2 c2 J2, o = .inl (some (gi v)) ∧ M1 = gm T2 c2 J2 ∧ ESP E 0 T2 c2 J2 ∧ J2 500002 0 = v ∧ -2147483648 ≤ v ∧ v < 2147483648)) (h3 : ∀ X T1 c1 J1, R (.inr X) T1 c1 J1 → (1 ≤ hm X ∧ hm X ≤ 3) ∧ SCP L c (gTe T1) (gz c1 (700000 + T1.2.1 7)) ∧ gE 5 245 HM [.ref 500001, gi (c 800000 (i + 1))] (gm (gTe T1) (gz c1 (700000 + T1.2.1 7)) (gz J1 (700000 + T1.2.1 7))) (fun o M1 => ∃ b T2 c2 J2, o = .inl (some (gi b)) ∧ M1 = gm T2 c2 J2 ∧ ESP E (hm X) T2 c2 J2)) (hend : ∀ z T2 c2 J2 (k b : Value), ESP E z T2 c2 J2 → am_nl k = true → am_nl b = true → gw d 5 388 3366 [.ref 800000, .ref 500000, .ref 500001, .ref 500002, gi i, k, b] [] (gm T2 c2 J2) Q) : gw d 5 388 1527 [.ref 800000, .ref 500000, .ref 500001, .ref 500002, gi i, u5, u6] [] (gm T c J) Q := by
  refine gw_al1 at388_1527 (gw_al0 at388_1528 (gw_il4 at388_1529 (gw_const at388_1531 (gw_iadd at388_1532 (gw_ia at388_1533 (Or.inr hL.1) hL.2 (by omega) (by omega) (by omega) (gw_al3 at388_1534 (?_)))))))
  refine gw_call3 at388_1535 h1 (by omega) (Nat.le_of_ble_eq_true rfl) (fun o M1 q => ?_)
  obtain ⟨T1, c1, J1, ⟨v, hR, rfl, rfl⟩ | ⟨X, hR, rfl, rfl⟩⟩ := q
  · obtain ⟨s, e⟩ := h2 v T1 c1 J1 hR
    show gw _ _ _ _ _ (gi 0 :: _) _ _
    refine gw_is5 at388_1538 (h := ?_)
    refine gw_al2 at388_1540 (gw_al0 at388_1541 (gw_il4 at388_1542 (gw_const at388_1544 (gw_iadd at388_1545 (gw_ia at388_1546 (Or.inr s.1.1) s.1.2 (by omega) (by omega) (by omega) (?_))))))
    rw [s.2]
    refine gw_call2 at388_1547 e (by omega) (Nat.le_of_ble_eq_true rfl) (fun o M1 q2 => ?_)
    obtain ⟨T2, c2, J2, rfl, rfl, hE, hv2, hvr⟩ := q2
    have hE0 := hE
    obtain ⟨⟨g1, g2⟩, g3, g4, -⟩ := hE
    show gw _ _ _ _ _ (gi v :: _) _ _
    refine gw_is6 at388_1550 (h := ?_)
    refine gw_al2 at388_1552 (gw_callP1 at388_1553 (m_thrown g1 g2) (by omega) (Nat.le_of_ble_eq_true rfl) ?_)
    rw [g3]
    refine gw_il5 at388_1556 (gw_ceq at388_1558 (by decide) (by decide) (fun _ => ?_) (fun q => absurd rfl q))
    refine gw_il5 at388_1563 (gw_zne at388_1565 (by decide) (fun q => absurd rfl q) (fun _ => ?_))
    refine gw_al3 at388_1568 (gw_const at388_1569 (gw_la at388_1570 g4.1 g4.2 (by decide) (by decide) (by decide) ?_))
    rw [hv2]
    refine gw_il6 at388_1571 (gw_i2l at388_1573 hvr (gw_lceq at388_1574 at388_1575 (by omega) (by omega) (fun _ => ?_) (fun q => absurd rfl q)))
    exact gw_goto at388_1580 (hend _ T2 c2 J2 _ _ hE0 rfl rfl)
  · obtain ⟨hk, s, e⟩ := h3 X T1 c1 J1 hR
    show gw _ _ _ _ _ (gi (hm X) :: _) _ _
    refine gw_is5 at388_1538 (h := ?_)
    refine gw_al2 at388_1540 (gw_al0 at388_1541 (gw_il4 at388_1542 (gw_const at388_1544 (gw_iadd at388_1545 (gw_ia at388_1546 (Or.inr s.1.1) s.1.2 (by omega) (by omega) (by omega) (?_))))))
    rw [s.2]
    refine gw_call2 at388_1547 e (by omega) (Nat.le_of_ble_eq_true rfl) (fun o M1 q2 => ?_)
    obtain ⟨b, T2, c2, J2, rfl, rfl, hE⟩ := q2
    have hE0 := hE
    obtain ⟨⟨g1, g2⟩, g3, g4, -⟩ := hE
    show gw _ _ _ _ _ (gi b :: _) _ _
    refine gw_is6 at388_1550 (h := ?_)
    refine gw_al2 at388_1552 (gw_callP1 at388_1553 (m_thrown g1 g2) (by omega) (Nat.le_of_ble_eq_true rfl) ?_)
    rw [g3]
    refine gw_il5 at388_1556 (gw_ceq at388_1558 (by omega) (by omega) (fun _ => ?_) (fun q => absurd rfl q))
    refine gw_il5 at388_1563 (gw_zne at388_1565 (by omega) (fun _ => ?_) (fun q => absurd q (by omega)))
    exact gw_goto at388_1580 (hend _ T2 c2 J2 _ _ hE0 rfl rfl)
set_option maxHeartbeats 1000000 in
theorem lc_26 {d HW HM : Nat} {T : gT} {c J : gC} {i : Int} {E : gT → gC → gC → Prop} {Q : am_O → am_M → Prop} {R : Int → gT → gC → gC → Prop} {u5 u6 : Value} (hHW : HW + 1 ≤ d) (hHM : HM + 1 ≤ d) (hu : am_nl u5 = true) (hv : am_nl u6 = true) (h1 : gE 5 130 HW [.ref 500000] (gm T c J) (fun o M1 => ∃ v T1 c1 J1, o = .inl (some (gi v)) ∧ M1 = gm T1 c1 J1 ∧ R v T1 c1 J1)) (h2 : ∀ v T1 c1 J1, R v T1 c1 J1 → (-2147483648 ≤ v ∧ v < 2147483648) ∧ gE 5 251 HM [.ref 500001] (gm T1 c1 J1) (fun o M1 => ∃ z T2 c2 J2, o = .inl (some (gi v)) ∧ M1 = gm T2 c2 J2 ∧ ESP E z T2 c2 J2)) (hend : ∀ z T2 c2 J2 (k b : Value), ESP E z T2 c2 J2 → am_nl k = true → am_nl b = true → gw d 5 388 3366 [.ref 800000, .ref 500000, .ref 500001, .ref 500002, gi i, k, b] [] (gm T2 c2 J2) Q) : gw d 5 388 1583 [.ref 800000, .ref 500000, .ref 500001, .ref 500002, gi i, u5, u6] [] (gm T c J) Q := by
  refine gw_al1 at388_1583 (gw_call1 at388_1584 h1 (by omega) (Nat.le_of_ble_eq_true rfl) (fun o M1 q => ?_))
  obtain ⟨v, T1, c1, J1, rfl, rfl, hR⟩ := q
  obtain ⟨hr, e⟩ := h2 v T1 c1 J1 hR
  show gw _ _ _ _ _ (gi v :: _) _ _
  refine gw_al2 at388_1587 (gw_call1 at388_1588 e (by omega) (Nat.le_of_ble_eq_true rfl) (fun o M1 q2 => ?_))
  obtain ⟨z, T2, c2, J2, rfl, rfl, hE⟩ := q2
  show gw _ _ _ _ _ (gi v :: _) _ _
  exact gw_ceq at388_1591 hr hr (fun _ => hend _ T2 c2 J2 _ _ hE hu hv) (fun q => absurd rfl q)
set_option maxHeartbeats 1000000 in
theorem lc_27 {d HW HM : Nat} {T : gT} {c J : gC} {i : Int} {E : gT → gC → gC → Prop} {Q : am_O → am_M → Prop} {R : Int → gT → gC → gC → Prop} {u5 u6 : Value} (hHW : HW + 1 ≤ d) (hHM : HM + 1 ≤ d) (hu : am_nl u5 = true) (hv : am_nl u6 = true) (h1 : gE 5 142 HW [.ref 500000] (gm T c J) (fun o M1 => ∃ v T1 c1 J1, o = .inl (some (gi v)) ∧ M1 = gm T1 c1 J1 ∧ R v T1 c1 J1)) (h2 : ∀ v T1 c1 J1, R v T1 c1 J1 → (-2147483648 ≤ v ∧ v < 2147483648) ∧ gE 5 252 HM [.ref 500001] (gm T1 c1 J1) (fun o M1 => ∃ z T2 c2 J2, o = .inl (some (gi v)) ∧ M1 = gm T2 c2 J2 ∧ ESP E z T2 c2 J2)) (hend : ∀ z T2 c2 J2 (k b : Value), ESP E z T2 c2 J2 → am_nl k = true → am_nl b = true → gw d 5 388 3366 [.ref 800000, .ref 500000, .ref 500001, .ref 500002, gi i, k, b] [] (gm T2 c2 J2) Q) : gw d 5 388 1596 [.ref 800000, .ref 500000, .ref 500001, .ref 500002, gi i, u5, u6] [] (gm T c J) Q := by
  refine gw_al1 at388_1596 (gw_call1 at388_1597 h1 (by omega) (Nat.le_of_ble_eq_true rfl) (fun o M1 q => ?_))
  obtain ⟨v, T1, c1, J1, rfl, rfl, hR⟩ := q
  obtain ⟨hr, e⟩ := h2 v T1 c1 J1 hR
  show gw _ _ _ _ _ (gi v :: _) _ _
  refine gw_al2 at388_1600 (gw_call1 at388_1601 e (by omega) (Nat.le_of_ble_eq_true rfl) (fun o M1 q2 => ?_))
  obtain ⟨z, T2, c2, J2, rfl, rfl, hE⟩ := q2
  show gw _ _ _ _ _ (gi v :: _) _ _
  exact gw_ceq at388_1604 hr hr (fun _ => hend _ T2 c2 J2 _ _ hE hu hv) (fun q => absurd rfl q)
set_option maxHeartbeats 1000000 in
theorem lc_28 {d HW HM : Nat} {T : gT} {c J : gC} {i : Int} {E : gT → gC → gC → Prop} {Q : am_O → am_M → Prop} {R : Int → gT → gC → gC → Prop} {u5 u6 : Value} (hHW : HW + 1 ≤ d) (hHM : HM + 1 ≤ d) (hu : am_nl u5 = true) (hv : am_nl u6 = true) (h1 : gE 5 143 HW [.ref 500000] (gm T c J) (fun o M1 => ∃ v T1 c1 J1, o = .inl (some (gi v)) ∧ M1 = gm T1 c1 J1 ∧ R v T1 c1 J1)) (h2 : ∀ v T1 c1 J1, R v T1 c1 J1 → (-2147483648 ≤ v ∧ v < 2147483648) ∧ gE 5 253 HM [.ref 500001] (gm T1 c1 J1) (fun o M1 => ∃ z T2 c2 J2, o = .inl (some (gi v)) ∧ M1 = gm T2 c2 J2 ∧ ESP E z T2 c2 J2)) (hend : ∀ z T2 c2 J2 (k b : Value), ESP E z T2 c2 J2 → am_nl k = true → am_nl b = true → gw d 5 388 3366 [.ref 800000, .ref 500000, .ref 500001, .ref 500002, gi i, k, b] [] (gm T2 c2 J2) Q) : gw d 5 388 1609 [.ref 800000, .ref 500000, .ref 500001, .ref 500002, gi i, u5, u6] [] (gm T c J) Q := by
  refine gw_al1 at388_1609 (gw_call1 at388_1610 h1 (by omega) (Nat.le_of_ble_eq_true rfl) (fun o M1 q => ?_))
  obtain ⟨v, T1, c1, J1, rfl, rfl, hR⟩ := q
  obtain ⟨hr, e⟩ := h2 v T1 c1 J1 hR
  show gw _ _ _ _ _ (gi v :: _) _ _
  refine gw_al2 at388_1613 (gw_call1 at388_1614 e (by omega) (Nat.le_of_ble_eq_true rfl) (fun o M1 q2 => ?_))
  obtain ⟨z, T2, c2, J2, rfl, rfl, hE⟩ := q2
  show gw _ _ _ _ _ (gi v :: _) _ _
  exact gw_ceq at388_1617 hr hr (fun _ => hend _ T2 c2 J2 _ _ hE hu hv) (fun q => absurd rfl q)
set_option maxHeartbeats 1000000 in
theorem lc_29 {d HW HM : Nat} {T : gT} {c J : gC} {i : Int} {E : gT → gC → gC → Prop} {Q : am_O → am_M → Prop} {R : Int → gT → gC → gC → Prop} {u5 u6 : Value} (hHW : HW + 1 ≤ d) (hHM : HM + 1 ≤ d) (hu : am_nl u5 = true) (hv : am_nl u6 = true) (h1 : gE 5 144 HW [.ref 500000] (gm T c J) (fun o M1 => ∃ v T1 c1 J1, o = .inl (some (gi v)) ∧ M1 = gm T1 c1 J1 ∧ R v T1 c1 J1)) (h2 : ∀ v T1 c1 J1, R v T1 c1 J1 → (-2147483648 ≤ v ∧ v < 2147483648) ∧ gE 5 254 HM [.ref 500001] (gm T1 c1 J1) (fun o M1 => ∃ z T2 c2 J2, o = .inl (some (gi v)) ∧ M1 = gm T2 c2 J2 ∧ ESP E z T2 c2 J2)) (hend : ∀ z T2 c2 J2 (k b : Value), ESP E z T2 c2 J2 → am_nl k = true → am_nl b = true → gw d 5 388 3366 [.ref 800000, .ref 500000, .ref 500001, .ref 500002, gi i, k, b] [] (gm T2 c2 J2) Q) : gw d 5 388 1622 [.ref 800000, .ref 500000, .ref 500001, .ref 500002, gi i, u5, u6] [] (gm T c J) Q := by
  refine gw_al1 at388_1622 (gw_call1 at388_1623 h1 (by omega) (Nat.le_of_ble_eq_true rfl) (fun o M1 q => ?_))
  obtain ⟨v, T1, c1, J1, rfl, rfl, hR⟩ := q
  obtain ⟨hr, e⟩ := h2 v T1 c1 J1 hR
  show gw _ _ _ _ _ (gi v :: _) _ _
  refine gw_al2 at388_1626 (gw_call1 at388_1627 e (by omega) (Nat.le_of_ble_eq_true rfl) (fun o M1 q2 => ?_))
  obtain ⟨z, T2, c2, J2, rfl, rfl, hE⟩ := q2
  show gw _ _ _ _ _ (gi v :: _) _ _
  exact gw_ceq at388_1630 hr hr (fun _ => hend _ T2 c2 J2 _ _ hE hu hv) (fun q => absurd rfl q)
set_option maxHeartbeats 1000000 in
theorem lc_30 {d HW HM : Nat} {T : gT} {c J : gC} {i : Int} {E : gT → gC → gC → Prop} {Q : am_O → am_M → Prop} {R : Int → gT → gC → gC → Prop} {u5 u6 : Value} (hHW : HW + 1 ≤ d) (hHM : HM + 1 ≤ d) (hu : am_nl u5 = true) (hv : am_nl u6 = true) (h1 : gE 5 131 HW [.ref 500000] (gm T c J) (fun o M1 => ∃ v T1 c1 J1, o = .inl (some (gi v)) ∧ M1 = gm T1 c1 J1 ∧ R v T1 c1 J1)) (h2 : ∀ v T1 c1 J1, R v T1 c1 J1 → (-2147483648 ≤ v ∧ v < 2147483648) ∧ gE 5 255 HM [.ref 500001] (gm T1 c1 J1) (fun o M1 => ∃ z T2 c2 J2, o = .inl (some (gi v)) ∧ M1 = gm T2 c2 J2 ∧ ESP E z T2 c2 J2)) (hend : ∀ z T2 c2 J2 (k b : Value), ESP E z T2 c2 J2 → am_nl k = true → am_nl b = true → gw d 5 388 3366 [.ref 800000, .ref 500000, .ref 500001, .ref 500002, gi i, k, b] [] (gm T2 c2 J2) Q) : gw d 5 388 1635 [.ref 800000, .ref 500000, .ref 500001, .ref 500002, gi i, u5, u6] [] (gm T c J) Q := by
  refine gw_al1 at388_1635 (gw_call1 at388_1636 h1 (by omega) (Nat.le_of_ble_eq_true rfl) (fun o M1 q => ?_))
  obtain ⟨v, T1, c1, J1, rfl, rfl, hR⟩ := q
  obtain ⟨hr, e⟩ := h2 v T1 c1 J1 hR
  show gw _ _ _ _ _ (gi v :: _) _ _
  refine gw_al2 at388_1639 (gw_call1 at388_1640 e (by omega) (Nat.le_of_ble_eq_true rfl) (fun o M1 q2 => ?_))
  obtain ⟨z, T2, c2, J2, rfl, rfl, hE⟩ := q2
  show gw _ _ _ _ _ (gi v :: _) _ _
  exact gw_ceq at388_1643 hr hr (fun _ => hend _ T2 c2 J2 _ _ hE hu hv) (fun q => absurd rfl q)
set_option maxHeartbeats 1000000 in
theorem lc_31 {d HW HM : Nat} {T : gT} {c J : gC} {L : Nat} {i : Int} {E : gT → gC → gC → Prop} {Q : am_O → am_M → Prop} {hm : Nat → Int} {R : (Int ⊕ Nat) → gT → gC → gC → Prop} {u5 u6 : Value} (hHW : HW + 1 ≤ d) (hHM : HM + 1 ≤ d) (hL : (T.1 800000).1 = 41 ∧ (T.1 800000).2.1 = L) (hL2 : L ≤ 3072) (hi : 0 ≤ i ∧ i + 6 ≤ (L : Int)) (hu : am_nl u5 = true) (hv : am_nl u6 = true) (h1 : gE 5 360 HW [.ref 500000, gi (c 800000 (i + 1)), .ref 500002] (gm T c J) (gW hm R)) (h2 : ∀ v T1 c1 J1, R (.inl v) T1 c1 J1 → SCP L c T1 c1 ∧ gE 5 256 HM [.ref 500001, gi (c 800000 (i + 1))] (gm T1 c1 (gu J1 500002 0 v)) (fun o M1 => ∃ T2 c2 J2, o = .inl (some (gi v)) ∧ M1 = gm T2 c2 J2 ∧ ESP E 0 T2 c2 J2 ∧ J2 500002 0 = v ∧ -2147483648 ≤ v ∧ v < 2147483648)) (h3 : ∀ X T1 c1 J1, R (.inr X) T1 c1 J1 → (1 ≤ hm X ∧ hm X ≤ 3) ∧ SCP L c (gTe T1) (gz c1 (700000 + T1.2.1 7)) ∧ gE 5 256 HM [.ref 500001, gi (c 800000 (i + 1))] (gm (gTe T1) (gz c1 (700000 + T1.2.1 7)) (gz J1 (700000 + T1.2.1 7))) (fun o M1 => ∃ b T2 c2 J2, o = .inl (some (gi b)) ∧ M1 = gm T2 c2 J2 ∧ ESP E (hm X) T2 c2 J2)) (hend : ∀ z T2 c2 J2 (k b : Value), ESP E z T2 c2 J2 → am_nl k = true → am_nl b = true → gw d 5 388 3366 [.ref 800000, .ref 500000, .ref 500001, .ref 500002, gi i, k, b] [] (gm T2 c2 J2) Q) : gw d 5 388 1648 [.ref 800000, .ref 500000, .ref 500001, .ref 500002, gi i, u5, u6] [] (gm T c J) Q := by
  refine gw_al1 at388_1648 (gw_al0 at388_1649 (gw_il4 at388_1650 (gw_const at388_1652 (gw_iadd at388_1653 (gw_ia at388_1654 (Or.inr hL.1) hL.2 (by omega) (by omega) (by omega) (gw_al3 at388_1655 (?_)))))))
  refine gw_call3 at388_1656 h1 (by omega) (Nat.le_of_ble_eq_true rfl) (fun o M1 q => ?_)
  obtain ⟨T1, c1, J1, ⟨v, hR, rfl, rfl⟩ | ⟨X, hR, rfl, rfl⟩⟩ := q
  · obtain ⟨s, e⟩ := h2 v T1 c1 J1 hR
    show gw _ _ _ _ _ (gi 0 :: _) _ _
    refine gw_is5 at388_1659 (h := ?_)
    refine gw_al2 at388_1661 (gw_al0 at388_1662 (gw_il4 at388_1663 (gw_const at388_1665 (gw_iadd at388_1666 (gw_ia at388_1667 (Or.inr s.1.1) s.1.2 (by omega) (by omega) (by omega) (?_))))))
    rw [s.2]
    refine gw_call2 at388_1668 e (by omega) (Nat.le_of_ble_eq_true rfl) (fun o M1 q2 => ?_)
    obtain ⟨T2, c2, J2, rfl, rfl, hE, hv2, hvr⟩ := q2
    have hE0 := hE
    obtain ⟨⟨g1, g2⟩, g3, g4, -⟩ := hE
    show gw _ _ _ _ _ (gi v :: _) _ _
    refine gw_is6 at388_1671 (h := ?_)
    refine gw_al2 at388_1673 (gw_callP1 at388_1674 (m_thrown g1 g2) (by omega) (Nat.le_of_ble_eq_true rfl) ?_)
    rw [g3]
    refine gw_il5 at388_1677 (gw_ceq at388_1679 (by decide) (by decide) (fun _ => ?_) (fun q => absurd rfl q))
    refine gw_il5 at388_1684 (gw_zne at388_1686 (by decide) (fun q => absurd rfl q) (fun _ => ?_))
    refine gw_al3 at388_1689 (gw_const at388_1690 (gw_la at388_1691 g4.1 g4.2 (by decide) (by decide) (by decide) ?_))
    rw [hv2]
    refine gw_il6 at388_1692 (gw_i2l at388_1694 hvr (gw_lceq at388_1695 at388_1696 (by omega) (by omega) (fun _ => ?_) (fun q => absurd rfl q)))
    exact gw_goto at388_1701 (hend _ T2 c2 J2 _ _ hE0 rfl rfl)
  · obtain ⟨hk, s, e⟩ := h3 X T1 c1 J1 hR
    show gw _ _ _ _ _ (gi (hm X) :: _) _ _
    refine gw_is5 at388_1659 (h := ?_)
    refine gw_al2 at388_1661 (gw_al0 at388_1662 (gw_il4 at388_1663 (gw_const at388_1665 (gw_iadd at388_1666 (gw_ia at388_1667 (Or.inr s.1.1) s.1.2 (by omega) (by omega) (by omega) (?_))))))
    rw [s.2]
    refine gw_call2 at388_1668 e (by omega) (Nat.le_of_ble_eq_true rfl) (fun o M1 q2 => ?_)
    obtain ⟨b, T2, c2, J2, rfl, rfl, hE⟩ := q2
    have hE0 := hE
    obtain ⟨⟨g1, g2⟩, g3, g4, -⟩ := hE
    show gw _ _ _ _ _ (gi b :: _) _ _
    refine gw_is6 at388_1671 (h := ?_)
    refine gw_al2 at388_1673 (gw_callP1 at388_1674 (m_thrown g1 g2) (by omega) (Nat.le_of_ble_eq_true rfl) ?_)
    rw [g3]
    refine gw_il5 at388_1677 (gw_ceq at388_1679 (by omega) (by omega) (fun _ => ?_) (fun q => absurd rfl q))
    refine gw_il5 at388_1684 (gw_zne at388_1686 (by omega) (fun _ => ?_) (fun q => absurd q (by omega)))
    exact gw_goto at388_1701 (hend _ T2 c2 J2 _ _ hE0 rfl rfl)
set_option maxHeartbeats 1000000 in
theorem lc_32 {d HW HM : Nat} {T : gT} {c J : gC} {L : Nat} {i : Int} {E : gT → gC → gC → Prop} {Q : am_O → am_M → Prop} {hm : Nat → Int} {R : (Int ⊕ Nat) → gT → gC → gC → Prop} {u5 u6 : Value} (hHW : HW + 1 ≤ d) (hHM : HM + 1 ≤ d) (hL : (T.1 800000).1 = 41 ∧ (T.1 800000).2.1 = L) (hL2 : L ≤ 3072) (hi : 0 ≤ i ∧ i + 6 ≤ (L : Int)) (hu : am_nl u5 = true) (hv : am_nl u6 = true) (h1 : gE 5 361 HW [.ref 500000, gi (c 800000 (i + 1)), .ref 500002] (gm T c J) (gW hm R)) (h2 : ∀ v T1 c1 J1, R (.inl v) T1 c1 J1 → SCP L c T1 c1 ∧ gE 5 257 HM [.ref 500001, gi (c 800000 (i + 1))] (gm T1 c1 (gu J1 500002 0 v)) (fun o M1 => ∃ T2 c2 J2, o = .inl (some (gi v)) ∧ M1 = gm T2 c2 J2 ∧ ESP E 0 T2 c2 J2 ∧ J2 500002 0 = v ∧ -2147483648 ≤ v ∧ v < 2147483648)) (h3 : ∀ X T1 c1 J1, R (.inr X) T1 c1 J1 → (1 ≤ hm X ∧ hm X ≤ 3) ∧ SCP L c (gTe T1) (gz c1 (700000 + T1.2.1 7)) ∧ gE 5 257 HM [.ref 500001, gi (c 800000 (i + 1))] (gm (gTe T1) (gz c1 (700000 + T1.2.1 7)) (gz J1 (700000 + T1.2.1 7))) (fun o M1 => ∃ b T2 c2 J2, o = .inl (some (gi b)) ∧ M1 = gm T2 c2 J2 ∧ ESP E (hm X) T2 c2 J2)) (hend : ∀ z T2 c2 J2 (k b : Value), ESP E z T2 c2 J2 → am_nl k = true → am_nl b = true → gw d 5 388 3366 [.ref 800000, .ref 500000, .ref 500001, .ref 500002, gi i, k, b] [] (gm T2 c2 J2) Q) : gw d 5 388 1704 [.ref 800000, .ref 500000, .ref 500001, .ref 500002, gi i, u5, u6] [] (gm T c J) Q := by
  refine gw_al1 at388_1704 (gw_al0 at388_1705 (gw_il4 at388_1706 (gw_const at388_1708 (gw_iadd at388_1709 (gw_ia at388_1710 (Or.inr hL.1) hL.2 (by omega) (by omega) (by omega) (gw_al3 at388_1711 (?_)))))))
  refine gw_call3 at388_1712 h1 (by omega) (Nat.le_of_ble_eq_true rfl) (fun o M1 q => ?_)
  obtain ⟨T1, c1, J1, ⟨v, hR, rfl, rfl⟩ | ⟨X, hR, rfl, rfl⟩⟩ := q
  · obtain ⟨s, e⟩ := h2 v T1 c1 J1 hR
    show gw _ _ _ _ _ (gi 0 :: _) _ _
    refine gw_is5 at388_1715 (h := ?_)
    refine gw_al2 at388_1717 (gw_al0 at388_1718 (gw_il4 at388_1719 (gw_const at388_1721 (gw_iadd at388_1722 (gw_ia at388_1723 (Or.inr s.1.1) s.1.2 (by omega) (by omega) (by omega) (?_))))))
    rw [s.2]
    refine gw_call2 at388_1724 e (by omega) (Nat.le_of_ble_eq_true rfl) (fun o M1 q2 => ?_)
    obtain ⟨T2, c2, J2, rfl, rfl, hE, hv2, hvr⟩ := q2
    have hE0 := hE
    obtain ⟨⟨g1, g2⟩, g3, g4, -⟩ := hE
    show gw _ _ _ _ _ (gi v :: _) _ _
    refine gw_is6 at388_1727 (h := ?_)
    refine gw_al2 at388_1729 (gw_callP1 at388_1730 (m_thrown g1 g2) (by omega) (Nat.le_of_ble_eq_true rfl) ?_)
    rw [g3]
    refine gw_il5 at388_1733 (gw_ceq at388_1735 (by decide) (by decide) (fun _ => ?_) (fun q => absurd rfl q))
    refine gw_il5 at388_1740 (gw_zne at388_1742 (by decide) (fun q => absurd rfl q) (fun _ => ?_))
    refine gw_al3 at388_1745 (gw_const at388_1746 (gw_la at388_1747 g4.1 g4.2 (by decide) (by decide) (by decide) ?_))
    rw [hv2]
    refine gw_il6 at388_1748 (gw_i2l at388_1750 hvr (gw_lceq at388_1751 at388_1752 (by omega) (by omega) (fun _ => ?_) (fun q => absurd rfl q)))
    exact gw_goto at388_1757 (hend _ T2 c2 J2 _ _ hE0 rfl rfl)
  · obtain ⟨hk, s, e⟩ := h3 X T1 c1 J1 hR
    show gw _ _ _ _ _ (gi (hm X) :: _) _ _
    refine gw_is5 at388_1715 (h := ?_)
    refine gw_al2 at388_1717 (gw_al0 at388_1718 (gw_il4 at388_1719 (gw_const at388_1721 (gw_iadd at388_1722 (gw_ia at388_1723 (Or.inr s.1.1) s.1.2 (by omega) (by omega) (by omega) (?_))))))
    rw [s.2]
    refine gw_call2 at388_1724 e (by omega) (Nat.le_of_ble_eq_true rfl) (fun o M1 q2 => ?_)
    obtain ⟨b, T2, c2, J2, rfl, rfl, hE⟩ := q2
    have hE0 := hE
    obtain ⟨⟨g1, g2⟩, g3, g4, -⟩ := hE
    show gw _ _ _ _ _ (gi b :: _) _ _
    refine gw_is6 at388_1727 (h := ?_)
    refine gw_al2 at388_1729 (gw_callP1 at388_1730 (m_thrown g1 g2) (by omega) (Nat.le_of_ble_eq_true rfl) ?_)
    rw [g3]
    refine gw_il5 at388_1733 (gw_ceq at388_1735 (by omega) (by omega) (fun _ => ?_) (fun q => absurd rfl q))
    refine gw_il5 at388_1740 (gw_zne at388_1742 (by omega) (fun _ => ?_) (fun q => absurd q (by omega)))
    exact gw_goto at388_1757 (hend _ T2 c2 J2 _ _ hE0 rfl rfl)
set_option maxHeartbeats 1000000 in
theorem lc_33 {d HW HM : Nat} {T : gT} {c J : gC} {L : Nat} {i : Int} {E : gT → gC → gC → Prop} {Q : am_O → am_M → Prop} {hm : Nat → Int} {R : (Int ⊕ Nat) → gT → gC → gC → Prop} {u5 u6 : Value} (hHW : HW + 1 ≤ d) (hHM : HM + 1 ≤ d) (hL : (T.1 800000).1 = 41 ∧ (T.1 800000).2.1 = L) (hL2 : L ≤ 3072) (hi : 0 ≤ i ∧ i + 6 ≤ (L : Int)) (hu : am_nl u5 = true) (hv : am_nl u6 = true) (h1 : gE 5 362 HW [.ref 500000, gi (c 800000 (i + 1)), .ref 500002] (gm T c J) (gW hm R)) (h2 : ∀ v T1 c1 J1, R (.inl v) T1 c1 J1 → SCP L c T1 c1 ∧ gE 5 260 HM [.ref 500001, gi (c 800000 (i + 1))] (gm T1 c1 (gu J1 500002 0 v)) (fun o M1 => ∃ T2 c2 J2, o = .inl (some (gi v)) ∧ M1 = gm T2 c2 J2 ∧ ESP E 0 T2 c2 J2 ∧ J2 500002 0 = v ∧ -2147483648 ≤ v ∧ v < 2147483648)) (h3 : ∀ X T1 c1 J1, R (.inr X) T1 c1 J1 → (1 ≤ hm X ∧ hm X ≤ 3) ∧ SCP L c (gTe T1) (gz c1 (700000 + T1.2.1 7)) ∧ gE 5 260 HM [.ref 500001, gi (c 800000 (i + 1))] (gm (gTe T1) (gz c1 (700000 + T1.2.1 7)) (gz J1 (700000 + T1.2.1 7))) (fun o M1 => ∃ b T2 c2 J2, o = .inl (some (gi b)) ∧ M1 = gm T2 c2 J2 ∧ ESP E (hm X) T2 c2 J2)) (hend : ∀ z T2 c2 J2 (k b : Value), ESP E z T2 c2 J2 → am_nl k = true → am_nl b = true → gw d 5 388 3366 [.ref 800000, .ref 500000, .ref 500001, .ref 500002, gi i, k, b] [] (gm T2 c2 J2) Q) : gw d 5 388 1760 [.ref 800000, .ref 500000, .ref 500001, .ref 500002, gi i, u5, u6] [] (gm T c J) Q := by
  refine gw_al1 at388_1760 (gw_al0 at388_1761 (gw_il4 at388_1762 (gw_const at388_1764 (gw_iadd at388_1765 (gw_ia at388_1766 (Or.inr hL.1) hL.2 (by omega) (by omega) (by omega) (gw_al3 at388_1767 (?_)))))))
  refine gw_call3 at388_1768 h1 (by omega) (Nat.le_of_ble_eq_true rfl) (fun o M1 q => ?_)
  obtain ⟨T1, c1, J1, ⟨v, hR, rfl, rfl⟩ | ⟨X, hR, rfl, rfl⟩⟩ := q
  · obtain ⟨s, e⟩ := h2 v T1 c1 J1 hR
    show gw _ _ _ _ _ (gi 0 :: _) _ _
    refine gw_is5 at388_1771 (h := ?_)
    refine gw_al2 at388_1773 (gw_al0 at388_1774 (gw_il4 at388_1775 (gw_const at388_1777 (gw_iadd at388_1778 (gw_ia at388_1779 (Or.inr s.1.1) s.1.2 (by omega) (by omega) (by omega) (?_))))))
    rw [s.2]
    refine gw_call2 at388_1780 e (by omega) (Nat.le_of_ble_eq_true rfl) (fun o M1 q2 => ?_)
    obtain ⟨T2, c2, J2, rfl, rfl, hE, hv2, hvr⟩ := q2
    have hE0 := hE
    obtain ⟨⟨g1, g2⟩, g3, g4, -⟩ := hE
    show gw _ _ _ _ _ (gi v :: _) _ _
    refine gw_is6 at388_1783 (h := ?_)
    refine gw_al2 at388_1785 (gw_callP1 at388_1786 (m_thrown g1 g2) (by omega) (Nat.le_of_ble_eq_true rfl) ?_)
    rw [g3]
    refine gw_il5 at388_1789 (gw_ceq at388_1791 (by decide) (by decide) (fun _ => ?_) (fun q => absurd rfl q))
    refine gw_il5 at388_1796 (gw_zne at388_1798 (by decide) (fun q => absurd rfl q) (fun _ => ?_))
    refine gw_al3 at388_1801 (gw_const at388_1802 (gw_la at388_1803 g4.1 g4.2 (by decide) (by decide) (by decide) ?_))
    rw [hv2]
    refine gw_il6 at388_1804 (gw_i2l at388_1806 hvr (gw_lceq at388_1807 at388_1808 (by omega) (by omega) (fun _ => ?_) (fun q => absurd rfl q)))
    exact gw_goto at388_1813 (hend _ T2 c2 J2 _ _ hE0 rfl rfl)
  · obtain ⟨hk, s, e⟩ := h3 X T1 c1 J1 hR
    show gw _ _ _ _ _ (gi (hm X) :: _) _ _
    refine gw_is5 at388_1771 (h := ?_)
    refine gw_al2 at388_1773 (gw_al0 at388_1774 (gw_il4 at388_1775 (gw_const at388_1777 (gw_iadd at388_1778 (gw_ia at388_1779 (Or.inr s.1.1) s.1.2 (by omega) (by omega) (by omega) (?_))))))
    rw [s.2]
    refine gw_call2 at388_1780 e (by omega) (Nat.le_of_ble_eq_true rfl) (fun o M1 q2 => ?_)
    obtain ⟨b, T2, c2, J2, rfl, rfl, hE⟩ := q2
    have hE0 := hE
    obtain ⟨⟨g1, g2⟩, g3, g4, -⟩ := hE
    show gw _ _ _ _ _ (gi b :: _) _ _
    refine gw_is6 at388_1783 (h := ?_)
    refine gw_al2 at388_1785 (gw_callP1 at388_1786 (m_thrown g1 g2) (by omega) (Nat.le_of_ble_eq_true rfl) ?_)
    rw [g3]
    refine gw_il5 at388_1789 (gw_ceq at388_1791 (by omega) (by omega) (fun _ => ?_) (fun q => absurd rfl q))
    refine gw_il5 at388_1796 (gw_zne at388_1798 (by omega) (fun _ => ?_) (fun q => absurd q (by omega)))
    exact gw_goto at388_1813 (hend _ T2 c2 J2 _ _ hE0 rfl rfl)
set_option maxHeartbeats 1000000 in
theorem lc_34 {d HW HM : Nat} {T : gT} {c J : gC} {i : Int} {E : gT → gC → gC → Prop} {Q : am_O → am_M → Prop} {R : Int → gT → gC → gC → Prop} {u5 u6 : Value} (hHW : HW + 1 ≤ d) (hHM : HM + 1 ≤ d) (hu : am_nl u5 = true) (hv : am_nl u6 = true) (h1 : gE 5 135 HW [.ref 500000] (gm T c J) (fun o M1 => ∃ v T1 c1 J1, o = .inl (some (gl v)) ∧ M1 = gm T1 c1 J1 ∧ R v T1 c1 J1)) (h2 : ∀ v T1 c1 J1, R v T1 c1 J1 → (-9223372036854775808 ≤ v ∧ v < 9223372036854775808) ∧ gE 5 261 HM [.ref 500001] (gm T1 c1 J1) (fun o M1 => ∃ z T2 c2 J2, o = .inl (some (gl v)) ∧ M1 = gm T2 c2 J2 ∧ ESP E z T2 c2 J2)) (hend : ∀ z T2 c2 J2 (k b : Value), ESP E z T2 c2 J2 → am_nl k = true → am_nl b = true → gw d 5 388 3366 [.ref 800000, .ref 500000, .ref 500001, .ref 500002, gi i, k, b] [] (gm T2 c2 J2) Q) : gw d 5 388 1816 [.ref 800000, .ref 500000, .ref 500001, .ref 500002, gi i, u5, u6] [] (gm T c J) Q := by
  refine gw_al1 at388_1816 (gw_call1 at388_1817 h1 (by omega) (Nat.le_of_ble_eq_true rfl) (fun o M1 q => ?_))
  obtain ⟨v, T1, c1, J1, rfl, rfl, hR⟩ := q
  obtain ⟨hr, e⟩ := h2 v T1 c1 J1 hR
  show gw _ _ _ _ _ (gl v :: _) _ _
  refine gw_al2 at388_1820 (gw_call1 at388_1821 e (by omega) (Nat.le_of_ble_eq_true rfl) (fun o M1 q2 => ?_))
  obtain ⟨z, T2, c2, J2, rfl, rfl, hE⟩ := q2
  show gw _ _ _ _ _ (gl v :: _) _ _
  exact gw_lceq at388_1824 at388_1825 hr hr (fun _ => hend _ T2 c2 J2 _ _ hE hu hv) (fun q => absurd rfl q)
set_option maxHeartbeats 1000000 in
theorem lc_35 {d HW HM : Nat} {T : gT} {c J : gC} {L : Nat} {i : Int} {E : gT → gC → gC → Prop} {Q : am_O → am_M → Prop} {hm : Nat → Int} {R : (Int ⊕ Nat) → gT → gC → gC → Prop} {u5 u6 : Value} (hHW : HW + 1 ≤ d) (hHM : HM + 1 ≤ d) (hL : (T.1 800000).1 = 41 ∧ (T.1 800000).2.1 = L) (hL2 : L ≤ 3072) (hi : 0 ≤ i ∧ i + 6 ≤ (L : Int)) (hu : am_nl u5 = true) (hv : am_nl u6 = true) (h1 : gE 5 363 HW [.ref 500000, gi (c 800000 (i + 1)), gi (c 800000 (i + 2)), .ref 500002] (gm T c J) (gW hm R)) (h2 : ∀ v T1 c1 J1, R (.inl v) T1 c1 J1 → SCP L c T1 c1 ∧ gE 5 263 HM [.ref 500001, gi (c 800000 (i + 1)), gi (c 800000 (i + 2))] (gm T1 c1 (gu J1 500002 0 v)) (fun o M1 => ∃ T2 c2 J2, o = .inl (some (gi v)) ∧ M1 = gm T2 c2 J2 ∧ ESP E 0 T2 c2 J2 ∧ J2 500002 0 = v ∧ -2147483648 ≤ v ∧ v < 2147483648)) (h3 : ∀ X T1 c1 J1, R (.inr X) T1 c1 J1 → (1 ≤ hm X ∧ hm X ≤ 3) ∧ SCP L c (gTe T1) (gz c1 (700000 + T1.2.1 7)) ∧ gE 5 263 HM [.ref 500001, gi (c 800000 (i + 1)), gi (c 800000 (i + 2))] (gm (gTe T1) (gz c1 (700000 + T1.2.1 7)) (gz J1 (700000 + T1.2.1 7))) (fun o M1 => ∃ b T2 c2 J2, o = .inl (some (gi b)) ∧ M1 = gm T2 c2 J2 ∧ ESP E (hm X) T2 c2 J2)) (hend : ∀ z T2 c2 J2 (k b : Value), ESP E z T2 c2 J2 → am_nl k = true → am_nl b = true → gw d 5 388 3366 [.ref 800000, .ref 500000, .ref 500001, .ref 500002, gi i, k, b] [] (gm T2 c2 J2) Q) : gw d 5 388 1830 [.ref 800000, .ref 500000, .ref 500001, .ref 500002, gi i, u5, u6] [] (gm T c J) Q := by
  refine gw_al1 at388_1830 (gw_al0 at388_1831 (gw_il4 at388_1832 (gw_const at388_1834 (gw_iadd at388_1835 (gw_ia at388_1836 (Or.inr hL.1) hL.2 (by omega) (by omega) (by omega) (gw_al0 at388_1837 (gw_il4 at388_1838 (gw_const at388_1840 (gw_iadd at388_1841 (gw_ia at388_1842 (Or.inr hL.1) hL.2 (by omega) (by omega) (by omega) (gw_al3 at388_1843 (?_))))))))))))
  refine gw_call4 at388_1844 h1 (by omega) (Nat.le_of_ble_eq_true rfl) (fun o M1 q => ?_)
  obtain ⟨T1, c1, J1, ⟨v, hR, rfl, rfl⟩ | ⟨X, hR, rfl, rfl⟩⟩ := q
  · obtain ⟨s, e⟩ := h2 v T1 c1 J1 hR
    show gw _ _ _ _ _ (gi 0 :: _) _ _
    refine gw_is5 at388_1847 (h := ?_)
    refine gw_al2 at388_1849 (gw_al0 at388_1850 (gw_il4 at388_1851 (gw_const at388_1853 (gw_iadd at388_1854 (gw_ia at388_1855 (Or.inr s.1.1) s.1.2 (by omega) (by omega) (by omega) (gw_al0 at388_1856 (gw_il4 at388_1857 (gw_const at388_1859 (gw_iadd at388_1860 (gw_ia at388_1861 (Or.inr s.1.1) s.1.2 (by omega) (by omega) (by omega) (?_)))))))))))
    rw [s.2]
    refine gw_call3 at388_1862 e (by omega) (Nat.le_of_ble_eq_true rfl) (fun o M1 q2 => ?_)
    obtain ⟨T2, c2, J2, rfl, rfl, hE, hv2, hvr⟩ := q2
    have hE0 := hE
    obtain ⟨⟨g1, g2⟩, g3, g4, -⟩ := hE
    show gw _ _ _ _ _ (gi v :: _) _ _
    refine gw_is6 at388_1865 (h := ?_)
    refine gw_al2 at388_1867 (gw_callP1 at388_1868 (m_thrown g1 g2) (by omega) (Nat.le_of_ble_eq_true rfl) ?_)
    rw [g3]
    refine gw_il5 at388_1871 (gw_ceq at388_1873 (by decide) (by decide) (fun _ => ?_) (fun q => absurd rfl q))
    refine gw_il5 at388_1878 (gw_zne at388_1880 (by decide) (fun q => absurd rfl q) (fun _ => ?_))
    refine gw_al3 at388_1883 (gw_const at388_1884 (gw_la at388_1885 g4.1 g4.2 (by decide) (by decide) (by decide) ?_))
    rw [hv2]
    refine gw_il6 at388_1886 (gw_i2l at388_1888 hvr (gw_lceq at388_1889 at388_1890 (by omega) (by omega) (fun _ => ?_) (fun q => absurd rfl q)))
    exact gw_goto at388_1895 (hend _ T2 c2 J2 _ _ hE0 rfl rfl)
  · obtain ⟨hk, s, e⟩ := h3 X T1 c1 J1 hR
    show gw _ _ _ _ _ (gi (hm X) :: _) _ _
    refine gw_is5 at388_1847 (h := ?_)
    refine gw_al2 at388_1849 (gw_al0 at388_1850 (gw_il4 at388_1851 (gw_const at388_1853 (gw_iadd at388_1854 (gw_ia at388_1855 (Or.inr s.1.1) s.1.2 (by omega) (by omega) (by omega) (gw_al0 at388_1856 (gw_il4 at388_1857 (gw_const at388_1859 (gw_iadd at388_1860 (gw_ia at388_1861 (Or.inr s.1.1) s.1.2 (by omega) (by omega) (by omega) (?_)))))))))))
    rw [s.2]
    refine gw_call3 at388_1862 e (by omega) (Nat.le_of_ble_eq_true rfl) (fun o M1 q2 => ?_)
    obtain ⟨b, T2, c2, J2, rfl, rfl, hE⟩ := q2
    have hE0 := hE
    obtain ⟨⟨g1, g2⟩, g3, g4, -⟩ := hE
    show gw _ _ _ _ _ (gi b :: _) _ _
    refine gw_is6 at388_1865 (h := ?_)
    refine gw_al2 at388_1867 (gw_callP1 at388_1868 (m_thrown g1 g2) (by omega) (Nat.le_of_ble_eq_true rfl) ?_)
    rw [g3]
    refine gw_il5 at388_1871 (gw_ceq at388_1873 (by omega) (by omega) (fun _ => ?_) (fun q => absurd rfl q))
    refine gw_il5 at388_1878 (gw_zne at388_1880 (by omega) (fun _ => ?_) (fun q => absurd q (by omega)))
    exact gw_goto at388_1895 (hend _ T2 c2 J2 _ _ hE0 rfl rfl)
set_option maxHeartbeats 1000000 in
theorem lc_36 {d HW HM : Nat} {T : gT} {c J : gC} {L : Nat} {i : Int} {E : gT → gC → gC → Prop} {Q : am_O → am_M → Prop} {hm : Nat → Int} {R : (Int ⊕ Nat) → gT → gC → gC → Prop} {u5 u6 : Value} (hHW : HW + 1 ≤ d) (hHM : HM + 1 ≤ d) (hL : (T.1 800000).1 = 41 ∧ (T.1 800000).2.1 = L) (hL2 : L ≤ 3072) (hi : 0 ≤ i ∧ i + 6 ≤ (L : Int)) (hu : am_nl u5 = true) (hv : am_nl u6 = true) (h1 : gE 5 364 HW [.ref 500000, gi (c 800000 (i + 1)), .ref 500002] (gm T c J) (gW hm R)) (h2 : ∀ v T1 c1 J1, R (.inl v) T1 c1 J1 → SCP L c T1 c1 ∧ gE 5 272 HM [.ref 500001, gi (c 800000 (i + 1))] (gm T1 c1 (gu J1 500002 0 v)) (fun o M1 => ∃ T2 c2 J2, o = .inl (some (gi v)) ∧ M1 = gm T2 c2 J2 ∧ ESP E 0 T2 c2 J2 ∧ J2 500002 0 = v ∧ -2147483648 ≤ v ∧ v < 2147483648)) (h3 : ∀ X T1 c1 J1, R (.inr X) T1 c1 J1 → (1 ≤ hm X ∧ hm X ≤ 3) ∧ SCP L c (gTe T1) (gz c1 (700000 + T1.2.1 7)) ∧ gE 5 272 HM [.ref 500001, gi (c 800000 (i + 1))] (gm (gTe T1) (gz c1 (700000 + T1.2.1 7)) (gz J1 (700000 + T1.2.1 7))) (fun o M1 => ∃ b T2 c2 J2, o = .inl (some (gi b)) ∧ M1 = gm T2 c2 J2 ∧ ESP E (hm X) T2 c2 J2)) (hend : ∀ z T2 c2 J2 (k b : Value), ESP E z T2 c2 J2 → am_nl k = true → am_nl b = true → gw d 5 388 3366 [.ref 800000, .ref 500000, .ref 500001, .ref 500002, gi i, k, b] [] (gm T2 c2 J2) Q) : gw d 5 388 1898 [.ref 800000, .ref 500000, .ref 500001, .ref 500002, gi i, u5, u6] [] (gm T c J) Q := by
  refine gw_al1 at388_1898 (gw_al0 at388_1899 (gw_il4 at388_1900 (gw_const at388_1902 (gw_iadd at388_1903 (gw_ia at388_1904 (Or.inr hL.1) hL.2 (by omega) (by omega) (by omega) (gw_al3 at388_1905 (?_)))))))
  refine gw_call3 at388_1906 h1 (by omega) (Nat.le_of_ble_eq_true rfl) (fun o M1 q => ?_)
  obtain ⟨T1, c1, J1, ⟨v, hR, rfl, rfl⟩ | ⟨X, hR, rfl, rfl⟩⟩ := q
  · obtain ⟨s, e⟩ := h2 v T1 c1 J1 hR
    show gw _ _ _ _ _ (gi 0 :: _) _ _
    refine gw_is5 at388_1909 (h := ?_)
    refine gw_al2 at388_1911 (gw_al0 at388_1912 (gw_il4 at388_1913 (gw_const at388_1915 (gw_iadd at388_1916 (gw_ia at388_1917 (Or.inr s.1.1) s.1.2 (by omega) (by omega) (by omega) (?_))))))
    rw [s.2]
    refine gw_call2 at388_1918 e (by omega) (Nat.le_of_ble_eq_true rfl) (fun o M1 q2 => ?_)
    obtain ⟨T2, c2, J2, rfl, rfl, hE, hv2, hvr⟩ := q2
    have hE0 := hE
    obtain ⟨⟨g1, g2⟩, g3, g4, -⟩ := hE
    show gw _ _ _ _ _ (gi v :: _) _ _
    refine gw_is6 at388_1921 (h := ?_)
    refine gw_al2 at388_1923 (gw_callP1 at388_1924 (m_thrown g1 g2) (by omega) (Nat.le_of_ble_eq_true rfl) ?_)
    rw [g3]
    refine gw_il5 at388_1927 (gw_ceq at388_1929 (by decide) (by decide) (fun _ => ?_) (fun q => absurd rfl q))
    refine gw_il5 at388_1934 (gw_zne at388_1936 (by decide) (fun q => absurd rfl q) (fun _ => ?_))
    refine gw_al3 at388_1939 (gw_const at388_1940 (gw_la at388_1941 g4.1 g4.2 (by decide) (by decide) (by decide) ?_))
    rw [hv2]
    refine gw_il6 at388_1942 (gw_i2l at388_1944 hvr (gw_lceq at388_1945 at388_1946 (by omega) (by omega) (fun _ => ?_) (fun q => absurd rfl q)))
    exact gw_goto at388_1951 (hend _ T2 c2 J2 _ _ hE0 rfl rfl)
  · obtain ⟨hk, s, e⟩ := h3 X T1 c1 J1 hR
    show gw _ _ _ _ _ (gi (hm X) :: _) _ _
    refine gw_is5 at388_1909 (h := ?_)
    refine gw_al2 at388_1911 (gw_al0 at388_1912 (gw_il4 at388_1913 (gw_const at388_1915 (gw_iadd at388_1916 (gw_ia at388_1917 (Or.inr s.1.1) s.1.2 (by omega) (by omega) (by omega) (?_))))))
    rw [s.2]
    refine gw_call2 at388_1918 e (by omega) (Nat.le_of_ble_eq_true rfl) (fun o M1 q2 => ?_)
    obtain ⟨b, T2, c2, J2, rfl, rfl, hE⟩ := q2
    have hE0 := hE
    obtain ⟨⟨g1, g2⟩, g3, g4, -⟩ := hE
    show gw _ _ _ _ _ (gi b :: _) _ _
    refine gw_is6 at388_1921 (h := ?_)
    refine gw_al2 at388_1923 (gw_callP1 at388_1924 (m_thrown g1 g2) (by omega) (Nat.le_of_ble_eq_true rfl) ?_)
    rw [g3]
    refine gw_il5 at388_1927 (gw_ceq at388_1929 (by omega) (by omega) (fun _ => ?_) (fun q => absurd rfl q))
    refine gw_il5 at388_1934 (gw_zne at388_1936 (by omega) (fun _ => ?_) (fun q => absurd q (by omega)))
    exact gw_goto at388_1951 (hend _ T2 c2 J2 _ _ hE0 rfl rfl)
set_option maxHeartbeats 1000000 in
theorem lc_37 {d HW HM : Nat} {T : gT} {c J : gC} {L : Nat} {i : Int} {E : gT → gC → gC → Prop} {Q : am_O → am_M → Prop} {hm : Nat → Int} {R : (Int ⊕ Nat) → gT → gC → gC → Prop} {u5 u6 : Value} (hHW : HW + 1 ≤ d) (hHM : HM + 1 ≤ d) (hL : (T.1 800000).1 = 41 ∧ (T.1 800000).2.1 = L) (hL2 : L ≤ 3072) (hi : 0 ≤ i ∧ i + 6 ≤ (L : Int)) (hu : am_nl u5 = true) (hv : am_nl u6 = true) {p : Bool} (hp : p = decide (¬ c 800000 (i + 2) = 0)) (hs : -2147483648 ≤ c 800000 (i + 2) ∧ c 800000 (i + 2) < 2147483648) (h1 : gE 5 365 HW [.ref 500000, gi (c 800000 (i + 1)), gi (bi p), .ref 500002] (gm T c J) (gW hm R)) (h2 : ∀ v T1 c1 J1, R (.inl v) T1 c1 J1 → SCP L c T1 c1 ∧ gE 5 273 HM [.ref 500001, gi (c 800000 (i + 1)), gi (bi p)] (gm T1 c1 (gu J1 500002 0 v)) (fun o M1 => ∃ T2 c2 J2, o = .inl (some (gi v)) ∧ M1 = gm T2 c2 J2 ∧ ESP E 0 T2 c2 J2 ∧ J2 500002 0 = v ∧ -2147483648 ≤ v ∧ v < 2147483648)) (h3 : ∀ X T1 c1 J1, R (.inr X) T1 c1 J1 → (1 ≤ hm X ∧ hm X ≤ 3) ∧ SCP L c (gTe T1) (gz c1 (700000 + T1.2.1 7)) ∧ gE 5 273 HM [.ref 500001, gi (c 800000 (i + 1)), gi (bi p)] (gm (gTe T1) (gz c1 (700000 + T1.2.1 7)) (gz J1 (700000 + T1.2.1 7))) (fun o M1 => ∃ b T2 c2 J2, o = .inl (some (gi b)) ∧ M1 = gm T2 c2 J2 ∧ ESP E (hm X) T2 c2 J2)) (hend : ∀ z T2 c2 J2 (k b : Value), ESP E z T2 c2 J2 → am_nl k = true → am_nl b = true → gw d 5 388 3366 [.ref 800000, .ref 500000, .ref 500001, .ref 500002, gi i, k, b] [] (gm T2 c2 J2) Q) : gw d 5 388 1954 [.ref 800000, .ref 500000, .ref 500001, .ref 500002, gi i, u5, u6] [] (gm T c J) Q := by
  refine gw_al1 at388_1954 (gw_al0 at388_1955 (gw_il4 at388_1956 (gw_const at388_1958 (gw_iadd at388_1959 (gw_ia at388_1960 (Or.inr hL.1) hL.2 (by omega) (by omega) (by omega) (gw_al0 at388_1961 (gw_il4 at388_1962 (gw_const at388_1964 (gw_iadd at388_1965 (gw_ia at388_1966 (Or.inr hL.1) hL.2 (by omega) (by omega) (by omega) (?_)))))))))))
  refine gw_bsel at388_1967 at388_1970 at388_1971 at388_1974 hs hp ?_
  refine gw_al3 at388_1975 (?_)
  refine gw_call4 at388_1976 h1 (by omega) (Nat.le_of_ble_eq_true rfl) (fun o M1 q => ?_)
  obtain ⟨T1, c1, J1, ⟨v, hR, rfl, rfl⟩ | ⟨X, hR, rfl, rfl⟩⟩ := q
  · obtain ⟨s, e⟩ := h2 v T1 c1 J1 hR
    show gw _ _ _ _ _ (gi 0 :: _) _ _
    refine gw_is5 at388_1979 (h := ?_)
    refine gw_al2 at388_1981 (gw_al0 at388_1982 (gw_il4 at388_1983 (gw_const at388_1985 (gw_iadd at388_1986 (gw_ia at388_1987 (Or.inr s.1.1) s.1.2 (by omega) (by omega) (by omega) (gw_al0 at388_1988 (gw_il4 at388_1989 (gw_const at388_1991 (gw_iadd at388_1992 (gw_ia at388_1993 (Or.inr s.1.1) s.1.2 (by omega) (by omega) (by omega) (?_)))))))))))
    rw [s.2]
    refine gw_bsel at388_1994 at388_1997 at388_1998 at388_2001 hs hp ?_
    refine gw_call3 at388_2002 e (by omega) (Nat.le_of_ble_eq_true rfl) (fun o M1 q2 => ?_)
    obtain ⟨T2, c2, J2, rfl, rfl, hE, hv2, hvr⟩ := q2
    have hE0 := hE
    obtain ⟨⟨g1, g2⟩, g3, g4, -⟩ := hE
    show gw _ _ _ _ _ (gi v :: _) _ _
    refine gw_is6 at388_2005 (h := ?_)
    refine gw_al2 at388_2007 (gw_callP1 at388_2008 (m_thrown g1 g2) (by omega) (Nat.le_of_ble_eq_true rfl) ?_)
    rw [g3]
    refine gw_il5 at388_2011 (gw_ceq at388_2013 (by decide) (by decide) (fun _ => ?_) (fun q => absurd rfl q))
    refine gw_il5 at388_2018 (gw_zne at388_2020 (by decide) (fun q => absurd rfl q) (fun _ => ?_))
    refine gw_al3 at388_2023 (gw_const at388_2024 (gw_la at388_2025 g4.1 g4.2 (by decide) (by decide) (by decide) ?_))
    rw [hv2]
    refine gw_il6 at388_2026 (gw_i2l at388_2028 hvr (gw_lceq at388_2029 at388_2030 (by omega) (by omega) (fun _ => ?_) (fun q => absurd rfl q)))
    exact gw_goto at388_2035 (hend _ T2 c2 J2 _ _ hE0 rfl rfl)
  · obtain ⟨hk, s, e⟩ := h3 X T1 c1 J1 hR
    show gw _ _ _ _ _ (gi (hm X) :: _) _ _
    refine gw_is5 at388_1979 (h := ?_)
    refine gw_al2 at388_1981 (gw_al0 at388_1982 (gw_il4 at388_1983 (gw_const at388_1985 (gw_iadd at388_1986 (gw_ia at388_1987 (Or.inr s.1.1) s.1.2 (by omega) (by omega) (by omega) (gw_al0 at388_1988 (gw_il4 at388_1989 (gw_const at388_1991 (gw_iadd at388_1992 (gw_ia at388_1993 (Or.inr s.1.1) s.1.2 (by omega) (by omega) (by omega) (?_)))))))))))
    rw [s.2]
    refine gw_bsel at388_1994 at388_1997 at388_1998 at388_2001 hs hp ?_
    refine gw_call3 at388_2002 e (by omega) (Nat.le_of_ble_eq_true rfl) (fun o M1 q2 => ?_)
    obtain ⟨b, T2, c2, J2, rfl, rfl, hE⟩ := q2
    have hE0 := hE
    obtain ⟨⟨g1, g2⟩, g3, g4, -⟩ := hE
    show gw _ _ _ _ _ (gi b :: _) _ _
    refine gw_is6 at388_2005 (h := ?_)
    refine gw_al2 at388_2007 (gw_callP1 at388_2008 (m_thrown g1 g2) (by omega) (Nat.le_of_ble_eq_true rfl) ?_)
    rw [g3]
    refine gw_il5 at388_2011 (gw_ceq at388_2013 (by omega) (by omega) (fun _ => ?_) (fun q => absurd rfl q))
    refine gw_il5 at388_2018 (gw_zne at388_2020 (by omega) (fun _ => ?_) (fun q => absurd q (by omega)))
    exact gw_goto at388_2035 (hend _ T2 c2 J2 _ _ hE0 rfl rfl)
set_option maxHeartbeats 1000000 in
theorem lc_38 {d HW HM : Nat} {T : gT} {c J : gC} {L : Nat} {i : Int} {E : gT → gC → gC → Prop} {Q : am_O → am_M → Prop} {hm : Nat → Int} {R : (Int ⊕ Nat) → gT → gC → gC → Prop} {u5 u6 : Value} (hHW : HW + 1 ≤ d) (hHM : HM + 1 ≤ d) (hL : (T.1 800000).1 = 41 ∧ (T.1 800000).2.1 = L) (hL2 : L ≤ 3072) (hi : 0 ≤ i ∧ i + 6 ≤ (L : Int)) (hu : am_nl u5 = true) (hv : am_nl u6 = true) {p : Bool} (hp : p = decide (¬ c 800000 (i + 2) = 0)) (hs : -2147483648 ≤ c 800000 (i + 2) ∧ c 800000 (i + 2) < 2147483648) (h1 : gE 5 366 HW [.ref 500000, gi (c 800000 (i + 1)), gi (bi p), .ref 500002] (gm T c J) (gW hm R)) (h2 : ∀ v T1 c1 J1, R (.inl v) T1 c1 J1 → SCP L c T1 c1 ∧ gE 5 275 HM [.ref 500001, gi (c 800000 (i + 1)), gi (bi p)] (gm T1 c1 (gu J1 500002 0 v)) (fun o M1 => ∃ T2 c2 J2, o = .inl (some (gi v)) ∧ M1 = gm T2 c2 J2 ∧ ESP E 0 T2 c2 J2 ∧ J2 500002 0 = v ∧ -2147483648 ≤ v ∧ v < 2147483648)) (h3 : ∀ X T1 c1 J1, R (.inr X) T1 c1 J1 → (1 ≤ hm X ∧ hm X ≤ 3) ∧ SCP L c (gTe T1) (gz c1 (700000 + T1.2.1 7)) ∧ gE 5 275 HM [.ref 500001, gi (c 800000 (i + 1)), gi (bi p)] (gm (gTe T1) (gz c1 (700000 + T1.2.1 7)) (gz J1 (700000 + T1.2.1 7))) (fun o M1 => ∃ b T2 c2 J2, o = .inl (some (gi b)) ∧ M1 = gm T2 c2 J2 ∧ ESP E (hm X) T2 c2 J2)) (hend : ∀ z T2 c2 J2 (k b : Value), ESP E z T2 c2 J2 → am_nl k = true → am_nl b = true → gw d 5 388 3366 [.ref 800000, .ref 500000, .ref 500001, .ref 500002, gi i, k, b] [] (gm T2 c2 J2) Q) : gw d 5 388 2038 [.ref 800000, .ref 500000, .ref 500001, .ref 500002, gi i, u5, u6] [] (gm T c J) Q := by
  refine gw_al1 at388_2038 (gw_al0 at388_2039 (gw_il4 at388_2040 (gw_const at388_2042 (gw_iadd at388_2043 (gw_ia at388_2044 (Or.inr hL.1) hL.2 (by omega) (by omega) (by omega) (gw_al0 at388_2045 (gw_il4 at388_2046 (gw_const at388_2048 (gw_iadd at388_2049 (gw_ia at388_2050 (Or.inr hL.1) hL.2 (by omega) (by omega) (by omega) (?_)))))))))))
  refine gw_bsel at388_2051 at388_2054 at388_2055 at388_2058 hs hp ?_
  refine gw_al3 at388_2059 (?_)
  refine gw_call4 at388_2060 h1 (by omega) (Nat.le_of_ble_eq_true rfl) (fun o M1 q => ?_)
  obtain ⟨T1, c1, J1, ⟨v, hR, rfl, rfl⟩ | ⟨X, hR, rfl, rfl⟩⟩ := q
  · obtain ⟨s, e⟩ := h2 v T1 c1 J1 hR
    show gw _ _ _ _ _ (gi 0 :: _) _ _
    refine gw_is5 at388_2063 (h := ?_)
    refine gw_al2 at388_2065 (gw_al0 at388_2066 (gw_il4 at388_2067 (gw_const at388_2069 (gw_iadd at388_2070 (gw_ia at388_2071 (Or.inr s.1.1) s.1.2 (by omega) (by omega) (by omega) (gw_al0 at388_2072 (gw_il4 at388_2073 (gw_const at388_2075 (gw_iadd at388_2076 (gw_ia at388_2077 (Or.inr s.1.1) s.1.2 (by omega) (by omega) (by omega) (?_)))))))))))
    rw [s.2]
    refine gw_bsel at388_2078 at388_2081 at388_2082 at388_2085 hs hp ?_
    refine gw_call3 at388_2086 e (by omega) (Nat.le_of_ble_eq_true rfl) (fun o M1 q2 => ?_)
    obtain ⟨T2, c2, J2, rfl, rfl, hE, hv2, hvr⟩ := q2
    have hE0 := hE
    obtain ⟨⟨g1, g2⟩, g3, g4, -⟩ := hE
    show gw _ _ _ _ _ (gi v :: _) _ _
    refine gw_is6 at388_2089 (h := ?_)
    refine gw_al2 at388_2091 (gw_callP1 at388_2092 (m_thrown g1 g2) (by omega) (Nat.le_of_ble_eq_true rfl) ?_)
    rw [g3]
    refine gw_il5 at388_2095 (gw_ceq at388_2097 (by decide) (by decide) (fun _ => ?_) (fun q => absurd rfl q))
    refine gw_il5 at388_2102 (gw_zne at388_2104 (by decide) (fun q => absurd rfl q) (fun _ => ?_))
    refine gw_al3 at388_2107 (gw_const at388_2108 (gw_la at388_2109 g4.1 g4.2 (by decide) (by decide) (by decide) ?_))
    rw [hv2]
    refine gw_il6 at388_2110 (gw_i2l at388_2112 hvr (gw_lceq at388_2113 at388_2114 (by omega) (by omega) (fun _ => ?_) (fun q => absurd rfl q)))
    exact gw_goto at388_2119 (hend _ T2 c2 J2 _ _ hE0 rfl rfl)
  · obtain ⟨hk, s, e⟩ := h3 X T1 c1 J1 hR
    show gw _ _ _ _ _ (gi (hm X) :: _) _ _
    refine gw_is5 at388_2063 (h := ?_)
    refine gw_al2 at388_2065 (gw_al0 at388_2066 (gw_il4 at388_2067 (gw_const at388_2069 (gw_iadd at388_2070 (gw_ia at388_2071 (Or.inr s.1.1) s.1.2 (by omega) (by omega) (by omega) (gw_al0 at388_2072 (gw_il4 at388_2073 (gw_const at388_2075 (gw_iadd at388_2076 (gw_ia at388_2077 (Or.inr s.1.1) s.1.2 (by omega) (by omega) (by omega) (?_)))))))))))
    rw [s.2]
    refine gw_bsel at388_2078 at388_2081 at388_2082 at388_2085 hs hp ?_
    refine gw_call3 at388_2086 e (by omega) (Nat.le_of_ble_eq_true rfl) (fun o M1 q2 => ?_)
    obtain ⟨b, T2, c2, J2, rfl, rfl, hE⟩ := q2
    have hE0 := hE
    obtain ⟨⟨g1, g2⟩, g3, g4, -⟩ := hE
    show gw _ _ _ _ _ (gi b :: _) _ _
    refine gw_is6 at388_2089 (h := ?_)
    refine gw_al2 at388_2091 (gw_callP1 at388_2092 (m_thrown g1 g2) (by omega) (Nat.le_of_ble_eq_true rfl) ?_)
    rw [g3]
    refine gw_il5 at388_2095 (gw_ceq at388_2097 (by omega) (by omega) (fun _ => ?_) (fun q => absurd rfl q))
    refine gw_il5 at388_2102 (gw_zne at388_2104 (by omega) (fun _ => ?_) (fun q => absurd q (by omega)))
    exact gw_goto at388_2119 (hend _ T2 c2 J2 _ _ hE0 rfl rfl)
set_option maxHeartbeats 1000000 in
theorem lc_39 {d HW HM : Nat} {T : gT} {c J : gC} {L : Nat} {i : Int} {E : gT → gC → gC → Prop} {Q : am_O → am_M → Prop} {hm : Nat → Int} {R : (Int ⊕ Nat) → gT → gC → gC → Prop} {u5 u6 : Value} (hHW : HW + 1 ≤ d) (hHM : HM + 1 ≤ d) (hL : (T.1 800000).1 = 41 ∧ (T.1 800000).2.1 = L) (hL2 : L ≤ 3072) (hi : 0 ≤ i ∧ i + 6 ≤ (L : Int)) (hu : am_nl u5 = true) (hv : am_nl u6 = true) (h1 : gE 5 367 HW [.ref 500000, gi (c 800000 (i + 1)), .ref 500002] (gm T c J) (gW hm R)) (h2 : ∀ v T1 c1 J1, R (.inl v) T1 c1 J1 → SCP L c T1 c1 ∧ gE 5 276 HM [.ref 500001, gi (c 800000 (i + 1))] (gm T1 c1 (gu J1 500002 0 v)) (fun o M1 => ∃ T2 c2 J2, o = .inl (some (gi v)) ∧ M1 = gm T2 c2 J2 ∧ ESP E 0 T2 c2 J2 ∧ J2 500002 0 = v ∧ -2147483648 ≤ v ∧ v < 2147483648)) (h3 : ∀ X T1 c1 J1, R (.inr X) T1 c1 J1 → (1 ≤ hm X ∧ hm X ≤ 3) ∧ SCP L c (gTe T1) (gz c1 (700000 + T1.2.1 7)) ∧ gE 5 276 HM [.ref 500001, gi (c 800000 (i + 1))] (gm (gTe T1) (gz c1 (700000 + T1.2.1 7)) (gz J1 (700000 + T1.2.1 7))) (fun o M1 => ∃ b T2 c2 J2, o = .inl (some (gi b)) ∧ M1 = gm T2 c2 J2 ∧ ESP E (hm X) T2 c2 J2)) (hend : ∀ z T2 c2 J2 (k b : Value), ESP E z T2 c2 J2 → am_nl k = true → am_nl b = true → gw d 5 388 3366 [.ref 800000, .ref 500000, .ref 500001, .ref 500002, gi i, k, b] [] (gm T2 c2 J2) Q) : gw d 5 388 2122 [.ref 800000, .ref 500000, .ref 500001, .ref 500002, gi i, u5, u6] [] (gm T c J) Q := by
  refine gw_al1 at388_2122 (gw_al0 at388_2123 (gw_il4 at388_2124 (gw_const at388_2126 (gw_iadd at388_2127 (gw_ia at388_2128 (Or.inr hL.1) hL.2 (by omega) (by omega) (by omega) (gw_al3 at388_2129 (?_)))))))
  refine gw_call3 at388_2130 h1 (by omega) (Nat.le_of_ble_eq_true rfl) (fun o M1 q => ?_)
  obtain ⟨T1, c1, J1, ⟨v, hR, rfl, rfl⟩ | ⟨X, hR, rfl, rfl⟩⟩ := q
  · obtain ⟨s, e⟩ := h2 v T1 c1 J1 hR
    show gw _ _ _ _ _ (gi 0 :: _) _ _
    refine gw_is5 at388_2133 (h := ?_)
    refine gw_al2 at388_2135 (gw_al0 at388_2136 (gw_il4 at388_2137 (gw_const at388_2139 (gw_iadd at388_2140 (gw_ia at388_2141 (Or.inr s.1.1) s.1.2 (by omega) (by omega) (by omega) (?_))))))
    rw [s.2]
    refine gw_call2 at388_2142 e (by omega) (Nat.le_of_ble_eq_true rfl) (fun o M1 q2 => ?_)
    obtain ⟨T2, c2, J2, rfl, rfl, hE, hv2, hvr⟩ := q2
    have hE0 := hE
    obtain ⟨⟨g1, g2⟩, g3, g4, -⟩ := hE
    show gw _ _ _ _ _ (gi v :: _) _ _
    refine gw_is6 at388_2145 (h := ?_)
    refine gw_al2 at388_2147 (gw_callP1 at388_2148 (m_thrown g1 g2) (by omega) (Nat.le_of_ble_eq_true rfl) ?_)
    rw [g3]
    refine gw_il5 at388_2151 (gw_ceq at388_2153 (by decide) (by decide) (fun _ => ?_) (fun q => absurd rfl q))
    refine gw_il5 at388_2158 (gw_zne at388_2160 (by decide) (fun q => absurd rfl q) (fun _ => ?_))
    refine gw_al3 at388_2163 (gw_const at388_2164 (gw_la at388_2165 g4.1 g4.2 (by decide) (by decide) (by decide) ?_))
    rw [hv2]
    refine gw_il6 at388_2166 (gw_i2l at388_2168 hvr (gw_lceq at388_2169 at388_2170 (by omega) (by omega) (fun _ => ?_) (fun q => absurd rfl q)))
    exact gw_goto at388_2175 (hend _ T2 c2 J2 _ _ hE0 rfl rfl)
  · obtain ⟨hk, s, e⟩ := h3 X T1 c1 J1 hR
    show gw _ _ _ _ _ (gi (hm X) :: _) _ _
    refine gw_is5 at388_2133 (h := ?_)
    refine gw_al2 at388_2135 (gw_al0 at388_2136 (gw_il4 at388_2137 (gw_const at388_2139 (gw_iadd at388_2140 (gw_ia at388_2141 (Or.inr s.1.1) s.1.2 (by omega) (by omega) (by omega) (?_))))))
    rw [s.2]
    refine gw_call2 at388_2142 e (by omega) (Nat.le_of_ble_eq_true rfl) (fun o M1 q2 => ?_)
    obtain ⟨b, T2, c2, J2, rfl, rfl, hE⟩ := q2
    have hE0 := hE
    obtain ⟨⟨g1, g2⟩, g3, g4, -⟩ := hE
    show gw _ _ _ _ _ (gi b :: _) _ _
    refine gw_is6 at388_2145 (h := ?_)
    refine gw_al2 at388_2147 (gw_callP1 at388_2148 (m_thrown g1 g2) (by omega) (Nat.le_of_ble_eq_true rfl) ?_)
    rw [g3]
    refine gw_il5 at388_2151 (gw_ceq at388_2153 (by omega) (by omega) (fun _ => ?_) (fun q => absurd rfl q))
    refine gw_il5 at388_2158 (gw_zne at388_2160 (by omega) (fun _ => ?_) (fun q => absurd q (by omega)))
    exact gw_goto at388_2175 (hend _ T2 c2 J2 _ _ hE0 rfl rfl)
set_option maxHeartbeats 1000000 in
theorem lc_40 {d HW HM : Nat} {T : gT} {c J : gC} {L : Nat} {i : Int} {E : gT → gC → gC → Prop} {Q : am_O → am_M → Prop} {hm : Nat → Int} {R : (Int ⊕ Nat) → gT → gC → gC → Prop} {u5 u6 : Value} (hHW : HW + 1 ≤ d) (hHM : HM + 1 ≤ d) (hL : (T.1 800000).1 = 41 ∧ (T.1 800000).2.1 = L) (hL2 : L ≤ 3072) (hi : 0 ≤ i ∧ i + 6 ≤ (L : Int)) (hu : am_nl u5 = true) (hv : am_nl u6 = true) (h1 : gE 5 368 HW [.ref 500000, .ref 500002] (gm T c J) (gW hm R)) (h2 : ∀ v T1 c1 J1, R (.inl v) T1 c1 J1 → SCP L c T1 c1 ∧ gE 5 277 HM [.ref 500001] (gm T1 c1 (gu J1 500002 0 v)) (fun o M1 => ∃ T2 c2 J2, o = .inl (some (gi v)) ∧ M1 = gm T2 c2 J2 ∧ ESP E 0 T2 c2 J2 ∧ J2 500002 0 = v ∧ -2147483648 ≤ v ∧ v < 2147483648)) (h3 : ∀ X T1 c1 J1, R (.inr X) T1 c1 J1 → (1 ≤ hm X ∧ hm X ≤ 3) ∧ SCP L c (gTe T1) (gz c1 (700000 + T1.2.1 7)) ∧ gE 5 277 HM [.ref 500001] (gm (gTe T1) (gz c1 (700000 + T1.2.1 7)) (gz J1 (700000 + T1.2.1 7))) (fun o M1 => ∃ b T2 c2 J2, o = .inl (some (gi b)) ∧ M1 = gm T2 c2 J2 ∧ ESP E (hm X) T2 c2 J2)) (hend : ∀ z T2 c2 J2 (k b : Value), ESP E z T2 c2 J2 → am_nl k = true → am_nl b = true → gw d 5 388 3366 [.ref 800000, .ref 500000, .ref 500001, .ref 500002, gi i, k, b] [] (gm T2 c2 J2) Q) : gw d 5 388 2178 [.ref 800000, .ref 500000, .ref 500001, .ref 500002, gi i, u5, u6] [] (gm T c J) Q := by
  refine gw_al1 at388_2178 (gw_al3 at388_2179 (?_))
  refine gw_call2 at388_2180 h1 (by omega) (Nat.le_of_ble_eq_true rfl) (fun o M1 q => ?_)
  obtain ⟨T1, c1, J1, ⟨v, hR, rfl, rfl⟩ | ⟨X, hR, rfl, rfl⟩⟩ := q
  · obtain ⟨s, e⟩ := h2 v T1 c1 J1 hR
    show gw _ _ _ _ _ (gi 0 :: _) _ _
    refine gw_is5 at388_2183 (h := ?_)
    refine gw_al2 at388_2185 (?_)
    refine gw_call1 at388_2186 e (by omega) (Nat.le_of_ble_eq_true rfl) (fun o M1 q2 => ?_)
    obtain ⟨T2, c2, J2, rfl, rfl, hE, hv2, hvr⟩ := q2
    have hE0 := hE
    obtain ⟨⟨g1, g2⟩, g3, g4, -⟩ := hE
    show gw _ _ _ _ _ (gi v :: _) _ _
    refine gw_is6 at388_2189 (h := ?_)
    refine gw_al2 at388_2191 (gw_callP1 at388_2192 (m_thrown g1 g2) (by omega) (Nat.le_of_ble_eq_true rfl) ?_)
    rw [g3]
    refine gw_il5 at388_2195 (gw_ceq at388_2197 (by decide) (by decide) (fun _ => ?_) (fun q => absurd rfl q))
    refine gw_il5 at388_2202 (gw_zne at388_2204 (by decide) (fun q => absurd rfl q) (fun _ => ?_))
    refine gw_al3 at388_2207 (gw_const at388_2208 (gw_la at388_2209 g4.1 g4.2 (by decide) (by decide) (by decide) ?_))
    rw [hv2]
    refine gw_il6 at388_2210 (gw_i2l at388_2212 hvr (gw_lceq at388_2213 at388_2214 (by omega) (by omega) (fun _ => ?_) (fun q => absurd rfl q)))
    exact gw_goto at388_2219 (hend _ T2 c2 J2 _ _ hE0 rfl rfl)
  · obtain ⟨hk, s, e⟩ := h3 X T1 c1 J1 hR
    show gw _ _ _ _ _ (gi (hm X) :: _) _ _
    refine gw_is5 at388_2183 (h := ?_)
    refine gw_al2 at388_2185 (?_)
    refine gw_call1 at388_2186 e (by omega) (Nat.le_of_ble_eq_true rfl) (fun o M1 q2 => ?_)
    obtain ⟨b, T2, c2, J2, rfl, rfl, hE⟩ := q2
    have hE0 := hE
    obtain ⟨⟨g1, g2⟩, g3, g4, -⟩ := hE
    show gw _ _ _ _ _ (gi b :: _) _ _
    refine gw_is6 at388_2189 (h := ?_)
    refine gw_al2 at388_2191 (gw_callP1 at388_2192 (m_thrown g1 g2) (by omega) (Nat.le_of_ble_eq_true rfl) ?_)
    rw [g3]
    refine gw_il5 at388_2195 (gw_ceq at388_2197 (by omega) (by omega) (fun _ => ?_) (fun q => absurd rfl q))
    refine gw_il5 at388_2202 (gw_zne at388_2204 (by omega) (fun _ => ?_) (fun q => absurd q (by omega)))
    exact gw_goto at388_2219 (hend _ T2 c2 J2 _ _ hE0 rfl rfl)
set_option maxHeartbeats 1000000 in
theorem lc_41 {d HW HM : Nat} {T : gT} {c J : gC} {L : Nat} {i : Int} {E : gT → gC → gC → Prop} {Q : am_O → am_M → Prop} {hm : Nat → Int} {R : (Int ⊕ Nat) → gT → gC → gC → Prop} {u5 u6 : Value} (hHW : HW + 1 ≤ d) (hHM : HM + 1 ≤ d) (hL : (T.1 800000).1 = 41 ∧ (T.1 800000).2.1 = L) (hL2 : L ≤ 3072) (hi : 0 ≤ i ∧ i + 6 ≤ (L : Int)) (hu : am_nl u5 = true) (hv : am_nl u6 = true) (h1 : gE 5 369 HW [.ref 500000, gi (c 800000 (i + 1)), .ref 500002] (gm T c J) (gW hm R)) (h2 : ∀ v T1 c1 J1, R (.inl v) T1 c1 J1 → SCP L c T1 c1 ∧ gE 5 278 HM [.ref 500001, gi (c 800000 (i + 1))] (gm T1 c1 (gu J1 500002 0 v)) (fun o M1 => ∃ T2 c2 J2, o = .inl (some (gi v)) ∧ M1 = gm T2 c2 J2 ∧ ESP E 0 T2 c2 J2 ∧ J2 500002 0 = v ∧ -2147483648 ≤ v ∧ v < 2147483648)) (h3 : ∀ X T1 c1 J1, R (.inr X) T1 c1 J1 → (1 ≤ hm X ∧ hm X ≤ 3) ∧ SCP L c (gTe T1) (gz c1 (700000 + T1.2.1 7)) ∧ gE 5 278 HM [.ref 500001, gi (c 800000 (i + 1))] (gm (gTe T1) (gz c1 (700000 + T1.2.1 7)) (gz J1 (700000 + T1.2.1 7))) (fun o M1 => ∃ b T2 c2 J2, o = .inl (some (gi b)) ∧ M1 = gm T2 c2 J2 ∧ ESP E (hm X) T2 c2 J2)) (hend : ∀ z T2 c2 J2 (k b : Value), ESP E z T2 c2 J2 → am_nl k = true → am_nl b = true → gw d 5 388 3366 [.ref 800000, .ref 500000, .ref 500001, .ref 500002, gi i, k, b] [] (gm T2 c2 J2) Q) : gw d 5 388 2222 [.ref 800000, .ref 500000, .ref 500001, .ref 500002, gi i, u5, u6] [] (gm T c J) Q := by
  refine gw_al1 at388_2222 (gw_al0 at388_2223 (gw_il4 at388_2224 (gw_const at388_2226 (gw_iadd at388_2227 (gw_ia at388_2228 (Or.inr hL.1) hL.2 (by omega) (by omega) (by omega) (gw_al3 at388_2229 (?_)))))))
  refine gw_call3 at388_2230 h1 (by omega) (Nat.le_of_ble_eq_true rfl) (fun o M1 q => ?_)
  obtain ⟨T1, c1, J1, ⟨v, hR, rfl, rfl⟩ | ⟨X, hR, rfl, rfl⟩⟩ := q
  · obtain ⟨s, e⟩ := h2 v T1 c1 J1 hR
    show gw _ _ _ _ _ (gi 0 :: _) _ _
    refine gw_is5 at388_2233 (h := ?_)
    refine gw_al2 at388_2235 (gw_al0 at388_2236 (gw_il4 at388_2237 (gw_const at388_2239 (gw_iadd at388_2240 (gw_ia at388_2241 (Or.inr s.1.1) s.1.2 (by omega) (by omega) (by omega) (?_))))))
    rw [s.2]
    refine gw_call2 at388_2242 e (by omega) (Nat.le_of_ble_eq_true rfl) (fun o M1 q2 => ?_)
    obtain ⟨T2, c2, J2, rfl, rfl, hE, hv2, hvr⟩ := q2
    have hE0 := hE
    obtain ⟨⟨g1, g2⟩, g3, g4, -⟩ := hE
    show gw _ _ _ _ _ (gi v :: _) _ _
    refine gw_is6 at388_2245 (h := ?_)
    refine gw_al2 at388_2247 (gw_callP1 at388_2248 (m_thrown g1 g2) (by omega) (Nat.le_of_ble_eq_true rfl) ?_)
    rw [g3]
    refine gw_il5 at388_2251 (gw_ceq at388_2253 (by decide) (by decide) (fun _ => ?_) (fun q => absurd rfl q))
    refine gw_il5 at388_2258 (gw_zne at388_2260 (by decide) (fun q => absurd rfl q) (fun _ => ?_))
    refine gw_al3 at388_2263 (gw_const at388_2264 (gw_la at388_2265 g4.1 g4.2 (by decide) (by decide) (by decide) ?_))
    rw [hv2]
    refine gw_il6 at388_2266 (gw_i2l at388_2268 hvr (gw_lceq at388_2269 at388_2270 (by omega) (by omega) (fun _ => ?_) (fun q => absurd rfl q)))
    exact gw_goto at388_2275 (hend _ T2 c2 J2 _ _ hE0 rfl rfl)
  · obtain ⟨hk, s, e⟩ := h3 X T1 c1 J1 hR
    show gw _ _ _ _ _ (gi (hm X) :: _) _ _
    refine gw_is5 at388_2233 (h := ?_)
    refine gw_al2 at388_2235 (gw_al0 at388_2236 (gw_il4 at388_2237 (gw_const at388_2239 (gw_iadd at388_2240 (gw_ia at388_2241 (Or.inr s.1.1) s.1.2 (by omega) (by omega) (by omega) (?_))))))
    rw [s.2]
    refine gw_call2 at388_2242 e (by omega) (Nat.le_of_ble_eq_true rfl) (fun o M1 q2 => ?_)
    obtain ⟨b, T2, c2, J2, rfl, rfl, hE⟩ := q2
    have hE0 := hE
    obtain ⟨⟨g1, g2⟩, g3, g4, -⟩ := hE
    show gw _ _ _ _ _ (gi b :: _) _ _
    refine gw_is6 at388_2245 (h := ?_)
    refine gw_al2 at388_2247 (gw_callP1 at388_2248 (m_thrown g1 g2) (by omega) (Nat.le_of_ble_eq_true rfl) ?_)
    rw [g3]
    refine gw_il5 at388_2251 (gw_ceq at388_2253 (by omega) (by omega) (fun _ => ?_) (fun q => absurd rfl q))
    refine gw_il5 at388_2258 (gw_zne at388_2260 (by omega) (fun _ => ?_) (fun q => absurd q (by omega)))
    exact gw_goto at388_2275 (hend _ T2 c2 J2 _ _ hE0 rfl rfl)
set_option maxHeartbeats 1000000 in
theorem lc_42 {d HW HM : Nat} {T : gT} {c J : gC} {i : Int} {E : gT → gC → gC → Prop} {Q : am_O → am_M → Prop} {R : Int → gT → gC → gC → Prop} {u5 u6 : Value} (hHW : HW + 1 ≤ d) (hHM : HM + 1 ≤ d) (hu : am_nl u5 = true) (hv : am_nl u6 = true) (h1 : gE 5 152 HW [.ref 500000] (gm T c J) (fun o M1 => ∃ v T1 c1 J1, o = .inl (some (gi v)) ∧ M1 = gm T1 c1 J1 ∧ R v T1 c1 J1)) (h2 : ∀ v T1 c1 J1, R v T1 c1 J1 → (-2147483648 ≤ v ∧ v < 2147483648) ∧ gE 5 279 HM [.ref 500001] (gm T1 c1 J1) (fun o M1 => ∃ z T2 c2 J2, o = .inl (some (gi v)) ∧ M1 = gm T2 c2 J2 ∧ ESP E z T2 c2 J2)) (hend : ∀ z T2 c2 J2 (k b : Value), ESP E z T2 c2 J2 → am_nl k = true → am_nl b = true → gw d 5 388 3366 [.ref 800000, .ref 500000, .ref 500001, .ref 500002, gi i, k, b] [] (gm T2 c2 J2) Q) : gw d 5 388 2278 [.ref 800000, .ref 500000, .ref 500001, .ref 500002, gi i, u5, u6] [] (gm T c J) Q := by
  refine gw_al1 at388_2278 (gw_call1 at388_2279 h1 (by omega) (Nat.le_of_ble_eq_true rfl) (fun o M1 q => ?_))
  obtain ⟨v, T1, c1, J1, rfl, rfl, hR⟩ := q
  obtain ⟨hr, e⟩ := h2 v T1 c1 J1 hR
  show gw _ _ _ _ _ (gi v :: _) _ _
  refine gw_al2 at388_2282 (gw_call1 at388_2283 e (by omega) (Nat.le_of_ble_eq_true rfl) (fun o M1 q2 => ?_))
  obtain ⟨z, T2, c2, J2, rfl, rfl, hE⟩ := q2
  show gw _ _ _ _ _ (gi v :: _) _ _
  exact gw_ceq at388_2286 hr hr (fun _ => hend _ T2 c2 J2 _ _ hE hu hv) (fun q => absurd rfl q)
set_option maxHeartbeats 1000000 in
theorem lc_43 {d HW HM : Nat} {T : gT} {c J : gC} {i : Int} {E : gT → gC → gC → Prop} {Q : am_O → am_M → Prop} {R : Int → gT → gC → gC → Prop} {u5 u6 : Value} (hHW : HW + 1 ≤ d) (hHM : HM + 1 ≤ d) (hu : am_nl u5 = true) (hv : am_nl u6 = true) (h1 : gE 5 153 HW [.ref 500000] (gm T c J) (fun o M1 => ∃ v T1 c1 J1, o = .inl (some (gi v)) ∧ M1 = gm T1 c1 J1 ∧ R v T1 c1 J1)) (h2 : ∀ v T1 c1 J1, R v T1 c1 J1 → (-2147483648 ≤ v ∧ v < 2147483648) ∧ gE 5 280 HM [.ref 500001] (gm T1 c1 J1) (fun o M1 => ∃ z T2 c2 J2, o = .inl (some (gi v)) ∧ M1 = gm T2 c2 J2 ∧ ESP E z T2 c2 J2)) (hend : ∀ z T2 c2 J2 (k b : Value), ESP E z T2 c2 J2 → am_nl k = true → am_nl b = true → gw d 5 388 3366 [.ref 800000, .ref 500000, .ref 500001, .ref 500002, gi i, k, b] [] (gm T2 c2 J2) Q) : gw d 5 388 2291 [.ref 800000, .ref 500000, .ref 500001, .ref 500002, gi i, u5, u6] [] (gm T c J) Q := by
  refine gw_al1 at388_2291 (gw_call1 at388_2292 h1 (by omega) (Nat.le_of_ble_eq_true rfl) (fun o M1 q => ?_))
  obtain ⟨v, T1, c1, J1, rfl, rfl, hR⟩ := q
  obtain ⟨hr, e⟩ := h2 v T1 c1 J1 hR
  show gw _ _ _ _ _ (gi v :: _) _ _
  refine gw_al2 at388_2295 (gw_call1 at388_2296 e (by omega) (Nat.le_of_ble_eq_true rfl) (fun o M1 q2 => ?_))
  obtain ⟨z, T2, c2, J2, rfl, rfl, hE⟩ := q2
  show gw _ _ _ _ _ (gi v :: _) _ _
  exact gw_ceq at388_2299 hr hr (fun _ => hend _ T2 c2 J2 _ _ hE hu hv) (fun q => absurd rfl q)
set_option maxHeartbeats 1000000 in
theorem lc_44 {d HW HM : Nat} {T : gT} {c J : gC} {L : Nat} {i : Int} {E : gT → gC → gC → Prop} {Q : am_O → am_M → Prop} {hm : Nat → Int} {R : (Int ⊕ Nat) → gT → gC → gC → Prop} {u5 u6 : Value} (hHW : HW + 1 ≤ d) (hHM : HM + 1 ≤ d) (hL : (T.1 800000).1 = 41 ∧ (T.1 800000).2.1 = L) (hL2 : L ≤ 3072) (hi : 0 ≤ i ∧ i + 6 ≤ (L : Int)) (hu : am_nl u5 = true) (hv : am_nl u6 = true) (h1 : gE 5 370 HW [.ref 500000, gi (c 800000 (i + 1)), .ref 500002] (gm T c J) (gW hm R)) (h2 : ∀ v T1 c1 J1, R (.inl v) T1 c1 J1 → SCP L c T1 c1 ∧ gE 5 281 HM [.ref 500001, gi (c 800000 (i + 1))] (gm T1 c1 (gu J1 500002 0 v)) (fun o M1 => ∃ T2 c2 J2, o = .inl (some (gi v)) ∧ M1 = gm T2 c2 J2 ∧ ESP E 0 T2 c2 J2 ∧ J2 500002 0 = v ∧ -2147483648 ≤ v ∧ v < 2147483648)) (h3 : ∀ X T1 c1 J1, R (.inr X) T1 c1 J1 → (1 ≤ hm X ∧ hm X ≤ 3) ∧ SCP L c (gTe T1) (gz c1 (700000 + T1.2.1 7)) ∧ gE 5 281 HM [.ref 500001, gi (c 800000 (i + 1))] (gm (gTe T1) (gz c1 (700000 + T1.2.1 7)) (gz J1 (700000 + T1.2.1 7))) (fun o M1 => ∃ b T2 c2 J2, o = .inl (some (gi b)) ∧ M1 = gm T2 c2 J2 ∧ ESP E (hm X) T2 c2 J2)) (hend : ∀ z T2 c2 J2 (k b : Value), ESP E z T2 c2 J2 → am_nl k = true → am_nl b = true → gw d 5 388 3366 [.ref 800000, .ref 500000, .ref 500001, .ref 500002, gi i, k, b] [] (gm T2 c2 J2) Q) : gw d 5 388 2304 [.ref 800000, .ref 500000, .ref 500001, .ref 500002, gi i, u5, u6] [] (gm T c J) Q := by
  refine gw_al1 at388_2304 (gw_al0 at388_2305 (gw_il4 at388_2306 (gw_const at388_2308 (gw_iadd at388_2309 (gw_ia at388_2310 (Or.inr hL.1) hL.2 (by omega) (by omega) (by omega) (gw_al3 at388_2311 (?_)))))))
  refine gw_call3 at388_2312 h1 (by omega) (Nat.le_of_ble_eq_true rfl) (fun o M1 q => ?_)
  obtain ⟨T1, c1, J1, ⟨v, hR, rfl, rfl⟩ | ⟨X, hR, rfl, rfl⟩⟩ := q
  · obtain ⟨s, e⟩ := h2 v T1 c1 J1 hR
    show gw _ _ _ _ _ (gi 0 :: _) _ _
    refine gw_is5 at388_2315 (h := ?_)
    refine gw_al2 at388_2317 (gw_al0 at388_2318 (gw_il4 at388_2319 (gw_const at388_2321 (gw_iadd at388_2322 (gw_ia at388_2323 (Or.inr s.1.1) s.1.2 (by omega) (by omega) (by omega) (?_))))))
    rw [s.2]
    refine gw_call2 at388_2324 e (by omega) (Nat.le_of_ble_eq_true rfl) (fun o M1 q2 => ?_)
    obtain ⟨T2, c2, J2, rfl, rfl, hE, hv2, hvr⟩ := q2
    have hE0 := hE
    obtain ⟨⟨g1, g2⟩, g3, g4, -⟩ := hE
    show gw _ _ _ _ _ (gi v :: _) _ _
    refine gw_is6 at388_2327 (h := ?_)
    refine gw_al2 at388_2329 (gw_callP1 at388_2330 (m_thrown g1 g2) (by omega) (Nat.le_of_ble_eq_true rfl) ?_)
    rw [g3]
    refine gw_il5 at388_2333 (gw_ceq at388_2335 (by decide) (by decide) (fun _ => ?_) (fun q => absurd rfl q))
    refine gw_il5 at388_2340 (gw_zne at388_2342 (by decide) (fun q => absurd rfl q) (fun _ => ?_))
    refine gw_al3 at388_2345 (gw_const at388_2346 (gw_la at388_2347 g4.1 g4.2 (by decide) (by decide) (by decide) ?_))
    rw [hv2]
    refine gw_il6 at388_2348 (gw_i2l at388_2350 hvr (gw_lceq at388_2351 at388_2352 (by omega) (by omega) (fun _ => ?_) (fun q => absurd rfl q)))
    exact gw_goto at388_2357 (hend _ T2 c2 J2 _ _ hE0 rfl rfl)
  · obtain ⟨hk, s, e⟩ := h3 X T1 c1 J1 hR
    show gw _ _ _ _ _ (gi (hm X) :: _) _ _
    refine gw_is5 at388_2315 (h := ?_)
    refine gw_al2 at388_2317 (gw_al0 at388_2318 (gw_il4 at388_2319 (gw_const at388_2321 (gw_iadd at388_2322 (gw_ia at388_2323 (Or.inr s.1.1) s.1.2 (by omega) (by omega) (by omega) (?_))))))
    rw [s.2]
    refine gw_call2 at388_2324 e (by omega) (Nat.le_of_ble_eq_true rfl) (fun o M1 q2 => ?_)
    obtain ⟨b, T2, c2, J2, rfl, rfl, hE⟩ := q2
    have hE0 := hE
    obtain ⟨⟨g1, g2⟩, g3, g4, -⟩ := hE
    show gw _ _ _ _ _ (gi b :: _) _ _
    refine gw_is6 at388_2327 (h := ?_)
    refine gw_al2 at388_2329 (gw_callP1 at388_2330 (m_thrown g1 g2) (by omega) (Nat.le_of_ble_eq_true rfl) ?_)
    rw [g3]
    refine gw_il5 at388_2333 (gw_ceq at388_2335 (by omega) (by omega) (fun _ => ?_) (fun q => absurd rfl q))
    refine gw_il5 at388_2340 (gw_zne at388_2342 (by omega) (fun _ => ?_) (fun q => absurd q (by omega)))
    exact gw_goto at388_2357 (hend _ T2 c2 J2 _ _ hE0 rfl rfl)
set_option maxHeartbeats 1000000 in
theorem lc_45 {d HW HM : Nat} {T : gT} {c J : gC} {L : Nat} {i : Int} {E : gT → gC → gC → Prop} {Q : am_O → am_M → Prop} {hm : Nat → Int} {R : (Int ⊕ Nat) → gT → gC → gC → Prop} {u5 u6 : Value} (hHW : HW + 1 ≤ d) (hHM : HM + 1 ≤ d) (hL : (T.1 800000).1 = 41 ∧ (T.1 800000).2.1 = L) (hL2 : L ≤ 3072) (hi : 0 ≤ i ∧ i + 6 ≤ (L : Int)) (hu : am_nl u5 = true) (hv : am_nl u6 = true) (h1 : gE 5 371 HW [.ref 500000, gi (c 800000 (i + 1)), .ref 500002] (gm T c J) (gW hm R)) (h2 : ∀ v T1 c1 J1, R (.inl v) T1 c1 J1 → SCP L c T1 c1 ∧ gE 5 282 HM [.ref 500001, gi (c 800000 (i + 1))] (gm T1 c1 (gu J1 500002 0 v)) (fun o M1 => ∃ T2 c2 J2, o = .inl (some (gi v)) ∧ M1 = gm T2 c2 J2 ∧ ESP E 0 T2 c2 J2 ∧ J2 500002 0 = v ∧ -2147483648 ≤ v ∧ v < 2147483648)) (h3 : ∀ X T1 c1 J1, R (.inr X) T1 c1 J1 → (1 ≤ hm X ∧ hm X ≤ 3) ∧ SCP L c (gTe T1) (gz c1 (700000 + T1.2.1 7)) ∧ gE 5 282 HM [.ref 500001, gi (c 800000 (i + 1))] (gm (gTe T1) (gz c1 (700000 + T1.2.1 7)) (gz J1 (700000 + T1.2.1 7))) (fun o M1 => ∃ b T2 c2 J2, o = .inl (some (gi b)) ∧ M1 = gm T2 c2 J2 ∧ ESP E (hm X) T2 c2 J2)) (hend : ∀ z T2 c2 J2 (k b : Value), ESP E z T2 c2 J2 → am_nl k = true → am_nl b = true → gw d 5 388 3366 [.ref 800000, .ref 500000, .ref 500001, .ref 500002, gi i, k, b] [] (gm T2 c2 J2) Q) : gw d 5 388 2360 [.ref 800000, .ref 500000, .ref 500001, .ref 500002, gi i, u5, u6] [] (gm T c J) Q := by
  refine gw_al1 at388_2360 (gw_al0 at388_2361 (gw_il4 at388_2362 (gw_const at388_2364 (gw_iadd at388_2365 (gw_ia at388_2366 (Or.inr hL.1) hL.2 (by omega) (by omega) (by omega) (gw_al3 at388_2367 (?_)))))))
  refine gw_call3 at388_2368 h1 (by omega) (Nat.le_of_ble_eq_true rfl) (fun o M1 q => ?_)
  obtain ⟨T1, c1, J1, ⟨v, hR, rfl, rfl⟩ | ⟨X, hR, rfl, rfl⟩⟩ := q
  · obtain ⟨s, e⟩ := h2 v T1 c1 J1 hR
    show gw _ _ _ _ _ (gi 0 :: _) _ _
    refine gw_is5 at388_2371 (h := ?_)
    refine gw_al2 at388_2373 (gw_al0 at388_2374 (gw_il4 at388_2375 (gw_const at388_2377 (gw_iadd at388_2378 (gw_ia at388_2379 (Or.inr s.1.1) s.1.2 (by omega) (by omega) (by omega) (?_))))))
    rw [s.2]
    refine gw_call2 at388_2380 e (by omega) (Nat.le_of_ble_eq_true rfl) (fun o M1 q2 => ?_)
    obtain ⟨T2, c2, J2, rfl, rfl, hE, hv2, hvr⟩ := q2
    have hE0 := hE
    obtain ⟨⟨g1, g2⟩, g3, g4, -⟩ := hE
    show gw _ _ _ _ _ (gi v :: _) _ _
    refine gw_is6 at388_2383 (h := ?_)
    refine gw_al2 at388_2385 (gw_callP1 at388_2386 (m_thrown g1 g2) (by omega) (Nat.le_of_ble_eq_true rfl) ?_)
    rw [g3]
    refine gw_il5 at388_2389 (gw_ceq at388_2391 (by decide) (by decide) (fun _ => ?_) (fun q => absurd rfl q))
    refine gw_il5 at388_2396 (gw_zne at388_2398 (by decide) (fun q => absurd rfl q) (fun _ => ?_))
    refine gw_al3 at388_2401 (gw_const at388_2402 (gw_la at388_2403 g4.1 g4.2 (by decide) (by decide) (by decide) ?_))
    rw [hv2]
    refine gw_il6 at388_2404 (gw_i2l at388_2406 hvr (gw_lceq at388_2407 at388_2408 (by omega) (by omega) (fun _ => ?_) (fun q => absurd rfl q)))
    exact gw_goto at388_2413 (hend _ T2 c2 J2 _ _ hE0 rfl rfl)
  · obtain ⟨hk, s, e⟩ := h3 X T1 c1 J1 hR
    show gw _ _ _ _ _ (gi (hm X) :: _) _ _
    refine gw_is5 at388_2371 (h := ?_)
    refine gw_al2 at388_2373 (gw_al0 at388_2374 (gw_il4 at388_2375 (gw_const at388_2377 (gw_iadd at388_2378 (gw_ia at388_2379 (Or.inr s.1.1) s.1.2 (by omega) (by omega) (by omega) (?_))))))
    rw [s.2]
    refine gw_call2 at388_2380 e (by omega) (Nat.le_of_ble_eq_true rfl) (fun o M1 q2 => ?_)
    obtain ⟨b, T2, c2, J2, rfl, rfl, hE⟩ := q2
    have hE0 := hE
    obtain ⟨⟨g1, g2⟩, g3, g4, -⟩ := hE
    show gw _ _ _ _ _ (gi b :: _) _ _
    refine gw_is6 at388_2383 (h := ?_)
    refine gw_al2 at388_2385 (gw_callP1 at388_2386 (m_thrown g1 g2) (by omega) (Nat.le_of_ble_eq_true rfl) ?_)
    rw [g3]
    refine gw_il5 at388_2389 (gw_ceq at388_2391 (by omega) (by omega) (fun _ => ?_) (fun q => absurd rfl q))
    refine gw_il5 at388_2396 (gw_zne at388_2398 (by omega) (fun _ => ?_) (fun q => absurd q (by omega)))
    exact gw_goto at388_2413 (hend _ T2 c2 J2 _ _ hE0 rfl rfl)
set_option maxHeartbeats 1000000 in
theorem lc_46 {d HW HM : Nat} {T : gT} {c J : gC} {L : Nat} {i : Int} {E : gT → gC → gC → Prop} {Q : am_O → am_M → Prop} {hm : Nat → Int} {R : (Int ⊕ Nat) → gT → gC → gC → Prop} {u5 u6 : Value} (hHW : HW + 1 ≤ d) (hHM : HM + 1 ≤ d) (hL : (T.1 800000).1 = 41 ∧ (T.1 800000).2.1 = L) (hL2 : L ≤ 3072) (hi : 0 ≤ i ∧ i + 6 ≤ (L : Int)) (hu : am_nl u5 = true) (hv : am_nl u6 = true) (h1 : gE 5 372 HW [.ref 500000, gi (c 800000 (i + 1)), .ref 500002] (gm T c J) (gW hm R)) (h2 : ∀ v T1 c1 J1, R (.inl v) T1 c1 J1 → SCP L c T1 c1 ∧ gE 5 283 HM [.ref 500001, gi (c 800000 (i + 1))] (gm T1 c1 (gu J1 500002 0 v)) (fun o M1 => ∃ T2 c2 J2, o = .inl (some (gi v)) ∧ M1 = gm T2 c2 J2 ∧ ESP E 0 T2 c2 J2 ∧ J2 500002 0 = v ∧ -2147483648 ≤ v ∧ v < 2147483648)) (h3 : ∀ X T1 c1 J1, R (.inr X) T1 c1 J1 → (1 ≤ hm X ∧ hm X ≤ 3) ∧ SCP L c (gTe T1) (gz c1 (700000 + T1.2.1 7)) ∧ gE 5 283 HM [.ref 500001, gi (c 800000 (i + 1))] (gm (gTe T1) (gz c1 (700000 + T1.2.1 7)) (gz J1 (700000 + T1.2.1 7))) (fun o M1 => ∃ b T2 c2 J2, o = .inl (some (gi b)) ∧ M1 = gm T2 c2 J2 ∧ ESP E (hm X) T2 c2 J2)) (hend : ∀ z T2 c2 J2 (k b : Value), ESP E z T2 c2 J2 → am_nl k = true → am_nl b = true → gw d 5 388 3366 [.ref 800000, .ref 500000, .ref 500001, .ref 500002, gi i, k, b] [] (gm T2 c2 J2) Q) : gw d 5 388 2416 [.ref 800000, .ref 500000, .ref 500001, .ref 500002, gi i, u5, u6] [] (gm T c J) Q := by
  refine gw_al1 at388_2416 (gw_al0 at388_2417 (gw_il4 at388_2418 (gw_const at388_2420 (gw_iadd at388_2421 (gw_ia at388_2422 (Or.inr hL.1) hL.2 (by omega) (by omega) (by omega) (gw_al3 at388_2423 (?_)))))))
  refine gw_call3 at388_2424 h1 (by omega) (Nat.le_of_ble_eq_true rfl) (fun o M1 q => ?_)
  obtain ⟨T1, c1, J1, ⟨v, hR, rfl, rfl⟩ | ⟨X, hR, rfl, rfl⟩⟩ := q
  · obtain ⟨s, e⟩ := h2 v T1 c1 J1 hR
    show gw _ _ _ _ _ (gi 0 :: _) _ _
    refine gw_is5 at388_2427 (h := ?_)
    refine gw_al2 at388_2429 (gw_al0 at388_2430 (gw_il4 at388_2431 (gw_const at388_2433 (gw_iadd at388_2434 (gw_ia at388_2435 (Or.inr s.1.1) s.1.2 (by omega) (by omega) (by omega) (?_))))))
    rw [s.2]
    refine gw_call2 at388_2436 e (by omega) (Nat.le_of_ble_eq_true rfl) (fun o M1 q2 => ?_)
    obtain ⟨T2, c2, J2, rfl, rfl, hE, hv2, hvr⟩ := q2
    have hE0 := hE
    obtain ⟨⟨g1, g2⟩, g3, g4, -⟩ := hE
    show gw _ _ _ _ _ (gi v :: _) _ _
    refine gw_is6 at388_2439 (h := ?_)
    refine gw_al2 at388_2441 (gw_callP1 at388_2442 (m_thrown g1 g2) (by omega) (Nat.le_of_ble_eq_true rfl) ?_)
    rw [g3]
    refine gw_il5 at388_2445 (gw_ceq at388_2447 (by decide) (by decide) (fun _ => ?_) (fun q => absurd rfl q))
    refine gw_il5 at388_2452 (gw_zne at388_2454 (by decide) (fun q => absurd rfl q) (fun _ => ?_))
    refine gw_al3 at388_2457 (gw_const at388_2458 (gw_la at388_2459 g4.1 g4.2 (by decide) (by decide) (by decide) ?_))
    rw [hv2]
    refine gw_il6 at388_2460 (gw_i2l at388_2462 hvr (gw_lceq at388_2463 at388_2464 (by omega) (by omega) (fun _ => ?_) (fun q => absurd rfl q)))
    exact gw_goto at388_2469 (hend _ T2 c2 J2 _ _ hE0 rfl rfl)
  · obtain ⟨hk, s, e⟩ := h3 X T1 c1 J1 hR
    show gw _ _ _ _ _ (gi (hm X) :: _) _ _
    refine gw_is5 at388_2427 (h := ?_)
    refine gw_al2 at388_2429 (gw_al0 at388_2430 (gw_il4 at388_2431 (gw_const at388_2433 (gw_iadd at388_2434 (gw_ia at388_2435 (Or.inr s.1.1) s.1.2 (by omega) (by omega) (by omega) (?_))))))
    rw [s.2]
    refine gw_call2 at388_2436 e (by omega) (Nat.le_of_ble_eq_true rfl) (fun o M1 q2 => ?_)
    obtain ⟨b, T2, c2, J2, rfl, rfl, hE⟩ := q2
    have hE0 := hE
    obtain ⟨⟨g1, g2⟩, g3, g4, -⟩ := hE
    show gw _ _ _ _ _ (gi b :: _) _ _
    refine gw_is6 at388_2439 (h := ?_)
    refine gw_al2 at388_2441 (gw_callP1 at388_2442 (m_thrown g1 g2) (by omega) (Nat.le_of_ble_eq_true rfl) ?_)
    rw [g3]
    refine gw_il5 at388_2445 (gw_ceq at388_2447 (by omega) (by omega) (fun _ => ?_) (fun q => absurd rfl q))
    refine gw_il5 at388_2452 (gw_zne at388_2454 (by omega) (fun _ => ?_) (fun q => absurd q (by omega)))
    exact gw_goto at388_2469 (hend _ T2 c2 J2 _ _ hE0 rfl rfl)
set_option maxHeartbeats 1000000 in
theorem lc_47 {d HW HM : Nat} {T : gT} {c J : gC} {L : Nat} {i : Int} {E : gT → gC → gC → Prop} {Q : am_O → am_M → Prop} {hm : Nat → Int} {R : (Int ⊕ Nat) → gT → gC → gC → Prop} {u5 u6 : Value} (hHW : HW + 1 ≤ d) (hHM : HM + 1 ≤ d) (hL : (T.1 800000).1 = 41 ∧ (T.1 800000).2.1 = L) (hL2 : L ≤ 3072) (hi : 0 ≤ i ∧ i + 6 ≤ (L : Int)) (hu : am_nl u5 = true) (hv : am_nl u6 = true) {p : Bool} (hp : p = decide (¬ c 800000 (i + 2) = 0)) (hs : -2147483648 ≤ c 800000 (i + 2) ∧ c 800000 (i + 2) < 2147483648) (h1 : gE 5 373 HW [.ref 500000, gi (c 800000 (i + 1)), gi (bi p), .ref 500002] (gm T c J) (gW hm R)) (h2 : ∀ v T1 c1 J1, R (.inl v) T1 c1 J1 → SCP L c T1 c1 ∧ gE 5 285 HM [.ref 500001, gi (c 800000 (i + 1)), gi (bi p)] (gm T1 c1 (gu J1 500002 0 v)) (fun o M1 => ∃ T2 c2 J2, o = .inl (some (gi v)) ∧ M1 = gm T2 c2 J2 ∧ ESP E 0 T2 c2 J2 ∧ J2 500002 0 = v ∧ -2147483648 ≤ v ∧ v < 2147483648)) (h3 : ∀ X T1 c1 J1, R (.inr X) T1 c1 J1 → (1 ≤ hm X ∧ hm X ≤ 3) ∧ SCP L c (gTe T1) (gz c1 (700000 + T1.2.1 7)) ∧ gE 5 285 HM [.ref 500001, gi (c 800000 (i + 1)), gi (bi p)] (gm (gTe T1) (gz c1 (700000 + T1.2.1 7)) (gz J1 (700000 + T1.2.1 7))) (fun o M1 => ∃ b T2 c2 J2, o = .inl (some (gi b)) ∧ M1 = gm T2 c2 J2 ∧ ESP E (hm X) T2 c2 J2)) (hend : ∀ z T2 c2 J2 (k b : Value), ESP E z T2 c2 J2 → am_nl k = true → am_nl b = true → gw d 5 388 3366 [.ref 800000, .ref 500000, .ref 500001, .ref 500002, gi i, k, b] [] (gm T2 c2 J2) Q) : gw d 5 388 2472 [.ref 800000, .ref 500000, .ref 500001, .ref 500002, gi i, u5, u6] [] (gm T c J) Q := by
  refine gw_al1 at388_2472 (gw_al0 at388_2473 (gw_il4 at388_2474 (gw_const at388_2476 (gw_iadd at388_2477 (gw_ia at388_2478 (Or.inr hL.1) hL.2 (by omega) (by omega) (by omega) (gw_al0 at388_2479 (gw_il4 at388_2480 (gw_const at388_2482 (gw_iadd at388_2483 (gw_ia at388_2484 (Or.inr hL.1) hL.2 (by omega) (by omega) (by omega) (?_)))))))))))
  refine gw_bsel at388_2485 at388_2488 at388_2489 at388_2492 hs hp ?_
  refine gw_al3 at388_2493 (?_)
  refine gw_call4 at388_2494 h1 (by omega) (Nat.le_of_ble_eq_true rfl) (fun o M1 q => ?_)
  obtain ⟨T1, c1, J1, ⟨v, hR, rfl, rfl⟩ | ⟨X, hR, rfl, rfl⟩⟩ := q
  · obtain ⟨s, e⟩ := h2 v T1 c1 J1 hR
    show gw _ _ _ _ _ (gi 0 :: _) _ _
    refine gw_is5 at388_2497 (h := ?_)
    refine gw_al2 at388_2499 (gw_al0 at388_2500 (gw_il4 at388_2501 (gw_const at388_2503 (gw_iadd at388_2504 (gw_ia at388_2505 (Or.inr s.1.1) s.1.2 (by omega) (by omega) (by omega) (gw_al0 at388_2506 (gw_il4 at388_2507 (gw_const at388_2509 (gw_iadd at388_2510 (gw_ia at388_2511 (Or.inr s.1.1) s.1.2 (by omega) (by omega) (by omega) (?_)))))))))))
    rw [s.2]
    refine gw_bsel at388_2512 at388_2515 at388_2516 at388_2519 hs hp ?_
    refine gw_call3 at388_2520 e (by omega) (Nat.le_of_ble_eq_true rfl) (fun o M1 q2 => ?_)
    obtain ⟨T2, c2, J2, rfl, rfl, hE, hv2, hvr⟩ := q2
    have hE0 := hE
    obtain ⟨⟨g1, g2⟩, g3, g4, -⟩ := hE
    show gw _ _ _ _ _ (gi v :: _) _ _
    refine gw_is6 at388_2523 (h := ?_)
    refine gw_al2 at388_2525 (gw_callP1 at388_2526 (m_thrown g1 g2) (by omega) (Nat.le_of_ble_eq_true rfl) ?_)
    rw [g3]
    refine gw_il5 at388_2529 (gw_ceq at388_2531 (by decide) (by decide) (fun _ => ?_) (fun q => absurd rfl q))
    refine gw_il5 at388_2536 (gw_zne at388_2538 (by decide) (fun q => absurd rfl q) (fun _ => ?_))
    refine gw_al3 at388_2541 (gw_const at388_2542 (gw_la at388_2543 g4.1 g4.2 (by decide) (by decide) (by decide) ?_))
    rw [hv2]
    refine gw_il6 at388_2544 (gw_i2l at388_2546 hvr (gw_lceq at388_2547 at388_2548 (by omega) (by omega) (fun _ => ?_) (fun q => absurd rfl q)))
    exact gw_goto at388_2553 (hend _ T2 c2 J2 _ _ hE0 rfl rfl)
  · obtain ⟨hk, s, e⟩ := h3 X T1 c1 J1 hR
    show gw _ _ _ _ _ (gi (hm X) :: _) _ _
    refine gw_is5 at388_2497 (h := ?_)
    refine gw_al2 at388_2499 (gw_al0 at388_2500 (gw_il4 at388_2501 (gw_const at388_2503 (gw_iadd at388_2504 (gw_ia at388_2505 (Or.inr s.1.1) s.1.2 (by omega) (by omega) (by omega) (gw_al0 at388_2506 (gw_il4 at388_2507 (gw_const at388_2509 (gw_iadd at388_2510 (gw_ia at388_2511 (Or.inr s.1.1) s.1.2 (by omega) (by omega) (by omega) (?_)))))))))))
    rw [s.2]
    refine gw_bsel at388_2512 at388_2515 at388_2516 at388_2519 hs hp ?_
    refine gw_call3 at388_2520 e (by omega) (Nat.le_of_ble_eq_true rfl) (fun o M1 q2 => ?_)
    obtain ⟨b, T2, c2, J2, rfl, rfl, hE⟩ := q2
    have hE0 := hE
    obtain ⟨⟨g1, g2⟩, g3, g4, -⟩ := hE
    show gw _ _ _ _ _ (gi b :: _) _ _
    refine gw_is6 at388_2523 (h := ?_)
    refine gw_al2 at388_2525 (gw_callP1 at388_2526 (m_thrown g1 g2) (by omega) (Nat.le_of_ble_eq_true rfl) ?_)
    rw [g3]
    refine gw_il5 at388_2529 (gw_ceq at388_2531 (by omega) (by omega) (fun _ => ?_) (fun q => absurd rfl q))
    refine gw_il5 at388_2536 (gw_zne at388_2538 (by omega) (fun _ => ?_) (fun q => absurd q (by omega)))
    exact gw_goto at388_2553 (hend _ T2 c2 J2 _ _ hE0 rfl rfl)
set_option maxHeartbeats 1000000 in
theorem lc_48 {d HW HM : Nat} {T : gT} {c J : gC} {L : Nat} {i : Int} {E : gT → gC → gC → Prop} {Q : am_O → am_M → Prop} {hm : Nat → Int} {R : (Int ⊕ Nat) → gT → gC → gC → Prop} {u5 u6 : Value} (hHW : HW + 1 ≤ d) (hHM : HM + 1 ≤ d) (hL : (T.1 800000).1 = 41 ∧ (T.1 800000).2.1 = L) (hL2 : L ≤ 3072) (hi : 0 ≤ i ∧ i + 6 ≤ (L : Int)) (hu : am_nl u5 = true) (hv : am_nl u6 = true) (h1 : gE 5 374 HW [.ref 500000, .ref 500002] (gm T c J) (gW hm R)) (h2 : ∀ v T1 c1 J1, R (.inl v) T1 c1 J1 → SCP L c T1 c1 ∧ gE 5 290 HM [.ref 500001] (gm T1 c1 (gu J1 500002 0 v)) (fun o M1 => ∃ T2 c2 J2, o = .inl (some (gi v)) ∧ M1 = gm T2 c2 J2 ∧ ESP E 0 T2 c2 J2 ∧ J2 500002 0 = v ∧ -2147483648 ≤ v ∧ v < 2147483648)) (h3 : ∀ X T1 c1 J1, R (.inr X) T1 c1 J1 → (1 ≤ hm X ∧ hm X ≤ 3) ∧ SCP L c (gTe T1) (gz c1 (700000 + T1.2.1 7)) ∧ gE 5 290 HM [.ref 500001] (gm (gTe T1) (gz c1 (700000 + T1.2.1 7)) (gz J1 (700000 + T1.2.1 7))) (fun o M1 => ∃ b T2 c2 J2, o = .inl (some (gi b)) ∧ M1 = gm T2 c2 J2 ∧ ESP E (hm X) T2 c2 J2)) (hend : ∀ z T2 c2 J2 (k b : Value), ESP E z T2 c2 J2 → am_nl k = true → am_nl b = true → gw d 5 388 3366 [.ref 800000, .ref 500000, .ref 500001, .ref 500002, gi i, k, b] [] (gm T2 c2 J2) Q) : gw d 5 388 2556 [.ref 800000, .ref 500000, .ref 500001, .ref 500002, gi i, u5, u6] [] (gm T c J) Q := by
  refine gw_al1 at388_2556 (gw_al3 at388_2557 (?_))
  refine gw_call2 at388_2558 h1 (by omega) (Nat.le_of_ble_eq_true rfl) (fun o M1 q => ?_)
  obtain ⟨T1, c1, J1, ⟨v, hR, rfl, rfl⟩ | ⟨X, hR, rfl, rfl⟩⟩ := q
  · obtain ⟨s, e⟩ := h2 v T1 c1 J1 hR
    show gw _ _ _ _ _ (gi 0 :: _) _ _
    refine gw_is5 at388_2561 (h := ?_)
    refine gw_al2 at388_2563 (?_)
    refine gw_call1 at388_2564 e (by omega) (Nat.le_of_ble_eq_true rfl) (fun o M1 q2 => ?_)
    obtain ⟨T2, c2, J2, rfl, rfl, hE, hv2, hvr⟩ := q2
    have hE0 := hE
    obtain ⟨⟨g1, g2⟩, g3, g4, -⟩ := hE
    show gw _ _ _ _ _ (gi v :: _) _ _
    refine gw_is6 at388_2567 (h := ?_)
    refine gw_al2 at388_2569 (gw_callP1 at388_2570 (m_thrown g1 g2) (by omega) (Nat.le_of_ble_eq_true rfl) ?_)
    rw [g3]
    refine gw_il5 at388_2573 (gw_ceq at388_2575 (by decide) (by decide) (fun _ => ?_) (fun q => absurd rfl q))
    refine gw_il5 at388_2580 (gw_zne at388_2582 (by decide) (fun q => absurd rfl q) (fun _ => ?_))
    refine gw_al3 at388_2585 (gw_const at388_2586 (gw_la at388_2587 g4.1 g4.2 (by decide) (by decide) (by decide) ?_))
    rw [hv2]
    refine gw_il6 at388_2588 (gw_i2l at388_2590 hvr (gw_lceq at388_2591 at388_2592 (by omega) (by omega) (fun _ => ?_) (fun q => absurd rfl q)))
    exact gw_goto at388_2597 (hend _ T2 c2 J2 _ _ hE0 rfl rfl)
  · obtain ⟨hk, s, e⟩ := h3 X T1 c1 J1 hR
    show gw _ _ _ _ _ (gi (hm X) :: _) _ _
    refine gw_is5 at388_2561 (h := ?_)
    refine gw_al2 at388_2563 (?_)
    refine gw_call1 at388_2564 e (by omega) (Nat.le_of_ble_eq_true rfl) (fun o M1 q2 => ?_)
    obtain ⟨b, T2, c2, J2, rfl, rfl, hE⟩ := q2
    have hE0 := hE
    obtain ⟨⟨g1, g2⟩, g3, g4, -⟩ := hE
    show gw _ _ _ _ _ (gi b :: _) _ _
    refine gw_is6 at388_2567 (h := ?_)
    refine gw_al2 at388_2569 (gw_callP1 at388_2570 (m_thrown g1 g2) (by omega) (Nat.le_of_ble_eq_true rfl) ?_)
    rw [g3]
    refine gw_il5 at388_2573 (gw_ceq at388_2575 (by omega) (by omega) (fun _ => ?_) (fun q => absurd rfl q))
    refine gw_il5 at388_2580 (gw_zne at388_2582 (by omega) (fun _ => ?_) (fun q => absurd q (by omega)))
    exact gw_goto at388_2597 (hend _ T2 c2 J2 _ _ hE0 rfl rfl)
set_option maxHeartbeats 1000000 in
theorem lc_49 {d HW HM : Nat} {T : gT} {c J : gC} {i : Int} {E : gT → gC → gC → Prop} {Q : am_O → am_M → Prop} {R : Int → gT → gC → gC → Prop} {u5 u6 : Value} (hHW : HW + 1 ≤ d) (hHM : HM + 1 ≤ d) (hu : am_nl u5 = true) (hv : am_nl u6 = true) (h1 : gE 5 158 HW [.ref 500000] (gm T c J) (fun o M1 => ∃ v T1 c1 J1, o = .inl (some (gi v)) ∧ M1 = gm T1 c1 J1 ∧ R v T1 c1 J1)) (h2 : ∀ v T1 c1 J1, R v T1 c1 J1 → (-2147483648 ≤ v ∧ v < 2147483648) ∧ gE 5 291 HM [.ref 500001] (gm T1 c1 J1) (fun o M1 => ∃ z T2 c2 J2, o = .inl (some (gi v)) ∧ M1 = gm T2 c2 J2 ∧ ESP E z T2 c2 J2)) (hend : ∀ z T2 c2 J2 (k b : Value), ESP E z T2 c2 J2 → am_nl k = true → am_nl b = true → gw d 5 388 3366 [.ref 800000, .ref 500000, .ref 500001, .ref 500002, gi i, k, b] [] (gm T2 c2 J2) Q) : gw d 5 388 2600 [.ref 800000, .ref 500000, .ref 500001, .ref 500002, gi i, u5, u6] [] (gm T c J) Q := by
  refine gw_al1 at388_2600 (gw_call1 at388_2601 h1 (by omega) (Nat.le_of_ble_eq_true rfl) (fun o M1 q => ?_))
  obtain ⟨v, T1, c1, J1, rfl, rfl, hR⟩ := q
  obtain ⟨hr, e⟩ := h2 v T1 c1 J1 hR
  show gw _ _ _ _ _ (gi v :: _) _ _
  refine gw_al2 at388_2604 (gw_call1 at388_2605 e (by omega) (Nat.le_of_ble_eq_true rfl) (fun o M1 q2 => ?_))
  obtain ⟨z, T2, c2, J2, rfl, rfl, hE⟩ := q2
  show gw _ _ _ _ _ (gi v :: _) _ _
  exact gw_ceq at388_2608 hr hr (fun _ => hend _ T2 c2 J2 _ _ hE hu hv) (fun q => absurd rfl q)
set_option maxHeartbeats 1000000 in
theorem lc_50 {d HW HM : Nat} {T : gT} {c J : gC} {i : Int} {E : gT → gC → gC → Prop} {Q : am_O → am_M → Prop} {R : Int → gT → gC → gC → Prop} {u5 u6 : Value} (hHW : HW + 1 ≤ d) (hHM : HM + 1 ≤ d) (hu : am_nl u5 = true) (hv : am_nl u6 = true) (h1 : gE 5 159 HW [.ref 500000] (gm T c J) (fun o M1 => ∃ v T1 c1 J1, o = .inl (some (gi v)) ∧ M1 = gm T1 c1 J1 ∧ R v T1 c1 J1)) (h2 : ∀ v T1 c1 J1, R v T1 c1 J1 → (-2147483648 ≤ v ∧ v < 2147483648) ∧ gE 5 330 HM [.ref 500001] (gm T1 c1 J1) (fun o M1 => ∃ z T2 c2 J2, o = .inl (some (gi v)) ∧ M1 = gm T2 c2 J2 ∧ ESP E z T2 c2 J2)) (hend : ∀ z T2 c2 J2 (k b : Value), ESP E z T2 c2 J2 → am_nl k = true → am_nl b = true → gw d 5 388 3366 [.ref 800000, .ref 500000, .ref 500001, .ref 500002, gi i, k, b] [] (gm T2 c2 J2) Q) : gw d 5 388 2613 [.ref 800000, .ref 500000, .ref 500001, .ref 500002, gi i, u5, u6] [] (gm T c J) Q := by
  refine gw_al1 at388_2613 (gw_call1 at388_2614 h1 (by omega) (Nat.le_of_ble_eq_true rfl) (fun o M1 q => ?_))
  obtain ⟨v, T1, c1, J1, rfl, rfl, hR⟩ := q
  obtain ⟨hr, e⟩ := h2 v T1 c1 J1 hR
  show gw _ _ _ _ _ (gi v :: _) _ _
  refine gw_al2 at388_2617 (gw_call1 at388_2618 e (by omega) (Nat.le_of_ble_eq_true rfl) (fun o M1 q2 => ?_))
  obtain ⟨z, T2, c2, J2, rfl, rfl, hE⟩ := q2
  show gw _ _ _ _ _ (gi v :: _) _ _
  exact gw_ceq at388_2621 hr hr (fun _ => hend _ T2 c2 J2 _ _ hE hu hv) (fun q => absurd rfl q)
set_option maxHeartbeats 1000000 in
theorem lc_51 {d HW HM : Nat} {T : gT} {c J : gC} {L : Nat} {i : Int} {E : gT → gC → gC → Prop} {Q : am_O → am_M → Prop} {hm : Nat → Int} {R : (Int ⊕ Nat) → gT → gC → gC → Prop} {u5 u6 : Value} (hHW : HW + 1 ≤ d) (hHM : HM + 1 ≤ d) (hL : (T.1 800000).1 = 41 ∧ (T.1 800000).2.1 = L) (hL2 : L ≤ 3072) (hi : 0 ≤ i ∧ i + 6 ≤ (L : Int)) (hu : am_nl u5 = true) (hv : am_nl u6 = true) (h1 : gE 5 375 HW [.ref 500000, gi (c 800000 (i + 1)), .ref 500002] (gm T c J) (gW hm R)) (h2 : ∀ v T1 c1 J1, R (.inl v) T1 c1 J1 → SCP L c T1 c1 ∧ gE 5 331 HM [.ref 500001, gi (c 800000 (i + 1))] (gm T1 c1 (gu J1 500002 0 v)) (fun o M1 => ∃ T2 c2 J2, o = .inl (some (gi v)) ∧ M1 = gm T2 c2 J2 ∧ ESP E 0 T2 c2 J2 ∧ J2 500002 0 = v ∧ -2147483648 ≤ v ∧ v < 2147483648)) (h3 : ∀ X T1 c1 J1, R (.inr X) T1 c1 J1 → (1 ≤ hm X ∧ hm X ≤ 3) ∧ SCP L c (gTe T1) (gz c1 (700000 + T1.2.1 7)) ∧ gE 5 331 HM [.ref 500001, gi (c 800000 (i + 1))] (gm (gTe T1) (gz c1 (700000 + T1.2.1 7)) (gz J1 (700000 + T1.2.1 7))) (fun o M1 => ∃ b T2 c2 J2, o = .inl (some (gi b)) ∧ M1 = gm T2 c2 J2 ∧ ESP E (hm X) T2 c2 J2)) (hend : ∀ z T2 c2 J2 (k b : Value), ESP E z T2 c2 J2 → am_nl k = true → am_nl b = true → gw d 5 388 3366 [.ref 800000, .ref 500000, .ref 500001, .ref 500002, gi i, k, b] [] (gm T2 c2 J2) Q) : gw d 5 388 2626 [.ref 800000, .ref 500000, .ref 500001, .ref 500002, gi i, u5, u6] [] (gm T c J) Q := by
  refine gw_al1 at388_2626 (gw_al0 at388_2627 (gw_il4 at388_2628 (gw_const at388_2630 (gw_iadd at388_2631 (gw_ia at388_2632 (Or.inr hL.1) hL.2 (by omega) (by omega) (by omega) (gw_al3 at388_2633 (?_)))))))
  refine gw_call3 at388_2634 h1 (by omega) (Nat.le_of_ble_eq_true rfl) (fun o M1 q => ?_)
  obtain ⟨T1, c1, J1, ⟨v, hR, rfl, rfl⟩ | ⟨X, hR, rfl, rfl⟩⟩ := q
  · obtain ⟨s, e⟩ := h2 v T1 c1 J1 hR
    show gw _ _ _ _ _ (gi 0 :: _) _ _
    refine gw_is5 at388_2637 (h := ?_)
    refine gw_al2 at388_2639 (gw_al0 at388_2640 (gw_il4 at388_2641 (gw_const at388_2643 (gw_iadd at388_2644 (gw_ia at388_2645 (Or.inr s.1.1) s.1.2 (by omega) (by omega) (by omega) (?_))))))
    rw [s.2]
    refine gw_call2 at388_2646 e (by omega) (Nat.le_of_ble_eq_true rfl) (fun o M1 q2 => ?_)
    obtain ⟨T2, c2, J2, rfl, rfl, hE, hv2, hvr⟩ := q2
    have hE0 := hE
    obtain ⟨⟨g1, g2⟩, g3, g4, -⟩ := hE
    show gw _ _ _ _ _ (gi v :: _) _ _
    refine gw_is6 at388_2649 (h := ?_)
    refine gw_al2 at388_2651 (gw_callP1 at388_2652 (m_thrown g1 g2) (by omega) (Nat.le_of_ble_eq_true rfl) ?_)
    rw [g3]
    refine gw_il5 at388_2655 (gw_ceq at388_2657 (by decide) (by decide) (fun _ => ?_) (fun q => absurd rfl q))
    refine gw_il5 at388_2662 (gw_zne at388_2664 (by decide) (fun q => absurd rfl q) (fun _ => ?_))
    refine gw_al3 at388_2667 (gw_const at388_2668 (gw_la at388_2669 g4.1 g4.2 (by decide) (by decide) (by decide) ?_))
    rw [hv2]
    refine gw_il6 at388_2670 (gw_i2l at388_2672 hvr (gw_lceq at388_2673 at388_2674 (by omega) (by omega) (fun _ => ?_) (fun q => absurd rfl q)))
    exact gw_goto at388_2679 (hend _ T2 c2 J2 _ _ hE0 rfl rfl)
  · obtain ⟨hk, s, e⟩ := h3 X T1 c1 J1 hR
    show gw _ _ _ _ _ (gi (hm X) :: _) _ _
    refine gw_is5 at388_2637 (h := ?_)
    refine gw_al2 at388_2639 (gw_al0 at388_2640 (gw_il4 at388_2641 (gw_const at388_2643 (gw_iadd at388_2644 (gw_ia at388_2645 (Or.inr s.1.1) s.1.2 (by omega) (by omega) (by omega) (?_))))))
    rw [s.2]
    refine gw_call2 at388_2646 e (by omega) (Nat.le_of_ble_eq_true rfl) (fun o M1 q2 => ?_)
    obtain ⟨b, T2, c2, J2, rfl, rfl, hE⟩ := q2
    have hE0 := hE
    obtain ⟨⟨g1, g2⟩, g3, g4, -⟩ := hE
    show gw _ _ _ _ _ (gi b :: _) _ _
    refine gw_is6 at388_2649 (h := ?_)
    refine gw_al2 at388_2651 (gw_callP1 at388_2652 (m_thrown g1 g2) (by omega) (Nat.le_of_ble_eq_true rfl) ?_)
    rw [g3]
    refine gw_il5 at388_2655 (gw_ceq at388_2657 (by omega) (by omega) (fun _ => ?_) (fun q => absurd rfl q))
    refine gw_il5 at388_2662 (gw_zne at388_2664 (by omega) (fun _ => ?_) (fun q => absurd q (by omega)))
    exact gw_goto at388_2679 (hend _ T2 c2 J2 _ _ hE0 rfl rfl)
set_option maxHeartbeats 1000000 in
theorem lc_52 {d HW HM : Nat} {T : gT} {c J : gC} {L : Nat} {i : Int} {E : gT → gC → gC → Prop} {Q : am_O → am_M → Prop} {hm : Nat → Int} {R : (Int ⊕ Nat) → gT → gC → gC → Prop} {u5 u6 : Value} (hHW : HW + 1 ≤ d) (hHM : HM + 1 ≤ d) (hL : (T.1 800000).1 = 41 ∧ (T.1 800000).2.1 = L) (hL2 : L ≤ 3072) (hi : 0 ≤ i ∧ i + 6 ≤ (L : Int)) (hu : am_nl u5 = true) (hv : am_nl u6 = true) (h1 : gE 5 376 HW [.ref 500000, gi (c 800000 (i + 1)), .ref 500002] (gm T c J) (gW hm R)) (h2 : ∀ v T1 c1 J1, R (.inl v) T1 c1 J1 → SCP L c T1 c1 ∧ gE 5 266 HM [.ref 500001, gi (c 800000 (i + 1))] (gm T1 c1 (gu J1 500002 0 v)) (fun o M1 => ∃ T2 c2 J2, o = .inl (some (gi v)) ∧ M1 = gm T2 c2 J2 ∧ ESP E 0 T2 c2 J2 ∧ J2 500002 0 = v ∧ -2147483648 ≤ v ∧ v < 2147483648)) (h3 : ∀ X T1 c1 J1, R (.inr X) T1 c1 J1 → (1 ≤ hm X ∧ hm X ≤ 3) ∧ SCP L c (gTe T1) (gz c1 (700000 + T1.2.1 7)) ∧ gE 5 266 HM [.ref 500001, gi (c 800000 (i + 1))] (gm (gTe T1) (gz c1 (700000 + T1.2.1 7)) (gz J1 (700000 + T1.2.1 7))) (fun o M1 => ∃ b T2 c2 J2, o = .inl (some (gi b)) ∧ M1 = gm T2 c2 J2 ∧ ESP E (hm X) T2 c2 J2)) (hend : ∀ z T2 c2 J2 (k b : Value), ESP E z T2 c2 J2 → am_nl k = true → am_nl b = true → gw d 5 388 3366 [.ref 800000, .ref 500000, .ref 500001, .ref 500002, gi i, k, b] [] (gm T2 c2 J2) Q) : gw d 5 388 2682 [.ref 800000, .ref 500000, .ref 500001, .ref 500002, gi i, u5, u6] [] (gm T c J) Q := by
  refine gw_al1 at388_2682 (gw_al0 at388_2683 (gw_il4 at388_2684 (gw_const at388_2686 (gw_iadd at388_2687 (gw_ia at388_2688 (Or.inr hL.1) hL.2 (by omega) (by omega) (by omega) (gw_al3 at388_2689 (?_)))))))
  refine gw_call3 at388_2690 h1 (by omega) (Nat.le_of_ble_eq_true rfl) (fun o M1 q => ?_)
  obtain ⟨T1, c1, J1, ⟨v, hR, rfl, rfl⟩ | ⟨X, hR, rfl, rfl⟩⟩ := q
  · obtain ⟨s, e⟩ := h2 v T1 c1 J1 hR
    show gw _ _ _ _ _ (gi 0 :: _) _ _
    refine gw_is5 at388_2693 (h := ?_)
    refine gw_al2 at388_2695 (gw_al0 at388_2696 (gw_il4 at388_2697 (gw_const at388_2699 (gw_iadd at388_2700 (gw_ia at388_2701 (Or.inr s.1.1) s.1.2 (by omega) (by omega) (by omega) (?_))))))
    rw [s.2]
    refine gw_call2 at388_2702 e (by omega) (Nat.le_of_ble_eq_true rfl) (fun o M1 q2 => ?_)
    obtain ⟨T2, c2, J2, rfl, rfl, hE, hv2, hvr⟩ := q2
    have hE0 := hE
    obtain ⟨⟨g1, g2⟩, g3, g4, -⟩ := hE
    show gw _ _ _ _ _ (gi v :: _) _ _
    refine gw_is6 at388_2705 (h := ?_)
    refine gw_al2 at388_2707 (gw_callP1 at388_2708 (m_thrown g1 g2) (by omega) (Nat.le_of_ble_eq_true rfl) ?_)
    rw [g3]
    refine gw_il5 at388_2711 (gw_ceq at388_2713 (by decide) (by decide) (fun _ => ?_) (fun q => absurd rfl q))
    refine gw_il5 at388_2718 (gw_zne at388_2720 (by decide) (fun q => absurd rfl q) (fun _ => ?_))
    refine gw_al3 at388_2723 (gw_const at388_2724 (gw_la at388_2725 g4.1 g4.2 (by decide) (by decide) (by decide) ?_))
    rw [hv2]
    refine gw_il6 at388_2726 (gw_i2l at388_2728 hvr (gw_lceq at388_2729 at388_2730 (by omega) (by omega) (fun _ => ?_) (fun q => absurd rfl q)))
    exact gw_goto at388_2735 (hend _ T2 c2 J2 _ _ hE0 rfl rfl)
  · obtain ⟨hk, s, e⟩ := h3 X T1 c1 J1 hR
    show gw _ _ _ _ _ (gi (hm X) :: _) _ _
    refine gw_is5 at388_2693 (h := ?_)
    refine gw_al2 at388_2695 (gw_al0 at388_2696 (gw_il4 at388_2697 (gw_const at388_2699 (gw_iadd at388_2700 (gw_ia at388_2701 (Or.inr s.1.1) s.1.2 (by omega) (by omega) (by omega) (?_))))))
    rw [s.2]
    refine gw_call2 at388_2702 e (by omega) (Nat.le_of_ble_eq_true rfl) (fun o M1 q2 => ?_)
    obtain ⟨b, T2, c2, J2, rfl, rfl, hE⟩ := q2
    have hE0 := hE
    obtain ⟨⟨g1, g2⟩, g3, g4, -⟩ := hE
    show gw _ _ _ _ _ (gi b :: _) _ _
    refine gw_is6 at388_2705 (h := ?_)
    refine gw_al2 at388_2707 (gw_callP1 at388_2708 (m_thrown g1 g2) (by omega) (Nat.le_of_ble_eq_true rfl) ?_)
    rw [g3]
    refine gw_il5 at388_2711 (gw_ceq at388_2713 (by omega) (by omega) (fun _ => ?_) (fun q => absurd rfl q))
    refine gw_il5 at388_2718 (gw_zne at388_2720 (by omega) (fun _ => ?_) (fun q => absurd q (by omega)))
    exact gw_goto at388_2735 (hend _ T2 c2 J2 _ _ hE0 rfl rfl)
set_option maxHeartbeats 1000000 in
theorem lc_53 {d HW HM : Nat} {T : gT} {c J : gC} {L : Nat} {i : Int} {E : gT → gC → gC → Prop} {Q : am_O → am_M → Prop} {hm : Nat → Int} {R : (Int ⊕ Nat) → gT → gC → gC → Prop} {u5 u6 : Value} (hHW : HW + 1 ≤ d) (hHM : HM + 1 ≤ d) (hL : (T.1 800000).1 = 41 ∧ (T.1 800000).2.1 = L) (hL2 : L ≤ 3072) (hi : 0 ≤ i ∧ i + 6 ≤ (L : Int)) (hu : am_nl u5 = true) (hv : am_nl u6 = true) (h1 : gE 5 377 HW [.ref 500000, gi (c 800000 (i + 1)), .ref 500002] (gm T c J) (gW hm R)) (h2 : ∀ v T1 c1 J1, R (.inl v) T1 c1 J1 → SCP L c T1 c1 ∧ gE 5 227 HM [.ref 500001, gi (c 800000 (i + 1))] (gm T1 c1 (gu J1 500002 0 v)) (fun o M1 => ∃ T2 c2 J2, o = .inl (some (gi v)) ∧ M1 = gm T2 c2 J2 ∧ ESP E 0 T2 c2 J2 ∧ J2 500002 0 = v ∧ -2147483648 ≤ v ∧ v < 2147483648)) (h3 : ∀ X T1 c1 J1, R (.inr X) T1 c1 J1 → (1 ≤ hm X ∧ hm X ≤ 3) ∧ SCP L c (gTe T1) (gz c1 (700000 + T1.2.1 7)) ∧ gE 5 227 HM [.ref 500001, gi (c 800000 (i + 1))] (gm (gTe T1) (gz c1 (700000 + T1.2.1 7)) (gz J1 (700000 + T1.2.1 7))) (fun o M1 => ∃ b T2 c2 J2, o = .inl (some (gi b)) ∧ M1 = gm T2 c2 J2 ∧ ESP E (hm X) T2 c2 J2)) (hend : ∀ z T2 c2 J2 (k b : Value), ESP E z T2 c2 J2 → am_nl k = true → am_nl b = true → gw d 5 388 3366 [.ref 800000, .ref 500000, .ref 500001, .ref 500002, gi i, k, b] [] (gm T2 c2 J2) Q) : gw d 5 388 2738 [.ref 800000, .ref 500000, .ref 500001, .ref 500002, gi i, u5, u6] [] (gm T c J) Q := by
  refine gw_al1 at388_2738 (gw_al0 at388_2739 (gw_il4 at388_2740 (gw_const at388_2742 (gw_iadd at388_2743 (gw_ia at388_2744 (Or.inr hL.1) hL.2 (by omega) (by omega) (by omega) (gw_al3 at388_2745 (?_)))))))
  refine gw_call3 at388_2746 h1 (by omega) (Nat.le_of_ble_eq_true rfl) (fun o M1 q => ?_)
  obtain ⟨T1, c1, J1, ⟨v, hR, rfl, rfl⟩ | ⟨X, hR, rfl, rfl⟩⟩ := q
  · obtain ⟨s, e⟩ := h2 v T1 c1 J1 hR
    show gw _ _ _ _ _ (gi 0 :: _) _ _
    refine gw_is5 at388_2749 (h := ?_)
    refine gw_al2 at388_2751 (gw_al0 at388_2752 (gw_il4 at388_2753 (gw_const at388_2755 (gw_iadd at388_2756 (gw_ia at388_2757 (Or.inr s.1.1) s.1.2 (by omega) (by omega) (by omega) (?_))))))
    rw [s.2]
    refine gw_call2 at388_2758 e (by omega) (Nat.le_of_ble_eq_true rfl) (fun o M1 q2 => ?_)
    obtain ⟨T2, c2, J2, rfl, rfl, hE, hv2, hvr⟩ := q2
    have hE0 := hE
    obtain ⟨⟨g1, g2⟩, g3, g4, -⟩ := hE
    show gw _ _ _ _ _ (gi v :: _) _ _
    refine gw_is6 at388_2761 (h := ?_)
    refine gw_al2 at388_2763 (gw_callP1 at388_2764 (m_thrown g1 g2) (by omega) (Nat.le_of_ble_eq_true rfl) ?_)
    rw [g3]
    refine gw_il5 at388_2767 (gw_ceq at388_2769 (by decide) (by decide) (fun _ => ?_) (fun q => absurd rfl q))
    refine gw_il5 at388_2774 (gw_zne at388_2776 (by decide) (fun q => absurd rfl q) (fun _ => ?_))
    refine gw_al3 at388_2779 (gw_const at388_2780 (gw_la at388_2781 g4.1 g4.2 (by decide) (by decide) (by decide) ?_))
    rw [hv2]
    refine gw_il6 at388_2782 (gw_i2l at388_2784 hvr (gw_lceq at388_2785 at388_2786 (by omega) (by omega) (fun _ => ?_) (fun q => absurd rfl q)))
    exact gw_goto at388_2791 (hend _ T2 c2 J2 _ _ hE0 rfl rfl)
  · obtain ⟨hk, s, e⟩ := h3 X T1 c1 J1 hR
    show gw _ _ _ _ _ (gi (hm X) :: _) _ _
    refine gw_is5 at388_2749 (h := ?_)
    refine gw_al2 at388_2751 (gw_al0 at388_2752 (gw_il4 at388_2753 (gw_const at388_2755 (gw_iadd at388_2756 (gw_ia at388_2757 (Or.inr s.1.1) s.1.2 (by omega) (by omega) (by omega) (?_))))))
    rw [s.2]
    refine gw_call2 at388_2758 e (by omega) (Nat.le_of_ble_eq_true rfl) (fun o M1 q2 => ?_)
    obtain ⟨b, T2, c2, J2, rfl, rfl, hE⟩ := q2
    have hE0 := hE
    obtain ⟨⟨g1, g2⟩, g3, g4, -⟩ := hE
    show gw _ _ _ _ _ (gi b :: _) _ _
    refine gw_is6 at388_2761 (h := ?_)
    refine gw_al2 at388_2763 (gw_callP1 at388_2764 (m_thrown g1 g2) (by omega) (Nat.le_of_ble_eq_true rfl) ?_)
    rw [g3]
    refine gw_il5 at388_2767 (gw_ceq at388_2769 (by omega) (by omega) (fun _ => ?_) (fun q => absurd rfl q))
    refine gw_il5 at388_2774 (gw_zne at388_2776 (by omega) (fun _ => ?_) (fun q => absurd q (by omega)))
    exact gw_goto at388_2791 (hend _ T2 c2 J2 _ _ hE0 rfl rfl)
set_option maxHeartbeats 1000000 in
theorem lc_54 {d HW HM : Nat} {T : gT} {c J : gC} {L : Nat} {i : Int} {E : gT → gC → gC → Prop} {Q : am_O → am_M → Prop} {hm : Nat → Int} {R : (Int ⊕ Nat) → gT → gC → gC → Prop} {u5 u6 : Value} (hHW : HW + 1 ≤ d) (hHM : HM + 1 ≤ d) (hL : (T.1 800000).1 = 41 ∧ (T.1 800000).2.1 = L) (hL2 : L ≤ 3072) (hi : 0 ≤ i ∧ i + 6 ≤ (L : Int)) (hu : am_nl u5 = true) (hv : am_nl u6 = true) (h1 : gE 5 378 HW [.ref 500000, gi (c 800000 (i + 1)), .ref 500002] (gm T c J) (gW hm R)) (h2 : ∀ v T1 c1 J1, R (.inl v) T1 c1 J1 → SCP L c T1 c1 ∧ gE 5 229 HM [.ref 500001, gi (c 800000 (i + 1))] (gm T1 c1 (gu J1 500002 0 v)) (fun o M1 => ∃ T2 c2 J2, o = .inl (some (gi v)) ∧ M1 = gm T2 c2 J2 ∧ ESP E 0 T2 c2 J2 ∧ J2 500002 0 = v ∧ -2147483648 ≤ v ∧ v < 2147483648)) (h3 : ∀ X T1 c1 J1, R (.inr X) T1 c1 J1 → (1 ≤ hm X ∧ hm X ≤ 3) ∧ SCP L c (gTe T1) (gz c1 (700000 + T1.2.1 7)) ∧ gE 5 229 HM [.ref 500001, gi (c 800000 (i + 1))] (gm (gTe T1) (gz c1 (700000 + T1.2.1 7)) (gz J1 (700000 + T1.2.1 7))) (fun o M1 => ∃ b T2 c2 J2, o = .inl (some (gi b)) ∧ M1 = gm T2 c2 J2 ∧ ESP E (hm X) T2 c2 J2)) (hend : ∀ z T2 c2 J2 (k b : Value), ESP E z T2 c2 J2 → am_nl k = true → am_nl b = true → gw d 5 388 3366 [.ref 800000, .ref 500000, .ref 500001, .ref 500002, gi i, k, b] [] (gm T2 c2 J2) Q) : gw d 5 388 2794 [.ref 800000, .ref 500000, .ref 500001, .ref 500002, gi i, u5, u6] [] (gm T c J) Q := by
  refine gw_al1 at388_2794 (gw_al0 at388_2795 (gw_il4 at388_2796 (gw_const at388_2798 (gw_iadd at388_2799 (gw_ia at388_2800 (Or.inr hL.1) hL.2 (by omega) (by omega) (by omega) (gw_al3 at388_2801 (?_)))))))
  refine gw_call3 at388_2802 h1 (by omega) (Nat.le_of_ble_eq_true rfl) (fun o M1 q => ?_)
  obtain ⟨T1, c1, J1, ⟨v, hR, rfl, rfl⟩ | ⟨X, hR, rfl, rfl⟩⟩ := q
  · obtain ⟨s, e⟩ := h2 v T1 c1 J1 hR
    show gw _ _ _ _ _ (gi 0 :: _) _ _
    refine gw_is5 at388_2805 (h := ?_)
    refine gw_al2 at388_2807 (gw_al0 at388_2808 (gw_il4 at388_2809 (gw_const at388_2811 (gw_iadd at388_2812 (gw_ia at388_2813 (Or.inr s.1.1) s.1.2 (by omega) (by omega) (by omega) (?_))))))
    rw [s.2]
    refine gw_call2 at388_2814 e (by omega) (Nat.le_of_ble_eq_true rfl) (fun o M1 q2 => ?_)
    obtain ⟨T2, c2, J2, rfl, rfl, hE, hv2, hvr⟩ := q2
    have hE0 := hE
    obtain ⟨⟨g1, g2⟩, g3, g4, -⟩ := hE
    show gw _ _ _ _ _ (gi v :: _) _ _
    refine gw_is6 at388_2817 (h := ?_)
    refine gw_al2 at388_2819 (gw_callP1 at388_2820 (m_thrown g1 g2) (by omega) (Nat.le_of_ble_eq_true rfl) ?_)
    rw [g3]
    refine gw_il5 at388_2823 (gw_ceq at388_2825 (by decide) (by decide) (fun _ => ?_) (fun q => absurd rfl q))
    refine gw_il5 at388_2830 (gw_zne at388_2832 (by decide) (fun q => absurd rfl q) (fun _ => ?_))
    refine gw_al3 at388_2835 (gw_const at388_2836 (gw_la at388_2837 g4.1 g4.2 (by decide) (by decide) (by decide) ?_))
    rw [hv2]
    refine gw_il6 at388_2838 (gw_i2l at388_2840 hvr (gw_lceq at388_2841 at388_2842 (by omega) (by omega) (fun _ => ?_) (fun q => absurd rfl q)))
    exact gw_goto at388_2847 (hend _ T2 c2 J2 _ _ hE0 rfl rfl)
  · obtain ⟨hk, s, e⟩ := h3 X T1 c1 J1 hR
    show gw _ _ _ _ _ (gi (hm X) :: _) _ _
    refine gw_is5 at388_2805 (h := ?_)
    refine gw_al2 at388_2807 (gw_al0 at388_2808 (gw_il4 at388_2809 (gw_const at388_2811 (gw_iadd at388_2812 (gw_ia at388_2813 (Or.inr s.1.1) s.1.2 (by omega) (by omega) (by omega) (?_))))))
    rw [s.2]
    refine gw_call2 at388_2814 e (by omega) (Nat.le_of_ble_eq_true rfl) (fun o M1 q2 => ?_)
    obtain ⟨b, T2, c2, J2, rfl, rfl, hE⟩ := q2
    have hE0 := hE
    obtain ⟨⟨g1, g2⟩, g3, g4, -⟩ := hE
    show gw _ _ _ _ _ (gi b :: _) _ _
    refine gw_is6 at388_2817 (h := ?_)
    refine gw_al2 at388_2819 (gw_callP1 at388_2820 (m_thrown g1 g2) (by omega) (Nat.le_of_ble_eq_true rfl) ?_)
    rw [g3]
    refine gw_il5 at388_2823 (gw_ceq at388_2825 (by omega) (by omega) (fun _ => ?_) (fun q => absurd rfl q))
    refine gw_il5 at388_2830 (gw_zne at388_2832 (by omega) (fun _ => ?_) (fun q => absurd q (by omega)))
    exact gw_goto at388_2847 (hend _ T2 c2 J2 _ _ hE0 rfl rfl)
set_option maxHeartbeats 1000000 in
theorem lc_55 {d HW HM : Nat} {T : gT} {c J : gC} {i : Int} {E : gT → gC → gC → Prop} {Q : am_O → am_M → Prop} {R : Int → gT → gC → gC → Prop} {u5 u6 : Value} (hHW : HW + 1 ≤ d) (hHM : HM + 1 ≤ d) (hu : am_nl u5 = true) (hv : am_nl u6 = true) (h1 : gE 5 120 HW [.ref 500000] (gm T c J) (fun o M1 => ∃ v T1 c1 J1, o = .inl (some (gi v)) ∧ M1 = gm T1 c1 J1 ∧ R v T1 c1 J1)) (h2 : ∀ v T1 c1 J1, R v T1 c1 J1 → (-2147483648 ≤ v ∧ v < 2147483648) ∧ gE 5 230 HM [.ref 500001] (gm T1 c1 J1) (fun o M1 => ∃ z T2 c2 J2, o = .inl (some (gi v)) ∧ M1 = gm T2 c2 J2 ∧ ESP E z T2 c2 J2)) (hend : ∀ z T2 c2 J2 (k b : Value), ESP E z T2 c2 J2 → am_nl k = true → am_nl b = true → gw d 5 388 3366 [.ref 800000, .ref 500000, .ref 500001, .ref 500002, gi i, k, b] [] (gm T2 c2 J2) Q) : gw d 5 388 2850 [.ref 800000, .ref 500000, .ref 500001, .ref 500002, gi i, u5, u6] [] (gm T c J) Q := by
  refine gw_al1 at388_2850 (gw_call1 at388_2851 h1 (by omega) (Nat.le_of_ble_eq_true rfl) (fun o M1 q => ?_))
  obtain ⟨v, T1, c1, J1, rfl, rfl, hR⟩ := q
  obtain ⟨hr, e⟩ := h2 v T1 c1 J1 hR
  show gw _ _ _ _ _ (gi v :: _) _ _
  refine gw_al2 at388_2854 (gw_call1 at388_2855 e (by omega) (Nat.le_of_ble_eq_true rfl) (fun o M1 q2 => ?_))
  obtain ⟨z, T2, c2, J2, rfl, rfl, hE⟩ := q2
  show gw _ _ _ _ _ (gi v :: _) _ _
  exact gw_ceq at388_2858 hr hr (fun _ => hend _ T2 c2 J2 _ _ hE hu hv) (fun q => absurd rfl q)
set_option maxHeartbeats 1000000 in
theorem lc_56 {d HW HM : Nat} {T : gT} {c J : gC} {L : Nat} {i : Int} {E : gT → gC → gC → Prop} {Q : am_O → am_M → Prop} {hm : Nat → Int} {R : (Int ⊕ Nat) → gT → gC → gC → Prop} {u5 u6 : Value} (hHW : HW + 1 ≤ d) (hHM : HM + 1 ≤ d) (hL : (T.1 800000).1 = 41 ∧ (T.1 800000).2.1 = L) (hL2 : L ≤ 3072) (hi : 0 ≤ i ∧ i + 6 ≤ (L : Int)) (hu : am_nl u5 = true) (hv : am_nl u6 = true) (h1 : gE 5 379 HW [.ref 500000, gi (c 800000 (i + 1)), .ref 500002] (gm T c J) (gW hm R)) (h2 : ∀ v T1 c1 J1, R (.inl v) T1 c1 J1 → SCP L c T1 c1 ∧ gE 5 225 HM [.ref 500001, gi (c 800000 (i + 1))] (gm T1 c1 (gu J1 500002 0 v)) (fun o M1 => ∃ T2 c2 J2, o = .inl (some (gi v)) ∧ M1 = gm T2 c2 J2 ∧ ESP E 0 T2 c2 J2 ∧ J2 500002 0 = v ∧ (v = 0 ∨ v = 1))) (h3 : ∀ X T1 c1 J1, R (.inr X) T1 c1 J1 → (1 ≤ hm X ∧ hm X ≤ 3) ∧ SCP L c (gTe T1) (gz c1 (700000 + T1.2.1 7)) ∧ gE 5 225 HM [.ref 500001, gi (c 800000 (i + 1))] (gm (gTe T1) (gz c1 (700000 + T1.2.1 7)) (gz J1 (700000 + T1.2.1 7))) (fun o M1 => ∃ b T2 c2 J2, o = .inl (some (gi b)) ∧ M1 = gm T2 c2 J2 ∧ ESP E (hm X) T2 c2 J2)) (hend : ∀ z T2 c2 J2 (k b : Value), ESP E z T2 c2 J2 → am_nl k = true → am_nl b = true → gw d 5 388 3366 [.ref 800000, .ref 500000, .ref 500001, .ref 500002, gi i, k, b] [] (gm T2 c2 J2) Q) : gw d 5 388 2863 [.ref 800000, .ref 500000, .ref 500001, .ref 500002, gi i, u5, u6] [] (gm T c J) Q := by
  refine gw_al1 at388_2863 (gw_al0 at388_2864 (gw_il4 at388_2865 (gw_const at388_2867 (gw_iadd at388_2868 (gw_ia at388_2869 (Or.inr hL.1) hL.2 (by omega) (by omega) (by omega) (gw_al3 at388_2870 (?_)))))))
  refine gw_call3 at388_2871 h1 (by omega) (Nat.le_of_ble_eq_true rfl) (fun o M1 q => ?_)
  obtain ⟨T1, c1, J1, ⟨v, hR, rfl, rfl⟩ | ⟨X, hR, rfl, rfl⟩⟩ := q
  · obtain ⟨s, e⟩ := h2 v T1 c1 J1 hR
    show gw _ _ _ _ _ (gi 0 :: _) _ _
    refine gw_is5 at388_2874 (h := ?_)
    refine gw_al2 at388_2876 (gw_al0 at388_2877 (gw_il4 at388_2878 (gw_const at388_2880 (gw_iadd at388_2881 (gw_ia at388_2882 (Or.inr s.1.1) s.1.2 (by omega) (by omega) (by omega) (?_))))))
    rw [s.2]
    refine gw_call2 at388_2883 e (by omega) (Nat.le_of_ble_eq_true rfl) (fun o M1 q2 => ?_)
    obtain ⟨T2, c2, J2, rfl, rfl, hE, hv2, hv01⟩ := q2
    have hE0 := hE
    obtain ⟨⟨g1, g2⟩, g3, g4, -⟩ := hE
    show gw _ _ _ _ _ (gi v :: _) _ _
    refine gw_is6 at388_2886 (h := ?_)
    refine gw_al2 at388_2888 (gw_callP1 at388_2889 (m_thrown g1 g2) (by omega) (Nat.le_of_ble_eq_true rfl) ?_)
    rw [g3]
    refine gw_il5 at388_2892 (gw_ceq at388_2894 (by decide) (by decide) (fun _ => ?_) (fun q => absurd rfl q))
    refine gw_il5 at388_2899 (gw_zne at388_2901 (by decide) (fun q => absurd rfl q) (fun _ => ?_))
    refine gw_al3 at388_2904 (gw_const at388_2905 (gw_la at388_2906 g4.1 g4.2 (by decide) (by decide) (by decide) ?_))
    rw [hv2]
    refine gw_il6 at388_2907 ?_
    rcases hv01 with hv01 | hv01 <;> subst hv01
    · refine gw_zeq at388_2909 (by decide) (fun _ => ?_) (fun q => absurd rfl q)
      refine gw_lconst (z := 0) at388_2916 rfl (gw_lceq at388_2917 at388_2918 (by decide) (by decide) (fun _ => ?_) (fun q => absurd rfl q))
      exact gw_goto at388_2923 (hend _ T2 c2 J2 _ _ hE0 rfl rfl)
    · refine gw_zeq at388_2909 (by decide) (fun q => absurd q (by decide)) (fun _ => ?_)
      refine gw_lconst (z := 1) at388_2912 rfl (gw_goto at388_2913 (gw_lceq at388_2917 at388_2918 (by decide) (by decide) (fun _ => ?_) (fun q => absurd rfl q)))
      exact gw_goto at388_2923 (hend _ T2 c2 J2 _ _ hE0 rfl rfl)
  · obtain ⟨hk, s, e⟩ := h3 X T1 c1 J1 hR
    show gw _ _ _ _ _ (gi (hm X) :: _) _ _
    refine gw_is5 at388_2874 (h := ?_)
    refine gw_al2 at388_2876 (gw_al0 at388_2877 (gw_il4 at388_2878 (gw_const at388_2880 (gw_iadd at388_2881 (gw_ia at388_2882 (Or.inr s.1.1) s.1.2 (by omega) (by omega) (by omega) (?_))))))
    rw [s.2]
    refine gw_call2 at388_2883 e (by omega) (Nat.le_of_ble_eq_true rfl) (fun o M1 q2 => ?_)
    obtain ⟨b, T2, c2, J2, rfl, rfl, hE⟩ := q2
    have hE0 := hE
    obtain ⟨⟨g1, g2⟩, g3, g4, -⟩ := hE
    show gw _ _ _ _ _ (gi b :: _) _ _
    refine gw_is6 at388_2886 (h := ?_)
    refine gw_al2 at388_2888 (gw_callP1 at388_2889 (m_thrown g1 g2) (by omega) (Nat.le_of_ble_eq_true rfl) ?_)
    rw [g3]
    refine gw_il5 at388_2892 (gw_ceq at388_2894 (by omega) (by omega) (fun _ => ?_) (fun q => absurd rfl q))
    refine gw_il5 at388_2899 (gw_zne at388_2901 (by omega) (fun _ => ?_) (fun q => absurd q (by omega)))
    exact gw_goto at388_2923 (hend _ T2 c2 J2 _ _ hE0 rfl rfl)
set_option maxHeartbeats 1000000 in
theorem lc_57 {d HW HM : Nat} {T : gT} {c J : gC} {L : Nat} {i : Int} {E : gT → gC → gC → Prop} {Q : am_O → am_M → Prop} {hm : Nat → Int} {R : (Int ⊕ Nat) → gT → gC → gC → Prop} {u5 u6 : Value} (hHW : HW + 1 ≤ d) (hHM : HM + 1 ≤ d) (hL : (T.1 800000).1 = 41 ∧ (T.1 800000).2.1 = L) (hL2 : L ≤ 3072) (hi : 0 ≤ i ∧ i + 6 ≤ (L : Int)) (hu : am_nl u5 = true) (hv : am_nl u6 = true) (h1 : gE 5 380 HW [.ref 500000, gi (c 800000 (i + 1)), .ref 500002] (gm T c J) (gW hm R)) (h2 : ∀ v T1 c1 J1, R (.inl v) T1 c1 J1 → SCP L c T1 c1 ∧ gE 5 284 HM [.ref 500001, gi (c 800000 (i + 1))] (gm T1 c1 (gu J1 500002 0 v)) (fun o M1 => ∃ T2 c2 J2, o = .inl (some (gi v)) ∧ M1 = gm T2 c2 J2 ∧ ESP E 0 T2 c2 J2 ∧ J2 500002 0 = v ∧ -2147483648 ≤ v ∧ v < 2147483648)) (h3 : ∀ X T1 c1 J1, R (.inr X) T1 c1 J1 → (1 ≤ hm X ∧ hm X ≤ 3) ∧ SCP L c (gTe T1) (gz c1 (700000 + T1.2.1 7)) ∧ gE 5 284 HM [.ref 500001, gi (c 800000 (i + 1))] (gm (gTe T1) (gz c1 (700000 + T1.2.1 7)) (gz J1 (700000 + T1.2.1 7))) (fun o M1 => ∃ b T2 c2 J2, o = .inl (some (gi b)) ∧ M1 = gm T2 c2 J2 ∧ ESP E (hm X) T2 c2 J2)) (hend : ∀ z T2 c2 J2 (k b : Value), ESP E z T2 c2 J2 → am_nl k = true → am_nl b = true → gw d 5 388 3366 [.ref 800000, .ref 500000, .ref 500001, .ref 500002, gi i, k, b] [] (gm T2 c2 J2) Q) : gw d 5 388 2926 [.ref 800000, .ref 500000, .ref 500001, .ref 500002, gi i, u5, u6] [] (gm T c J) Q := by
  refine gw_al1 at388_2926 (gw_al0 at388_2927 (gw_il4 at388_2928 (gw_const at388_2930 (gw_iadd at388_2931 (gw_ia at388_2932 (Or.inr hL.1) hL.2 (by omega) (by omega) (by omega) (gw_al3 at388_2933 (?_)))))))
  refine gw_call3 at388_2934 h1 (by omega) (Nat.le_of_ble_eq_true rfl) (fun o M1 q => ?_)
  obtain ⟨T1, c1, J1, ⟨v, hR, rfl, rfl⟩ | ⟨X, hR, rfl, rfl⟩⟩ := q
  · obtain ⟨s, e⟩ := h2 v T1 c1 J1 hR
    show gw _ _ _ _ _ (gi 0 :: _) _ _
    refine gw_is5 at388_2937 (h := ?_)
    refine gw_al2 at388_2939 (gw_al0 at388_2940 (gw_il4 at388_2941 (gw_const at388_2943 (gw_iadd at388_2944 (gw_ia at388_2945 (Or.inr s.1.1) s.1.2 (by omega) (by omega) (by omega) (?_))))))
    rw [s.2]
    refine gw_call2 at388_2946 e (by omega) (Nat.le_of_ble_eq_true rfl) (fun o M1 q2 => ?_)
    obtain ⟨T2, c2, J2, rfl, rfl, hE, hv2, hvr⟩ := q2
    have hE0 := hE
    obtain ⟨⟨g1, g2⟩, g3, g4, -⟩ := hE
    show gw _ _ _ _ _ (gi v :: _) _ _
    refine gw_is6 at388_2949 (h := ?_)
    refine gw_al2 at388_2951 (gw_callP1 at388_2952 (m_thrown g1 g2) (by omega) (Nat.le_of_ble_eq_true rfl) ?_)
    rw [g3]
    refine gw_il5 at388_2955 (gw_ceq at388_2957 (by decide) (by decide) (fun _ => ?_) (fun q => absurd rfl q))
    refine gw_il5 at388_2962 (gw_zne at388_2964 (by decide) (fun q => absurd rfl q) (fun _ => ?_))
    refine gw_al3 at388_2967 (gw_const at388_2968 (gw_la at388_2969 g4.1 g4.2 (by decide) (by decide) (by decide) ?_))
    rw [hv2]
    refine gw_il6 at388_2970 (gw_i2l at388_2972 hvr (gw_lceq at388_2973 at388_2974 (by omega) (by omega) (fun _ => ?_) (fun q => absurd rfl q)))
    exact gw_goto at388_2979 (hend _ T2 c2 J2 _ _ hE0 rfl rfl)
  · obtain ⟨hk, s, e⟩ := h3 X T1 c1 J1 hR
    show gw _ _ _ _ _ (gi (hm X) :: _) _ _
    refine gw_is5 at388_2937 (h := ?_)
    refine gw_al2 at388_2939 (gw_al0 at388_2940 (gw_il4 at388_2941 (gw_const at388_2943 (gw_iadd at388_2944 (gw_ia at388_2945 (Or.inr s.1.1) s.1.2 (by omega) (by omega) (by omega) (?_))))))
    rw [s.2]
    refine gw_call2 at388_2946 e (by omega) (Nat.le_of_ble_eq_true rfl) (fun o M1 q2 => ?_)
    obtain ⟨b, T2, c2, J2, rfl, rfl, hE⟩ := q2
    have hE0 := hE
    obtain ⟨⟨g1, g2⟩, g3, g4, -⟩ := hE
    show gw _ _ _ _ _ (gi b :: _) _ _
    refine gw_is6 at388_2949 (h := ?_)
    refine gw_al2 at388_2951 (gw_callP1 at388_2952 (m_thrown g1 g2) (by omega) (Nat.le_of_ble_eq_true rfl) ?_)
    rw [g3]
    refine gw_il5 at388_2955 (gw_ceq at388_2957 (by omega) (by omega) (fun _ => ?_) (fun q => absurd rfl q))
    refine gw_il5 at388_2962 (gw_zne at388_2964 (by omega) (fun _ => ?_) (fun q => absurd q (by omega)))
    exact gw_goto at388_2979 (hend _ T2 c2 J2 _ _ hE0 rfl rfl)
set_option maxHeartbeats 1000000 in
theorem lc_58 {d HW HM : Nat} {T : gT} {c J : gC} {L : Nat} {i : Int} {E : gT → gC → gC → Prop} {Q : am_O → am_M → Prop} {hm : Nat → Int} {R : (Int ⊕ Nat) → gT → gC → gC → Prop} {u5 u6 : Value} (hHW : HW + 1 ≤ d) (hHM : HM + 1 ≤ d) (hL : (T.1 800000).1 = 41 ∧ (T.1 800000).2.1 = L) (hL2 : L ≤ 3072) (hi : 0 ≤ i ∧ i + 6 ≤ (L : Int)) (hu : am_nl u5 = true) (hv : am_nl u6 = true) (h1 : gE 5 381 HW [.ref 500000, gi (c 800000 (i + 1)), gi (c 800000 (i + 2)), .ref 500002] (gm T c J) (gW hm R)) (h2 : ∀ v T1 c1 J1, R (.inl v) T1 c1 J1 → SCP L c T1 c1 ∧ gE 5 248 HM [.ref 500001, gi (c 800000 (i + 1)), gi (c 800000 (i + 2))] (gm T1 c1 (gu J1 500002 0 v)) (fun o M1 => ∃ T2 c2 J2, o = .inl (some (gi v)) ∧ M1 = gm T2 c2 J2 ∧ ESP E 0 T2 c2 J2 ∧ J2 500002 0 = v ∧ -2147483648 ≤ v ∧ v < 2147483648)) (h3 : ∀ X T1 c1 J1, R (.inr X) T1 c1 J1 → (1 ≤ hm X ∧ hm X ≤ 3) ∧ SCP L c (gTe T1) (gz c1 (700000 + T1.2.1 7)) ∧ gE 5 248 HM [.ref 500001, gi (c 800000 (i + 1)), gi (c 800000 (i + 2))] (gm (gTe T1) (gz c1 (700000 + T1.2.1 7)) (gz J1 (700000 + T1.2.1 7))) (fun o M1 => ∃ b T2 c2 J2, o = .inl (some (gi b)) ∧ M1 = gm T2 c2 J2 ∧ ESP E (hm X) T2 c2 J2)) (hend : ∀ z T2 c2 J2 (k b : Value), ESP E z T2 c2 J2 → am_nl k = true → am_nl b = true → gw d 5 388 3366 [.ref 800000, .ref 500000, .ref 500001, .ref 500002, gi i, k, b] [] (gm T2 c2 J2) Q) : gw d 5 388 2982 [.ref 800000, .ref 500000, .ref 500001, .ref 500002, gi i, u5, u6] [] (gm T c J) Q := by
  refine gw_al1 at388_2982 (gw_al0 at388_2983 (gw_il4 at388_2984 (gw_const at388_2986 (gw_iadd at388_2987 (gw_ia at388_2988 (Or.inr hL.1) hL.2 (by omega) (by omega) (by omega) (gw_al0 at388_2989 (gw_il4 at388_2990 (gw_const at388_2992 (gw_iadd at388_2993 (gw_ia at388_2994 (Or.inr hL.1) hL.2 (by omega) (by omega) (by omega) (gw_al3 at388_2995 (?_))))))))))))
  refine gw_call4 at388_2996 h1 (by omega) (Nat.le_of_ble_eq_true rfl) (fun o M1 q => ?_)
  obtain ⟨T1, c1, J1, ⟨v, hR, rfl, rfl⟩ | ⟨X, hR, rfl, rfl⟩⟩ := q
  · obtain ⟨s, e⟩ := h2 v T1 c1 J1 hR
    show gw _ _ _ _ _ (gi 0 :: _) _ _
    refine gw_is5 at388_2999 (h := ?_)
    refine gw_al2 at388_3001 (gw_al0 at388_3002 (gw_il4 at388_3003 (gw_const at388_3005 (gw_iadd at388_3006 (gw_ia at388_3007 (Or.inr s.1.1) s.1.2 (by omega) (by omega) (by omega) (gw_al0 at388_3008 (gw_il4 at388_3009 (gw_const at388_3011 (gw_iadd at388_3012 (gw_ia at388_3013 (Or.inr s.1.1) s.1.2 (by omega) (by omega) (by omega) (?_)))))))))))
    rw [s.2]
    refine gw_call3 at388_3014 e (by omega) (Nat.le_of_ble_eq_true rfl) (fun o M1 q2 => ?_)
    obtain ⟨T2, c2, J2, rfl, rfl, hE, hv2, hvr⟩ := q2
    have hE0 := hE
    obtain ⟨⟨g1, g2⟩, g3, g4, -⟩ := hE
    show gw _ _ _ _ _ (gi v :: _) _ _
    refine gw_is6 at388_3017 (h := ?_)
    refine gw_al2 at388_3019 (gw_callP1 at388_3020 (m_thrown g1 g2) (by omega) (Nat.le_of_ble_eq_true rfl) ?_)
    rw [g3]
    refine gw_il5 at388_3023 (gw_ceq at388_3025 (by decide) (by decide) (fun _ => ?_) (fun q => absurd rfl q))
    refine gw_il5 at388_3030 (gw_zne at388_3032 (by decide) (fun q => absurd rfl q) (fun _ => ?_))
    refine gw_al3 at388_3035 (gw_const at388_3036 (gw_la at388_3037 g4.1 g4.2 (by decide) (by decide) (by decide) ?_))
    rw [hv2]
    refine gw_il6 at388_3038 (gw_i2l at388_3040 hvr (gw_lceq at388_3041 at388_3042 (by omega) (by omega) (fun _ => ?_) (fun q => absurd rfl q)))
    exact gw_goto at388_3047 (hend _ T2 c2 J2 _ _ hE0 rfl rfl)
  · obtain ⟨hk, s, e⟩ := h3 X T1 c1 J1 hR
    show gw _ _ _ _ _ (gi (hm X) :: _) _ _
    refine gw_is5 at388_2999 (h := ?_)
    refine gw_al2 at388_3001 (gw_al0 at388_3002 (gw_il4 at388_3003 (gw_const at388_3005 (gw_iadd at388_3006 (gw_ia at388_3007 (Or.inr s.1.1) s.1.2 (by omega) (by omega) (by omega) (gw_al0 at388_3008 (gw_il4 at388_3009 (gw_const at388_3011 (gw_iadd at388_3012 (gw_ia at388_3013 (Or.inr s.1.1) s.1.2 (by omega) (by omega) (by omega) (?_)))))))))))
    rw [s.2]
    refine gw_call3 at388_3014 e (by omega) (Nat.le_of_ble_eq_true rfl) (fun o M1 q2 => ?_)
    obtain ⟨b, T2, c2, J2, rfl, rfl, hE⟩ := q2
    have hE0 := hE
    obtain ⟨⟨g1, g2⟩, g3, g4, -⟩ := hE
    show gw _ _ _ _ _ (gi b :: _) _ _
    refine gw_is6 at388_3017 (h := ?_)
    refine gw_al2 at388_3019 (gw_callP1 at388_3020 (m_thrown g1 g2) (by omega) (Nat.le_of_ble_eq_true rfl) ?_)
    rw [g3]
    refine gw_il5 at388_3023 (gw_ceq at388_3025 (by omega) (by omega) (fun _ => ?_) (fun q => absurd rfl q))
    refine gw_il5 at388_3030 (gw_zne at388_3032 (by omega) (fun _ => ?_) (fun q => absurd q (by omega)))
    exact gw_goto at388_3047 (hend _ T2 c2 J2 _ _ hE0 rfl rfl)
set_option maxHeartbeats 1000000 in
theorem lc_59 {d HW HM : Nat} {T : gT} {c J : gC} {L : Nat} {i : Int} {E : gT → gC → gC → Prop} {Q : am_O → am_M → Prop} {hm : Nat → Int} {R : (Int ⊕ Nat) → gT → gC → gC → Prop} {u5 u6 : Value} (hHW : HW + 1 ≤ d) (hHM : HM + 1 ≤ d) (hL : (T.1 800000).1 = 41 ∧ (T.1 800000).2.1 = L) (hL2 : L ≤ 3072) (hi : 0 ≤ i ∧ i + 6 ≤ (L : Int)) (hu : am_nl u5 = true) (hv : am_nl u6 = true) (h1 : gE 5 382 HW [.ref 500000, gi (c 800000 (i + 1)), gi (c 800000 (i + 2)), .ref 500002] (gm T c J) (gW hm R)) (h2 : ∀ v T1 c1 J1, R (.inl v) T1 c1 J1 → SCP L c T1 c1 ∧ gE 5 265 HM [.ref 500001, gi (c 800000 (i + 1)), gi (c 800000 (i + 2))] (gm T1 c1 (gu J1 500002 0 v)) (fun o M1 => ∃ T2 c2 J2, o = .inl (some (gi v)) ∧ M1 = gm T2 c2 J2 ∧ ESP E 0 T2 c2 J2 ∧ J2 500002 0 = v ∧ -2147483648 ≤ v ∧ v < 2147483648)) (h3 : ∀ X T1 c1 J1, R (.inr X) T1 c1 J1 → (1 ≤ hm X ∧ hm X ≤ 3) ∧ SCP L c (gTe T1) (gz c1 (700000 + T1.2.1 7)) ∧ gE 5 265 HM [.ref 500001, gi (c 800000 (i + 1)), gi (c 800000 (i + 2))] (gm (gTe T1) (gz c1 (700000 + T1.2.1 7)) (gz J1 (700000 + T1.2.1 7))) (fun o M1 => ∃ b T2 c2 J2, o = .inl (some (gi b)) ∧ M1 = gm T2 c2 J2 ∧ ESP E (hm X) T2 c2 J2)) (hend : ∀ z T2 c2 J2 (k b : Value), ESP E z T2 c2 J2 → am_nl k = true → am_nl b = true → gw d 5 388 3366 [.ref 800000, .ref 500000, .ref 500001, .ref 500002, gi i, k, b] [] (gm T2 c2 J2) Q) : gw d 5 388 3050 [.ref 800000, .ref 500000, .ref 500001, .ref 500002, gi i, u5, u6] [] (gm T c J) Q := by
  refine gw_al1 at388_3050 (gw_al0 at388_3051 (gw_il4 at388_3052 (gw_const at388_3054 (gw_iadd at388_3055 (gw_ia at388_3056 (Or.inr hL.1) hL.2 (by omega) (by omega) (by omega) (gw_al0 at388_3057 (gw_il4 at388_3058 (gw_const at388_3060 (gw_iadd at388_3061 (gw_ia at388_3062 (Or.inr hL.1) hL.2 (by omega) (by omega) (by omega) (gw_al3 at388_3063 (?_))))))))))))
  refine gw_call4 at388_3064 h1 (by omega) (Nat.le_of_ble_eq_true rfl) (fun o M1 q => ?_)
  obtain ⟨T1, c1, J1, ⟨v, hR, rfl, rfl⟩ | ⟨X, hR, rfl, rfl⟩⟩ := q
  · obtain ⟨s, e⟩ := h2 v T1 c1 J1 hR
    show gw _ _ _ _ _ (gi 0 :: _) _ _
    refine gw_is5 at388_3067 (h := ?_)
    refine gw_al2 at388_3069 (gw_al0 at388_3070 (gw_il4 at388_3071 (gw_const at388_3073 (gw_iadd at388_3074 (gw_ia at388_3075 (Or.inr s.1.1) s.1.2 (by omega) (by omega) (by omega) (gw_al0 at388_3076 (gw_il4 at388_3077 (gw_const at388_3079 (gw_iadd at388_3080 (gw_ia at388_3081 (Or.inr s.1.1) s.1.2 (by omega) (by omega) (by omega) (?_)))))))))))
    rw [s.2]
    refine gw_call3 at388_3082 e (by omega) (Nat.le_of_ble_eq_true rfl) (fun o M1 q2 => ?_)
    obtain ⟨T2, c2, J2, rfl, rfl, hE, hv2, hvr⟩ := q2
    have hE0 := hE
    obtain ⟨⟨g1, g2⟩, g3, g4, -⟩ := hE
    show gw _ _ _ _ _ (gi v :: _) _ _
    refine gw_is6 at388_3085 (h := ?_)
    refine gw_al2 at388_3087 (gw_callP1 at388_3088 (m_thrown g1 g2) (by omega) (Nat.le_of_ble_eq_true rfl) ?_)
    rw [g3]
    refine gw_il5 at388_3091 (gw_ceq at388_3093 (by decide) (by decide) (fun _ => ?_) (fun q => absurd rfl q))
    refine gw_il5 at388_3098 (gw_zne at388_3100 (by decide) (fun q => absurd rfl q) (fun _ => ?_))
    refine gw_al3 at388_3103 (gw_const at388_3104 (gw_la at388_3105 g4.1 g4.2 (by decide) (by decide) (by decide) ?_))
    rw [hv2]
    refine gw_il6 at388_3106 (gw_i2l at388_3108 hvr (gw_lceq at388_3109 at388_3110 (by omega) (by omega) (fun _ => ?_) (fun q => absurd rfl q)))
    exact gw_goto at388_3115 (hend _ T2 c2 J2 _ _ hE0 rfl rfl)
  · obtain ⟨hk, s, e⟩ := h3 X T1 c1 J1 hR
    show gw _ _ _ _ _ (gi (hm X) :: _) _ _
    refine gw_is5 at388_3067 (h := ?_)
    refine gw_al2 at388_3069 (gw_al0 at388_3070 (gw_il4 at388_3071 (gw_const at388_3073 (gw_iadd at388_3074 (gw_ia at388_3075 (Or.inr s.1.1) s.1.2 (by omega) (by omega) (by omega) (gw_al0 at388_3076 (gw_il4 at388_3077 (gw_const at388_3079 (gw_iadd at388_3080 (gw_ia at388_3081 (Or.inr s.1.1) s.1.2 (by omega) (by omega) (by omega) (?_)))))))))))
    rw [s.2]
    refine gw_call3 at388_3082 e (by omega) (Nat.le_of_ble_eq_true rfl) (fun o M1 q2 => ?_)
    obtain ⟨b, T2, c2, J2, rfl, rfl, hE⟩ := q2
    have hE0 := hE
    obtain ⟨⟨g1, g2⟩, g3, g4, -⟩ := hE
    show gw _ _ _ _ _ (gi b :: _) _ _
    refine gw_is6 at388_3085 (h := ?_)
    refine gw_al2 at388_3087 (gw_callP1 at388_3088 (m_thrown g1 g2) (by omega) (Nat.le_of_ble_eq_true rfl) ?_)
    rw [g3]
    refine gw_il5 at388_3091 (gw_ceq at388_3093 (by omega) (by omega) (fun _ => ?_) (fun q => absurd rfl q))
    refine gw_il5 at388_3098 (gw_zne at388_3100 (by omega) (fun _ => ?_) (fun q => absurd q (by omega)))
    exact gw_goto at388_3115 (hend _ T2 c2 J2 _ _ hE0 rfl rfl)
set_option maxHeartbeats 1000000 in
theorem lc_60 {d HW HM : Nat} {T : gT} {c J : gC} {L : Nat} {i : Int} {E : gT → gC → gC → Prop} {Q : am_O → am_M → Prop} {hm : Nat → Int} {R : (Int ⊕ Nat) → gT → gC → gC → Prop} {u5 u6 : Value} (hHW : HW + 1 ≤ d) (hHM : HM + 1 ≤ d) (hL : (T.1 800000).1 = 41 ∧ (T.1 800000).2.1 = L) (hL2 : L ≤ 3072) (hi : 0 ≤ i ∧ i + 6 ≤ (L : Int)) (hu : am_nl u5 = true) (hv : am_nl u6 = true) (h1 : gE 5 383 HW [.ref 500000, gi (c 800000 (i + 1)), gi (c 800000 (i + 2)), .ref 500002] (gm T c J) (gW hm R)) (h2 : ∀ v T1 c1 J1, R (.inl v) T1 c1 J1 → SCP L c T1 c1 ∧ gE 5 264 HM [.ref 500001, gi (c 800000 (i + 1)), gi (c 800000 (i + 2))] (gm T1 c1 (gu J1 500002 0 v)) (fun o M1 => ∃ T2 c2 J2, o = .inl (some (gi v)) ∧ M1 = gm T2 c2 J2 ∧ ESP E 0 T2 c2 J2 ∧ J2 500002 0 = v ∧ -2147483648 ≤ v ∧ v < 2147483648)) (h3 : ∀ X T1 c1 J1, R (.inr X) T1 c1 J1 → (1 ≤ hm X ∧ hm X ≤ 3) ∧ SCP L c (gTe T1) (gz c1 (700000 + T1.2.1 7)) ∧ gE 5 264 HM [.ref 500001, gi (c 800000 (i + 1)), gi (c 800000 (i + 2))] (gm (gTe T1) (gz c1 (700000 + T1.2.1 7)) (gz J1 (700000 + T1.2.1 7))) (fun o M1 => ∃ b T2 c2 J2, o = .inl (some (gi b)) ∧ M1 = gm T2 c2 J2 ∧ ESP E (hm X) T2 c2 J2)) (hend : ∀ z T2 c2 J2 (k b : Value), ESP E z T2 c2 J2 → am_nl k = true → am_nl b = true → gw d 5 388 3366 [.ref 800000, .ref 500000, .ref 500001, .ref 500002, gi i, k, b] [] (gm T2 c2 J2) Q) : gw d 5 388 3118 [.ref 800000, .ref 500000, .ref 500001, .ref 500002, gi i, u5, u6] [] (gm T c J) Q := by
  refine gw_al1 at388_3118 (gw_al0 at388_3119 (gw_il4 at388_3120 (gw_const at388_3122 (gw_iadd at388_3123 (gw_ia at388_3124 (Or.inr hL.1) hL.2 (by omega) (by omega) (by omega) (gw_al0 at388_3125 (gw_il4 at388_3126 (gw_const at388_3128 (gw_iadd at388_3129 (gw_ia at388_3130 (Or.inr hL.1) hL.2 (by omega) (by omega) (by omega) (gw_al3 at388_3131 (?_))))))))))))
  refine gw_call4 at388_3132 h1 (by omega) (Nat.le_of_ble_eq_true rfl) (fun o M1 q => ?_)
  obtain ⟨T1, c1, J1, ⟨v, hR, rfl, rfl⟩ | ⟨X, hR, rfl, rfl⟩⟩ := q
  · obtain ⟨s, e⟩ := h2 v T1 c1 J1 hR
    show gw _ _ _ _ _ (gi 0 :: _) _ _
    refine gw_is5 at388_3135 (h := ?_)
    refine gw_al2 at388_3137 (gw_al0 at388_3138 (gw_il4 at388_3139 (gw_const at388_3141 (gw_iadd at388_3142 (gw_ia at388_3143 (Or.inr s.1.1) s.1.2 (by omega) (by omega) (by omega) (gw_al0 at388_3144 (gw_il4 at388_3145 (gw_const at388_3147 (gw_iadd at388_3148 (gw_ia at388_3149 (Or.inr s.1.1) s.1.2 (by omega) (by omega) (by omega) (?_)))))))))))
    rw [s.2]
    refine gw_call3 at388_3150 e (by omega) (Nat.le_of_ble_eq_true rfl) (fun o M1 q2 => ?_)
    obtain ⟨T2, c2, J2, rfl, rfl, hE, hv2, hvr⟩ := q2
    have hE0 := hE
    obtain ⟨⟨g1, g2⟩, g3, g4, -⟩ := hE
    show gw _ _ _ _ _ (gi v :: _) _ _
    refine gw_is6 at388_3153 (h := ?_)
    refine gw_al2 at388_3155 (gw_callP1 at388_3156 (m_thrown g1 g2) (by omega) (Nat.le_of_ble_eq_true rfl) ?_)
    rw [g3]
    refine gw_il5 at388_3159 (gw_ceq at388_3161 (by decide) (by decide) (fun _ => ?_) (fun q => absurd rfl q))
    refine gw_il5 at388_3166 (gw_zne at388_3168 (by decide) (fun q => absurd rfl q) (fun _ => ?_))
    refine gw_al3 at388_3171 (gw_const at388_3172 (gw_la at388_3173 g4.1 g4.2 (by decide) (by decide) (by decide) ?_))
    rw [hv2]
    refine gw_il6 at388_3174 (gw_i2l at388_3176 hvr (gw_lceq at388_3177 at388_3178 (by omega) (by omega) (fun _ => ?_) (fun q => absurd rfl q)))
    exact gw_goto at388_3183 (hend _ T2 c2 J2 _ _ hE0 rfl rfl)
  · obtain ⟨hk, s, e⟩ := h3 X T1 c1 J1 hR
    show gw _ _ _ _ _ (gi (hm X) :: _) _ _
    refine gw_is5 at388_3135 (h := ?_)
    refine gw_al2 at388_3137 (gw_al0 at388_3138 (gw_il4 at388_3139 (gw_const at388_3141 (gw_iadd at388_3142 (gw_ia at388_3143 (Or.inr s.1.1) s.1.2 (by omega) (by omega) (by omega) (gw_al0 at388_3144 (gw_il4 at388_3145 (gw_const at388_3147 (gw_iadd at388_3148 (gw_ia at388_3149 (Or.inr s.1.1) s.1.2 (by omega) (by omega) (by omega) (?_)))))))))))
    rw [s.2]
    refine gw_call3 at388_3150 e (by omega) (Nat.le_of_ble_eq_true rfl) (fun o M1 q2 => ?_)
    obtain ⟨b, T2, c2, J2, rfl, rfl, hE⟩ := q2
    have hE0 := hE
    obtain ⟨⟨g1, g2⟩, g3, g4, -⟩ := hE
    show gw _ _ _ _ _ (gi b :: _) _ _
    refine gw_is6 at388_3153 (h := ?_)
    refine gw_al2 at388_3155 (gw_callP1 at388_3156 (m_thrown g1 g2) (by omega) (Nat.le_of_ble_eq_true rfl) ?_)
    rw [g3]
    refine gw_il5 at388_3159 (gw_ceq at388_3161 (by omega) (by omega) (fun _ => ?_) (fun q => absurd rfl q))
    refine gw_il5 at388_3166 (gw_zne at388_3168 (by omega) (fun _ => ?_) (fun q => absurd q (by omega)))
    exact gw_goto at388_3183 (hend _ T2 c2 J2 _ _ hE0 rfl rfl)
set_option maxHeartbeats 1000000 in
theorem lc_61 {d HW HM : Nat} {T : gT} {c J : gC} {L : Nat} {i : Int} {E : gT → gC → gC → Prop} {Q : am_O → am_M → Prop} {hm : Nat → Int} {R : (Int ⊕ Nat) → gT → gC → gC → Prop} {u5 u6 : Value} (hHW : HW + 1 ≤ d) (hHM : HM + 1 ≤ d) (hL : (T.1 800000).1 = 41 ∧ (T.1 800000).2.1 = L) (hL2 : L ≤ 3072) (hi : 0 ≤ i ∧ i + 6 ≤ (L : Int)) (hu : am_nl u5 = true) (hv : am_nl u6 = true) (h1 : gE 5 384 HW [.ref 500000, gi (c 800000 (i + 1)), .ref 500002] (gm T c J) (gW hm R)) (h2 : ∀ v T1 c1 J1, R (.inl v) T1 c1 J1 → SCP L c T1 c1 ∧ gE 5 286 HM [.ref 500001, gi (c 800000 (i + 1))] (gm T1 c1 (gu J1 500002 0 v)) (fun o M1 => ∃ T2 c2 J2, o = .inl (some (gi v)) ∧ M1 = gm T2 c2 J2 ∧ ESP E 0 T2 c2 J2 ∧ J2 500002 0 = v ∧ -2147483648 ≤ v ∧ v < 2147483648)) (h3 : ∀ X T1 c1 J1, R (.inr X) T1 c1 J1 → (1 ≤ hm X ∧ hm X ≤ 3) ∧ SCP L c (gTe T1) (gz c1 (700000 + T1.2.1 7)) ∧ gE 5 286 HM [.ref 500001, gi (c 800000 (i + 1))] (gm (gTe T1) (gz c1 (700000 + T1.2.1 7)) (gz J1 (700000 + T1.2.1 7))) (fun o M1 => ∃ b T2 c2 J2, o = .inl (some (gi b)) ∧ M1 = gm T2 c2 J2 ∧ ESP E (hm X) T2 c2 J2)) (hend : ∀ z T2 c2 J2 (k b : Value), ESP E z T2 c2 J2 → am_nl k = true → am_nl b = true → gw d 5 388 3366 [.ref 800000, .ref 500000, .ref 500001, .ref 500002, gi i, k, b] [] (gm T2 c2 J2) Q) : gw d 5 388 3186 [.ref 800000, .ref 500000, .ref 500001, .ref 500002, gi i, u5, u6] [] (gm T c J) Q := by
  refine gw_al1 at388_3186 (gw_al0 at388_3187 (gw_il4 at388_3188 (gw_const at388_3190 (gw_iadd at388_3191 (gw_ia at388_3192 (Or.inr hL.1) hL.2 (by omega) (by omega) (by omega) (gw_al3 at388_3193 (?_)))))))
  refine gw_call3 at388_3194 h1 (by omega) (Nat.le_of_ble_eq_true rfl) (fun o M1 q => ?_)
  obtain ⟨T1, c1, J1, ⟨v, hR, rfl, rfl⟩ | ⟨X, hR, rfl, rfl⟩⟩ := q
  · obtain ⟨s, e⟩ := h2 v T1 c1 J1 hR
    show gw _ _ _ _ _ (gi 0 :: _) _ _
    refine gw_is5 at388_3197 (h := ?_)
    refine gw_al2 at388_3199 (gw_al0 at388_3200 (gw_il4 at388_3201 (gw_const at388_3203 (gw_iadd at388_3204 (gw_ia at388_3205 (Or.inr s.1.1) s.1.2 (by omega) (by omega) (by omega) (?_))))))
    rw [s.2]
    refine gw_call2 at388_3206 e (by omega) (Nat.le_of_ble_eq_true rfl) (fun o M1 q2 => ?_)
    obtain ⟨T2, c2, J2, rfl, rfl, hE, hv2, hvr⟩ := q2
    have hE0 := hE
    obtain ⟨⟨g1, g2⟩, g3, g4, -⟩ := hE
    show gw _ _ _ _ _ (gi v :: _) _ _
    refine gw_is6 at388_3209 (h := ?_)
    refine gw_al2 at388_3211 (gw_callP1 at388_3212 (m_thrown g1 g2) (by omega) (Nat.le_of_ble_eq_true rfl) ?_)
    rw [g3]
    refine gw_il5 at388_3215 (gw_ceq at388_3217 (by decide) (by decide) (fun _ => ?_) (fun q => absurd rfl q))
    refine gw_il5 at388_3222 (gw_zne at388_3224 (by decide) (fun q => absurd rfl q) (fun _ => ?_))
    refine gw_al3 at388_3227 (gw_const at388_3228 (gw_la at388_3229 g4.1 g4.2 (by decide) (by decide) (by decide) ?_))
    rw [hv2]
    refine gw_il6 at388_3230 (gw_i2l at388_3232 hvr (gw_lceq at388_3233 at388_3234 (by omega) (by omega) (fun _ => ?_) (fun q => absurd rfl q)))
    exact gw_goto at388_3239 (hend _ T2 c2 J2 _ _ hE0 rfl rfl)
  · obtain ⟨hk, s, e⟩ := h3 X T1 c1 J1 hR
    show gw _ _ _ _ _ (gi (hm X) :: _) _ _
    refine gw_is5 at388_3197 (h := ?_)
    refine gw_al2 at388_3199 (gw_al0 at388_3200 (gw_il4 at388_3201 (gw_const at388_3203 (gw_iadd at388_3204 (gw_ia at388_3205 (Or.inr s.1.1) s.1.2 (by omega) (by omega) (by omega) (?_))))))
    rw [s.2]
    refine gw_call2 at388_3206 e (by omega) (Nat.le_of_ble_eq_true rfl) (fun o M1 q2 => ?_)
    obtain ⟨b, T2, c2, J2, rfl, rfl, hE⟩ := q2
    have hE0 := hE
    obtain ⟨⟨g1, g2⟩, g3, g4, -⟩ := hE
    show gw _ _ _ _ _ (gi b :: _) _ _
    refine gw_is6 at388_3209 (h := ?_)
    refine gw_al2 at388_3211 (gw_callP1 at388_3212 (m_thrown g1 g2) (by omega) (Nat.le_of_ble_eq_true rfl) ?_)
    rw [g3]
    refine gw_il5 at388_3215 (gw_ceq at388_3217 (by omega) (by omega) (fun _ => ?_) (fun q => absurd rfl q))
    refine gw_il5 at388_3222 (gw_zne at388_3224 (by omega) (fun _ => ?_) (fun q => absurd q (by omega)))
    exact gw_goto at388_3239 (hend _ T2 c2 J2 _ _ hE0 rfl rfl)
set_option maxHeartbeats 1000000 in
theorem lc_62 {d HW HM : Nat} {T : gT} {c J : gC} {L : Nat} {i : Int} {E : gT → gC → gC → Prop} {Q : am_O → am_M → Prop} {hm : Nat → Int} {R : (Int ⊕ Nat) → gT → gC → gC → Prop} {u5 u6 : Value} (hHW : HW + 1 ≤ d) (hHM : HM + 1 ≤ d) (hL : (T.1 800000).1 = 41 ∧ (T.1 800000).2.1 = L) (hL2 : L ≤ 3072) (hi : 0 ≤ i ∧ i + 6 ≤ (L : Int)) (hu : am_nl u5 = true) (hv : am_nl u6 = true) (h1 : gE 5 385 HW [.ref 500000, gi (c 800000 (i + 1)), .ref 500002] (gm T c J) (gW hm R)) (h2 : ∀ v T1 c1 J1, R (.inl v) T1 c1 J1 → SCP L c T1 c1 ∧ gE 5 287 HM [.ref 500001, gi (c 800000 (i + 1))] (gm T1 c1 (gu J1 500002 0 v)) (fun o M1 => ∃ T2 c2 J2, o = .inl (some (gi v)) ∧ M1 = gm T2 c2 J2 ∧ ESP E 0 T2 c2 J2 ∧ J2 500002 0 = v ∧ -2147483648 ≤ v ∧ v < 2147483648)) (h3 : ∀ X T1 c1 J1, R (.inr X) T1 c1 J1 → (1 ≤ hm X ∧ hm X ≤ 3) ∧ SCP L c (gTe T1) (gz c1 (700000 + T1.2.1 7)) ∧ gE 5 287 HM [.ref 500001, gi (c 800000 (i + 1))] (gm (gTe T1) (gz c1 (700000 + T1.2.1 7)) (gz J1 (700000 + T1.2.1 7))) (fun o M1 => ∃ b T2 c2 J2, o = .inl (some (gi b)) ∧ M1 = gm T2 c2 J2 ∧ ESP E (hm X) T2 c2 J2)) (hend : ∀ z T2 c2 J2 (k b : Value), ESP E z T2 c2 J2 → am_nl k = true → am_nl b = true → gw d 5 388 3366 [.ref 800000, .ref 500000, .ref 500001, .ref 500002, gi i, k, b] [] (gm T2 c2 J2) Q) : gw d 5 388 3242 [.ref 800000, .ref 500000, .ref 500001, .ref 500002, gi i, u5, u6] [] (gm T c J) Q := by
  refine gw_al1 at388_3242 (gw_al0 at388_3243 (gw_il4 at388_3244 (gw_const at388_3246 (gw_iadd at388_3247 (gw_ia at388_3248 (Or.inr hL.1) hL.2 (by omega) (by omega) (by omega) (gw_al3 at388_3249 (?_)))))))
  refine gw_call3 at388_3250 h1 (by omega) (Nat.le_of_ble_eq_true rfl) (fun o M1 q => ?_)
  obtain ⟨T1, c1, J1, ⟨v, hR, rfl, rfl⟩ | ⟨X, hR, rfl, rfl⟩⟩ := q
  · obtain ⟨s, e⟩ := h2 v T1 c1 J1 hR
    show gw _ _ _ _ _ (gi 0 :: _) _ _
    refine gw_is5 at388_3253 (h := ?_)
    refine gw_al2 at388_3255 (gw_al0 at388_3256 (gw_il4 at388_3257 (gw_const at388_3259 (gw_iadd at388_3260 (gw_ia at388_3261 (Or.inr s.1.1) s.1.2 (by omega) (by omega) (by omega) (?_))))))
    rw [s.2]
    refine gw_call2 at388_3262 e (by omega) (Nat.le_of_ble_eq_true rfl) (fun o M1 q2 => ?_)
    obtain ⟨T2, c2, J2, rfl, rfl, hE, hv2, hvr⟩ := q2
    have hE0 := hE
    obtain ⟨⟨g1, g2⟩, g3, g4, -⟩ := hE
    show gw _ _ _ _ _ (gi v :: _) _ _
    refine gw_is6 at388_3265 (h := ?_)
    refine gw_al2 at388_3267 (gw_callP1 at388_3268 (m_thrown g1 g2) (by omega) (Nat.le_of_ble_eq_true rfl) ?_)
    rw [g3]
    refine gw_il5 at388_3271 (gw_ceq at388_3273 (by decide) (by decide) (fun _ => ?_) (fun q => absurd rfl q))
    refine gw_il5 at388_3278 (gw_zne at388_3280 (by decide) (fun q => absurd rfl q) (fun _ => ?_))
    refine gw_al3 at388_3283 (gw_const at388_3284 (gw_la at388_3285 g4.1 g4.2 (by decide) (by decide) (by decide) ?_))
    rw [hv2]
    refine gw_il6 at388_3286 (gw_i2l at388_3288 hvr (gw_lceq at388_3289 at388_3290 (by omega) (by omega) (fun _ => ?_) (fun q => absurd rfl q)))
    exact gw_goto at388_3295 (hend _ T2 c2 J2 _ _ hE0 rfl rfl)
  · obtain ⟨hk, s, e⟩ := h3 X T1 c1 J1 hR
    show gw _ _ _ _ _ (gi (hm X) :: _) _ _
    refine gw_is5 at388_3253 (h := ?_)
    refine gw_al2 at388_3255 (gw_al0 at388_3256 (gw_il4 at388_3257 (gw_const at388_3259 (gw_iadd at388_3260 (gw_ia at388_3261 (Or.inr s.1.1) s.1.2 (by omega) (by omega) (by omega) (?_))))))
    rw [s.2]
    refine gw_call2 at388_3262 e (by omega) (Nat.le_of_ble_eq_true rfl) (fun o M1 q2 => ?_)
    obtain ⟨b, T2, c2, J2, rfl, rfl, hE⟩ := q2
    have hE0 := hE
    obtain ⟨⟨g1, g2⟩, g3, g4, -⟩ := hE
    show gw _ _ _ _ _ (gi b :: _) _ _
    refine gw_is6 at388_3265 (h := ?_)
    refine gw_al2 at388_3267 (gw_callP1 at388_3268 (m_thrown g1 g2) (by omega) (Nat.le_of_ble_eq_true rfl) ?_)
    rw [g3]
    refine gw_il5 at388_3271 (gw_ceq at388_3273 (by omega) (by omega) (fun _ => ?_) (fun q => absurd rfl q))
    refine gw_il5 at388_3278 (gw_zne at388_3280 (by omega) (fun _ => ?_) (fun q => absurd q (by omega)))
    exact gw_goto at388_3295 (hend _ T2 c2 J2 _ _ hE0 rfl rfl)
set_option maxHeartbeats 1000000 in
theorem lc_63 {d HW HM : Nat} {T : gT} {c J : gC} {L : Nat} {i : Int} {E : gT → gC → gC → Prop} {Q : am_O → am_M → Prop} {hm : Nat → Int} {R : (Int ⊕ Nat) → gT → gC → gC → Prop} {u5 u6 : Value} (hHW : HW + 1 ≤ d) (hHM : HM + 1 ≤ d) (hL : (T.1 800000).1 = 41 ∧ (T.1 800000).2.1 = L) (hL2 : L ≤ 3072) (hi : 0 ≤ i ∧ i + 6 ≤ (L : Int)) (hu : am_nl u5 = true) (hv : am_nl u6 = true) (h1 : gE 5 386 HW [.ref 500000, gi (c 800000 (i + 1)), gi (c 800000 (i + 2)), .ref 500002] (gm T c J) (gW hm R)) (h2 : ∀ v T1 c1 J1, R (.inl v) T1 c1 J1 → SCP L c T1 c1 ∧ gE 5 288 HM [.ref 500001, gi (c 800000 (i + 1)), gi (c 800000 (i + 2))] (gm T1 c1 (gu J1 500002 0 v)) (fun o M1 => ∃ T2 c2 J2, o = .inl (some (gi v)) ∧ M1 = gm T2 c2 J2 ∧ ESP E 0 T2 c2 J2 ∧ J2 500002 0 = v ∧ -2147483648 ≤ v ∧ v < 2147483648)) (h3 : ∀ X T1 c1 J1, R (.inr X) T1 c1 J1 → (1 ≤ hm X ∧ hm X ≤ 3) ∧ SCP L c (gTe T1) (gz c1 (700000 + T1.2.1 7)) ∧ gE 5 288 HM [.ref 500001, gi (c 800000 (i + 1)), gi (c 800000 (i + 2))] (gm (gTe T1) (gz c1 (700000 + T1.2.1 7)) (gz J1 (700000 + T1.2.1 7))) (fun o M1 => ∃ b T2 c2 J2, o = .inl (some (gi b)) ∧ M1 = gm T2 c2 J2 ∧ ESP E (hm X) T2 c2 J2)) (hend : ∀ z T2 c2 J2 (k b : Value), ESP E z T2 c2 J2 → am_nl k = true → am_nl b = true → gw d 5 388 3366 [.ref 800000, .ref 500000, .ref 500001, .ref 500002, gi i, k, b] [] (gm T2 c2 J2) Q) : gw d 5 388 3298 [.ref 800000, .ref 500000, .ref 500001, .ref 500002, gi i, u5, u6] [] (gm T c J) Q := by
  refine gw_al1 at388_3298 (gw_al0 at388_3299 (gw_il4 at388_3300 (gw_const at388_3302 (gw_iadd at388_3303 (gw_ia at388_3304 (Or.inr hL.1) hL.2 (by omega) (by omega) (by omega) (gw_al0 at388_3305 (gw_il4 at388_3306 (gw_const at388_3308 (gw_iadd at388_3309 (gw_ia at388_3310 (Or.inr hL.1) hL.2 (by omega) (by omega) (by omega) (gw_al3 at388_3311 (?_))))))))))))
  refine gw_call4 at388_3312 h1 (by omega) (Nat.le_of_ble_eq_true rfl) (fun o M1 q => ?_)
  obtain ⟨T1, c1, J1, ⟨v, hR, rfl, rfl⟩ | ⟨X, hR, rfl, rfl⟩⟩ := q
  · obtain ⟨s, e⟩ := h2 v T1 c1 J1 hR
    show gw _ _ _ _ _ (gi 0 :: _) _ _
    refine gw_is5 at388_3315 (h := ?_)
    refine gw_al2 at388_3317 (gw_al0 at388_3318 (gw_il4 at388_3319 (gw_const at388_3321 (gw_iadd at388_3322 (gw_ia at388_3323 (Or.inr s.1.1) s.1.2 (by omega) (by omega) (by omega) (gw_al0 at388_3324 (gw_il4 at388_3325 (gw_const at388_3327 (gw_iadd at388_3328 (gw_ia at388_3329 (Or.inr s.1.1) s.1.2 (by omega) (by omega) (by omega) (?_)))))))))))
    rw [s.2]
    refine gw_call3 at388_3330 e (by omega) (Nat.le_of_ble_eq_true rfl) (fun o M1 q2 => ?_)
    obtain ⟨T2, c2, J2, rfl, rfl, hE, hv2, hvr⟩ := q2
    have hE0 := hE
    obtain ⟨⟨g1, g2⟩, g3, g4, -⟩ := hE
    show gw _ _ _ _ _ (gi v :: _) _ _
    refine gw_is6 at388_3333 (h := ?_)
    refine gw_al2 at388_3335 (gw_callP1 at388_3336 (m_thrown g1 g2) (by omega) (Nat.le_of_ble_eq_true rfl) ?_)
    rw [g3]
    refine gw_il5 at388_3339 (gw_ceq at388_3341 (by decide) (by decide) (fun _ => ?_) (fun q => absurd rfl q))
    refine gw_il5 at388_3346 (gw_zne at388_3348 (by decide) (fun q => absurd rfl q) (fun _ => ?_))
    refine gw_al3 at388_3351 (gw_const at388_3352 (gw_la at388_3353 g4.1 g4.2 (by decide) (by decide) (by decide) ?_))
    rw [hv2]
    refine gw_il6 at388_3354 (gw_i2l at388_3356 hvr (gw_lceq at388_3357 at388_3358 (by omega) (by omega) (fun _ => ?_) (fun q => absurd rfl q)))
    exact gw_goto at388_3363 (hend _ T2 c2 J2 _ _ hE0 rfl rfl)
  · obtain ⟨hk, s, e⟩ := h3 X T1 c1 J1 hR
    show gw _ _ _ _ _ (gi (hm X) :: _) _ _
    refine gw_is5 at388_3315 (h := ?_)
    refine gw_al2 at388_3317 (gw_al0 at388_3318 (gw_il4 at388_3319 (gw_const at388_3321 (gw_iadd at388_3322 (gw_ia at388_3323 (Or.inr s.1.1) s.1.2 (by omega) (by omega) (by omega) (gw_al0 at388_3324 (gw_il4 at388_3325 (gw_const at388_3327 (gw_iadd at388_3328 (gw_ia at388_3329 (Or.inr s.1.1) s.1.2 (by omega) (by omega) (by omega) (?_)))))))))))
    rw [s.2]
    refine gw_call3 at388_3330 e (by omega) (Nat.le_of_ble_eq_true rfl) (fun o M1 q2 => ?_)
    obtain ⟨b, T2, c2, J2, rfl, rfl, hE⟩ := q2
    have hE0 := hE
    obtain ⟨⟨g1, g2⟩, g3, g4, -⟩ := hE
    show gw _ _ _ _ _ (gi b :: _) _ _
    refine gw_is6 at388_3333 (h := ?_)
    refine gw_al2 at388_3335 (gw_callP1 at388_3336 (m_thrown g1 g2) (by omega) (Nat.le_of_ble_eq_true rfl) ?_)
    rw [g3]
    refine gw_il5 at388_3339 (gw_ceq at388_3341 (by omega) (by omega) (fun _ => ?_) (fun q => absurd rfl q))
    refine gw_il5 at388_3346 (gw_zne at388_3348 (by omega) (fun _ => ?_) (fun q => absurd q (by omega)))
    exact gw_goto at388_3363 (hend _ T2 c2 J2 _ _ hE0 rfl rfl)
