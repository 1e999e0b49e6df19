/-! the law's case: a text is read -/
theorem ldm_RG {c : gC} (hc : RG c) (h : 0 ≤ c 500000 10 ∧ c 500000 10 < 1000000) : RG (ldm c) := by
  have r1 : RG (ncp (gu (gu c 500000 10 (c 500000 10 + 1)) 100002 0 (c 500000 10 + 1)) 100014 100002) := ncp_RG (RG_gu (RG_gu hc (by omega)) (by omega))
  unfold ldm beg
  exact bgi_RG r1 (beg0_RG r1) 24
theorem IV_ldx {n L : Nat} {T : gT} {c : gC} (h : IV n L T c) : (AT T ∧ LT T c ∧ HR T c) ∧ (NR c 100002 ∧ KWS c ∧ TX c) ∧ 0 ≤ c 500000 10 ∧ c 500000 10 ≤ (n : Int) := by
  have ct := IV_CT h
  obtain ⟨⟨G, Lo, R, Z, ⟨⟨-, -, -, a, b⟩, -⟩, ⟨⟨-, ⟨d, -, -⟩, -, e, f⟩, -⟩, -, -, g1, g2, g3⟩, -⟩ := h
  exact ⟨⟨ct.1, a, b⟩, ⟨d, e, f⟩, by omega, by omega⟩
def psC (c : gC) : Bool × gC := psl (pr0 c) 1201
def rdM (m : gC) : gC := mlop 1201 200001 (ld1 m)
theorem psC_x {c : gC} : ((prs c).1 = true ∧ (psC c).1 = true ∧ (prs c).2 = prd (psC c).2) ∨ ((prs c).1 = false ∧ (psC c).1 = false ∧ (prs c).2 = (psC c).2) := by
  have key : ∀ X : Bool × gC, ((if X.1 = true then (true, prd X.2) else (false, X.2)).1 = true ∧ X.1 = true ∧ (if X.1 = true then (true, prd X.2) else (false, X.2)).2 = prd X.2) ∨ ((if X.1 = true then (true, prd X.2) else (false, X.2)).1 = false ∧ X.1 = false ∧ (if X.1 = true then (true, prd X.2) else (false, X.2)).2 = X.2) := fun X => by
    cases w : X.1 with
    | true => rw [if_pos rfl]; exact Or.inl ⟨rfl, rfl, rfl⟩
    | false => rw [if_neg (by decide)]; exact Or.inr ⟨rfl, rfl, rfl⟩
  exact key (psC c)
theorem rdM_p {c m : gC} (hc : RG c) (hB : BR c 100000) (hN : NR c 100002) (hM : MIn m) (hI : c 100000 1 = m 500001 15) (hb : ∀ k, 0 ≤ k → k < c 100000 1 → c 100001 k = m 200009 k ∧ -128 ≤ c 100001 k ∧ c 100001 k < 128) (hK : KWS c) (hT : TX m) : RES (psC c) (rdM m) := parse_e hc hB hN hM hI hb hK hT
theorem rdM_f {m : gC} (h : MIn m) : (RG (rdM m) ∧ NW (rdM m) 200001) ∧ (∀ k : Nat, ¬ k = 500001 → ¬ k = 200001 → rdM m k = m k) ∧ (∀ j : Int, ¬ j = 0 → (j < 15 ∨ 23 < j) → rdM m 500001 j = m 500001 j) ∧ rdM m 500001 0 = 0 ∧ rdM m 500001 15 = 0 := rd_f h
theorem rdM_c {m : gC} (h : MIn m) : CLR (rdM m) := CLR_ld h
theorem rdM_x {g : Nat} {T : gT} {c J : gC} (hM : MT T 200000) (h : MIn c) (hL : LT T c) (h13 : 0 ≤ c 500001 13 ∧ c 500001 13 ≤ 10) : gE g 316 10 [.ref 500001] (gm T c J) (fun o M1 => (mgd (rdM c) = false ∧ o = .inl (some (gi (-4))) ∧ M1 = gm T (rdM c) J) ∨ (mgd (rdM c) = true ∧ o = .inl (some (gi ((gcp (rem (mbeg 200001 (rdM c))) 200001 200000 0 0 208) 200000 1))) ∧ M1 = gm T (gcp (rem (mbeg 200001 (rdM c))) 200001 200000 0 0 208) J)) := m_x_load hM h hL h13
def RLd (T : gT) (c J : gC) : Int → gT → gC → gC → Prop := fun v T1 c1 J1 => (v = -4 ∧ (prs c).1 = false ∧ T1 = T ∧ c1 = gu (prs c).2 100000 1 0 ∧ J1 = J) ∨ ((prs c).1 = true ∧ ∃ d, KP T (gu (prs c).2 100000 1 0) J T1 d J1 ∧ v = ldm d 100014 2 ∧ c1 = ldm d)
set_option maxHeartbeats 1000000 in
theorem op_2 {L : Nat} : OPC L 452 := by
  intro n T c J i u5 u6 Q hn h hL hi hu hv hend
  have rg := IV_RG h
  obtain ⟨⟨bt, br⟩, mi, io1, io2⟩ := IV_in h
  obtain ⟨⟨hA, hLT, hHR⟩, ⟨hN2, hK, hTX⟩, s0, s1⟩ := IV_ldx h
  have b13 := IV_13 h
  obtain ⟨p1, p2⟩ := prs_of rg br hN2
  generalize hf : gu (prs c).2 100000 1 0 = f
  have fk : ∀ k : Nat, ¬ k = 100000 → f k = (prs c).2 k := fun k hk => by rw [← hf]; exact funext fun j => gu_k hk
  have ef : ∀ k : Nat, ¬ k = 100000 → ¬ k = 100032 → ¬ (100002 ≤ k ∧ k < 100014) → f k = c k := fun k h0 h1 h2 => (fk k h0).trans (p2 k h1 (by omega))
  have f1 : f 100000 1 = 0 := by rw [← hf]; exact gu_s
  have rf : RG f := by rw [← hf]; exact RG_gu p1.1.1 (by decide)
  have fN : NR f 100002 := by rw [← hf]; exact NR_k p1.2 (by omega)
  have hHf : HR T f := HR_of hHR (ef _ (by decide) (by decide) (by decide))
  have psx := psC_x (c := c)
  refine lc_2 (HW := 7) (HM := 10) (R := RLd T c J) (E := fun T c _ => IV (n + 1) L T c) (by omega) (by omega) hu hv (gE_mono (c_x_load (IV_XT h) hA (IV_NT h) (IV_WT h).1 (IV_WT h).2 rg br hN2 hHR ⟨s0, by omega⟩) fun o M1 q => ?_) (fun v T1 c1 J1 hR => ?_) (fun z T2 c2 J2 k b q hk hb => hend T2 c2 J2 k b q.2.2.2 hk hb)
  · rcases q with ⟨q1, rfl, rfl⟩ | ⟨q1, T1, d, J1, kp, rfl, rfl⟩
    · exact ⟨_, _, _, _, rfl, rfl, Or.inl ⟨rfl, q1, rfl, rfl, rfl⟩⟩
    · exact ⟨_, _, _, _, rfl, rfl, Or.inr ⟨q1, d, kp, rfl, rfl⟩⟩
  · unfold RLd at hR
    rw [hf] at hR
    rcases hR with ⟨ev, q1, eT, ec, eJ⟩ | ⟨q1, d, kp, ev, ec⟩
    · rw [ev, eT, ec, eJ]
      have e15 : f 500001 15 = c 500001 15 := by rw [ef _ (by decide) (by decide) (by decide)]
      have mif : MIn f := ⟨rf, by rw [e15]; exact mi.2.1, fun k k0 k1 => by rw [ef _ (by decide) (by decide) (by decide)]; exact mi.2.2 k k0 k1⟩
      have PE := rdM_p (m := f) rg br hN2 mif (by rw [e15]; exact io1) (fun k k0 k1 => by rw [ef 200009 (by decide) (by decide) (by decide)]; exact io2 k k0 k1) hK (TX_o hTX fun k hk => ef k (by omega) (by omega) (by omega))
      have hps : (psC c).1 = false ∧ (prs c).2 = (psC c).2 := by
        rcases psx with ⟨w, -⟩ | ⟨-, w⟩
        · rw [q1] at w; cases w
        · exact w
      have bad : BAD (psC c).2 (rdM f) := by
        rcases PE with ⟨w, -⟩ | ⟨-, w⟩
        · rw [hps.1] at w; cases w
        · exact w
      have rd := rdM_f mif
      refine ⟨by decide, gE_mono (rdM_x (IV_MT h) mif (LT_of hLT (fun _ _ => rfl) (fun k hk j => by rw [ef k (by omega) (by omega) (by omega)])) (by rw [ef 500001 (by decide) (by decide) (by decide)]; exact b13.2)) fun o M1 q => ?_⟩
      generalize rdM f = y at *
      obtain ⟨⟨y1, y2⟩, y3, y4, y5, y6⟩ := rd
      rcases q with ⟨-, rfl, rfl⟩ | ⟨q2, -⟩
      · have i2 : IV n L T y := IV_pf h (by omega) (fun k k0 k1 k2 k3 k4 => (y3 k k4 k3).trans (ef k k0 k1 k2)) (fun j j0 hj => by rw [y4 j j0 hj, ef _ (by decide) (by decide) (by decide)]) y1 (NR_oth fN fun k k0 k1 => y3 k (by omega) (by omega)) (by rw [y3 _ (by decide) (by decide)]; exact f1) y6 (by rw [y3 _ (by decide) (by decide), fk _ (by decide), hps.2]; exact bad.2.1) (by rw [y3 _ (by decide) (by decide), fk _ (by decide), hps.2]; exact bad.2.2)
        exact ⟨_, _, _, _, rfl, rfl, ⟨IV_MT h, y1⟩, rfl, IV_out h, IV_up i2 (by omega)⟩
      · rw [bad.1] at q2; cases q2
    · have hps : (psC c).1 = true ∧ (prs c).2 = prd (psC c).2 := by
        rcases psx with ⟨-, w⟩ | ⟨w, -⟩
        · exact w
        · rw [q1] at w; cases w
      have kc : ∀ k : Nat, (k < 300000 ∨ 400000 ≤ k) → ¬ k = 100052 → d k = f k := fun k hk h3 => KP_c kp hk h3
      have rd1 : RG d := KP_RG kp hHf
      have d10 : d 500000 10 = c 500000 10 := by rw [kc _ (by decide) (by decide), ef _ (by decide) (by decide) (by decide)]
      have rw1 : RG (ldm d) := ldm_RG rd1 (by omega)
      have wk : ∀ k : Nat, ¬ k = 500000 → ¬ k = 100000 → ¬ k = 100032 → (100039 ≤ k) → (k < 300000 ∨ 400000 ≤ k) → ¬ k = 100052 → ldm d k = c k := fun k h0 h1 h2 h3 h4 h5 => (ldm_k h0 (by omega) (by omega) (by omega)).trans ((kc k h4 h5).trans (ef k h1 h2 (by omega)))
      have e15 : ldm d 500001 15 = c 500001 15 := by rw [wk _ (by decide) (by decide) (by decide) (by decide) (by decide) (by decide)]
      have miw : MIn (ldm d) := ⟨rw1, by rw [e15]; exact mi.2.1, fun k k0 k1 => by rw [wk _ (by decide) (by decide) (by decide) (by decide) (by decide) (by decide)]; exact mi.2.2 k k0 k1⟩
      have PE := rdM_p (m := ldm d) rg br hN2 miw (by rw [e15]; exact io1) (fun k k0 k1 => by rw [wk 200009 (by decide) (by decide) (by decide) (by decide) (by decide) (by decide)]; exact io2 k k0 k1) hK (TX_o hTX fun k hk => wk k (by omega) (by omega) (by omega) (by omega) (by omega) (by omega))
      have pz : PZ (psC c).2 (rdM (ldm d)) := by
        rcases PE with ⟨-, w⟩ | ⟨w, -⟩
        · exact w
        · rw [hps.1] at w; cases w
      have rd := rdM_f miw
      have clr := rdM_c miw
      have good := PZ_g pz
      have hLT1 : LT T1 (ldm d) := LT_of hLT (fun k hk => KP_T kp (by omega) (by omega)) (fun k hk j => by rw [wk k (by omega) (by omega) (by omega) (by omega) (by omega) (by omega)])
      have w13 : 0 ≤ ldm d 500001 13 ∧ ldm d 500001 13 ≤ 10 := by rw [wk _ (by decide) (by decide) (by decide) (by decide) (by decide) (by decide)]; exact b13.2
      have out1 : (T1.1 500002).1 = 3 ∧ (T1.1 500002).2.1 = 1 := by rw [KP_T kp (by decide) (by decide)]; exact IV_out h
      have nfx : NF (prd (psC c).2) f 100002 := fun k k0 k1 j => by rw [fk k (by omega), hps.2]
      have prk : prd (psC c).2 100032 = (psC c).2 100032 := by
        unfold prd
        split
        · exact funext fun j => gu_k (by decide)
        · rfl
      have f3 : f 100032 3 = rdM (ldm d) 500001 21 := by rw [fk _ (by decide), hps.2, prk, pz.2.2.2.1.1.1, pz.2.2.2.1.1.2]
      have f4 : f 100032 4 = rdM (ldm d) 500001 22 := by rw [fk _ (by decide), hps.2, prk, pz.2.2.2.1.2.1, pz.2.2.2.1.2.2]
      have ld := IV_ld (F := gcp (rem (mbeg 200001 (rdM (ldm d)))) 200001 200000 0 0 208) h (by omega) ef f1 fN kp rfl ⟨rd.1, rd.2.1, rd.2.2.1, rd.2.2.2.2⟩ pz.2.1 nfx clr f3 f4
      rw [ev, ec]
      refine ⟨rw1 _ _, gE_mono (rdM_x (KP_MT kp (IV_MT h)) miw hLT1 w13) fun o M1 q => ?_⟩
      rcases q with ⟨q2, -⟩ | ⟨-, rfl, rfl⟩
      · rw [good] at q2; cases q2
      · exact ⟨_, _, _, _, by rw [ld.2.1], rfl, ⟨KP_MT kp (IV_MT h), ld.2.2⟩, rfl, out1, ld.1⟩
