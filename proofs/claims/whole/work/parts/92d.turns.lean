/-! turns along a route: the class's steps and the reference's array -/
section
variable {c mm M : gC} {b : Nat}
theorem leg_e (h : TT2 c mm M b) (hb : M b = c b) (hb2 : ¬ b = 200004 ∧ ¬ b = 500001) (hL : LR M) (hc : RG M) {p n l g kd : Int} (hB : BG c b p n l) (hg : GL c b g) (hm : mcf M b n l g < 1000000000) {F : Int × Int → Int × Int} (hF1 : ∀ k : Nat, 0 < (lrt M b n l g (k : Int)).1.2.2 → ∀ s, F (s, (lrt M b n l g (k : Int)).1.2.1) = (s + ist mm (lrt M b n l g (k : Int)).1.2.1 (fst1 mm (plc (lrt M b n l g (k : Int)).1.2.1 (lrt M b n l g (k : Int)).1.1) g).1 kd, (fst1 mm (plc (lrt M b n l g (k : Int)).1.2.1 (lrt M b n l g (k : Int)).1.1) g).1)) (hF0 : ∀ k : Nat, 1 ≤ k → (lrt M b n l g (k : Int)).1.2.2 = 0 → ∀ s, F (s, (lrt M b n l g (k : Int)).1.2.1) = (s, (lrt M b n l g (k : Int)).1.2.1)) (s : Int) : itI (fun _ => F) (s, l) 24 = (s + (tir (lrt M b n l g 24).2 b l kd ((lrt M b n l g 24).2 500001 7)).1, (lrt M b n l g 24).1.2.1) := by
  obtain ⟨f1, f2, f3⟩ := h.fM hb
  have hO := LO_GL f2 f1 f3 (GL_o hb hg)
  have g0 := GL_0 hg
  have hx : -2147483648 ≤ n ∧ n < 2147483648 := by
    rcases hB with ⟨-, -, a3, a4⟩ | ⟨-, a2, a3⟩
    · omega
    · have := men_rg h.nw (mhA_rg h.nw a2); omega
  have hlr : -1 ≤ l ∧ l < 24 := by
    rcases hB with ⟨-, a3, -⟩ | ⟨-, a2, -⟩
    · omega
    · have := mhA_rg h.nw a2; omega
  have hfin := lrt_fin hc f2 hL (n := n) (l := l) g0.1 hO hx hlr hm
  obtain ⟨y1, y2, y3, y4, y5⟩ := lrt_24 hc f2 hL g0.1 hO hx hlr hm
  obtain ⟨-, a2, a3⟩ := lrt_arr (M := M) (b := b) (n := n) (l := l) (z := g) 24
  rw [show ((24 : Nat) : Int) = 24 from rfl] at a2 a3
  have hsz : 0 < (lrt M b n l g 24).2 500001 7 := by
    refine Classical.byContradiction fun q => ?_
    have := a3 0 (by omega) (by decide)
    have h2 : (lrt M b n l g 24).1.2.2 = mcf M b n l g := by rw [← this]; rfl
    have := mcf_pos (n := n) (l := l) f2 hL g0.1 hO
    omega
  have key : ∀ k : Nat, k ≤ 24 → itI (fun _ => F) (s, l) (k : Int) = (s + (tir (lrt M b n l g 24).2 b l kd (min (k : Int) ((lrt M b n l g 24).2 500001 7))).1, (lrt M b n l g (k : Int)).1.2.1) := by
    intro k
    induction k with
    | zero =>
      intro _
      rw [show min ((0 : Nat) : Int) ((lrt M b n l g 24).2 500001 7) = 0 by omega]
      show (s, l) = (s + 0, l)
      rw [Int.add_zero]
    | succ k ih =>
      intro hk
      have ih2 := ih (by omega)
      rw [show ((k + 1 : Nat) : Int) = (k : Int) + 1 by omega, itI_s _ _ (by omega), ih2]
      by_cases e : (k : Int) < (lrt M b n l g 24).2 500001 7
      · obtain ⟨b1, b2⟩ := a2 (k : Int) (by omega) e
        have hr := rst_ok h hb hL hB hg hm k
        obtain ⟨s1, s2, s3, s4⟩ := rst_st h hb hg hr b2
        have hl : (lrt M b n l g (k : Int)).1.2.1 = -1 ∨ mhA c b (lrt M b n l g (k : Int)).1.2.1 = true := by
          rcases hr.1 with ⟨-, q, -⟩ | ⟨-, q, -⟩
          · exact Or.inl q
          · exact Or.inr q
        have ht := tir_st (M := M) (b := b) (n := n) (l := l) (z := g) (kd := kd) k (by omega)
        have e5 : lrt M b n l g ((k : Int) + 1) = _ := (lrt_s (by omega)).trans (lrs_t b2)
        rw [hF1 k b2, s1, show min (k : Int) ((lrt M b n l g 24).2 500001 7) = (k : Int) by omega, show min ((k : Int) + 1) ((lrt M b n l g 24).2 500001 7) = (k : Int) + 1 by omega, tir_s (by omega), ist_e h hb hl s2]
        unfold tif
        rw [ht, b1, mkd_o (y2 b hb2.1 hb2.2), e5]
        try dsimp only
        rw [Int.add_assoc]
      · have e2 : (lrt M b n l g (k : Int)).1 = (lrt M b n l g 24).1 := a3 (k : Int) (by omega) (by omega)
        have e3 : (lrt M b n l g ((k : Int) + 1)).1 = (lrt M b n l g 24).1 := a3 ((k : Int) + 1) (by omega) (by omega)
        rw [hF0 k (by omega) (by rw [e2]; exact hfin), show min (k : Int) ((lrt M b n l g 24).2 500001 7) = (lrt M b n l g 24).2 500001 7 by omega, show min ((k : Int) + 1) ((lrt M b n l g 24).2 500001 7) = (lrt M b n l g 24).2 500001 7 by omega, e2, e3]
  have := key 24 (by decide)
  rw [show ((24 : Nat) : Int) = 24 from rfl] at this
  rw [this, show min 24 ((lrt M b n l g 24).2 500001 7) = (lrt M b n l g 24).2 500001 7 by omega]
/-- a leg to an arc -/
theorem legA_e (h : TT2 c mm M b) (hb : M b = c b) (hb2 : ¬ b = 200004 ∧ ¬ b = 500001) (hL : LR M) (hc : RG M) {p n l g kd : Int} (hB : BG c b p n l) (hlD : l = -1 → n = M b 2) (hlg : ¬ l = g) (g1 : mhA c b g = true) (hm : mcf M b n l g < 1000000000) (s : Int) : itI (fun _ => tsf mm kd g) (s, l) 24 = (s + (tir (lrt M b n l g 24).2 b l kd ((lrt M b n l g 24).2 500001 7)).1, g) := by
  have hr := mhA_rg h.nw g1
  obtain ⟨f1, f2, f3⟩ := h.fM hb
  have hg : GL c b g := Or.inl ⟨hr.1, hr.2, g1⟩
  have hO := LO_GL f2 f1 f3 (GL_o hb hg)
  have hx : -2147483648 ≤ n ∧ n < 2147483648 := by
    rcases hB with ⟨-, -, a3, a4⟩ | ⟨-, a2, a3⟩
    · omega
    · have := men_rg h.nw (mhA_rg h.nw a2); omega
  have hlr : -1 ≤ l ∧ l < 24 := by
    rcases hB with ⟨-, a3, -⟩ | ⟨-, a2, -⟩
    · omega
    · have := mhA_rg h.nw a2; omega
  have hfin := lrt_fin hc f2 hL (n := n) (l := l) hr.1 hO hx hlr hm
  have g2 : mhA M b g = true := by rw [mhA_o hb]; exact g1
  have z0 : ∀ k : Nat, 1 ≤ k → ((lrt M b n l g (k : Int)).1.2.2 = 0 ↔ (lrt M b n l g (k : Int)).1.2.1 = g) := fun k hk => by
    obtain ⟨q1, q2, q3, -⟩ := rst_pre h hb hL hB hg hm (k - 1)
    rw [show ((k - 1 : Nat) : Int) + 1 = (k : Int) by omega] at q1 q2 q3
    rw [mlt_a hr.2] at q2
    rw [q2]
    exact ⟨fun q => FW_self f2 f1 f3 (by rw [mhA_o hb]; exact q1) g2 q, fun q => by rw [q]; exact tE_aa f2 f1 g2⟩
  have := leg_e h hb hb2 hL hc hB hg hm (kd := kd) (F := tsf mm kd g) (fun k k0 s => ?_) (fun k k1 k0 s => ?_) s
  · have z1 := z0 24 (by decide)
    rw [show ((24 : Nat) : Int) = 24 from rfl] at z1
    rw [this, z1.1 hfin]
  · have hne : ¬ (lrt M b n l g (k : Int)).1.2.1 = g := fun q => by
      by_cases e : k = 0
      · rw [e] at q; exact hlg q
      · have := (z0 k (by omega)).2 q; omega
    have hpl : (if (lrt M b n l g (k : Int)).1.2.1 = -1 then 24 + mm 100014 3 else (lrt M b n l g (k : Int)).1.2.1) = plc (lrt M b n l g (k : Int)).1.2.1 (lrt M b n l g (k : Int)).1.1 := by
      unfold plc
      by_cases e : k = 0
      · rw [e, show ((0 : Nat) : Int) = 0 from rfl, lrt_0]
        try dsimp only
        by_cases e2 : l = -1
        · rw [if_pos e2, if_pos e2, DP_e h hb, hlD e2]
        · rw [if_neg e2, if_neg e2]
      · obtain ⟨q1, -⟩ := rst_pre h hb hL hB hg hm (k - 1)
        rw [show ((k - 1 : Nat) : Int) + 1 = (k : Int) by omega] at q1
        have := mhA_rg h.nw q1
        rw [if_neg (by omega), if_neg (by omega)]
    unfold tsf
    rw [if_neg hne]
    try dsimp only
    rw [hpl]
  · unfold tsf
    rw [if_pos ((z0 k k1).1 k0)]
/-- the leg home -/
theorem legD_e (h : TT2 c mm M b) (hb : M b = c b) (hb2 : ¬ b = 200004 ∧ ¬ b = 500001) (hL : LR M) (hc : RG M) {l kd : Int} (hl : mhA c b l = true) (hD : 0 ≤ M b 2 ∧ M b 2 < 10) (hlD : ¬ men M b l = M b 2) (hm : mcf M b (men M b l) l (24 + M b 2) < 1000000000) (s : Int) : (itI (fun _ => tsb mm kd) (s, l) 24).1 = s + (tir (lrt M b (men M b l) l (24 + M b 2) 24).2 b l kd ((lrt M b (men M b l) l (24 + M b 2) 24).2 500001 7)).1 := by
  have hr := mhA_rg h.nw hl
  obtain ⟨f1, f2, f3⟩ := h.fM hb
  have hg : GL c b (24 + M b 2) := Or.inr ⟨by omega, by omega⟩
  have hB : BG c b l (men M b l) l := Or.inr ⟨rfl, hl, by rw [men_o hb]⟩
  have eD := DP_e h hb
  have arcs : ∀ k : Nat, mhA c b (lrt M b (men M b l) l (24 + M b 2) (k : Int)).1.2.1 = true ∧ (0 < (lrt M b (men M b l) l (24 + M b 2) (k : Int)).1.2.2 ↔ ¬ en mm 100014 (lrt M b (men M b l) l (24 + M b 2) (k : Int)).1.2.1 = M b 2) := fun k => by
    cases k with
    | zero =>
      rw [show ((0 : Nat) : Int) = 0 from rfl, lrt_0]
      try dsimp only
      rw [en_T h hb hl]
      have := mcf_pos (n := men M b l) (l := l) f2 hL (GL_0 hg).1 (LO_GL f2 f1 f3 (GL_o hb hg))
      exact ⟨hl, fun _ => hlD, fun _ => this⟩
    | succ k =>
      obtain ⟨q1, q2, q3, -⟩ := rst_pre h hb hL hB hg hm k
      rw [show ((k + 1 : Nat) : Int) = (k : Int) + 1 by omega, en_T h hb q1, q2]
      exact ⟨q1, mlt_00 f2 f1 hL f3 (by rw [mhA_o hb]; exact q1) hD.1⟩
  rw [leg_e h hb hb2 hL hc hB hg hm (kd := kd) (F := tsb mm kd) (fun k k0 s => ?_) (fun k k1 k0 s => ?_) s]
  · obtain ⟨q1, q2⟩ := arcs k
    have := mhA_rg h.nw q1
    unfold tsb
    rw [if_neg (by
      intro q
      rcases q with q | q
      · dsimp only at q; omega
      · exact q2.1 k0 (q.trans eD))]
    have hp : plc (lrt M b (men M b l) l (24 + M b 2) (k : Int)).1.2.1 (lrt M b (men M b l) l (24 + M b 2) (k : Int)).1.1 = (lrt M b (men M b l) l (24 + M b 2) (k : Int)).1.2.1 := by
      unfold plc
      rw [if_neg (by omega)]
    rw [hp, eD]
  · obtain ⟨q1, q2⟩ := arcs k
    unfold tsb
    refine if_pos (Or.inr ?_)
    refine Classical.byContradiction fun q => ?_
    have := q2.2 (fun z => q (z.trans eD.symm))
    omega
/-- all legs of a plan -/
theorem tour_e (h : TT2 c mm M b) (hb : M b = c b) (hb2 : (¬ b = 200004 ∧ ¬ b = 500001) ∧ ¬ b = 200003) (hL : LR M) (hc : RG M) (hD : 0 ≤ M b 2 ∧ M b 2 < 10) {N z kd : Int} (hN : 0 ≤ N ∧ N ≤ 12) (hp : ∀ j, 0 ≤ j → j < N → mhA c b (M 200007 j) = true ∧ paa mm z j = M 200007 j ∧ (1 ≤ j → ¬ M 200007 (j - 1) = M 200007 j) ∧ mcf M b (pta M b j) (ptb M j) (M 200007 j) < 1000000000) : ∀ i : Nat, (i : Int) ≤ N → itI (tso mm z kd) (0, -1) (i : Int) = ((ptq M b kd (i : Int)).1, ptb M (i : Int)) ∧ RQ M (ptq M b kd (i : Int)).2 := by
  intro i
  induction i with
  | zero => intro _; exact ⟨rfl, hc, fun _ _ _ => rfl, fun _ _ => rfl⟩
  | succ i ih =>
    intro hi
    obtain ⟨i1, i2⟩ := ih (by omega)
    obtain ⟨p1, p2, p3, p4⟩ := hp (i : Int) (by omega) (by omega)
    rw [show ((i + 1 : Nat) : Int) = (i : Int) + 1 by omega, itI_s _ _ (by omega), i1, ptq_s (by omega), pts_e]
    generalize ptq M b kd (i : Int) = X at *
    obtain ⟨r1, r2, r3⟩ := i2
    have e3 : X.2 200003 = M 200003 := r2 200003 (by decide) (by decide)
    have eb : X.2 b = M b := r2 b hb2.1.1 hb2.1.2
    have hX := TT2_M h e3
    have hXb : X.2 b = c b := eb.trans hb
    have hXL := LR_M hL e3
    have hB : ∃ p, BG c b p (pta M b (i : Int)) (ptb M (i : Int)) := by
      unfold pta ptb
      by_cases e : (i : Int) = 0
      · rw [if_pos e, if_pos e]
        exact ⟨_, Or.inl ⟨rfl, rfl, hD⟩⟩
      · rw [if_neg e, if_neg e]
        have q := (hp ((i : Int) - 1) (by omega) (by omega)).1
        exact ⟨_, Or.inr ⟨rfl, q, by rw [men_o hb]⟩⟩
    obtain ⟨p, hB⟩ := hB
    have hlD : ptb M (i : Int) = -1 → pta M b (i : Int) = X.2 b 2 := by
      unfold pta ptb
      by_cases e : (i : Int) = 0
      · rw [if_pos e, if_pos e, eb]; exact fun _ => rfl
      · rw [if_neg e]
        have := mhA_rg h.nw (hp ((i : Int) - 1) (by omega) (by omega)).1
        intro q; omega
    have hlg : ¬ ptb M (i : Int) = M 200007 (i : Int) := by
      unfold ptb
      have := mhA_rg h.nw p1
      by_cases e : (i : Int) = 0
      · rw [if_pos e]; omega
      · rw [if_neg e]; exact p3 (by omega)
    have hm : mcf X.2 b (pta M b (i : Int)) (ptb M (i : Int)) (M 200007 (i : Int)) < 1000000000 := by rw [mcf_o eb e3]; exact p4
    have hr := mhA_rg h.nw p1
    obtain ⟨f1, f2, f3⟩ := hX.fM hXb
    have hO := LO_GL f2 f1 f3 (GL_o hXb (Or.inl ⟨hr.1, hr.2, p1⟩))
    have hx : -2147483648 ≤ pta M b (i : Int) ∧ pta M b (i : Int) < 2147483648 := by
      rcases hB with ⟨-, -, a3, a4⟩ | ⟨-, a2, a3⟩
      · omega
      · have := men_rg h.nw (mhA_rg h.nw a2); omega
    have hlr : -1 ≤ ptb M (i : Int) ∧ ptb M (i : Int) < 24 := by
      rcases hB with ⟨-, a3, -⟩ | ⟨-, a2, -⟩
      · omega
      · have := mhA_rg h.nw a2; omega
    obtain ⟨y1, y2, y3, y4, y5⟩ := lrt_24 r1 f2 hXL hr.1 hO hx hlr hm
    have hRQ : RQ M (lrt X.2 b (pta M b (i : Int)) (ptb M (i : Int)) (M 200007 (i : Int)) 24).2 := ⟨y1, fun k a d => by rw [y2 k a d, r2 k a d], fun j a => by rw [y3 j a, r3 j a]⟩
    dsimp only
    refine And.intro ?_ hRQ
    unfold tso
    rw [p2, legA_e hX hXb hb2.1 hXL r1 hB hlD hlg p1 hm]
    try dsimp only
    refine Prod.ext rfl ?_
    show M 200007 (i : Int) = ptb M ((i : Int) + 1)
    unfold ptb
    rw [if_neg (by omega), show (i : Int) + 1 - 1 = (i : Int) by omega]
end
