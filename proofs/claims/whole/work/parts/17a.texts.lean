/-! texts and buffers -/
/-- a text: its key s, its bytes at v, n of them -/
def ST (T : gT) (c : gC) (s v n : Nat) : Prop := (T.1 s).1 = 40 ∧ (T.1 s).2.2 0 = v + 1 ∧ c s 1 = 0 ∧ (T.1 v).1 = 42 ∧ (T.1 v).2.1 = n ∧ n < 1000 ∧ ∀ j : Int, 0 ≤ j → j < (n : Int) → 0 ≤ c v j ∧ c v j < 128
theorem zc255 : ∀ n : Nat, n < 128 → zi2c (zand (n : Int) 255) = (n : Int) ∧ narrow .char (gi (n : Int)) = gi (n : Int) := by decide +kernel
theorem zc_of {z : Int} (h : 0 ≤ z ∧ z < 128) : zi2c (zand z 255) = z ∧ narrow .char (gi z) = gi z := by
  have := zc255 z.toNat (by omega)
  rwa [show ((z.toNat : Nat) : Int) = z by omega] at this
theorem zshr_0 {z : Int} (h : -2147483648 ≤ z ∧ z < 2147483648) : zshr z 0 = z := by
  have := zshr_of h (n := 0) (by omega)
  simpa using this
set_option maxHeartbeats 1000000 in
theorem c_coder {g : Nat} {T : gT} {c J : gC} {s v n : Nat} (hS : ST T c s v n) : gE g 335 0 [.ref s] (gm T c J) (gR (gi 0) (gm T c J)) := by
  have h3 := hS.2.2.1
  have h6 := hS.2.2.2.2.2.1
  refine gE_mk am_r335 rfl (Or.inr ⟨_, rfl, (by first | exact hS.1 | exact hS.2.1 | exact hS.2.2.2.1 | exact hS.2.2.2.2.1)⟩) (fun d hd => ?_)
  show gw d g 335 0 [.ref s] [] _ _
  refine gw_cmps at335_0 ?_
  refine gw_zeq at335_3 (by first | omega | exact hc _ _ | exact bi_rg _ | exact zrg _) (fun q3 => ?_) (fun q3 => ?_)
  · exfalso; omega
  · refine gw_al0 at335_6 (gw_gf (j := 1) at335_7 (by first | exact hS.1 | exact hS.2.1 | exact hS.2.2.2.1 | exact hS.2.2.2.2.1) rfl (gw_goto at335_10 (gw_rB at335_14 am_r335.2.1 (by first | (rw [h3]; rfl) | rfl) (gR_i ?_))))
    first | exact h3 | (exfalso; omega)
set_option maxHeartbeats 1000000 in
theorem c_latin {g : Nat} {T : gT} {c J : gC} {s v n : Nat} (hS : ST T c s v n) : gE g 336 0 [.ref s] (gm T c J) (gR (gi (bi true)) (gm T c J)) := by
  have h3 := hS.2.2.1
  have h6 := hS.2.2.2.2.2.1
  refine gE_mk am_r336 rfl (Or.inr ⟨_, rfl, (by first | exact hS.1 | exact hS.2.1 | exact hS.2.2.2.1 | exact hS.2.2.2.2.1)⟩) (fun d hd => ?_)
  show gw d g 336 0 [.ref s] [] _ _
  refine gw_cmps at336_0 ?_
  refine gw_zeq at336_3 (by omega) (fun q3 => ?_) (fun q3 => ?_)
  · exfalso; omega
  · refine gw_al0 at336_6 (gw_gf (j := 1) at336_7 (by first | exact hS.1 | exact hS.2.1 | exact hS.2.2.2.1 | exact hS.2.2.2.2.1) rfl ?_)
    refine gw_zne at336_10 (by omega) (fun q10 => ?_) (fun q10 => ?_)
    · exfalso; omega
    · refine gw_const at336_13 (gw_goto at336_14 (gw_r1 at336_18 am_r336.2.1 (gR_b ?_)))
      rfl
set_option maxHeartbeats 1000000 in
theorem c_length {g : Nat} {T : gT} {c J : gC} {s v n : Nat} (hS : ST T c s v n) : gE g 333 1 [.ref s] (gm T c J) (gR (gi (n : Int)) (gm T c J)) := by
  have h3 := hS.2.2.1
  have h6 := hS.2.2.2.2.2.1
  refine gE_mk am_r333 rfl (Or.inr ⟨_, rfl, (by first | exact hS.1 | exact hS.2.1 | exact hS.2.2.2.1 | exact hS.2.2.2.2.1)⟩) (fun d hd => ?_)
  show gw d g 333 0 [.ref s] [] _ _
  refine gw_al0 at333_0 (gw_gr at333_1 (by first | exact hS.1 | exact hS.2.1 | exact hS.2.2.2.1 | exact hS.2.2.2.2.1) (by first | exact hS.1 | exact hS.2.1 | exact hS.2.2.2.1 | exact hS.2.2.2.2.1) (gw_len at333_4 (by first | exact Or.inl (by first | exact hS.1 | exact hS.2.1 | exact hS.2.2.2.1 | exact hS.2.2.2.2.1) | exact Or.inr (Or.inl (by first | exact hS.1 | exact hS.2.1 | exact hS.2.2.2.1 | exact hS.2.2.2.2.1)) | exact Or.inr (Or.inr (Or.inr (Or.inr (Or.inl (by first | exact hS.1 | exact hS.2.1 | exact hS.2.2.2.1 | exact hS.2.2.2.2.1))))) | exact Or.inr (Or.inr (Or.inr (Or.inr (Or.inr (by first | exact hS.1 | exact hS.2.1 | exact hS.2.2.2.1 | exact hS.2.2.2.2.1)))))) (by first | exact hS.1 | exact hS.2.1 | exact hS.2.2.2.1 | exact hS.2.2.2.2.1) rfl (gw_al0 at333_5 (gw_callP1 at333_6 (c_coder hS) (by omega) (Nat.le_of_ble_eq_true rfl) (gw_ishr at333_9 (gw_ri at333_10 am_r333.2.1 (gR_i ?_)))))))
  rw [zshr_0 (by omega)]
set_option maxHeartbeats 1000000 in
theorem c_check3 {g : Nat} {T : gT} {c J : gC} {j n : Int} (hj : 0 ≤ j ∧ j < n) (hn : n < 2147483648) : gE g 340 0 [gi j, gi n, .ref 990000] (gm T c J) (gR (gi j) (gm T c J)) := by
  refine gE_mk am_r340 rfl (Or.inl rfl) (fun d hd => ?_)
  show gw d g 340 0 [gi j, gi n, .ref 990000] [] _ _
  refine gw_il0 at340_0 ?_
  refine gw_zlt at340_1 (by first | omega | exact hc _ _ | exact bi_rg _ | exact zrg _) (fun q1 => ?_) (fun q1 => ?_)
  · exfalso; omega
  · refine gw_il0 at340_4 (gw_il1 at340_5 ?_)
    refine gw_clt at340_6 (by first | omega | exact hc _ _ | exact bi_rg _ | exact zrg _) (by first | omega | exact hc _ _ | exact bi_rg _ | exact zrg _) (fun q6 => ?_) (fun q6 => ?_)
    · refine gw_il0 at340_16 (gw_ri at340_17 am_r340.2.1 (gR_i ?_))
      rfl
    · exfalso; omega
set_option maxHeartbeats 1000000 in
theorem c_check {g : Nat} {T : gT} {c J : gC} {j n : Int} (hj : 0 ≤ j ∧ j < n) (hn : n < 2147483648) : gE g 337 1 [gi j, gi n] (gm T c J) (fun o M1 => o = .inl none ∧ M1 = gm T c J) := by
  refine gE_mk am_r337 rfl (Or.inl rfl) (fun d hd => ?_)
  show gw d g 337 0 [gi j, gi n] [] _ _
  refine gw_il0 at337_0 (gw_il1 at337_1 (gw_fmt at337_2 (gw_callP3 at337_5 (c_check3 hj hn) (by omega) (Nat.le_of_ble_eq_true rfl) (gw_popi at337_8 (gw_rv at337_9 am_r337.2.1 ⟨rfl, rfl⟩)))))
  skip
set_option maxHeartbeats 1000000 in
theorem c_charAt1 {g : Nat} {T : gT} {c J : gC} {s v n : Nat} (hS : ST T c s v n) {j : Int} (hj : 0 ≤ j ∧ j < (n : Int)) : gE g 338 2 [.ref v, gi j] (gm T c J) (gR (gi (c v j)) (gm T c J)) := by
  have h3 := hS.2.2.1
  have h6 := hS.2.2.2.2.2.1
  have hz := hS.2.2.2.2.2.2 j hj.1 hj.2
  refine gE_mk am_r338 rfl (Or.inl rfl) (fun d hd => ?_)
  show gw d g 338 0 [.ref v, gi j] [] _ _
  refine gw_il1 at338_0 (gw_al0 at338_1 (gw_len at338_2 (by first | exact Or.inl (by first | exact hS.1 | exact hS.2.1 | exact hS.2.2.2.1 | exact hS.2.2.2.2.1) | exact Or.inr (Or.inl (by first | exact hS.1 | exact hS.2.1 | exact hS.2.2.2.1 | exact hS.2.2.2.2.1)) | exact Or.inr (Or.inr (Or.inr (Or.inr (Or.inl (by first | exact hS.1 | exact hS.2.1 | exact hS.2.2.2.1 | exact hS.2.2.2.2.1))))) | exact Or.inr (Or.inr (Or.inr (Or.inr (Or.inr (by first | exact hS.1 | exact hS.2.1 | exact hS.2.2.2.1 | exact hS.2.2.2.2.1)))))) (by first | exact hS.1 | exact hS.2.1 | exact hS.2.2.2.1 | exact hS.2.2.2.2.1) rfl ?_))
  refine gw_call2 at338_3 (c_check hj (by omega)) (by omega) (Nat.le_of_ble_eq_true rfl) (fun o M1 q3 => ?_)
  obtain ⟨rfl, rfl⟩ := q3
  show gw _ _ _ _ _ [] _ _
  refine gw_al0 at338_6 (gw_il1 at338_7 (gw_ba at338_8 (by first | exact Or.inl (by first | exact hS.1 | exact hS.2.1 | exact hS.2.2.2.1 | exact hS.2.2.2.2.1) | exact Or.inr (by first | exact hS.1 | exact hS.2.1 | exact hS.2.2.2.1 | exact hS.2.2.2.2.1)) (by first | exact hS.1 | exact hS.2.1 | exact hS.2.2.2.1 | exact hS.2.2.2.2.1) (by first | omega | exact hc _ _ | exact bi_rg _ | exact zrg _) (by first | omega | exact hc _ _ | exact bi_rg _ | exact zrg _) (by omega) (gw_sip at338_9 (by decide) (gw_iand at338_12 (gw_i2c at338_13 (gw_rc at338_14 am_r338.2.1 (by rw [(zc_of hz).1]; exact (zc_of hz).2) (gR_i ?_)))))))
  exact (zc_of hz).1
set_option maxHeartbeats 1000000 in
theorem c_charAt {g : Nat} {T : gT} {c J : gC} {s v n : Nat} (hS : ST T c s v n) {j : Int} (hj : 0 ≤ j ∧ j < (n : Int)) : gE g 334 3 [.ref s, gi j] (gm T c J) (gR (gi (c v j)) (gm T c J)) := by
  have h3 := hS.2.2.1
  have h6 := hS.2.2.2.2.2.1
  have hz := hS.2.2.2.2.2.2 j hj.1 hj.2
  refine gE_mk am_r334 rfl (Or.inr ⟨_, rfl, (by first | exact hS.1 | exact hS.2.1 | exact hS.2.2.2.1 | exact hS.2.2.2.2.1)⟩) (fun d hd => ?_)
  show gw d g 334 0 [.ref s, gi j] [] _ _
  refine gw_al0 at334_0 (gw_callP1 at334_1 (c_latin hS) (by omega) (Nat.le_of_ble_eq_true rfl) ?_)
  refine gw_beq at334_4 (fun q4 => ?_) (fun q4 => ?_)
  · exact absurd q4 (by decide)
  · refine gw_al0 at334_7 (gw_gr at334_8 (by first | exact hS.1 | exact hS.2.1 | exact hS.2.2.2.1 | exact hS.2.2.2.2.1) (by first | exact hS.1 | exact hS.2.1 | exact hS.2.2.2.1 | exact hS.2.2.2.2.1) (gw_il1 at334_11 (gw_callP2 at334_12 (c_charAt1 hS hj) (by omega) (Nat.le_of_ble_eq_true rfl) (gw_rc at334_15 am_r334.2.1 (zc_of hz).2 (gR_i ?_)))))
    rfl
/-- a buffer's shape, and its size -/
def BT (T : gT) (k : Nat) : Prop := (T.1 k).1 = 10 ∧ (T.1 k).2.2 0 = (k + 1) + 1 ∧ (T.1 (k + 1)).1 = 2 ∧ (T.1 (k + 1)).2.1 = 1200
def BR (c : gC) (k : Nat) : Prop := 0 ≤ c k 1 ∧ c k 1 ≤ 1200
def put (c : gC) (k : Nat) (v : Int) : gC := if c k 1 < 1200 then gu (gu c (k + 1) (c k 1) (zi2b v)) k 1 (c k 1 + 1) else c
theorem zi2b_rg (v : Int) : -128 ≤ zi2b v ∧ zi2b v < 128 := by
  unfold zi2b
  rw [Int8.toInt_toInt32]
  exact ⟨Int8.le_toInt _, Int8.toInt_lt _⟩
theorem zi2b_2 (v : Int) : zi2b (zi2b v) = zi2b v := by
  unfold zi2b
  rw [Int32.ofInt_toInt, Int8.toInt8_toInt32]
theorem put_ok {c : gC} {k : Nat} {v : Int} (hc : RG c) (hB : BR c k) : RG (put c k v) ∧ BR (put c k v) k ∧ ∀ x, ¬ x = k → ¬ x = k + 1 → ∀ j, put c k v x j = c x j := by
  have h1 := zi2b_rg v
  unfold BR at hB
  unfold put
  split
  · refine ⟨RG_gu (RG_gu hc (by omega)) (by omega), ?_, fun x h2 h3 j => ?_⟩
    · unfold BR
      simp (disch := omega) only [gu_s]
      omega
    · simp (disch := omega) only [gu_k]
  · exact ⟨hc, hB, fun x _ _ j => rfl⟩
set_option maxHeartbeats 1000000 in
theorem c_put {g : Nat} {T : gT} {c J : gC} {k : Nat} (hT : BT T k) (hc : RG c) (hB : BR c k) {v : Int} : gE g 1 0 [.ref k, gi v] (gm T c J) (fun o M1 => o = .inl none ∧ M1 = gm T (put c k v) J) := by
  have hB1 := hB.1
  have hB2 := hB.2
  refine gE_mk am_r1 rfl (Or.inr ⟨_, rfl, (by first | exact hT.1 | exact hT.2.1 | exact hT.2.2.1 | exact hT.2.2.2)⟩) (fun d hd => ?_)
  show gw d g 1 0 [.ref k, gi v] [] _ _
  refine gw_al0 at1_0 (gw_gf (j := 1) at1_1 (by first | exact hT.1 | exact hT.2.1 | exact hT.2.2.1 | exact hT.2.2.2) rfl (gw_al0 at1_4 (gw_gr at1_5 (by first | exact hT.1 | exact hT.2.1 | exact hT.2.2.1 | exact hT.2.2.2) (by first | exact hT.1 | exact hT.2.1 | exact hT.2.2.1 | exact hT.2.2.2) (gw_len at1_8 (by first | exact Or.inl (by first | exact hT.1 | exact hT.2.1 | exact hT.2.2.1 | exact hT.2.2.2) | exact Or.inr (Or.inl (by first | exact hT.1 | exact hT.2.1 | exact hT.2.2.1 | exact hT.2.2.2)) | exact Or.inr (Or.inr (Or.inr (Or.inr (Or.inl (by first | exact hT.1 | exact hT.2.1 | exact hT.2.2.1 | exact hT.2.2.2))))) | exact Or.inr (Or.inr (Or.inr (Or.inr (Or.inr (by first | exact hT.1 | exact hT.2.1 | exact hT.2.2.1 | exact hT.2.2.2)))))) (by first | exact hT.1 | exact hT.2.1 | exact hT.2.2.1 | exact hT.2.2.2) rfl ?_))))
  refine gw_cge at1_9 (by first | omega | exact hc _ _ | exact bi_rg _ | exact zrg _) (by first | omega | exact hc _ _ | exact bi_rg _ | exact zrg _) (fun q9 => ?_) (fun q9 => ?_)
  · refine gw_rv at1_33 am_r1.2.1 ⟨rfl, ?_⟩
    unfold put
    first | rw [if_pos (by omega), zi2b_2] | rw [if_neg (by omega)]
  · refine gw_al0 at1_12 (gw_gr at1_13 (by first | exact hT.1 | exact hT.2.1 | exact hT.2.2.1 | exact hT.2.2.2) (by first | exact hT.1 | exact hT.2.1 | exact hT.2.2.1 | exact hT.2.2.2) (gw_al0 at1_16 (gw_gf (j := 1) at1_17 (by first | exact hT.1 | exact hT.2.1 | exact hT.2.2.1 | exact hT.2.2.2) rfl (gw_il1 at1_20 (gw_i2b at1_21 (gw_bw at1_22 (by first | exact hT.1 | exact hT.2.1 | exact hT.2.2.1 | exact hT.2.2.2) (by first | exact hT.1 | exact hT.2.1 | exact hT.2.2.1 | exact hT.2.2.2) (by first | omega | exact hc _ _ | exact bi_rg _ | exact zrg _) (by first | omega | exact hc _ _ | exact bi_rg _ | exact zrg _) (by omega) (gw_al0 at1_23 (gw_dupr at1_24 (gw_gf (j := 1) at1_25 (by first | exact hT.1 | exact hT.2.1 | exact hT.2.2.1 | exact hT.2.2.2) rfl ?_)))))))))
    simp (disch := omega) only [gu_k]
    refine gw_const at1_28 (gw_iadd at1_29 (gw_pf (j := 1) at1_30 (by first | exact hT.1 | exact hT.2.1 | exact hT.2.2.1 | exact hT.2.2.2) rfl (gw_rv at1_33 am_r1.2.1 ⟨rfl, ?_⟩)))
    unfold put
    first | rw [if_pos (by omega), zi2b_2] | rw [if_neg (by omega)]
theorem itput_ok {c : gC} {k : Nat} (f : Int → gC → gC) (hf : ∀ i m, RG m → BR m k → (RG (f i m) ∧ BR (f i m) k ∧ ∀ x, ¬ x = k → ¬ x = k + 1 → ∀ j, f i m x j = m x j)) (hc : RG c) (hB : BR c k) (i : Int) : RG (itI f c i) ∧ BR (itI f c i) k ∧ ∀ x, ¬ x = k → ¬ x = k + 1 → ∀ j, itI f c i x j = c x j := by
  refine itI_inv (fun m => RG m ∧ BR m k ∧ ∀ x, ¬ x = k → ¬ x = k + 1 → ∀ j, m x j = c x j) ⟨hc, hB, fun _ _ _ _ => rfl⟩ (fun j m hm => ?_) i
  have h := hf j m hm.1 hm.2.1
  exact ⟨h.1, h.2.1, fun x h1 h2 j => by rw [h.2.2 x h1 h2 j]; exact hm.2.2 x h1 h2 j⟩
/-- a text put -/
def ptx (c : gC) (k v : Nat) (n : Int) : gC := itI (fun j m => put m k (c v j)) c n
theorem ptx_ok {c : gC} {k v : Nat} {n : Int} (hc : RG c) (hB : BR c k) : RG (ptx c k v n) ∧ BR (ptx c k v n) k ∧ ∀ x, ¬ x = k → ¬ x = k + 1 → ∀ j, ptx c k v n x j = c x j := itput_ok _ (fun i m h1 h2 => put_ok h1 h2) hc hB n
theorem ST_arg {T : gT} {c c' : gC} {s v n : Nat} (h : ST T c s v n) (e1 : ∀ j, c' s j = c s j) (e2 : ∀ j, c' v j = c v j) : ST T c' s v n := by
  unfold ST at h ⊢
  simp only [e1, e2]
  exact h
def un10 (i : Int) : Int := if i = 0 then 1000 else if i = 1 then 100 else if i = 2 then 10 else if i = 3 then 1 else 0
def un27 (i : Int) : Int := if i = 0 then 14348907 else if i = 1 then 531441 else if i = 2 then 19683 else if i = 3 then 729 else if i = 4 then 27 else if i = 5 then 1 else 0
/-- a number put -/
def pnf (k : Nat) (n i : Int) (m : gC) : gC := if un10 i ≤ n ∨ un10 i = 1 then put m k (48 + n / un10 i % 10) else m
def pnu (c : gC) (k : Nat) (n : Int) : gC := itI (pnf k n) c 4
/-- a name put -/
def pmf (k : Nat) (n i : Int) (m : gC) : gC := if 0 < n / un27 i % 27 then put m k (97 + n / un27 i % 27 - 1) else m
def pna (c : gC) (k : Nat) (n : Int) : gC := itI (pmf k n) c 6
theorem pnf_ok {k : Nat} {n : Int} (i : Int) (m : gC) (h1 : RG m) (h2 : BR m k) : RG (pnf k n i m) ∧ BR (pnf k n i m) k ∧ ∀ x, ¬ x = k → ¬ x = k + 1 → ∀ j, pnf k n i m x j = m x j := by
  unfold pnf
  split
  · exact put_ok h1 h2
  · exact ⟨h1, h2, fun _ _ _ _ => rfl⟩
theorem pmf_ok {k : Nat} {n : Int} (i : Int) (m : gC) (h1 : RG m) (h2 : BR m k) : RG (pmf k n i m) ∧ BR (pmf k n i m) k ∧ ∀ x, ¬ x = k → ¬ x = k + 1 → ∀ j, pmf k n i m x j = m x j := by
  unfold pmf
  split
  · exact put_ok h1 h2
  · exact ⟨h1, h2, fun _ _ _ _ => rfl⟩
theorem pnu_ok {c : gC} {k : Nat} {n : Int} (hc : RG c) (hB : BR c k) : RG (pnu c k n) ∧ BR (pnu c k n) k ∧ ∀ x, ¬ x = k → ¬ x = k + 1 → ∀ j, pnu c k n x j = c x j := itput_ok _ pnf_ok hc hB 4
theorem pna_ok {c : gC} {k : Nat} {n : Int} (hc : RG c) (hB : BR c k) : RG (pna c k n) ∧ BR (pna c k n) k ∧ ∀ x, ¬ x = k → ¬ x = k + 1 → ∀ j, pna c k n x j = c x j := itput_ok _ pmf_ok hc hB 6
theorem un10_s {i : Int} (h : 0 ≤ i ∧ i < 4) : un10 i / 10 = un10 (i + 1) := by
  rcases (show i = 0 ∨ i = 1 ∨ i = 2 ∨ i = 3 by omega) with e | e | e | e <;> subst e <;> decide
theorem un10_rg {i : Int} (h : 0 ≤ i ∧ i ≤ 4) : 0 ≤ un10 i ∧ un10 i ≤ 1000 ∧ (1 ≤ un10 i ↔ i < 4) := by
  rcases (show i = 0 ∨ i = 1 ∨ i = 2 ∨ i = 3 ∨ i = 4 by omega) with e | e | e | e | e <;> subst e <;> decide
theorem un27_s {i : Int} (h : 0 ≤ i ∧ i < 6) : un27 i / 27 = un27 (i + 1) := by
  rcases (show i = 0 ∨ i = 1 ∨ i = 2 ∨ i = 3 ∨ i = 4 ∨ i = 5 by omega) with e | e | e | e | e | e <;> subst e <;> decide
theorem un27_rg {i : Int} (h : 0 ≤ i ∧ i ≤ 6) : 0 ≤ un27 i ∧ un27 i ≤ 14348907 ∧ (1 ≤ un27 i ↔ i < 6) := by
  rcases (show i = 0 ∨ i = 1 ∨ i = 2 ∨ i = 3 ∨ i = 4 ∨ i = 5 ∨ i = 6 by omega) with e | e | e | e | e | e | e <;> subst e <;> decide
def pin (c : gC) (k : Nat) (v : Int) : gC := put (put (put (put c k (zushr v 24)) k (zushr v 16)) k (zushr v 8)) k v
theorem pin_ok {c : gC} {k : Nat} {v : Int} (hc : RG c) (hB : BR c k) : RG (pin c k v) ∧ BR (pin c k v) k ∧ ∀ x, ¬ x = k → ¬ x = k + 1 → ∀ j, pin c k v x j = c x j := by
  have h1 := put_ok (v := zushr v 24) hc hB
  have h2 := put_ok (v := zushr v 16) h1.1 h1.2.1
  have h3 := put_ok (v := zushr v 8) h2.1 h2.2.1
  have h4 := put_ok (v := v) h3.1 h3.2.1
  exact ⟨h4.1, h4.2.1, fun x a b j => by rw [show pin c k v x j = _ from h4.2.2 x a b j, h3.2.2 x a b j, h2.2.2 x a b j, h1.2.2 x a b j]⟩
/-- the name that the whole buffer is -/
def wnm (c : gC) (k : Nat) : Int := if (1 ≤ c k 1 ∧ c k 1 ≤ 6) ∧ ff (fun i => !(decide (97 ≤ c (k + 1) i) && decide (c (k + 1) i ≤ 122))) (c k 1) 0 = -1 then itI (fun i s => s * 27 + c (k + 1) i - 97 + 1) 0 (c k 1) else -1
set_option maxHeartbeats 1000000 in
theorem c_putInt {g : Nat} {T : gT} {c J : gC} {k : Nat} (hT : BT T k) (hc : RG c) (hB : BR c k) {v : Int} : gE g 2 1 [.ref k, gi v] (gm T c J) (fun o M1 => o = .inl none ∧ M1 = gm T (pin c k v) J) := by
  have p1 := put_ok (v := zushr v 24) hc hB
  have p2 := put_ok (v := zushr v 16) p1.1 p1.2.1
  have p3 := put_ok (v := zushr v 8) p2.1 p2.2.1
  refine gE_mk am_r2 rfl (Or.inr ⟨_, rfl, (by first | exact hT.1 | exact hT.2.1 | exact hT.2.2.1 | exact hT.2.2.2)⟩) (fun d hd => ?_)
  show gw d g 2 0 [.ref k, gi v] [] _ _
  refine gw_al0 at2_0 (gw_il1 at2_1 (gw_bip at2_2 (by decide) (gw_iushr at2_4 ?_)))
  refine gw_call2 at2_5 (c_put hT hc hB) (by omega) (Nat.le_of_ble_eq_true rfl) (fun o M1 q5 => ?_)
  obtain ⟨rfl, rfl⟩ := q5
  show gw _ _ _ _ _ [] _ _
  refine gw_al0 at2_8 (gw_il1 at2_9 (gw_bip at2_10 (by decide) (gw_iushr at2_12 ?_)))
  refine gw_call2 at2_13 (c_put hT p1.1 p1.2.1) (by omega) (Nat.le_of_ble_eq_true rfl) (fun o M1 q13 => ?_)
  obtain ⟨rfl, rfl⟩ := q13
  show gw _ _ _ _ _ [] _ _
  refine gw_al0 at2_16 (gw_il1 at2_17 (gw_bip at2_18 (by decide) (gw_iushr at2_20 ?_)))
  refine gw_call2 at2_21 (c_put hT p2.1 p2.2.1) (by omega) (Nat.le_of_ble_eq_true rfl) (fun o M1 q21 => ?_)
  obtain ⟨rfl, rfl⟩ := q21
  show gw _ _ _ _ _ [] _ _
  refine gw_al0 at2_24 (gw_il1 at2_25 ?_)
  refine gw_call2 at2_26 (c_put hT p3.1 p3.2.1) (by omega) (Nat.le_of_ble_eq_true rfl) (fun o M1 q26 => ?_)
  obtain ⟨rfl, rfl⟩ := q26
  show gw _ _ _ _ _ [] _ _
  refine gw_rv at2_29 am_r2.2.1 ⟨rfl, rfl⟩
  skip
set_option maxHeartbeats 1000000 in
theorem c_putText {g : Nat} {T : gT} {c J : gC} {k : Nat} (hT : BT T k) (hc : RG c) (hB : BR c k) {s v n : Nat} (hS : ST T c s v n) (h1 : ¬ s = k ∧ ¬ s = k + 1) (h2 : ¬ v = k ∧ ¬ v = k + 1) : gE g 3 4 [.ref k, .ref s] (gm T c J) (fun o M1 => o = .inl none ∧ M1 = gm T (ptx c k v (n : Int)) J) := by
  have h6 := hS.2.2.2.2.2.1
  refine gE_mk am_r3 rfl (Or.inr ⟨_, rfl, (by first | exact hT.1 | exact hT.2.1 | exact hT.2.2.1 | exact hT.2.2.2)⟩) (fun d hd => ?_)
  show gw d g 3 0 [.ref k, .ref s, am_U] [] _ _
  refine gw_const at3_0 (gw_is2 at3_1 (h := ?_))
  have lp2 : ∀ i : Int, 0 ≤ i → i ≤ 1000 → i ≤ (n : Int) → gw d g 3 2 [.ref k, .ref s, gi i] [] (gm T (ptx c k v i) J) (fun o M1 => o = .inl none ∧ M1 = gm T (ptx c k v (n : Int)) J) := by
    refine ind_up 1000 ?_
    intro i hi0 hi1 ih hi2
    obtain ⟨o1, o2, o3⟩ := ptx_ok (v := v) (n := i) hc hB
    have hS2 : ST T (ptx c k v i) s v n := ST_arg hS (o3 s h1.1 h1.2) (o3 v h2.1 h2.2)
    refine gw_il2 at3_2 ?_
    refine gw_al1 at3_3 (gw_callP1 at3_4 (c_length hS2) (by omega) (Nat.le_of_ble_eq_true rfl) ?_)
    refine gw_cge at3_7 (by first | omega | exact hc _ _ | exact bi_rg _ | exact zrg _) (by first | omega | exact hc _ _ | exact bi_rg _ | exact zrg _) (fun q7 => ?_) (fun q7 => ?_)
    · refine gw_rv at3_25 am_r3.2.1 ?_
      rw [show i = (n : Int) by omega]
      exact ⟨rfl, rfl⟩
    · refine gw_al0 at3_10 (gw_al1 at3_11 (gw_il2 at3_12 (gw_callP2 at3_13 (c_charAt hS2 (by omega)) (by omega) (Nat.le_of_ble_eq_true rfl) ?_)))
      refine gw_call2 at3_16 (c_put hT o1 o2) (by omega) (Nat.le_of_ble_eq_true rfl) (fun o M1 q16 => ?_)
      obtain ⟨rfl, rfl⟩ := q16
      show gw _ _ _ _ _ [] _ _
      rw [o3 v h2.1 h2.2]
      refine gw_inc2 at3_19 (h := (gw_goto at3_22 ?_))
      have e := ih (i + 1) (by omega) (by omega) (by omega)
      unfold ptx at e
      rw [itI_s _ _ hi0] at e
      exact e
  exact lp2 0 (by omega) (by omega) (by omega)
set_option maxHeartbeats 1000000 in
theorem c_putNumber {g : Nat} {T : gT} {c J : gC} {k : Nat} (hT : BT T k) (hc : RG c) (hB : BR c k) {n : Int} (hn : 0 ≤ n ∧ n < 2147483648) : gE g 4 1 [.ref k, gi n] (gm T c J) (fun o M1 => o = .inl none ∧ M1 = gm T (pnu c k n) J) := by
  refine gE_mk am_r4 rfl (Or.inr ⟨_, rfl, (by first | exact hT.1 | exact hT.2.1 | exact hT.2.2.1 | exact hT.2.2.2)⟩) (fun d hd => ?_)
  show gw d g 4 0 [.ref k, gi n, am_U] [] _ _
  refine gw_sip at4_0 (by decide) (gw_is2 at4_3 (h := ?_))
  have lp4 : ∀ i : Int, 0 ≤ i → i ≤ 4 → gw d g 4 4 [.ref k, gi n, gi (un10 i)] [] (gm T (itI (pnf k n) c i) J) (fun o M1 => o = .inl none ∧ M1 = gm T (pnu c k n) J) := by
    refine ind_up 4 ?_
    intro i hi0 hi1 ih
    obtain ⟨o1, o2, o3⟩ := itput_ok (pnf k n) pnf_ok hc hB i
    have o5 := un10_rg (i := i) (by omega)
    refine gw_il2 at4_4 ?_
    refine gw_const at4_5 ?_
    refine gw_clt at4_6 (by first | omega | (have := Int.emod_nonneg (n / un10 i) (show (10 : Int) ≠ 0 by omega); have := Int.ediv_nonneg hn.1 o5.1; have := Int.ediv_le_self (un10 i) hn.1; omega)) (by first | omega | (have := Int.emod_nonneg (n / un10 i) (show (10 : Int) ≠ 0 by omega); have := Int.ediv_nonneg hn.1 o5.1; have := Int.ediv_le_self (un10 i) hn.1; omega)) (fun q6 => ?_) (fun q6 => ?_)
    · refine gw_rv at4_40 am_r4.2.1 ?_
      rw [show i = 4 by omega]
      exact ⟨rfl, rfl⟩
    · refine gw_il1 at4_9 (gw_il2 at4_10 ?_)
      refine gw_cge at4_11 (by first | omega | (have := Int.emod_nonneg (n / un10 i) (show (10 : Int) ≠ 0 by omega); have := Int.ediv_nonneg hn.1 o5.1; have := Int.ediv_le_self (un10 i) hn.1; omega)) (by first | omega | (have := Int.emod_nonneg (n / un10 i) (show (10 : Int) ≠ 0 by omega); have := Int.ediv_nonneg hn.1 o5.1; have := Int.ediv_le_self (un10 i) hn.1; omega)) (fun q11 => ?_) (fun q11 => ?_)
      · refine gw_al0 at4_19 (gw_bip at4_20 (by decide) (gw_il1 at4_22 (gw_il2 at4_23 (gw_divp at4_24 (by first | omega | (have := Int.emod_nonneg (n / un10 i) (show (10 : Int) ≠ 0 by omega); have := Int.ediv_nonneg hn.1 o5.1; have := Int.ediv_le_self (un10 i) hn.1; omega)) (by first | omega | (have := Int.emod_nonneg (n / un10 i) (show (10 : Int) ≠ 0 by omega); have := Int.ediv_nonneg hn.1 o5.1; have := Int.ediv_le_self (un10 i) hn.1; omega)) (gw_bip at4_25 (by decide) (gw_remp at4_27 (by first | omega | (have := Int.emod_nonneg (n / un10 i) (show (10 : Int) ≠ 0 by omega); have := Int.ediv_nonneg hn.1 o5.1; have := Int.ediv_le_self (un10 i) hn.1; omega)) (by first | omega | (have := Int.emod_nonneg (n / un10 i) (show (10 : Int) ≠ 0 by omega); have := Int.ediv_nonneg hn.1 o5.1; have := Int.ediv_le_self (un10 i) hn.1; omega)) (gw_iadd at4_28 ?_)))))))
        refine gw_call2 at4_29 (c_put hT o1 o2) (by omega) (Nat.le_of_ble_eq_true rfl) (fun o M1 q29 => ?_)
        obtain ⟨rfl, rfl⟩ := q29
        show gw _ _ _ _ _ [] _ _
        refine gw_il2 at4_32 (gw_bip at4_33 (by decide) (gw_divp at4_35 (by first | omega | (have := Int.emod_nonneg (n / un10 i) (show (10 : Int) ≠ 0 by omega); have := Int.ediv_nonneg hn.1 o5.1; have := Int.ediv_le_self (un10 i) hn.1; omega)) (by first | omega | (have := Int.emod_nonneg (n / un10 i) (show (10 : Int) ≠ 0 by omega); have := Int.ediv_nonneg hn.1 o5.1; have := Int.ediv_le_self (un10 i) hn.1; omega)) (gw_is2 at4_36 (h := (gw_goto at4_37 ?_)))))
        have e := ih (i + 1) (by omega) (by omega)
        rw [itI_s _ _ hi0, ← un10_s (by omega)] at e
        unfold pnf at e ⊢
        first | (rw [if_pos (by omega)] at e; exact e) | (rw [if_neg (by omega)] at e; exact e)
      · refine gw_il2 at4_14 (gw_const at4_15 ?_)
        refine gw_cne at4_16 (by first | omega | (have := Int.emod_nonneg (n / un10 i) (show (10 : Int) ≠ 0 by omega); have := Int.ediv_nonneg hn.1 o5.1; have := Int.ediv_le_self (un10 i) hn.1; omega)) (by first | omega | (have := Int.emod_nonneg (n / un10 i) (show (10 : Int) ≠ 0 by omega); have := Int.ediv_nonneg hn.1 o5.1; have := Int.ediv_le_self (un10 i) hn.1; omega)) (fun q16 => ?_) (fun q16 => ?_)
        · refine gw_il2 at4_32 (gw_bip at4_33 (by decide) (gw_divp at4_35 (by first | omega | (have := Int.emod_nonneg (n / un10 i) (show (10 : Int) ≠ 0 by omega); have := Int.ediv_nonneg hn.1 o5.1; have := Int.ediv_le_self (un10 i) hn.1; omega)) (by first | omega | (have := Int.emod_nonneg (n / un10 i) (show (10 : Int) ≠ 0 by omega); have := Int.ediv_nonneg hn.1 o5.1; have := Int.ediv_le_self (un10 i) hn.1; omega)) (gw_is2 at4_36 (h := (gw_goto at4_37 ?_)))))
          have e := ih (i + 1) (by omega) (by omega)
          rw [itI_s _ _ hi0, ← un10_s (by omega)] at e
          unfold pnf at e ⊢
          first | (rw [if_pos (by omega)] at e; exact e) | (rw [if_neg (by omega)] at e; exact e)
        · refine gw_al0 at4_19 (gw_bip at4_20 (by decide) (gw_il1 at4_22 (gw_il2 at4_23 (gw_divp at4_24 (by first | omega | (have := Int.emod_nonneg (n / un10 i) (show (10 : Int) ≠ 0 by omega); have := Int.ediv_nonneg hn.1 o5.1; have := Int.ediv_le_self (un10 i) hn.1; omega)) (by first | omega | (have := Int.emod_nonneg (n / un10 i) (show (10 : Int) ≠ 0 by omega); have := Int.ediv_nonneg hn.1 o5.1; have := Int.ediv_le_self (un10 i) hn.1; omega)) (gw_bip at4_25 (by decide) (gw_remp at4_27 (by first | omega | (have := Int.emod_nonneg (n / un10 i) (show (10 : Int) ≠ 0 by omega); have := Int.ediv_nonneg hn.1 o5.1; have := Int.ediv_le_self (un10 i) hn.1; omega)) (by first | omega | (have := Int.emod_nonneg (n / un10 i) (show (10 : Int) ≠ 0 by omega); have := Int.ediv_nonneg hn.1 o5.1; have := Int.ediv_le_self (un10 i) hn.1; omega)) (gw_iadd at4_28 ?_)))))))
          refine gw_call2 at4_29 (c_put hT o1 o2) (by omega) (Nat.le_of_ble_eq_true rfl) (fun o M1 q29 => ?_)
          obtain ⟨rfl, rfl⟩ := q29
          show gw _ _ _ _ _ [] _ _
          refine gw_il2 at4_32 (gw_bip at4_33 (by decide) (gw_divp at4_35 (by first | omega | (have := Int.emod_nonneg (n / un10 i) (show (10 : Int) ≠ 0 by omega); have := Int.ediv_nonneg hn.1 o5.1; have := Int.ediv_le_self (un10 i) hn.1; omega)) (by first | omega | (have := Int.emod_nonneg (n / un10 i) (show (10 : Int) ≠ 0 by omega); have := Int.ediv_nonneg hn.1 o5.1; have := Int.ediv_le_self (un10 i) hn.1; omega)) (gw_is2 at4_36 (h := (gw_goto at4_37 ?_)))))
          have e := ih (i + 1) (by omega) (by omega)
          rw [itI_s _ _ hi0, ← un10_s (by omega)] at e
          unfold pnf at e ⊢
          first | (rw [if_pos (by omega)] at e; exact e) | (rw [if_neg (by omega)] at e; exact e)
  exact lp4 0 (by omega) (by omega)
set_option maxHeartbeats 1000000 in
theorem c_putName {g : Nat} {T : gT} {c J : gC} {k : Nat} (hT : BT T k) (hc : RG c) (hB : BR c k) {n : Int} (hn : 0 ≤ n ∧ n < 2147483648) : gE g 5 1 [.ref k, gi n] (gm T c J) (fun o M1 => o = .inl none ∧ M1 = gm T (pna c k n) J) := by
  refine gE_mk am_r5 rfl (Or.inr ⟨_, rfl, (by first | exact hT.1 | exact hT.2.1 | exact hT.2.2.1 | exact hT.2.2.2)⟩) (fun d hd => ?_)
  show gw d g 5 0 [.ref k, gi n, am_U, am_U] [] _ _
  refine gw_ldc (z := 14348907) at5_0 (by decide) (gw_is2 at5_2 (h := ?_))
  have lp3 : ∀ i : Int, 0 ≤ i → i ≤ 6 → ∀ u : Value, gw d g 5 3 [.ref k, gi n, gi (un27 i), u] [] (gm T (itI (pmf k n) c i) J) (fun o M1 => o = .inl none ∧ M1 = gm T (pna c k n) J) := by
    refine ind_up 6 ?_
    intro i hi0 hi1 ih u
    obtain ⟨o1, o2, o3⟩ := itput_ok (pmf k n) pmf_ok hc hB i
    have o5 := un27_rg (i := i) (by omega)
    refine gw_il2 at5_3 ?_
    refine gw_const at5_4 ?_
    refine gw_clt at5_5 (by first | omega | (have := Int.emod_nonneg (n / un27 i) (show (27 : Int) ≠ 0 by omega); have := Int.ediv_nonneg hn.1 o5.1; have := Int.ediv_le_self (un27 i) hn.1; omega)) (by first | omega | (have := Int.emod_nonneg (n / un27 i) (show (27 : Int) ≠ 0 by omega); have := Int.ediv_nonneg hn.1 o5.1; have := Int.ediv_le_self (un27 i) hn.1; omega)) (fun q5 => ?_) (fun q5 => ?_)
    · refine gw_rv at5_37 am_r5.2.1 ?_
      rw [show i = 6 by omega]
      exact ⟨rfl, rfl⟩
    · refine gw_il1 at5_8 (gw_il2 at5_9 (gw_divp at5_10 (by first | omega | (have := Int.emod_nonneg (n / un27 i) (show (27 : Int) ≠ 0 by omega); have := Int.ediv_nonneg hn.1 o5.1; have := Int.ediv_le_self (un27 i) hn.1; omega)) (by first | omega | (have := Int.emod_nonneg (n / un27 i) (show (27 : Int) ≠ 0 by omega); have := Int.ediv_nonneg hn.1 o5.1; have := Int.ediv_le_self (un27 i) hn.1; omega)) (gw_bip at5_11 (by decide) (gw_remp at5_13 (by first | omega | (have := Int.emod_nonneg (n / un27 i) (show (27 : Int) ≠ 0 by omega); have := Int.ediv_nonneg hn.1 o5.1; have := Int.ediv_le_self (un27 i) hn.1; omega)) (by first | omega | (have := Int.emod_nonneg (n / un27 i) (show (27 : Int) ≠ 0 by omega); have := Int.ediv_nonneg hn.1 o5.1; have := Int.ediv_le_self (un27 i) hn.1; omega)) (gw_is3 at5_14 (h := (gw_il3 at5_15 ?_)))))))
      refine gw_zle at5_16 (by first | omega | (have := Int.emod_nonneg (n / un27 i) (show (27 : Int) ≠ 0 by omega); have := Int.ediv_nonneg hn.1 o5.1; have := Int.ediv_le_self (un27 i) hn.1; omega)) (fun q16 => ?_) (fun q16 => ?_)
      · refine gw_il2 at5_29 (gw_bip at5_30 (by decide) (gw_divp at5_32 (by first | omega | (have := Int.emod_nonneg (n / un27 i) (show (27 : Int) ≠ 0 by omega); have := Int.ediv_nonneg hn.1 o5.1; have := Int.ediv_le_self (un27 i) hn.1; omega)) (by first | omega | (have := Int.emod_nonneg (n / un27 i) (show (27 : Int) ≠ 0 by omega); have := Int.ediv_nonneg hn.1 o5.1; have := Int.ediv_le_self (un27 i) hn.1; omega)) (gw_is2 at5_33 (h := (gw_goto at5_34 ?_)))))
        have e := ih (i + 1) (by omega) (by omega) (gi (n / un27 i % 27))
        rw [itI_s _ _ hi0, ← un27_s (by omega)] at e
        unfold pmf at e ⊢
        first | (rw [if_pos (by omega)] at e; exact e) | (rw [if_neg (by omega)] at e; exact e)
      · refine gw_al0 at5_19 (gw_bip at5_20 (by decide) (gw_il3 at5_22 (gw_iadd at5_23 (gw_const at5_24 (gw_isub at5_25 ?_)))))
        refine gw_call2 at5_26 (c_put hT o1 o2) (by omega) (Nat.le_of_ble_eq_true rfl) (fun o M1 q26 => ?_)
        obtain ⟨rfl, rfl⟩ := q26
        show gw _ _ _ _ _ [] _ _
        refine gw_il2 at5_29 (gw_bip at5_30 (by decide) (gw_divp at5_32 (by first | omega | (have := Int.emod_nonneg (n / un27 i) (show (27 : Int) ≠ 0 by omega); have := Int.ediv_nonneg hn.1 o5.1; have := Int.ediv_le_self (un27 i) hn.1; omega)) (by first | omega | (have := Int.emod_nonneg (n / un27 i) (show (27 : Int) ≠ 0 by omega); have := Int.ediv_nonneg hn.1 o5.1; have := Int.ediv_le_self (un27 i) hn.1; omega)) (gw_is2 at5_33 (h := (gw_goto at5_34 ?_)))))
        have e := ih (i + 1) (by omega) (by omega) (gi (n / un27 i % 27))
        rw [itI_s _ _ hi0, ← un27_s (by omega)] at e
        unfold pmf at e ⊢
        first | (rw [if_pos (by omega)] at e; exact e) | (rw [if_neg (by omega)] at e; exact e)
  exact lp3 0 (by omega) (by omega) _
set_option maxHeartbeats 1000000 in
theorem c_nameWith {g : Nat} {T : gT} {c J : gC} {n l : Int} : gE g 169 0 [gi n, gi l] (gm T c J) (gR (gi (n * 27 + l - 97 + 1)) (gm T c J)) := by
  refine gE_mk am_r169 rfl (Or.inl rfl) (fun d hd => ?_)
  show gw d g 169 0 [gi n, gi l] [] _ _
  refine gw_il0 at169_0 (gw_bip at169_1 (by decide) (gw_imul at169_3 (gw_il1 at169_4 (gw_iadd at169_5 (gw_bip at169_6 (by decide) (gw_isub at169_8 (gw_const at169_9 (gw_iadd at169_10 (gw_ri at169_11 am_r169.2.1 (gR_i ?_))))))))))
  rfl
set_option maxHeartbeats 1000000 in
theorem c_isLetter {g : Nat} {T : gT} {c J : gC} {x : Int} (hx : -2147483648 ≤ x ∧ x < 2147483648) : gE g 387 0 [gi x] (gm T c J) (gR (gi (bi (decide (97 ≤ x) && decide (x ≤ 122)))) (gm T c J)) := by
  refine gE_mk am_r387 rfl (Or.inl rfl) (fun d hd => ?_)
  show gw d g 387 0 [gi x] [] _ _
  refine gw_il0 at387_0 (gw_bip at387_1 (by decide) ?_)
  refine gw_clt at387_3 (by omega) (by omega) (fun q3 => ?_) (fun q3 => ?_)
  · refine gw_const at387_16 (gw_r0 at387_17 am_r387.2.1 (gR_b ?_))
    simp; omega
  · refine gw_il0 at387_6 (gw_bip at387_7 (by decide) ?_)
    refine gw_cgt at387_9 (by omega) (by omega) (fun q9 => ?_) (fun q9 => ?_)
    · refine gw_const at387_16 (gw_r0 at387_17 am_r387.2.1 (gR_b ?_))
      simp; omega
    · refine gw_const at387_12 (gw_goto at387_13 (gw_r1 at387_17 am_r387.2.1 (gR_b ?_)))
      simp; omega
set_option maxHeartbeats 1000000 in
theorem c_wholeName {g : Nat} {T : gT} {c J : gC} {k : Nat} (hT : BT T k) (hc : RG c) (hB : BR c k) : gE g 6 1 [.ref k] (gm T c J) (gR (gi (wnm c k)) (gm T c J)) := by
  have hB1 := hB.1
  have hB2 := hB.2
  refine gE_mk am_r6 rfl (Or.inr ⟨_, rfl, (by first | exact hT.1 | exact hT.2.1 | exact hT.2.2.1 | exact hT.2.2.2)⟩) (fun d hd => ?_)
  show gw d g 6 0 [.ref k, am_U, am_U] [] _ _
  refine gw_al0 at6_0 (gw_gf (j := 1) at6_1 (by first | exact hT.1 | exact hT.2.1 | exact hT.2.2.1 | exact hT.2.2.2) rfl (gw_const at6_4 ?_))
  refine gw_clt at6_5 (by first | omega | exact hc _ _ | exact bi_rg _ | exact zrg _) (by first | omega | exact hc _ _ | exact bi_rg _ | exact zrg _) (fun q5 => ?_) (fun q5 => ?_)
  · refine gw_const at6_17 (gw_ri at6_18 am_r6.2.1 (gR_i ?_))
    unfold wnm; rw [if_neg (by omega)]
  · refine gw_al0 at6_8 (gw_gf (j := 1) at6_9 (by first | exact hT.1 | exact hT.2.1 | exact hT.2.2.1 | exact hT.2.2.2) rfl (gw_bip at6_12 (by decide) ?_))
    refine gw_cle at6_14 (by first | omega | exact hc _ _ | exact bi_rg _ | exact zrg _) (by first | omega | exact hc _ _ | exact bi_rg _ | exact zrg _) (fun q14 => ?_) (fun q14 => ?_)
    · refine gw_const at6_19 (gw_is1 at6_20 (h := (gw_const at6_21 (gw_is2 at6_22 (h := ?_)))))
      have lp23 : ∀ i : Int, 0 ≤ i → i ≤ 6 → i ≤ c k 1 → ff (fun i => !(decide (97 ≤ c (k + 1) i) && decide (c (k + 1) i ≤ 122))) (c k 1) 0 = ff (fun i => !(decide (97 ≤ c (k + 1) i) && decide (c (k + 1) i ≤ 122))) (c k 1) i → ∀ s : Int, s = itI (fun i s => s * 27 + c (k + 1) i - 97 + 1) 0 i → gw d g 6 23 [.ref k, gi s, gi i] [] (gm T c J) (gR (gi (wnm c k)) (gm T c J)) := by
        refine ind_up 6 ?_
        intro i hi0 hi1 ih hi2 hf s hs
        refine gw_il2 at6_23 ?_
        refine gw_al0 at6_24 (gw_gf (j := 1) at6_25 (by first | exact hT.1 | exact hT.2.1 | exact hT.2.2.1 | exact hT.2.2.2) rfl ?_)
        refine gw_cge at6_28 (by first | omega | exact hc _ _ | exact bi_rg _ | exact zrg _) (by first | omega | exact hc _ _ | exact bi_rg _ | exact zrg _) (fun q28 => ?_) (fun q28 => ?_)
        · refine gw_il1 at6_62 (gw_ri at6_63 am_r6.2.1 (gR_i ?_))
          unfold wnm; rw [hf, ff_end (by omega), if_pos ⟨by omega, rfl⟩, hs, show i = c k 1 by omega]
        · refine gw_al0 at6_31 (gw_gr at6_32 (by first | exact hT.1 | exact hT.2.1 | exact hT.2.2.1 | exact hT.2.2.2) (by first | exact hT.1 | exact hT.2.1 | exact hT.2.2.1 | exact hT.2.2.2) (gw_il2 at6_35 (gw_ba at6_36 (by first | exact Or.inl (by first | exact hT.1 | exact hT.2.1 | exact hT.2.2.1 | exact hT.2.2.2) | exact Or.inr (by first | exact hT.1 | exact hT.2.1 | exact hT.2.2.1 | exact hT.2.2.2)) (by first | exact hT.1 | exact hT.2.1 | exact hT.2.2.1 | exact hT.2.2.2) (by first | omega | exact hc _ _ | exact bi_rg _ | exact zrg _) (by first | omega | exact hc _ _ | exact bi_rg _ | exact zrg _) (by omega) (gw_callP1 at6_37 (c_isLetter (hc _ _)) (by omega) (Nat.le_of_ble_eq_true rfl) ?_))))
          refine gw_bne at6_40 (fun q40 => ?_) (fun q40 => ?_)
          · refine gw_il1 at6_45 (gw_al0 at6_46 (gw_gr at6_47 (by first | exact hT.1 | exact hT.2.1 | exact hT.2.2.1 | exact hT.2.2.2) (by first | exact hT.1 | exact hT.2.1 | exact hT.2.2.1 | exact hT.2.2.2) (gw_il2 at6_50 (gw_ba at6_51 (by first | exact Or.inl (by first | exact hT.1 | exact hT.2.1 | exact hT.2.2.1 | exact hT.2.2.2) | exact Or.inr (by first | exact hT.1 | exact hT.2.1 | exact hT.2.2.1 | exact hT.2.2.2)) (by first | exact hT.1 | exact hT.2.1 | exact hT.2.2.1 | exact hT.2.2.2) (by first | omega | exact hc _ _ | exact bi_rg _ | exact zrg _) (by first | omega | exact hc _ _ | exact bi_rg _ | exact zrg _) (by omega) (gw_callP2 at6_52 (c_nameWith) (by omega) (Nat.le_of_ble_eq_true rfl) (gw_is1 at6_55 (h := (gw_inc2 at6_56 (h := (gw_goto at6_59 ?_))))))))))
            refine ih (i + 1) (by omega) (by omega) (by omega) ?_ _ ?_
            · rw [hf, ff_no (by omega)]
              rw [q40]
              rfl
            · rw [itI_s _ _ hi0, ← hs]
          · refine gw_const at6_43 (gw_ri at6_44 am_r6.2.1 (gR_i ?_))
            unfold wnm
            rw [if_neg]
            intro h
            rw [hf, ff_yes (by omega)] at h
            · omega
            · rw [q40]
              rfl
      exact lp23 0 (by omega) (by omega) (by omega) rfl 0 rfl
    · refine gw_const at6_17 (gw_ri at6_18 am_r6.2.1 (gR_i ?_))
      unfold wnm; rw [if_neg (by omega)]
