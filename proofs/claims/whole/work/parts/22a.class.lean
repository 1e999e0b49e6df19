/-! the class (it lies at 500000): checks and plain readings -/
def XT (T : gT) : Prop := (T.1 500000).1 = 18 ∧ ((T.1 500000).2.2 0 = 100000 + 1 ∧ (T.1 500000).2.2 1 = 100030 + 1 ∧ (T.1 500000).2.2 2 = 100032 + 1 ∧ (T.1 500000).2.2 3 = 100002 + 1) ∧ ((T.1 500000).2.2 4 = 100014 + 1 ∧ (T.1 500000).2.2 5 = 100034 + 1 ∧ (T.1 500000).2.2 6 = 100039 + 1) ∧ (T.1 500000).2.2 7 = 100026 + 1 ∧ (T.1 500000).2.2 8 = 100044 + 1 ∧ (T.1 500000).2.2 9 = 100052 + 1
theorem XT_0 {T : gT} (h : XT T) : (T.1 500000).1 = 18 := h.1
theorem XT_r0 {T : gT} (h : XT T) : (T.1 500000).2.2 0 = 100000 + 1 := h.2.1.1
theorem XT_r1 {T : gT} (h : XT T) : (T.1 500000).2.2 1 = 100030 + 1 := h.2.1.2.1
theorem XT_r2 {T : gT} (h : XT T) : (T.1 500000).2.2 2 = 100032 + 1 := h.2.1.2.2.1
theorem XT_r3 {T : gT} (h : XT T) : (T.1 500000).2.2 3 = 100002 + 1 := h.2.1.2.2.2
theorem XT_r4 {T : gT} (h : XT T) : (T.1 500000).2.2 4 = 100014 + 1 := h.2.2.1.1
theorem XT_r5 {T : gT} (h : XT T) : (T.1 500000).2.2 5 = 100034 + 1 := h.2.2.1.2.1
theorem XT_r6 {T : gT} (h : XT T) : (T.1 500000).2.2 6 = 100039 + 1 := h.2.2.1.2.2
theorem XT_r7 {T : gT} (h : XT T) : (T.1 500000).2.2 7 = 100026 + 1 := h.2.2.2.1
theorem XT_r8 {T : gT} (h : XT T) : (T.1 500000).2.2 8 = 100044 + 1 := h.2.2.2.2.1
theorem XT_r9 {T : gT} (h : XT T) : (T.1 500000).2.2 9 = 100052 + 1 := h.2.2.2.2.2
/-- done when p holds, else E is thrown -/
def gV (p : Prop) (E : Nat) (T : gT) (c J : gC) : am_O → am_M → Prop := fun o M1 => (p ∧ o = .inl none ∧ M1 = gm T c J) ∨ (¬ p ∧ o = .inr E ∧ M1 = gm (gTt T) c J)
/-- v when p holds, else E is thrown -/
def gI (p : Prop) (E : Nat) (v : Int) (T : gT) (c J : gC) : am_O → am_M → Prop := fun o M1 => (p ∧ o = .inl (some (gi v)) ∧ M1 = gm T c J) ∨ (¬ p ∧ o = .inr E ∧ M1 = gm (gTt T) c J)
def gI2 (p : Prop) (E : Nat) (p' : Prop) (E' : Nat) (v : Int) (T : gT) (c J : gC) : am_O → am_M → Prop := fun o M1 => (p ∧ p' ∧ o = .inl (some (gi v)) ∧ M1 = gm T c J) ∨ (p ∧ ¬ p' ∧ o = .inr E' ∧ M1 = gm (gTt T) c J) ∨ (¬ p ∧ o = .inr E ∧ M1 = gm (gTt T) c J)
theorem hA_rg {c : gC} {z : Int} (hN : NR c 100014) (h : hA c 100014 z = true) : 0 ≤ z ∧ z < 24 := by
  have h1 := hN.2.1
  unfold hA at h
  simp only [Bool.and_eq_true, decide_eq_true_eq] at h
  omega
set_option maxHeartbeats 1000000 in
theorem c_ckKind {g : Nat} {T : gT} {c J : gC} {z : Int} (hz : -2147483648 ≤ z ∧ z < 2147483648) : gE g 164 6 [gi z] (gm T c J) (gV (0 ≤ z ∧ z < 4) 1 T c J) := by
  refine gE_mk am_r164 rfl (Or.inl rfl) (fun d hd => ?_)
  show gw d g 164 0 [gi z] [] _ _
  refine gw_il0 at164_0 ?_
  refine gw_zlt at164_1 (by omega) (fun q1 => ?_) (fun q1 => ?_)
  · refine gw_thr at164_9 (by omega) (Nat.le_of_ble_eq_true rfl) ?_
    first | exact Or.inl ⟨by omega, rfl, rfl⟩ | exact Or.inr ⟨by omega, rfl, rfl⟩
  · refine gw_il0 at164_4 (gw_const at164_5 ?_)
    refine gw_clt at164_6 (by omega) (by omega) (fun q6 => ?_) (fun q6 => ?_)
    · refine gw_rv at164_17 am_r164.2.1 ?_
      first | exact Or.inl ⟨by omega, rfl, rfl⟩ | exact Or.inr ⟨by omega, rfl, rfl⟩
    · refine gw_thr at164_9 (by omega) (Nat.le_of_ble_eq_true rfl) ?_
      first | exact Or.inl ⟨by omega, rfl, rfl⟩ | exact Or.inr ⟨by omega, rfl, rfl⟩
set_option maxHeartbeats 1000000 in
theorem c_ckClass {g : Nat} {T : gT} {c J : gC} {z : Int} (hz : -2147483648 ≤ z ∧ z < 2147483648) : gE g 165 6 [gi z] (gm T c J) (gV (1 ≤ z ∧ z ≤ 3) 1 T c J) := by
  refine gE_mk am_r165 rfl (Or.inl rfl) (fun d hd => ?_)
  show gw d g 165 0 [gi z] [] _ _
  refine gw_il0 at165_0 (gw_const at165_1 ?_)
  refine gw_clt at165_2 (by omega) (by omega) (fun q2 => ?_) (fun q2 => ?_)
  · refine gw_thr at165_10 (by omega) (Nat.le_of_ble_eq_true rfl) ?_
    first | exact Or.inl ⟨by omega, rfl, rfl⟩ | exact Or.inr ⟨by omega, rfl, rfl⟩
  · refine gw_il0 at165_5 (gw_const at165_6 ?_)
    refine gw_cle at165_7 (by omega) (by omega) (fun q7 => ?_) (fun q7 => ?_)
    · refine gw_rv at165_18 am_r165.2.1 ?_
      first | exact Or.inl ⟨by omega, rfl, rfl⟩ | exact Or.inr ⟨by omega, rfl, rfl⟩
    · refine gw_thr at165_10 (by omega) (Nat.le_of_ble_eq_true rfl) ?_
      first | exact Or.inl ⟨by omega, rfl, rfl⟩ | exact Or.inr ⟨by omega, rfl, rfl⟩
set_option maxHeartbeats 1000000 in
theorem c_ckDepth {g : Nat} {T : gT} {c J : gC} {z : Int} (hz : -2147483648 ≤ z ∧ z < 2147483648) : gE g 166 6 [gi z] (gm T c J) (gV (0 ≤ z ∧ z ≤ 2000) 1 T c J) := by
  refine gE_mk am_r166 rfl (Or.inl rfl) (fun d hd => ?_)
  show gw d g 166 0 [gi z] [] _ _
  refine gw_il0 at166_0 ?_
  refine gw_zlt at166_1 (by omega) (fun q1 => ?_) (fun q1 => ?_)
  · refine gw_thr at166_11 (by omega) (Nat.le_of_ble_eq_true rfl) ?_
    first | exact Or.inl ⟨by omega, rfl, rfl⟩ | exact Or.inr ⟨by omega, rfl, rfl⟩
  · refine gw_il0 at166_4 (gw_sip at166_5 (by decide) ?_)
    refine gw_cle at166_8 (by omega) (by omega) (fun q8 => ?_) (fun q8 => ?_)
    · refine gw_rv at166_19 am_r166.2.1 ?_
      first | exact Or.inl ⟨by omega, rfl, rfl⟩ | exact Or.inr ⟨by omega, rfl, rfl⟩
    · refine gw_thr at166_11 (by omega) (Nat.le_of_ble_eq_true rfl) ?_
      first | exact Or.inl ⟨by omega, rfl, rfl⟩ | exact Or.inr ⟨by omega, rfl, rfl⟩
set_option maxHeartbeats 1000000 in
theorem c_ckSeconds {g : Nat} {T : gT} {c J : gC} {z : Int} (hz : -2147483648 ≤ z ∧ z < 2147483648) : gE g 167 6 [gi z] (gm T c J) (gV (0 ≤ z ∧ z ≤ 1000000) 1 T c J) := by
  refine gE_mk am_r167 rfl (Or.inl rfl) (fun d hd => ?_)
  show gw d g 167 0 [gi z] [] _ _
  refine gw_il0 at167_0 ?_
  refine gw_zlt at167_1 (by omega) (fun q1 => ?_) (fun q1 => ?_)
  · refine gw_thr at167_11 (by omega) (Nat.le_of_ble_eq_true rfl) ?_
    first | exact Or.inl ⟨by omega, rfl, rfl⟩ | exact Or.inr ⟨by omega, rfl, rfl⟩
  · refine gw_il0 at167_4 (gw_ldcw (z := 1000000) at167_5 (by decide) ?_)
    refine gw_cle at167_8 (by omega) (by omega) (fun q8 => ?_) (fun q8 => ?_)
    · refine gw_rv at167_19 am_r167.2.1 ?_
      first | exact Or.inl ⟨by omega, rfl, rfl⟩ | exact Or.inr ⟨by omega, rfl, rfl⟩
    · refine gw_thr at167_11 (by omega) (Nat.le_of_ble_eq_true rfl) ?_
      first | exact Or.inl ⟨by omega, rfl, rfl⟩ | exact Or.inr ⟨by omega, rfl, rfl⟩
set_option maxHeartbeats 1000000 in
theorem c_ckArc {g : Nat} {T : gT} {c J : gC} (hX : XT T) (hT : NT T 100014) (hc : RG c) (hN : NR c 100014) {z : Int} (hz : -2147483648 ≤ z ∧ z < 2147483648) : gE g 161 6 [.ref 500000, gi z] (gm T c J) (gV (hA c 100014 z = true) 2 T c J) := by
  refine gE_mk am_r161 rfl (Or.inr ⟨_, rfl, (by first | exact XT_0 hX | exact XT_r4 hX | exact XT_r5 hX | exact NT_0 hT)⟩) (fun d hd => ?_)
  show gw d g 161 0 [.ref 500000, gi z] [] _ _
  refine gw_al0 at161_0 (gw_gr at161_1 (by first | exact XT_0 hX | exact XT_r4 hX | exact XT_r5 hX | exact NT_0 hT) (by first | exact XT_0 hX | exact XT_r4 hX | exact XT_r5 hX | exact NT_0 hT) (gw_il1 at161_4 (gw_callP2 at161_5 (c_hasArc hT hc hN (by omega)) (by omega) (Nat.le_of_ble_eq_true rfl) ?_)))
  refine gw_bne at161_8 (fun q8 => ?_) (fun q8 => ?_)
  · refine gw_rv at161_19 am_r161.2.1 ?_
    first | exact Or.inl ⟨by assumption, rfl, rfl⟩ | exact Or.inr ⟨by simp [*], rfl, rfl⟩
  · refine gw_thr at161_11 (by omega) (Nat.le_of_ble_eq_true rfl) ?_
    first | exact Or.inl ⟨by assumption, rfl, rfl⟩ | exact Or.inr ⟨by simp [*], rfl, rfl⟩
set_option maxHeartbeats 1000000 in
theorem c_ckNode {g : Nat} {T : gT} {c J : gC} (hX : XT T) (hT : NT T 100014) (hc : RG c) (hN : NR c 100014) {z : Int} (hz : -2147483648 ≤ z ∧ z < 2147483648) : gE g 162 6 [.ref 500000, gi z] (gm T c J) (gV (0 ≤ z ∧ z < c 100014 1) 2 T c J) := by
  refine gE_mk am_r162 rfl (Or.inr ⟨_, rfl, (by first | exact XT_0 hX | exact XT_r4 hX | exact XT_r5 hX | exact NT_0 hT)⟩) (fun d hd => ?_)
  show gw d g 162 0 [.ref 500000, gi z] [] _ _
  refine gw_il1 at162_0 ?_
  refine gw_zlt at162_1 (by first | omega | exact hc _ _) (fun q1 => ?_) (fun q1 => ?_)
  · refine gw_thr at162_15 (by omega) (Nat.le_of_ble_eq_true rfl) ?_
    first | exact Or.inl ⟨by omega, rfl, rfl⟩ | exact Or.inr ⟨by omega, rfl, rfl⟩
  · refine gw_il1 at162_4 (gw_al0 at162_5 (gw_gr at162_6 (by first | exact XT_0 hX | exact XT_r4 hX | exact XT_r5 hX | exact NT_0 hT) (by first | exact XT_0 hX | exact XT_r4 hX | exact XT_r5 hX | exact NT_0 hT) (gw_gf (j := 1) at162_9 (by first | exact XT_0 hX | exact XT_r4 hX | exact XT_r5 hX | exact NT_0 hT) rfl ?_)))
    refine gw_clt at162_12 (by first | omega | exact hc _ _) (by first | omega | exact hc _ _) (fun q12 => ?_) (fun q12 => ?_)
    · refine gw_rv at162_23 am_r162.2.1 ?_
      first | exact Or.inl ⟨by omega, rfl, rfl⟩ | exact Or.inr ⟨by omega, rfl, rfl⟩
    · refine gw_thr at162_15 (by omega) (Nat.le_of_ble_eq_true rfl) ?_
      first | exact Or.inl ⟨by omega, rfl, rfl⟩ | exact Or.inr ⟨by omega, rfl, rfl⟩
set_option maxHeartbeats 1000000 in
theorem c_ckDriv {g : Nat} {T : gT} {c J : gC} (hX : XT T) (hT : NT T 100014) (hc : RG c) (hN : NR c 100014) (hW : WT T 100034) {z : Int} (hz : -2147483648 ≤ z ∧ z < 2147483648) : gE g 163 7 [.ref 500000, gi z] (gm T c J) (fun o M1 => (hA c 100014 z = true ∧ bg c 100014 z = c 100034 2 ∧ o = .inl none ∧ M1 = gm T c J) ∨ (hA c 100014 z = true ∧ ¬ bg c 100014 z = c 100034 2 ∧ o = .inr 0 ∧ M1 = gm (gTt T) c J) ∨ (¬ hA c 100014 z = true ∧ o = .inr 2 ∧ M1 = gm (gTt T) c J)) := by
  have hbg := bg_rg hN z
  refine gE_mk am_r163 rfl (Or.inr ⟨_, rfl, (by first | exact XT_0 hX | exact XT_r4 hX | exact XT_r5 hX | exact NT_0 hT | exact WT_0 hW)⟩) (fun d hd => ?_)
  show gw d g 163 0 [.ref 500000, gi z] [] _ _
  refine gw_al0 at163_0 (gw_il1 at163_1 ?_)
  refine gw_call2 at163_2 (c_ckArc hX hT hc hN (by omega)) (by omega) (Nat.le_of_ble_eq_true rfl) (fun o M1 q2 => ?_)
  rcases q2 with ⟨hp2, rfl, rfl⟩ | ⟨hp2, rfl, rfl⟩
  · show gw _ _ _ _ _ [] _ _
    refine gw_al0 at163_5 (gw_gr at163_6 (by first | exact XT_0 hX | exact XT_r4 hX | exact XT_r5 hX | exact NT_0 hT | exact WT_0 hW) (by first | exact XT_0 hX | exact XT_r4 hX | exact XT_r5 hX | exact NT_0 hT | exact WT_0 hW) (gw_il1 at163_9 (gw_callP2 at163_10 (c_beginOf hT hc (by omega)) (by omega) (Nat.le_of_ble_eq_true rfl) (gw_al0 at163_13 (gw_gr at163_14 (by first | exact XT_0 hX | exact XT_r4 hX | exact XT_r5 hX | exact NT_0 hT | exact WT_0 hW) (by first | exact XT_0 hX | exact XT_r4 hX | exact XT_r5 hX | exact NT_0 hT | exact WT_0 hW) (gw_gf (j := 2) at163_17 (by first | exact XT_0 hX | exact XT_r4 hX | exact XT_r5 hX | exact NT_0 hT | exact WT_0 hW) rfl ?_))))))
    refine gw_ceq at163_20 (by first | omega | exact hc _ _) (by first | omega | exact hc _ _) (fun q20 => ?_) (fun q20 => ?_)
    · refine gw_rv at163_31 am_r163.2.1 ?_
      first | exact Or.inl ⟨hp2, by omega, rfl, rfl⟩ | exact Or.inr (Or.inl ⟨hp2, by omega, rfl, rfl⟩)
    · refine gw_thr at163_23 (by omega) (Nat.le_of_ble_eq_true rfl) ?_
      first | exact Or.inl ⟨hp2, by omega, rfl, rfl⟩ | exact Or.inr (Or.inl ⟨hp2, by omega, rfl, rfl⟩)
  · refine gK_thr (am_h163 _ (by decide)) ?_
    exact Or.inr (Or.inr ⟨hp2, rfl, rfl⟩)
set_option maxHeartbeats 1000000 in
theorem c_xNodes {g : Nat} {T : gT} {c J : gC} (hX : XT T) (hT : NT T 100014) (hc : RG c) (hN : NR c 100014) (hW : WT T 100034) : gE g 102 0 [.ref 500000] (gm T c J) (gR (gi (c 100014 1)) (gm T c J)) := by
  refine gE_mk am_r102 rfl (Or.inr ⟨_, rfl, (by first | exact XT_0 hX | exact XT_r4 hX | exact XT_r5 hX | exact NT_0 hT | exact WT_0 hW)⟩) (fun d hd => ?_)
  show gw d g 102 0 [.ref 500000] [] _ _
  refine gw_al0 at102_0 (gw_gr at102_1 (by first | exact XT_0 hX | exact XT_r4 hX | exact XT_r5 hX | exact NT_0 hT | exact WT_0 hW) (by first | exact XT_0 hX | exact XT_r4 hX | exact XT_r5 hX | exact NT_0 hT | exact WT_0 hW) (gw_gf (j := 1) at102_4 (by first | exact XT_0 hX | exact XT_r4 hX | exact XT_r5 hX | exact NT_0 hT | exact WT_0 hW) rfl (gw_ri at102_7 am_r102.2.1 (gR_i ?_))))
  rfl
set_option maxHeartbeats 1000000 in
theorem c_xRoads {g : Nat} {T : gT} {c J : gC} (hX : XT T) (hT : NT T 100014) (hc : RG c) (hN : NR c 100014) (hW : WT T 100034) : gE g 103 0 [.ref 500000] (gm T c J) (gR (gi (c 100014 2)) (gm T c J)) := by
  refine gE_mk am_r103 rfl (Or.inr ⟨_, rfl, (by first | exact XT_0 hX | exact XT_r4 hX | exact XT_r5 hX | exact NT_0 hT | exact WT_0 hW)⟩) (fun d hd => ?_)
  show gw d g 103 0 [.ref 500000] [] _ _
  refine gw_al0 at103_0 (gw_gr at103_1 (by first | exact XT_0 hX | exact XT_r4 hX | exact XT_r5 hX | exact NT_0 hT | exact WT_0 hW) (by first | exact XT_0 hX | exact XT_r4 hX | exact XT_r5 hX | exact NT_0 hT | exact WT_0 hW) (gw_gf (j := 2) at103_4 (by first | exact XT_0 hX | exact XT_r4 hX | exact XT_r5 hX | exact NT_0 hT | exact WT_0 hW) rfl (gw_ri at103_7 am_r103.2.1 (gR_i ?_))))
  rfl
set_option maxHeartbeats 1000000 in
theorem c_xTime {g : Nat} {T : gT} {c J : gC} (hX : XT T) (hT : NT T 100014) (hc : RG c) (hN : NR c 100014) (hW : WT T 100034) : gE g 130 0 [.ref 500000] (gm T c J) (gR (gi (c 100034 1)) (gm T c J)) := by
  refine gE_mk am_r130 rfl (Or.inr ⟨_, rfl, (by first | exact XT_0 hX | exact XT_r4 hX | exact XT_r5 hX | exact NT_0 hT | exact WT_0 hW)⟩) (fun d hd => ?_)
  show gw d g 130 0 [.ref 500000] [] _ _
  refine gw_al0 at130_0 (gw_gr at130_1 (by first | exact XT_0 hX | exact XT_r4 hX | exact XT_r5 hX | exact NT_0 hT | exact WT_0 hW) (by first | exact XT_0 hX | exact XT_r4 hX | exact XT_r5 hX | exact NT_0 hT | exact WT_0 hW) (gw_gf (j := 1) at130_4 (by first | exact XT_0 hX | exact XT_r4 hX | exact XT_r5 hX | exact NT_0 hT | exact WT_0 hW) rfl (gw_ri at130_7 am_r130.2.1 (gR_i ?_))))
  rfl
set_option maxHeartbeats 1000000 in
theorem c_x_fall {g : Nat} {T : gT} {c J : gC} (hX : XT T) (hT : NT T 100014) (hc : RG c) (hN : NR c 100014) (hW : WT T 100034) : gE g 131 0 [.ref 500000] (gm T c J) (gR (gi (c 100034 7)) (gm T c J)) := by
  refine gE_mk am_r131 rfl (Or.inr ⟨_, rfl, (by first | exact XT_0 hX | exact XT_r4 hX | exact XT_r5 hX | exact NT_0 hT | exact WT_0 hW)⟩) (fun d hd => ?_)
  show gw d g 131 0 [.ref 500000] [] _ _
  refine gw_al0 at131_0 (gw_gr at131_1 (by first | exact XT_0 hX | exact XT_r4 hX | exact XT_r5 hX | exact NT_0 hT | exact WT_0 hW) (by first | exact XT_0 hX | exact XT_r4 hX | exact XT_r5 hX | exact NT_0 hT | exact WT_0 hW) (gw_gf (j := 7) at131_4 (by first | exact XT_0 hX | exact XT_r4 hX | exact XT_r5 hX | exact NT_0 hT | exact WT_0 hW) rfl (gw_ri at131_7 am_r131.2.1 (gR_i ?_))))
  rfl
set_option maxHeartbeats 1000000 in
theorem c_x_position {g : Nat} {T : gT} {c J : gC} (hX : XT T) (hT : NT T 100014) (hc : RG c) (hN : NR c 100014) (hW : WT T 100034) : gE g 142 0 [.ref 500000] (gm T c J) (gR (gi (c 100034 2)) (gm T c J)) := by
  refine gE_mk am_r142 rfl (Or.inr ⟨_, rfl, (by first | exact XT_0 hX | exact XT_r4 hX | exact XT_r5 hX | exact NT_0 hT | exact WT_0 hW)⟩) (fun d hd => ?_)
  show gw d g 142 0 [.ref 500000] [] _ _
  refine gw_al0 at142_0 (gw_gr at142_1 (by first | exact XT_0 hX | exact XT_r4 hX | exact XT_r5 hX | exact NT_0 hT | exact WT_0 hW) (by first | exact XT_0 hX | exact XT_r4 hX | exact XT_r5 hX | exact NT_0 hT | exact WT_0 hW) (gw_gf (j := 2) at142_4 (by first | exact XT_0 hX | exact XT_r4 hX | exact XT_r5 hX | exact NT_0 hT | exact WT_0 hW) rfl (gw_ri at142_7 am_r142.2.1 (gR_i ?_))))
  rfl
set_option maxHeartbeats 1000000 in
theorem c_x_lastArc {g : Nat} {T : gT} {c J : gC} (hX : XT T) (hT : NT T 100014) (hc : RG c) (hN : NR c 100014) (hW : WT T 100034) : gE g 143 0 [.ref 500000] (gm T c J) (gR (gi (c 100034 3)) (gm T c J)) := by
  refine gE_mk am_r143 rfl (Or.inr ⟨_, rfl, (by first | exact XT_0 hX | exact XT_r4 hX | exact XT_r5 hX | exact NT_0 hT | exact WT_0 hW)⟩) (fun d hd => ?_)
  show gw d g 143 0 [.ref 500000] [] _ _
  refine gw_al0 at143_0 (gw_gr at143_1 (by first | exact XT_0 hX | exact XT_r4 hX | exact XT_r5 hX | exact NT_0 hT | exact WT_0 hW) (by first | exact XT_0 hX | exact XT_r4 hX | exact XT_r5 hX | exact NT_0 hT | exact WT_0 hW) (gw_gf (j := 3) at143_4 (by first | exact XT_0 hX | exact XT_r4 hX | exact XT_r5 hX | exact NT_0 hT | exact WT_0 hW) rfl (gw_ri at143_7 am_r143.2.1 (gR_i ?_))))
  rfl
set_option maxHeartbeats 1000000 in
theorem c_x_saltLeft {g : Nat} {T : gT} {c J : gC} (hX : XT T) (hT : NT T 100014) (hc : RG c) (hN : NR c 100014) (hW : WT T 100034) : gE g 144 0 [.ref 500000] (gm T c J) (gR (gi (c 100034 4)) (gm T c J)) := by
  refine gE_mk am_r144 rfl (Or.inr ⟨_, rfl, (by first | exact XT_0 hX | exact XT_r4 hX | exact XT_r5 hX | exact NT_0 hT | exact WT_0 hW)⟩) (fun d hd => ?_)
  show gw d g 144 0 [.ref 500000] [] _ _
  refine gw_al0 at144_0 (gw_gr at144_1 (by first | exact XT_0 hX | exact XT_r4 hX | exact XT_r5 hX | exact NT_0 hT | exact WT_0 hW) (by first | exact XT_0 hX | exact XT_r4 hX | exact XT_r5 hX | exact NT_0 hT | exact WT_0 hW) (gw_gf (j := 4) at144_4 (by first | exact XT_0 hX | exact XT_r4 hX | exact XT_r5 hX | exact NT_0 hT | exact WT_0 hW) rfl (gw_ri at144_7 am_r144.2.1 (gR_i ?_))))
  rfl
set_option maxHeartbeats 1000000 in
theorem c_x_saltUsed {g : Nat} {T : gT} {c J : gC} (hX : XT T) (hT : NT T 100014) (hc : RG c) (hN : NR c 100014) (hW : WT T 100034) : gE g 152 0 [.ref 500000] (gm T c J) (gR (gi (c 100034 5)) (gm T c J)) := by
  refine gE_mk am_r152 rfl (Or.inr ⟨_, rfl, (by first | exact XT_0 hX | exact XT_r4 hX | exact XT_r5 hX | exact NT_0 hT | exact WT_0 hW)⟩) (fun d hd => ?_)
  show gw d g 152 0 [.ref 500000] [] _ _
  refine gw_al0 at152_0 (gw_gr at152_1 (by first | exact XT_0 hX | exact XT_r4 hX | exact XT_r5 hX | exact NT_0 hT | exact WT_0 hW) (by first | exact XT_0 hX | exact XT_r4 hX | exact XT_r5 hX | exact NT_0 hT | exact WT_0 hW) (gw_gf (j := 5) at152_4 (by first | exact XT_0 hX | exact XT_r4 hX | exact XT_r5 hX | exact NT_0 hT | exact WT_0 hW) rfl (gw_ri at152_7 am_r152.2.1 (gR_i ?_))))
  rfl
set_option maxHeartbeats 1000000 in
theorem c_x_distance {g : Nat} {T : gT} {c J : gC} (hX : XT T) (hT : NT T 100014) (hc : RG c) (hN : NR c 100014) (hW : WT T 100034) : gE g 153 0 [.ref 500000] (gm T c J) (gR (gi (c 100034 6)) (gm T c J)) := by
  refine gE_mk am_r153 rfl (Or.inr ⟨_, rfl, (by first | exact XT_0 hX | exact XT_r4 hX | exact XT_r5 hX | exact NT_0 hT | exact WT_0 hW)⟩) (fun d hd => ?_)
  show gw d g 153 0 [.ref 500000] [] _ _
  refine gw_al0 at153_0 (gw_gr at153_1 (by first | exact XT_0 hX | exact XT_r4 hX | exact XT_r5 hX | exact NT_0 hT | exact WT_0 hW) (by first | exact XT_0 hX | exact XT_r4 hX | exact XT_r5 hX | exact NT_0 hT | exact WT_0 hW) (gw_gf (j := 6) at153_4 (by first | exact XT_0 hX | exact XT_r4 hX | exact XT_r5 hX | exact NT_0 hT | exact WT_0 hW) rfl (gw_ri at153_7 am_r153.2.1 (gR_i ?_))))
  rfl
set_option maxHeartbeats 1000000 in
theorem c_x_arcStart {g : Nat} {T : gT} {c J : gC} (hX : XT T) (hT : NT T 100014) (hc : RG c) (hN : NR c 100014) (hW : WT T 100034) (hwn : (T.1 100034).2.2 0 = 100014 + 1) {B : Int} (hR : WR c 100034 B) {z : Int} (hz : -2147483648 ≤ z ∧ z < 2147483648) : gE g 106 7 [.ref 500000, gi z] (gm T c J) (gI (hA c 100014 z = true) 2 (bg c 100014 z) T c J) := by
  have hn1 := hN.1
  refine gE_mk am_r106 rfl (Or.inr ⟨_, rfl, (by first | exact XT_0 hX | exact XT_r4 hX | exact XT_r5 hX | exact NT_0 hT | exact WT_0 hW | exact WT_r8 hW | exact WT_t8 hW | exact WT_l8 hW | exact WT_r9 hW | exact WT_t9 hW | exact WT_l9 hW | exact NT_r16 hT | exact NT_t16 hT | exact NT_l16 hT)⟩) (fun d hd => ?_)
  show gw d g 106 0 [.ref 500000, gi z] [] _ _
  refine gw_al0 at106_0 (gw_il1 at106_1 ?_)
  refine gw_call2 at106_2 (c_ckArc hX hT hc hN (by omega)) (by omega) (Nat.le_of_ble_eq_true rfl) (fun o M1 q2 => ?_)
  rcases q2 with ⟨hp2, rfl, rfl⟩ | ⟨hp2, rfl, rfl⟩
  · show gw _ _ _ _ _ [] _ _
    have hr2 := hA_rg hN hp2
    refine gw_al0 at106_5 (gw_gr at106_6 (by first | exact XT_0 hX | exact XT_r4 hX | exact XT_r5 hX | exact NT_0 hT | exact WT_0 hW | exact WT_r8 hW | exact WT_t8 hW | exact WT_l8 hW | exact WT_r9 hW | exact WT_t9 hW | exact WT_l9 hW | exact NT_r16 hT | exact NT_t16 hT | exact NT_l16 hT) (by first | exact XT_0 hX | exact XT_r4 hX | exact XT_r5 hX | exact NT_0 hT | exact WT_0 hW | exact WT_r8 hW | exact WT_t8 hW | exact WT_l8 hW | exact WT_r9 hW | exact WT_t9 hW | exact WT_l9 hW | exact NT_r16 hT | exact NT_t16 hT | exact NT_l16 hT) (gw_il1 at106_9 (gw_callP2 at106_10 (c_beginOf hT hc (by omega)) (by omega) (Nat.le_of_ble_eq_true rfl) (gw_ri at106_13 am_r106.2.1 ?_))))
    exact Or.inl ⟨hp2, rfl, rfl⟩
  · refine gK_thr (am_h106 _ (by decide)) ?_
    exact Or.inr ⟨hp2, rfl, rfl⟩
set_option maxHeartbeats 1000000 in
theorem c_x_arcEnd {g : Nat} {T : gT} {c J : gC} (hX : XT T) (hT : NT T 100014) (hc : RG c) (hN : NR c 100014) (hW : WT T 100034) (hwn : (T.1 100034).2.2 0 = 100014 + 1) {B : Int} (hR : WR c 100034 B) {z : Int} (hz : -2147483648 ≤ z ∧ z < 2147483648) : gE g 107 7 [.ref 500000, gi z] (gm T c J) (gI (hA c 100014 z = true) 2 (en c 100014 z) T c J) := by
  have hn1 := hN.1
  refine gE_mk am_r107 rfl (Or.inr ⟨_, rfl, (by first | exact XT_0 hX | exact XT_r4 hX | exact XT_r5 hX | exact NT_0 hT | exact WT_0 hW | exact WT_r8 hW | exact WT_t8 hW | exact WT_l8 hW | exact WT_r9 hW | exact WT_t9 hW | exact WT_l9 hW | exact NT_r16 hT | exact NT_t16 hT | exact NT_l16 hT)⟩) (fun d hd => ?_)
  show gw d g 107 0 [.ref 500000, gi z] [] _ _
  refine gw_al0 at107_0 (gw_il1 at107_1 ?_)
  refine gw_call2 at107_2 (c_ckArc hX hT hc hN (by omega)) (by omega) (Nat.le_of_ble_eq_true rfl) (fun o M1 q2 => ?_)
  rcases q2 with ⟨hp2, rfl, rfl⟩ | ⟨hp2, rfl, rfl⟩
  · show gw _ _ _ _ _ [] _ _
    have hr2 := hA_rg hN hp2
    refine gw_al0 at107_5 (gw_gr at107_6 (by first | exact XT_0 hX | exact XT_r4 hX | exact XT_r5 hX | exact NT_0 hT | exact WT_0 hW | exact WT_r8 hW | exact WT_t8 hW | exact WT_l8 hW | exact WT_r9 hW | exact WT_t9 hW | exact WT_l9 hW | exact NT_r16 hT | exact NT_t16 hT | exact NT_l16 hT) (by first | exact XT_0 hX | exact XT_r4 hX | exact XT_r5 hX | exact NT_0 hT | exact WT_0 hW | exact WT_r8 hW | exact WT_t8 hW | exact WT_l8 hW | exact WT_r9 hW | exact WT_t9 hW | exact WT_l9 hW | exact NT_r16 hT | exact NT_t16 hT | exact NT_l16 hT) (gw_il1 at107_9 (gw_callP2 at107_10 (c_endOf hT hc (by omega)) (by omega) (Nat.le_of_ble_eq_true rfl) (gw_ri at107_13 am_r107.2.1 ?_))))
    exact Or.inl ⟨hp2, rfl, rfl⟩
  · refine gK_thr (am_h107 _ (by decide)) ?_
    exact Or.inr ⟨hp2, rfl, rfl⟩
set_option maxHeartbeats 1000000 in
theorem c_x_arcLength {g : Nat} {T : gT} {c J : gC} (hX : XT T) (hT : NT T 100014) (hc : RG c) (hN : NR c 100014) (hW : WT T 100034) (hwn : (T.1 100034).2.2 0 = 100014 + 1) {B : Int} (hR : WR c 100034 B) {z : Int} (hz : -2147483648 ≤ z ∧ z < 2147483648) : gE g 108 7 [.ref 500000, gi z] (gm T c J) (gI (hA c 100014 z = true) 2 (ln c 100014 z) T c J) := by
  have hn1 := hN.1
  refine gE_mk am_r108 rfl (Or.inr ⟨_, rfl, (by first | exact XT_0 hX | exact XT_r4 hX | exact XT_r5 hX | exact NT_0 hT | exact WT_0 hW | exact WT_r8 hW | exact WT_t8 hW | exact WT_l8 hW | exact WT_r9 hW | exact WT_t9 hW | exact WT_l9 hW | exact NT_r16 hT | exact NT_t16 hT | exact NT_l16 hT)⟩) (fun d hd => ?_)
  show gw d g 108 0 [.ref 500000, gi z] [] _ _
  refine gw_al0 at108_0 (gw_il1 at108_1 ?_)
  refine gw_call2 at108_2 (c_ckArc hX hT hc hN (by omega)) (by omega) (Nat.le_of_ble_eq_true rfl) (fun o M1 q2 => ?_)
  rcases q2 with ⟨hp2, rfl, rfl⟩ | ⟨hp2, rfl, rfl⟩
  · show gw _ _ _ _ _ [] _ _
    have hr2 := hA_rg hN hp2
    refine gw_al0 at108_5 (gw_gr at108_6 (by first | exact XT_0 hX | exact XT_r4 hX | exact XT_r5 hX | exact NT_0 hT | exact WT_0 hW | exact WT_r8 hW | exact WT_t8 hW | exact WT_l8 hW | exact WT_r9 hW | exact WT_t9 hW | exact WT_l9 hW | exact NT_r16 hT | exact NT_t16 hT | exact NT_l16 hT) (by first | exact XT_0 hX | exact XT_r4 hX | exact XT_r5 hX | exact NT_0 hT | exact WT_0 hW | exact WT_r8 hW | exact WT_t8 hW | exact WT_l8 hW | exact WT_r9 hW | exact WT_t9 hW | exact WT_l9 hW | exact NT_r16 hT | exact NT_t16 hT | exact NT_l16 hT) (gw_il1 at108_9 (gw_callP2 at108_10 (c_lengthOf hT hc (by omega)) (by omega) (Nat.le_of_ble_eq_true rfl) (gw_ri at108_13 am_r108.2.1 ?_))))
    exact Or.inl ⟨hp2, rfl, rfl⟩
  · refine gK_thr (am_h108 _ (by decide)) ?_
    exact Or.inr ⟨hp2, rfl, rfl⟩
set_option maxHeartbeats 1000000 in
theorem c_x_arcClass {g : Nat} {T : gT} {c J : gC} (hX : XT T) (hT : NT T 100014) (hc : RG c) (hN : NR c 100014) (hW : WT T 100034) (hwn : (T.1 100034).2.2 0 = 100014 + 1) {B : Int} (hR : WR c 100034 B) {z : Int} (hz : -2147483648 ≤ z ∧ z < 2147483648) : gE g 109 7 [.ref 500000, gi z] (gm T c J) (gI (hA c 100014 z = true) 2 (cl c 100014 z) T c J) := by
  have hn1 := hN.1
  refine gE_mk am_r109 rfl (Or.inr ⟨_, rfl, (by first | exact XT_0 hX | exact XT_r4 hX | exact XT_r5 hX | exact NT_0 hT | exact WT_0 hW | exact WT_r8 hW | exact WT_t8 hW | exact WT_l8 hW | exact WT_r9 hW | exact WT_t9 hW | exact WT_l9 hW | exact NT_r16 hT | exact NT_t16 hT | exact NT_l16 hT)⟩) (fun d hd => ?_)
  show gw d g 109 0 [.ref 500000, gi z] [] _ _
  refine gw_al0 at109_0 (gw_il1 at109_1 ?_)
  refine gw_call2 at109_2 (c_ckArc hX hT hc hN (by omega)) (by omega) (Nat.le_of_ble_eq_true rfl) (fun o M1 q2 => ?_)
  rcases q2 with ⟨hp2, rfl, rfl⟩ | ⟨hp2, rfl, rfl⟩
  · show gw _ _ _ _ _ [] _ _
    have hr2 := hA_rg hN hp2
    refine gw_al0 at109_5 (gw_gr at109_6 (by first | exact XT_0 hX | exact XT_r4 hX | exact XT_r5 hX | exact NT_0 hT | exact WT_0 hW | exact WT_r8 hW | exact WT_t8 hW | exact WT_l8 hW | exact WT_r9 hW | exact WT_t9 hW | exact WT_l9 hW | exact NT_r16 hT | exact NT_t16 hT | exact NT_l16 hT) (by first | exact XT_0 hX | exact XT_r4 hX | exact XT_r5 hX | exact NT_0 hT | exact WT_0 hW | exact WT_r8 hW | exact WT_t8 hW | exact WT_l8 hW | exact WT_r9 hW | exact WT_t9 hW | exact WT_l9 hW | exact NT_r16 hT | exact NT_t16 hT | exact NT_l16 hT) (gw_il1 at109_9 (gw_callP2 at109_10 (c_classOf hT hc (by omega)) (by omega) (Nat.le_of_ble_eq_true rfl) (gw_ri at109_13 am_r109.2.1 ?_))))
    exact Or.inl ⟨hp2, rfl, rfl⟩
  · refine gK_thr (am_h109 _ (by decide)) ?_
    exact Or.inr ⟨hp2, rfl, rfl⟩
set_option maxHeartbeats 1000000 in
theorem c_x_depth {g : Nat} {T : gT} {c J : gC} (hX : XT T) (hT : NT T 100014) (hc : RG c) (hN : NR c 100014) (hW : WT T 100034) (hwn : (T.1 100034).2.2 0 = 100014 + 1) {B : Int} (hR : WR c 100034 B) {z : Int} (hz : -2147483648 ≤ z ∧ z < 2147483648) : gE g 132 7 [.ref 500000, gi z] (gm T c J) (gI (hA c 100014 z = true) 2 (sn c 100034 z 0) T c J) := by
  have hn1 := hN.1
  refine gE_mk am_r132 rfl (Or.inr ⟨_, rfl, (by first | exact XT_0 hX | exact XT_r4 hX | exact XT_r5 hX | exact NT_0 hT | exact WT_0 hW | exact WT_r8 hW | exact WT_t8 hW | exact WT_l8 hW | exact WT_r9 hW | exact WT_t9 hW | exact WT_l9 hW | exact NT_r16 hT | exact NT_t16 hT | exact NT_l16 hT)⟩) (fun d hd => ?_)
  show gw d g 132 0 [.ref 500000, gi z] [] _ _
  refine gw_al0 at132_0 (gw_il1 at132_1 ?_)
  refine gw_call2 at132_2 (c_ckArc hX hT hc hN (by omega)) (by omega) (Nat.le_of_ble_eq_true rfl) (fun o M1 q2 => ?_)
  rcases q2 with ⟨hp2, rfl, rfl⟩ | ⟨hp2, rfl, rfl⟩
  · show gw _ _ _ _ _ [] _ _
    have hr2 := hA_rg hN hp2
    refine gw_al0 at132_5 (gw_gr at132_6 (by first | exact XT_0 hX | exact XT_r4 hX | exact XT_r5 hX | exact NT_0 hT | exact WT_0 hW | exact WT_r8 hW | exact WT_t8 hW | exact WT_l8 hW | exact WT_r9 hW | exact WT_t9 hW | exact WT_l9 hW | exact NT_r16 hT | exact NT_t16 hT | exact NT_l16 hT) (by first | exact XT_0 hX | exact XT_r4 hX | exact XT_r5 hX | exact NT_0 hT | exact WT_0 hW | exact WT_r8 hW | exact WT_t8 hW | exact WT_l8 hW | exact WT_r9 hW | exact WT_t9 hW | exact WT_l9 hW | exact NT_r16 hT | exact NT_t16 hT | exact NT_l16 hT) (gw_il1 at132_9 (gw_const at132_10 (gw_callP3 at132_11 (c_snowAfter hW hc hR (by omega) (by omega)) (by omega) (Nat.le_of_ble_eq_true rfl) (gw_ri at132_14 am_r132.2.1 ?_)))))
    exact Or.inl ⟨hp2, rfl, rfl⟩
  · refine gK_thr (am_h132 _ (by decide)) ?_
    exact Or.inr ⟨hp2, rfl, rfl⟩
set_option maxHeartbeats 1000000 in
theorem c_x_passes {g : Nat} {T : gT} {c J : gC} (hX : XT T) (hT : NT T 100014) (hc : RG c) (hN : NR c 100014) (hW : WT T 100034) (hwn : (T.1 100034).2.2 0 = 100014 + 1) {B : Int} (hR : WR c 100034 B) {z : Int} (hz : -2147483648 ≤ z ∧ z < 2147483648) : gE g 155 7 [.ref 500000, gi z] (gm T c J) (gI (hA c 100014 z = true) 2 (c (100034 + 2) z) T c J) := by
  have hn1 := hN.1
  refine gE_mk am_r155 rfl (Or.inr ⟨_, rfl, (by first | exact XT_0 hX | exact XT_r4 hX | exact XT_r5 hX | exact NT_0 hT | exact WT_0 hW | exact WT_r8 hW | exact WT_t8 hW | exact WT_l8 hW | exact WT_r9 hW | exact WT_t9 hW | exact WT_l9 hW | exact NT_r16 hT | exact NT_t16 hT | exact NT_l16 hT)⟩) (fun d hd => ?_)
  show gw d g 155 0 [.ref 500000, gi z] [] _ _
  refine gw_al0 at155_0 (gw_il1 at155_1 ?_)
  refine gw_call2 at155_2 (c_ckArc hX hT hc hN (by omega)) (by omega) (Nat.le_of_ble_eq_true rfl) (fun o M1 q2 => ?_)
  rcases q2 with ⟨hp2, rfl, rfl⟩ | ⟨hp2, rfl, rfl⟩
  · show gw _ _ _ _ _ [] _ _
    have hr2 := hA_rg hN hp2
    refine gw_al0 at155_5 (gw_gr at155_6 (by first | exact XT_0 hX | exact XT_r4 hX | exact XT_r5 hX | exact NT_0 hT | exact WT_0 hW | exact WT_r8 hW | exact WT_t8 hW | exact WT_l8 hW | exact WT_r9 hW | exact WT_t9 hW | exact WT_l9 hW | exact NT_r16 hT | exact NT_t16 hT | exact NT_l16 hT) (by first | exact XT_0 hX | exact XT_r4 hX | exact XT_r5 hX | exact NT_0 hT | exact WT_0 hW | exact WT_r8 hW | exact WT_t8 hW | exact WT_l8 hW | exact WT_r9 hW | exact WT_t9 hW | exact WT_l9 hW | exact NT_r16 hT | exact NT_t16 hT | exact NT_l16 hT) (gw_gr at155_9 (by first | exact XT_0 hX | exact XT_r4 hX | exact XT_r5 hX | exact NT_0 hT | exact WT_0 hW | exact WT_r8 hW | exact WT_t8 hW | exact WT_l8 hW | exact WT_r9 hW | exact WT_t9 hW | exact WT_l9 hW | exact NT_r16 hT | exact NT_t16 hT | exact NT_l16 hT) (by first | exact XT_0 hX | exact XT_r4 hX | exact XT_r5 hX | exact NT_0 hT | exact WT_0 hW | exact WT_r8 hW | exact WT_t8 hW | exact WT_l8 hW | exact WT_r9 hW | exact WT_t9 hW | exact WT_l9 hW | exact NT_r16 hT | exact NT_t16 hT | exact NT_l16 hT) (gw_il1 at155_12 (gw_ia at155_13 (by first | exact Or.inl (by first | exact XT_0 hX | exact XT_r4 hX | exact XT_r5 hX | exact NT_0 hT | exact WT_0 hW | exact WT_r8 hW | exact WT_t8 hW | exact WT_l8 hW | exact WT_r9 hW | exact WT_t9 hW | exact WT_l9 hW | exact NT_r16 hT | exact NT_t16 hT | exact NT_l16 hT) | exact Or.inr (by first | exact XT_0 hX | exact XT_r4 hX | exact XT_r5 hX | exact NT_0 hT | exact WT_0 hW | exact WT_r8 hW | exact WT_t8 hW | exact WT_l8 hW | exact WT_r9 hW | exact WT_t9 hW | exact WT_l9 hW | exact NT_r16 hT | exact NT_t16 hT | exact NT_l16 hT)) (by first | exact XT_0 hX | exact XT_r4 hX | exact XT_r5 hX | exact NT_0 hT | exact WT_0 hW | exact WT_r8 hW | exact WT_t8 hW | exact WT_l8 hW | exact WT_r9 hW | exact WT_t9 hW | exact WT_l9 hW | exact NT_r16 hT | exact NT_t16 hT | exact NT_l16 hT) (by first | omega | exact hc _ _ | exact zrg _) (by first | omega | exact hc _ _ | exact zrg _) (by omega) (gw_ri at155_14 am_r155.2.1 ?_)))))
    exact Or.inl ⟨hp2, rfl, rfl⟩
  · refine gK_thr (am_h155 _ (by decide)) ?_
    exact Or.inr ⟨hp2, rfl, rfl⟩
set_option maxHeartbeats 1000000 in
theorem c_x_turnsMade {g : Nat} {T : gT} {c J : gC} (hX : XT T) (hT : NT T 100014) (hc : RG c) (hN : NR c 100014) (hW : WT T 100034) (hwn : (T.1 100034).2.2 0 = 100014 + 1) {B : Int} (hR : WR c 100034 B) {z : Int} (hz : -2147483648 ≤ z ∧ z < 2147483648) : gE g 154 7 [.ref 500000, gi z] (gm T c J) (gI (0 ≤ z ∧ z < 4) 1 (c (100034 + 1) z) T c J) := by
  have hn1 := hN.1
  refine gE_mk am_r154 rfl (Or.inr ⟨_, rfl, (by first | exact XT_0 hX | exact XT_r4 hX | exact XT_r5 hX | exact NT_0 hT | exact WT_0 hW | exact WT_r8 hW | exact WT_t8 hW | exact WT_l8 hW | exact WT_r9 hW | exact WT_t9 hW | exact WT_l9 hW | exact NT_r16 hT | exact NT_t16 hT | exact NT_l16 hT)⟩) (fun d hd => ?_)
  show gw d g 154 0 [.ref 500000, gi z] [] _ _
  refine gw_il1 at154_0 ?_
  refine gw_call1 at154_1 (c_ckKind (by omega)) (by omega) (Nat.le_of_ble_eq_true rfl) (fun o M1 q1 => ?_)
  rcases q1 with ⟨hp1, rfl, rfl⟩ | ⟨hp1, rfl, rfl⟩
  · show gw _ _ _ _ _ [] _ _
    refine gw_al0 at154_4 (gw_gr at154_5 (by first | exact XT_0 hX | exact XT_r4 hX | exact XT_r5 hX | exact NT_0 hT | exact WT_0 hW | exact WT_r8 hW | exact WT_t8 hW | exact WT_l8 hW | exact WT_r9 hW | exact WT_t9 hW | exact WT_l9 hW | exact NT_r16 hT | exact NT_t16 hT | exact NT_l16 hT) (by first | exact XT_0 hX | exact XT_r4 hX | exact XT_r5 hX | exact NT_0 hT | exact WT_0 hW | exact WT_r8 hW | exact WT_t8 hW | exact WT_l8 hW | exact WT_r9 hW | exact WT_t9 hW | exact WT_l9 hW | exact NT_r16 hT | exact NT_t16 hT | exact NT_l16 hT) (gw_gr at154_8 (by first | exact XT_0 hX | exact XT_r4 hX | exact XT_r5 hX | exact NT_0 hT | exact WT_0 hW | exact WT_r8 hW | exact WT_t8 hW | exact WT_l8 hW | exact WT_r9 hW | exact WT_t9 hW | exact WT_l9 hW | exact NT_r16 hT | exact NT_t16 hT | exact NT_l16 hT) (by first | exact XT_0 hX | exact XT_r4 hX | exact XT_r5 hX | exact NT_0 hT | exact WT_0 hW | exact WT_r8 hW | exact WT_t8 hW | exact WT_l8 hW | exact WT_r9 hW | exact WT_t9 hW | exact WT_l9 hW | exact NT_r16 hT | exact NT_t16 hT | exact NT_l16 hT) (gw_il1 at154_11 (gw_ia at154_12 (by first | exact Or.inl (by first | exact XT_0 hX | exact XT_r4 hX | exact XT_r5 hX | exact NT_0 hT | exact WT_0 hW | exact WT_r8 hW | exact WT_t8 hW | exact WT_l8 hW | exact WT_r9 hW | exact WT_t9 hW | exact WT_l9 hW | exact NT_r16 hT | exact NT_t16 hT | exact NT_l16 hT) | exact Or.inr (by first | exact XT_0 hX | exact XT_r4 hX | exact XT_r5 hX | exact NT_0 hT | exact WT_0 hW | exact WT_r8 hW | exact WT_t8 hW | exact WT_l8 hW | exact WT_r9 hW | exact WT_t9 hW | exact WT_l9 hW | exact NT_r16 hT | exact NT_t16 hT | exact NT_l16 hT)) (by first | exact XT_0 hX | exact XT_r4 hX | exact XT_r5 hX | exact NT_0 hT | exact WT_0 hW | exact WT_r8 hW | exact WT_t8 hW | exact WT_l8 hW | exact WT_r9 hW | exact WT_t9 hW | exact WT_l9 hW | exact NT_r16 hT | exact NT_t16 hT | exact NT_l16 hT) (by first | omega | exact hc _ _ | exact zrg _) (by first | omega | exact hc _ _ | exact zrg _) (by omega) (gw_ri at154_13 am_r154.2.1 ?_)))))
    exact Or.inl ⟨hp1, rfl, rfl⟩
  · refine gK_thr (am_h154 _ (by decide)) ?_
    exact Or.inr ⟨hp1, rfl, rfl⟩
set_option maxHeartbeats 1000000 in
theorem c_x_turnCost {g : Nat} {T : gT} {c J : gC} (hX : XT T) (hT : NT T 100014) (hc : RG c) (hN : NR c 100014) (hW : WT T 100034) (hwn : (T.1 100034).2.2 0 = 100014 + 1) {B : Int} (hR : WR c 100034 B) {z : Int} (hz : -2147483648 ≤ z ∧ z < 2147483648) : gE g 111 7 [.ref 500000, gi z] (gm T c J) (gI (0 ≤ z ∧ z < 4) 1 (c (100014 + 10) z) T c J) := by
  have hn1 := hN.1
  refine gE_mk am_r111 rfl (Or.inr ⟨_, rfl, (by first | exact XT_0 hX | exact XT_r4 hX | exact XT_r5 hX | exact NT_0 hT | exact WT_0 hW | exact WT_r8 hW | exact WT_t8 hW | exact WT_l8 hW | exact WT_r9 hW | exact WT_t9 hW | exact WT_l9 hW | exact NT_r16 hT | exact NT_t16 hT | exact NT_l16 hT)⟩) (fun d hd => ?_)
  show gw d g 111 0 [.ref 500000, gi z] [] _ _
  refine gw_il1 at111_0 ?_
  refine gw_call1 at111_1 (c_ckKind (by omega)) (by omega) (Nat.le_of_ble_eq_true rfl) (fun o M1 q1 => ?_)
  rcases q1 with ⟨hp1, rfl, rfl⟩ | ⟨hp1, rfl, rfl⟩
  · show gw _ _ _ _ _ [] _ _
    refine gw_al0 at111_4 (gw_gr at111_5 (by first | exact XT_0 hX | exact XT_r4 hX | exact XT_r5 hX | exact NT_0 hT | exact WT_0 hW | exact WT_r8 hW | exact WT_t8 hW | exact WT_l8 hW | exact WT_r9 hW | exact WT_t9 hW | exact WT_l9 hW | exact NT_r16 hT | exact NT_t16 hT | exact NT_l16 hT) (by first | exact XT_0 hX | exact XT_r4 hX | exact XT_r5 hX | exact NT_0 hT | exact WT_0 hW | exact WT_r8 hW | exact WT_t8 hW | exact WT_l8 hW | exact WT_r9 hW | exact WT_t9 hW | exact WT_l9 hW | exact NT_r16 hT | exact NT_t16 hT | exact NT_l16 hT) (gw_gr at111_8 (by first | exact XT_0 hX | exact XT_r4 hX | exact XT_r5 hX | exact NT_0 hT | exact WT_0 hW | exact WT_r8 hW | exact WT_t8 hW | exact WT_l8 hW | exact WT_r9 hW | exact WT_t9 hW | exact WT_l9 hW | exact NT_r16 hT | exact NT_t16 hT | exact NT_l16 hT) (by first | exact XT_0 hX | exact XT_r4 hX | exact XT_r5 hX | exact NT_0 hT | exact WT_0 hW | exact WT_r8 hW | exact WT_t8 hW | exact WT_l8 hW | exact WT_r9 hW | exact WT_t9 hW | exact WT_l9 hW | exact NT_r16 hT | exact NT_t16 hT | exact NT_l16 hT) (gw_il1 at111_11 (gw_ia at111_12 (by first | exact Or.inl (by first | exact XT_0 hX | exact XT_r4 hX | exact XT_r5 hX | exact NT_0 hT | exact WT_0 hW | exact WT_r8 hW | exact WT_t8 hW | exact WT_l8 hW | exact WT_r9 hW | exact WT_t9 hW | exact WT_l9 hW | exact NT_r16 hT | exact NT_t16 hT | exact NT_l16 hT) | exact Or.inr (by first | exact XT_0 hX | exact XT_r4 hX | exact XT_r5 hX | exact NT_0 hT | exact WT_0 hW | exact WT_r8 hW | exact WT_t8 hW | exact WT_l8 hW | exact WT_r9 hW | exact WT_t9 hW | exact WT_l9 hW | exact NT_r16 hT | exact NT_t16 hT | exact NT_l16 hT)) (by first | exact XT_0 hX | exact XT_r4 hX | exact XT_r5 hX | exact NT_0 hT | exact WT_0 hW | exact WT_r8 hW | exact WT_t8 hW | exact WT_l8 hW | exact WT_r9 hW | exact WT_t9 hW | exact WT_l9 hW | exact NT_r16 hT | exact NT_t16 hT | exact NT_l16 hT) (by first | omega | exact hc _ _ | exact zrg _) (by first | omega | exact hc _ _ | exact zrg _) (by omega) (gw_ri at111_13 am_r111.2.1 ?_)))))
    exact Or.inl ⟨hp1, rfl, rfl⟩
  · refine gK_thr (am_h111 _ (by decide)) ?_
    exact Or.inr ⟨hp1, rfl, rfl⟩
set_option maxHeartbeats 1000000 in
theorem c_x_reachable {g : Nat} {T : gT} {c J : gC} (hX : XT T) (hT : NT T 100014) (hc : RG c) (hN : NR c 100014) (hW : WT T 100034) (hwn : (T.1 100034).2.2 0 = 100014 + 1) {B : Int} (hR : WR c 100034 B) {z : Int} (hz : -2147483648 ≤ z ∧ z < 2147483648) : gE g 115 7 [.ref 500000, gi z] (gm T c J) (gI (0 ≤ z ∧ z < c 100014 1) 2 (rch c 100014 z (-1)) T c J) := by
  have hn1 := hN.1
  refine gE_mk am_r115 rfl (Or.inr ⟨_, rfl, (by first | exact XT_0 hX | exact XT_r4 hX | exact XT_r5 hX | exact NT_0 hT | exact WT_0 hW | exact WT_r8 hW | exact WT_t8 hW | exact WT_l8 hW | exact WT_r9 hW | exact WT_t9 hW | exact WT_l9 hW | exact NT_r16 hT | exact NT_t16 hT | exact NT_l16 hT)⟩) (fun d hd => ?_)
  show gw d g 115 0 [.ref 500000, gi z] [] _ _
  refine gw_al0 at115_0 (gw_il1 at115_1 ?_)
  refine gw_call2 at115_2 (c_ckNode hX hT hc hN (by omega)) (by omega) (Nat.le_of_ble_eq_true rfl) (fun o M1 q2 => ?_)
  rcases q2 with ⟨hp2, rfl, rfl⟩ | ⟨hp2, rfl, rfl⟩
  · show gw _ _ _ _ _ [] _ _
    refine gw_al0 at115_5 (gw_gr at115_6 (by first | exact XT_0 hX | exact XT_r4 hX | exact XT_r5 hX | exact NT_0 hT | exact WT_0 hW | exact WT_r8 hW | exact WT_t8 hW | exact WT_l8 hW | exact WT_r9 hW | exact WT_t9 hW | exact WT_l9 hW | exact NT_r16 hT | exact NT_t16 hT | exact NT_l16 hT) (by first | exact XT_0 hX | exact XT_r4 hX | exact XT_r5 hX | exact NT_0 hT | exact WT_0 hW | exact WT_r8 hW | exact WT_t8 hW | exact WT_l8 hW | exact WT_r9 hW | exact WT_t9 hW | exact WT_l9 hW | exact NT_r16 hT | exact NT_t16 hT | exact NT_l16 hT) (gw_il1 at115_9 (gw_const at115_10 (gw_callP3 at115_11 (c_reachableFrom hT hc hN (by omega) (by omega)) (by omega) (Nat.le_of_ble_eq_true rfl) (gw_ri at115_14 am_r115.2.1 ?_)))))
    exact Or.inl ⟨hp2, rfl, rfl⟩
  · refine gK_thr (am_h115 _ (by decide)) ?_
    exact Or.inr ⟨hp2, rfl, rfl⟩
set_option maxHeartbeats 1000000 in
theorem c_x_required {g : Nat} {T : gT} {c J : gC} (hX : XT T) (hT : NT T 100014) (hc : RG c) (hN : NR c 100014) (hW : WT T 100034) (hwn : (T.1 100034).2.2 0 = 100014 + 1) {B : Int} (hR : WR c 100034 B) {z : Int} (hz : -2147483648 ≤ z ∧ z < 2147483648) : gE g 122 7 [.ref 500000, gi z] (gm T c J) (gI (1 ≤ z ∧ z ≤ 3) 1 (mskI (fun a => hA c 100014 a && decide (cl c 100014 a ≤ z)) 24) T c J) := by
  have hn1 := hN.1
  refine gE_mk am_r122 rfl (Or.inr ⟨_, rfl, (by first | exact XT_0 hX | exact XT_r4 hX | exact XT_r5 hX | exact NT_0 hT | exact WT_0 hW | exact WT_r8 hW | exact WT_t8 hW | exact WT_l8 hW | exact WT_r9 hW | exact WT_t9 hW | exact WT_l9 hW | exact NT_r16 hT | exact NT_t16 hT | exact NT_l16 hT)⟩) (fun d hd => ?_)
  show gw d g 122 0 [.ref 500000, gi z] [] _ _
  refine gw_il1 at122_0 ?_
  refine gw_call1 at122_1 (c_ckClass (by omega)) (by omega) (Nat.le_of_ble_eq_true rfl) (fun o M1 q1 => ?_)
  rcases q1 with ⟨hp1, rfl, rfl⟩ | ⟨hp1, rfl, rfl⟩
  · show gw _ _ _ _ _ [] _ _
    refine gw_al0 at122_4 (gw_gr at122_5 (by first | exact XT_0 hX | exact XT_r4 hX | exact XT_r5 hX | exact NT_0 hT | exact WT_0 hW | exact WT_r8 hW | exact WT_t8 hW | exact WT_l8 hW | exact WT_r9 hW | exact WT_t9 hW | exact WT_l9 hW | exact NT_r16 hT | exact NT_t16 hT | exact NT_l16 hT) (by first | exact XT_0 hX | exact XT_r4 hX | exact XT_r5 hX | exact NT_0 hT | exact WT_0 hW | exact WT_r8 hW | exact WT_t8 hW | exact WT_l8 hW | exact WT_r9 hW | exact WT_t9 hW | exact WT_l9 hW | exact NT_r16 hT | exact NT_t16 hT | exact NT_l16 hT) (gw_il1 at122_8 (gw_callP2 at122_9 (c_arcsUpTo hT hc hN (by omega)) (by omega) (Nat.le_of_ble_eq_true rfl) (gw_ri at122_12 am_r122.2.1 ?_))))
    exact Or.inl ⟨hp1, rfl, rfl⟩
  · refine gK_thr (am_h122 _ (by decide)) ?_
    exact Or.inr ⟨hp1, rfl, rfl⟩
set_option maxHeartbeats 1000000 in
theorem c_x_deepest {g : Nat} {T : gT} {c J : gC} (hX : XT T) (hT : NT T 100014) (hc : RG c) (hN : NR c 100014) (hW : WT T 100034) (hwn : (T.1 100034).2.2 0 = 100014 + 1) {B : Int} (hR : WR c 100034 B) {z : Int} (hz : -2147483648 ≤ z ∧ z < 2147483648) : gE g 133 7 [.ref 500000, gi z] (gm T c J) (gI (1 ≤ z ∧ z ≤ 3) 1 ((am1 1 (fun a => if tb (mskI (fun a => hA c 100014 a && decide (cl c 100014 a ≤ z)) 24) a = true then -sn c 100034 a 0 else 1) 24).1) T c J) := by
  have hn1 := hN.1
  refine gE_mk am_r133 rfl (Or.inr ⟨_, rfl, (by first | exact XT_0 hX | exact XT_r4 hX | exact XT_r5 hX | exact NT_0 hT | exact WT_0 hW | exact WT_r8 hW | exact WT_t8 hW | exact WT_l8 hW | exact WT_r9 hW | exact WT_t9 hW | exact WT_l9 hW | exact NT_r16 hT | exact NT_t16 hT | exact NT_l16 hT)⟩) (fun d hd => ?_)
  show gw d g 133 0 [.ref 500000, gi z] [] _ _
  refine gw_il1 at133_0 ?_
  refine gw_call1 at133_1 (c_ckClass (by omega)) (by omega) (Nat.le_of_ble_eq_true rfl) (fun o M1 q1 => ?_)
  rcases q1 with ⟨hp1, rfl, rfl⟩ | ⟨hp1, rfl, rfl⟩
  · show gw _ _ _ _ _ [] _ _
    refine gw_al0 at133_4 (gw_gr at133_5 (by first | exact XT_0 hX | exact XT_r4 hX | exact XT_r5 hX | exact NT_0 hT | exact WT_0 hW | exact WT_r8 hW | exact WT_t8 hW | exact WT_l8 hW | exact WT_r9 hW | exact WT_t9 hW | exact WT_l9 hW | exact NT_r16 hT | exact NT_t16 hT | exact NT_l16 hT) (by first | exact XT_0 hX | exact XT_r4 hX | exact XT_r5 hX | exact NT_0 hT | exact WT_0 hW | exact WT_r8 hW | exact WT_t8 hW | exact WT_l8 hW | exact WT_r9 hW | exact WT_t9 hW | exact WT_l9 hW | exact NT_r16 hT | exact NT_t16 hT | exact NT_l16 hT) (gw_al0 at133_8 (gw_gr at133_9 (by first | exact XT_0 hX | exact XT_r4 hX | exact XT_r5 hX | exact NT_0 hT | exact WT_0 hW | exact WT_r8 hW | exact WT_t8 hW | exact WT_l8 hW | exact WT_r9 hW | exact WT_t9 hW | exact WT_l9 hW | exact NT_r16 hT | exact NT_t16 hT | exact NT_l16 hT) (by first | exact XT_0 hX | exact XT_r4 hX | exact XT_r5 hX | exact NT_0 hT | exact WT_0 hW | exact WT_r8 hW | exact WT_t8 hW | exact WT_l8 hW | exact WT_r9 hW | exact WT_t9 hW | exact WT_l9 hW | exact NT_r16 hT | exact NT_t16 hT | exact NT_l16 hT) (gw_il1 at133_12 (gw_callP2 at133_13 (c_arcsUpTo hT hc hN (by omega)) (by omega) (Nat.le_of_ble_eq_true rfl) (gw_const at133_16 (gw_callP3 at133_17 (c_deepestOf hW hc hR (mskI_rg _ _) (by omega)) (by omega) (Nat.le_of_ble_eq_true rfl) (gw_ri at133_20 am_r133.2.1 ?_))))))))
    exact Or.inl ⟨hp1, rfl, rfl⟩
  · refine gK_thr (am_h133 _ (by decide)) ?_
    exact Or.inr ⟨hp1, rfl, rfl⟩
set_option maxHeartbeats 1000000 in
theorem c_x_deepArcs {g : Nat} {T : gT} {c J : gC} (hX : XT T) (hT : NT T 100014) (hc : RG c) (hN : NR c 100014) (hW : WT T 100034) (hwn : (T.1 100034).2.2 0 = 100014 + 1) {B : Int} (hR : WR c 100034 B) {z : Int} (hz : -2147483648 ≤ z ∧ z < 2147483648) : gE g 134 7 [.ref 500000, gi z] (gm T c J) (gI (0 ≤ z ∧ z ≤ 2000) 1 (mskI (fun a => hA c 100014 a && decide (z < sn c 100034 a 0)) 24) T c J) := by
  have hn1 := hN.1
  refine gE_mk am_r134 rfl (Or.inr ⟨_, rfl, (by first | exact XT_0 hX | exact XT_r4 hX | exact XT_r5 hX | exact NT_0 hT | exact WT_0 hW | exact WT_r8 hW | exact WT_t8 hW | exact WT_l8 hW | exact WT_r9 hW | exact WT_t9 hW | exact WT_l9 hW | exact NT_r16 hT | exact NT_t16 hT | exact NT_l16 hT)⟩) (fun d hd => ?_)
  show gw d g 134 0 [.ref 500000, gi z] [] _ _
  refine gw_il1 at134_0 ?_
  refine gw_call1 at134_1 (c_ckDepth (by omega)) (by omega) (Nat.le_of_ble_eq_true rfl) (fun o M1 q1 => ?_)
  rcases q1 with ⟨hp1, rfl, rfl⟩ | ⟨hp1, rfl, rfl⟩
  · show gw _ _ _ _ _ [] _ _
    refine gw_al0 at134_4 (gw_gr at134_5 (by first | exact XT_0 hX | exact XT_r4 hX | exact XT_r5 hX | exact NT_0 hT | exact WT_0 hW | exact WT_r8 hW | exact WT_t8 hW | exact WT_l8 hW | exact WT_r9 hW | exact WT_t9 hW | exact WT_l9 hW | exact NT_r16 hT | exact NT_t16 hT | exact NT_l16 hT) (by first | exact XT_0 hX | exact XT_r4 hX | exact XT_r5 hX | exact NT_0 hT | exact WT_0 hW | exact WT_r8 hW | exact WT_t8 hW | exact WT_l8 hW | exact WT_r9 hW | exact WT_t9 hW | exact WT_l9 hW | exact NT_r16 hT | exact NT_t16 hT | exact NT_l16 hT) (gw_il1 at134_8 (gw_callP2 at134_9 (c_deeperThan hT hN hW hwn hc hR (by omega)) (by omega) (Nat.le_of_ble_eq_true rfl) (gw_ri at134_12 am_r134.2.1 ?_))))
    exact Or.inl ⟨hp1, rfl, rfl⟩
  · refine gK_thr (am_h134 _ (by decide)) ?_
    exact Or.inr ⟨hp1, rfl, rfl⟩
set_option maxHeartbeats 1000000 in
theorem c_x_secondsTo {g : Nat} {T : gT} {c J : gC} (hX : XT T) (hT : NT T 100014) (hc : RG c) (hN : NR c 100014) (hW : WT T 100034) (hwn : (T.1 100034).2.2 0 = 100014 + 1) {B : Int} (hR : WR c 100034 B) {z : Int} (hz : -2147483648 ≤ z ∧ z < 2147483648) {p : Int} (hp : -2147483648 ≤ p ∧ p < 2147483648) : gE g 136 7 [.ref 500000, gi z, gi p] (gm T c J) (gI2 (hA c 100014 z = true) 2 (0 ≤ p ∧ p ≤ 2000) 1 (su c 100034 z p) T c J) := by
  have hn1 := hN.1
  refine gE_mk am_r136 rfl (Or.inr ⟨_, rfl, (by first | exact XT_0 hX | exact XT_r4 hX | exact XT_r5 hX | exact NT_0 hT | exact WT_0 hW | exact WT_r8 hW | exact WT_t8 hW | exact WT_l8 hW | exact WT_r9 hW | exact WT_t9 hW | exact WT_l9 hW | exact NT_r16 hT | exact NT_t16 hT | exact NT_l16 hT)⟩) (fun d hd => ?_)
  show gw d g 136 0 [.ref 500000, gi z, gi p] [] _ _
  refine gw_al0 at136_0 (gw_il1 at136_1 ?_)
  refine gw_call2 at136_2 (c_ckArc hX hT hc hN (by omega)) (by omega) (Nat.le_of_ble_eq_true rfl) (fun o M1 q2 => ?_)
  rcases q2 with ⟨hp2, rfl, rfl⟩ | ⟨hp2, rfl, rfl⟩
  · show gw _ _ _ _ _ [] _ _
    have hr2 := hA_rg hN hp2
    refine gw_il2 at136_5 ?_
    refine gw_call1 at136_6 (c_ckDepth (by omega)) (by omega) (Nat.le_of_ble_eq_true rfl) (fun o M1 q6 => ?_)
    rcases q6 with ⟨hp6, rfl, rfl⟩ | ⟨hp6, rfl, rfl⟩
    · show gw _ _ _ _ _ [] _ _
      refine gw_al0 at136_9 (gw_gr at136_10 (by first | exact XT_0 hX | exact XT_r4 hX | exact XT_r5 hX | exact NT_0 hT | exact WT_0 hW | exact WT_r8 hW | exact WT_t8 hW | exact WT_l8 hW | exact WT_r9 hW | exact WT_t9 hW | exact WT_l9 hW | exact NT_r16 hT | exact NT_t16 hT | exact NT_l16 hT) (by first | exact XT_0 hX | exact XT_r4 hX | exact XT_r5 hX | exact NT_0 hT | exact WT_0 hW | exact WT_r8 hW | exact WT_t8 hW | exact WT_l8 hW | exact WT_r9 hW | exact WT_t9 hW | exact WT_l9 hW | exact NT_r16 hT | exact NT_t16 hT | exact NT_l16 hT) (gw_il1 at136_13 (gw_il2 at136_14 (gw_callP3 at136_15 (c_secondsUntil hW hc hR hr2 (by omega)) (by omega) (Nat.le_of_ble_eq_true rfl) (gw_ri at136_18 am_r136.2.1 ?_)))))
      exact Or.inl ⟨hp2, hp6, rfl, rfl⟩
    · refine gK_thr (am_h136 _ (by decide)) ?_
      exact Or.inr (Or.inl ⟨hp2, hp6, rfl, rfl⟩)
  · refine gK_thr (am_h136 _ (by decide)) ?_
    exact Or.inr (Or.inr ⟨hp2, rfl, rfl⟩)
set_option maxHeartbeats 1000000 in
theorem c_x_depthAfter {g : Nat} {T : gT} {c J : gC} (hX : XT T) (hT : NT T 100014) (hc : RG c) (hN : NR c 100014) (hW : WT T 100034) (hwn : (T.1 100034).2.2 0 = 100014 + 1) {B : Int} (hR : WR c 100034 B) {z : Int} (hz : -2147483648 ≤ z ∧ z < 2147483648) {p : Int} (hp : -2147483648 ≤ p ∧ p < 2147483648) : gE g 138 7 [.ref 500000, gi z, gi p] (gm T c J) (gI2 (hA c 100014 z = true) 2 (0 ≤ p ∧ p ≤ 1000000) 1 (sn c 100034 z p) T c J) := by
  have hn1 := hN.1
  refine gE_mk am_r138 rfl (Or.inr ⟨_, rfl, (by first | exact XT_0 hX | exact XT_r4 hX | exact XT_r5 hX | exact NT_0 hT | exact WT_0 hW | exact WT_r8 hW | exact WT_t8 hW | exact WT_l8 hW | exact WT_r9 hW | exact WT_t9 hW | exact WT_l9 hW | exact NT_r16 hT | exact NT_t16 hT | exact NT_l16 hT)⟩) (fun d hd => ?_)
  show gw d g 138 0 [.ref 500000, gi z, gi p] [] _ _
  refine gw_al0 at138_0 (gw_il1 at138_1 ?_)
  refine gw_call2 at138_2 (c_ckArc hX hT hc hN (by omega)) (by omega) (Nat.le_of_ble_eq_true rfl) (fun o M1 q2 => ?_)
  rcases q2 with ⟨hp2, rfl, rfl⟩ | ⟨hp2, rfl, rfl⟩
  · show gw _ _ _ _ _ [] _ _
    have hr2 := hA_rg hN hp2
    refine gw_il2 at138_5 ?_
    refine gw_call1 at138_6 (c_ckSeconds (by omega)) (by omega) (Nat.le_of_ble_eq_true rfl) (fun o M1 q6 => ?_)
    rcases q6 with ⟨hp6, rfl, rfl⟩ | ⟨hp6, rfl, rfl⟩
    · show gw _ _ _ _ _ [] _ _
      refine gw_al0 at138_9 (gw_gr at138_10 (by first | exact XT_0 hX | exact XT_r4 hX | exact XT_r5 hX | exact NT_0 hT | exact WT_0 hW | exact WT_r8 hW | exact WT_t8 hW | exact WT_l8 hW | exact WT_r9 hW | exact WT_t9 hW | exact WT_l9 hW | exact NT_r16 hT | exact NT_t16 hT | exact NT_l16 hT) (by first | exact XT_0 hX | exact XT_r4 hX | exact XT_r5 hX | exact NT_0 hT | exact WT_0 hW | exact WT_r8 hW | exact WT_t8 hW | exact WT_l8 hW | exact WT_r9 hW | exact WT_t9 hW | exact WT_l9 hW | exact NT_r16 hT | exact NT_t16 hT | exact NT_l16 hT) (gw_il1 at138_13 (gw_il2 at138_14 (gw_callP3 at138_15 (c_snowAfter hW hc hR (by omega) (by omega)) (by omega) (Nat.le_of_ble_eq_true rfl) (gw_ri at138_18 am_r138.2.1 ?_)))))
      exact Or.inl ⟨hp2, hp6, rfl, rfl⟩
    · refine gK_thr (am_h138 _ (by decide)) ?_
      exact Or.inr (Or.inl ⟨hp2, hp6, rfl, rfl⟩)
  · refine gK_thr (am_h138 _ (by decide)) ?_
    exact Or.inr (Or.inr ⟨hp2, rfl, rfl⟩)
set_option maxHeartbeats 1000000 in
theorem c_x_deepestAfter {g : Nat} {T : gT} {c J : gC} (hX : XT T) (hT : NT T 100014) (hc : RG c) (hN : NR c 100014) (hW : WT T 100034) (hwn : (T.1 100034).2.2 0 = 100014 + 1) {B : Int} (hR : WR c 100034 B) {z : Int} (hz : -2147483648 ≤ z ∧ z < 2147483648) {p : Int} (hp : -2147483648 ≤ p ∧ p < 2147483648) : gE g 141 7 [.ref 500000, gi z, gi p] (gm T c J) (gI2 (1 ≤ z ∧ z ≤ 3) 1 (0 ≤ p ∧ p ≤ 1000000) 1 ((am1 1 (fun a => if tb (mskI (fun a => hA c 100014 a && decide (cl c 100014 a ≤ z)) 24) a = true then -sn c 100034 a p else 1) 24).1) T c J) := by
  have hn1 := hN.1
  refine gE_mk am_r141 rfl (Or.inr ⟨_, rfl, (by first | exact XT_0 hX | exact XT_r4 hX | exact XT_r5 hX | exact NT_0 hT | exact WT_0 hW | exact WT_r8 hW | exact WT_t8 hW | exact WT_l8 hW | exact WT_r9 hW | exact WT_t9 hW | exact WT_l9 hW | exact NT_r16 hT | exact NT_t16 hT | exact NT_l16 hT)⟩) (fun d hd => ?_)
  show gw d g 141 0 [.ref 500000, gi z, gi p] [] _ _
  refine gw_il1 at141_0 ?_
  refine gw_call1 at141_1 (c_ckClass (by omega)) (by omega) (Nat.le_of_ble_eq_true rfl) (fun o M1 q1 => ?_)
  rcases q1 with ⟨hp1, rfl, rfl⟩ | ⟨hp1, rfl, rfl⟩
  · show gw _ _ _ _ _ [] _ _
    refine gw_il2 at141_4 ?_
    refine gw_call1 at141_5 (c_ckSeconds (by omega)) (by omega) (Nat.le_of_ble_eq_true rfl) (fun o M1 q5 => ?_)
    rcases q5 with ⟨hp5, rfl, rfl⟩ | ⟨hp5, rfl, rfl⟩
    · show gw _ _ _ _ _ [] _ _
      refine gw_al0 at141_8 (gw_gr at141_9 (by first | exact XT_0 hX | exact XT_r4 hX | exact XT_r5 hX | exact NT_0 hT | exact WT_0 hW | exact WT_r8 hW | exact WT_t8 hW | exact WT_l8 hW | exact WT_r9 hW | exact WT_t9 hW | exact WT_l9 hW | exact NT_r16 hT | exact NT_t16 hT | exact NT_l16 hT) (by first | exact XT_0 hX | exact XT_r4 hX | exact XT_r5 hX | exact NT_0 hT | exact WT_0 hW | exact WT_r8 hW | exact WT_t8 hW | exact WT_l8 hW | exact WT_r9 hW | exact WT_t9 hW | exact WT_l9 hW | exact NT_r16 hT | exact NT_t16 hT | exact NT_l16 hT) (gw_al0 at141_12 (gw_gr at141_13 (by first | exact XT_0 hX | exact XT_r4 hX | exact XT_r5 hX | exact NT_0 hT | exact WT_0 hW | exact WT_r8 hW | exact WT_t8 hW | exact WT_l8 hW | exact WT_r9 hW | exact WT_t9 hW | exact WT_l9 hW | exact NT_r16 hT | exact NT_t16 hT | exact NT_l16 hT) (by first | exact XT_0 hX | exact XT_r4 hX | exact XT_r5 hX | exact NT_0 hT | exact WT_0 hW | exact WT_r8 hW | exact WT_t8 hW | exact WT_l8 hW | exact WT_r9 hW | exact WT_t9 hW | exact WT_l9 hW | exact NT_r16 hT | exact NT_t16 hT | exact NT_l16 hT) (gw_il1 at141_16 (gw_callP2 at141_17 (c_arcsUpTo hT hc hN (by omega)) (by omega) (Nat.le_of_ble_eq_true rfl) (gw_il2 at141_20 (gw_callP3 at141_21 (c_deepestOf hW hc hR (mskI_rg _ _) (by omega)) (by omega) (Nat.le_of_ble_eq_true rfl) (gw_ri at141_24 am_r141.2.1 ?_))))))))
      exact Or.inl ⟨hp1, hp5, rfl, rfl⟩
    · refine gK_thr (am_h141 _ (by decide)) ?_
      exact Or.inr (Or.inl ⟨hp1, hp5, rfl, rfl⟩)
  · refine gK_thr (am_h141 _ (by decide)) ?_
    exact Or.inr (Or.inr ⟨hp1, rfl, rfl⟩)
set_option maxHeartbeats 1000000 in
theorem c_x_strong {g : Nat} {T : gT} {c J : gC} (hX : XT T) (hT : NT T 100014) (hc : RG c) (hN : NR c 100014) (hW : WT T 100034) (hwn : (T.1 100034).2.2 0 = 100014 + 1) {B : Int} (hR : WR c 100034 B) : gE g 116 4 [.ref 500000] (gm T c J) (gR (gi (bi (con c 100014 (-1)))) (gm T c J)) := by
  refine gE_mk am_r116 rfl (Or.inr ⟨_, rfl, (by first | exact XT_0 hX | exact XT_r4 hX | exact XT_r5 hX | exact NT_0 hT | exact WT_0 hW | exact WT_r8 hW | exact WT_t8 hW | exact WT_l8 hW | exact WT_r9 hW | exact WT_t9 hW | exact WT_l9 hW | exact NT_r16 hT | exact NT_t16 hT | exact NT_l16 hT)⟩) (fun d hd => ?_)
  show gw d g 116 0 [.ref 500000] [] _ _
  refine gw_al0 at116_0 (gw_gr at116_1 (by first | exact XT_0 hX | exact XT_r4 hX | exact XT_r5 hX | exact NT_0 hT | exact WT_0 hW | exact WT_r8 hW | exact WT_t8 hW | exact WT_l8 hW | exact WT_r9 hW | exact WT_t9 hW | exact WT_l9 hW | exact NT_r16 hT | exact NT_t16 hT | exact NT_l16 hT) (by first | exact XT_0 hX | exact XT_r4 hX | exact XT_r5 hX | exact NT_0 hT | exact WT_0 hW | exact WT_r8 hW | exact WT_t8 hW | exact WT_l8 hW | exact WT_r9 hW | exact WT_t9 hW | exact WT_l9 hW | exact NT_r16 hT | exact NT_t16 hT | exact NT_l16 hT) (gw_const at116_4 (gw_callP2 at116_5 (c_isConnected hT hc hN (by omega)) (by omega) (Nat.le_of_ble_eq_true rfl) (gw_rb at116_8 am_r116.2.1 (gR_b ?_)))))
  rfl
set_option maxHeartbeats 1000000 in
theorem c_x_arcs {g : Nat} {T : gT} {c J : gC} (hX : XT T) (hT : NT T 100014) (hc : RG c) (hN : NR c 100014) (hW : WT T 100034) (hwn : (T.1 100034).2.2 0 = 100014 + 1) {B : Int} (hR : WR c 100034 B) : gE g 105 3 [.ref 500000] (gm T c J) (gR (gi (mskI (fun a => hA c 100014 a && decide (cl c 100014 a ≤ 3)) 24)) (gm T c J)) := by
  refine gE_mk am_r105 rfl (Or.inr ⟨_, rfl, (by first | exact XT_0 hX | exact XT_r4 hX | exact XT_r5 hX | exact NT_0 hT | exact WT_0 hW | exact WT_r8 hW | exact WT_t8 hW | exact WT_l8 hW | exact WT_r9 hW | exact WT_t9 hW | exact WT_l9 hW | exact NT_r16 hT | exact NT_t16 hT | exact NT_l16 hT)⟩) (fun d hd => ?_)
  show gw d g 105 0 [.ref 500000] [] _ _
  refine gw_al0 at105_0 (gw_gr at105_1 (by first | exact XT_0 hX | exact XT_r4 hX | exact XT_r5 hX | exact NT_0 hT | exact WT_0 hW | exact WT_r8 hW | exact WT_t8 hW | exact WT_l8 hW | exact WT_r9 hW | exact WT_t9 hW | exact WT_l9 hW | exact NT_r16 hT | exact NT_t16 hT | exact NT_l16 hT) (by first | exact XT_0 hX | exact XT_r4 hX | exact XT_r5 hX | exact NT_0 hT | exact WT_0 hW | exact WT_r8 hW | exact WT_t8 hW | exact WT_l8 hW | exact WT_r9 hW | exact WT_t9 hW | exact WT_l9 hW | exact NT_r16 hT | exact NT_t16 hT | exact NT_l16 hT) (gw_const at105_4 (gw_callP2 at105_5 (c_arcsUpTo hT hc hN (by omega)) (by omega) (Nat.le_of_ble_eq_true rfl) (gw_ri at105_8 am_r105.2.1 (gR_i ?_)))))
  rfl
