/-! the class: counts of the parser and of the history -/
set_option maxHeartbeats 1000000 in
theorem c_x_errCode {g : Nat} {T : gT} {c J : gC} (hX : XT T) (hp : (T.1 100032).1 = 13) : gE g 100 0 [.ref 500000] (gm T c J) (gR (gi (c 100032 3)) (gm T c J)) := by
  refine gE_mk am_r100 rfl (Or.inr ⟨_, rfl, (by first | exact XT_0 hX | exact XT_r2 hX | exact hp)⟩) (fun d hd => ?_)
  show gw d g 100 0 [.ref 500000] [] _ _
  refine gw_al0 at100_0 (gw_gr at100_1 (by first | exact XT_0 hX | exact XT_r2 hX | exact hp) (by first | exact XT_0 hX | exact XT_r2 hX | exact hp) (gw_gf (j := 3) at100_4 (by first | exact XT_0 hX | exact XT_r2 hX | exact hp) rfl (gw_ri at100_7 am_r100.2.1 (gR_i ?_))))
  rfl
set_option maxHeartbeats 1000000 in
theorem c_x_errPos {g : Nat} {T : gT} {c J : gC} (hX : XT T) (hp : (T.1 100032).1 = 13) : gE g 101 0 [.ref 500000] (gm T c J) (gR (gi (c 100032 4)) (gm T c J)) := by
  refine gE_mk am_r101 rfl (Or.inr ⟨_, rfl, (by first | exact XT_0 hX | exact XT_r2 hX | exact hp)⟩) (fun d hd => ?_)
  show gw d g 101 0 [.ref 500000] [] _ _
  refine gw_al0 at101_0 (gw_gr at101_1 (by first | exact XT_0 hX | exact XT_r2 hX | exact hp) (by first | exact XT_0 hX | exact XT_r2 hX | exact hp) (gw_gf (j := 4) at101_4 (by first | exact XT_0 hX | exact XT_r2 hX | exact hp) rfl (gw_ri at101_7 am_r101.2.1 (gR_i ?_))))
  rfl
set_option maxHeartbeats 1000000 in
theorem c_x_undoCount {g : Nat} {T : gT} {c J : gC} (hX : XT T) (hp : (T.1 100052).1 = 11) : gE g 158 0 [.ref 500000] (gm T c J) (gR (gi (c 100052 2)) (gm T c J)) := by
  refine gE_mk am_r158 rfl (Or.inr ⟨_, rfl, (by first | exact XT_0 hX | exact XT_r9 hX | exact hp)⟩) (fun d hd => ?_)
  show gw d g 158 0 [.ref 500000] [] _ _
  refine gw_al0 at158_0 (gw_gr at158_1 (by first | exact XT_0 hX | exact XT_r9 hX | exact hp) (by first | exact XT_0 hX | exact XT_r9 hX | exact hp) (gw_gf (j := 2) at158_4 (by first | exact XT_0 hX | exact XT_r9 hX | exact hp) rfl (gw_ri at158_7 am_r158.2.1 (gR_i ?_))))
  rfl
