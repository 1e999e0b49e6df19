/-! the reference: more public readings -/
def imf (c : gC) (b : Nat) (n a s : Int) : Int := if mhA c b a = true then s + ((if mbg c b a = n then 1 else 0) - (if men c b a = n then 1 else 0)) else s
theorem imf_t {c : gC} {b : Nat} {n a s : Int} (h : mhA c b a = true) : imf c b n a s = s + ((if mbg c b a = n then 1 else 0) - (if men c b a = n then 1 else 0)) := if_pos h
theorem imf_f {c : gC} {b : Nat} {n a s : Int} (h : mhA c b a = false) : imf c b n a s = s := if_neg (by rw [h]; exact Bool.false_ne_true)
theorem imf_rg {c : gC} {b : Nat} {n i : Int} (h0 : 0 ≤ i) : -i ≤ itI (imf c b n) 0 i ∧ itI (imf c b n) 0 i ≤ i := by
  refine itI_inv3 (fun k s => -k ≤ s ∧ s ≤ k) (N := i) (by decide) (fun j s h1 h2 hs => ?_) h0 (Int.le_refl _)
  unfold imf
  split
  · split <;> split <;> omega
  · omega
def mfa (c : gC) (b : Nat) (n : Int) : Int := itI (fun k s => max s (min 1000000000 (mcw c b n k))) 0 (c b 0)
theorem mfi2_rg {c : gC} {b : Nat} {n i : Int} (hV : NW c b) (hL : LR c) (h0 : 0 ≤ i) : 0 ≤ itI (fun k s => max s (min 1000000000 (mcw c b n k))) 0 i ∧ itI (fun k s => max s (min 1000000000 (mcw c b n k))) 0 i ≤ 1000000000 := by
  refine itI_inv3 (fun _ s => 0 ≤ s ∧ s ≤ 1000000000) (N := i) (by decide) (fun j s h1 h2 hs => ?_) h0 (Int.le_refl _)
  try dsimp only at hs ⊢
  omega
theorem mfa_rg {c : gC} {b : Nat} {n : Int} (hV : NW c b) (hL : LR c) : 0 ≤ mfa c b n ∧ mfa c b n ≤ 1000000000 := mfi2_rg hV hL hV.1.1.1
def cef (c : gC) (b : Nat) (k s : Int) : Int := if mfa c b k < (if s = -1 then 1000000000 else mfa c b s) then k else s
def nbf (c : gC) (q a : Int) (x : Int × Int) : Int × Int := if tb q a = true ∧ mcf c 200000 (c 200000 6) (c 200000 7) a < x.2 then (a, mcf c 200000 (c 200000 6) (c 200000 7) a) else x
theorem nbf_t {c : gC} {q a : Int} {x : Int × Int} (h : tb q a = true) (h2 : mcf c 200000 (c 200000 6) (c 200000 7) a < x.2) : nbf c q a x = (a, mcf c 200000 (c 200000 6) (c 200000 7) a) := if_pos ⟨h, h2⟩
theorem nbf_f {c : gC} {q a : Int} {x : Int × Int} (h : tb q a = false) : nbf c q a x = x := if_neg fun e => by rw [h] at e; exact absurd e.1 (by decide)
theorem nbf_g {c : gC} {q a : Int} {x : Int × Int} (h : ¬ mcf c 200000 (c 200000 6) (c 200000 7) a < x.2) : nbf c q a x = x := if_neg fun e => h e.2
def mhe (c : gC) (a : Int) : Bool := mhA c 200000 a && decide (mbg c 200000 a = c 200000 6)
def mcr (c : gC) (b : Nat) (n : Int) : Bool := mno c b n && tb (mrc c b (c b 6) (-1)) n
set_option maxHeartbeats 1000000 in
theorem m_x_isCritical {g : Nat} {T : gT} {c J : gC} (hM : MT T 200000) (hc : RG c) (hV : NW c 200000) {r : Int} (hr : -2147483648 ≤ r ∧ r < 2147483648) : gE g 225 4 [.ref 500001, gi r] (gm T c J) (fun o M1 => (mro c 200000 r = true ∧ o = .inl (some (gi (bi (mcn c 200000 (-1) && !mcn c 200000 r)))) ∧ M1 = gm T (tw c 0) J) ∨ (mro c 200000 r = false ∧ o = .inl (some (gi (bi false))) ∧ M1 = gm T (tw c 1) J)) := by
  have t1 : RG (tw c 0) := tw_RG hc (by decide)
  have t0 : tw c 0 200000 = c 200000 := tw_k (by decide)
  have t2 : NW (tw c 0) 200000 := NW_of hV t0
  have v0 := hV.1.1
  have v1 := hV.1.2
  refine gE_mk am_r225 rfl (Or.inr ⟨_, rfl, (by first | exact MT_0 hM | exact MT_now hM | exact MT_bt hM | exact MT_bl hM | exact MT_r0 hM | exact MT_t0 hM | exact MT_l0 hM | exact MT_r1 hM | exact MT_t1 hM | exact MT_l1 hM | exact MT_r2 hM | exact MT_t2 hM | exact MT_l2 hM | exact MT_r3 hM | exact MT_t3 hM | exact MT_l3 hM | exact MT_r4 hM | exact MT_t4 hM | exact MT_l4 hM | exact MT_r5 hM | exact MT_t5 hM | exact MT_l5 hM | exact MT_r6 hM | exact MT_t6 hM | exact MT_l6 hM | exact MT_r7 hM | exact MT_t7 hM | exact MT_l7 hM | exact MT_r8 hM | exact MT_t8 hM | exact MT_l8 hM | exact MT_r9 hM | exact MT_t9 hM | exact MT_l9 hM | exact MT_r10 hM | exact MT_t10 hM | exact MT_l10 hM)⟩) (fun d hd => ?_)
  show gw d g 225 0 [.ref 500001, gi r] [] _ _
  refine gw_al0 at225_0 (gw_al0 at225_1 (gw_il1 at225_2 (gw_callP2 at225_3 (m_isRoad hM hc hV hr) (by omega) (Nat.le_of_ble_eq_true rfl) ?_)))
  refine gw_call2 at225_6 (m_pas1 hM hc (p := mro c 200000 r)) (by omega) (Nat.le_of_ble_eq_true rfl) (fun o M1 q6 => ?_)
  rcases q6 with ⟨hp6, rfl, rfl⟩ | ⟨hp6, rfl, rfl⟩
  · show gw _ _ _ _ _ (gi _ :: _) _ _
    refine gw_zeq at225_9 (by first | omega | exact hc _ _ | exact t1 _ _ | exact bi_rg _ | exact zrg _) (fun q9 => absurd q9 (by decide)) (fun q9 => ?_)
    refine gw_al0 at225_12 (gw_const at225_13 (gw_callP2 at225_14 (m_isConnected hM t1 t2 (by omega)) (by omega) (Nat.le_of_ble_eq_true rfl) ?_))
    rw [mcn_o t0]
    refine gw_beq at225_17 (fun q17 => ?_) (fun q17 => ?_)
    · refine gw_const at225_32 (gw_r0 at225_33 am_r225.2.1 ?_)
      first | exact Or.inr ⟨hp6, rfl, rfl⟩ | exact Or.inl ⟨hp6, by rw [q17, q25]; rfl, rfl⟩ | exact Or.inl ⟨hp6, by rw [q17]; rfl, rfl⟩
    · refine gw_al0 at225_20 (gw_il1 at225_21 (gw_callP2 at225_22 (m_isConnected hM t1 t2 (by omega)) (by omega) (Nat.le_of_ble_eq_true rfl) ?_))
      rw [mcn_o t0]
      refine gw_bne at225_25 (fun q25 => ?_) (fun q25 => ?_)
      · refine gw_const at225_32 (gw_r0 at225_33 am_r225.2.1 ?_)
        first | exact Or.inr ⟨hp6, rfl, rfl⟩ | exact Or.inl ⟨hp6, by rw [q17, q25]; rfl, rfl⟩ | exact Or.inl ⟨hp6, by rw [q17]; rfl, rfl⟩
      · refine gw_const at225_28 (gw_goto at225_29 (gw_r1 at225_33 am_r225.2.1 ?_))
        first | exact Or.inr ⟨hp6, rfl, rfl⟩ | exact Or.inl ⟨hp6, by rw [q17, q25]; rfl, rfl⟩ | exact Or.inl ⟨hp6, by rw [q17]; rfl, rfl⟩
  · show gw _ _ _ _ _ (gi _ :: _) _ _
    refine gw_zeq at225_9 (by first | omega | exact hc _ _ | exact t1 _ _ | exact bi_rg _ | exact zrg _) (fun q9 => ?_) (fun q9 => absurd q9 (by decide))
    refine gw_const at225_32 (gw_r0 at225_33 am_r225.2.1 ?_)
    first | exact Or.inr ⟨hp6, rfl, rfl⟩ | exact Or.inl ⟨hp6, by rw [q17, q25]; rfl, rfl⟩ | exact Or.inl ⟨hp6, by rw [q17]; rfl, rfl⟩
set_option maxHeartbeats 1000000 in
theorem m_x_imbalance {g : Nat} {T : gT} {c J : gC} (hM : MT T 200000) (hc : RG c) (hV : NW c 200000) {n : Int} (hn : -2147483648 ≤ n ∧ n < 2147483648) : gE g 226 2 [.ref 500001, gi n] (gm T c J) (fun o M1 => (mno c 200000 n = true ∧ o = .inl (some (gi (itI (imf (tw c 0) 200000 n) 0 24))) ∧ M1 = gm T (tw c 0) J) ∨ (mno c 200000 n = false ∧ o = .inl (some (gi 0)) ∧ M1 = gm T (tw c 1) J)) := by
  have t1 : RG (tw c 0) := tw_RG hc (by decide)
  have t0 : tw c 0 200000 = c 200000 := tw_k (by decide)
  have t2 : NW (tw c 0) 200000 := NW_of hV t0
  have v0 := hV.1.1
  have v1 := hV.1.2
  refine gE_mk am_r226 rfl (Or.inr ⟨_, rfl, (by first | exact MT_0 hM | exact MT_now hM | exact MT_bt hM | exact MT_bl hM | exact MT_r0 hM | exact MT_t0 hM | exact MT_l0 hM | exact MT_r1 hM | exact MT_t1 hM | exact MT_l1 hM | exact MT_r2 hM | exact MT_t2 hM | exact MT_l2 hM | exact MT_r3 hM | exact MT_t3 hM | exact MT_l3 hM | exact MT_r4 hM | exact MT_t4 hM | exact MT_l4 hM | exact MT_r5 hM | exact MT_t5 hM | exact MT_l5 hM | exact MT_r6 hM | exact MT_t6 hM | exact MT_l6 hM | exact MT_r7 hM | exact MT_t7 hM | exact MT_l7 hM | exact MT_r8 hM | exact MT_t8 hM | exact MT_l8 hM | exact MT_r9 hM | exact MT_t9 hM | exact MT_l9 hM | exact MT_r10 hM | exact MT_t10 hM | exact MT_l10 hM)⟩) (fun d hd => ?_)
  show gw d g 226 0 [.ref 500001, gi n, am_U, am_U] [] _ _
  refine gw_al0 at226_0 (gw_al0 at226_1 (gw_il1 at226_2 (gw_callP2 at226_3 (m_isNode hM hc hV (by omega)) (by omega) (Nat.le_of_ble_eq_true rfl) ?_)))
  refine gw_call2 at226_6 (m_pas1 hM hc (p := mno c 200000 n)) (by omega) (Nat.le_of_ble_eq_true rfl) (fun o M1 q6 => ?_)
  rcases q6 with ⟨hp6, rfl, rfl⟩ | ⟨hp6, rfl, rfl⟩
  · show gw _ _ _ _ _ (gi _ :: _) _ _
    refine gw_zne at226_9 (by first | omega | exact hc _ _ | exact t1 _ _ | exact bi_rg _ | exact zrg _) (fun q9 => ?_) (fun q9 => absurd q9 (by decide))
    refine gw_const at226_14 (gw_is2 at226_15 (h := (gw_const at226_16 (gw_is3 at226_17 (h := ?_)))))
    have lp18 : ∀ i : Int, 0 ≤ i → i ≤ 24 → gw d g 226 18 [.ref 500001, gi n, gi (itI (imf (tw c 0) 200000 n) 0 i), gi i] [] (gm T (tw c 0) J) (fun o M1 => (mno c 200000 n = true ∧ o = .inl (some (gi (itI (imf (tw c 0) 200000 n) 0 24))) ∧ M1 = gm T (tw c 0) J) ∨ (mno c 200000 n = false ∧ o = .inl (some (gi 0)) ∧ M1 = gm T (tw c 1) J)) := by
      refine ind_up 24 ?_
      intro i hi0 hi1 ih
      have hs := imf_rg (c := tw c 0) (b := 200000) (n := n) hi0
      refine gw_il3 at226_18 ?_
      refine gw_bip at226_19 (by decide) ?_
      refine gw_cge at226_21 (by first | omega | exact hc _ _ | exact t1 _ _ | exact bi_rg _ | exact zrg _) (by first | omega | exact hc _ _ | exact t1 _ _ | exact bi_rg _ | exact zrg _) (fun q21 => ?_) (fun q21 => ?_)
      · refine gw_il2 at226_70 (gw_ri at226_71 am_r226.2.1 ?_)
        first
        | exact Or.inr ⟨by first | assumption | (simp [*]; done), rfl, rfl⟩
        | (have e : i = 24 := by omega
           subst e
           exact Or.inl ⟨by first | assumption | (simp [*]; done), rfl, rfl⟩)
      · refine gw_al0 at226_24 (gw_il3 at226_25 (gw_callP2 at226_26 (m_isArc hM t1 t2 (by omega)) (by omega) (Nat.le_of_ble_eq_true rfl) ?_))
        refine gw_beq at226_29 (fun q29 => ?_) (fun q29 => ?_)
        · refine gw_inc3 at226_64 (h := (gw_goto at226_67 ?_))
          have h8 := ih (i + 1) (by omega) (by omega)
          rw [itI_s _ _ hi0] at h8
          first | (rw [imf_f q29] at h8; exact h8) | (rw [imf_t q29] at h8; (first | rw [if_pos (by omega : mbg _ _ _ = _)] at h8 | rw [if_neg (by omega : ¬ mbg _ _ _ = _)] at h8); first | (rw [if_pos (by omega : men _ _ _ = _)] at h8; exact h8) | (rw [if_neg (by omega : ¬ men _ _ _ = _)] at h8; exact h8))
        · have hb9 := mbg_rg t2 (show 0 ≤ i ∧ i < 24 by omega)
          have he9 := men_rg t2 (show 0 ≤ i ∧ i < 24 by omega)
          refine gw_il2 at226_32 (gw_al0 at226_33 (gw_il3 at226_34 (gw_callP2 at226_35 (m_startOf hM t1 t2 (by omega)) (by omega) (Nat.le_of_ble_eq_true rfl) (gw_il1 at226_38 ?_))))
          refine gw_cne at226_39 (by first | omega | exact hc _ _ | exact t1 _ _ | exact bi_rg _ | exact zrg _) (by first | omega | exact hc _ _ | exact t1 _ _ | exact bi_rg _ | exact zrg _) (fun q39 => ?_) (fun q39 => ?_)
          · refine gw_const at226_46 (gw_al0 at226_47 (gw_il3 at226_48 (gw_callP2 at226_49 (m_endOf hM t1 t2 (by omega)) (by omega) (Nat.le_of_ble_eq_true rfl) (gw_il1 at226_52 ?_))))
            refine gw_cne at226_53 (by first | omega | exact hc _ _ | exact t1 _ _ | exact bi_rg _ | exact zrg _) (by first | omega | exact hc _ _ | exact t1 _ _ | exact bi_rg _ | exact zrg _) (fun q53 => ?_) (fun q53 => ?_)
            · refine gw_const at226_60 (gw_isub at226_61 (gw_iadd at226_62 (gw_is2 at226_63 (h := (gw_inc3 at226_64 (h := (gw_goto at226_67 ?_)))))))
              have h8 := ih (i + 1) (by omega) (by omega)
              rw [itI_s _ _ hi0] at h8
              first | (rw [imf_f q29] at h8; exact h8) | (rw [imf_t q29] at h8; (first | rw [if_pos (by omega : mbg _ _ _ = _)] at h8 | rw [if_neg (by omega : ¬ mbg _ _ _ = _)] at h8); first | (rw [if_pos (by omega : men _ _ _ = _)] at h8; exact h8) | (rw [if_neg (by omega : ¬ men _ _ _ = _)] at h8; exact h8))
            · refine gw_const at226_56 (gw_goto at226_57 (gw_isub at226_61 (gw_iadd at226_62 (gw_is2 at226_63 (h := (gw_inc3 at226_64 (h := (gw_goto at226_67 ?_))))))))
              have h8 := ih (i + 1) (by omega) (by omega)
              rw [itI_s _ _ hi0] at h8
              first | (rw [imf_f q29] at h8; exact h8) | (rw [imf_t q29] at h8; (first | rw [if_pos (by omega : mbg _ _ _ = _)] at h8 | rw [if_neg (by omega : ¬ mbg _ _ _ = _)] at h8); first | (rw [if_pos (by omega : men _ _ _ = _)] at h8; exact h8) | (rw [if_neg (by omega : ¬ men _ _ _ = _)] at h8; exact h8))
          · refine gw_const at226_42 (gw_goto at226_43 (gw_al0 at226_47 (gw_il3 at226_48 (gw_callP2 at226_49 (m_endOf hM t1 t2 (by omega)) (by omega) (Nat.le_of_ble_eq_true rfl) (gw_il1 at226_52 ?_)))))
            refine gw_cne at226_53 (by first | omega | exact hc _ _ | exact t1 _ _ | exact bi_rg _ | exact zrg _) (by first | omega | exact hc _ _ | exact t1 _ _ | exact bi_rg _ | exact zrg _) (fun q53 => ?_) (fun q53 => ?_)
            · refine gw_const at226_60 (gw_isub at226_61 (gw_iadd at226_62 (gw_is2 at226_63 (h := (gw_inc3 at226_64 (h := (gw_goto at226_67 ?_)))))))
              have h8 := ih (i + 1) (by omega) (by omega)
              rw [itI_s _ _ hi0] at h8
              first | (rw [imf_f q29] at h8; exact h8) | (rw [imf_t q29] at h8; (first | rw [if_pos (by omega : mbg _ _ _ = _)] at h8 | rw [if_neg (by omega : ¬ mbg _ _ _ = _)] at h8); first | (rw [if_pos (by omega : men _ _ _ = _)] at h8; exact h8) | (rw [if_neg (by omega : ¬ men _ _ _ = _)] at h8; exact h8))
            · refine gw_const at226_56 (gw_goto at226_57 (gw_isub at226_61 (gw_iadd at226_62 (gw_is2 at226_63 (h := (gw_inc3 at226_64 (h := (gw_goto at226_67 ?_))))))))
              have h8 := ih (i + 1) (by omega) (by omega)
              rw [itI_s _ _ hi0] at h8
              first | (rw [imf_f q29] at h8; exact h8) | (rw [imf_t q29] at h8; (first | rw [if_pos (by omega : mbg _ _ _ = _)] at h8 | rw [if_neg (by omega : ¬ mbg _ _ _ = _)] at h8); first | (rw [if_pos (by omega : men _ _ _ = _)] at h8; exact h8) | (rw [if_neg (by omega : ¬ men _ _ _ = _)] at h8; exact h8))
    exact lp18 0 (by omega) (by omega)
  · show gw _ _ _ _ _ (gi _ :: _) _ _
    refine gw_zne at226_9 (by first | omega | exact hc _ _ | exact t1 _ _ | exact bi_rg _ | exact zrg _) (fun q9 => absurd q9 (by decide)) (fun q9 => ?_)
    refine gw_const at226_12 (gw_ri at226_13 am_r226.2.1 ?_)
    first
    | exact Or.inr ⟨by first | assumption | (simp [*]; done), rfl, rfl⟩
    | (have e : i = 24 := by omega
       subst e
       exact Or.inl ⟨by first | assumption | (simp [*]; done), rfl, rfl⟩)
set_option maxHeartbeats 1000000 in
theorem m_farthest {g : Nat} {T : gT} {c J : gC} {b : Nat} (hM : MT T b) (hc : RG c) (hV : NW c b) (hL : LR c) {n : Int} (hn : -2147483648 ≤ n ∧ n < 2147483648) : gE g 228 7 [.ref 500001, gi n] (gm T c J) (gR (gi (mfa c b n)) (gm T c J)) := by
  have v0 := hV.1.1
  refine gE_mk am_r228 rfl (Or.inr ⟨_, rfl, (by first | exact MT_0 hM | exact MT_now hM | exact MT_bt hM | exact MT_bl hM | exact MT_r0 hM | exact MT_t0 hM | exact MT_l0 hM | exact MT_r1 hM | exact MT_t1 hM | exact MT_l1 hM | exact MT_r2 hM | exact MT_t2 hM | exact MT_l2 hM | exact MT_r3 hM | exact MT_t3 hM | exact MT_l3 hM | exact MT_r4 hM | exact MT_t4 hM | exact MT_l4 hM | exact MT_r5 hM | exact MT_t5 hM | exact MT_l5 hM | exact MT_r6 hM | exact MT_t6 hM | exact MT_l6 hM | exact MT_r7 hM | exact MT_t7 hM | exact MT_l7 hM | exact MT_r8 hM | exact MT_t8 hM | exact MT_l8 hM | exact MT_r9 hM | exact MT_t9 hM | exact MT_l9 hM | exact MT_r10 hM | exact MT_t10 hM | exact MT_l10 hM)⟩) (fun d hd => ?_)
  show gw d g 228 0 [.ref 500001, gi n, am_U, am_U] [] _ _
  refine gw_const at228_0 (gw_is2 at228_1 (h := (gw_const at228_2 (gw_is3 at228_3 (h := ?_)))))
  have lp4 : ∀ i : Int, 0 ≤ i → i ≤ 10 → i ≤ c b 0 → gw d g 228 4 [.ref 500001, gi n, gi (itI (fun k s => max s (min 1000000000 (mcw c b n k))) 0 i), gi i] [] (gm T c J) (gR (gi (mfa c b n)) (gm T c J)) := by
    refine ind_up 10 ?_
    intro i hi0 hi1 ih hi2
    have hs := mfi2_rg (n := n) hV hL hi0
    refine gw_il3 at228_4 ?_
    refine gw_al0 at228_5 (gw_gr at228_6 (by first | exact MT_0 hM | exact MT_now hM | exact MT_bt hM | exact MT_bl hM | exact MT_r0 hM | exact MT_t0 hM | exact MT_l0 hM | exact MT_r1 hM | exact MT_t1 hM | exact MT_l1 hM | exact MT_r2 hM | exact MT_t2 hM | exact MT_l2 hM | exact MT_r3 hM | exact MT_t3 hM | exact MT_l3 hM | exact MT_r4 hM | exact MT_t4 hM | exact MT_l4 hM | exact MT_r5 hM | exact MT_t5 hM | exact MT_l5 hM | exact MT_r6 hM | exact MT_t6 hM | exact MT_l6 hM | exact MT_r7 hM | exact MT_t7 hM | exact MT_l7 hM | exact MT_r8 hM | exact MT_t8 hM | exact MT_l8 hM | exact MT_r9 hM | exact MT_t9 hM | exact MT_l9 hM | exact MT_r10 hM | exact MT_t10 hM | exact MT_l10 hM) (by first | exact MT_0 hM | exact MT_now hM | exact MT_bt hM | exact MT_bl hM | exact MT_r0 hM | exact MT_t0 hM | exact MT_l0 hM | exact MT_r1 hM | exact MT_t1 hM | exact MT_l1 hM | exact MT_r2 hM | exact MT_t2 hM | exact MT_l2 hM | exact MT_r3 hM | exact MT_t3 hM | exact MT_l3 hM | exact MT_r4 hM | exact MT_t4 hM | exact MT_l4 hM | exact MT_r5 hM | exact MT_t5 hM | exact MT_l5 hM | exact MT_r6 hM | exact MT_t6 hM | exact MT_l6 hM | exact MT_r7 hM | exact MT_t7 hM | exact MT_l7 hM | exact MT_r8 hM | exact MT_t8 hM | exact MT_l8 hM | exact MT_r9 hM | exact MT_t9 hM | exact MT_l9 hM | exact MT_r10 hM | exact MT_t10 hM | exact MT_l10 hM) (gw_const at228_9 (gw_ia at228_10 (by first | exact Or.inl (by first | exact MT_0 hM | exact MT_now hM | exact MT_bt hM | exact MT_bl hM | exact MT_r0 hM | exact MT_t0 hM | exact MT_l0 hM | exact MT_r1 hM | exact MT_t1 hM | exact MT_l1 hM | exact MT_r2 hM | exact MT_t2 hM | exact MT_l2 hM | exact MT_r3 hM | exact MT_t3 hM | exact MT_l3 hM | exact MT_r4 hM | exact MT_t4 hM | exact MT_l4 hM | exact MT_r5 hM | exact MT_t5 hM | exact MT_l5 hM | exact MT_r6 hM | exact MT_t6 hM | exact MT_l6 hM | exact MT_r7 hM | exact MT_t7 hM | exact MT_l7 hM | exact MT_r8 hM | exact MT_t8 hM | exact MT_l8 hM | exact MT_r9 hM | exact MT_t9 hM | exact MT_l9 hM | exact MT_r10 hM | exact MT_t10 hM | exact MT_l10 hM) | exact Or.inr (by first | exact MT_0 hM | exact MT_now hM | exact MT_bt hM | exact MT_bl hM | exact MT_r0 hM | exact MT_t0 hM | exact MT_l0 hM | exact MT_r1 hM | exact MT_t1 hM | exact MT_l1 hM | exact MT_r2 hM | exact MT_t2 hM | exact MT_l2 hM | exact MT_r3 hM | exact MT_t3 hM | exact MT_l3 hM | exact MT_r4 hM | exact MT_t4 hM | exact MT_l4 hM | exact MT_r5 hM | exact MT_t5 hM | exact MT_l5 hM | exact MT_r6 hM | exact MT_t6 hM | exact MT_l6 hM | exact MT_r7 hM | exact MT_t7 hM | exact MT_l7 hM | exact MT_r8 hM | exact MT_t8 hM | exact MT_l8 hM | exact MT_r9 hM | exact MT_t9 hM | exact MT_l9 hM | exact MT_r10 hM | exact MT_t10 hM | exact MT_l10 hM)) (by first | exact MT_0 hM | exact MT_now hM | exact MT_bt hM | exact MT_bl hM | exact MT_r0 hM | exact MT_t0 hM | exact MT_l0 hM | exact MT_r1 hM | exact MT_t1 hM | exact MT_l1 hM | exact MT_r2 hM | exact MT_t2 hM | exact MT_l2 hM | exact MT_r3 hM | exact MT_t3 hM | exact MT_l3 hM | exact MT_r4 hM | exact MT_t4 hM | exact MT_l4 hM | exact MT_r5 hM | exact MT_t5 hM | exact MT_l5 hM | exact MT_r6 hM | exact MT_t6 hM | exact MT_l6 hM | exact MT_r7 hM | exact MT_t7 hM | exact MT_l7 hM | exact MT_r8 hM | exact MT_t8 hM | exact MT_l8 hM | exact MT_r9 hM | exact MT_t9 hM | exact MT_l9 hM | exact MT_r10 hM | exact MT_t10 hM | exact MT_l10 hM) (by first | omega | exact hc _ _ | (have := mcw_rg (f := n) (t := i) hV hL hi0; omega)) (by first | omega | exact hc _ _ | (have := mcw_rg (f := n) (t := i) hV hL hi0; omega)) (by omega) ?_)))
    refine gw_cge at228_11 (by first | omega | exact hc _ _ | (have := mcw_rg (f := n) (t := i) hV hL hi0; omega)) (by first | omega | exact hc _ _ | (have := mcw_rg (f := n) (t := i) hV hL hi0; omega)) (fun q11 => ?_) (fun q11 => ?_)
    · refine gw_il2 at228_36 (gw_ri at228_37 am_r228.2.1 (gR_i ?_))
      have e : c b 0 = i := by omega
      unfold mfa
      rw [e]
    · refine gw_il2 at228_14 (gw_ldc (z := 1000000000) at228_15 (by decide) (gw_al0 at228_17 (gw_il1 at228_18 (gw_il3 at228_19 (gw_callP3 at228_20 (m_costBetween hM hc hV hL hn (by omega)) (by omega) (Nat.le_of_ble_eq_true rfl) (gw_min at228_23 (by first | omega | exact hc _ _ | (have := mcw_rg (f := n) (t := i) hV hL hi0; omega)) (by first | omega | exact hc _ _ | (have := mcw_rg (f := n) (t := i) hV hL hi0; omega)) (Nat.le_of_ble_eq_true rfl) (gw_max at228_26 (by first | omega | exact hc _ _ | (have := mcw_rg (f := n) (t := i) hV hL hi0; omega)) (by first | omega | exact hc _ _ | (have := mcw_rg (f := n) (t := i) hV hL hi0; omega)) (Nat.le_of_ble_eq_true rfl) (gw_is2 at228_29 (h := (gw_inc3 at228_30 (h := (gw_goto at228_33 ?_))))))))))))
      have h8 := ih (i + 1) (by omega) (by omega) (by omega)
      rw [itI_s _ _ hi0] at h8
      exact h8
  exact lp4 0 (by omega) (by omega) (by omega)
set_option maxHeartbeats 1000000 in
theorem m_x_eccentricity {g : Nat} {T : gT} {c J : gC} (hM : MT T 200000) (hc : RG c) (hV : NW c 200000) {n : Int} (hn : -2147483648 ≤ n ∧ n < 2147483648) : gE g 229 8 [.ref 500001, gi n] (gm T c J) (fun o M1 => (mno c 200000 n = true ∧ o = .inl (some (gi (mtl (mfa (mll (tw c 0) 200000) 200000 n)))) ∧ M1 = gm T (mll (tw c 0) 200000) J) ∨ (mno c 200000 n = false ∧ o = .inl (some (gi 0)) ∧ M1 = gm T (tw c 1) J)) := by
  have t1 : RG (tw c 0) := tw_RG hc (by decide)
  have t0 : tw c 0 200000 = c 200000 := tw_k (by decide)
  have t2 : NW (tw c 0) 200000 := NW_of hV t0
  have v0 := hV.1.1
  have v1 := hV.1.2
  obtain ⟨⟨g1, g2⟩, g3⟩ := mll_ok t1 t2
  have g0 : mll (tw c 0) 200000 200000 = c 200000 := by rw [g2 200000 (by decide), t0]
  have g4 : NW (mll (tw c 0) 200000) 200000 := NW_of hV g0
  refine gE_mk am_r229 rfl (Or.inr ⟨_, rfl, (by first | exact MT_0 hM | exact MT_now hM | exact MT_bt hM | exact MT_bl hM | exact MT_r0 hM | exact MT_t0 hM | exact MT_l0 hM | exact MT_r1 hM | exact MT_t1 hM | exact MT_l1 hM | exact MT_r2 hM | exact MT_t2 hM | exact MT_l2 hM | exact MT_r3 hM | exact MT_t3 hM | exact MT_l3 hM | exact MT_r4 hM | exact MT_t4 hM | exact MT_l4 hM | exact MT_r5 hM | exact MT_t5 hM | exact MT_l5 hM | exact MT_r6 hM | exact MT_t6 hM | exact MT_l6 hM | exact MT_r7 hM | exact MT_t7 hM | exact MT_l7 hM | exact MT_r8 hM | exact MT_t8 hM | exact MT_l8 hM | exact MT_r9 hM | exact MT_t9 hM | exact MT_l9 hM | exact MT_r10 hM | exact MT_t10 hM | exact MT_l10 hM)⟩) (fun d hd => ?_)
  show gw d g 229 0 [.ref 500001, gi n] [] _ _
  refine gw_al0 at229_0 (gw_al0 at229_1 (gw_il1 at229_2 (gw_callP2 at229_3 (m_isNode hM hc hV (by omega)) (by omega) (Nat.le_of_ble_eq_true rfl) ?_)))
  refine gw_call2 at229_6 (m_pas1 hM hc (p := mno c 200000 n)) (by omega) (Nat.le_of_ble_eq_true rfl) (fun o M1 q6 => ?_)
  rcases q6 with ⟨hp6, rfl, rfl⟩ | ⟨hp6, rfl, rfl⟩
  · show gw _ _ _ _ _ (gi _ :: _) _ _
    refine gw_zne at229_9 (by first | omega | exact hc _ _ | exact t1 _ _ | exact bi_rg _ | exact zrg _) (fun q9 => ?_) (fun q9 => absurd q9 (by decide))
    refine gw_al0 at229_14 ?_
    refine gw_call1 at229_15 (m_layLeast hM t1 t2) (by omega) (Nat.le_of_ble_eq_true rfl) (fun o M1 q15 => ?_)
    obtain ⟨rfl, rfl⟩ := q15
    show gw _ _ _ _ _ _ _ _
    refine gw_al0 at229_18 (gw_il1 at229_19 (gw_callP2 at229_20 (m_farthest hM g1 g4 g3 hn) (by omega) (Nat.le_of_ble_eq_true rfl) (gw_callP1 at229_23 (m_told (by have := mfa_rg (n := n) g4 g3; omega)) (by omega) (Nat.le_of_ble_eq_true rfl) (gw_ri at229_26 am_r229.2.1 ?_))))
    first
    | (have hh : mno c 200000 n = true := by first | assumption | (simp [*]; done)
       exact Or.inl ⟨hh, by first | rfl | simp only [mhA_o t0, mbg_o t0, men_o t0, mln_o t0, mcl_o t0, mkd_o t0, mct_o t0, mrc_o t0, mcn_o t0, mrq_o t0, mno_o t0, mro_o t0, mfo_o t0], rfl⟩)
    | exact Or.inr ⟨by first | assumption | (simp [*]; done), rfl, rfl⟩
  · show gw _ _ _ _ _ (gi _ :: _) _ _
    refine gw_zne at229_9 (by first | omega | exact hc _ _ | exact t1 _ _ | exact bi_rg _ | exact zrg _) (fun q9 => absurd q9 (by decide)) (fun q9 => ?_)
    refine gw_const at229_12 (gw_ri at229_13 am_r229.2.1 ?_)
    first
    | (have hh : mno c 200000 n = true := by first | assumption | (simp [*]; done)
       exact Or.inl ⟨hh, by first | rfl | simp only [mhA_o t0, mbg_o t0, men_o t0, mln_o t0, mcl_o t0, mkd_o t0, mct_o t0, mrc_o t0, mcn_o t0, mrq_o t0, mno_o t0, mro_o t0, mfo_o t0], rfl⟩)
    | exact Or.inr ⟨by first | assumption | (simp [*]; done), rfl, rfl⟩
set_option maxHeartbeats 1000000 in
theorem m_x_centre {g : Nat} {T : gT} {c J : gC} (hM : MT T 200000) (hc : RG c) (hV : NW c 200000) : gE g 230 8 [.ref 500001] (gm T c J) (fun o M1 => o = .inl (some (gi (itI (cef (mll (tw c 0) 200000) 200000) (-1) (c 200000 0)))) ∧ M1 = gm T (mll (tw c 0) 200000) J) := by
  have t1 : RG (tw c 0) := tw_RG hc (by decide)
  have t0 : tw c 0 200000 = c 200000 := tw_k (by decide)
  have t2 : NW (tw c 0) 200000 := NW_of hV t0
  have v0 := hV.1.1
  have v1 := hV.1.2
  obtain ⟨⟨g1, g2⟩, g3⟩ := mll_ok t1 t2
  have g0 : mll (tw c 0) 200000 200000 = c 200000 := by rw [g2 200000 (by decide), t0]
  have g4 : NW (mll (tw c 0) 200000) 200000 := NW_of hV g0
  refine gE_mk am_r230 rfl (Or.inr ⟨_, rfl, (by first | exact MT_0 hM | exact MT_now hM | exact MT_bt hM | exact MT_bl hM | exact MT_r0 hM | exact MT_t0 hM | exact MT_l0 hM | exact MT_r1 hM | exact MT_t1 hM | exact MT_l1 hM | exact MT_r2 hM | exact MT_t2 hM | exact MT_l2 hM | exact MT_r3 hM | exact MT_t3 hM | exact MT_l3 hM | exact MT_r4 hM | exact MT_t4 hM | exact MT_l4 hM | exact MT_r5 hM | exact MT_t5 hM | exact MT_l5 hM | exact MT_r6 hM | exact MT_t6 hM | exact MT_l6 hM | exact MT_r7 hM | exact MT_t7 hM | exact MT_l7 hM | exact MT_r8 hM | exact MT_t8 hM | exact MT_l8 hM | exact MT_r9 hM | exact MT_t9 hM | exact MT_l9 hM | exact MT_r10 hM | exact MT_t10 hM | exact MT_l10 hM)⟩) (fun d hd => ?_)
  show gw d g 230 0 [.ref 500001, am_U, am_U] [] _ _
  refine gw_al0 at230_0 (gw_const at230_1 (gw_pf (j := 0) at230_2 (by first | exact MT_0 hM | exact MT_now hM | exact MT_bt hM | exact MT_bl hM | exact MT_r0 hM | exact MT_t0 hM | exact MT_l0 hM | exact MT_r1 hM | exact MT_t1 hM | exact MT_l1 hM | exact MT_r2 hM | exact MT_t2 hM | exact MT_l2 hM | exact MT_r3 hM | exact MT_t3 hM | exact MT_l3 hM | exact MT_r4 hM | exact MT_t4 hM | exact MT_l4 hM | exact MT_r5 hM | exact MT_t5 hM | exact MT_l5 hM | exact MT_r6 hM | exact MT_t6 hM | exact MT_l6 hM | exact MT_r7 hM | exact MT_t7 hM | exact MT_l7 hM | exact MT_r8 hM | exact MT_t8 hM | exact MT_l8 hM | exact MT_r9 hM | exact MT_t9 hM | exact MT_l9 hM | exact MT_r10 hM | exact MT_t10 hM | exact MT_l10 hM) rfl ?_))
  show gw _ _ _ _ _ _ (gm T (tw c 0) J) _
  refine gw_al0 at230_5 ?_
  refine gw_call1 at230_6 (m_layLeast hM t1 t2) (by omega) (Nat.le_of_ble_eq_true rfl) (fun o M1 q6 => ?_)
  obtain ⟨rfl, rfl⟩ := q6
  show gw _ _ _ _ _ _ _ _
  refine gw_const at230_9 (gw_is1 at230_10 (h := (gw_const at230_11 (gw_is2 at230_12 (h := ?_)))))
  have lp13 : ∀ i : Int, 0 ≤ i → i ≤ 10 → i ≤ c 200000 0 → gw d g 230 13 [.ref 500001, gi (itI (cef (mll (tw c 0) 200000) 200000) (-1) i), gi i] [] (gm T (mll (tw c 0) 200000) J) (fun o M1 => o = .inl (some (gi (itI (cef (mll (tw c 0) 200000) 200000) (-1) (c 200000 0)))) ∧ M1 = gm T (mll (tw c 0) 200000) J) := by
    refine ind_up 10 ?_
    intro i hi0 hi1 ih hi2
    have hk : -1 ≤ itI (cef (mll (tw c 0) 200000) 200000) (-1) i ∧ itI (cef (mll (tw c 0) 200000) 200000) (-1) i < 10 := by
      refine itI_inv2 (fun s : Int => -1 ≤ s ∧ s < 10) (N := 10) (by decide) (fun j s a1 a2 hs => ?_) hi1
      unfold cef
      split <;> omega
    refine gw_il2 at230_13 ?_
    refine gw_al0 at230_14 (gw_gr at230_15 (by first | exact MT_0 hM | exact MT_now hM | exact MT_bt hM | exact MT_bl hM | exact MT_r0 hM | exact MT_t0 hM | exact MT_l0 hM | exact MT_r1 hM | exact MT_t1 hM | exact MT_l1 hM | exact MT_r2 hM | exact MT_t2 hM | exact MT_l2 hM | exact MT_r3 hM | exact MT_t3 hM | exact MT_l3 hM | exact MT_r4 hM | exact MT_t4 hM | exact MT_l4 hM | exact MT_r5 hM | exact MT_t5 hM | exact MT_l5 hM | exact MT_r6 hM | exact MT_t6 hM | exact MT_l6 hM | exact MT_r7 hM | exact MT_t7 hM | exact MT_l7 hM | exact MT_r8 hM | exact MT_t8 hM | exact MT_l8 hM | exact MT_r9 hM | exact MT_t9 hM | exact MT_l9 hM | exact MT_r10 hM | exact MT_t10 hM | exact MT_l10 hM) (by first | exact MT_0 hM | exact MT_now hM | exact MT_bt hM | exact MT_bl hM | exact MT_r0 hM | exact MT_t0 hM | exact MT_l0 hM | exact MT_r1 hM | exact MT_t1 hM | exact MT_l1 hM | exact MT_r2 hM | exact MT_t2 hM | exact MT_l2 hM | exact MT_r3 hM | exact MT_t3 hM | exact MT_l3 hM | exact MT_r4 hM | exact MT_t4 hM | exact MT_l4 hM | exact MT_r5 hM | exact MT_t5 hM | exact MT_l5 hM | exact MT_r6 hM | exact MT_t6 hM | exact MT_l6 hM | exact MT_r7 hM | exact MT_t7 hM | exact MT_l7 hM | exact MT_r8 hM | exact MT_t8 hM | exact MT_l8 hM | exact MT_r9 hM | exact MT_t9 hM | exact MT_l9 hM | exact MT_r10 hM | exact MT_t10 hM | exact MT_l10 hM) (gw_const at230_18 (gw_ia at230_19 (by first | exact Or.inl (by first | exact MT_0 hM | exact MT_now hM | exact MT_bt hM | exact MT_bl hM | exact MT_r0 hM | exact MT_t0 hM | exact MT_l0 hM | exact MT_r1 hM | exact MT_t1 hM | exact MT_l1 hM | exact MT_r2 hM | exact MT_t2 hM | exact MT_l2 hM | exact MT_r3 hM | exact MT_t3 hM | exact MT_l3 hM | exact MT_r4 hM | exact MT_t4 hM | exact MT_l4 hM | exact MT_r5 hM | exact MT_t5 hM | exact MT_l5 hM | exact MT_r6 hM | exact MT_t6 hM | exact MT_l6 hM | exact MT_r7 hM | exact MT_t7 hM | exact MT_l7 hM | exact MT_r8 hM | exact MT_t8 hM | exact MT_l8 hM | exact MT_r9 hM | exact MT_t9 hM | exact MT_l9 hM | exact MT_r10 hM | exact MT_t10 hM | exact MT_l10 hM) | exact Or.inr (by first | exact MT_0 hM | exact MT_now hM | exact MT_bt hM | exact MT_bl hM | exact MT_r0 hM | exact MT_t0 hM | exact MT_l0 hM | exact MT_r1 hM | exact MT_t1 hM | exact MT_l1 hM | exact MT_r2 hM | exact MT_t2 hM | exact MT_l2 hM | exact MT_r3 hM | exact MT_t3 hM | exact MT_l3 hM | exact MT_r4 hM | exact MT_t4 hM | exact MT_l4 hM | exact MT_r5 hM | exact MT_t5 hM | exact MT_l5 hM | exact MT_r6 hM | exact MT_t6 hM | exact MT_l6 hM | exact MT_r7 hM | exact MT_t7 hM | exact MT_l7 hM | exact MT_r8 hM | exact MT_t8 hM | exact MT_l8 hM | exact MT_r9 hM | exact MT_t9 hM | exact MT_l9 hM | exact MT_r10 hM | exact MT_t10 hM | exact MT_l10 hM)) (by first | exact MT_0 hM | exact MT_now hM | exact MT_bt hM | exact MT_bl hM | exact MT_r0 hM | exact MT_t0 hM | exact MT_l0 hM | exact MT_r1 hM | exact MT_t1 hM | exact MT_l1 hM | exact MT_r2 hM | exact MT_t2 hM | exact MT_l2 hM | exact MT_r3 hM | exact MT_t3 hM | exact MT_l3 hM | exact MT_r4 hM | exact MT_t4 hM | exact MT_l4 hM | exact MT_r5 hM | exact MT_t5 hM | exact MT_l5 hM | exact MT_r6 hM | exact MT_t6 hM | exact MT_l6 hM | exact MT_r7 hM | exact MT_t7 hM | exact MT_l7 hM | exact MT_r8 hM | exact MT_t8 hM | exact MT_l8 hM | exact MT_r9 hM | exact MT_t9 hM | exact MT_l9 hM | exact MT_r10 hM | exact MT_t10 hM | exact MT_l10 hM) (by first | omega | (have := mfa_rg (n := i) g4 g3; have := mfa_rg (n := itI (cef (mll (tw c 0) 200000) 200000) (-1) i) g4 g3; omega) | exact g1 _ _) (by first | omega | (have := mfa_rg (n := i) g4 g3; have := mfa_rg (n := itI (cef (mll (tw c 0) 200000) 200000) (-1) i) g4 g3; omega) | exact g1 _ _) (by omega) ?_)))
    rw [g0]
    refine gw_cge at230_20 (by first | omega | (have := mfa_rg (n := i) g4 g3; have := mfa_rg (n := itI (cef (mll (tw c 0) 200000) 200000) (-1) i) g4 g3; omega) | exact g1 _ _) (by first | omega | (have := mfa_rg (n := i) g4 g3; have := mfa_rg (n := itI (cef (mll (tw c 0) 200000) 200000) (-1) i) g4 g3; omega) | exact g1 _ _) (fun q20 => ?_) (fun q20 => ?_)
    · refine gw_il1 at230_54 (gw_ri at230_55 am_r230.2.1 ?_)
      have e : c 200000 0 = i := by omega
      rw [e]
      exact ⟨rfl, rfl⟩
    · refine gw_al0 at230_23 (gw_il2 at230_24 (gw_callP2 at230_25 (m_farthest hM g1 g4 g3 (by omega)) (by omega) (Nat.le_of_ble_eq_true rfl) (gw_il1 at230_28 (gw_const at230_29 ?_))))
      refine gw_cne at230_30 (by first | omega | (have := mfa_rg (n := i) g4 g3; have := mfa_rg (n := itI (cef (mll (tw c 0) 200000) 200000) (-1) i) g4 g3; omega) | exact g1 _ _) (by first | omega | (have := mfa_rg (n := i) g4 g3; have := mfa_rg (n := itI (cef (mll (tw c 0) 200000) 200000) (-1) i) g4 g3; omega) | exact g1 _ _) (fun q30 => ?_) (fun q30 => ?_)
      · refine gw_al0 at230_38 (gw_il1 at230_39 (gw_callP2 at230_40 (m_farthest hM g1 g4 g3 (by omega)) (by omega) (Nat.le_of_ble_eq_true rfl) ?_))
        refine gw_cge at230_43 (by first | omega | (have := mfa_rg (n := i) g4 g3; have := mfa_rg (n := itI (cef (mll (tw c 0) 200000) 200000) (-1) i) g4 g3; omega) | exact g1 _ _) (by first | omega | (have := mfa_rg (n := i) g4 g3; have := mfa_rg (n := itI (cef (mll (tw c 0) 200000) 200000) (-1) i) g4 g3; omega) | exact g1 _ _) (fun q43 => ?_) (fun q43 => ?_)
        · refine gw_inc2 at230_48 (h := (gw_goto at230_51 ?_))
          have h8 := ih (i + 1) (by omega) (by omega) (by omega)
          rw [itI_s _ _ hi0] at h8
          first | (rw [show cef (mll (tw c 0) 200000) 200000 i (itI (cef (mll (tw c 0) 200000) 200000) (-1) i) = i from if_pos (by first | (rw [if_pos (by assumption)]; omega) | (rw [if_neg (by assumption)]; omega))] at h8; exact h8) | (rw [show cef (mll (tw c 0) 200000) 200000 i (itI (cef (mll (tw c 0) 200000) 200000) (-1) i) = itI (cef (mll (tw c 0) 200000) 200000) (-1) i from if_neg (by first | (rw [if_pos (by assumption)]; omega) | (rw [if_neg (by assumption)]; omega))] at h8; exact h8)
        · refine gw_il2 at230_46 (gw_is1 at230_47 (h := (gw_inc2 at230_48 (h := (gw_goto at230_51 ?_)))))
          have h8 := ih (i + 1) (by omega) (by omega) (by omega)
          rw [itI_s _ _ hi0] at h8
          first | (rw [show cef (mll (tw c 0) 200000) 200000 i (itI (cef (mll (tw c 0) 200000) 200000) (-1) i) = i from if_pos (by first | (rw [if_pos (by assumption)]; omega) | (rw [if_neg (by assumption)]; omega))] at h8; exact h8) | (rw [show cef (mll (tw c 0) 200000) 200000 i (itI (cef (mll (tw c 0) 200000) 200000) (-1) i) = itI (cef (mll (tw c 0) 200000) 200000) (-1) i from if_neg (by first | (rw [if_pos (by assumption)]; omega) | (rw [if_neg (by assumption)]; omega))] at h8; exact h8)
      · refine gw_ldc (z := 1000000000) at230_33 (by decide) (gw_goto at230_35 ?_)
        refine gw_cge at230_43 (by first | omega | (have := mfa_rg (n := i) g4 g3; have := mfa_rg (n := itI (cef (mll (tw c 0) 200000) 200000) (-1) i) g4 g3; omega) | exact g1 _ _) (by first | omega | (have := mfa_rg (n := i) g4 g3; have := mfa_rg (n := itI (cef (mll (tw c 0) 200000) 200000) (-1) i) g4 g3; omega) | exact g1 _ _) (fun q43 => ?_) (fun q43 => ?_)
        · refine gw_inc2 at230_48 (h := (gw_goto at230_51 ?_))
          have h8 := ih (i + 1) (by omega) (by omega) (by omega)
          rw [itI_s _ _ hi0] at h8
          first | (rw [show cef (mll (tw c 0) 200000) 200000 i (itI (cef (mll (tw c 0) 200000) 200000) (-1) i) = i from if_pos (by first | (rw [if_pos (by assumption)]; omega) | (rw [if_neg (by assumption)]; omega))] at h8; exact h8) | (rw [show cef (mll (tw c 0) 200000) 200000 i (itI (cef (mll (tw c 0) 200000) 200000) (-1) i) = itI (cef (mll (tw c 0) 200000) 200000) (-1) i from if_neg (by first | (rw [if_pos (by assumption)]; omega) | (rw [if_neg (by assumption)]; omega))] at h8; exact h8)
        · refine gw_il2 at230_46 (gw_is1 at230_47 (h := (gw_inc2 at230_48 (h := (gw_goto at230_51 ?_)))))
          have h8 := ih (i + 1) (by omega) (by omega) (by omega)
          rw [itI_s _ _ hi0] at h8
          first | (rw [show cef (mll (tw c 0) 200000) 200000 i (itI (cef (mll (tw c 0) 200000) 200000) (-1) i) = i from if_pos (by first | (rw [if_pos (by assumption)]; omega) | (rw [if_neg (by assumption)]; omega))] at h8; exact h8) | (rw [show cef (mll (tw c 0) 200000) 200000 i (itI (cef (mll (tw c 0) 200000) 200000) (-1) i) = itI (cef (mll (tw c 0) 200000) 200000) (-1) i from if_neg (by first | (rw [if_pos (by assumption)]; omega) | (rw [if_neg (by assumption)]; omega))] at h8; exact h8)
  exact lp13 0 (by omega) (by omega) (by omega)
