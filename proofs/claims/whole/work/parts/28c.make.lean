/-! making the class -/
theorem gM_trO {T : gT} {g w k j q : Nat} {l : gL} (h : k < g * 100000 + T.2.1 g ∨ g * 100000 + T.2.1 g + l.length ≤ k) : gTr (gM T g l w) k j q = gM (gTr T k j q) g l w := by
  refine Prod.ext (funext fun x => ?_) rfl
  by_cases e : x = k
  · subst e
    rw [gTr_s, gM_out h]
    show _ = (gM (gTr T x j q) g l w).1 x
    rw [gM_out (T := gTr T x j q) h, gTr_s]
  · rw [gTr_k e]
    show (if g * 100000 + T.2.1 g ≤ x then (match l[x - (g * 100000 + T.2.1 g)]? with | some y => y | none => T.1 x) else T.1 x) = (if g * 100000 + T.2.1 g ≤ x then (match l[x - (g * 100000 + T.2.1 g)]? with | some y => y | none => (gTr T k j q).1 x) else (gTr T k j q).1 x)
    rw [gTr_k e]
theorem gw_mX {d g' y pc nx a b : Nat} {L r : List Value} {T : gT} {l : gL} {w g : Nat} {c J : gC} {Q : am_O → am_M → Prop} {k i q : Nat} (hi : am_at y pc nx (.putfield i) 1 a b) (hk : k < g * 100000 + T.2.1 g ∨ g * 100000 + T.2.1 g + l.length ≤ k) (ht : (T.1 k).1 = 10 + a) (h : gw d g' y nx L r (gm (gM (gTr T k b (q + 1)) g l w) c J) Q) : gw d g' y pc L (.ref q :: .ref k :: r) (gm (gM T g l w) c J) Q := by
  refine gw_pr hi (by rw [gM_out hk]; exact ht) ?_
  rw [gM_trO hk]
  exact h
theorem FN_of {c m : gC} {k : Nat} (h : FN c k) (e : ∀ x, k ≤ x → x < k + 12 → m x = c x) : FN m k := ⟨fun j a b => by rw [e k (by omega) (by omega)]; exact h.1 j a b, fun i a b j => by rw [e (k + i) (by omega) (by omega)]; exact h.2.1 i a b j, fun j => by rw [e (k + 10) (by omega) (by omega)]; exact h.2.2.1 j, fun j => by rw [e (k + 11) (by omega) (by omega)]; exact h.2.2.2 j⟩
theorem FW_of {c m : gC} {k : Nat} {z : Int} (h : FW c k z) (e : ∀ x, k ≤ x → x < k + 5 → m x = c x) : FW m k z := ⟨fun j a b => by rw [e k (by omega) (by omega)]; exact h.1 j a b, fun i a b j => by rw [e (k + i) (by omega) (by omega)]; exact h.2 i a b j⟩
def mkX : gL := (((((((((mkB 100000) ++ mkN 100002) ++ mkN 100014) ++ mkR 100026 100014) ++ mkB 100030) ++ mkA 100032 100000 100002) ++ mkW 100034 100014) ++ mkW 100039 100014) ++ mkP 100044 100014 100026) ++ mkH 100052
set_option maxHeartbeats 1000000 in
theorem c_i8 {g : Nat} {T : gT} {c J : gC} (hB : 100000 = 1 * 100000 + T.2.1 1) (hF : ∀ i, i < 54 → (T.1 (100000 + i)).1 = 0) (hX0 : (T.1 500000).1 = 18) (hc : RG c) (hL : LT T c) : gE g 96 6 [.ref 500000] (gm T c J) (fun o M1 => o = .inl none ∧ ∃ c1 J1 : gC, M1 = gm (gM (gTr (gTr (gTr (gTr (gTr (gTr (gTr (gTr (gTr (gTr (T) 500000 0 (100000 + 1)) 500000 1 (100030 + 1)) 500000 3 (100002 + 1)) 500000 2 (100032 + 1)) 500000 4 (100014 + 1)) 500000 5 (100034 + 1)) 500000 6 (100039 + 1)) 500000 7 (100026 + 1)) 500000 8 (100044 + 1)) 500000 9 (100052 + 1)) 1 mkX 4620) c1 J1 ∧ RG c1 ∧ (∀ k, k < 100000 ∨ 100054 ≤ k → ¬ k = 500000 → c1 k = c k ∧ J1 k = J k) ∧ (∀ j, ¬ j = 10 → c1 500000 j = c 500000 j) ∧ c1 500000 10 = 0 ∧ (c1 100000 1 = 0 ∧ c1 100030 1 = 0) ∧ FN c1 100002 ∧ FN c1 100014 ∧ ((c1 100026 1 = -1 ∧ c1 100026 5 = 0) ∧ ∀ i : Nat, 1 ≤ i → i ≤ 3 → ∀ j, c1 (100026 + i) j = 0) ∧ (c1 100032 3 = 0 ∧ c1 100032 4 = -1 ∧ c1 (100032 + 1) 0 = nmo c 0 4 ∧ c1 (100032 + 1) 1 = nmo c 1 4 ∧ c1 (100032 + 1) 2 = nmo c 2 6 ∧ c1 (100032 + 1) 3 = nmo c 3 5 ∧ c1 (100032 + 1) 4 = nmo c 4 5 ∧ c1 (100032 + 1) 5 = nmo c 5 4 ∧ c1 (100032 + 1) 6 = nmo c 6 6 ∧ c1 (100032 + 1) 7 = nmo c 7 4 ∧ c1 (100032 + 1) 8 = nmo c 8 4) ∧ FW c1 100034 500 ∧ FW c1 100039 500 ∧ (c1 100044 8 = 0 ∧ (∀ j, 0 ≤ j → j < 3 → c1 (100044 + 1) j = -1) ∧ ∀ i : Nat, 2 ≤ i → i ≤ 7 → ∀ j, c1 (100044 + i) j = 0) ∧ c1 100052 1 = 0 ∧ c1 100052 2 = 0) := by
  refine gE_mk am_r96 rfl (Or.inr ⟨_, rfl, (by first | exact hX0 | (rw [gM_out (Or.inr (by show 1 * 100000 + T.2.1 1 + 54 ≤ _; omega))]; simp only [gTr_s]; exact hX0))⟩) (fun d hd => ?_)
  show gw d 1 96 0 [.ref 500000, am_U, am_U, am_U, am_U] [] _ _
  refine gw_al0 at96_0 (gw_objI at96_1 (by rw [hX0]; rfl) (Nat.le_of_ble_eq_true rfl) ?_)
  have eM : gm T c J = gm (gM T 1 [] 0) c J := by rw [gM_nil]
  rw [eM]
  refine gw_mO at96_4 hB 0 ([(10, 0, fun _ => 0)]) (2) rfl (by first | exact hF _ (by omega) | (simp (disch := omega) only [gTr_k]; exact hF _ (by omega))) rfl rfl (gw_dupr at96_7 ?_)
  refine gw_call1 at96_8 (c_i0 (B := 100000) hB (fun i h1 h2 => by rw [show 100000 + i = 100000 + (0 + i) by omega]; first | exact hF _ (by omega) | (simp (disch := omega) only [gTr_k]; exact hF _ (by omega))) (RG_gz hc)) (by omega) (Nat.le_of_ble_eq_true rfl) (fun o M1 q8 => ?_)
  obtain ⟨rfl, d0, K0, rfl, f0, r0, ex⟩ := q8
  have e0 : ∀ k, k < 100000 ∨ 100002 ≤ k → d0 k = c k ∧ K0 k = J k := fun k hk => by
    have := ex k hk
    rw [this.1, this.2]
    exact ⟨funext fun j => gz_k (by omega), funext fun j => gz_k (by omega)⟩
  clear ex
  show gw _ _ _ _ _ (.ref 100000 :: _) _ _
  refine gw_as1 at96_11 (h := (gw_mO at96_12 hB 2 ((mkB 100000) ++ [(12, 0, fun _ => 0)]) (1202 + 18) rfl (by first | exact hF _ (by omega) | (simp (disch := omega) only [gTr_k]; exact hF _ (by omega))) rfl rfl (gw_dupr at96_15 ?_)))
  rw [← gM_app]
  refine gw_call1 at96_16 (c_i2 (B := 100002) (by rw [gM_nx]; show 100002 = 1 * 100000 + (T.2.1 1 + 2); omega) (fun i h1 h2 => by rw [gM_out (Or.inr (by show 1 * 100000 + T.2.1 1 + 2 ≤ _; omega)), show 100002 + i = 100000 + (2 + i) by omega]; first | exact hF _ (by omega) | (simp (disch := omega) only [gTr_k]; exact hF _ (by omega))) (RG_gz r0)) (by omega) (Nat.le_of_ble_eq_true rfl) (fun o M1 q16 => ?_)
  obtain ⟨rfl, d1, K1, rfl, f1, r1, ex⟩ := q16
  have e1 : ∀ k, k < 100002 ∨ 100014 ≤ k → d1 k = d0 k ∧ K1 k = K0 k := fun k hk => by
    have := ex k hk
    rw [this.1, this.2]
    exact ⟨funext fun j => gz_k (by omega), funext fun j => gz_k (by omega)⟩
  clear ex
  rw [gM_app]
  show gw _ _ _ _ _ (.ref 100002 :: _) _ _
  refine gw_as2 at96_19 (h := (gw_mO at96_20 hB 14 (((mkB 100000) ++ mkN 100002) ++ [(12, 0, fun _ => 0)]) (1329 + 18) rfl (by first | exact hF _ (by omega) | (simp (disch := omega) only [gTr_k]; exact hF _ (by omega))) rfl rfl (gw_dupr at96_23 ?_)))
  rw [← gM_app]
  refine gw_call1 at96_24 (c_i2 (B := 100014) (by rw [gM_nx]; show 100014 = 1 * 100000 + (T.2.1 1 + 14); omega) (fun i h1 h2 => by rw [gM_out (Or.inr (by show 1 * 100000 + T.2.1 1 + 14 ≤ _; omega)), show 100014 + i = 100000 + (14 + i) by omega]; first | exact hF _ (by omega) | (simp (disch := omega) only [gTr_k]; exact hF _ (by omega))) (RG_gz r1)) (by omega) (Nat.le_of_ble_eq_true rfl) (fun o M1 q24 => ?_)
  obtain ⟨rfl, d2, K2, rfl, f2, r2, ex⟩ := q24
  have e2 : ∀ k, k < 100014 ∨ 100026 ≤ k → d2 k = d1 k ∧ K2 k = K1 k := fun k hk => by
    have := ex k hk
    rw [this.1, this.2]
    exact ⟨funext fun j => gz_k (by omega), funext fun j => gz_k (by omega)⟩
  clear ex
  rw [gM_app]
  show gw _ _ _ _ _ (.ref 100014 :: _) _ _
  refine gw_as3 at96_27 (h := (gw_mO at96_28 hB 26 ((((mkB 100000) ++ mkN 100002) ++ mkN 100014) ++ [(15, 0, fun _ => 0)]) (1456 + 6) rfl (by first | exact hF _ (by omega) | (simp (disch := omega) only [gTr_k]; exact hF _ (by omega))) rfl rfl (gw_dupr at96_31 (gw_al3 at96_32 ?_))))
  rw [← gM_app]
  refine gw_call2 at96_33 (c_i5 (B := 100026) (n := 100014) (by rw [gM_nx]; show 100026 = 1 * 100000 + (T.2.1 1 + 26); omega) (fun i h1 h2 => by rw [gM_out (Or.inr (by show 1 * 100000 + T.2.1 1 + 26 ≤ _; omega)), show 100026 + i = 100000 + (26 + i) by omega]; first | exact hF _ (by omega) | (simp (disch := omega) only [gTr_k]; exact hF _ (by omega))) (RG_gz r2)) (by omega) (Nat.le_of_ble_eq_true rfl) (fun o M1 q33 => ?_)
  obtain ⟨rfl, d3, K3, rfl, f3, r3, ex⟩ := q33
  have e3 : ∀ k, k < 100026 ∨ 100030 ≤ k → d3 k = d2 k ∧ K3 k = K2 k := fun k hk => by
    have := ex k hk
    rw [this.1, this.2]
    exact ⟨funext fun j => gz_k (by omega), funext fun j => gz_k (by omega)⟩
  clear ex
  rw [gM_app]
  show gw _ _ _ _ _ (.ref 100026 :: _) _ _
  refine gw_as4 at96_36 (h := (gw_al0 at96_38 (gw_al1 at96_39 ?_)))
  refine gw_mX at96_40 (Or.inr (by show 1 * 100000 + T.2.1 1 + 30 ≤ _; omega)) (by first | exact hX0 | (rw [gTr_s]; exact hX0) | (simp only [gTr_s]; exact hX0)) ?_
  refine gw_al0 at96_43 (gw_mO at96_44 hB 30 (((((mkB 100000) ++ mkN 100002) ++ mkN 100014) ++ mkR 100026 100014) ++ [(10, 0, fun _ => 0)]) (3118 + 2) rfl (by first | exact hF _ (by omega) | (simp (disch := omega) only [gTr_k]; exact hF _ (by omega))) rfl rfl (gw_dupr at96_47 ?_))
  rw [← gM_app]
  refine gw_call1 at96_48 (c_i0 (B := 100030) (by rw [gM_nx]; show 100030 = 1 * 100000 + (T.2.1 1 + 30); omega) (fun i h1 h2 => by rw [gM_out (Or.inr (by show 1 * 100000 + T.2.1 1 + 30 ≤ _; omega)), show 100030 + i = 100000 + (30 + i) by omega]; first | exact hF _ (by omega) | (simp (disch := omega) only [gTr_k]; exact hF _ (by omega))) (RG_gz r3)) (by omega) (Nat.le_of_ble_eq_true rfl) (fun o M1 q48 => ?_)
  obtain ⟨rfl, d4, K4, rfl, f4, r4, ex⟩ := q48
  have e4 : ∀ k, k < 100030 ∨ 100032 ≤ k → d4 k = d3 k ∧ K4 k = K3 k := fun k hk => by
    have := ex k hk
    rw [this.1, this.2]
    exact ⟨funext fun j => gz_k (by omega), funext fun j => gz_k (by omega)⟩
  clear ex
  rw [gM_app]
  show gw _ _ _ _ _ (.ref 100030 :: _) _ _
  refine gw_mX at96_51 (Or.inr (by show 1 * 100000 + T.2.1 1 + 32 ≤ _; omega)) (by first | exact hX0 | (rw [gTr_s]; exact hX0) | (simp only [gTr_s]; exact hX0)) ?_
  refine gw_al0 at96_54 (gw_al2 at96_55 ?_)
  refine gw_mX at96_56 (Or.inr (by show 1 * 100000 + T.2.1 1 + 32 ≤ _; omega)) (by first | exact hX0 | (rw [gTr_s]; exact hX0) | (simp only [gTr_s]; exact hX0)) ?_
  refine gw_al0 at96_59 (gw_mO at96_60 hB 32 ((((((mkB 100000) ++ mkN 100002) ++ mkN 100014) ++ mkR 100026 100014) ++ mkB 100030) ++ [(13, 0, fun _ => 0)]) (4320 + 11) rfl (by first | exact hF _ (by omega) | (simp (disch := omega) only [gTr_k]; exact hF _ (by omega))) rfl rfl (gw_dupr at96_63 (gw_al1 at96_64 (gw_al2 at96_65 ?_))))
  rw [← gM_app]
  refine gw_call3 at96_66 (c_i3 (B := 100032) (b := 100000) (n := 100002) (by rw [gM_nx]; show 100032 = 1 * 100000 + (T.2.1 1 + 32); omega) (fun i h1 h2 => by rw [gM_out (Or.inr (by show 1 * 100000 + T.2.1 1 + 32 ≤ _; omega)), show 100032 + i = 100000 + (32 + i) by omega]; first | exact hF _ (by omega) | (simp (disch := omega) only [gTr_k]; exact hF _ (by omega))) (by omega) (RG_gz r4) (LT_of hL (fun k hk => by rw [gM_out (Or.inr (by show 1 * 100000 + T.2.1 1 + 32 ≤ _; omega))]; try simp (disch := omega) only [gTr_k]) (fun k hk j => by rw [gz_k (by omega), (e4 k (by omega)).1, (e3 k (by omega)).1, (e2 k (by omega)).1, (e1 k (by omega)).1, (e0 k (by omega)).1]))) (by omega) (Nat.le_of_ble_eq_true rfl) (fun o M1 q66 => ?_)
  obtain ⟨rfl, d5, K5, rfl, f5, r5, ex⟩ := q66
  have e5 : ∀ k, k < 100032 ∨ 100034 ≤ k → d5 k = d4 k ∧ K5 k = K4 k := fun k hk => by
    have := ex k hk
    rw [this.1, this.2]
    exact ⟨funext fun j => gz_k (by omega), funext fun j => gz_k (by omega)⟩
  clear ex
  rw [gM_app]
  show gw _ _ _ _ _ (.ref 100032 :: _) _ _
  refine gw_mX at96_69 (Or.inr (by show 1 * 100000 + T.2.1 1 + 34 ≤ _; omega)) (by first | exact hX0 | (rw [gTr_s]; exact hX0) | (simp only [gTr_s]; exact hX0)) ?_
  refine gw_al0 at96_72 (gw_al3 at96_73 ?_)
  refine gw_mX at96_74 (Or.inr (by show 1 * 100000 + T.2.1 1 + 34 ≤ _; omega)) (by first | exact hX0 | (rw [gTr_s]; exact hX0) | (simp only [gTr_s]; exact hX0)) ?_
  refine gw_al0 at96_77 (gw_mO at96_78 hB 34 (((((((mkB 100000) ++ mkN 100002) ++ mkN 100014) ++ mkR 100026 100014) ++ mkB 100030) ++ mkA 100032 100000 100002) ++ [(17, 0, fun _ => 0)]) (4340 + 12) rfl (by first | exact hF _ (by omega) | (simp (disch := omega) only [gTr_k]; exact hF _ (by omega))) rfl rfl (gw_dupr at96_81 (gw_al3 at96_82 ?_)))
  rw [← gM_app]
  refine gw_call2 at96_83 (c_i7 (B := 100034) (n := 100014) (by rw [gM_nx]; show 100034 = 1 * 100000 + (T.2.1 1 + 34); omega) (fun i h1 h2 => by rw [gM_out (Or.inr (by show 1 * 100000 + T.2.1 1 + 34 ≤ _; omega)), show 100034 + i = 100000 + (34 + i) by omega]; first | exact hF _ (by omega) | (simp (disch := omega) only [gTr_k]; exact hF _ (by omega))) (gM_tag (B := 100000) (i := 14) hB rfl) (by omega) (RG_gz r5)) (by omega) (Nat.le_of_ble_eq_true rfl) (fun o M1 q83 => ?_)
  obtain ⟨rfl, d6, K6, rfl, f6, r6, ex⟩ := q83
  have e6 : ∀ k, k < 100034 ∨ 100039 ≤ k → d6 k = d5 k ∧ K6 k = K5 k := fun k hk => by
    have := ex k hk
    rw [this.1, this.2]
    exact ⟨funext fun j => gz_k (by omega), funext fun j => gz_k (by omega)⟩
  clear ex
  rw [gM_app]
  show gw _ _ _ _ _ (.ref 100034 :: _) _ _
  refine gw_mX at96_86 (Or.inr (by show 1 * 100000 + T.2.1 1 + 39 ≤ _; omega)) (by first | exact hX0 | (rw [gTr_s]; exact hX0) | (simp only [gTr_s]; exact hX0)) ?_
  refine gw_al0 at96_89 (gw_mO at96_90 hB 39 ((((((((mkB 100000) ++ mkN 100002) ++ mkN 100014) ++ mkR 100026 100014) ++ mkB 100030) ++ mkA 100032 100000 100002) ++ mkW 100034 100014) ++ [(17, 0, fun _ => 0)]) (4428 + 12) rfl (by first | exact hF _ (by omega) | (simp (disch := omega) only [gTr_k]; exact hF _ (by omega))) rfl rfl (gw_dupr at96_93 (gw_al3 at96_94 ?_)))
  rw [← gM_app]
  refine gw_call2 at96_95 (c_i7 (B := 100039) (n := 100014) (by rw [gM_nx]; show 100039 = 1 * 100000 + (T.2.1 1 + 39); omega) (fun i h1 h2 => by rw [gM_out (Or.inr (by show 1 * 100000 + T.2.1 1 + 39 ≤ _; omega)), show 100039 + i = 100000 + (39 + i) by omega]; first | exact hF _ (by omega) | (simp (disch := omega) only [gTr_k]; exact hF _ (by omega))) (gM_tag (B := 100000) (i := 14) hB rfl) (by omega) (RG_gz r6)) (by omega) (Nat.le_of_ble_eq_true rfl) (fun o M1 q95 => ?_)
  obtain ⟨rfl, d7, K7, rfl, f7, r7, ex⟩ := q95
  have e7 : ∀ k, k < 100039 ∨ 100044 ≤ k → d7 k = d6 k ∧ K7 k = K6 k := fun k hk => by
    have := ex k hk
    rw [this.1, this.2]
    exact ⟨funext fun j => gz_k (by omega), funext fun j => gz_k (by omega)⟩
  clear ex
  rw [gM_app]
  show gw _ _ _ _ _ (.ref 100039 :: _) _ _
  refine gw_mX at96_98 (Or.inr (by show 1 * 100000 + T.2.1 1 + 44 ≤ _; omega)) (by first | exact hX0 | (rw [gTr_s]; exact hX0) | (simp only [gTr_s]; exact hX0)) ?_
  refine gw_al0 at96_101 (gw_al4 at96_102 ?_)
  refine gw_mX at96_104 (Or.inr (by show 1 * 100000 + T.2.1 1 + 44 ≤ _; omega)) (by first | exact hX0 | (rw [gTr_s]; exact hX0) | (simp only [gTr_s]; exact hX0)) ?_
  refine gw_al0 at96_107 (gw_mO at96_108 hB 44 (((((((((mkB 100000) ++ mkN 100002) ++ mkN 100014) ++ mkR 100026 100014) ++ mkB 100030) ++ mkA 100032 100000 100002) ++ mkW 100034 100014) ++ mkW 100039 100014) ++ [(14, 0, fun _ => 0)]) (4516 + 10) rfl (by first | exact hF _ (by omega) | (simp (disch := omega) only [gTr_k]; exact hF _ (by omega))) rfl rfl (gw_dupr at96_111 (gw_al3 at96_112 (gw_al4 at96_113 ?_))))
  rw [← gM_app]
  refine gw_call3 at96_115 (c_i4 (B := 100044) (n := 100014) (r := 100026) (by rw [gM_nx]; show 100044 = 1 * 100000 + (T.2.1 1 + 44); omega) (fun i h1 h2 => by rw [gM_out (Or.inr (by show 1 * 100000 + T.2.1 1 + 44 ≤ _; omega)), show 100044 + i = 100000 + (44 + i) by omega]; first | exact hF _ (by omega) | (simp (disch := omega) only [gTr_k]; exact hF _ (by omega))) (RG_gz r7)) (by omega) (Nat.le_of_ble_eq_true rfl) (fun o M1 q115 => ?_)
  obtain ⟨rfl, d8, K8, rfl, f8, r8, ex⟩ := q115
  have e8 : ∀ k, k < 100044 ∨ 100052 ≤ k → d8 k = d7 k ∧ K8 k = K7 k := fun k hk => by
    have := ex k hk
    rw [this.1, this.2]
    exact ⟨funext fun j => gz_k (by omega), funext fun j => gz_k (by omega)⟩
  clear ex
  rw [gM_app]
  show gw _ _ _ _ _ (.ref 100044 :: _) _ _
  refine gw_mX at96_118 (Or.inr (by show 1 * 100000 + T.2.1 1 + 52 ≤ _; omega)) (by first | exact hX0 | (rw [gTr_s]; exact hX0) | (simp only [gTr_s]; exact hX0)) ?_
  refine gw_al0 at96_121 (gw_mO at96_122 hB 52 ((((((((((mkB 100000) ++ mkN 100002) ++ mkN 100014) ++ mkR 100026 100014) ++ mkB 100030) ++ mkA 100032 100000 100002) ++ mkW 100034 100014) ++ mkW 100039 100014) ++ mkP 100044 100014 100026) ++ [(11, 0, fun _ => 0)]) (4607 + 3) rfl (by first | exact hF _ (by omega) | (simp (disch := omega) only [gTr_k]; exact hF _ (by omega))) rfl rfl (gw_dupr at96_125 ?_))
  rw [← gM_app]
  refine gw_call1 at96_126 (c_i1 (B := 100052) (by rw [gM_nx]; show 100052 = 1 * 100000 + (T.2.1 1 + 52); omega) (fun i h1 h2 => by rw [gM_out (Or.inr (by show 1 * 100000 + T.2.1 1 + 52 ≤ _; omega)), show 100052 + i = 100000 + (52 + i) by omega]; first | exact hF _ (by omega) | (simp (disch := omega) only [gTr_k]; exact hF _ (by omega))) (RG_gz r8)) (by omega) (Nat.le_of_ble_eq_true rfl) (fun o M1 q126 => ?_)
  obtain ⟨rfl, d9, K9, rfl, f9, r9, ex⟩ := q126
  have e9 : ∀ k, k < 100052 ∨ 100054 ≤ k → d9 k = d8 k ∧ K9 k = K8 k := fun k hk => by
    have := ex k hk
    rw [this.1, this.2]
    exact ⟨funext fun j => gz_k (by omega), funext fun j => gz_k (by omega)⟩
  clear ex
  rw [gM_app]
  show gw _ _ _ _ _ (.ref 100052 :: _) _ _
  refine gw_mX at96_129 (Or.inr (by show 1 * 100000 + T.2.1 1 + 54 ≤ _; omega)) (by first | exact hX0 | (rw [gTr_s]; exact hX0) | (simp only [gTr_s]; exact hX0)) ?_
  refine gw_al0 at96_132 (gw_const at96_133 (gw_pf (j := 10) at96_134 (by first | exact hX0 | (rw [gM_out (Or.inr (by show 1 * 100000 + T.2.1 1 + 54 ≤ _; omega))]; simp only [gTr_s]; exact hX0)) rfl (gw_rv at96_137 am_r96.2.1 ⟨rfl, ?_⟩)))
  have t0 : ∀ k, 100000 ≤ k → k < 100002 → gu d9 500000 10 0 k = d0 k := fun k h1 h2 => by
    rw [show gu d9 500000 10 0 k = d9 k from funext fun j => gu_k (by omega), (e9 k (by omega)).1, (e8 k (by omega)).1, (e7 k (by omega)).1, (e6 k (by omega)).1, (e5 k (by omega)).1, (e4 k (by omega)).1, (e3 k (by omega)).1, (e2 k (by omega)).1, (e1 k (by omega)).1]
  have t1 : ∀ k, 100002 ≤ k → k < 100014 → gu d9 500000 10 0 k = d1 k := fun k h1 h2 => by
    rw [show gu d9 500000 10 0 k = d9 k from funext fun j => gu_k (by omega), (e9 k (by omega)).1, (e8 k (by omega)).1, (e7 k (by omega)).1, (e6 k (by omega)).1, (e5 k (by omega)).1, (e4 k (by omega)).1, (e3 k (by omega)).1, (e2 k (by omega)).1]
  have t2 : ∀ k, 100014 ≤ k → k < 100026 → gu d9 500000 10 0 k = d2 k := fun k h1 h2 => by
    rw [show gu d9 500000 10 0 k = d9 k from funext fun j => gu_k (by omega), (e9 k (by omega)).1, (e8 k (by omega)).1, (e7 k (by omega)).1, (e6 k (by omega)).1, (e5 k (by omega)).1, (e4 k (by omega)).1, (e3 k (by omega)).1]
  have t3 : ∀ k, 100026 ≤ k → k < 100030 → gu d9 500000 10 0 k = d3 k := fun k h1 h2 => by
    rw [show gu d9 500000 10 0 k = d9 k from funext fun j => gu_k (by omega), (e9 k (by omega)).1, (e8 k (by omega)).1, (e7 k (by omega)).1, (e6 k (by omega)).1, (e5 k (by omega)).1, (e4 k (by omega)).1]
  have t4 : ∀ k, 100030 ≤ k → k < 100032 → gu d9 500000 10 0 k = d4 k := fun k h1 h2 => by
    rw [show gu d9 500000 10 0 k = d9 k from funext fun j => gu_k (by omega), (e9 k (by omega)).1, (e8 k (by omega)).1, (e7 k (by omega)).1, (e6 k (by omega)).1, (e5 k (by omega)).1]
  have t5 : ∀ k, 100032 ≤ k → k < 100034 → gu d9 500000 10 0 k = d5 k := fun k h1 h2 => by
    rw [show gu d9 500000 10 0 k = d9 k from funext fun j => gu_k (by omega), (e9 k (by omega)).1, (e8 k (by omega)).1, (e7 k (by omega)).1, (e6 k (by omega)).1]
  have t6 : ∀ k, 100034 ≤ k → k < 100039 → gu d9 500000 10 0 k = d6 k := fun k h1 h2 => by
    rw [show gu d9 500000 10 0 k = d9 k from funext fun j => gu_k (by omega), (e9 k (by omega)).1, (e8 k (by omega)).1, (e7 k (by omega)).1]
  have t7 : ∀ k, 100039 ≤ k → k < 100044 → gu d9 500000 10 0 k = d7 k := fun k h1 h2 => by
    rw [show gu d9 500000 10 0 k = d9 k from funext fun j => gu_k (by omega), (e9 k (by omega)).1, (e8 k (by omega)).1]
  have t8 : ∀ k, 100044 ≤ k → k < 100052 → gu d9 500000 10 0 k = d8 k := fun k h1 h2 => by
    rw [show gu d9 500000 10 0 k = d9 k from funext fun j => gu_k (by omega), (e9 k (by omega)).1]
  have t9 : ∀ k, 100052 ≤ k → k < 100054 → gu d9 500000 10 0 k = d9 k := fun k h1 h2 => by
    rw [show gu d9 500000 10 0 k = d9 k from funext fun j => gu_k (by omega)]
  have to : ∀ k, k < 100000 ∨ 100054 ≤ k → d9 k = c k ∧ K9 k = J k := fun k hk => ⟨by rw [(e9 k (by omega)).1, (e8 k (by omega)).1, (e7 k (by omega)).1, (e6 k (by omega)).1, (e5 k (by omega)).1, (e4 k (by omega)).1, (e3 k (by omega)).1, (e2 k (by omega)).1, (e1 k (by omega)).1, (e0 k (by omega)).1], by rw [(e9 k (by omega)).2, (e8 k (by omega)).2, (e7 k (by omega)).2, (e6 k (by omega)).2, (e5 k (by omega)).2, (e4 k (by omega)).2, (e3 k (by omega)).2, (e2 k (by omega)).2, (e1 k (by omega)).2, (e0 k (by omega)).2]⟩
  have s6 : gz d5 (100034 + 0) 100014 4 = 500 := by rw [gz_k (by omega), (e5 100014 (by omega)).1, (e4 100014 (by omega)).1, (e3 100014 (by omega)).1, f2.1 4 (by decide) (by decide)]; rfl
  have s7 : gz d6 (100039 + 0) 100014 4 = 500 := by rw [gz_k (by omega), (e6 100014 (by omega)).1, (e5 100014 (by omega)).1, (e4 100014 (by omega)).1, (e3 100014 (by omega)).1, f2.1 4 (by decide) (by decide)]; rfl
  have nc : ∀ n, n < 9 → ∀ i, nmo (gz d4 (100032 + 0)) n i = nmo c n i := fun n hn i => nmo_of fun j => by rw [gz_k (by omega), (e4 _ (by omega)).1, (e3 _ (by omega)).1, (e2 _ (by omega)).1, (e1 _ (by omega)).1, (e0 _ (by omega)).1]
  rw [s6] at f6
  rw [s7] at f7
  obtain ⟨u3, u4, w0, w1, w2, w3, w4, w5, w6, w7, w8⟩ := f5
  refine ⟨_, _, rfl, RG_gu r9 (by decide), fun k hk hk2 => ⟨?_, (to k hk).2⟩, fun j hj => ?_, gu_s, ⟨?_, ?_⟩, FN_of f1 t1, FN_of f2 t2, ⟨⟨?_, ?_⟩, fun i h1 h2 j => ?_⟩, ⟨?_, ?_, ?_, ?_, ?_, ?_, ?_, ?_, ?_, ?_, ?_⟩, FW_of f6 t6, FW_of f7 t7, ⟨?_, fun j h1 h2 => ?_, fun i h1 h2 j => ?_⟩, ?_, ?_⟩
  · rw [← (to k hk).1]; funext j; exact gu_k hk2
  · rw [gu_j hj, (to 500000 (by omega)).1]
  · rw [t0 _ (by omega) (by omega)]; exact f0
  · rw [t4 _ (by omega) (by omega)]; exact f4
  · rw [t3 _ (by omega) (by omega)]; exact f3.1.1
  · rw [t3 _ (by omega) (by omega)]; exact f3.1.2
  · rw [t3 _ (by omega) (by omega)]; exact f3.2 i h1 h2 j
  · rw [t5 _ (by omega) (by omega)]; exact u3
  · rw [t5 _ (by omega) (by omega)]; exact u4
  · rw [t5 _ (by omega) (by omega), w0]; exact nc 0 (by decide) _
  · rw [t5 _ (by omega) (by omega), w1]; exact nc 1 (by decide) _
  · rw [t5 _ (by omega) (by omega), w2]; exact nc 2 (by decide) _
  · rw [t5 _ (by omega) (by omega), w3]; exact nc 3 (by decide) _
  · rw [t5 _ (by omega) (by omega), w4]; exact nc 4 (by decide) _
  · rw [t5 _ (by omega) (by omega), w5]; exact nc 5 (by decide) _
  · rw [t5 _ (by omega) (by omega), w6]; exact nc 6 (by decide) _
  · rw [t5 _ (by omega) (by omega), w7]; exact nc 7 (by decide) _
  · rw [t5 _ (by omega) (by omega), w8]; exact nc 8 (by decide) _
  · rw [t8 _ (by omega) (by omega)]; exact f8.1
  · rw [t8 _ (by omega) (by omega)]; exact f8.2.1 j h1 h2
  · rw [t8 _ (by omega) (by omega)]; exact f8.2.2 i h1 h2 j
  · rw [t9 _ (by omega) (by omega)]; exact f9.1
  · rw [t9 _ (by omega) (by omega)]; exact f9.2
