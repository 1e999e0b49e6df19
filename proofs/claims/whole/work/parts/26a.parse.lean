/-! parser: what its steps keep -/
def PI (c : gC) : Prop := RG c ∧ BR c 100000 ∧ (0 ≤ c 100032 7 ∧ c 100032 7 ≤ c 100000 1)
def PN (c : gC) : Prop := PI c ∧ NR c 100002
/-- only the parser and the loaded network have changed -/
def PFr (c m : gC) : Prop := ∀ k : Nat, ¬ k = 100032 → (k < 100002 ∨ 100014 ≤ k) → m k = c k
theorem PFr_rf {c : gC} : PFr c c := fun _ _ _ => rfl
theorem PFr_tr {c m n : gC} (h : PFr c m) (h2 : PFr m n) : PFr c n := fun k a b => by rw [h2 k a b, h k a b]
theorem PFr_gu {c m : gC} {k : Nat} {j z : Int} (h : PFr c m) (hk : k = 100032 ∨ (100002 ≤ k ∧ k < 100014)) : PFr c (gu m k j z) := fun x a b => by
  rw [← h x a b]
  funext i
  exact gu_k (by omega)
theorem NR_oth {c m : gC} {k : Nat} (h : NR c k) (he : ∀ x, k ≤ x → x < k + 12 → m x = c x) : NR m k := NF_NR (fun i a b j => by rw [he i a b]) h
theorem NR_k {c : gC} {k x : Nat} {j z : Int} (h : NR c k) (hx : x < k ∨ k + 12 ≤ x) : NR (gu c x j z) k := NR_oth h fun y a b => funext fun i => gu_k (by omega)
theorem NR_0 {c : gC} {k : Nat} {j z : Int} (h : NR c k) (hj : ¬ j = 1) (hj2 : ¬ j = 2) : NR (gu c k j z) k := by
  unfold NR at h ⊢
  simp (disch := omega) only [gu_k, gu_j]
  exact h
theorem NR_9 {c : gC} {k : Nat} {j z : Int} (h : NR c k) : NR (gu c (k + 9) j z) k := by
  unfold NR at h ⊢
  simp (disch := omega) only [gu_k]
  exact h
theorem NR_10 {c : gC} {k : Nat} {j z : Int} (h : NR c k) (hz : 0 ≤ z ∧ z ≤ 99) : NR (gu c (k + 10) j z) k := by
  unfold NR at h ⊢
  simp (disch := omega) only [gu_k]
  refine ⟨h.1, h.2.1, h.2.2.1, h.2.2.2.1, fun i a b => ?_, h.2.2.2.2.2⟩
  unfold gu
  split
  · exact hz
  · exact h.2.2.2.2.1 i a b
theorem NR_11 {c : gC} {k : Nat} {j z : Int} (h : NR c k) (hz : 0 ≤ z ∧ z ≤ 99) : NR (gu c (k + 11) j z) k := by
  unfold NR at h ⊢
  simp (disch := omega) only [gu_k]
  refine ⟨h.1, h.2.1, h.2.2.1, h.2.2.2.1, h.2.2.2.2.1, fun i a b => ?_⟩
  unfold gu
  split
  · exact hz
  · exact h.2.2.2.2.2 i a b
theorem nda_NR {c : gC} {k : Nat} {n x y : Int} (h : NR c k) (hx : 0 ≤ x ∧ x ≤ 99) (hy : 0 ≤ y ∧ y ≤ 99) : NR (nda c k n x y) k := by
  unfold nda
  split
  · rename_i e
    unfold NR at h ⊢
    simp (disch := omega) only [gu_k, gu_j, gu_s]
    refine ⟨by omega, h.2.1, fun i a b => ?_, h.2.2.2.1, h.2.2.2.2.1, h.2.2.2.2.2⟩
    have := h.2.2.1 i a b
    unfold gu
    constructor
    · split <;> omega
    · split <;> omega
  · exact h
theorem rda_NR {c : gC} {k : Nat} {n f t l w : Int} {b : Bool} (h : NR c k) (hf : -1 ≤ f ∧ f < 10) (ht : -1 ≤ t ∧ t < 10) (hl : 0 ≤ l ∧ l ≤ 999) (hw : 0 ≤ w ∧ w ≤ 3) : NR (rda c k n f t l w b) k := by
  unfold rda
  split
  · rename_i e
    unfold NR at h ⊢
    simp (disch := omega) only [gu_k, gu_j, gu_s]
    refine ⟨h.1, by omega, h.2.2.1, fun i a b => ?_, h.2.2.2.2.1, h.2.2.2.2.2⟩
    have := h.2.2.2.1 i a b
    unfold gu
    refine ⟨?_, ?_, ?_, ?_⟩ <;> split <;> omega
  · exact h
theorem nda_PFr {c : gC} {n x y : Int} : PFr c (nda c 100002 n x y) := by
  unfold nda
  split
  · exact PFr_gu (PFr_gu (PFr_gu (PFr_gu PFr_rf (by omega)) (by omega)) (by omega)) (by omega)
  · exact PFr_rf
theorem rda_PFr {c : gC} {n f t l w : Int} {b : Bool} : PFr c (rda c 100002 n f t l w b) := by
  unfold rda
  split
  · exact PFr_gu (PFr_gu (PFr_gu (PFr_gu (PFr_gu (PFr_gu (PFr_gu (PFr_gu PFr_rf (by omega)) (by omega)) (by omega)) (by omega)) (by omega)) (by omega)) (by omega)) (by omega)
  · exact PFr_rf
theorem nda_p {c : gC} {n x y j : Int} : nda c 100002 n x y 100032 j = c 100032 j := by
  unfold nda
  split
  · simp (disch := omega) only [gu_k]
  · rfl
theorem rda_p {c : gC} {n f t l w j : Int} {b : Bool} : rda c 100002 n f t l w b 100032 j = c 100032 j := by
  unfold rda
  split
  · simp (disch := omega) only [gu_k]
  · rfl
theorem nda_RG {c : gC} {k : Nat} {n x y : Int} (hc : RG c) (hN : NR c k) (hn : -2147483648 ≤ n ∧ n < 2147483648) (hx : 0 ≤ x ∧ x ≤ 99) (hy : 0 ≤ y ∧ y ≤ 99) : RG (nda c k n x y) := by
  have h := hN.1
  unfold nda
  split
  · exact RG_gu (RG_gu (RG_gu (RG_gu hc hn) (by omega)) (by omega)) (by omega)
  · exact hc
theorem rda_RG {c : gC} {k : Nat} {n f t l w : Int} {b : Bool} (hc : RG c) (hN : NR c k) (hn : -2147483648 ≤ n ∧ n < 2147483648) (hf : -1 ≤ f ∧ f < 10) (ht : -1 ≤ t ∧ t < 10) (hl : 0 ≤ l ∧ l ≤ 999) (hw : 0 ≤ w ∧ w ≤ 3) : RG (rda c k n f t l w b) := by
  have h := hN.2.1
  unfold rda
  split
  · refine RG_gu (RG_gu (RG_gu (RG_gu (RG_gu (RG_gu (RG_gu (RG_gu hc hn) (by omega)) (by omega)) (by omega)) (by omega)) (by omega)) ?_) (by omega)
    exact zrg _
  · exact hc
theorem ad1_ok {c : gC} {s : Int} (h : PI c) (hs : 0 ≤ s ∧ s ≤ c 100000 1) : PI (ad1 c s) ∧ (∀ k, ¬ k = 100032 → ad1 c s k = c k) ∧ ∀ j, j < 5 ∨ 9 < j → ad1 c s 100032 j = c 100032 j := by
  obtain ⟨hc, hB, he⟩ := h
  have hb := hB.2
  have h0 : RG (ad0 c s) := ad0_RG hc (by omega)
  have hk : ∀ (k : Nat), ¬ k = 100032 → ∀ a b d e f p q r t u : Int, True := fun _ _ _ _ _ _ _ _ _ _ _ _ => trivial
  have h1 : ∀ l h : Int, nen (ad0 c s) s = nen c s ∧ wen (ad0 c s) s = wen c s := fun l h => by
    unfold nen wen
    rw [show ibt (ad0 c s) 48 57 = ibt c 48 57 from funext fun i => ibt_o (ad0_k (by omega)) (ad0_k (by omega)), show ibt (ad0 c s) 97 122 = ibt c 97 122 from funext fun i => ibt_o (ad0_k (by omega)) (ad0_k (by omega))]
    exact ⟨rfl, rfl⟩
  obtain ⟨h2, h3⟩ := h1 0 0
  have hB0 : BR (ad0 c s) 100000 := by unfold BR; rw [ad0_k (by omega)]; exact hB
  have h9 : c 100000 1 ≤ s ∨ ¬ c 100000 1 ≤ s := Decidable.em _
  have hbuf : ∀ m : gC, (∀ k, ¬ k = 100032 → m k = c k) → RG m → (0 ≤ m 100032 7 ∧ m 100032 7 ≤ c 100000 1) → PI m := fun m a b d => ⟨b, by unfold BR; rw [a 100000 (by omega)]; exact hB, by rw [a 100000 (by omega)]; exact d⟩
  have hfr : ∀ (m : gC) (j z : Int), (∀ k, ¬ k = 100032 → m k = c k) → ∀ k, ¬ k = 100032 → gu m 100032 j z k = c k := fun m j z a k b => by
    rw [← a k b]; funext i; exact gu_k (by omega)
  have ha0 : ∀ k, ¬ k = 100032 → ad0 c s k = c k := fun k a => ad0_k a
  have hj0 : ∀ j, j < 5 ∨ 9 < j → ad0 c s 100032 j = c 100032 j := fun j a => by
    unfold ad0
    simp (disch := omega) only [gu_j]
  by_cases e1 : c 100000 1 ≤ s
  · rw [ad1_e e1]
    refine ⟨hbuf _ (hfr _ _ _ ha0) (RG_gu h0 (by decide)) ?_, hfr _ _ _ ha0, fun j a => ?_⟩
    · rw [gu_j (by decide), ad0_7]; exact hs
    · rw [gu_j (by omega)]; exact hj0 j a
  · cases e2 : ibt c 97 122 s with
    | true =>
      rw [ad1_w e1 e2]
      unfold tkw
      rw [ad0_7, h3]
      obtain ⟨r1, r2, r3, r4⟩ := rn_ok (p := ibt c 97 122) ibt_lt hs.1 hs.2 hB.2
      have hv := wmv_rg (c := ad0 c s) (e := s) (i := wen c s) r1 (fun j a b => by rw [ad0_k (by omega)]; exact (ibt_b (r4 j a b)).2)
      have hv2 := bw_le (wen c s - s)
      have hkw := kwd_rg (c := ad0 c s) (v := wmv (ad0 c s) s (wen c s)) (i := 9)
      unfold wen at *
      refine ⟨hbuf _ (hfr _ _ _ (hfr _ _ _ (hfr _ _ _ (hfr _ _ _ ha0)))) (RG_gu (RG_gu (RG_gu (RG_gu h0 (by decide)) (by omega)) (by omega)) (by unfold kwd; omega)) ?_, hfr _ _ _ (hfr _ _ _ (hfr _ _ _ (hfr _ _ _ ha0))), fun j a => ?_⟩
      · rw [gu_j (by decide), gu_s]; omega
      · simp (disch := omega) only [gu_j]; exact hj0 j a
    | false =>
      cases e3 : ibt c 48 57 s with
      | true =>
        rw [ad1_n e1 e2 e3]
        unfold tkn
        rw [ad0_7, h2]
        obtain ⟨r1, r2, r3, r4⟩ := rn_ok (p := ibt c 48 57) ibt_lt hs.1 hs.2 hB.2
        have hv := nmv_rg (c := ad0 c s) (e := s) (i := nen c s) r1 (fun j a b => by rw [ad0_k (by omega)]; exact (ibt_b (r4 j a b)).2.1)
        unfold nen at *
        refine ⟨hbuf _ (hfr _ _ _ (hfr _ _ _ (hfr _ _ _ ha0))) (RG_gu (RG_gu (RG_gu h0 (by decide)) (by omega)) (by omega)) ?_, hfr _ _ _ (hfr _ _ _ (hfr _ _ _ ha0)), fun j a => ?_⟩
        · rw [gu_s]; omega
        · simp (disch := omega) only [gu_j]; exact hj0 j a
      | false =>
        rw [ad1_s e1 e2 e3]
        refine ⟨hbuf _ (hfr _ _ _ (hfr _ _ _ (hfr _ _ _ ha0))) (RG_gu (RG_gu (RG_gu h0 (by decide)) (hc _ _)) (by omega)) ?_, hfr _ _ _ (hfr _ _ _ (hfr _ _ _ ha0)), fun j a => ?_⟩
        · rw [gu_s]; omega
        · simp (disch := omega) only [gu_j]; exact hj0 j a
theorem adv_ok {c : gC} (h : PI c) : PI (adv c) ∧ (∀ k, ¬ k = 100032 → adv c k = c k) ∧ ∀ j, j < 5 ∨ 9 < j → adv c 100032 j = c 100032 j := by
  obtain ⟨r1, r2, r3, r4⟩ := rn_ok (p := ibl c) ibl_lt h.2.2.1 h.2.2.2 h.2.1.2
  exact ad1_ok h ⟨by have := h.2.2.1; unfold bln; omega, r2⟩
theorem adv_PN {c : gC} (h : PN c) : PN (adv c) ∧ PFr c (adv c) := by
  obtain ⟨a, b, d⟩ := adv_ok h.1
  exact ⟨⟨a, NR_oth h.2 fun x p q => b x (by omega)⟩, fun k p q => b k p⟩
/-- a parser's field is set -/
theorem PN_p {c : gC} {j z : Int} (h : PN c) (hj : ¬ j = 7) (hz : -2147483648 ≤ z ∧ z < 2147483648) : PN (gu c 100032 j z) := by
  obtain ⟨⟨a, b, d⟩, e⟩ := h
  refine ⟨⟨RG_gu a hz, ?_, ?_⟩, NR_k e (by omega)⟩
  · unfold BR; rw [gu_k (by decide)]; exact b
  · rw [gu_j (by omega), gu_k (by decide)]; exact d
/-- the loaded network is changed -/
theorem PN_n {c m : gC} (h : PN c) (hr : RG m) (hn : NR m 100002) (hf : PFr c m) (hp : m 100032 7 = c 100032 7) : PN m := by
  obtain ⟨⟨a, b, d⟩, e⟩ := h
  refine ⟨⟨hr, ?_, ?_⟩, hn⟩
  · unfold BR; rw [hf 100000 (by omega) (by omega)]; exact b
  · rw [hp, hf 100000 (by omega) (by omega)]; exact d
def fai (c : gC) (z : Int) : gC := gu (gu c 100032 3 z) 100032 4 (c 100032 6)
theorem fai_PN {c : gC} {z : Int} (h : PN c) (hz : -2147483648 ≤ z ∧ z < 2147483648) : PN (fai c z) ∧ PFr c (fai c z) := ⟨PN_p (PN_p h (by decide) hz) (by decide) (h.1.1 _ _), PFr_gu (PFr_gu PFr_rf (by omega)) (by omega)⟩
