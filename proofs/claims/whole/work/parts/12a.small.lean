/-! CONTRACTS: small things -/
theorem gE_mk {g y h mx rk tg so : Nat} {args : List Value} {M : am_M} {Q : am_O → am_M → Prop} (hr : (am_Pg y).2.2.1 = mx ∧ (am_Pg y).2.2.2.1 = rk ∧ (am_Pg y).2.2.2.2.1 = tg ∧ (am_Pg y).2.2.2.2.2 = so) (ha : (decide ((args.flatMap am_w2).length ≤ mx) && args.all am_nd) = true) (hk : tg = 0 ∨ ∃ k, args[0]? = some (.ref k) ∧ am_tg M k = tg)
    (hb : ∀ d, h ≤ d → gw d (if so = 0 then g else so) y 0 (am_ent mx args) [] M Q) : gE g y h args M Q := by
  obtain ⟨h1, h2, h3, h4⟩ := hr
  refine ⟨by unfold am_args; rw [h1]; exact ha, by rw [h3]; exact hk, fun d hd => ?_⟩
  unfold am_sort
  rw [h1, h4]
  exact hb d hd
theorem gR_i {z w : Int} {M : am_M} (h : z = w) : gR (gi w) M (.inl (some (gi z))) M := ⟨by rw [h], rfl⟩
theorem gR_l {z w : Int} {M : am_M} (h : z = w) : gR (gl w) M (.inl (some (gl z))) M := ⟨by rw [h], rfl⟩
theorem gR_r {z w : Nat} {M : am_M} (h : z = w) : gR (.ref w) M (.inl (some (.ref z))) M := ⟨by rw [h], rfl⟩
theorem gR_b {p q : Bool} {M : am_M} (h : p = q) : gR (gi (bi q)) M (.inl (some (gi (bi p)))) M := ⟨by rw [h], rfl⟩
theorem gK_thr {d g y pc nx E : Nat} {L r : List Value} {Q : am_O → am_M → Prop} {M1 : am_M} (hh : (am_Pg y).2.1 pc E = some none) (h : Q (.inr E) M1) : gK d g y pc nx L r Q (.inr E) M1 := by
  unfold gK
  dsimp only
  rw [hh]
  exact h
theorem ind_up {p : Int → Prop} (N : Int) (h : ∀ k, 0 ≤ k → k ≤ N → (∀ k', k < k' → k' ≤ N → p k') → p k) : ∀ k, 0 ≤ k → k ≤ N → p k := by
  have key : ∀ n : Nat, ∀ k : Int, 0 ≤ k → k ≤ N → (N - k).toNat ≤ n → p k := by
    intro n
    induction n with
    | zero => intro k h0 h1 h2; exact h k h0 h1 (fun k' h3 h4 => by omega)
    | succ n ih => intro k h0 h1 h2; exact h k h0 h1 (fun k' h3 h4 => ih k' (by omega) h4 (by omega))
  exact fun k h0 h1 => key _ k h0 h1 (Nat.le_refl _)
/-- every number in the memory is an int -/
def RG (c : gC) : Prop := ∀ (k : Nat) (j : Int), -2147483648 ≤ c k j ∧ c k j < 2147483648
theorem RG_gu {c : gC} (h : RG c) {k : Nat} {j z : Int} (hz : -2147483648 ≤ z ∧ z < 2147483648) : RG (gu c k j z) := fun k' j' => by
  unfold gu
  split
  · exact hz
  · exact h k' j'
