/-! the start: the texts, the constants, the memory at the law's entry -/
def am_rp : List (String × Nat) := [("SnowPlough$Parser", 48), ("SnowPlough$Parser", 54), ("SnowPlough$Parser", 56), ("SnowPlough$Parser", 58), ("SnowPlough$Parser", 60), ("SnowPlough$Parser", 62), ("SnowPlough$Parser", 64), ("SnowPlough$Parser", 66), ("SnowPlough$Parser", 68), ("SnowPlough$Network", 107), ("SnowPlough$Network", 119), ("SnowPlough$Network", 124), ("SnowPlough$Network", 126), ("SnowPlough$Network", 132), ("SnowPlough$Network", 140), ("SnowPlough$Network", 142), ("SnowPlough$Network", 144), ("SnowPlough$Network", 146), ("SnowPlough", 340), ("SnowPloughModel", 433)]
def am_tm (i : Nat) : Term := match am_rp[i]? with | some q => .string q.1 q.2 | none => .arg 0
def am_tlen : List Nat := [4, 4, 6, 5, 5, 4, 6, 4, 4, 5, 1, 1, 5, 8, 6, 5, 7, 5, 5, 7]
def am_tbyt : List (List Int32) := [[110, 111, 100, 101], [114, 111, 97, 100], [111, 110, 101, 119, 97, 121], [116, 117, 114, 110, 115], [100, 101, 112, 111, 116], [115, 97, 108, 116], [115, 112, 114, 101, 97, 100], [115, 110, 111, 119], [102, 97, 108, 108], [110, 111, 100, 101, 32], [32], [59], [114, 111, 97, 100, 32], [32, 111, 110, 101, 119, 97, 121, 59], [100, 101, 112, 111, 116, 32], [115, 97, 108, 116, 32], [59, 115, 112, 114, 101, 97, 100], [115, 110, 111, 119, 32], [102, 97, 108, 108, 32], [32, 111, 110, 101, 119, 97, 121]]
def am_n1 : List Jvm.Cond := flatC (Jvm.Cond.and given_1 narrow_1)
abbrev am_fv0 (i : Nat) : Term := .field (am_tm i) "java/lang/String" "value" "[B"
def am_n1b : List Jvm.Cond := am_n1
def am_tchk (i : Nat) : Bool :=
  am_n1.any (fun w => decide (w = .exactly (am_tm i) "java/lang/String")) && am_n1.any (fun w => decide (w = .eq (.field (am_tm i) "java/lang/String" "coder" "B") (.int 0))) && am_n1.any (fun w => decide (w = .arrayOf (am_fv0 i) .byte)) &&
  am_n1.any (fun w => decide (w = .eq (.length (am_fv0 i)) (.int (Int32.ofNat (am_tlen.getD i 0))))) && (List.range (am_tlen.getD i 0)).all (fun j => am_n1.any fun w => decide (w = .eq (.elem (am_fv0 i) (.int (Int32.ofNat j))) (.int ((am_tbyt.getD i []).getD j 0)))) && decide (am_tlen.getD i 0 < 1000)
theorem am_tchk_ok : (List.range 20).all am_tchk = true := by decide +kernel
theorem am_any_in {l : List Jvm.Cond} {w : Jvm.Cond} (h : (l.any fun v => decide (v = w)) = true) : w ∈ l := by
  obtain ⟨v, h1, h2⟩ := List.any_eq_true.mp h
  rw [← of_decide_eq_true h2]; exact h1
/-- two texts differ in their length or in a byte -/
def am_tdf (i j : Nat) : Bool := decide (i = j) || decide (am_tlen.getD i 0 ≠ am_tlen.getD j 0) || (List.range (am_tlen.getD i 0)).any fun k => decide ((am_tbyt.getD i []).getD k 0 ≠ (am_tbyt.getD j []).getD k 0)
theorem am_tdf_ok : ((List.range 20).all fun i => (List.range 20).all fun j => am_tdf i j) = true := by decide +kernel
theorem am_texts {args : Array Value} {s : State} {A : Nat → Prop} (hn : ∀ w ∈ am_n1, w.before args s = true) (hA : ∀ a : Nat, a < s.heap.size → ¬ A a) :
    ∃ adK adV : Nat → Nat, vk_S 20 am_tlen am_tbyt adK adV A s s.heap ∧ ∀ i : Nat, i < 20 → (am_tm i).eval args s none [] s = some (.ref (adK i)) := by
  have h0 : ∀ i : Nat, ∃ q : Nat × Nat, i < 20 → (am_tm i).eval args s none [] s = some (.ref q.1) ∧ va_O "java/lang/String" q.1 A s s.heap ∧ va_OF "java/lang/String" "coder" "B" (.int 0) q.1 A s s.heap ∧ va_OF "java/lang/String" "value" "[B" (.ref q.2) q.1 A s s.heap ∧ va_T .byte q.2 (am_tlen.getD i 0) (fun j => .int ((am_tbyt.getD i []).getD j 0)) A s s.heap := by
    intro i
    by_cases hi : i < 20
    · have hc := List.all_eq_true.mp am_tchk_ok i (List.mem_range.mpr hi)
      unfold am_tchk at hc
      simp only [Bool.and_eq_true] at hc
      obtain ⟨⟨⟨⟨⟨c1, c2⟩, c3⟩, c4⟩, c5⟩, c6⟩ := hc
      have c6' := of_decide_eq_true c6
      obtain ⟨aK, aV, hS, hev⟩ := vk_Sof (args := args) (s := s) (N := 1) (tm := fun _ => am_tm i) (len := [am_tlen.getD i 0]) (byt := [am_tbyt.getD i []]) (A := A) (fun k hk => by
          have : k = 0 := by omega
          subst this
          show am_tlen.getD i 0 < 2 ^ 31
          omega) (fun k hk => hn _ (am_any_in c1)) (fun k hk => hn _ (am_any_in c2)) (fun k hk => hn _ (am_any_in c3)) (fun k hk => by
          have : k = 0 := by omega
          subst this
          exact hn _ (am_any_in c4)) (fun k hk j hj => by
          have : k = 0 := by omega
          subst this
          exact hn _ (am_any_in (List.all_eq_true.mp c5 j (List.mem_range.mpr hj)))) (fun k k' hk hk' hne => absurd (show k = k' by omega) hne) hA
      obtain ⟨z1, z2, z3, z4⟩ := hS.1 0 (by omega)
      exact ⟨(aK 0, aV 0), fun _ => ⟨hev 0 (by omega), z1, z2, z3, z4⟩⟩
    · exact ⟨(0, 0), fun h => absurd h hi⟩
  obtain ⟨ad, had⟩ := Classical.axiomOfChoice h0
  refine ⟨fun i => (ad i).1, fun i => (ad i).2, ⟨fun i hi => (had i hi).2, fun i j hi hj e => ?_⟩, fun i hi => (had i hi).1⟩
  have hd := List.all_eq_true.mp (List.all_eq_true.mp am_tdf_ok i (List.mem_range.mpr hi)) j (List.mem_range.mpr hj)
  obtain ⟨-, -, -, ⟨cf, k, fi, f, cell, g1, g2, g3, g4, g5, g6⟩, ⟨cl, t1, t2, t3, t4, t5, t6, t7⟩⟩ := had i hi
  obtain ⟨-, -, -, ⟨cf', k', fi', f', cell', g1', g2', g3', g4', g5', g6'⟩, ⟨cl', t1', t2', t3', t4', t5', t6', t7'⟩⟩ := had j hj
  have e' : (ad i).1 = (ad j).1 := e
  rw [g1] at g1'
  cases g1'
  rw [e', g3'] at g3
  cases g3
  rw [g5'] at g5
  have ev : (ad j).2 = (ad i).2 := by
    injection g5 with g
    injection g with g
  rw [ev, t1] at t1'
  cases t1'
  have hci := List.all_eq_true.mp am_tchk_ok i (List.mem_range.mpr hi)
  have hcj := List.all_eq_true.mp am_tchk_ok j (List.mem_range.mpr hj)
  unfold am_tchk at hci hcj
  simp only [Bool.and_eq_true] at hci hcj
  have l1 := of_decide_eq_true hci.2
  have l2 := of_decide_eq_true hcj.2
  have hlen : am_tlen.getD i 0 = am_tlen.getD j 0 := by
    have h1 : Int32.ofNat (am_tlen.getD i 0) = Int32.ofNat (am_tlen.getD j 0) := t5.symm.trans t5'
    have h2 := congrArg Int32.toNatClampNeg h1
    rwa [Int32.toNatClampNeg_ofNat_of_lt (by omega), Int32.toNatClampNeg_ofNat_of_lt (by omega)] at h2
  unfold am_tdf at hd
  simp only [Bool.or_eq_true] at hd
  rcases hd with (hd | hd) | hd
  · exact of_decide_eq_true hd
  · exact absurd hlen (of_decide_eq_true hd)
  · obtain ⟨k, hk, hne⟩ := List.any_eq_true.mp hd
    have hk' := List.mem_range.mp hk
    have h1 := t6 k hk'
    have h2 := t6' k (by rw [← hlen]; exact hk')
    rw [h1] at h2
    have h3 := Value.int.inj (Option.some.inj h2)
    exact absurd h3 (of_decide_eq_true hne)
/-- the memory at the entry -/
def am_M0 (L : Nat) (xs : Nat → Int32) : am_M := (fun k => if k = 800000 then (41, L, xs, fun _ => 0, fun _ => 0) else if 900000 ≤ k ∧ k < 900020 then (40, 0, fun _ => 0, fun _ => 0, fun j => if j = 0 then 910000 + (k - 900000) + 1 else 0) else if 910000 ≤ k ∧ k < 910020 then (42, am_tlen.getD (k - 910000) 0, fun j => (am_tbyt.getD (k - 910000) []).getD j 0, fun _ => 0, fun _ => 0) else if k = 990000 then (43, 0, fun _ => 0, fun _ => 0, fun _ => 0) else (0, 0, fun _ => 0, fun _ => 0, fun _ => 0), fun _ => 0, 0, 0)
def am_ad0 (b : Nat) (fm : Value) (adK adV : Nat → Nat) (k : Nat) : Value := if k = 800000 then .ref b else if 900000 ≤ k ∧ k < 900020 then .ref (adK (k - 900000)) else if 910000 ≤ k ∧ k < 910020 then .ref (adV (k - 910000)) else if k = 990000 then fm else .null
