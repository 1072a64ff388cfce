/-! said(): sets of SLICES as numbers -/
theorem bs_tb {p : Nat → Bool} {n s : Nat} : (ax_bs p n).testBit s = (decide (s < n) && p s) := by
  by_cases h : s < n
  · rw [ax_bs_tb h, decide_eq_true h, Bool.true_and]
  · rw [decide_eq_false h, Bool.false_and]
    exact Nat.testBit_lt_two_pow (Nat.lt_of_lt_of_le (ax_bs_lt p n) (Nat.pow_le_pow_right (by decide) (by omega)))
theorem bs_and {p q : Nat → Bool} {n : Nat} : ax_bs p n &&& ax_bs q n = ax_bs (fun s => p s && q s) n := by
  apply Nat.eq_of_testBit_eq
  intro s
  rw [Nat.testBit_and, bs_tb, bs_tb, bs_tb]
  cases decide (s < n) <;> cases p s <;> cases q s <;> rfl
theorem bs_or {p q : Nat → Bool} {n : Nat} : ax_bs p n ||| ax_bs q n = ax_bs (fun s => p s || q s) n := by
  apply Nat.eq_of_testBit_eq
  intro s
  rw [Nat.testBit_or, bs_tb, bs_tb, bs_tb]
  cases decide (s < n) <;> cases p s <;> cases q s <;> rfl
theorem bs_all {n : Nat} : ax_bs (fun _ => true) n = 2 ^ n - 1 := by
  apply Nat.eq_of_testBit_eq
  intro s
  rw [bs_tb, Nat.testBit_two_pow_sub_one, Bool.and_true]
theorem bs_dn {p : Nat → Bool} {n : Nat} : dn (2 ^ n - 1) (ax_bs p n) = ax_bs (fun s => !p s) n := by
  apply Nat.eq_of_testBit_eq
  intro s
  rw [dn_tb, bs_tb, bs_tb, Nat.testBit_two_pow_sub_one]
  cases decide (s < n) <;> cases p s <;> rfl
theorem sx_len {c : Nat → Int} : ∀ i, (sx_stk c i).length ≤ i
  | 0 => Nat.le_refl 0
  | i + 1 => by
    have ih := sx_len (c := c) i
    unfold sx_stk
    split
    · rw [List.length_cons, List.length_drop]; omega
    · split
      · rw [List.length_cons, List.length_drop]; omega
      · rw [List.length_cons]; omega
