/-! NORMAL FORMS, calls, loops -/
theorem am_addE {a b : Int} (h : -2147483648 ≤ a + b ∧ a + b ≤ 2147483647) : am_add a b = a + b := am_add_eq h.1 (by omega)
theorem am_subE {a b : Int} (h : -2147483648 ≤ a - b ∧ a - b ≤ 2147483647) : am_sub a b = a - b := am_sub_eq h.1 (by omega)
theorem am_mulE {a b : Int} (h : -2147483648 ≤ a * b ∧ a * b ≤ 2147483647) : am_mul a b = a * b := am_mul_eq h.1 (by omega)
theorem am_laddE {a b : Int} (h : -9223372036854775808 ≤ a + b ∧ a + b ≤ 9223372036854775807) : am_ladd a b = a + b := am_ladd_eq h.1 (by omega)
theorem am_lsubE {a b : Int} (h : -9223372036854775808 ≤ a - b ∧ a - b ≤ 9223372036854775807) : am_lsub a b = a - b := am_lsub_eq h.1 (by omega)
theorem am_lmulE {a b : Int} (h : -9223372036854775808 ≤ a * b ∧ a * b ≤ 9223372036854775807) : am_lmul a b = a * b := am_lmul_eq h.1 (by omega)
theorem am_divE {a b : Int} (h : 0 ≤ a ∧ a ≤ 2147483647 ∧ 0 < b ∧ b ≤ 2147483647) : am_div a b = a / b := am_div_eq h.1 (by omega) h.2.2.1 (by omega)
theorem am_remE {a b : Int} (h : 0 ≤ a ∧ a ≤ 2147483647 ∧ 0 < b ∧ b ≤ 2147483647) : am_rem a b = a % b := am_rem_eq h.1 (by omega) h.2.2.1 (by omega)
theorem am_and1 {x : Int} (h : 0 ≤ x ∧ x ≤ 2147483647) : am_and x 1 = x % 2 := am_and_mask h.1 (by omega) 1 rfl
theorem am_and3 {x : Int} (h : 0 ≤ x ∧ x ≤ 2147483647) : am_and x 3 = x % 4 := am_and_mask h.1 (by omega) 2 rfl
theorem am_and15 {x : Int} (h : 0 ≤ x ∧ x ≤ 2147483647) : am_and x 15 = x % 16 := am_and_mask h.1 (by omega) 4 rfl
theorem am_and31 {x : Int} (h : 0 ≤ x ∧ x ≤ 2147483647) : am_and x 31 = x % 32 := am_and_mask h.1 (by omega) 5 rfl
theorem am_and2047 {x : Int} (h : 0 ≤ x ∧ x ≤ 2147483647) : am_and x 2047 = x % 2048 := am_and_mask h.1 (by omega) 11 rfl
theorem am_ushr4 {x : Int} (h : 0 ≤ x ∧ x ≤ 2147483647) : am_ushr x 4 = x / 16 := am_ushr_eq h.1 (by omega) 4 rfl
theorem am_ushr6 {x : Int} (h : 0 ≤ x ∧ x ≤ 2147483647) : am_ushr x 6 = x / 64 := am_ushr_eq h.1 (by omega) 6 rfl
theorem am_ushr11 {x : Int} (h : 0 ≤ x ∧ x ≤ 2147483647) : am_ushr x 11 = x / 2048 := am_ushr_eq h.1 (by omega) 11 rfl
theorem am_shl4 {x : Int} (h : 0 ≤ x ∧ x * 16 ≤ 2147483647) : am_shl x 4 = x * 16 := am_shl_eq h.1 4 rfl (by omega)
theorem am_shl6 {x : Int} (h : 0 ≤ x ∧ x * 64 ≤ 2147483647) : am_shl x 6 = x * 64 := am_shl_eq h.1 6 rfl (by omega)
theorem am_shl11 {x : Int} (h : 0 ≤ x ∧ x * 2048 ≤ 2147483647) : am_shl x 11 = x * 2048 := am_shl_eq h.1 11 rfl (by omega)
theorem am_or16 {a b : Int} (h : 0 ≤ a ∧ a < 16 ∧ 0 ≤ b ∧ b * 16 + a ≤ 2147483647) : am_or a (b * 16) = a + b * 16 := am_or_add 4 h.1 h.2.1 h.2.2.1 (by omega)
theorem am_or64 {a b : Int} (h : 0 ≤ a ∧ a < 64 ∧ 0 ≤ b ∧ b * 64 + a ≤ 2147483647) : am_or a (b * 64) = a + b * 64 := am_or_add 6 h.1 h.2.1 h.2.2.1 (by omega)
theorem am_or2048 {a b : Int} (h : 0 ≤ a ∧ a < 2048 ∧ 0 ≤ b ∧ b * 2048 + a ≤ 2147483647) : am_or a (b * 2048) = a + b * 2048 := am_or_add 11 h.1 h.2.1 h.2.2.1 (by omega)
/-- a row with one number set -/
def am_set {α : Type} (f : Nat → α) (k : Nat) (x : α) : Nat → α := fun j => if j = k then x else f j
theorem am_upO {α : Type} {f : Nat → Nat → α} {a k b : Nat} {x : α} (h : b ≠ a) : am_up f a k x b = f b := by
  funext j; unfold am_up; rw [if_neg (by omega)]
theorem am_upS {α : Type} {f : Nat → Nat → α} {a k : Nat} {x : α} : am_up f a k x a = am_set (f a) k x := by
  funext j
  by_cases hj : j = k
  · simp only [am_up, am_set, hj, and_self, if_true]
  · simp only [am_up, am_set, hj, and_false, if_false]
theorem am_stS {α : Type} {f : Nat → α} {k j : Nat} {x : α} (h : j = k) : am_set f k x j = x := if_pos h
theorem am_stO {α : Type} {f : Nat → α} {k j : Nat} {x : α} (h : j ≠ k) : am_set f k x j = f j := if_neg h
theorem am_tnn {n : Nat} : ((n : Nat) : Int).toNat = n := Int.toNat_natCast n
theorem am_tnA {a b : Int} (h : 0 ≤ a ∧ 0 ≤ b) : (a + b).toNat = a.toNat + b.toNat := Int.toNat_add h.1 h.2
theorem am_tnM {a b : Int} (h : 0 ≤ a ∧ 0 ≤ b) : (a * b).toNat = a.toNat * b.toNat := Int.toNat_mul h.1 h.2
/-- a call by its contract: what follows is the contract's own continuation -/
theorem am_wp_cc {d mi pc nx ta tb y : Nat} {i : Instr} {ls : am_L} {st : List am_V} {M : am_M} {Q : am_R → am_M → Prop} (hi : am_ins mi pc = some (nx, ta, tb, i)) (hc : am_cal i ta = some y) (hl : am_cok st y = true) (hrc : am_rcv i y (st.take (am_na y)).reverse M)
    (hw : am_wp d y 0 (am_pad (am_ml y) (am_ent (st.take (am_na y)).reverse)) [] M (fun r M' => ∃ v, r = .inl v ∧ am_wp (d + 1) mi nx ls (v.toList ++ st.drop (am_na y)) M' Q)) : am_wp (d + 1) mi pc ls st M Q :=
  am_wp_call hi hc hl hrc hw (fun _ _ h => h)
theorem am_wp_ls {d mi pc : Nat} {ls ls' st : _} {M : am_M} {Q : am_R → am_M → Prop} (h : am_wp d mi pc ls st M Q) (e : ls' = ls) : am_wp d mi pc ls' st M Q := by subst e; exact h
theorem am_wp_lm {d mi pc : Nat} {ls ls' st : _} {M M' : am_M} {Q : am_R → am_M → Prop} (h : am_wp d mi pc ls st M Q) (e : ls' = ls) (e2 : M' = M) : am_wp d mi pc ls' st M' Q := by subst e; subst e2; exact h
theorem am_brl {a b : Int} {t n : Nat} : am_br .lt a b t n = if a < b then t else n := rfl
theorem am_brg {a b : Int} {t n : Nat} : am_br .ge a b t n = if b ≤ a then t else n := rfl
theorem am_bre {a b : Int} {t n : Nat} : am_br .eq a b t n = if a = b then t else n := rfl
theorem am_brn {a b : Int} {t n : Nat} : am_br .ne a b t n = if a ≠ b then t else n := rfl
theorem am_brG {a b : Int} {t n : Nat} : am_br .gt a b t n = if b < a then t else n := rfl
theorem am_brL {a b : Int} {t n : Nat} : am_br .le a b t n = if a ≤ b then t else n := rfl
/-- a branch -/
theorem am_wp_br {d mi a b : Nat} {c : Prop} {dc : Decidable c} {ls : am_L} {st : List am_V} {M : am_M} {Q : am_R → am_M → Prop} (h1 : c → am_wp d mi a ls st M Q) (h2 : ¬ c → am_wp d mi b ls st M Q) : am_wp d mi (@ite Nat c dc a b) ls st M Q := by
  by_cases h : c
  · rw [if_pos h]; exact h1 h
  · rw [if_neg h]; exact h2 h
theorem am_wp_pc {d mi pc pc' : Nat} {ls : am_L} {st : List am_V} {M : am_M} {Q : am_R → am_M → Prop} (e : pc = pc') (h : am_wp d mi pc' ls st M Q) : am_wp d mi pc ls st M Q := by subst e; exact h
/-- a loop that counts up to n -/
theorem am_lp {P : Nat → Prop} (n : Nat) (h : ∀ k, k ≤ n → (k < n → P (k + 1)) → P k) : ∀ k, k ≤ n → P k := by
  have h1 : ∀ j, j ≤ n → P (n - j) := by
    intro j
    induction j with
    | zero => intro _; exact h _ (by omega) (by omega)
    | succ j ih =>
      intro hj
      refine h _ (by omega) (fun _ => ?_)
      rw [show n - (j + 1) + 1 = n - j by omega]
      exact ih (by omega)
  intro k hk
  have := h1 (n - k) (by omega)
  rwa [show n - (n - k) = k by omega] at this
theorem am_lp0 {P : Nat → Prop} (n : Nat) (h : ∀ k, k ≤ n → (k < n → P (k + 1)) → P k) : P 0 := am_lp n h 0 (Nat.zero_le n)
/-- a loop with a measure -/
theorem am_lm {α : Type} {P : α → Prop} (μ : α → Nat) (h : ∀ a, (∀ b, μ b < μ a → P b) → P a) : ∀ a, P a := by
  have h1 : ∀ n a, μ a < n → P a := by
    intro n
    induction n with
    | zero => intro a ha; omega
    | succ n ih => intro a ha; exact h a (fun b hb => ih b (by omega))
  intro a
  exact h1 (μ a + 1) a (by omega)
/-- the first of k, k + 1, .. below n of which p holds; -1 for none -/
def am_ff (p : Nat → Bool) (n : Nat) : Nat → Int := fun k => if h : k < n then (bif p k then (k : Int) else am_ff p n (k + 1)) else -1
termination_by k => n - k
theorem am_ff_end {p : Nat → Bool} {n k : Nat} (h : n ≤ k) : am_ff p n k = -1 := by unfold am_ff; rw [dif_neg (by omega)]
theorem am_ff_hit {p : Nat → Bool} {n k : Nat} (h : k < n) (hp : p k = true) : am_ff p n k = k := by unfold am_ff; rw [dif_pos h, hp]; rfl
theorem am_ff_on {p : Nat → Bool} {n k : Nat} (hp : p k = false) : am_ff p n k = am_ff p n (k + 1) := by
  by_cases h : k < n
  · conv => lhs; unfold am_ff
    rw [dif_pos h, hp]; rfl
  · rw [am_ff_end (by omega), am_ff_end (by omega)]
/-- bits: those k below n of which p holds -/
def ax_bs (p : Nat → Bool) : Nat → Nat
  | 0 => 0
  | k + 1 => bif p k then ax_bs p k + 2 ^ k else ax_bs p k
theorem ax_bs_lt (p : Nat → Bool) (n : Nat) : ax_bs p n < 2 ^ n := by
  induction n with
  | zero => exact Nat.zero_lt_one
  | succ n ih =>
    unfold ax_bs
    rw [Nat.pow_succ]
    cases p n
    · rw [cond_false]; omega
    · rw [cond_true]; omega
/-- how many of 0, 1, .. below n have p -/
def ax_ct (p : Nat → Bool) : Nat → Nat
  | 0 => 0
  | k + 1 => bif p k then ax_ct p k + 1 else ax_ct p k
theorem ax_ct_le (p : Nat → Bool) (n : Nat) : ax_ct p n ≤ n := by
  induction n with
  | zero => exact Nat.le_refl 0
  | succ n ih => unfold ax_ct; cases p n <;> simp only [cond_true, cond_false] <;> omega
theorem am_fmax_le {f : Nat → Int} {b : Int} (hb : 0 ≤ b) {n : Nat} (h : ∀ k, k < n → f k ≤ b) : 0 ≤ am_fmax f n ∧ am_fmax f n ≤ b := by
  induction n with
  | zero => exact ⟨Int.le_refl _, hb⟩
  | succ n ih =>
    have := ih (fun k hk => h k (by omega))
    have := h n (by omega)
    unfold am_fmax
    split <;> omega
theorem am_fsum_le {f : Nat → Int} {b : Int} {n : Nat} (h : ∀ k, k < n → 0 ≤ f k ∧ f k ≤ b) : 0 ≤ am_fsum f n ∧ am_fsum f n ≤ n * b := by
  induction n with
  | zero => exact ⟨Int.le_refl _, by simp [am_fsum]⟩
  | succ n ih =>
    have h1 := ih (fun k hk => h k (by omega))
    have h2 := h n (by omega)
    have h3 : ((n + 1 : Nat) : Int) * b = n * b + b := by rw [Int.natCast_succ, Int.add_mul, Int.one_mul]
    unfold am_fsum
    omega
