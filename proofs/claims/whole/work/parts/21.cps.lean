/-! CALLS BY CONTRACT in the abstract machine; loops -/
theorem am_wp_cv {d mi pc nx ta tb y : Nat} {i : Instr} {ls : am_L} {st : List am_V} {M M1 : am_M} {v : Option am_V} {Q : am_R → am_M → Prop} (hi : am_ins mi pc = some (nx, ta, tb, i)) (hc : am_cal i ta = some y) (hl : am_cok st y = true) (hrc : am_rcv i y (st.take (am_na y)).reverse M) (hw : ∀ Q1 : am_R → am_M → Prop, Q1 (.inl v) M1 → am_wp d y 0 (am_pad (am_ml y) (am_ent (st.take (am_na y)).reverse)) [] M Q1)
    (k : am_wp (d + 1) mi nx ls (v.toList ++ st.drop (am_na y)) M1 Q) : am_wp (d + 1) mi pc ls st M Q := by
  refine am_wp_call (Q1 := fun r M' => r = .inl v ∧ M' = M1) hi hc hl hrc (hw _ ⟨rfl, rfl⟩) ?_
  rintro _ _ ⟨rfl, rfl⟩
  exact ⟨v, rfl, k⟩
/-- a call whose answer and memory are known by a property alone -/
theorem am_wp_cp {d mi pc nx ta tb y : Nat} {i : Instr} {ls : am_L} {st : List am_V} {M : am_M} {Q : am_R → am_M → Prop} (P : Option am_V → am_M → Prop) (hi : am_ins mi pc = some (nx, ta, tb, i)) (hc : am_cal i ta = some y) (hl : am_cok st y = true) (hrc : am_rcv i y (st.take (am_na y)).reverse M) (hw : ∀ Q1 : am_R → am_M → Prop, (∀ v M1, P v M1 → Q1 (.inl v) M1) → am_wp d y 0 (am_pad (am_ml y) (am_ent (st.take (am_na y)).reverse)) [] M Q1)
    (k : ∀ v M1, P v M1 → am_wp (d + 1) mi nx ls (v.toList ++ st.drop (am_na y)) M1 Q) : am_wp (d + 1) mi pc ls st M Q := by
  refine am_wp_call (Q1 := fun r M' => ∃ v, r = .inl v ∧ P v M') hi hc hl hrc (hw _ (fun v M1 h => ⟨v, rfl, h⟩)) ?_
  rintro r M1 ⟨v, rfl, h⟩
  exact ⟨v, rfl, k v M1 h⟩
/-- a loop that counts up: P k is the run from its head in its k-th turn -/
theorem am_up_to {P : Nat → Prop} (n : Nat) (hend : P n) (hs : ∀ k, k < n → P (k + 1) → P k) : P 0 := by
  have h : ∀ j, j ≤ n → P (n - j) := by
    intro j
    induction j with
    | zero => intro _; exact hend
    | succ j ih =>
      intro hj
      refine hs _ (by omega) ?_
      rw [show n - (j + 1) + 1 = n - j by omega]
      exact ih (by omega)
  have := h n (Nat.le_refl n)
  rwa [Nat.sub_self] at this
theorem am_wp_eq {d mi pc : Nat} {ls ls' : am_L} {st : List am_V} {M M' : am_M} {Q : am_R → am_M → Prop} (h : am_wp d mi pc ls st M Q) (e1 : ls' = ls) (e2 : M' = M) : am_wp d mi pc ls' st M' Q := by subst e1; subst e2; exact h
theorem am_inc {k : Nat} (h : k < 2147483647) : am_add (k : Int) 1 = ((k + 1 : Nat) : Int) := by
  rw [am_add_eq (by omega) (by omega)]; omega
/-- the largest of f 0, f 1, .. (0 for none) -/
def am_fmax (f : Nat → Int) : Nat → Int
  | 0 => 0
  | k + 1 => if am_fmax f k < f k then f k else am_fmax f k
def am_fsum (f : Nat → Int) : Nat → Int
  | 0 => 0
  | k + 1 => am_fsum f k + f k
