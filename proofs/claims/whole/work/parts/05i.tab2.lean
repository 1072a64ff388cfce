/-- each place of a method, and each method that is called -/
def am_TAB : Prop := ∀ mi, mi < 335 → (∀ pc nx ta tb i, am_ins mi pc = some (nx, ta, tb, i) → ∃ raw len, decode (am_code mi) pc = .ok (raw, len) ∧ am_rn mi pc raw len nx ta tb i = true ∧ ∀ y, am_cal i ta = some y → y < 335 ∧ (am_hd y = none → am_mw y))
/-! the tables together, at last -/
theorem am_cal_inv {i : Instr} {ta y : Nat} (h : am_cal i ta = some y) : ta = y ∧ ((∃ k, i = .invokestatic k) ∨ (∃ k, i = .invokevirtual k) ∨ ∃ k, i = .invokespecial k) := by
  cases i <;> first | (cases h; done) | (refine ⟨Option.some.inj h, ?_⟩; first | exact Or.inl ⟨_, rfl⟩ | exact Or.inr (Or.inl ⟨_, rfl⟩) | exact Or.inr (Or.inr ⟨_, rfl⟩))
theorem am_rn_st {mi pc : Nat} {raw : Instr} {len nx ta tb k : Nat} (h : am_rn mi pc raw len nx ta tb (.invokestatic k) = true) : am_any4 am_CL (am_ow mi) (match raw with | .invokestatic ix => ix | _ => 0) ta = true := by
  unfold am_rn at h
  rw [Bool.and_eq_true] at h
  obtain ⟨-, h⟩ := h
  cases raw <;> first | (cases h; done) | (rw [Bool.and_eq_true, Bool.and_eq_true] at h; exact h.1.2)
theorem am_rn_vt {mi pc : Nat} {raw : Instr} {len nx ta tb k : Nat} (h : am_rn mi pc raw len nx ta tb (.invokevirtual k) = true) : am_any4 am_CL (am_ow mi) (match raw with | .invokevirtual ix => ix | _ => 0) ta = true := by
  unfold am_rn at h
  rw [Bool.and_eq_true] at h
  obtain ⟨-, h⟩ := h
  cases raw <;> first | (cases h; done) | (rw [Bool.and_eq_true, Bool.and_eq_true] at h; exact h.1.2)
theorem am_rn_sp {mi pc : Nat} {raw : Instr} {len nx ta tb k : Nat} (h : am_rn mi pc raw len nx ta tb (.invokespecial k) = true) : am_any4 am_CL (am_ow mi) (match raw with | .invokespecial ix => ix | _ => 0) ta = true ∨ am_any4 am_NL (am_ow mi) (match raw with | .invokespecial ix => ix | _ => 0) ta = true := by
  unfold am_rn at h
  rw [Bool.and_eq_true] at h
  obtain ⟨-, h⟩ := h
  cases raw <;> first | (cases h; done) | (rw [Bool.and_eq_true, Bool.and_eq_true, Bool.or_eq_true] at h; exact h.1.2)
theorem am_cal_lt {mi pc : Nat} {raw i : Instr} {len nx ta tb y : Nat} (h : am_rn mi pc raw len nx ta tb i = true) (hy : am_cal i ta = some y) : y < 334 := by
  obtain ⟨e, h1⟩ := am_cal_inv hy
  subst e
  rcases h1 with ⟨k, e⟩ | ⟨k, e⟩ | ⟨k, e⟩ <;> subst e
  · exact am_any_lt am_CL_lt.1 (am_rn_st h)
  · exact am_any_lt am_CL_lt.1 (am_rn_vt h)
  · rcases am_rn_sp h with q | q
    · exact am_any_lt am_CL_lt.1 q
    · exact am_any_lt am_CL_lt.2 q
theorem am_hd_no {y : Nat} (h1 : 329 ≤ y) (h2 : y < 334) : ¬ am_hd y = none := by
  have : ∀ j, j < 5 → ¬ am_hd (329 + j) = none := by decide
  have h3 := this (y - 329) (by omega)
  rw [show 329 + (y - 329) = y by omega] at h3
  exact h3
theorem am_tab1 {mi pc nx ta tb : Nat} {i : Instr} (l : List (Nat × Nat × Nat × Nat × Instr)) (l2 : List (Nat × Instr × Nat)) (cc : ByteArray) (h1 : am_zok mi l l2 = true) (h2 : am_dok cc l2) (h : am_find l pc = some (nx, ta, tb, i)) : ∃ raw len, decode cc pc = .ok (raw, len) ∧ am_rn mi pc raw len nx ta tb i = true ∧ ∀ y, am_cal i ta = some y → y < 334 := by
  obtain ⟨raw, len, q1, q2⟩ := am_zok_get mi l l2 h1 pc nx ta tb i (am_find_mem _ _ _ _ _ _ h)
  have h3 : decode cc (pc, raw, len).1 = .ok ((pc, raw, len).2.1, (pc, raw, len).2.2) := h2 (pc, raw, len) q1
  exact ⟨raw, len, h3, q2, fun y hy => am_cal_lt q2 hy⟩
theorem am_tab2 (y : Nat) (hlt : y < 334) : y < 335 ∧ (am_hd y = none → am_mw y) := by
  refine ⟨Nat.lt_succ_of_lt hlt, fun hh => ?_⟩
  by_cases h9 : y < 329
  · exact am_mw_all y h9
  · exact absurd hh (am_hd_no (Nat.le_of_not_lt h9) hlt)
theorem am_tab3 (mi : Nat) (hmi : mi < 335) (pc nx ta tb : Nat) (i : Instr) (h : am_ins mi pc = some (nx, ta, tb, i)) : ∃ raw len, decode (am_code mi) pc = .ok (raw, len) ∧ am_rn mi pc raw len nx ta tb i = true ∧ ∀ y, am_cal i ta = some y → y < 334 := am_tab1 (am_tab mi) (am_wab mi) (am_code mi) (am_tk mi hmi).1 (am_tk mi hmi).2 h
theorem am_tables : am_TAB := fun mi hmi pc nx ta tb i h => (am_tab3 mi hmi pc nx ta tb i h).imp fun _ h1 => h1.imp fun _ h2 => ⟨h2.1, h2.2.1, fun y hy => am_tab2 y (h2.2.2 y hy)⟩
