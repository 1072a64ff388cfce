/-! THE TWO MACHINES BESIDE EACH OTHER: numbers of cells and addresses, memories and heaps -/
/-- the addresses of the script, of CHOICES, of the String constant, and the first of those that are made -/
abbrev am_G : Type := Nat × Nat × Nat × Nat
def am_ad (g : am_G) : Nat → Option Nat
  | 0 => none
  | 1 => some g.1
  | 2 => some g.2.1
  | 3 => some g.2.2.1
  | k + 4 => some (g.2.2.2 + k)
def am_cv (g : am_G) : am_V → Value
  | .inl x => .int (Int32.ofInt x)
  | .inr (.inl x) => .long (Int64.ofInt x)
  | .inr (.inr a) => va_rf (am_ad g a)
theorem am_cv_cat (g : am_G) (v : am_V) : (am_cv g v).category = am_cat v := by
  rcases v with x | x | a
  · rfl
  · rfl
  · show (va_rf (am_ad g a)).category = 1
    cases am_ad g a <;> rfl
theorem am_ad4 (g : am_G) {a : Nat} (h : 4 ≤ a) : am_ad g a = some (g.2.2.2 + (a - 4)) := by
  obtain ⟨k, rfl⟩ : ∃ k, a = k + 4 := ⟨a - 4, by omega⟩
  rfl
theorem am_cvr (g : am_G) {a : Nat} (h : 4 ≤ a) : am_cv g (.inr (.inr a)) = .ref (g.2.2.2 + (a - 4)) := by
  show va_rf (am_ad g a) = _
  rw [am_ad4 g h]; rfl
def am_cell (g : am_G) (ca : Nat → ClassId) (M : am_M) (a : Nat) : va_E := match M with
  | (_, _, sh, I, R) => if (sh a).1 < 32 then .inr ((sh a).1, (List.range (am_nf (sh a).1)).map (fun k => am_cv g (am_fv (am_fk (sh a).1 k) (I a k) (R a k))))
    else if (sh a).1 < 35 then .inl (ca (sh a).1, (sh a).2, .inl (fun k => Int32.ofInt (I a k)))
    else if (sh a).1 = 35 then .inl (ca (sh a).1, (sh a).2, .inr (.inl (fun k => Int64.ofInt (I a k))))
    else .inl (ca (sh a).1, (sh a).2, .inr (.inr (.inr (.inr (fun k => am_ad g (R a k))))))
def am_ws (g : am_G) (ca : Nat → ClassId) (M : am_M) : va_W := (List.range (M.1 - 4)).map (fun j => (g.2.2.2 + j, am_cell g ca M (j + 4)))
theorem am_ws_get (g : am_G) (ca : Nat → ClassId) (M : am_M) {a : Nat} (h4 : 4 ≤ a) (h : a < M.1) : (am_ws g ca M)[a - 4]? = some (g.2.2.2 + (a - 4), am_cell g ca M a) := by
  unfold am_ws
  rw [List.getElem?_map, List.getElem?_range (by omega)]
  show some (g.2.2.2 + (a - 4), am_cell g ca M (a - 4 + 4)) = _
  rw [Nat.sub_add_cancel h4]
theorem am_ws_D (g : am_G) (ca : Nat → ClassId) (M : am_M) : va_D (fun q => g.2.2.2 ≤ q) (am_ws g ca M) := by
  have key : ∀ (k : Nat) (q : Nat × va_E), (am_ws g ca M)[k]? = some q → q.1 = g.2.2.2 + k := by
    intro k q h
    unfold am_ws at h
    rw [List.getElem?_map] at h
    by_cases hk : k < M.1 - 4
    · rw [List.getElem?_range hk] at h
      cases h
      rfl
    · rw [List.getElem?_eq_none (by simp; omega)] at h
      cases h
  refine ⟨fun i j p q hi hj hpq => ?_, fun k q hk => ?_⟩
  · have h1 := key i p hi
    have h2 := key j q hj
    omega
  · rw [key k q hk]
    exact Nat.le_add_right _ _
theorem am_ws_set (g : am_G) (ca : Nat → ClassId) (M M' : am_M) {a : Nat} (h4 : 4 ≤ a) (h : a < M.1) (hm : M'.1 = M.1) (hc : ∀ b, b ≠ a → am_cell g ca M' b = am_cell g ca M b) : (am_ws g ca M).set (a - 4) (g.2.2.2 + (a - 4), am_cell g ca M' a) = am_ws g ca M' := by
  apply List.ext_getElem?
  intro k
  by_cases hk : k = a - 4
  · subst hk
    rw [List.getElem?_set_self (by unfold am_ws; simp; omega), am_ws_get g ca M' h4 (by omega)]
  · rw [List.getElem?_set_ne (Ne.symm hk)]
    unfold am_ws
    rw [hm, List.getElem?_map, List.getElem?_map]
    by_cases hk2 : k < M.1 - 4
    · rw [List.getElem?_range hk2]
      show some (_, am_cell g ca M (k + 4)) = some (_, am_cell g ca M' (k + 4))
      rw [hc (k + 4) (by omega)]
    · rw [List.getElem?_eq_none (by simp; omega)]
      rfl
theorem am_ws_push (g : am_G) (ca : Nat → ClassId) (M M' : am_M) (h4 : 4 ≤ M.1) (hm : M'.1 = M.1 + 1) (hc : ∀ b, b < M.1 → am_cell g ca M' b = am_cell g ca M b) : am_ws g ca M' = am_ws g ca M ++ [(g.2.2.2 + (M.1 - 4), am_cell g ca M' M.1)] := by
  unfold am_ws
  rw [hm, show M.1 + 1 - 4 = (M.1 - 4) + 1 by omega, List.range_succ, List.map_append]
  congr 1
  · apply List.map_congr_left
    intro j hj
    have := List.mem_range.mp hj
    rw [hc (j + 4) (by omega)]
  · simp only [List.map_cons, List.map_nil]
    rw [show M.1 - 4 + 4 = M.1 by omega]
/-- the range of what a place holds -/
def am_rgk (kd k : Nat) (x : Int) : Prop := if kd = 33 then -128 ≤ x ∧ x < 128 else if kd = 34 then x = 0 ∨ x = 1 else if kd = 35 then am_r64 x else if kd < 13 ∧ am_fk kd k = 1 then am_r64 x else if kd < 13 ∧ am_fk kd k = 3 then x = 0 ∨ x = 1 else am_r32 x
theorem am_rgk0 (kd k : Nat) : am_rgk kd k 0 := by
  unfold am_rgk am_r64 am_r32
  repeat' split
  all_goals omega
def am_okM (L : Nat) (xs : Nat → Int32) (M : am_M) : Prop := match M with
  | (m, _, sh, I, R) => (4 ≤ m ∧ sh 0 = (98, 0) ∧ sh 1 = (32, L) ∧ sh 2 = (32, 36) ∧ sh 3 = (98, 0)) ∧ (∀ a k, am_rgk (sh a).1 k (I a k)) ∧ (∀ a k, R a k < m) ∧ (∀ a, (sh a).2 ≤ 100000) ∧ (∀ a, m ≤ a → sh a = (98, 0)) ∧ (∀ a, 4 ≤ a → a < m → (sh a).1 < 14 ∨ (32 ≤ (sh a).1 ∧ (sh a).1 ≤ 37)) ∧ (∀ k, k < L → I 1 k = (xs k).toInt) ∧ (∀ k, k < 36 → I 2 k = am_cho k)
theorem am_live {L : Nat} {xs : Nat → Int32} {m sl : Nat} {sh : Nat → Nat × Nat} {I : Nat → Nat → Int} {R : Nat → Nat → Nat} (h : am_okM L xs (m, sl, sh, I, R)) {a : Nat} (ha : (sh a).1 ≠ 98) : a < m ∧ (4 ≤ a ∨ a = 1 ∨ a = 2) := by
  obtain ⟨⟨h4, h0, -, -, h3⟩, -, -, -, hn, -⟩ := h
  refine ⟨Nat.lt_of_not_le (fun q => ha (by rw [hn a q])), ?_⟩
  by_cases z0 : a = 0
  · subst z0; exact absurd (by rw [h0]) ha
  · by_cases z3 : a = 3
    · subst z3; exact absurd (by rw [h3]) ha
    · omega
theorem am_obj {L : Nat} {xs : Nat → Int32} {m sl : Nat} {sh : Nat → Nat × Nat} {I : Nat → Nat → Int} {R : Nat → Nat → Nat} (h : am_okM L xs (m, sl, sh, I, R)) {a : Nat} (ha : (sh a).1 < 32 ∨ (33 ≤ (sh a).1 ∧ (sh a).1 ≤ 37)) : 4 ≤ a ∧ a < m := by
  obtain ⟨h1, h2⟩ := am_live h (a := a) (by omega)
  obtain ⟨⟨-, -, e1, e2, -⟩, -⟩ := h
  refine ⟨?_, h1⟩
  rcases h2 with h2 | h2 | h2
  · exact h2
  · subst h2; rw [e1] at ha; omega
  · subst h2; rw [e2] at ha; omega
theorem am_okM_I {L : Nat} {xs : Nat → Int32} {m sl : Nat} {sh : Nat → Nat × Nat} {I : Nat → Nat → Int} {R : Nat → Nat → Nat} (h : am_okM L xs (m, sl, sh, I, R)) {a k : Nat} {x : Int} (ha : 4 ≤ a) (hx : am_rgk (sh a).1 k x) : am_okM L xs (m, sl, sh, am_up I a k x, R) := by
  obtain ⟨h1, h2, h3, h4, h5, h6, h7, h8⟩ := h
  refine ⟨h1, fun b j => ?_, h3, h4, h5, h6, fun j hj => ?_, fun j hj => ?_⟩
  · unfold am_up
    split
    · rename_i e; rw [e.1, e.2]; exact hx
    · exact h2 b j
  · unfold am_up; rw [if_neg (by omega)]; exact h7 j hj
  · unfold am_up; rw [if_neg (by omega)]; exact h8 j hj
theorem am_okM_R {L : Nat} {xs : Nat → Int32} {m sl : Nat} {sh : Nat → Nat × Nat} {I : Nat → Nat → Int} {R : Nat → Nat → Nat} (h : am_okM L xs (m, sl, sh, I, R)) {a k x : Nat} (hx : x < m) : am_okM L xs (m, sl, sh, I, am_up R a k x) := by
  obtain ⟨h1, h2, h3, h4, h5, h6, h7, h8⟩ := h
  refine ⟨h1, h2, fun b j => ?_, h4, h5, h6, h7, h8⟩
  unfold am_up
  split
  · exact hx
  · exact h3 b j
theorem am_okM_mk {L : Nat} {xs : Nat → Int32} {M : am_M} (h : am_okM L xs M) {kd n : Nat} (hk : kd < 14 ∨ (32 ≤ kd ∧ kd ≤ 37)) (hn : n ≤ 100000) : am_okM L xs (am_mk M kd n) := by
  obtain ⟨m, sl, sh, I, R⟩ := M
  obtain ⟨⟨h4, e0, e1, e2, e3⟩, h2, h3, h5, h6, h7, h8, h9⟩ := h
  have ne : ∀ b, b < m → am_sh1 sh m (kd, n) b = sh b := fun b hb => by unfold am_sh1; rw [if_neg (by omega)]
  refine ⟨⟨Nat.le_succ_of_le h4, ?_, ?_, ?_, ?_⟩, fun b j => ?_, fun b j => ?_, fun b => ?_, fun b hb => ?_, fun b hb hb2 => ?_, fun j hj => ?_, fun j hj => ?_⟩
  · rw [ne 0 (by omega)]; exact e0
  · rw [ne 1 (by omega)]; exact e1
  · rw [ne 2 (by omega)]; exact e2
  · rw [ne 3 (by omega)]; exact e3
  · unfold am_sh1 am_zero
    split
    · exact am_rgk0 _ _
    · exact h2 b j
  · unfold am_zero
    split
    · omega
    · exact Nat.lt_succ_of_lt (h3 b j)
  · unfold am_sh1
    split
    · exact hn
    · exact h5 b
  · unfold am_sh1; rw [if_neg (by omega)]; exact h6 b (by omega)
  · unfold am_sh1
    split
    · exact hk
    · exact h7 b hb (by omega)
  · unfold am_zero; rw [if_neg (by omega)]; exact h8 j hj
  · unfold am_zero; rw [if_neg (by omega)]; exact h9 j hj
theorem am_okM_cpy {L : Nat} {xs : Nat → Int32} {m sl : Nat} {sh : Nat → Nat × Nat} {I : Nat → Nat → Int} {R : Nat → Nat → Nat} (h : am_okM L xs (m, sl, sh, I, R)) {s sp d dp n : Nat} (hd : 4 ≤ d) (hk : (sh s).1 = (sh d).1) (hk2 : (sh d).1 = 32 ∨ (sh d).1 = 35) : am_okM L xs (m, sl, sh, am_cpy I s sp d dp n, R) := by
  obtain ⟨h1, h2, h3, h4, h5, h6, h7, h8⟩ := h
  refine ⟨h1, fun b j => ?_, h3, h4, h5, h6, fun j hj => ?_, fun j hj => ?_⟩
  · unfold am_cpy
    split
    · rename_i e
      rw [e.1, ← hk]
      have := h2 s (sp + (j - dp))
      rw [hk] at this ⊢
      unfold am_rgk at this ⊢
      rcases hk2 with q | q
      · rw [q] at this ⊢; simpa using this
      · rw [q] at this ⊢; simpa using this
    · exact h2 b j
  · unfold am_cpy; rw [if_neg (by omega)]; exact h7 j hj
  · unfold am_cpy; rw [if_neg (by omega)]; exact h8 j hj
