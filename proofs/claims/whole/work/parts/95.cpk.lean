/-! kitchen(): the two together -/
/-- a text with a FAULT -/
theorem cp_fault {X : Nat → Int} {I J K : Nat → Nat → Int} {k : Int} (h : cp X I) (c : txF I J k) (r : txR2 J K k) : cp X K := by
  obtain ⟨c1, c2, c3, c4⟩ := c
  obtain ⟨r1, r2, r3, r4, r5, r6⟩ := r
  have co := cp_core h
  obtain ⟨-, -, -, -, -, -, t, x, f, v, p⟩ := h
  have e124 : J 124 = I 124 := c1 124 (by omega)
  have e126 : J 126 = I 126 := c1 126 (by omega)
  have el : lw J = lw I := by unfold lw; rw [e124, e126]
  have eq : ∀ a, a ≠ 4 → ¬ (40 ≤ a ∧ a ≤ 55) → ¬ (58 ≤ a ∧ a ≤ 60) → a ≠ 124 → a ≠ 126 → a ≠ 127 → a ≠ 131 → a ≠ 134 → a ≠ 159 → K a = I a := fun a a1 a2 a3 a4 a5 a6 a7 a8 a9 => by rw [r1 a a4 a5 a6 a7 a8 a9, c1 a (by omega)]
  have k4 : K 4 = J 4 := r1 4 (by decide) (by decide) (by decide) (by decide) (by decide) (by decide)
  have k55 : K 55 = J 55 := r1 55 (by decide) (by decide) (by decide) (by decide) (by decide) (by decide)
  refine core_cp (core_fr co (fun a ha => eq a (by omega) (by omega) (by omega) (by omega) (by omega) (by omega) (by omega) (by omega) (by omega)) (by rw [eq 92 (by omega) (by omega) (by omega) (by omega) (by omega) (by omega) (by omega) (by omega) (by omega)]) (by rw [eq 108 (by omega) (by omega) (by omega) (by omega) (by omega) (by omega) (by omega) (by omega) (by omega)]) (by rw [r2 22 (by omega), e124]) (Or.inr ⟨r5, by rw [r6, el]⟩)) ?_ ?_ ?_ ?_ ?_
  · exact ⟨0, by decide, by rw [k55, c4]; rfl, by rw [r3]; rfl, fun i hi => absurd hi (Nat.not_lt_zero i)⟩
  · unfold cpX at x ⊢
    rw [k4, c2 15 (by decide), r2 29 (by omega), e124, eq 135 (by omega) (by omega) (by omega) (by omega) (by omega) (by omega) (by omega) (by omega) (by omega), eq 89 (by omega) (by omega) (by omega) (by omega) (by omega) (by omega) (by omega) (by omega) (by omega)]
    exact x
  · unfold cpF at f ⊢
    rw [k4, c3, r4, c2 17 (by decide), r2 26 (by omega), e124]
    exact ⟨rfl, f.2⟩
  · unfold cpV at v ⊢
    rw [eq 80 (by omega) (by omega) (by omega) (by omega) (by omega) (by omega) (by omega) (by omega) (by omega), r2 49 (by omega), e124, eq 85 (by omega) (by omega) (by omega) (by omega) (by omega) (by omega) (by omega) (by omega) (by omega), eq 153 (by omega) (by omega) (by omega) (by omega) (by omega) (by omega) (by omega) (by omega) (by omega)]
    exact v
  · unfold cpP at p ⊢
    rw [eq 86 (by omega) (by omega) (by omega) (by omega) (by omega) (by omega) (by omega) (by omega) (by omega), r2 53 (by omega), e124, eq 88 (by omega) (by omega) (by omega) (by omega) (by omega) (by omega) (by omega) (by omega) (by omega), eq 156 (by omega) (by omega) (by omega) (by omega) (by omega) (by omega) (by omega) (by omega) (by omega)]
    exact p
theorem cp_kitchen {X : Nat → Int} {I J K : Nat → Nat → Int} {S : KS} (h : cp X I) (c : ktC I J S) (r : ktR J K S) : cp X K := by
  obtain ⟨c1, c2, c3, c4, c5, c6, c7, c8, c9⟩ := c
  obtain ⟨r1, r2, r3, r4, r5, r6, r7, r8, r9⟩ := r
  obtain ⟨cc, -, -, -, hh, ⟨i0, i1⟩, t, x, f, v, p⟩ := h
  have e124 : J 124 = I 124 := c1 124 (by omega)
  have cl : ∀ a, a ≠ 124 → a ≠ 126 → a ≠ 127 → a ≠ 130 → a ≠ 131 → K a = J a := r1
  have eq : ∀ a, ¬ (a = 4 ∨ 6 ≤ a ∧ a ≤ 14 ∨ a = 16 ∨ a = 22 ∨ 40 ≤ a ∧ a ≤ 55 ∨ 58 ≤ a ∧ a ≤ 60 ∨ a = 124 ∨ a = 126 ∨ a = 127 ∨ a = 130 ∨ a = 131) → K a = I a := fun a ha => by rw [cl a (by omega) (by omega) (by omega) (by omega) (by omega), c1 a (by omega)]
  have elk : lw K = K 126 := by unfold lw; rw [r6]; rfl
  have im : ∀ k, k < 2 → cpI I k → cpI K k := by
    intro k hk ⟨a, b, d⟩
    unfold cpI kpW kpN
    rw [eq 133 (by omega), eq 128 (by omega), eq 132 (by omega)]
    refine ⟨by rw [eq _ (by omega)]; exact a, b, fun hk => ?_⟩
    obtain ⟨d1, d2, d3⟩ := d hk
    exact ⟨kit_fr d1 (fun a h1 h2 => eq a (by omega)), cpG_fr d2 (eq _ (by omega)) (eq _ (by omega)), sen_fr d3 (eq _ (by omega)) (eq _ (by omega)) (eq _ (by omega)) (eq _ (by omega))⟩
  refine ⟨?_, ⟨?_, Or.inr r6⟩, ?_, ?_, ?_, ⟨im 0 (by decide) i0, im 1 (by decide) i1⟩, ?_, ?_, ?_, ?_, ?_⟩
  · unfold cpC at cc ⊢; rw [eq 1 (by omega), eq 2 (by omega), eq 57 (by omega)]; exact cc
  · rw [elk]
    have k1 : kit K 6 S.2.1 (fun s => (nm27 (S.2.2.2 s) : Int)) := kit_fr c5 (fun a h1 h2 => cl a (by omega) (by omega) (by omega) (by omega) (by omega))
    have k2 := kit_row k1 r7
    have n1 := (nS_row r7).1
    refine ⟨k2.1, k2.2.1, k2.2.2.1, fun s hs => ?_, k2.2.2.2.2⟩
    have := k2.2.2.2.1 s hs
    rw [n1] at hs
    rw [r9 s hs]
    exact this
  · refine ⟨[], pl_fr c6 (cl 14 (by decide) (by decide) (by decide) (by decide) (by decide)) (cl 15 (by decide) (by decide) (by decide) (by decide) (by decide)), ⟨?_, fun k hk => absurd hk (Nat.not_lt_zero k)⟩, fun k hk => absurd hk (Nat.not_lt_zero k)⟩
    unfold pw
    rw [r8 (58 + 0) (by decide) (by decide)]; rfl
  · rw [elk]
    exact Or.inl ⟨r8 2059 (by decide) (by decide), by rw [cl 16 (by decide) (by decide) (by decide) (by decide) (by decide)]; exact c7⟩
  · obtain ⟨H, ⟨o, o1, o2, o3, o4, o5⟩, h2, h3⟩ := hh
    have k22 : K 22 = J 22 := cl 22 (by decide) (by decide) (by decide) (by decide) (by decide)
    exact ⟨[], ⟨o, o1, by decide, by rw [k22, c8]; exact o3, by rw [k22, c9]; rfl, fun j hj => absurd hj (Nat.not_lt_zero j)⟩, ⟨by rw [r5]; rfl, fun j hj => absurd hj (Nat.not_lt_zero j)⟩, fun j hj => absurd hj (Nat.not_lt_zero j)⟩
  · exact ⟨0, by decide, by rw [cl 55 (by decide) (by decide) (by decide) (by decide) (by decide), c4]; rfl, by rw [r3]; rfl, fun i hi => absurd hi (Nat.not_lt_zero i)⟩
  · unfold cpX at x ⊢
    rw [cl 4 (by decide) (by decide) (by decide) (by decide) (by decide), c2 15 (by decide), r2 29 (by omega), e124, eq 135 (by omega), eq 89 (by omega)]
    exact x
  · unfold cpF at f ⊢
    rw [cl 4 (by decide) (by decide) (by decide) (by decide) (by decide), c3, r4, c2 17 (by decide), r2 26 (by omega), e124]
    exact ⟨rfl, f.2⟩
  · unfold cpV at v ⊢
    rw [eq 80 (by omega), r2 49 (by omega), e124, eq 85 (by omega), eq 153 (by omega)]
    exact v
  · unfold cpP at p ⊢
    rw [eq 86 (by omega), r2 53 (by omega), e124, eq 88 (by omega), eq 156 (by omega)]
    exact p
