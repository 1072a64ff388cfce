/-! SERVED by the class: mostFrom, leastAsGood -/
theorem dn_z {x o : Nat} : dn x o = 0 ↔ x &&& o = x := by
  constructor
  · intro h
    rw [sub_tb]
    intro i hi
    have t : (dn x o).testBit i = false := by rw [h]; exact Nat.zero_testBit i
    rw [dn_tb, hi, Bool.true_and] at t
    simpa using t
  · intro h
    unfold dn
    rw [h, Nat.xor_self]
section SV
variable {m sl : Nat} {sh : Nat → Nat × Nat} {I : Nat → Nat → Int} {R : Nat → Nat → Nat} {Q : am_R → am_M → Prop} {d : Nat} {n e S r Dm : Nat}
theorem w_mostFrom (hw : wd sh R) (hn : n ≤ 8) (he : e < 128) (hr : I 82 e = (r : Int)) (hr2 : r < 249) (hD : I 81 r = (Dm : Int)) (hDm : Dm < 2 ^ n) (hS : S < 2 ^ n) (h0 : I 83 0 = 0) (hG : ∀ U, U < 2 ^ n → -1000000 ≤ I 83 U ∧ I 83 U ≤ 1000) (hT : ∀ U, U < 2 ^ n → 0 ≤ I 84 ((e + 1) * 256 + U) ∧ I 84 ((e + 1) * 256 + U) ≤ 1000000) (h : ∀ x, (∀ U, U &&& dn Dm S = U → I 83 U + I 84 ((e + 1) * 256 + (S ||| U)) ≤ x) → (∃ U, U &&& dn Dm S = U ∧ I 83 U + I 84 ((e + 1) * 256 + (S ||| U)) = x) → Q (am_yi x) (m, sl, sh, I, R)) : am_wp (d) 98 0 [some (.inr (.inr (80))), some (.inl ((e : Int))), some (.inl ((S : Int))), none, none, none, none] [] (m, sl, sh, I, R) Q := by
  have p8 : 2 ^ n ≤ 256 := Nat.pow_le_pow_right (n := 2) (by decide) hn
  have ol := dn_le (g := Dm) (s := S)
  have hh : ((e : Int) + 1) * 256 = (((e + 1) * 256 : Nat) : Int) := by omega
  have or_lt : ∀ U, U &&& dn Dm S = U → U < 2 ^ n ∧ S ||| U < 2 ^ n := fun U hU => by
    have : U ≤ dn Dm S := by rw [← hU]; exact Nat.and_le_right
    exact ⟨by omega, Nat.or_lt_two_pow hS (by omega)⟩
  refine am_wp_go rfl (by simp (disch := omega) only [s80 hw, r80_0 hw, r80_1 hw, r80_3 hw, s81 hw, s82 hw, s84 hw, hr, hD, am_dnN, hh, am_tnA, am_addE, am_subE, am_mulE, am_laddE, am_lsubE, am_upO, am_upS, am_stS, am_stO, am_tnn, am_brl, am_brg, am_bre, am_brn, am_brG, am_brL, am_st1, am_no2, am_st2, am_clr, and_self, true_and, and_true, true_or, or_true, List.length_cons, List.length_nil] <;> omega) ?_
  try simp (disch := omega) only [s80 hw, r80_0 hw, r80_1 hw, r80_3 hw, s81 hw, s82 hw, s84 hw, hr, hD, am_dnN, hh, am_tnA, am_addE, am_subE, am_mulE, am_laddE, am_lsubE, am_upO, am_upS, am_stS, am_stO, am_tnn, am_brl, am_brg, am_bre, am_brn, am_brG, am_brL, am_st1, am_no2, am_st2, am_clr]
  generalize hop : dn Dm S = o at *
  have LP : ∀ y : Nat, ∀ x : Int, y &&& o = y → (∀ U, U &&& o = U → (y < U ∨ U = 0) → I 83 U + I 84 ((e + 1) * 256 + (S ||| U)) ≤ x) → (∃ U, U &&& o = U ∧ I 83 U + I 84 ((e + 1) * 256 + (S ||| U)) = x) → am_wp (d) 98 39 [some (.inr (.inr (80))), some (.inl ((e : Int))), some (.inl ((S : Int))), some (.inl ((((e + 1) * 256 : Nat) : Int))), some (.inl ((o : Int))), some (.inl (x)), some (.inl ((y : Int)))] [] (m, sl, sh, I, R) Q := by
    refine am_lm (P := fun y => ∀ x : Int, y &&& o = y → (∀ U, U &&& o = U → (y < U ∨ U = 0) → I 83 U + I 84 ((e + 1) * 256 + (S ||| U)) ≤ x) → (∃ U, U &&& o = U ∧ I 83 U + I 84 ((e + 1) * 256 + (S ||| U)) = x) → am_wp (d) 98 39 [some (.inr (.inr (80))), some (.inl ((e : Int))), some (.inl ((S : Int))), some (.inl ((((e + 1) * 256 : Nat) : Int))), some (.inl ((o : Int))), some (.inl (x)), some (.inl ((y : Int)))] [] (m, sl, sh, I, R) Q) id (fun y ih x hy h1 h2 => ?_)
    refine am_wp_go rfl (by simp (disch := omega) only [am_dnN, hh, am_tnA, am_addE, am_subE, am_mulE, am_laddE, am_lsubE, am_upO, am_upS, am_stS, am_stO, am_tnn, am_brl, am_brg, am_bre, am_brn, am_brG, am_brL, am_st1, am_no2, am_st2, am_clr, and_self, true_and, and_true, true_or, or_true, List.length_cons, List.length_nil] <;> omega) ?_
    try simp (disch := omega) only [am_dnN, hh, am_tnA, am_addE, am_subE, am_mulE, am_laddE, am_lsubE, am_upO, am_upS, am_stS, am_stO, am_tnn, am_brl, am_brg, am_bre, am_brn, am_brG, am_brL, am_st1, am_no2, am_st2, am_clr]
    refine am_wp_br (fun b41 => ?_) (fun b41 => ?_)
    · refine am_wp_go rfl (by simp (disch := omega) only [am_dnN, hh, am_tnA, am_addE, am_subE, am_mulE, am_laddE, am_lsubE, am_upO, am_upS, am_stS, am_stO, am_tnn, am_brl, am_brg, am_bre, am_brn, am_brG, am_brL, am_st1, am_no2, am_st2, am_clr, and_self, true_and, and_true, true_or, or_true, List.length_cons, List.length_nil] <;> omega) ?_
      try simp (disch := omega) only [am_dnN, hh, am_tnA, am_addE, am_subE, am_mulE, am_laddE, am_lsubE, am_upO, am_upS, am_stS, am_stO, am_tnn, am_brl, am_brg, am_bre, am_brn, am_brG, am_brL, am_st1, am_no2, am_st2, am_clr]
      refine am_wp_ret rfl rfl ?_
      exact h x (fun U hU => h1 U hU (by omega)) h2
    · have oy := or_lt y hy
      have gy := hG y oy.1
      have ty := hT _ oy.2
      have nx := fun U hU => sub_next n o y U (by omega) hy hU (by omega)
      have lt : ((y - 1) &&& o) < y := by have := @Nat.and_le_left (y - 1) o; omega
      have y1 : ((y : Int)) - 1 = ((y - 1 : Nat) : Int) := by omega
      refine am_wp_go rfl (by simp (disch := omega) only [s80 hw, r80_2 hw, r80_3 hw, s83 hw, s84 hw, am_orN, am_andN, am_tnA, y1, am_addE, am_subE, am_mulE, am_laddE, am_lsubE, am_upO, am_upS, am_stS, am_stO, am_tnn, am_brl, am_brg, am_bre, am_brn, am_brG, am_brL, am_st1, am_no2, am_st2, am_clr, and_self, true_and, and_true, true_or, or_true, List.length_cons, List.length_nil] <;> omega) ?_
      try simp (disch := omega) only [s80 hw, r80_2 hw, r80_3 hw, s83 hw, s84 hw, am_orN, am_andN, am_tnA, y1, am_addE, am_subE, am_mulE, am_laddE, am_lsubE, am_upO, am_upS, am_stS, am_stO, am_tnn, am_brl, am_brg, am_bre, am_brn, am_brG, am_brL, am_st1, am_no2, am_st2, am_clr]
      have nxt : ∀ z : Int, (z = x ∨ z = I 83 y + I 84 ((e + 1) * 256 + (S ||| y))) → x ≤ z → I 83 y + I 84 ((e + 1) * 256 + (S ||| y)) ≤ z → am_wp (d) 98 39 [some (.inr (.inr (80))), some (.inl ((e : Int))), some (.inl ((S : Int))), some (.inl ((((e + 1) * 256 : Nat) : Int))), some (.inl ((o : Int))), some (.inl (z)), some (.inl ((((y - 1) &&& o : Nat) : Int)))] [] (m, sl, sh, I, R) Q := by
        intro z z1 z2 z3
        refine ih _ lt z sub_sub (fun U hU hc => ?_) ?_
        · by_cases hyU : U = y
          · rw [hyU]; exact z3
          · have : y < U ∨ U = 0 := by
              rcases hc with hc | hc
              · have := (nx U hU); omega
              · exact Or.inr hc
            have := h1 U hU this; omega
        · rcases z1 with z1 | z1
          · rw [z1]; exact h2
          · exact ⟨y, hy, z1.symm⟩
      by_cases hc : x < I 83 y + I 84 ((e + 1) * 256 + (S ||| y))
      · refine am_wp_ls (nxt _ (Or.inr rfl) (by omega) (Int.le_refl _)) ?_
        rw [if_pos hc]
      · refine am_wp_ls (nxt x (Or.inl rfl) (Int.le_refl _) (by omega)) ?_
        rw [if_neg hc]
  refine am_wp_ls (LP o _ (Nat.and_self o) (fun U hU hc => ?_) ⟨0, Nat.zero_and o, ?_⟩) rfl
  · rcases hc with hc | hc
    · have : U ≤ o := by rw [← hU]; exact Nat.and_le_right
      omega
    · rw [hc, h0, Nat.or_zero]; omega
  · rw [h0, Nat.or_zero]; omega
theorem w_leastAsGood (hw : wd sh R) (hn : n ≤ 8) (he : e < 128) (hr : I 82 e = (r : Int)) (hr2 : r < 249) (hD : I 81 r = (Dm : Int)) (hDm : Dm < 2 ^ n) (hS : S < 2 ^ n) (hG : ∀ U, U < 2 ^ n → -1000000 ≤ I 83 U ∧ I 83 U ≤ 1000) (hT : ∀ U, U < 2 ^ n → 0 ≤ I 84 ((e + 1) * 256 + U) ∧ I 84 ((e + 1) * 256 + U) ≤ 1000000) (hex : ∃ U, U &&& dn Dm S = U ∧ I 83 U + I 84 ((e + 1) * 256 + (S ||| U)) = I 84 (e * 256 + S)) (h : ∀ x : Nat, x &&& dn Dm S = x → I 83 x + I 84 ((e + 1) * 256 + (S ||| x)) = I 84 (e * 256 + S) → (∀ U, U &&& dn Dm S = U → I 83 U + I 84 ((e + 1) * 256 + (S ||| U)) = I 84 (e * 256 + S) → x ≤ U) → Q (am_yi x) (m, sl, sh, I, R)) : am_wp (d) 100 0 [some (.inr (.inr (80))), some (.inl ((e : Int))), some (.inl ((S : Int))), none, none, none, none] [] (m, sl, sh, I, R) Q := by
  have p8 : 2 ^ n ≤ 256 := Nat.pow_le_pow_right (n := 2) (by decide) hn
  have ol := dn_le (g := Dm) (s := S)
  have hh : ((e : Int) + 1) * 256 = (((e + 1) * 256 : Nat) : Int) := by omega
  have hh2 : (e : Int) * 256 = ((e * 256 : Nat) : Int) := by omega
  have or_lt : ∀ U, U &&& dn Dm S = U → U < 2 ^ n ∧ S ||| U < 2 ^ n := fun U hU => by
    have : U ≤ dn Dm S := by rw [← hU]; exact Nat.and_le_right
    exact ⟨by omega, Nat.or_lt_two_pow hS (by omega)⟩
  refine am_wp_go rfl (by simp (disch := omega) only [s80 hw, r80_0 hw, r80_1 hw, r80_3 hw, s81 hw, s82 hw, s84 hw, hr, hD, am_dnN, hh, hh2, am_tnA, am_addE, am_subE, am_mulE, am_laddE, am_lsubE, am_upO, am_upS, am_stS, am_stO, am_tnn, am_brl, am_brg, am_bre, am_brn, am_brG, am_brL, am_st1, am_no2, am_st2, am_clr, and_self, true_and, and_true, true_or, or_true, List.length_cons, List.length_nil] <;> omega) ?_
  try simp (disch := omega) only [s80 hw, r80_0 hw, r80_1 hw, r80_3 hw, s81 hw, s82 hw, s84 hw, hr, hD, am_dnN, hh, hh2, am_tnA, am_addE, am_subE, am_mulE, am_laddE, am_lsubE, am_upO, am_upS, am_stS, am_stO, am_tnn, am_brl, am_brg, am_bre, am_brn, am_brG, am_brL, am_st1, am_no2, am_st2, am_clr]
  generalize hop : dn Dm S = o at *
  obtain ⟨U0, u1, u2⟩ := hex
  have u3 := or_lt U0 u1
  have LP : ∀ y : Nat, y ≤ 256 → (∀ U, U &&& o = U → I 83 U + I 84 ((e + 1) * 256 + (S ||| U)) = I 84 (e * 256 + S) → y ≤ U) → am_wp (d) 100 42 [some (.inr (.inr (80))), some (.inl ((e : Int))), some (.inl ((S : Int))), some (.inl ((((e + 1) * 256 : Nat) : Int))), some (.inl ((o : Int))), some (.inl (I 84 (e * 256 + S))), some (.inl ((y : Int)))] [] (m, sl, sh, I, R) Q := by
    refine am_lp 256 (fun y hy ih h1 => ?_)
    refine am_wp_go rfl (by simp (disch := omega) only [am_dnN, am_addE, am_subE, am_mulE, am_laddE, am_lsubE, am_upO, am_upS, am_stS, am_stO, am_tnn, am_brl, am_brg, am_bre, am_brn, am_brG, am_brL, am_st1, am_no2, am_st2, am_clr, and_self, true_and, and_true, true_or, or_true, List.length_cons, List.length_nil] <;> omega) ?_
    try simp (disch := omega) only [am_dnN, am_addE, am_subE, am_mulE, am_laddE, am_lsubE, am_upO, am_upS, am_stS, am_stO, am_tnn, am_brl, am_brg, am_bre, am_brn, am_brG, am_brL, am_st1, am_no2, am_st2, am_clr]
    refine am_wp_br (fun b47 => ?_) (fun b47 => ?_)
    · have := h1 U0 u1 u2
      omega
    · have ih := ih (by omega)
      have z := dn_z (x := y) (o := o)
      refine am_wp_go rfl (by simp (disch := omega) only [am_dnN, am_addE, am_subE, am_mulE, am_laddE, am_lsubE, am_upO, am_upS, am_stS, am_stO, am_tnn, am_brl, am_brg, am_bre, am_brn, am_brG, am_brL, am_st1, am_no2, am_st2, am_clr, and_self, true_and, and_true, true_or, or_true, List.length_cons, List.length_nil] <;> omega) ?_
      try simp (disch := omega) only [am_dnN, am_addE, am_subE, am_mulE, am_laddE, am_lsubE, am_upO, am_upS, am_stS, am_stO, am_tnn, am_brl, am_brg, am_bre, am_brn, am_brG, am_brL, am_st1, am_no2, am_st2, am_clr]
      refine am_wp_br (fun b57 => ?_) (fun b57 => ?_)
      · have hno : ¬ y &&& o = y := fun hc => by have := z.mpr hc; omega
        refine am_wp_go rfl (by simp (disch := omega) only [am_dnN, am_addE, am_subE, am_mulE, am_laddE, am_lsubE, am_upO, am_upS, am_stS, am_stO, am_tnn, am_brl, am_brg, am_bre, am_brn, am_brG, am_brL, am_st1, am_no2, am_st2, am_clr, and_self, true_and, and_true, true_or, or_true, List.length_cons, List.length_nil] <;> omega) ?_
        try simp (disch := omega) only [am_dnN, am_addE, am_subE, am_mulE, am_laddE, am_lsubE, am_upO, am_upS, am_stS, am_stO, am_tnn, am_brl, am_brg, am_bre, am_brn, am_brG, am_brL, am_st1, am_no2, am_st2, am_clr]
        refine am_wp_ls (ih (fun U hU hE => ?_)) rfl
        have := h1 U hU hE
        by_cases e : U = y
        · subst e; exact absurd hU hno
        · omega
      · have hy2 : y &&& o = y := z.mp (by omega)
        have oy := or_lt y hy2
        have gy := hG y oy.1
        have ty := hT _ oy.2
        refine am_wp_go rfl (by simp (disch := omega) only [s80 hw, r80_2 hw, r80_3 hw, s83 hw, s84 hw, am_orN, am_tnA, am_addE, am_subE, am_mulE, am_laddE, am_lsubE, am_upO, am_upS, am_stS, am_stO, am_tnn, am_brl, am_brg, am_bre, am_brn, am_brG, am_brL, am_st1, am_no2, am_st2, am_clr, and_self, true_and, and_true, true_or, or_true, List.length_cons, List.length_nil] <;> omega) ?_
        try simp (disch := omega) only [s80 hw, r80_2 hw, r80_3 hw, s83 hw, s84 hw, am_orN, am_tnA, am_addE, am_subE, am_mulE, am_laddE, am_lsubE, am_upO, am_upS, am_stS, am_stO, am_tnn, am_brl, am_brg, am_bre, am_brn, am_brG, am_brL, am_st1, am_no2, am_st2, am_clr]
        refine am_wp_br (fun b81 => ?_) (fun b81 => ?_)
        · refine am_wp_go rfl (by simp (disch := omega) only [s80 hw, r80_2 hw, r80_3 hw, s83 hw, s84 hw, am_orN, am_tnA, am_addE, am_subE, am_mulE, am_laddE, am_lsubE, am_upO, am_upS, am_stS, am_stO, am_tnn, am_brl, am_brg, am_bre, am_brn, am_brG, am_brL, am_st1, am_no2, am_st2, am_clr, and_self, true_and, and_true, true_or, or_true, List.length_cons, List.length_nil] <;> omega) ?_
          try simp (disch := omega) only [s80 hw, r80_2 hw, r80_3 hw, s83 hw, s84 hw, am_orN, am_tnA, am_addE, am_subE, am_mulE, am_laddE, am_lsubE, am_upO, am_upS, am_stS, am_stO, am_tnn, am_brl, am_brg, am_bre, am_brn, am_brG, am_brL, am_st1, am_no2, am_st2, am_clr]
          refine am_wp_ls (ih (fun U hU hE => ?_)) rfl
          have := h1 U hU hE
          by_cases e : U = y
          · subst e; exact absurd hE b81
          · omega
        · refine am_wp_go rfl (by simp (disch := omega) only [s80 hw, r80_2 hw, r80_3 hw, s83 hw, s84 hw, am_orN, am_tnA, am_addE, am_subE, am_mulE, am_laddE, am_lsubE, am_upO, am_upS, am_stS, am_stO, am_tnn, am_brl, am_brg, am_bre, am_brn, am_brG, am_brL, am_st1, am_no2, am_st2, am_clr, and_self, true_and, and_true, true_or, or_true, List.length_cons, List.length_nil] <;> omega) ?_
          try simp (disch := omega) only [s80 hw, r80_2 hw, r80_3 hw, s83 hw, s84 hw, am_orN, am_tnA, am_addE, am_subE, am_mulE, am_laddE, am_lsubE, am_upO, am_upS, am_stS, am_stO, am_tnn, am_brl, am_brg, am_bre, am_brn, am_brG, am_brL, am_st1, am_no2, am_st2, am_clr]
          refine am_wp_ret rfl rfl ?_
          exact h y hy2 (Classical.not_not.mp b81) h1
  exact am_wp_ls (LP 0 (by decide) (fun _ _ _ => Nat.zero_le _)) rfl
end SV
