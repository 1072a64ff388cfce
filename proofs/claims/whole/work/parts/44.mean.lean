/-! mean -/
theorem am_ldivE {a b : Int} (h : 0 ≤ a ∧ a ≤ 9223372036854775807 ∧ 0 < b ∧ b ≤ 9223372036854775807) : am_ldiv a b = a / b := by
  have h1 : a.tdiv b = a / b := Int.tdiv_eq_ediv_of_nonneg h.1
  have h2 : 0 ≤ a / b := Int.ediv_nonneg h.1 (by omega)
  have h3 : a / b ≤ a := Int.ediv_le_self _ h.1
  unfold am_ldiv
  rw [← Int64.ofInt_tdiv (by rw [show Int64.minValue.toInt = -9223372036854775808 from by decide]; omega) (by rw [show Int64.maxValue.toInt = 9223372036854775807 from by decide]; omega) (by rw [show Int64.minValue.toInt = -9223372036854775808 from by decide]; omega) (by rw [show Int64.maxValue.toInt = 9223372036854775807 from by decide]; omega), h1]
  exact am_j_eq ⟨by omega, by omega⟩
theorem am_lremE {a b : Int} (h : 0 ≤ a ∧ a ≤ 9223372036854775807 ∧ 0 < b ∧ b ≤ 9223372036854775807) : am_lrem a b = a % b := by
  have h1 : a.tdiv b = a / b := Int.tdiv_eq_ediv_of_nonneg h.1
  have h4 : 0 ≤ a % b := Int.emod_nonneg _ (by omega)
  have h5 : a % b < b := Int.emod_lt_of_pos _ h.2.2.1
  unfold am_lrem
  rw [← Int64.ofInt_tdiv (by rw [show Int64.minValue.toInt = -9223372036854775808 from by decide]; omega) (by rw [show Int64.maxValue.toInt = 9223372036854775807 from by decide]; omega) (by rw [show Int64.minValue.toInt = -9223372036854775808 from by decide]; omega) (by rw [show Int64.maxValue.toInt = 9223372036854775807 from by decide]; omega), h1, ← Int64.ofInt_mul, ← Int64.ofInt_sub]
  rw [show a - a / b * b = a % b by rw [Int.mul_comm]; exact (Int.emod_def a b).symm]
  exact am_j_eq ⟨by omega, by omega⟩
theorem am_lcmpE {a b : Int} : (am_lcmp a b = 0) = (a = b) := by
  unfold am_lcmp
  split
  · simp; omega
  · split <;> simp <;> omega
theorem am_lcmpN {a b : Int} : (am_lcmp a b ≠ 0) = (a ≠ b) := by rw [ne_eq, am_lcmpE]
theorem ax_mul {a b x y : Int} (h1 : 0 ≤ a) (h2 : a ≤ x) (h3 : 0 ≤ b) (h4 : b ≤ y) : 0 ≤ a * b ∧ a * b ≤ x * y := ⟨Int.mul_nonneg h1 h3, Int.mul_le_mul h2 h4 h3 (by omega)⟩
section MEAN
variable {m sl : Nat} {sh : Nat → Nat × Nat} {I : Nat → Nat → Int} {R : Nat → Nat → Nat} {Q : am_R → am_M → Prop} {d : Nat} {W N : Nat → Int}
theorem w_shared {a b : Nat} (ha : a ≤ 100000) (hb : b ≤ 400) (h : Q (am_yj (Nat.gcd a b : Nat)) (m, sl, sh, I, R)) : am_wp (d) 179 0 [some (.inr (.inl ((a : Int)))), none, some (.inr (.inl ((b : Int)))), none, none, none, none, none, none, none, none] [] (m, sl, sh, I, R) Q := by
  refine am_wp_go rfl (by simp (disch := omega) only [am_lcmpE, am_lremE, am_addE, am_subE, am_mulE, am_laddE, am_lsubE, am_upO, am_upS, am_stS, am_stO, am_tnn, am_brl, am_brg, am_bre, am_brn, am_brG, am_brL, am_st1, am_no2, am_st2, am_clr, and_self, true_and, and_true, true_or, or_true, List.length_cons, List.length_nil] <;> omega) ?_
  try simp (disch := omega) only [am_lcmpE, am_lremE, am_addE, am_subE, am_mulE, am_laddE, am_lsubE, am_upO, am_upS, am_stS, am_stO, am_tnn, am_brl, am_brg, am_bre, am_brn, am_brG, am_brL, am_st1, am_no2, am_st2, am_clr]
  have L : ∀ i : Nat, i ≤ 100 → ∀ (x y : Nat) (z : Option am_V), Nat.gcd x y = Nat.gcd a b → x ≤ 100000 → y ≤ 400 → (1 ≤ i → y < x ∧ x * y * 2 ^ (i - 1) ≤ 160000) → am_wp (d) 179 9 [some (.inr (.inl ((a : Int)))), none, some (.inr (.inl ((b : Int)))), none, some (.inr (.inl ((x : Int)))), none, some (.inr (.inl ((y : Int)))), none, some (.inl ((i : Int))), z, none] [] (m, sl, sh, I, R) Q := by
    refine am_lp 100 (fun i hi ih x y z g1 g2 g3 g4 => ?_)
    refine am_wp_go rfl (by simp (disch := omega) only [am_lcmpE, am_lremE, am_addE, am_subE, am_mulE, am_laddE, am_lsubE, am_upO, am_upS, am_stS, am_stO, am_tnn, am_brl, am_brg, am_bre, am_brn, am_brG, am_brL, am_st1, am_no2, am_st2, am_clr, and_self, true_and, and_true, true_or, or_true, List.length_cons, List.length_nil] <;> omega) ?_
    try simp (disch := omega) only [am_lcmpE, am_lremE, am_addE, am_subE, am_mulE, am_laddE, am_lsubE, am_upO, am_upS, am_stS, am_stO, am_tnn, am_brl, am_brg, am_bre, am_brn, am_brG, am_brL, am_st1, am_no2, am_st2, am_clr]
    refine am_wp_br (fun b13 => ?_) (fun b13 => ?_)
    · have h0 : i = 100 := by omega
      subst h0
      have g5 := (g4 (by decide)).2
      have hy : y = 0 := by
        rcases Nat.eq_zero_or_pos y with h | h
        · exact h
        · have h1 : 1 ≤ x * y := Nat.mul_pos (by omega) h
          have h2 : 1 * 2 ^ (100 - 1) ≤ x * y * 2 ^ (100 - 1) := Nat.mul_le_mul_right _ h1
          have h3 : (160000 : Nat) < 1 * 2 ^ (100 - 1) := by decide
          omega
      subst hy
      rw [Nat.gcd_zero_right] at g1
      refine am_wp_go rfl (by simp (disch := omega) only [am_lcmpE, am_lremE, am_addE, am_subE, am_mulE, am_laddE, am_lsubE, am_upO, am_upS, am_stS, am_stO, am_tnn, am_brl, am_brg, am_bre, am_brn, am_brG, am_brL, am_st1, am_no2, am_st2, am_clr, and_self, true_and, and_true, true_or, or_true, List.length_cons, List.length_nil] <;> omega) ?_
      try simp (disch := omega) only [am_lcmpE, am_lremE, am_addE, am_subE, am_mulE, am_laddE, am_lsubE, am_upO, am_upS, am_stS, am_stO, am_tnn, am_brl, am_brg, am_bre, am_brn, am_brG, am_brL, am_st1, am_no2, am_st2, am_clr]
      refine am_wp_ret rfl rfl ?_
      rw [g1]
      exact h
    · refine am_wp_go rfl (by simp (disch := omega) only [am_lcmpE, am_lremE, am_addE, am_subE, am_mulE, am_laddE, am_lsubE, am_upO, am_upS, am_stS, am_stO, am_tnn, am_brl, am_brg, am_bre, am_brn, am_brG, am_brL, am_st1, am_no2, am_st2, am_clr, and_self, true_and, and_true, true_or, or_true, List.length_cons, List.length_nil] <;> omega) ?_
      try simp (disch := omega) only [am_lcmpE, am_lremE, am_addE, am_subE, am_mulE, am_laddE, am_lsubE, am_upO, am_upS, am_stS, am_stO, am_tnn, am_brl, am_brg, am_bre, am_brn, am_brG, am_brL, am_st1, am_no2, am_st2, am_clr]
      refine am_wp_br (fun b20 => ?_) (fun b20 => ?_)
      · have hy : y = 0 := by omega
        subst hy
        rw [Nat.gcd_zero_right] at g1
        refine am_wp_go rfl (by simp (disch := omega) only [am_lcmpE, am_lremE, am_addE, am_subE, am_mulE, am_laddE, am_lsubE, am_upO, am_upS, am_stS, am_stO, am_tnn, am_brl, am_brg, am_bre, am_brn, am_brG, am_brL, am_st1, am_no2, am_st2, am_clr, and_self, true_and, and_true, true_or, or_true, List.length_cons, List.length_nil] <;> omega) ?_
        try simp (disch := omega) only [am_lcmpE, am_lremE, am_addE, am_subE, am_mulE, am_laddE, am_lsubE, am_upO, am_upS, am_stS, am_stO, am_tnn, am_brl, am_brg, am_bre, am_brn, am_brG, am_brL, am_st1, am_no2, am_st2, am_clr]
        refine am_wp_ret rfl rfl ?_
        rw [g1]
        exact h
      · have hy : 0 < y := by omega
        have e : (x : Int) % (y : Int) = ((x % y : Nat) : Int) := by simp
        have hm := Nat.mod_lt x hy
        refine am_wp_go rfl (by simp (disch := omega) only [am_lcmpE, am_lremE, e, am_addE, am_subE, am_mulE, am_laddE, am_lsubE, am_upO, am_upS, am_stS, am_stO, am_tnn, am_brl, am_brg, am_bre, am_brn, am_brG, am_brL, am_st1, am_no2, am_st2, am_clr, and_self, true_and, and_true, true_or, or_true, List.length_cons, List.length_nil] <;> omega) ?_
        try simp (disch := omega) only [am_lcmpE, am_lremE, e, am_addE, am_subE, am_mulE, am_laddE, am_lsubE, am_upO, am_upS, am_stS, am_stO, am_tnn, am_brl, am_brg, am_bre, am_brn, am_brG, am_brL, am_st1, am_no2, am_st2, am_clr]
        refine am_wp_ls (ih (by omega) y (x % y) (some (.inr (.inl ((x % y : Nat) : Int)))) ?_ (by omega) (by omega) (fun _ => ⟨hm, ?_⟩)) rfl
        · rw [Nat.gcd_comm, ← Nat.gcd_rec, Nat.gcd_comm]; exact g1
        · rw [Nat.add_sub_cancel]
          cases i with
          | zero => rw [Nat.pow_zero, Nat.mul_one]; exact Nat.le_trans (Nat.mul_le_mul g3 (show x % y ≤ 400 by omega)) (by decide)
          | succ i =>
            obtain ⟨g5, g6⟩ := g4 (by omega)
            rw [Nat.add_sub_cancel] at g6
            have h1 : y + x % y ≤ x := by
              have h2 := Nat.div_add_mod x y
              have h3 : y * 1 ≤ y * (x / y) := Nat.mul_le_mul_left y ((Nat.one_le_div_iff hy).mpr (by omega))
              omega
            have h2 : 2 * (y * (x % y)) ≤ x * y := by
              have h3 : (y + x % y) * y ≤ x * y := Nat.mul_le_mul_right y h1
              have h4 : x % y * y ≤ y * y := Nat.mul_le_mul_right y (by omega)
              rw [Nat.add_mul] at h3
              rw [Nat.mul_comm y (x % y)]
              omega
            have h3 : y * (x % y) * 2 ^ (i + 1) = 2 * (y * (x % y)) * 2 ^ i := by rw [Nat.pow_succ, Nat.mul_comm (2 ^ i) 2, ← Nat.mul_assoc, Nat.mul_comm (y * (x % y)) 2]
            rw [h3]
            exact Nat.le_trans (Nat.mul_le_mul_right _ h2) g6
  exact am_wp_ls (L 0 (by decide) a b none rfl ha hb (fun h => absurd h (by decide))) rfl
theorem w_M_common {a b : Nat} (ha : a ≤ 100000) (hb : b ≤ 400) (h : Q (am_yj (Nat.gcd a b : Nat)) (m, sl, sh, I, R)) : am_wp (d) 201 0 [some (.inr (.inl ((a : Int)))), none, some (.inr (.inl ((b : Int)))), none, none, none, none, none, none, none] [] (m, sl, sh, I, R) Q := by
  refine am_wp_go rfl (by simp (disch := omega) only [am_lcmpG, am_lremE, am_addE, am_subE, am_mulE, am_laddE, am_lsubE, am_upO, am_upS, am_stS, am_stO, am_tnn, am_brl, am_brg, am_bre, am_brn, am_brG, am_brL, am_st1, am_no2, am_st2, am_clr, and_self, true_and, and_true, true_or, or_true, List.length_cons, List.length_nil] <;> omega) ?_
  try simp (disch := omega) only [am_lcmpG, am_lremE, am_addE, am_subE, am_mulE, am_laddE, am_lsubE, am_upO, am_upS, am_stS, am_stO, am_tnn, am_brl, am_brg, am_bre, am_brn, am_brG, am_brL, am_st1, am_no2, am_st2, am_clr]
  have L : ∀ n y : Nat, y < n → ∀ (x : Nat) (z : Option am_V), Nat.gcd x y = Nat.gcd a b → x ≤ 100000 → y ≤ 400 → am_wp (d) 201 6 [some (.inr (.inl ((a : Int)))), none, some (.inr (.inl ((b : Int)))), none, some (.inr (.inl ((x : Int)))), none, some (.inr (.inl ((y : Int)))), none, z, none] [] (m, sl, sh, I, R) Q := by
    intro n
    induction n with
    | zero => intro y hy; omega
    | succ n ih =>
      intro y hyn x z g1 g2 g3
      refine am_wp_go rfl (by simp (disch := omega) only [am_lcmpG, am_lremE, am_addE, am_subE, am_mulE, am_laddE, am_lsubE, am_upO, am_upS, am_stS, am_stO, am_tnn, am_brl, am_brg, am_bre, am_brn, am_brG, am_brL, am_st1, am_no2, am_st2, am_clr, and_self, true_and, and_true, true_or, or_true, List.length_cons, List.length_nil] <;> omega) ?_
      try simp (disch := omega) only [am_lcmpG, am_lremE, am_addE, am_subE, am_mulE, am_laddE, am_lsubE, am_upO, am_upS, am_stS, am_stO, am_tnn, am_brl, am_brg, am_bre, am_brn, am_brG, am_brL, am_st1, am_no2, am_st2, am_clr]
      refine am_wp_br (fun b10 => ?_) (fun b10 => ?_)
      · have hy : y = 0 := by omega
        subst hy
        rw [Nat.gcd_zero_right] at g1
        refine am_wp_go rfl (by simp (disch := omega) only [am_lcmpG, am_lremE, am_addE, am_subE, am_mulE, am_laddE, am_lsubE, am_upO, am_upS, am_stS, am_stO, am_tnn, am_brl, am_brg, am_bre, am_brn, am_brG, am_brL, am_st1, am_no2, am_st2, am_clr, and_self, true_and, and_true, true_or, or_true, List.length_cons, List.length_nil] <;> omega) ?_
        try simp (disch := omega) only [am_lcmpG, am_lremE, am_addE, am_subE, am_mulE, am_laddE, am_lsubE, am_upO, am_upS, am_stS, am_stO, am_tnn, am_brl, am_brg, am_bre, am_brn, am_brG, am_brL, am_st1, am_no2, am_st2, am_clr]
        refine am_wp_ret rfl rfl ?_
        rw [g1]
        exact h
      · have hy : 0 < y := by omega
        have e : (x : Int) % (y : Int) = ((x % y : Nat) : Int) := by simp
        have hm := Nat.mod_lt x hy
        refine am_wp_go rfl (by simp (disch := omega) only [am_lcmpG, am_lremE, e, am_addE, am_subE, am_mulE, am_laddE, am_lsubE, am_upO, am_upS, am_stS, am_stO, am_tnn, am_brl, am_brg, am_bre, am_brn, am_brG, am_brL, am_st1, am_no2, am_st2, am_clr, and_self, true_and, and_true, true_or, or_true, List.length_cons, List.length_nil] <;> omega) ?_
        try simp (disch := omega) only [am_lcmpG, am_lremE, e, am_addE, am_subE, am_mulE, am_laddE, am_lsubE, am_upO, am_upS, am_stS, am_stO, am_tnn, am_brl, am_brg, am_bre, am_brn, am_brG, am_brL, am_st1, am_no2, am_st2, am_clr]
        refine am_wp_ls (ih (x % y) (by omega) y (some (.inr (.inl ((x % y : Nat) : Int)))) ?_ (by omega) (by omega)) rfl
        rw [Nat.gcd_comm, ← Nat.gcd_rec, Nat.gcd_comm]; exact g1
  exact am_wp_ls (L (b + 1) b (by omega) a none rfl ha hb) rfl
def mnA (W : Nat → Int) (s : Nat) : Int := W 4 * (W (8 + 3 * s) * W 4 + W (8 + 3 * s + 1) * (W 4 - W 3))
def mnB (W : Nat → Int) : Int := (W 4 - W 3) * (W 4 - W 3)
def mnV (W : Nat → Int) (s : Nat) (w : Int) : Int := (if w = 0 then mnA W s else mnB W) / (Nat.gcd (mnA W s).toNat (mnB W).toNat : Nat)
theorem mn_le (hk : wk W) {s : Nat} (hs : s < nS W) : (1 ≤ W 4 ∧ W 4 ≤ 20 ∧ 1 ≤ W 4 - W 3 ∧ W 4 - W 3 ≤ 20) ∧ (0 ≤ W (8 + 3 * s) * W 4 ∧ W (8 + 3 * s) * W 4 ≤ 400) ∧ (0 ≤ W (8 + 3 * s + 1) * (W 4 - W 3) ∧ W (8 + 3 * s + 1) * (W 4 - W 3) ≤ 400) ∧ (0 ≤ mnA W s ∧ mnA W s ≤ 16000) ∧ (1 ≤ mnB W ∧ mnB W ≤ 400) := by
  obtain ⟨⟨h0⟩, h1, -⟩ := hk
  have b := h1 s hs
  have c1 : 1 ≤ W 4 ∧ W 4 ≤ 20 ∧ 1 ≤ W 4 - W 3 ∧ W 4 - W 3 ≤ 20 := by omega
  have c2 := ax_mul (a := W (8 + 3 * s)) (b := W 4) (x := 20) (y := 20) (by omega) (by omega) (by omega) (by omega)
  have c3 := ax_mul (a := W (8 + 3 * s + 1)) (b := W 4 - W 3) (x := 20) (y := 20) (by omega) (by omega) (by omega) (by omega)
  have c4 := ax_mul (a := W 4) (b := W (8 + 3 * s) * W 4 + W (8 + 3 * s + 1) * (W 4 - W 3)) (x := 20) (y := 800) (by omega) (by omega) (by omega) (by omega)
  have c5 := ax_mul (a := W 4 - W 3) (b := W 4 - W 3) (x := 20) (y := 20) (by omega) (by omega) (by omega) (by omega)
  have c6 : 1 * 1 ≤ (W 4 - W 3) * (W 4 - W 3) := Int.mul_le_mul (by omega) (by omega) (by omega) (by omega)
  unfold mnA mnB
  omega
theorem c_mean {s w : Int} (hw : wd sh R) (hk : kit I 6 W N) (h1 : ¬ (0 ≤ s ∧ s < W 5 ∧ 0 ≤ w ∧ w ≤ 1) → Q am_yx (am_mk (m, sl, sh, I, R) 13 6)) (h0 : 0 ≤ s ∧ s < W 5 ∧ 0 ≤ w ∧ w ≤ 1 → Q (am_yj (mnV W s.toNat w)) (m, sl, sh, I, R)) : am_wp (d + 1) 178 0 [some (.inr (.inr (4))), some (.inl (s)), some (.inl (w)), none, none, none, none, none, none, none, none, none, none] [] (m, sl, sh, I, R) Q := by
  have n1 := wk_nS hk.1
  obtain ⟨k1, k2, k3, k4, k5, k6, k7, k8, k9⟩ := hk.2.1
  refine am_wp_go rfl (by simp (disch := omega) only [s4 hw, r4_0 hw, s5 hw, r5_0 hw, s6 hw, r6_11 hw, s7 hw, k4, k5, am_b0, am_addE, am_subE, am_mulE, am_laddE, am_lsubE, am_upO, am_upS, am_stS, am_stO, am_tnn, am_brl, am_brg, am_bre, am_brn, am_brG, am_brL, am_st1, am_no2, am_st2, am_clr, and_self, true_and, and_true, true_or, or_true, List.length_cons, List.length_nil] <;> omega) ?_
  try simp (disch := omega) only [s4 hw, r4_0 hw, s5 hw, r5_0 hw, s6 hw, r6_11 hw, s7 hw, k4, k5, am_b0, am_addE, am_subE, am_mulE, am_laddE, am_lsubE, am_upO, am_upS, am_stS, am_stO, am_tnn, am_brl, am_brg, am_bre, am_brn, am_brG, am_brL, am_st1, am_no2, am_st2, am_clr]
  refine am_wp_cc rfl rfl rfl (congrArg Prod.fst (s6 hw)) (w_hasSlice (kt_w hw (by decide)) hk ⟨_, rfl, ?_⟩)
  refine am_wp_go rfl (by simp (disch := omega) only [s4 hw, r4_0 hw, s5 hw, r5_0 hw, s6 hw, r6_11 hw, s7 hw, k4, k5, am_b0, am_addE, am_subE, am_mulE, am_laddE, am_lsubE, am_upO, am_upS, am_stS, am_stO, am_tnn, am_brl, am_brg, am_bre, am_brn, am_brG, am_brL, am_st1, am_no2, am_st2, am_clr, and_self, true_and, and_true, true_or, or_true, List.length_cons, List.length_nil] <;> omega) ?_
  try simp (disch := omega) only [s4 hw, r4_0 hw, s5 hw, r5_0 hw, s6 hw, r6_11 hw, s7 hw, k4, k5, am_b0, am_addE, am_subE, am_mulE, am_laddE, am_lsubE, am_upO, am_upS, am_stS, am_stO, am_tnn, am_brl, am_brg, am_bre, am_brn, am_brG, am_brL, am_st1, am_no2, am_st2, am_clr]
  refine am_wp_br (fun b11 => ?_) (fun b11 => ?_)
  · refine am_wp_ret rfl rfl ?_
    exact h1 (by omega)
  · refine am_wp_go rfl (by simp (disch := omega) only [s4 hw, r4_0 hw, s5 hw, r5_0 hw, s6 hw, r6_11 hw, s7 hw, k4, k5, am_b0, am_addE, am_subE, am_mulE, am_laddE, am_lsubE, am_upO, am_upS, am_stS, am_stO, am_tnn, am_brl, am_brg, am_bre, am_brn, am_brG, am_brL, am_st1, am_no2, am_st2, am_clr, and_self, true_and, and_true, true_or, or_true, List.length_cons, List.length_nil] <;> omega) ?_
    try simp (disch := omega) only [s4 hw, r4_0 hw, s5 hw, r5_0 hw, s6 hw, r6_11 hw, s7 hw, k4, k5, am_b0, am_addE, am_subE, am_mulE, am_laddE, am_lsubE, am_upO, am_upS, am_stS, am_stO, am_tnn, am_brl, am_brg, am_bre, am_brn, am_brG, am_brL, am_st1, am_no2, am_st2, am_clr]
    refine am_wp_br (fun b15 => ?_) (fun b15 => ?_)
    · refine am_wp_ret rfl rfl ?_
      exact h1 (by omega)
    · refine am_wp_go rfl (by simp (disch := omega) only [s4 hw, r4_0 hw, s5 hw, r5_0 hw, s6 hw, r6_11 hw, s7 hw, k4, k5, am_b0, am_addE, am_subE, am_mulE, am_laddE, am_lsubE, am_upO, am_upS, am_stS, am_stO, am_tnn, am_brl, am_brg, am_bre, am_brn, am_brG, am_brL, am_st1, am_no2, am_st2, am_clr, and_self, true_and, and_true, true_or, or_true, List.length_cons, List.length_nil] <;> omega) ?_
      try simp (disch := omega) only [s4 hw, r4_0 hw, s5 hw, r5_0 hw, s6 hw, r6_11 hw, s7 hw, k4, k5, am_b0, am_addE, am_subE, am_mulE, am_laddE, am_lsubE, am_upO, am_upS, am_stS, am_stO, am_tnn, am_brl, am_brg, am_bre, am_brn, am_brG, am_brL, am_st1, am_no2, am_st2, am_clr]
      refine am_wp_br (fun b20 => ?_) (fun b20 => ?_)
      · obtain ⟨s, rfl⟩ : ∃ j : Nat, s = (j : Int) := ⟨s.toNat, by omega⟩
        have h := h0 (by omega)
        rw [am_tnn] at h
        obtain ⟨c1, c2, c3, c4, c5⟩ := mn_le hk.1 (s := s) (by omega)
        have o3 := hk.2.2.1 s (by omega)
        have eA : W 4 * (W (8 + 3 * s) * W 4 + W (8 + 3 * s + 1) * (W 4 - W 3)) = mnA W s := rfl
        have eB : (W 4 - W 3) * (W 4 - W 3) = mnB W := rfl
        have c4' : 0 ≤ W 4 * (W (8 + 3 * s) * W 4 + W (8 + 3 * s + 1) * (W 4 - W 3)) ∧ W 4 * (W (8 + 3 * s) * W 4 + W (8 + 3 * s + 1) * (W 4 - W 3)) ≤ 16000 := c4
        have c5' : 1 ≤ (W 4 - W 3) * (W 4 - W 3) ∧ (W 4 - W 3) * (W 4 - W 3) ≤ 400 := c5
        obtain ⟨A, hA⟩ : ∃ A : Nat, mnA W s = (A : Int) := ⟨(mnA W s).toNat, by omega⟩
        obtain ⟨B, hB⟩ : ∃ B : Nat, mnB W = (B : Int) := ⟨(mnB W).toNat, by omega⟩
        refine am_wp_go rfl (by simp (disch := omega) only [s4 hw, r4_0 hw, s5 hw, r5_0 hw, s6 hw, r6_11 hw, s7 hw, k4, k5, o3.1, o3.2, am_lmulE, am_tnA, am_tnM, Int.reduceToNat, am_addE, am_subE, am_mulE, am_laddE, am_lsubE, am_upO, am_upS, am_stS, am_stO, am_tnn, am_brl, am_brg, am_bre, am_brn, am_brG, am_brL, am_st1, am_no2, am_st2, am_clr, and_self, true_and, and_true, true_or, or_true, List.length_cons, List.length_nil] <;> omega) ?_
        try simp (disch := omega) only [s4 hw, r4_0 hw, s5 hw, r5_0 hw, s6 hw, r6_11 hw, s7 hw, k4, k5, o3.1, o3.2, am_lmulE, am_tnA, am_tnM, Int.reduceToNat, am_addE, am_subE, am_mulE, am_laddE, am_lsubE, am_upO, am_upS, am_stS, am_stO, am_tnn, am_brl, am_brg, am_bre, am_brn, am_brG, am_brL, am_st1, am_no2, am_st2, am_clr]
        rw [eA, eB, hA, hB]
        refine am_wp_cc rfl rfl rfl (trivial) (w_shared (by omega) (by omega) ⟨_, rfl, ?_⟩)
        have hg : 0 < Nat.gcd A B := Nat.gcd_pos_of_pos_right A (by omega)
        have hg2 : Nat.gcd A B ≤ B := Nat.gcd_le_right A (by omega)
        unfold mnV at h
        rw [hA, hB, am_tnn, am_tnn] at h
        refine am_wp_go rfl (by simp (disch := omega) only [s4 hw, r4_0 hw, s5 hw, r5_0 hw, s6 hw, r6_11 hw, s7 hw, k4, k5, o3.1, o3.2, am_lcmpN, am_ldivE, am_addE, am_subE, am_mulE, am_laddE, am_lsubE, am_upO, am_upS, am_stS, am_stO, am_tnn, am_brl, am_brg, am_bre, am_brn, am_brG, am_brL, am_st1, am_no2, am_st2, am_clr, and_self, true_and, and_true, true_or, or_true, List.length_cons, List.length_nil] <;> omega) ?_
        try simp (disch := omega) only [s4 hw, r4_0 hw, s5 hw, r5_0 hw, s6 hw, r6_11 hw, s7 hw, k4, k5, o3.1, o3.2, am_lcmpN, am_ldivE, am_addE, am_subE, am_mulE, am_laddE, am_lsubE, am_upO, am_upS, am_stS, am_stO, am_tnn, am_brl, am_brg, am_bre, am_brn, am_brG, am_brL, am_st1, am_no2, am_st2, am_clr]
        refine am_wp_br (fun b120 => ?_) (fun b120 => ?_)
        · refine am_wp_go rfl (by simp (disch := omega) only [s4 hw, r4_0 hw, s5 hw, r5_0 hw, s6 hw, r6_11 hw, s7 hw, k4, k5, o3.1, o3.2, am_lcmpN, am_ldivE, am_addE, am_subE, am_mulE, am_laddE, am_lsubE, am_upO, am_upS, am_stS, am_stO, am_tnn, am_brl, am_brg, am_bre, am_brn, am_brG, am_brL, am_st1, am_no2, am_st2, am_clr, and_self, true_and, and_true, true_or, or_true, List.length_cons, List.length_nil] <;> omega) ?_
          try simp (disch := omega) only [s4 hw, r4_0 hw, s5 hw, r5_0 hw, s6 hw, r6_11 hw, s7 hw, k4, k5, o3.1, o3.2, am_lcmpN, am_ldivE, am_addE, am_subE, am_mulE, am_laddE, am_lsubE, am_upO, am_upS, am_stS, am_stO, am_tnn, am_brl, am_brg, am_bre, am_brn, am_brG, am_brL, am_st1, am_no2, am_st2, am_clr]
          refine am_wp_br (fun b126 => ?_) (fun b126 => ?_)
          · refine am_wp_go rfl (by simp (disch := omega) only [s4 hw, r4_0 hw, s5 hw, r5_0 hw, s6 hw, r6_11 hw, s7 hw, k4, k5, o3.1, o3.2, am_lcmpN, am_ldivE, am_addE, am_subE, am_mulE, am_laddE, am_lsubE, am_upO, am_upS, am_stS, am_stO, am_tnn, am_brl, am_brg, am_bre, am_brn, am_brG, am_brL, am_st1, am_no2, am_st2, am_clr, and_self, true_and, and_true, true_or, or_true, List.length_cons, List.length_nil] <;> omega) ?_
            try simp (disch := omega) only [s4 hw, r4_0 hw, s5 hw, r5_0 hw, s6 hw, r6_11 hw, s7 hw, k4, k5, o3.1, o3.2, am_lcmpN, am_ldivE, am_addE, am_subE, am_mulE, am_laddE, am_lsubE, am_upO, am_upS, am_stS, am_stO, am_tnn, am_brl, am_brg, am_bre, am_brn, am_brG, am_brL, am_st1, am_no2, am_st2, am_clr]
            refine am_wp_ret rfl rfl ?_
            rw [if_neg b126] at h
            exact h
          · refine am_wp_go rfl (by simp (disch := omega) only [s4 hw, r4_0 hw, s5 hw, r5_0 hw, s6 hw, r6_11 hw, s7 hw, k4, k5, o3.1, o3.2, am_lcmpN, am_ldivE, am_addE, am_subE, am_mulE, am_laddE, am_lsubE, am_upO, am_upS, am_stS, am_stO, am_tnn, am_brl, am_brg, am_bre, am_brn, am_brG, am_brL, am_st1, am_no2, am_st2, am_clr, and_self, true_and, and_true, true_or, or_true, List.length_cons, List.length_nil] <;> omega) ?_
            try simp (disch := omega) only [s4 hw, r4_0 hw, s5 hw, r5_0 hw, s6 hw, r6_11 hw, s7 hw, k4, k5, o3.1, o3.2, am_lcmpN, am_ldivE, am_addE, am_subE, am_mulE, am_laddE, am_lsubE, am_upO, am_upS, am_stS, am_stO, am_tnn, am_brl, am_brg, am_bre, am_brn, am_brG, am_brL, am_st1, am_no2, am_st2, am_clr]
            refine am_wp_ret rfl rfl ?_
            rw [if_pos (by omega)] at h
            exact h
        · omega
      · refine am_wp_ret rfl rfl ?_
        exact h1 (by omega)
theorem r_mean {s w : Int} (hw : wd sh R) (hb : beg I) (hk : wk (lw I)) (h1 : ¬ (0 ≤ s ∧ s < lw I 5 ∧ 0 ≤ w ∧ w ≤ 1) → ∀ J, rq I J → J 124 0 = 1 → Q (am_yj 0) (m, sl, sh, J, R)) (h0 : 0 ≤ s ∧ s < lw I 5 ∧ 0 ≤ w ∧ w ≤ 1 → ∀ J, rq I J → J 124 0 = 0 → Q (am_yj (mnV (lw I) s.toNat w)) (m, sl, sh, J, R)) : am_wp (d + 2) 299 0 [some (.inr (.inr (124))), some (.inl (s)), some (.inl (w)), none, none, none, none, none, none, none, none] [] (m, sl, sh, I, R) Q := by
  refine am_wp_go rfl (by simp (disch := omega) only [s124 hw, r124_14 hw, s126 hw, am_b0, am_bn0, am_addE, am_subE, am_mulE, am_laddE, am_lsubE, am_upO, am_upS, am_stS, am_stO, am_tnn, am_brl, am_brg, am_bre, am_brn, am_brG, am_brL, am_st1, am_no2, am_st2, am_clr, and_self, true_and, and_true, true_or, or_true, List.length_cons, List.length_nil] <;> omega) ?_
  refine am_wp_cc rfl rfl rfl (congrArg Prod.fst (s124 hw)) (w_M_lay hw hb (fun J j1 j2 j3 j4 => ⟨_, rfl, ?_⟩))
  have q1 := rq_lay j1 j2 j3 j4
  clear j1 j2
  rw [← j4] at hk h1 h0
  have n1 := wk_nS hk
  refine am_wp_go rfl (by simp (disch := omega) only [s124 hw, r124_14 hw, s126 hw, am_b0, am_bn0, am_addE, am_subE, am_mulE, am_laddE, am_lsubE, am_upO, am_upS, am_stS, am_stO, am_tnn, am_brl, am_brg, am_bre, am_brn, am_brG, am_brL, am_st1, am_no2, am_st2, am_clr, and_self, true_and, and_true, true_or, or_true, List.length_cons, List.length_nil] <;> omega) ?_
  try simp (disch := omega) only [s124 hw, r124_14 hw, s126 hw, am_b0, am_bn0, am_addE, am_subE, am_mulE, am_laddE, am_lsubE, am_upO, am_upS, am_stS, am_stO, am_tnn, am_brl, am_brg, am_bre, am_brn, am_brG, am_brL, am_st1, am_no2, am_st2, am_clr]
  refine am_wp_cc rfl rfl rfl (congrArg Prod.fst (s124 hw)) (w_M_isSlice hw ⟨_, rfl, ?_⟩)
  refine am_wp_go rfl (by simp (disch := omega) only [s124 hw, r124_14 hw, s126 hw, am_b0, am_bn0, am_addE, am_subE, am_mulE, am_laddE, am_lsubE, am_upO, am_upS, am_stS, am_stO, am_tnn, am_brl, am_brg, am_bre, am_brn, am_brG, am_brL, am_st1, am_no2, am_st2, am_clr, and_self, true_and, and_true, true_or, or_true, List.length_cons, List.length_nil] <;> omega) ?_
  try simp (disch := omega) only [s124 hw, r124_14 hw, s126 hw, am_b0, am_bn0, am_addE, am_subE, am_mulE, am_laddE, am_lsubE, am_upO, am_upS, am_stS, am_stO, am_tnn, am_brl, am_brg, am_bre, am_brn, am_brG, am_brL, am_st1, am_no2, am_st2, am_clr]
  refine am_wp_br (fun b9 => ?_) (fun b9 => ?_)
  · refine am_wp_go rfl (by simp (disch := omega) only [s124 hw, r124_14 hw, s126 hw, am_b0, am_bn0, am_addE, am_subE, am_mulE, am_laddE, am_lsubE, am_upO, am_upS, am_stS, am_stO, am_tnn, am_brl, am_brg, am_bre, am_brn, am_brG, am_brL, am_st1, am_no2, am_st2, am_clr, and_self, true_and, and_true, true_or, or_true, List.length_cons, List.length_nil] <;> omega) ?_
    try simp (disch := omega) only [s124 hw, r124_14 hw, s126 hw, am_b0, am_bn0, am_addE, am_subE, am_mulE, am_laddE, am_lsubE, am_upO, am_upS, am_stS, am_stO, am_tnn, am_brl, am_brg, am_bre, am_brn, am_brG, am_brL, am_st1, am_no2, am_st2, am_clr]
    refine am_wp_cc rfl rfl rfl (congrArg Prod.fst (s124 hw)) (w_M_refuseLong hw ⟨_, rfl, ?_⟩)
    refine am_wp_ret rfl rfl ?_
    exact h1 (by omega) _ (th_up q1).1 (th_up q1).2
  · refine am_wp_go rfl (by simp (disch := omega) only [s124 hw, r124_14 hw, s126 hw, am_b0, am_bn0, am_addE, am_subE, am_mulE, am_laddE, am_lsubE, am_upO, am_upS, am_stS, am_stO, am_tnn, am_brl, am_brg, am_bre, am_brn, am_brG, am_brL, am_st1, am_no2, am_st2, am_clr, and_self, true_and, and_true, true_or, or_true, List.length_cons, List.length_nil] <;> omega) ?_
    try simp (disch := omega) only [s124 hw, r124_14 hw, s126 hw, am_b0, am_bn0, am_addE, am_subE, am_mulE, am_laddE, am_lsubE, am_upO, am_upS, am_stS, am_stO, am_tnn, am_brl, am_brg, am_bre, am_brn, am_brG, am_brL, am_st1, am_no2, am_st2, am_clr]
    refine am_wp_cc rfl rfl rfl (trivial) (w_M_isIn ⟨_, rfl, ?_⟩)
    refine am_wp_go rfl (by simp (disch := omega) only [s124 hw, r124_14 hw, s126 hw, am_b0, am_bn0, am_addE, am_subE, am_mulE, am_laddE, am_lsubE, am_upO, am_upS, am_stS, am_stO, am_tnn, am_brl, am_brg, am_bre, am_brn, am_brG, am_brL, am_st1, am_no2, am_st2, am_clr, and_self, true_and, and_true, true_or, or_true, List.length_cons, List.length_nil] <;> omega) ?_
    try simp (disch := omega) only [s124 hw, r124_14 hw, s126 hw, am_b0, am_bn0, am_addE, am_subE, am_mulE, am_laddE, am_lsubE, am_upO, am_upS, am_stS, am_stO, am_tnn, am_brl, am_brg, am_bre, am_brn, am_brG, am_brL, am_st1, am_no2, am_st2, am_clr]
    refine am_wp_br (fun b18 => ?_) (fun b18 => ?_)
    · obtain ⟨s, rfl⟩ : ∃ j : Nat, s = (j : Int) := ⟨s.toNat, by omega⟩
      have h := h0 (by omega) _ (th_up (x := 0) q1).1 (th_up (x := 0) q1).2
      rw [am_tnn] at h
      have e126 : am_up J 124 0 0 126 = J 126 := am_upO (by decide)
      obtain ⟨c1, c2, c3, c4, c5⟩ := mn_le hk (s := s) (by omega)
      have eA : J 126 4 * (J 126 (8 + 3 * s) * J 126 4 + J 126 (8 + 3 * s + 1) * (J 126 4 - J 126 3)) = mnA (J 126) s := rfl
      have eB : (J 126 4 - J 126 3) * (J 126 4 - J 126 3) = mnB (J 126) := rfl
      have c4' : 0 ≤ J 126 4 * (J 126 (8 + 3 * s) * J 126 4 + J 126 (8 + 3 * s + 1) * (J 126 4 - J 126 3)) ∧ J 126 4 * (J 126 (8 + 3 * s) * J 126 4 + J 126 (8 + 3 * s + 1) * (J 126 4 - J 126 3)) ≤ 16000 := c4
      have c5' : 1 ≤ (J 126 4 - J 126 3) * (J 126 4 - J 126 3) ∧ (J 126 4 - J 126 3) * (J 126 4 - J 126 3) ≤ 400 := c5
      obtain ⟨A, hA⟩ : ∃ A : Nat, mnA (J 126) s = (A : Int) := ⟨(mnA (J 126) s).toNat, by omega⟩
      obtain ⟨B, hB⟩ : ∃ B : Nat, mnB (J 126) = (B : Int) := ⟨(mnB (J 126)).toNat, by omega⟩
      have hg : 0 < Nat.gcd A B := Nat.gcd_pos_of_pos_right A (by omega)
      have hg2 : Nat.gcd A B ≤ B := Nat.gcd_le_right A (by omega)
      unfold mnV at h
      rw [hA, hB, am_tnn, am_tnn] at h
      refine am_wp_go rfl (by simp (disch := omega) only [s124 hw, r124_14 hw, s126 hw, Int.reduceToNat, am_lmulE, am_addE, am_subE, am_mulE, am_laddE, am_lsubE, am_upO, am_upS, am_stS, am_stO, am_tnn, am_brl, am_brg, am_bre, am_brn, am_brG, am_brL, am_st1, am_no2, am_st2, am_clr, and_self, true_and, and_true, true_or, or_true, List.length_cons, List.length_nil] <;> omega) ?_
      try simp (disch := omega) only [s124 hw, r124_14 hw, s126 hw, Int.reduceToNat, am_lmulE, am_addE, am_subE, am_mulE, am_laddE, am_lsubE, am_upO, am_upS, am_stS, am_stO, am_tnn, am_brl, am_brg, am_bre, am_brn, am_brG, am_brL, am_st1, am_no2, am_st2, am_clr]
      refine am_wp_cc rfl rfl rfl (congrArg Prod.fst (s124 hw)) (w_M_needs0 hw (by omega) ⟨_, rfl, ?_⟩)
      rw [e126]
      refine am_wp_go rfl (by simp (disch := omega) only [s124 hw, r124_14 hw, s126 hw, Int.reduceToNat, am_lmulE, am_addE, am_subE, am_mulE, am_laddE, am_lsubE, am_upO, am_upS, am_stS, am_stO, am_tnn, am_brl, am_brg, am_bre, am_brn, am_brG, am_brL, am_st1, am_no2, am_st2, am_clr, and_self, true_and, and_true, true_or, or_true, List.length_cons, List.length_nil] <;> omega) ?_
      try simp (disch := omega) only [s124 hw, r124_14 hw, s126 hw, Int.reduceToNat, am_lmulE, am_addE, am_subE, am_mulE, am_laddE, am_lsubE, am_upO, am_upS, am_stS, am_stO, am_tnn, am_brl, am_brg, am_bre, am_brn, am_brG, am_brL, am_st1, am_no2, am_st2, am_clr]
      refine am_wp_cc rfl rfl rfl (congrArg Prod.fst (s124 hw)) (w_M_needs1 hw (by omega) ⟨_, rfl, ?_⟩)
      rw [e126]
      refine am_wp_go rfl (by simp (disch := omega) only [s124 hw, r124_14 hw, s126 hw, Int.reduceToNat, am_lmulE, am_addE, am_subE, am_mulE, am_laddE, am_lsubE, am_upO, am_upS, am_stS, am_stO, am_tnn, am_brl, am_brg, am_bre, am_brn, am_brG, am_brL, am_st1, am_no2, am_st2, am_clr, and_self, true_and, and_true, true_or, or_true, List.length_cons, List.length_nil] <;> omega) ?_
      try simp (disch := omega) only [s124 hw, r124_14 hw, s126 hw, Int.reduceToNat, am_lmulE, am_addE, am_subE, am_mulE, am_laddE, am_lsubE, am_upO, am_upS, am_stS, am_stO, am_tnn, am_brl, am_brg, am_bre, am_brn, am_brG, am_brL, am_st1, am_no2, am_st2, am_clr]
      rw [eA, eB, hA, hB]
      refine am_wp_br (fun b82 => ?_) (fun b82 => ?_)
      · refine am_wp_go rfl (by simp (disch := omega) only [s124 hw, r124_14 hw, s126 hw, am_ldivE, am_addE, am_subE, am_mulE, am_laddE, am_lsubE, am_upO, am_upS, am_stS, am_stO, am_tnn, am_brl, am_brg, am_bre, am_brn, am_brG, am_brL, am_st1, am_no2, am_st2, am_clr, and_self, true_and, and_true, true_or, or_true, List.length_cons, List.length_nil] <;> omega) ?_
        try simp (disch := omega) only [s124 hw, r124_14 hw, s126 hw, am_ldivE, am_addE, am_subE, am_mulE, am_laddE, am_lsubE, am_upO, am_upS, am_stS, am_stO, am_tnn, am_brl, am_brg, am_bre, am_brn, am_brG, am_brL, am_st1, am_no2, am_st2, am_clr]
        refine am_wp_cc rfl rfl rfl (trivial) (w_M_common (by omega) (by omega) ⟨_, rfl, ?_⟩)
        refine am_wp_go rfl (by simp (disch := omega) only [s124 hw, r124_14 hw, s126 hw, am_ldivE, am_addE, am_subE, am_mulE, am_laddE, am_lsubE, am_upO, am_upS, am_stS, am_stO, am_tnn, am_brl, am_brg, am_bre, am_brn, am_brG, am_brL, am_st1, am_no2, am_st2, am_clr, and_self, true_and, and_true, true_or, or_true, List.length_cons, List.length_nil] <;> omega) ?_
        try simp (disch := omega) only [s124 hw, r124_14 hw, s126 hw, am_ldivE, am_addE, am_subE, am_mulE, am_laddE, am_lsubE, am_upO, am_upS, am_stS, am_stO, am_tnn, am_brl, am_brg, am_bre, am_brn, am_brG, am_brL, am_st1, am_no2, am_st2, am_clr]
        refine am_wp_ret rfl rfl ?_
        rw [if_neg b82] at h
        exact h
      · refine am_wp_go rfl (by simp (disch := omega) only [s124 hw, r124_14 hw, s126 hw, am_ldivE, am_addE, am_subE, am_mulE, am_laddE, am_lsubE, am_upO, am_upS, am_stS, am_stO, am_tnn, am_brl, am_brg, am_bre, am_brn, am_brG, am_brL, am_st1, am_no2, am_st2, am_clr, and_self, true_and, and_true, true_or, or_true, List.length_cons, List.length_nil] <;> omega) ?_
        try simp (disch := omega) only [s124 hw, r124_14 hw, s126 hw, am_ldivE, am_addE, am_subE, am_mulE, am_laddE, am_lsubE, am_upO, am_upS, am_stS, am_stO, am_tnn, am_brl, am_brg, am_bre, am_brn, am_brG, am_brL, am_st1, am_no2, am_st2, am_clr]
        refine am_wp_cc rfl rfl rfl (trivial) (w_M_common (by omega) (by omega) ⟨_, rfl, ?_⟩)
        refine am_wp_go rfl (by simp (disch := omega) only [s124 hw, r124_14 hw, s126 hw, am_ldivE, am_addE, am_subE, am_mulE, am_laddE, am_lsubE, am_upO, am_upS, am_stS, am_stO, am_tnn, am_brl, am_brg, am_bre, am_brn, am_brG, am_brL, am_st1, am_no2, am_st2, am_clr, and_self, true_and, and_true, true_or, or_true, List.length_cons, List.length_nil] <;> omega) ?_
        try simp (disch := omega) only [s124 hw, r124_14 hw, s126 hw, am_ldivE, am_addE, am_subE, am_mulE, am_laddE, am_lsubE, am_upO, am_upS, am_stS, am_stO, am_tnn, am_brl, am_brg, am_bre, am_brn, am_brG, am_brL, am_st1, am_no2, am_st2, am_clr]
        refine am_wp_ret rfl rfl ?_
        rw [if_pos (by omega)] at h
        exact h
    · refine am_wp_go rfl (by simp (disch := omega) only [s124 hw, r124_14 hw, s126 hw, am_b0, am_bn0, am_addE, am_subE, am_mulE, am_laddE, am_lsubE, am_upO, am_upS, am_stS, am_stO, am_tnn, am_brl, am_brg, am_bre, am_brn, am_brG, am_brL, am_st1, am_no2, am_st2, am_clr, and_self, true_and, and_true, true_or, or_true, List.length_cons, List.length_nil] <;> omega) ?_
      try simp (disch := omega) only [s124 hw, r124_14 hw, s126 hw, am_b0, am_bn0, am_addE, am_subE, am_mulE, am_laddE, am_lsubE, am_upO, am_upS, am_stS, am_stO, am_tnn, am_brl, am_brg, am_bre, am_brn, am_brG, am_brL, am_st1, am_no2, am_st2, am_clr]
      refine am_wp_cc rfl rfl rfl (congrArg Prod.fst (s124 hw)) (w_M_refuseLong hw ⟨_, rfl, ?_⟩)
      refine am_wp_ret rfl rfl ?_
      exact h1 (by omega) _ (th_up q1).1 (th_up q1).2
end MEAN
