/-! feed, end -/
/-- byte i of a number, the highest first -/
def nb (x : Int) (i : Nat) : Int := am_and (am_ushr x (24 - 8 * (i : Int))) 255
theorem am_and255' (y : Int) : am_and y 255 = (Int32.ofInt y).toInt % 256 := by
  unfold am_and
  have h1 : (Int32.ofInt y &&& Int32.ofInt 255).toBitVec.toNat = (Int32.ofInt y).toBitVec.toNat % 256 := by
    rw [Int32.toBitVec_and, BitVec.toNat_and]
    rw [show (Int32.ofInt 255).toBitVec.toNat = 2 ^ 8 - 1 from rfl, Nat.and_two_pow_sub_one_eq_mod]
  rw [am_bvi (by rw [h1]; omega), h1]
  have h2 : (Int32.ofInt y).toInt = (Int32.ofInt y).toBitVec.toInt := rfl
  rw [h2, BitVec.toInt_eq_toNat_cond]
  split <;> omega
theorem nb_le (x : Int) (i : Nat) : 0 ≤ nb x i ∧ nb x i ≤ 255 := by unfold nb; rw [am_and255']; omega
theorem am_byte_eq (y : Int) : am_byte y = sbyte (am_and y 255) := by
  rw [am_and255']
  unfold am_byte sbyte
  rw [Int8.toInt_toInt32, Int32.toInt_toInt8]
  unfold Int.bmod
  dsimp only
  split <;> split <;> omega
theorem am_byte2 (y : Int) : am_byte (am_byte y) = am_byte y := by
  have h1 : am_byte y = sbyte (am_and y 255) := am_byte_eq y
  have h2 : 0 ≤ am_and y 255 ∧ am_and y 255 ≤ 255 := by rw [am_and255']; omega
  have h3 : -128 ≤ am_byte y ∧ am_byte y ≤ 127 := by rw [h1]; unfold sbyte; split <;> omega
  have h4 : (Int32.ofInt (am_byte y)).toInt = am_byte y := am_i_eq ⟨by omega, by omega⟩
  rw [am_byte_eq (am_byte y), am_and255', h4, h1]
  unfold sbyte
  split <;> split <;> omega
section TAPE
variable {m sl : Nat} {sh : Nat → Nat × Nat} {I : Nat → Nat → Int} {R : Nat → Nat → Nat} {Q : am_R → am_M → Prop} {d n : Nat}
theorem w_putNumber {x : Int} (hw : wd sh R) (hn : n + 4 ≤ 640) (h1 : I 55 1 = (n : Int)) (h : ∀ J, (∀ a, a ≠ 55 → a ≠ 56 → J a = I a) → J 55 1 = ((n + 4 : Nat) : Int) → (J 56 = fun j => if n ≤ j ∧ j < n + 4 then sbyte (nb x (j - n)) else I 56 j) → Q am_yv (m, sl, sh, J, R)) : am_wp (d) 119 0 [some (.inr (.inr (55))), some (.inl (x)), none] [] (m, sl, sh, I, R) Q := by
  refine am_wp_go rfl (by simp (disch := omega) only [s55 hw, am_addE, am_subE, am_mulE, am_laddE, am_lsubE, am_upO, am_upS, am_stS, am_stO, am_tnn, am_brl, am_brg, am_bre, am_brn, am_brG, am_brL, am_st1, am_no2, am_st2, am_clr, and_self, true_and, and_true, true_or, or_true, List.length_cons, List.length_nil] <;> omega) ?_
  try simp (disch := omega) only [s55 hw, am_addE, am_subE, am_mulE, am_laddE, am_lsubE, am_upO, am_upS, am_stS, am_stO, am_tnn, am_brl, am_brg, am_bre, am_brn, am_brG, am_brL, am_st1, am_no2, am_st2, am_clr]
  refine am_wp_ls (am_lp0 (P := fun i => ∀ J, (∀ a, a ≠ 55 → a ≠ 56 → J a = I a) → J 55 1 = ((n + i : Nat) : Int) → (J 56 = fun j => if n ≤ j ∧ j < n + i then sbyte (nb x (j - n)) else I 56 j) → am_wp (d) 119 3 [some (.inr (.inr (55))), some (.inl (x)), some (.inl (24 - 8 * (i : Int)))] [] (m, sl, sh, J, R) Q) 4 (fun i hi ih J j1 j2 j3 => ?_) I (fun _ _ _ => rfl) h1 (by funext j; rw [if_neg (by omega)])) rfl
  refine am_wp_go rfl (by simp (disch := omega) only [s55 hw, r55_0 hw, s56 hw, j2, am_addE, am_subE, am_mulE, am_laddE, am_lsubE, am_upO, am_upS, am_stS, am_stO, am_tnn, am_brl, am_brg, am_bre, am_brn, am_brG, am_brL, am_st1, am_no2, am_st2, am_clr, and_self, true_and, and_true, true_or, or_true, List.length_cons, List.length_nil] <;> omega) ?_
  try simp (disch := omega) only [s55 hw, r55_0 hw, s56 hw, j2, am_addE, am_subE, am_mulE, am_laddE, am_lsubE, am_upO, am_upS, am_stS, am_stO, am_tnn, am_brl, am_brg, am_bre, am_brn, am_brG, am_brL, am_st1, am_no2, am_st2, am_clr]
  refine am_wp_br (fun b4 => ?_) (fun b4 => ?_)
  · have : i = 4 := by omega
    subst this
    refine am_wp_ret rfl rfl ?_
    exact h J j1 j2 j3
  · refine am_wp_go rfl (by simp (disch := omega) only [s55 hw, r55_0 hw, s56 hw, j2, am_addE, am_subE, am_mulE, am_laddE, am_lsubE, am_upO, am_upS, am_stS, am_stO, am_tnn, am_brl, am_brg, am_bre, am_brn, am_brG, am_brL, am_st1, am_no2, am_st2, am_clr, and_self, true_and, and_true, true_or, or_true, List.length_cons, List.length_nil] <;> omega) ?_
    try simp (disch := omega) only [s55 hw, r55_0 hw, s56 hw, j2, am_addE, am_subE, am_mulE, am_laddE, am_lsubE, am_upO, am_upS, am_stS, am_stO, am_tnn, am_brl, am_brg, am_bre, am_brn, am_brG, am_brL, am_st1, am_no2, am_st2, am_clr]
    refine am_wp_br (fun b14 => ?_) (fun b14 => ?_)
    · omega
    · refine am_wp_go rfl (by simp (disch := omega) only [s55 hw, r55_0 hw, s56 hw, j2, am_addE, am_subE, am_mulE, am_laddE, am_lsubE, am_upO, am_upS, am_stS, am_stO, am_tnn, am_brl, am_brg, am_bre, am_brn, am_brG, am_brL, am_st1, am_no2, am_st2, am_clr, and_self, true_and, and_true, true_or, or_true, List.length_cons, List.length_nil] <;> omega) ?_
      rw [r55_0 hw, j2, am_upO (by decide), j2]
      simp (disch := omega) only [s55 hw, r55_0 hw, s56 hw, j2, am_addE, am_subE, am_mulE, am_laddE, am_lsubE, am_upO, am_upS, am_stS, am_stO, am_tnn, am_brl, am_brg, am_bre, am_brn, am_brG, am_brL, am_st1, am_no2, am_st2, am_clr]
      refine am_wp_ls (ih (by omega) _ (fun a h1 h2 => by rw [am_upO h1, am_upO h2, j1 a h1 h2]) (by rw [am_upS, am_stS rfl]; omega) ?_) (by simp only [List.cons.injEq, Option.some.injEq, Sum.inl.injEq, and_true, true_and]; omega)
      rw [am_upO (by decide), am_upS, j3]
      funext j
      simp only [am_set]
      by_cases hj : j = n + i
      · rw [if_pos hj, if_pos (by omega), show j - n = i by omega, am_byte2, am_byte_eq]; rfl
      · rw [if_neg hj]
        by_cases hj2 : n ≤ j ∧ j < n + i
        · rw [if_pos hj2, if_pos (by omega)]
        · rw [if_neg hj2, if_neg (by omega)]
/-- twenty bytes -/
def fb (a b c e f : Int) (i : Nat) : Int := if i < 4 then nb a i else if i < 8 then nb b (i - 4) else if i < 12 then nb c (i - 8) else if i < 16 then nb e (i - 12) else nb f (i - 16)
theorem c_feed {a b c e f : Int} (hw : wd sh R) (hn : n ≤ 640) (h1 : I 55 1 = (n : Int)) (h0 : 620 < n → Q (am_yi (-1)) (m, sl, sh, I, R)) (hy : n ≤ 620 → ∀ J, (∀ a, a ≠ 55 → a ≠ 56 → J a = I a) → J 55 1 = ((n + 20 : Nat) : Int) → (∀ j, j < n → J 56 j = I 56 j) → (∀ j, j < 20 → J 56 (n + j) = sbyte (fb a b c e f j)) → Q (am_yi ((n + 20 : Nat) : Int)) (m, sl, sh, J, R)) : am_wp (d + 1) 133 0 [some (.inr (.inr (4))), some (.inl (a)), some (.inl (b)), some (.inl (c)), some (.inl (e)), some (.inl (f))] [] (m, sl, sh, I, R) Q := by
  refine am_wp_go rfl (by simp (disch := omega) only [s4 hw, r4_6 hw, s55 hw, h1, am_addE, am_subE, am_mulE, am_laddE, am_lsubE, am_upO, am_upS, am_stS, am_stO, am_tnn, am_brl, am_brg, am_bre, am_brn, am_brG, am_brL, am_st1, am_no2, am_st2, am_clr, and_self, true_and, and_true, true_or, or_true, List.length_cons, List.length_nil] <;> omega) ?_
  try simp (disch := omega) only [s4 hw, r4_6 hw, s55 hw, h1, am_addE, am_subE, am_mulE, am_laddE, am_lsubE, am_upO, am_upS, am_stS, am_stO, am_tnn, am_brl, am_brg, am_bre, am_brn, am_brG, am_brL, am_st1, am_no2, am_st2, am_clr]
  refine am_wp_br (fun b10 => ?_) (fun b10 => ?_)
  · refine am_wp_go rfl (by simp (disch := omega) only [s4 hw, r4_6 hw, s55 hw, h1, am_addE, am_subE, am_mulE, am_laddE, am_lsubE, am_upO, am_upS, am_stS, am_stO, am_tnn, am_brl, am_brg, am_bre, am_brn, am_brG, am_brL, am_st1, am_no2, am_st2, am_clr, and_self, true_and, and_true, true_or, or_true, List.length_cons, List.length_nil] <;> omega) ?_
    try simp (disch := omega) only [s4 hw, r4_6 hw, s55 hw, h1, am_addE, am_subE, am_mulE, am_laddE, am_lsubE, am_upO, am_upS, am_stS, am_stO, am_tnn, am_brl, am_brg, am_bre, am_brn, am_brG, am_brL, am_st1, am_no2, am_st2, am_clr]
    refine am_wp_cc rfl rfl rfl (congrArg Prod.fst (s55 hw)) (w_putNumber hw (by omega) h1 (fun J1 a1 a2 a3 => ⟨_, rfl, ?_⟩))
    refine am_wp_go rfl (by simp (disch := omega) only [s4 hw, r4_6 hw, s55 hw, am_addE, am_subE, am_mulE, am_laddE, am_lsubE, am_upO, am_upS, am_stS, am_stO, am_tnn, am_brl, am_brg, am_bre, am_brn, am_brG, am_brL, am_st1, am_no2, am_st2, am_clr, and_self, true_and, and_true, true_or, or_true, List.length_cons, List.length_nil] <;> omega) ?_
    try simp (disch := omega) only [s4 hw, r4_6 hw, s55 hw, am_addE, am_subE, am_mulE, am_laddE, am_lsubE, am_upO, am_upS, am_stS, am_stO, am_tnn, am_brl, am_brg, am_bre, am_brn, am_brG, am_brL, am_st1, am_no2, am_st2, am_clr]
    refine am_wp_cc rfl rfl rfl (congrArg Prod.fst (s55 hw)) (w_putNumber hw (by omega) a2 (fun J2 b1 b2 b3 => ⟨_, rfl, ?_⟩))
    refine am_wp_go rfl (by simp (disch := omega) only [s4 hw, r4_6 hw, s55 hw, am_addE, am_subE, am_mulE, am_laddE, am_lsubE, am_upO, am_upS, am_stS, am_stO, am_tnn, am_brl, am_brg, am_bre, am_brn, am_brG, am_brL, am_st1, am_no2, am_st2, am_clr, and_self, true_and, and_true, true_or, or_true, List.length_cons, List.length_nil] <;> omega) ?_
    try simp (disch := omega) only [s4 hw, r4_6 hw, s55 hw, am_addE, am_subE, am_mulE, am_laddE, am_lsubE, am_upO, am_upS, am_stS, am_stO, am_tnn, am_brl, am_brg, am_bre, am_brn, am_brG, am_brL, am_st1, am_no2, am_st2, am_clr]
    refine am_wp_cc rfl rfl rfl (congrArg Prod.fst (s55 hw)) (w_putNumber hw (by omega) b2 (fun J3 c1 c2 c3 => ⟨_, rfl, ?_⟩))
    refine am_wp_go rfl (by simp (disch := omega) only [s4 hw, r4_6 hw, s55 hw, am_addE, am_subE, am_mulE, am_laddE, am_lsubE, am_upO, am_upS, am_stS, am_stO, am_tnn, am_brl, am_brg, am_bre, am_brn, am_brG, am_brL, am_st1, am_no2, am_st2, am_clr, and_self, true_and, and_true, true_or, or_true, List.length_cons, List.length_nil] <;> omega) ?_
    try simp (disch := omega) only [s4 hw, r4_6 hw, s55 hw, am_addE, am_subE, am_mulE, am_laddE, am_lsubE, am_upO, am_upS, am_stS, am_stO, am_tnn, am_brl, am_brg, am_bre, am_brn, am_brG, am_brL, am_st1, am_no2, am_st2, am_clr]
    refine am_wp_cc rfl rfl rfl (congrArg Prod.fst (s55 hw)) (w_putNumber hw (by omega) c2 (fun J4 d1 d2 d3 => ⟨_, rfl, ?_⟩))
    refine am_wp_go rfl (by simp (disch := omega) only [s4 hw, r4_6 hw, s55 hw, am_addE, am_subE, am_mulE, am_laddE, am_lsubE, am_upO, am_upS, am_stS, am_stO, am_tnn, am_brl, am_brg, am_bre, am_brn, am_brG, am_brL, am_st1, am_no2, am_st2, am_clr, and_self, true_and, and_true, true_or, or_true, List.length_cons, List.length_nil] <;> omega) ?_
    try simp (disch := omega) only [s4 hw, r4_6 hw, s55 hw, am_addE, am_subE, am_mulE, am_laddE, am_lsubE, am_upO, am_upS, am_stS, am_stO, am_tnn, am_brl, am_brg, am_bre, am_brn, am_brG, am_brL, am_st1, am_no2, am_st2, am_clr]
    refine am_wp_cc rfl rfl rfl (congrArg Prod.fst (s55 hw)) (w_putNumber hw (by omega) d2 (fun J5 e1 e2 e3 => ⟨_, rfl, ?_⟩))
    refine am_wp_go rfl (by simp (disch := omega) only [s4 hw, r4_6 hw, s55 hw, e2, am_addE, am_subE, am_mulE, am_laddE, am_lsubE, am_upO, am_upS, am_stS, am_stO, am_tnn, am_brl, am_brg, am_bre, am_brn, am_brG, am_brL, am_st1, am_no2, am_st2, am_clr, and_self, true_and, and_true, true_or, or_true, List.length_cons, List.length_nil] <;> omega) ?_
    try simp (disch := omega) only [s4 hw, r4_6 hw, s55 hw, e2, am_addE, am_subE, am_mulE, am_laddE, am_lsubE, am_upO, am_upS, am_stS, am_stO, am_tnn, am_brl, am_brg, am_bre, am_brn, am_brG, am_brL, am_st1, am_no2, am_st2, am_clr]
    refine am_wp_ret rfl rfl ?_
    refine hy (by omega) J5 (fun a h1 h2 => by rw [e1 a h1 h2, d1 a h1 h2, c1 a h1 h2, b1 a h1 h2, a1 a h1 h2]) e2 (fun j hj => ?_) (fun j hj => ?_)
    · rw [e3, d3, c3, b3, a3]
      dsimp only
      rw [if_neg (by omega), if_neg (by omega), if_neg (by omega), if_neg (by omega), if_neg (by omega)]
    · rw [e3, d3, c3, b3, a3]
      unfold fb
      dsimp only
      by_cases h4 : j < 4
      · rw [if_neg (by omega), if_neg (by omega), if_neg (by omega), if_neg (by omega), if_pos (by omega), if_pos h4, show n + j - n = j by omega]
      · by_cases h8 : j < 8
        · rw [if_neg (by omega), if_neg (by omega), if_neg (by omega), if_pos (by omega), if_neg h4, if_pos h8, show n + j - (n + 4) = j - 4 by omega]
        · by_cases h12 : j < 12
          · rw [if_neg (by omega), if_neg (by omega), if_pos (by omega), if_neg h4, if_neg h8, if_pos h12, show n + j - (n + 4 + 4) = j - 8 by omega]
          · by_cases h16 : j < 16
            · rw [if_neg (by omega), if_pos (by omega), if_neg h4, if_neg h8, if_neg h12, if_pos h16, show n + j - (n + 4 + 4 + 4) = j - 12 by omega]
            · rw [if_pos (by omega), if_neg h4, if_neg h8, if_neg h12, if_neg h16, show n + j - (n + 4 + 4 + 4 + 4) = j - 16 by omega]
  · refine am_wp_go rfl (by simp (disch := omega) only [s4 hw, r4_6 hw, s55 hw, h1, am_addE, am_subE, am_mulE, am_laddE, am_lsubE, am_upO, am_upS, am_stS, am_stO, am_tnn, am_brl, am_brg, am_bre, am_brn, am_brG, am_brL, am_st1, am_no2, am_st2, am_clr, and_self, true_and, and_true, true_or, or_true, List.length_cons, List.length_nil] <;> omega) ?_
    try simp (disch := omega) only [s4 hw, r4_6 hw, s55 hw, h1, am_addE, am_subE, am_mulE, am_laddE, am_lsubE, am_upO, am_upS, am_stS, am_stO, am_tnn, am_brl, am_brg, am_bre, am_brn, am_brG, am_brL, am_st1, am_no2, am_st2, am_clr]
    refine am_wp_ret rfl rfl ?_
    exact h0 (by omega)
theorem w_M_come {x : Int} (hw : wd sh R) (hn : n + 4 ≤ 640) (h1 : I 124 2 = (n : Int)) (h : ∀ J, (∀ a, a ≠ 124 → a ≠ 125 → J a = I a) → (∀ j, j ≠ 2 → J 124 j = I 124 j) → J 124 2 = ((n + 4 : Nat) : Int) → (J 125 = fun j => if n ≤ j ∧ j < n + 4 then nb x (j - n) else I 125 j) → Q am_yv (m, sl, sh, J, R)) : am_wp (d) 192 0 [some (.inr (.inr (124))), some (.inl (x)), none] [] (m, sl, sh, I, R) Q := by
  refine am_wp_go rfl (by simp (disch := omega) only [s124 hw, am_addE, am_subE, am_mulE, am_laddE, am_lsubE, am_upO, am_upS, am_stS, am_stO, am_tnn, am_brl, am_brg, am_bre, am_brn, am_brG, am_brL, am_st1, am_no2, am_st2, am_clr, and_self, true_and, and_true, true_or, or_true, List.length_cons, List.length_nil] <;> omega) ?_
  try simp (disch := omega) only [s124 hw, am_addE, am_subE, am_mulE, am_laddE, am_lsubE, am_upO, am_upS, am_stS, am_stO, am_tnn, am_brl, am_brg, am_bre, am_brn, am_brG, am_brL, am_st1, am_no2, am_st2, am_clr]
  refine am_wp_ls (am_lp0 (P := fun i => ∀ J, (∀ a, a ≠ 124 → a ≠ 125 → J a = I a) → (∀ j, j ≠ 2 → J 124 j = I 124 j) → J 124 2 = ((n + i : Nat) : Int) → (J 125 = fun j => if n ≤ j ∧ j < n + i then nb x (j - n) else I 125 j) → am_wp (d) 192 3 [some (.inr (.inr (124))), some (.inl (x)), some (.inl (24 - 8 * (i : Int)))] [] (m, sl, sh, J, R) Q) 4 (fun i hi ih J j1 j0 j2 j3 => ?_) I (fun _ _ _ => rfl) (fun _ _ => rfl) h1 (by funext j; rw [if_neg (by omega)])) rfl
  refine am_wp_go rfl (by simp (disch := omega) only [s124 hw, r124_1 hw, s125 hw, j2, am_addE, am_subE, am_mulE, am_laddE, am_lsubE, am_upO, am_upS, am_stS, am_stO, am_tnn, am_brl, am_brg, am_bre, am_brn, am_brG, am_brL, am_st1, am_no2, am_st2, am_clr, and_self, true_and, and_true, true_or, or_true, List.length_cons, List.length_nil] <;> omega) ?_
  try simp (disch := omega) only [s124 hw, r124_1 hw, s125 hw, j2, am_addE, am_subE, am_mulE, am_laddE, am_lsubE, am_upO, am_upS, am_stS, am_stO, am_tnn, am_brl, am_brg, am_bre, am_brn, am_brG, am_brL, am_st1, am_no2, am_st2, am_clr]
  refine am_wp_br (fun b4 => ?_) (fun b4 => ?_)
  · have : i = 4 := by omega
    subst this
    refine am_wp_ret rfl rfl ?_
    exact h J j1 j0 j2 j3
  · refine am_wp_go rfl (by simp (disch := omega) only [s124 hw, r124_1 hw, s125 hw, j2, am_addE, am_subE, am_mulE, am_laddE, am_lsubE, am_upO, am_upS, am_stS, am_stO, am_tnn, am_brl, am_brg, am_bre, am_brn, am_brG, am_brL, am_st1, am_no2, am_st2, am_clr, and_self, true_and, and_true, true_or, or_true, List.length_cons, List.length_nil] <;> omega) ?_
    rw [r124_1 hw, j2, am_upO (by decide), j2]
    simp (disch := omega) only [s124 hw, r124_1 hw, s125 hw, j2, am_addE, am_subE, am_mulE, am_laddE, am_lsubE, am_upO, am_upS, am_stS, am_stO, am_tnn, am_brl, am_brg, am_bre, am_brn, am_brG, am_brL, am_st1, am_no2, am_st2, am_clr]
    refine am_wp_ls (ih (by omega) _ (fun a h1 h2 => by rw [am_upO h1, am_upO h2, j1 a h1 h2]) (fun j hj => by rw [am_upS, am_stO hj, am_upO (by decide), j0 j hj]) (by rw [am_upS, am_stS rfl]; omega) ?_) (by simp only [List.cons.injEq, Option.some.injEq, Sum.inl.injEq, and_true, true_and]; omega)
    rw [am_upO (by decide), am_upS, j3]
    funext j
    simp only [am_set]
    by_cases hj : j = n + i
    · rw [if_pos hj, if_pos (by omega), show j - n = i by omega]; rfl
    · rw [if_neg hj]
      by_cases hj2 : n ≤ j ∧ j < n + i
      · rw [if_pos hj2, if_pos (by omega)]
      · rw [if_neg hj2, if_neg (by omega)]
theorem r_feed {a b c e f : Int} (hw : wd sh R) (hn : n ≤ 640) (h1 : I 124 2 = (n : Int)) (h0 : 620 < n → ∀ J, rq I J → Q (am_yi (-1)) (m, sl, sh, J, R)) (hy : n ≤ 620 → ∀ J, (∀ a, a ≠ 124 → a ≠ 125 → J a = I a) → (∀ j, j ≠ 2 → j ≠ 0 → J 124 j = I 124 j) → J 124 2 = ((n + 20 : Nat) : Int) → (∀ j, j < n → J 125 j = I 125 j) → (∀ j, j < 20 → J 125 (n + j) = fb a b c e f j) → Q (am_yi ((n + 20 : Nat) : Int)) (m, sl, sh, J, R)) : am_wp (d + 1) 193 0 [some (.inr (.inr (124))), some (.inl (a)), some (.inl (b)), some (.inl (c)), some (.inl (e)), some (.inl (f))] [] (m, sl, sh, I, R) Q := by
  refine am_wp_go rfl (by simp (disch := omega) only [s124 hw, h1, am_addE, am_subE, am_mulE, am_laddE, am_lsubE, am_upO, am_upS, am_stS, am_stO, am_tnn, am_brl, am_brg, am_bre, am_brn, am_brG, am_brL, am_st1, am_no2, am_st2, am_clr, and_self, true_and, and_true, true_or, or_true, List.length_cons, List.length_nil] <;> omega) ?_
  try simp (disch := omega) only [s124 hw, h1, am_addE, am_subE, am_mulE, am_laddE, am_lsubE, am_upO, am_upS, am_stS, am_stO, am_tnn, am_brl, am_brg, am_bre, am_brn, am_brG, am_brL, am_st1, am_no2, am_st2, am_clr]
  refine am_wp_br (fun b14 => ?_) (fun b14 => ?_)
  · refine am_wp_go rfl (by simp (disch := omega) only [s124 hw, h1, am_addE, am_subE, am_mulE, am_laddE, am_lsubE, am_upO, am_upS, am_stS, am_stO, am_tnn, am_brl, am_brg, am_bre, am_brn, am_brG, am_brL, am_st1, am_no2, am_st2, am_clr, and_self, true_and, and_true, true_or, or_true, List.length_cons, List.length_nil] <;> omega) ?_
    try simp (disch := omega) only [s124 hw, h1, am_addE, am_subE, am_mulE, am_laddE, am_lsubE, am_upO, am_upS, am_stS, am_stO, am_tnn, am_brl, am_brg, am_bre, am_brn, am_brG, am_brL, am_st1, am_no2, am_st2, am_clr]
    refine am_wp_cc rfl rfl rfl (congrArg Prod.fst (s124 hw)) (w_M_come (n := n) hw (by omega) (by rw [am_upS, am_stO (by decide)]; exact h1) (fun J1 a1 a0 a2 a3 => ⟨_, rfl, ?_⟩))
    refine am_wp_go rfl (by simp (disch := omega) only [s124 hw, am_addE, am_subE, am_mulE, am_laddE, am_lsubE, am_upO, am_upS, am_stS, am_stO, am_tnn, am_brl, am_brg, am_bre, am_brn, am_brG, am_brL, am_st1, am_no2, am_st2, am_clr, and_self, true_and, and_true, true_or, or_true, List.length_cons, List.length_nil] <;> omega) ?_
    try simp (disch := omega) only [s124 hw, am_addE, am_subE, am_mulE, am_laddE, am_lsubE, am_upO, am_upS, am_stS, am_stO, am_tnn, am_brl, am_brg, am_bre, am_brn, am_brG, am_brL, am_st1, am_no2, am_st2, am_clr]
    refine am_wp_cc rfl rfl rfl (congrArg Prod.fst (s124 hw)) (w_M_come hw (by omega) a2 (fun J2 b1 b0 b2 b3 => ⟨_, rfl, ?_⟩))
    refine am_wp_go rfl (by simp (disch := omega) only [s124 hw, am_addE, am_subE, am_mulE, am_laddE, am_lsubE, am_upO, am_upS, am_stS, am_stO, am_tnn, am_brl, am_brg, am_bre, am_brn, am_brG, am_brL, am_st1, am_no2, am_st2, am_clr, and_self, true_and, and_true, true_or, or_true, List.length_cons, List.length_nil] <;> omega) ?_
    try simp (disch := omega) only [s124 hw, am_addE, am_subE, am_mulE, am_laddE, am_lsubE, am_upO, am_upS, am_stS, am_stO, am_tnn, am_brl, am_brg, am_bre, am_brn, am_brG, am_brL, am_st1, am_no2, am_st2, am_clr]
    refine am_wp_cc rfl rfl rfl (congrArg Prod.fst (s124 hw)) (w_M_come hw (by omega) b2 (fun J3 c1 c0 c2 c3 => ⟨_, rfl, ?_⟩))
    refine am_wp_go rfl (by simp (disch := omega) only [s124 hw, am_addE, am_subE, am_mulE, am_laddE, am_lsubE, am_upO, am_upS, am_stS, am_stO, am_tnn, am_brl, am_brg, am_bre, am_brn, am_brG, am_brL, am_st1, am_no2, am_st2, am_clr, and_self, true_and, and_true, true_or, or_true, List.length_cons, List.length_nil] <;> omega) ?_
    try simp (disch := omega) only [s124 hw, am_addE, am_subE, am_mulE, am_laddE, am_lsubE, am_upO, am_upS, am_stS, am_stO, am_tnn, am_brl, am_brg, am_bre, am_brn, am_brG, am_brL, am_st1, am_no2, am_st2, am_clr]
    refine am_wp_cc rfl rfl rfl (congrArg Prod.fst (s124 hw)) (w_M_come hw (by omega) c2 (fun J4 d1 d0 d2 d3 => ⟨_, rfl, ?_⟩))
    refine am_wp_go rfl (by simp (disch := omega) only [s124 hw, am_addE, am_subE, am_mulE, am_laddE, am_lsubE, am_upO, am_upS, am_stS, am_stO, am_tnn, am_brl, am_brg, am_bre, am_brn, am_brG, am_brL, am_st1, am_no2, am_st2, am_clr, and_self, true_and, and_true, true_or, or_true, List.length_cons, List.length_nil] <;> omega) ?_
    try simp (disch := omega) only [s124 hw, am_addE, am_subE, am_mulE, am_laddE, am_lsubE, am_upO, am_upS, am_stS, am_stO, am_tnn, am_brl, am_brg, am_bre, am_brn, am_brG, am_brL, am_st1, am_no2, am_st2, am_clr]
    refine am_wp_cc rfl rfl rfl (congrArg Prod.fst (s124 hw)) (w_M_come hw (by omega) d2 (fun J5 e1 e0 e2 e3 => ⟨_, rfl, ?_⟩))
    refine am_wp_go rfl (by simp (disch := omega) only [s124 hw, e2, am_addE, am_subE, am_mulE, am_laddE, am_lsubE, am_upO, am_upS, am_stS, am_stO, am_tnn, am_brl, am_brg, am_bre, am_brn, am_brG, am_brL, am_st1, am_no2, am_st2, am_clr, and_self, true_and, and_true, true_or, or_true, List.length_cons, List.length_nil] <;> omega) ?_
    try simp (disch := omega) only [s124 hw, e2, am_addE, am_subE, am_mulE, am_laddE, am_lsubE, am_upO, am_upS, am_stS, am_stO, am_tnn, am_brl, am_brg, am_bre, am_brn, am_brG, am_brL, am_st1, am_no2, am_st2, am_clr]
    refine am_wp_ret rfl rfl ?_
    refine hy (by omega) J5 (fun a h1 h2 => by rw [e1 a h1 h2, d1 a h1 h2, c1 a h1 h2, b1 a h1 h2, a1 a h1 h2, am_upO h1]) (fun j h1 h2 => by rw [e0 j h1, d0 j h1, c0 j h1, b0 j h1, a0 j h1, am_upS, am_stO h2]) e2 (fun j hj => ?_) (fun j hj => ?_)
    · rw [e3, d3, c3, b3, a3]
      dsimp only
      rw [if_neg (by omega), if_neg (by omega), if_neg (by omega), if_neg (by omega), if_neg (by omega), am_upO (by decide)]
    · rw [e3, d3, c3, b3, a3]
      unfold fb
      dsimp only
      by_cases h4 : j < 4
      · rw [if_neg (by omega), if_neg (by omega), if_neg (by omega), if_neg (by omega), if_pos (by omega), if_pos h4, show n + j - n = j by omega]
      · by_cases h8 : j < 8
        · rw [if_neg (by omega), if_neg (by omega), if_neg (by omega), if_pos (by omega), if_neg h4, if_pos h8, show n + j - (n + 4) = j - 4 by omega]
        · by_cases h12 : j < 12
          · rw [if_neg (by omega), if_neg (by omega), if_pos (by omega), if_neg h4, if_neg h8, if_pos h12, show n + j - (n + 4 + 4) = j - 8 by omega]
          · by_cases h16 : j < 16
            · rw [if_neg (by omega), if_pos (by omega), if_neg h4, if_neg h8, if_neg h12, if_pos h16, show n + j - (n + 4 + 4 + 4) = j - 12 by omega]
            · rw [if_pos (by omega), if_neg h4, if_neg h8, if_neg h12, if_neg h16, show n + j - (n + 4 + 4 + 4 + 4) = j - 16 by omega]
  · refine am_wp_go rfl (by simp (disch := omega) only [s124 hw, h1, am_addE, am_subE, am_mulE, am_laddE, am_lsubE, am_upO, am_upS, am_stS, am_stO, am_tnn, am_brl, am_brg, am_bre, am_brn, am_brG, am_brL, am_st1, am_no2, am_st2, am_clr, and_self, true_and, and_true, true_or, or_true, List.length_cons, List.length_nil] <;> omega) ?_
    try simp (disch := omega) only [s124 hw, h1, am_addE, am_subE, am_mulE, am_laddE, am_lsubE, am_upO, am_upS, am_stS, am_stO, am_tnn, am_brl, am_brg, am_bre, am_brn, am_brG, am_brL, am_st1, am_no2, am_st2, am_clr]
    refine am_wp_ret rfl rfl ?_
    exact h0 (by omega) _ rq_thrown
theorem c_end {v : Int} (hw : wd sh R) (h1 : I 55 1 = (n : Int)) (h0 : ¬ (0 ≤ v ∧ v ≤ n) → Q (am_yi 0) (m, sl, sh, I, R)) (hy : 0 ≤ v ∧ v ≤ n → Q (am_yi 1) (m, sl, sh, am_up I 55 1 v, R)) : am_wp (d) 134 0 [some (.inr (.inr (4))), some (.inl (v))] [] (m, sl, sh, I, R) Q := by
  refine am_wp_go rfl (by simp (disch := omega) only [s4 hw, r4_6 hw, s55 hw, h1, am_addE, am_subE, am_mulE, am_laddE, am_lsubE, am_upO, am_upS, am_stS, am_stO, am_tnn, am_brl, am_brg, am_bre, am_brn, am_brG, am_brL, am_st1, am_no2, am_st2, am_clr, and_self, true_and, and_true, true_or, or_true, List.length_cons, List.length_nil] <;> omega) ?_
  try simp (disch := omega) only [s4 hw, r4_6 hw, s55 hw, h1, am_addE, am_subE, am_mulE, am_laddE, am_lsubE, am_upO, am_upS, am_stS, am_stO, am_tnn, am_brl, am_brg, am_bre, am_brn, am_brG, am_brL, am_st1, am_no2, am_st2, am_clr]
  refine am_wp_br (fun b1 => ?_) (fun b1 => ?_)
  · refine am_wp_go rfl (by simp (disch := omega) only [s4 hw, r4_6 hw, s55 hw, h1, am_addE, am_subE, am_mulE, am_laddE, am_lsubE, am_upO, am_upS, am_stS, am_stO, am_tnn, am_brl, am_brg, am_bre, am_brn, am_brG, am_brL, am_st1, am_no2, am_st2, am_clr, and_self, true_and, and_true, true_or, or_true, List.length_cons, List.length_nil] <;> omega) ?_
    try simp (disch := omega) only [s4 hw, r4_6 hw, s55 hw, h1, am_addE, am_subE, am_mulE, am_laddE, am_lsubE, am_upO, am_upS, am_stS, am_stO, am_tnn, am_brl, am_brg, am_bre, am_brn, am_brG, am_brL, am_st1, am_no2, am_st2, am_clr]
    refine am_wp_ret rfl rfl ?_
    first | exact h0 (by omega) | exact hy (by omega)
  · refine am_wp_go rfl (by simp (disch := omega) only [s4 hw, r4_6 hw, s55 hw, h1, am_addE, am_subE, am_mulE, am_laddE, am_lsubE, am_upO, am_upS, am_stS, am_stO, am_tnn, am_brl, am_brg, am_bre, am_brn, am_brG, am_brL, am_st1, am_no2, am_st2, am_clr, and_self, true_and, and_true, true_or, or_true, List.length_cons, List.length_nil] <;> omega) ?_
    try simp (disch := omega) only [s4 hw, r4_6 hw, s55 hw, h1, am_addE, am_subE, am_mulE, am_laddE, am_lsubE, am_upO, am_upS, am_stS, am_stO, am_tnn, am_brl, am_brg, am_bre, am_brn, am_brG, am_brL, am_st1, am_no2, am_st2, am_clr]
    refine am_wp_br (fun b12 => ?_) (fun b12 => ?_)
    · refine am_wp_go rfl (by simp (disch := omega) only [s4 hw, r4_6 hw, s55 hw, h1, am_addE, am_subE, am_mulE, am_laddE, am_lsubE, am_upO, am_upS, am_stS, am_stO, am_tnn, am_brl, am_brg, am_bre, am_brn, am_brG, am_brL, am_st1, am_no2, am_st2, am_clr, and_self, true_and, and_true, true_or, or_true, List.length_cons, List.length_nil] <;> omega) ?_
      try simp (disch := omega) only [s4 hw, r4_6 hw, s55 hw, h1, am_addE, am_subE, am_mulE, am_laddE, am_lsubE, am_upO, am_upS, am_stS, am_stO, am_tnn, am_brl, am_brg, am_bre, am_brn, am_brG, am_brL, am_st1, am_no2, am_st2, am_clr]
      refine am_wp_ret rfl rfl ?_
      first | exact h0 (by omega) | exact hy (by omega)
    · refine am_wp_go rfl (by simp (disch := omega) only [s4 hw, r4_6 hw, s55 hw, h1, am_addE, am_subE, am_mulE, am_laddE, am_lsubE, am_upO, am_upS, am_stS, am_stO, am_tnn, am_brl, am_brg, am_bre, am_brn, am_brG, am_brL, am_st1, am_no2, am_st2, am_clr, and_self, true_and, and_true, true_or, or_true, List.length_cons, List.length_nil] <;> omega) ?_
      try simp (disch := omega) only [s4 hw, r4_6 hw, s55 hw, h1, am_addE, am_subE, am_mulE, am_laddE, am_lsubE, am_upO, am_upS, am_stS, am_stO, am_tnn, am_brl, am_brg, am_bre, am_brn, am_brG, am_brL, am_st1, am_no2, am_st2, am_clr]
      refine am_wp_ret rfl rfl ?_
      first | exact h0 (by omega) | exact hy (by omega)
theorem r_end {v : Int} (hw : wd sh R) (h1 : I 124 2 = (n : Int)) (h0 : ¬ (0 ≤ v ∧ v ≤ n) → ∀ J, rq I J → Q (am_yi 0) (m, sl, sh, J, R)) (hy : 0 ≤ v ∧ v ≤ n → Q (am_yi 1) (m, sl, sh, am_up (am_up I 124 0 0) 124 2 v, R)) : am_wp (d) 194 0 [some (.inr (.inr (124))), some (.inl (v))] [] (m, sl, sh, I, R) Q := by
  refine am_wp_go rfl (by simp (disch := omega) only [s124 hw, h1, am_addE, am_subE, am_mulE, am_laddE, am_lsubE, am_upO, am_upS, am_stS, am_stO, am_tnn, am_brl, am_brg, am_bre, am_brn, am_brG, am_brL, am_st1, am_no2, am_st2, am_clr, and_self, true_and, and_true, true_or, or_true, List.length_cons, List.length_nil] <;> omega) ?_
  try simp (disch := omega) only [s124 hw, h1, am_addE, am_subE, am_mulE, am_laddE, am_lsubE, am_upO, am_upS, am_stS, am_stO, am_tnn, am_brl, am_brg, am_bre, am_brn, am_brG, am_brL, am_st1, am_no2, am_st2, am_clr]
  refine am_wp_br (fun b6 => ?_) (fun b6 => ?_)
  · refine am_wp_go rfl (by simp (disch := omega) only [s124 hw, h1, am_addE, am_subE, am_mulE, am_laddE, am_lsubE, am_upO, am_upS, am_stS, am_stO, am_tnn, am_brl, am_brg, am_bre, am_brn, am_brG, am_brL, am_st1, am_no2, am_st2, am_clr, and_self, true_and, and_true, true_or, or_true, List.length_cons, List.length_nil] <;> omega) ?_
    try simp (disch := omega) only [s124 hw, h1, am_addE, am_subE, am_mulE, am_laddE, am_lsubE, am_upO, am_upS, am_stS, am_stO, am_tnn, am_brl, am_brg, am_bre, am_brn, am_brG, am_brL, am_st1, am_no2, am_st2, am_clr]
    refine am_wp_ret rfl rfl ?_
    first | exact h0 (by omega) _ rq_thrown | exact hy (by omega)
  · refine am_wp_go rfl (by simp (disch := omega) only [s124 hw, h1, am_addE, am_subE, am_mulE, am_laddE, am_lsubE, am_upO, am_upS, am_stS, am_stO, am_tnn, am_brl, am_brg, am_bre, am_brn, am_brG, am_brL, am_st1, am_no2, am_st2, am_clr, and_self, true_and, and_true, true_or, or_true, List.length_cons, List.length_nil] <;> omega) ?_
    try simp (disch := omega) only [s124 hw, h1, am_addE, am_subE, am_mulE, am_laddE, am_lsubE, am_upO, am_upS, am_stS, am_stO, am_tnn, am_brl, am_brg, am_bre, am_brn, am_brG, am_brL, am_st1, am_no2, am_st2, am_clr]
    refine am_wp_br (fun b14 => ?_) (fun b14 => ?_)
    · refine am_wp_go rfl (by simp (disch := omega) only [s124 hw, h1, am_addE, am_subE, am_mulE, am_laddE, am_lsubE, am_upO, am_upS, am_stS, am_stO, am_tnn, am_brl, am_brg, am_bre, am_brn, am_brG, am_brL, am_st1, am_no2, am_st2, am_clr, and_self, true_and, and_true, true_or, or_true, List.length_cons, List.length_nil] <;> omega) ?_
      try simp (disch := omega) only [s124 hw, h1, am_addE, am_subE, am_mulE, am_laddE, am_lsubE, am_upO, am_upS, am_stS, am_stO, am_tnn, am_brl, am_brg, am_bre, am_brn, am_brG, am_brL, am_st1, am_no2, am_st2, am_clr]
      refine am_wp_ret rfl rfl ?_
      first | exact h0 (by omega) _ rq_thrown | exact hy (by omega)
    · refine am_wp_go rfl (by simp (disch := omega) only [s124 hw, h1, am_addE, am_subE, am_mulE, am_laddE, am_lsubE, am_upO, am_upS, am_stS, am_stO, am_tnn, am_brl, am_brg, am_bre, am_brn, am_brG, am_brL, am_st1, am_no2, am_st2, am_clr, and_self, true_and, and_true, true_or, or_true, List.length_cons, List.length_nil] <;> omega) ?_
      try simp (disch := omega) only [s124 hw, h1, am_addE, am_subE, am_mulE, am_laddE, am_lsubE, am_upO, am_upS, am_stS, am_stO, am_tnn, am_brl, am_brg, am_bre, am_brn, am_brG, am_brL, am_st1, am_no2, am_st2, am_clr]
      refine am_wp_ret rfl rfl ?_
      first | exact h0 (by omega) _ rq_thrown | exact hy (by omega)
end TAPE
