/-! SMALL METHODS OF THE REFERENCE -/
/-- a boolean answer -/
def am_b (c : Prop) [Decidable c] : Int := if c then 1 else 0
theorem am_b0 {c : Prop} [Decidable c] : (am_b c = 0) = ¬ c := by unfold am_b; split <;> simp_all
theorem am_bn0 {c : Prop} [Decidable c] : (am_b c ≠ 0) = c := by unfold am_b; split <;> simp_all
theorem am_bT {c : Prop} [Decidable c] (h : c) : am_b c = 1 := if_pos h
theorem am_bF {c : Prop} [Decidable c] (h : ¬ c) : am_b c = 0 := if_neg h
theorem am_b01 {c : Prop} [Decidable c] : am_b c = 0 ∨ am_b c = 1 := by unfold am_b; split <;> simp
theorem am_b_iff {c e : Prop} [Decidable c] [Decidable e] (h : c ↔ e) : am_b c = am_b e := by unfold am_b; simp only [h]
theorem am_wp_retb {d mi pc nx ta tb : Nat} {c : Prop} [Decidable c] {ls : am_L} {M : am_M} {Q : am_R → am_M → Prop} (hi : am_ins mi pc = some (nx, ta, tb, .freturn)) (h : Q (am_yi (am_b c)) M) : am_wp d mi pc ls [.inl (am_b c)] M Q := by
  refine am_wp_ret hi ?_ h
  exact if_pos am_b01
/-- the GOES of a plan's row -/
def rf (T : Nat → Int) (G : List Go) : Prop := T 0 = (G.length : Int) ∧ ∀ k, k < G.length → T (5 * k + 1) = gS G k ∧ T (5 * k + 2) = gU G k ∧ T (5 * k + 3) = gB G k ∧ T (5 * k + 4) = gL G k ∧ T (5 * k + 5) = gN G k
def pw (W : Nat → Int) : Nat → Int := fun j => W (58 + j)
section REF
variable {m sl : Nat} {sh : Nat → Nat × Nat} {I : Nat → Nat → Int} {R : Nat → Nat → Nat} {Q : am_R → am_M → Prop} {d : Nat} {G : List Go} {k : Nat}
theorem w_M_isIn {v a b : Int} (h : Q (am_yi (am_b (a ≤ v ∧ v ≤ b))) (m, sl, sh, I, R)) : am_wp (d) 196 0 [some (.inl (v)), some (.inl (a)), some (.inl (b))] [] (m, sl, sh, I, R) Q := by
  refine am_wp_go rfl (by simp (disch := omega) only [am_addE, am_subE, am_mulE, am_laddE, am_lsubE, am_upO, am_upS, am_stS, am_stO, am_tnn, am_brl, am_brg, am_bre, am_brn, am_brG, am_brL, am_st1, am_no2, am_st2, am_clr, and_self, true_and, and_true] <;> omega) ?_
  try simp (disch := omega) only [am_addE, am_subE, am_mulE, am_laddE, am_lsubE, am_upO, am_upS, am_stS, am_stO, am_tnn, am_brl, am_brg, am_bre, am_brn, am_brG, am_brL, am_st1, am_no2, am_st2, am_clr]
  refine am_wp_br (fun h2 => ?_) (fun h2 => ?_)
  · refine am_wp_go rfl (by simp (disch := omega) only [am_addE, am_subE, am_mulE, am_laddE, am_lsubE, am_upO, am_upS, am_stS, am_stO, am_tnn, am_brl, am_brg, am_bre, am_brn, am_brG, am_brL, am_st1, am_no2, am_st2, am_clr, and_self, true_and, and_true] <;> omega) ?_
    try simp (disch := omega) only [am_addE, am_subE, am_mulE, am_laddE, am_lsubE, am_upO, am_upS, am_stS, am_stO, am_tnn, am_brl, am_brg, am_bre, am_brn, am_brG, am_brL, am_st1, am_no2, am_st2, am_clr]
    refine am_wp_ret rfl rfl ?_
    rwa [am_bF (by omega)] at h
  · refine am_wp_go rfl (by simp (disch := omega) only [am_addE, am_subE, am_mulE, am_laddE, am_lsubE, am_upO, am_upS, am_stS, am_stO, am_tnn, am_brl, am_brg, am_bre, am_brn, am_brG, am_brL, am_st1, am_no2, am_st2, am_clr, and_self, true_and, and_true] <;> omega) ?_
    try simp (disch := omega) only [am_addE, am_subE, am_mulE, am_laddE, am_lsubE, am_upO, am_upS, am_stS, am_stO, am_tnn, am_brl, am_brg, am_bre, am_brn, am_brG, am_brL, am_st1, am_no2, am_st2, am_clr]
    refine am_wp_br (fun h7 => ?_) (fun h7 => ?_)
    · refine am_wp_go rfl (by simp (disch := omega) only [am_addE, am_subE, am_mulE, am_laddE, am_lsubE, am_upO, am_upS, am_stS, am_stO, am_tnn, am_brl, am_brg, am_bre, am_brn, am_brG, am_brL, am_st1, am_no2, am_st2, am_clr, and_self, true_and, and_true] <;> omega) ?_
      try simp (disch := omega) only [am_addE, am_subE, am_mulE, am_laddE, am_lsubE, am_upO, am_upS, am_stS, am_stO, am_tnn, am_brl, am_brg, am_bre, am_brn, am_brG, am_brL, am_st1, am_no2, am_st2, am_clr]
      refine am_wp_ret rfl rfl ?_
      rwa [am_bF (by omega)] at h
    · refine am_wp_go rfl (by simp (disch := omega) only [am_addE, am_subE, am_mulE, am_laddE, am_lsubE, am_upO, am_upS, am_stS, am_stO, am_tnn, am_brl, am_brg, am_bre, am_brn, am_brG, am_brL, am_st1, am_no2, am_st2, am_clr, and_self, true_and, and_true] <;> omega) ?_
      try simp (disch := omega) only [am_addE, am_subE, am_mulE, am_laddE, am_lsubE, am_upO, am_upS, am_stS, am_stO, am_tnn, am_brl, am_brg, am_bre, am_brn, am_brG, am_brL, am_st1, am_no2, am_st2, am_clr]
      refine am_wp_ret rfl rfl ?_
      rwa [am_bT (by omega)] at h
theorem am_has {s k : Nat} (hs : s < 2147483648) (hk : k < 32) : am_and (am_shr (s : Int) (k : Int)) 1 = ((s / 2 ^ k % 2 : Nat) : Int) := by
  have h1 : am_shr (s : Int) (k : Int) = ((s / 2 ^ k : Nat) : Int) := by
    unfold am_shr
    rw [am_ofn, am_ofn]
    have h31 : (nI k &&& 31) = nI k := by
      have h2 : nI k &&& nI 31 = nI (k % 2 ^ 5) := pk_andN (n := k) (by omega) 5 rfl
      rw [show (31 : Int32) = nI 31 from rfl, h2, Nat.mod_eq_of_lt (by omega)]
    have hb : (nI k).toBitVec.toNat = k := by rw [← am_ofn, am_ofN, Nat.mod_eq_of_lt (by omega)]
    have ha : (nI s).toBitVec.toNat = s := by rw [← am_ofn, am_ofN, Nat.mod_eq_of_lt (by omega)]
    rw [h31]
    have h4 : (nI s >>> nI k).toBitVec.toNat = s / 2 ^ k := by
      rw [Int32.toBitVec_shiftRight]
      have hm : (nI s).toBitVec.msb = false := by
        rw [BitVec.msb_eq_decide, ha]
        simp; omega
      have hsm : ((nI k).toBitVec.smod 32).toNat = k := by
        have hm2 : (nI k).toBitVec.msb = false := by
          rw [BitVec.msb_eq_decide, hb]
          simp; omega
        rw [BitVec.smod_eq, hm2]
        simp [hb, BitVec.msb_eq_decide]
        omega
      rw [BitVec.sshiftRight_eq', BitVec.sshiftRight_eq_of_msb_false hm, hsm]
      rw [BitVec.toNat_ushiftRight, ha, Nat.shiftRight_eq_div_pow]
    rw [am_bvi (by rw [h4]; exact Nat.lt_of_le_of_lt (Nat.div_le_self _ _) hs), h4]
  have hq := Nat.div_le_self s (2 ^ k)
  rw [h1]
  generalize s / 2 ^ k = q at hq ⊢
  rw [am_and1 ⟨by omega, by omega⟩]
  omega
theorem w_M_has {s k : Nat} (hs : s < 2147483648) (hk : k < 32) (h : Q (am_yi (am_b (s.testBit k = true))) (m, sl, sh, I, R)) : am_wp (d) 197 0 [some (.inl ((s : Int))), some (.inl ((k : Int)))] [] (m, sl, sh, I, R) Q := by
  have h0 := am_has hs hk
  have h1 : s.testBit k = decide (s / 2 ^ k % 2 = 1) := Nat.testBit_eq_decide_div_mod_eq
  rw [am_b_iff (e := s / 2 ^ k % 2 = 1) (by rw [h1, decide_eq_true_iff])] at h
  refine am_wp_go rfl (by simp (disch := omega) only [h0, am_addE, am_subE, am_mulE, am_laddE, am_lsubE, am_upO, am_upS, am_stS, am_stO, am_tnn, am_brl, am_brg, am_bre, am_brn, am_brG, am_brL, am_st1, am_no2, am_st2, am_clr, and_self, true_and, and_true] <;> omega) ?_
  try simp (disch := omega) only [h0, am_addE, am_subE, am_mulE, am_laddE, am_lsubE, am_upO, am_upS, am_stS, am_stO, am_tnn, am_brl, am_brg, am_bre, am_brn, am_brG, am_brL, am_st1, am_no2, am_st2, am_clr]
  refine am_wp_br (fun h2 => ?_) (fun h2 => ?_)
  · refine am_wp_go rfl (by simp (disch := omega) only [h0, am_addE, am_subE, am_mulE, am_laddE, am_lsubE, am_upO, am_upS, am_stS, am_stO, am_tnn, am_brl, am_brg, am_bre, am_brn, am_brG, am_brL, am_st1, am_no2, am_st2, am_clr, and_self, true_and, and_true] <;> omega) ?_
    try simp (disch := omega) only [h0, am_addE, am_subE, am_mulE, am_laddE, am_lsubE, am_upO, am_upS, am_stS, am_stO, am_tnn, am_brl, am_brg, am_bre, am_brn, am_brG, am_brL, am_st1, am_no2, am_st2, am_clr]
    refine am_wp_ret rfl rfl ?_
    rwa [am_bF (by omega)] at h
  · refine am_wp_go rfl (by simp (disch := omega) only [h0, am_addE, am_subE, am_mulE, am_laddE, am_lsubE, am_upO, am_upS, am_stS, am_stO, am_tnn, am_brl, am_brg, am_bre, am_brn, am_brG, am_brL, am_st1, am_no2, am_st2, am_clr, and_self, true_and, and_true] <;> omega) ?_
    try simp (disch := omega) only [h0, am_addE, am_subE, am_mulE, am_laddE, am_lsubE, am_upO, am_upS, am_stS, am_stO, am_tnn, am_brl, am_brg, am_bre, am_brn, am_brG, am_brL, am_st1, am_no2, am_st2, am_clr]
    refine am_wp_ret rfl rfl ?_
    rwa [am_bT (by omega)] at h
theorem w_M_most {a b : Int} (h : Q (am_yi (if a < b then b else a)) (m, sl, sh, I, R)) : am_wp (d) 200 0 [some (.inl (a)), some (.inl (b))] [] (m, sl, sh, I, R) Q := by
  refine am_wp_go rfl (by simp (disch := omega) only [am_addE, am_subE, am_mulE, am_laddE, am_lsubE, am_upO, am_upS, am_stS, am_stO, am_tnn, am_brl, am_brg, am_bre, am_brn, am_brG, am_brL, am_st1, am_no2, am_st2, am_clr, and_self, true_and, and_true] <;> omega) ?_
  try simp (disch := omega) only [am_addE, am_subE, am_mulE, am_laddE, am_lsubE, am_upO, am_upS, am_stS, am_stO, am_tnn, am_brl, am_brg, am_bre, am_brn, am_brG, am_brL, am_st1, am_no2, am_st2, am_clr]
  refine am_wp_br (fun h2 => ?_) (fun h2 => ?_)
  · refine am_wp_go rfl (by simp (disch := omega) only [am_addE, am_subE, am_mulE, am_laddE, am_lsubE, am_upO, am_upS, am_stS, am_stO, am_tnn, am_brl, am_brg, am_bre, am_brn, am_brG, am_brL, am_st1, am_no2, am_st2, am_clr, and_self, true_and, and_true] <;> omega) ?_
    try simp (disch := omega) only [am_addE, am_subE, am_mulE, am_laddE, am_lsubE, am_upO, am_upS, am_stS, am_stO, am_tnn, am_brl, am_brg, am_bre, am_brn, am_brG, am_brL, am_st1, am_no2, am_st2, am_clr]
    refine am_wp_ret rfl rfl ?_
    by_cases h3 : a < b
    · rwa [if_pos h3] at h
    · rwa [if_neg h3, show a = b by omega] at h
  · refine am_wp_go rfl (by simp (disch := omega) only [am_addE, am_subE, am_mulE, am_laddE, am_lsubE, am_upO, am_upS, am_stS, am_stO, am_tnn, am_brl, am_brg, am_bre, am_brn, am_brG, am_brL, am_st1, am_no2, am_st2, am_clr, and_self, true_and, and_true] <;> omega) ?_
    try simp (disch := omega) only [am_addE, am_subE, am_mulE, am_laddE, am_lsubE, am_upO, am_upS, am_stS, am_stO, am_tnn, am_brl, am_brg, am_bre, am_brn, am_brG, am_brL, am_st1, am_no2, am_st2, am_clr]
    refine am_wp_ret rfl rfl ?_
    rwa [if_neg (by omega)] at h
theorem w_M_up {a b : Int} (ha : 0 ≤ a) (ha2 : a ≤ 1000000) (hb : 1 ≤ b) (hb2 : b ≤ 1000000) (h : Q (am_yi ((a + b - 1) / b)) (m, sl, sh, I, R)) : am_wp (d) 199 0 [some (.inl (a)), some (.inl (b))] [] (m, sl, sh, I, R) Q := by
  refine am_wp_go rfl (by simp (disch := omega) only [am_divE, am_addE, am_subE, am_mulE, am_laddE, am_lsubE, am_upO, am_upS, am_stS, am_stO, am_tnn, am_brl, am_brg, am_bre, am_brn, am_brG, am_brL, am_st1, am_no2, am_st2, am_clr, and_self, true_and, and_true] <;> omega) ?_
  try simp (disch := omega) only [am_divE, am_addE, am_subE, am_mulE, am_laddE, am_lsubE, am_upO, am_upS, am_stS, am_stO, am_tnn, am_brl, am_brg, am_bre, am_brn, am_brG, am_brL, am_st1, am_no2, am_st2, am_clr]
  refine am_wp_ret rfl rfl ?_
  exact h
theorem w_M_slices (hw : wd sh R) (h : Q (am_yi (I 126 5)) (m, sl, sh, I, R)) : am_wp (d) 228 0 [some (.inr (.inr (124)))] [] (m, sl, sh, I, R) Q := by
  refine am_wp_go rfl (by simp (disch := omega) only [s124 hw, r124_14 hw, s126 hw, Int.reduceToNat, am_addE, am_subE, am_mulE, am_laddE, am_lsubE, am_upO, am_upS, am_stS, am_stO, am_tnn, am_brl, am_brg, am_bre, am_brn, am_brG, am_brL, am_st1, am_no2, am_st2, am_clr, and_self, true_and, and_true] <;> omega) ?_
  try simp (disch := omega) only [s124 hw, r124_14 hw, s126 hw, Int.reduceToNat, am_addE, am_subE, am_mulE, am_laddE, am_lsubE, am_upO, am_upS, am_stS, am_stO, am_tnn, am_brl, am_brg, am_bre, am_brn, am_brG, am_brL, am_st1, am_no2, am_st2, am_clr]
  refine am_wp_ret rfl rfl ?_
  exact h
theorem w_M_isSlice (hw : wd sh R) {s : Int} (h : Q (am_yi (am_b (0 ≤ s ∧ s < I 126 5))) (m, sl, sh, I, R)) : am_wp (d + 1) 229 0 [some (.inr (.inr (124))), some (.inl (s))] [] (m, sl, sh, I, R) Q := by
  refine am_wp_go rfl (by simp (disch := omega) only [s124 hw, r124_14 hw, s126 hw, Int.reduceToNat, am_addE, am_subE, am_mulE, am_laddE, am_lsubE, am_upO, am_upS, am_stS, am_stO, am_tnn, am_brl, am_brg, am_bre, am_brn, am_brG, am_brL, am_st1, am_no2, am_st2, am_clr, and_self, true_and, and_true] <;> omega) ?_
  try simp (disch := omega) only [s124 hw, r124_14 hw, s126 hw, Int.reduceToNat, am_addE, am_subE, am_mulE, am_laddE, am_lsubE, am_upO, am_upS, am_stS, am_stO, am_tnn, am_brl, am_brg, am_bre, am_brn, am_brG, am_brL, am_st1, am_no2, am_st2, am_clr]
  refine am_wp_br (fun h1 => ?_) (fun h1 => ?_)
  · refine am_wp_go rfl (by simp (disch := omega) only [s124 hw, r124_14 hw, s126 hw, Int.reduceToNat, am_addE, am_subE, am_mulE, am_laddE, am_lsubE, am_upO, am_upS, am_stS, am_stO, am_tnn, am_brl, am_brg, am_bre, am_brn, am_brG, am_brL, am_st1, am_no2, am_st2, am_clr, and_self, true_and, and_true] <;> omega) ?_
    try simp (disch := omega) only [s124 hw, r124_14 hw, s126 hw, Int.reduceToNat, am_addE, am_subE, am_mulE, am_laddE, am_lsubE, am_upO, am_upS, am_stS, am_stO, am_tnn, am_brl, am_brg, am_bre, am_brn, am_brG, am_brL, am_st1, am_no2, am_st2, am_clr]
    refine am_wp_ret rfl rfl ?_
    rwa [am_bF (by omega)] at h
  · refine am_wp_go rfl (by simp (disch := omega) only [s124 hw, r124_14 hw, s126 hw, Int.reduceToNat, am_addE, am_subE, am_mulE, am_laddE, am_lsubE, am_upO, am_upS, am_stS, am_stO, am_tnn, am_brl, am_brg, am_bre, am_brn, am_brG, am_brL, am_st1, am_no2, am_st2, am_clr, and_self, true_and, and_true] <;> omega) ?_
    try simp (disch := omega) only [s124 hw, r124_14 hw, s126 hw, Int.reduceToNat, am_addE, am_subE, am_mulE, am_laddE, am_lsubE, am_upO, am_upS, am_stS, am_stO, am_tnn, am_brl, am_brg, am_bre, am_brn, am_brG, am_brL, am_st1, am_no2, am_st2, am_clr]
    refine am_wp_cc rfl rfl rfl (congrArg Prod.fst (s124 hw)) (w_M_slices hw ⟨_, rfl, ?_⟩)
    refine am_wp_go rfl (by simp (disch := omega) only [s124 hw, r124_14 hw, s126 hw, Int.reduceToNat, am_addE, am_subE, am_mulE, am_laddE, am_lsubE, am_upO, am_upS, am_stS, am_stO, am_tnn, am_brl, am_brg, am_bre, am_brn, am_brG, am_brL, am_st1, am_no2, am_st2, am_clr, and_self, true_and, and_true] <;> omega) ?_
    try simp (disch := omega) only [s124 hw, r124_14 hw, s126 hw, Int.reduceToNat, am_addE, am_subE, am_mulE, am_laddE, am_lsubE, am_upO, am_upS, am_stS, am_stO, am_tnn, am_brl, am_brg, am_bre, am_brn, am_brG, am_brL, am_st1, am_no2, am_st2, am_clr]
    refine am_wp_br (fun h9 => ?_) (fun h9 => ?_)
    · refine am_wp_go rfl (by simp (disch := omega) only [s124 hw, r124_14 hw, s126 hw, Int.reduceToNat, am_addE, am_subE, am_mulE, am_laddE, am_lsubE, am_upO, am_upS, am_stS, am_stO, am_tnn, am_brl, am_brg, am_bre, am_brn, am_brG, am_brL, am_st1, am_no2, am_st2, am_clr, and_self, true_and, and_true] <;> omega) ?_
      try simp (disch := omega) only [s124 hw, r124_14 hw, s126 hw, Int.reduceToNat, am_addE, am_subE, am_mulE, am_laddE, am_lsubE, am_upO, am_upS, am_stS, am_stO, am_tnn, am_brl, am_brg, am_bre, am_brn, am_brG, am_brL, am_st1, am_no2, am_st2, am_clr]
      refine am_wp_ret rfl rfl ?_
      rwa [am_bF (by omega)] at h
    · refine am_wp_go rfl (by simp (disch := omega) only [s124 hw, r124_14 hw, s126 hw, Int.reduceToNat, am_addE, am_subE, am_mulE, am_laddE, am_lsubE, am_upO, am_upS, am_stS, am_stO, am_tnn, am_brl, am_brg, am_bre, am_brn, am_brG, am_brL, am_st1, am_no2, am_st2, am_clr, and_self, true_and, and_true] <;> omega) ?_
      try simp (disch := omega) only [s124 hw, r124_14 hw, s126 hw, Int.reduceToNat, am_addE, am_subE, am_mulE, am_laddE, am_lsubE, am_upO, am_upS, am_stS, am_stO, am_tnn, am_brl, am_brg, am_bre, am_brn, am_brG, am_brL, am_st1, am_no2, am_st2, am_clr]
      refine am_wp_ret rfl rfl ?_
      rwa [am_bT (by omega)] at h
theorem w_M_needs (hw : wd sh R) {s u : Nat} (hs : s < 8) (hu : u < 3) (h : Q (am_yi (I 126 (8 + 3 * s + u))) (m, sl, sh, I, R)) : am_wp (d) 230 0 [some (.inr (.inr (124))), some (.inl ((s : Int))), some (.inl ((u : Int)))] [] (m, sl, sh, I, R) Q := by
  refine am_wp_go rfl (by simp (disch := omega) only [s124 hw, r124_14 hw, s126 hw, Int.reduceToNat, am_tnA, am_tnM, am_addE, am_subE, am_mulE, am_laddE, am_lsubE, am_upO, am_upS, am_stS, am_stO, am_tnn, am_brl, am_brg, am_bre, am_brn, am_brG, am_brL, am_st1, am_no2, am_st2, am_clr, and_self, true_and, and_true] <;> omega) ?_
  try simp (disch := omega) only [s124 hw, r124_14 hw, s126 hw, Int.reduceToNat, am_tnA, am_tnM, am_addE, am_subE, am_mulE, am_laddE, am_lsubE, am_upO, am_upS, am_stS, am_stO, am_tnn, am_brl, am_brg, am_bre, am_brn, am_brG, am_brL, am_st1, am_no2, am_st2, am_clr]
  refine am_wp_ret rfl rfl ?_
  exact h
theorem w_M_isOnce (hw : wd sh R) {s : Nat} (hs : s < 8) (h : Q (am_yi (am_b (0 < I 126 (8 + 3 * s + 2)))) (m, sl, sh, I, R)) : am_wp (d) 231 0 [some (.inr (.inr (124))), some (.inl ((s : Int)))] [] (m, sl, sh, I, R) Q := by
  refine am_wp_go rfl (by simp (disch := omega) only [s124 hw, r124_14 hw, s126 hw, Int.reduceToNat, am_tnA, am_tnM, am_addE, am_subE, am_mulE, am_laddE, am_lsubE, am_upO, am_upS, am_stS, am_stO, am_tnn, am_brl, am_brg, am_bre, am_brn, am_brG, am_brL, am_st1, am_no2, am_st2, am_clr, and_self, true_and, and_true] <;> omega) ?_
  try simp (disch := omega) only [s124 hw, r124_14 hw, s126 hw, Int.reduceToNat, am_tnA, am_tnM, am_addE, am_subE, am_mulE, am_laddE, am_lsubE, am_upO, am_upS, am_stS, am_stO, am_tnn, am_brl, am_brg, am_bre, am_brn, am_brG, am_brL, am_st1, am_no2, am_st2, am_clr]
  refine am_wp_br (fun h1 => ?_) (fun h1 => ?_)
  · refine am_wp_go rfl (by simp (disch := omega) only [s124 hw, r124_14 hw, s126 hw, Int.reduceToNat, am_tnA, am_tnM, am_addE, am_subE, am_mulE, am_laddE, am_lsubE, am_upO, am_upS, am_stS, am_stO, am_tnn, am_brl, am_brg, am_bre, am_brn, am_brG, am_brL, am_st1, am_no2, am_st2, am_clr, and_self, true_and, and_true] <;> omega) ?_
    try simp (disch := omega) only [s124 hw, r124_14 hw, s126 hw, Int.reduceToNat, am_tnA, am_tnM, am_addE, am_subE, am_mulE, am_laddE, am_lsubE, am_upO, am_upS, am_stS, am_stO, am_tnn, am_brl, am_brg, am_bre, am_brn, am_brG, am_brL, am_st1, am_no2, am_st2, am_clr]
    refine am_wp_ret rfl rfl ?_
    rwa [am_bF (by omega)] at h
  · refine am_wp_go rfl (by simp (disch := omega) only [s124 hw, r124_14 hw, s126 hw, Int.reduceToNat, am_tnA, am_tnM, am_addE, am_subE, am_mulE, am_laddE, am_lsubE, am_upO, am_upS, am_stS, am_stO, am_tnn, am_brl, am_brg, am_bre, am_brn, am_brG, am_brL, am_st1, am_no2, am_st2, am_clr, and_self, true_and, and_true] <;> omega) ?_
    try simp (disch := omega) only [s124 hw, r124_14 hw, s126 hw, Int.reduceToNat, am_tnA, am_tnM, am_addE, am_subE, am_mulE, am_laddE, am_lsubE, am_upO, am_upS, am_stS, am_stO, am_tnn, am_brl, am_brg, am_bre, am_brn, am_brG, am_brL, am_st1, am_no2, am_st2, am_clr]
    refine am_wp_ret rfl rfl ?_
    rwa [am_bT (by omega)] at h
theorem w_M_goes (hw : wd sh R) (h : Q (am_yi (I 126 58)) (m, sl, sh, I, R)) : am_wp (d) 235 0 [some (.inr (.inr (124)))] [] (m, sl, sh, I, R) Q := by
  refine am_wp_go rfl (by simp (disch := omega) only [s124 hw, r124_14 hw, s126 hw, Int.reduceToNat, am_tnA, am_tnM, am_addE, am_subE, am_mulE, am_laddE, am_lsubE, am_upO, am_upS, am_stS, am_stO, am_tnn, am_brl, am_brg, am_bre, am_brn, am_brG, am_brL, am_st1, am_no2, am_st2, am_clr, and_self, true_and, and_true] <;> omega) ?_
  try simp (disch := omega) only [s124 hw, r124_14 hw, s126 hw, Int.reduceToNat, am_tnA, am_tnM, am_addE, am_subE, am_mulE, am_laddE, am_lsubE, am_upO, am_upS, am_stS, am_stO, am_tnn, am_brl, am_brg, am_bre, am_brn, am_brG, am_brL, am_st1, am_no2, am_st2, am_clr]
  refine am_wp_ret rfl rfl ?_
  exact h
theorem w_M_goesG (hw : wd sh R) (hr : rf (pw (I 126)) G) (h : Q (am_yi (G.length : Int)) (m, sl, sh, I, R)) : am_wp (d) 235 0 [some (.inr (.inr (124)))] [] (m, sl, sh, I, R) Q := by
  refine w_M_goes hw ?_
  rw [show I 126 58 = (G.length : Int) from hr.1]
  exact h
theorem w_M_go5 (hw : wd sh R) {u : Nat} (hk : k < 400) (hu : u < 5) (h : Q (am_yi (I 126 (59 + 5 * k + u))) (m, sl, sh, I, R)) : am_wp (d) 236 0 [some (.inr (.inr (124))), some (.inl ((k : Int))), some (.inl ((u : Int)))] [] (m, sl, sh, I, R) Q := by
  refine am_wp_go rfl (by simp (disch := omega) only [s124 hw, r124_14 hw, s126 hw, Int.reduceToNat, am_tnA, am_tnM, am_addE, am_subE, am_mulE, am_laddE, am_lsubE, am_upO, am_upS, am_stS, am_stO, am_tnn, am_brl, am_brg, am_bre, am_brn, am_brG, am_brL, am_st1, am_no2, am_st2, am_clr, and_self, true_and, and_true] <;> omega) ?_
  try simp (disch := omega) only [s124 hw, r124_14 hw, s126 hw, Int.reduceToNat, am_tnA, am_tnM, am_addE, am_subE, am_mulE, am_laddE, am_lsubE, am_upO, am_upS, am_stS, am_stO, am_tnn, am_brl, am_brg, am_bre, am_brn, am_brG, am_brL, am_st1, am_no2, am_st2, am_clr]
  refine am_wp_ret rfl rfl ?_
  exact h
theorem rf_at {W : Nat → Int} (hr : rf (pw W) G) (hk : k < G.length) : W (59 + 5 * k) = gS G k ∧ W (59 + 5 * k + 1) = gU G k ∧ W (59 + 5 * k + 2) = gB G k ∧ W (59 + 5 * k + 3) = gL G k ∧ W (59 + 5 * k + 4) = gN G k := by
  have h := hr.2 k hk
  unfold pw at h
  rw [show 58 + (5 * k + 1) = 59 + 5 * k by omega, show 58 + (5 * k + 2) = 59 + 5 * k + 1 by omega, show 58 + (5 * k + 3) = 59 + 5 * k + 2 by omega, show 58 + (5 * k + 4) = 59 + 5 * k + 3 by omega, show 58 + (5 * k + 5) = 59 + 5 * k + 4 by omega] at h
  exact h
theorem w_M_go0 (hw : wd sh R) (hr : rf (pw (I 126)) G) (h4 : G.length ≤ 400) (hk : k < G.length) (h : Q (am_yi (gS G k)) (m, sl, sh, I, R)) : am_wp (d) 236 0 [some (.inr (.inr (124))), some (.inl ((k : Int))), some (.inl (0))] [] (m, sl, sh, I, R) Q :=
  w_M_go5 (u := 0) hw (by omega) (by decide) (by rw [show I 126 (59 + 5 * k + 0) = gS G k from (rf_at hr hk).1]; exact h)
theorem w_M_go1 (hw : wd sh R) (hr : rf (pw (I 126)) G) (h4 : G.length ≤ 400) (hk : k < G.length) (h : Q (am_yi (gU G k)) (m, sl, sh, I, R)) : am_wp (d) 236 0 [some (.inr (.inr (124))), some (.inl ((k : Int))), some (.inl (1))] [] (m, sl, sh, I, R) Q :=
  w_M_go5 (u := 1) hw (by omega) (by decide) (by rw [(rf_at hr hk).2.1]; exact h)
theorem w_M_go2 (hw : wd sh R) (hr : rf (pw (I 126)) G) (h4 : G.length ≤ 400) (hk : k < G.length) (h : Q (am_yi (gB G k)) (m, sl, sh, I, R)) : am_wp (d) 236 0 [some (.inr (.inr (124))), some (.inl ((k : Int))), some (.inl (2))] [] (m, sl, sh, I, R) Q :=
  w_M_go5 (u := 2) hw (by omega) (by decide) (by rw [(rf_at hr hk).2.2.1]; exact h)
theorem w_M_go3 (hw : wd sh R) (hr : rf (pw (I 126)) G) (h4 : G.length ≤ 400) (hk : k < G.length) (h : Q (am_yi (gL G k)) (m, sl, sh, I, R)) : am_wp (d) 236 0 [some (.inr (.inr (124))), some (.inl ((k : Int))), some (.inl (3))] [] (m, sl, sh, I, R) Q :=
  w_M_go5 (u := 3) hw (by omega) (by decide) (by rw [(rf_at hr hk).2.2.2.1]; exact h)
theorem w_M_go4 (hw : wd sh R) (hr : rf (pw (I 126)) G) (h4 : G.length ≤ 400) (hk : k < G.length) (h : Q (am_yi (gN G k)) (m, sl, sh, I, R)) : am_wp (d) 236 0 [some (.inr (.inr (124))), some (.inl ((k : Int))), some (.inl (4))] [] (m, sl, sh, I, R) Q :=
  w_M_go5 (u := 4) hw (by omega) (by decide) (by rw [(rf_at hr hk).2.2.2.2]; exact h)
theorem w_M_from (hw : wd sh R) (hr : rf (pw (I 126)) G) (h4 : G.length ≤ 400) (hk : k < G.length) (h : Q (am_yi (gB G k)) (m, sl, sh, I, R)) : am_wp (d + 1) 237 0 [some (.inr (.inr (124))), some (.inl ((k : Int)))] [] (m, sl, sh, I, R) Q := by
  refine am_wp_go rfl (by simp (disch := omega) only [s124 hw, r124_14 hw, s126 hw, Int.reduceToNat, am_tnA, am_tnM, am_addE, am_subE, am_mulE, am_laddE, am_lsubE, am_upO, am_upS, am_stS, am_stO, am_tnn, am_brl, am_brg, am_bre, am_brn, am_brG, am_brL, am_st1, am_no2, am_st2, am_clr, and_self, true_and, and_true] <;> omega) ?_
  try simp (disch := omega) only [s124 hw, r124_14 hw, s126 hw, Int.reduceToNat, am_tnA, am_tnM, am_addE, am_subE, am_mulE, am_laddE, am_lsubE, am_upO, am_upS, am_stS, am_stO, am_tnn, am_brl, am_brg, am_bre, am_brn, am_brG, am_brL, am_st1, am_no2, am_st2, am_clr]
  refine am_wp_cc rfl rfl rfl (congrArg Prod.fst (s124 hw)) (w_M_go2 hw hr h4 hk ⟨_, rfl, ?_⟩)
  refine am_wp_ret rfl rfl ?_
  exact h
theorem w_M_behind (hw : wd sh R) (hr : rf (pw (I 126)) G) (h4 : G.length ≤ 400) (hk : k < G.length) (h1 : 0 ≤ gB G k ∧ gB G k ≤ 1000 ∧ 0 ≤ gN G k ∧ gN G k ≤ 1000) (h : Q (am_yi (gB G k + gN G k)) (m, sl, sh, I, R)) : am_wp (d + 1) 238 0 [some (.inr (.inr (124))), some (.inl ((k : Int)))] [] (m, sl, sh, I, R) Q := by
  refine am_wp_go rfl (by simp (disch := omega) only [s124 hw, r124_14 hw, s126 hw, Int.reduceToNat, am_tnA, am_tnM, am_addE, am_subE, am_mulE, am_laddE, am_lsubE, am_upO, am_upS, am_stS, am_stO, am_tnn, am_brl, am_brg, am_bre, am_brn, am_brG, am_brL, am_st1, am_no2, am_st2, am_clr, and_self, true_and, and_true] <;> omega) ?_
  try simp (disch := omega) only [s124 hw, r124_14 hw, s126 hw, Int.reduceToNat, am_tnA, am_tnM, am_addE, am_subE, am_mulE, am_laddE, am_lsubE, am_upO, am_upS, am_stS, am_stO, am_tnn, am_brl, am_brg, am_bre, am_brn, am_brG, am_brL, am_st1, am_no2, am_st2, am_clr]
  refine am_wp_cc rfl rfl rfl (congrArg Prod.fst (s124 hw)) (w_M_go2 hw hr h4 hk ⟨_, rfl, ?_⟩)
  refine am_wp_go rfl (by simp (disch := omega) only [s124 hw, r124_14 hw, s126 hw, Int.reduceToNat, am_tnA, am_tnM, am_addE, am_subE, am_mulE, am_laddE, am_lsubE, am_upO, am_upS, am_stS, am_stO, am_tnn, am_brl, am_brg, am_bre, am_brn, am_brG, am_brL, am_st1, am_no2, am_st2, am_clr, and_self, true_and, and_true] <;> omega) ?_
  try simp (disch := omega) only [s124 hw, r124_14 hw, s126 hw, Int.reduceToNat, am_tnA, am_tnM, am_addE, am_subE, am_mulE, am_laddE, am_lsubE, am_upO, am_upS, am_stS, am_stO, am_tnn, am_brl, am_brg, am_bre, am_brn, am_brG, am_brL, am_st1, am_no2, am_st2, am_clr]
  refine am_wp_cc rfl rfl rfl (congrArg Prod.fst (s124 hw)) (w_M_go4 hw hr h4 hk ⟨_, rfl, ?_⟩)
  refine am_wp_go rfl (by simp (disch := omega) only [s124 hw, r124_14 hw, s126 hw, Int.reduceToNat, am_tnA, am_tnM, am_addE, am_subE, am_mulE, am_laddE, am_lsubE, am_upO, am_upS, am_stS, am_stO, am_tnn, am_brl, am_brg, am_bre, am_brn, am_brG, am_brL, am_st1, am_no2, am_st2, am_clr, and_self, true_and, and_true] <;> omega) ?_
  try simp (disch := omega) only [s124 hw, r124_14 hw, s126 hw, Int.reduceToNat, am_tnA, am_tnM, am_addE, am_subE, am_mulE, am_laddE, am_lsubE, am_upO, am_upS, am_stS, am_stO, am_tnn, am_brl, am_brg, am_bre, am_brn, am_brG, am_brL, am_st1, am_no2, am_st2, am_clr]
  refine am_wp_ret rfl rfl ?_
  exact h
end REF
