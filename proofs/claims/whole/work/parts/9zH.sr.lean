/-! SERVED by the reference -/
theorem pop_bc : ∀ x : Fin 256, pop 5 x.val = bcN x.val := by decide +kernel
theorem pop_gzc {x n : Nat} (h : x < 2 ^ n) (hn : n ≤ 8) : pop 5 x = gzc x n := by
  have p8 : 2 ^ n ≤ 256 := Nat.pow_le_pow_right (n := 2) (by decide) hn
  rw [← gzc_bc h hn]
  exact pop_bc ⟨x, by omega⟩
def gzAll : Nat → Nat → Bool := fun _ _ => true
theorem gz_okA {n P r S U : Nat} : gzOk n P gzAll r S U ↔ U < 2 ^ n ∧ U &&& S = 0 ∧ gzc U n ≤ P := by
  have z : U &&& S = 0 ↔ ∀ g, U.testBit g = true → S.testBit g = false := by
    constructor
    · intro h g hg
      have t : (U &&& S).testBit g = false := by rw [h]; exact Nat.zero_testBit g
      rw [Nat.testBit_and, hg, Bool.true_and] at t
      exact t
    · intro h
      refine Nat.eq_of_testBit_eq (fun g => ?_)
      rw [Nat.testBit_and, Nat.zero_testBit]
      cases hU : U.testBit g
      · rfl
      · rw [h g hU]; rfl
  unfold gzOk gzc gzAll
  rw [z]
  exact ⟨fun h => ⟨h.1, fun g hg => (h.2.1 g hg).2, h.2.2⟩, fun h => ⟨h.1, fun g hg => ⟨rfl, h.2.1 g hg⟩, h.2.2⟩⟩
theorem gz_subA {n S U : Nat} (hU : U < 2 ^ n) : U &&& dn (2 ^ n - 1) S = U ↔ U &&& S = 0 := by
  constructor
  · intro h
    refine Nat.eq_of_testBit_eq (fun g => ?_)
    rw [Nat.testBit_and, Nat.zero_testBit]
    cases hg : U.testBit g
    · rfl
    · have t := sub_tb.mp h g hg
      rw [dn_tb, Bool.and_eq_true] at t
      have : S.testBit g = false := by simpa using t.2
      rw [this]; rfl
  · intro h
    refine sub_tb.mpr (fun g hg => ?_)
    have t : (U &&& S).testBit g = false := by rw [h]; exact Nat.zero_testBit g
    rw [Nat.testBit_and, hg, Bool.true_and] at t
    have hgn : g < n := by
      refine Classical.byContradiction (fun hc => ?_)
      rw [Nat.testBit_lt_two_pow (Nat.lt_of_lt_of_le hU (Nat.pow_le_pow_right (by decide) (by omega)))] at hg
      exact absurd hg (by decide)
    rw [dn_tb, t, Nat.testBit_two_pow_sub_one, decide_eq_true hgn]; rfl
def gzRR (W : Nat → Int) (u n P : Nat) (T : Nat → Int) (e : Nat) : Prop := ∀ S, S < 2 ^ n → (∀ U, gzOk n P gzAll (e + 1) S U → gzX W (((e + 1) * u : Nat) : Int) U n + T (256 * (e + 1) + (S ||| U)) ≤ T (256 * e + S)) ∧ ∃ U, gzOk n P gzAll (e + 1) S U ∧ gzX W (((e + 1) * u : Nat) : Int) U n + T (256 * (e + 1) + (S ||| U)) = T (256 * e + S)
def gzBR (T : Nat → Int) (r S : Nat) : Int := T (256 * (r - 1) + S)
section SV
variable {m sl : Nat} {sh : Nat → Nat × Nat} {I : Nat → Nat → Int} {R : Nat → Nat → Nat} {Q : am_R → am_M → Prop} {d n P u E : Nat}
theorem w_M_worthOf {g : Nat} {mi : Int} (hw : wd sh R) (hk : wk (I 126)) (hg : g < nG (I 126)) (h0 : 0 ≤ mi ∧ mi ≤ 100000) (h : Q (am_yi (gzf (I 126) mi g)) (m, sl, sh, I, R)) : am_wp (d) 295 0 [some (.inr (.inr (124))), some (.inl ((g : Int))), some (.inl (mi)), none, none] [] (m, sl, sh, I, R) Q := by
  have n3 := wk_nG hk
  have b := hk.2.2.1 g hg
  have b0 := hk.1
  unfold wk0 at b0
  unfold gzf wtF at h
  refine am_wp_go rfl (by simp (disch := omega) only [s124 hw, r124_14 hw, s126 hw, am_tnA, am_tnM, Int.reduceToNat, am_addE, am_subE, am_mulE, am_laddE, am_lsubE, am_upO, am_upS, am_stS, am_stO, am_tnn, am_brl, am_brg, am_bre, am_brn, am_brG, am_brL, am_st1, am_no2, am_st2, am_clr, and_self, true_and, and_true, true_or, or_true, List.length_cons, List.length_nil] <;> omega) ?_
  try simp (disch := omega) only [s124 hw, r124_14 hw, s126 hw, am_tnA, am_tnM, Int.reduceToNat, am_addE, am_subE, am_mulE, am_laddE, am_lsubE, am_upO, am_upS, am_stS, am_stO, am_tnn, am_brl, am_brg, am_bre, am_brn, am_brG, am_brL, am_st1, am_no2, am_st2, am_clr]
  refine am_wp_br (fun b27 => ?_) (fun b27 => ?_)
  · refine am_wp_go rfl (by simp (disch := omega) only [s124 hw, r124_14 hw, s126 hw, am_tnA, am_tnM, Int.reduceToNat, am_addE, am_subE, am_mulE, am_laddE, am_lsubE, am_upO, am_upS, am_stS, am_stO, am_tnn, am_brl, am_brg, am_bre, am_brn, am_brG, am_brL, am_st1, am_no2, am_st2, am_clr, and_self, true_and, and_true, true_or, or_true, List.length_cons, List.length_nil] <;> omega) ?_
    try simp (disch := omega) only [s124 hw, r124_14 hw, s126 hw, am_tnA, am_tnM, Int.reduceToNat, am_addE, am_subE, am_mulE, am_laddE, am_lsubE, am_upO, am_upS, am_stS, am_stO, am_tnn, am_brl, am_brg, am_bre, am_brn, am_brG, am_brL, am_st1, am_no2, am_st2, am_clr]
    refine am_wp_br (fun b49 => ?_) (fun b49 => ?_)
    · refine am_wp_go rfl (by simp (disch := omega) only [s124 hw, r124_14 hw, s126 hw, am_tnA, am_tnM, Int.reduceToNat, am_addE, am_subE, am_mulE, am_laddE, am_lsubE, am_upO, am_upS, am_stS, am_stO, am_tnn, am_brl, am_brg, am_bre, am_brn, am_brG, am_brL, am_st1, am_no2, am_st2, am_clr, and_self, true_and, and_true, true_or, or_true, List.length_cons, List.length_nil] <;> omega) ?_
      try simp (disch := omega) only [s124 hw, r124_14 hw, s126 hw, am_tnA, am_tnM, Int.reduceToNat, am_addE, am_subE, am_mulE, am_laddE, am_lsubE, am_upO, am_upS, am_stS, am_stO, am_tnn, am_brl, am_brg, am_bre, am_brn, am_brG, am_brL, am_st1, am_no2, am_st2, am_clr]
      refine am_wp_ret rfl rfl ?_
      rwa [if_pos (by omega)] at h
    · rw [if_neg (by omega)] at h
      refine am_wp_go rfl (by simp (disch := omega) only [s124 hw, r124_14 hw, s126 hw, am_tnA, am_tnM, Int.reduceToNat, am_addE, am_subE, am_mulE, am_laddE, am_lsubE, am_upO, am_upS, am_stS, am_stO, am_tnn, am_brl, am_brg, am_bre, am_brn, am_brG, am_brL, am_st1, am_no2, am_st2, am_clr, and_self, true_and, and_true, true_or, or_true, List.length_cons, List.length_nil] <;> omega) ?_
      try simp (disch := omega) only [s124 hw, r124_14 hw, s126 hw, am_tnA, am_tnM, Int.reduceToNat, am_addE, am_subE, am_mulE, am_laddE, am_lsubE, am_upO, am_upS, am_stS, am_stO, am_tnn, am_brl, am_brg, am_bre, am_brn, am_brG, am_brL, am_st1, am_no2, am_st2, am_clr]
      refine am_wp_br (fun b54 => ?_) (fun b54 => ?_)
      · refine am_wp_go rfl (by simp (disch := omega) only [s124 hw, r124_14 hw, s126 hw, am_tnA, am_tnM, Int.reduceToNat, am_addE, am_subE, am_mulE, am_laddE, am_lsubE, am_upO, am_upS, am_stS, am_stO, am_tnn, am_brl, am_brg, am_bre, am_brn, am_brG, am_brL, am_st1, am_no2, am_st2, am_clr, and_self, true_and, and_true, true_or, or_true, List.length_cons, List.length_nil] <;> omega) ?_
        try simp (disch := omega) only [s124 hw, r124_14 hw, s126 hw, am_tnA, am_tnM, Int.reduceToNat, am_addE, am_subE, am_mulE, am_laddE, am_lsubE, am_upO, am_upS, am_stS, am_stO, am_tnn, am_brl, am_brg, am_bre, am_brn, am_brG, am_brL, am_st1, am_no2, am_st2, am_clr]
        refine am_wp_ret rfl rfl ?_
        rw [if_neg (by omega), if_neg (by omega)] at h
        first | exact h | (rw [Int.sub_zero]; exact h)
      · omega
  · refine am_wp_go rfl (by simp (disch := omega) only [s124 hw, r124_14 hw, s126 hw, am_tnA, am_tnM, Int.reduceToNat, am_addE, am_subE, am_mulE, am_laddE, am_lsubE, am_upO, am_upS, am_stS, am_stO, am_tnn, am_brl, am_brg, am_bre, am_brn, am_brG, am_brL, am_st1, am_no2, am_st2, am_clr, and_self, true_and, and_true, true_or, or_true, List.length_cons, List.length_nil] <;> omega) ?_
    try simp (disch := omega) only [s124 hw, r124_14 hw, s126 hw, am_tnA, am_tnM, Int.reduceToNat, am_addE, am_subE, am_mulE, am_laddE, am_lsubE, am_upO, am_upS, am_stS, am_stO, am_tnn, am_brl, am_brg, am_bre, am_brn, am_brG, am_brL, am_st1, am_no2, am_st2, am_clr]
    refine am_wp_br (fun b49 => ?_) (fun b49 => ?_)
    · omega
    · rw [if_neg (by omega)] at h
      refine am_wp_go rfl (by simp (disch := omega) only [s124 hw, r124_14 hw, s126 hw, am_tnA, am_tnM, Int.reduceToNat, am_addE, am_subE, am_mulE, am_laddE, am_lsubE, am_upO, am_upS, am_stS, am_stO, am_tnn, am_brl, am_brg, am_bre, am_brn, am_brG, am_brL, am_st1, am_no2, am_st2, am_clr, and_self, true_and, and_true, true_or, or_true, List.length_cons, List.length_nil] <;> omega) ?_
      try simp (disch := omega) only [s124 hw, r124_14 hw, s126 hw, am_tnA, am_tnM, Int.reduceToNat, am_addE, am_subE, am_mulE, am_laddE, am_lsubE, am_upO, am_upS, am_stS, am_stO, am_tnn, am_brl, am_brg, am_bre, am_brn, am_brG, am_brL, am_st1, am_no2, am_st2, am_clr]
      refine am_wp_br (fun b54 => ?_) (fun b54 => ?_)
      · refine am_wp_go rfl (by simp (disch := omega) only [s124 hw, r124_14 hw, s126 hw, am_tnA, am_tnM, Int.reduceToNat, am_addE, am_subE, am_mulE, am_laddE, am_lsubE, am_upO, am_upS, am_stS, am_stO, am_tnn, am_brl, am_brg, am_bre, am_brn, am_brG, am_brL, am_st1, am_no2, am_st2, am_clr, and_self, true_and, and_true, true_or, or_true, List.length_cons, List.length_nil] <;> omega) ?_
        try simp (disch := omega) only [s124 hw, r124_14 hw, s126 hw, am_tnA, am_tnM, Int.reduceToNat, am_addE, am_subE, am_mulE, am_laddE, am_lsubE, am_upO, am_upS, am_stS, am_stO, am_tnn, am_brl, am_brg, am_bre, am_brn, am_brG, am_brL, am_st1, am_no2, am_st2, am_clr]
        refine am_wp_ret rfl rfl ?_
        rwa [if_neg (by omega), if_pos (by omega)] at h
      · refine am_wp_go rfl (by simp (disch := omega) only [s124 hw, r124_14 hw, s126 hw, am_tnA, am_tnM, Int.reduceToNat, am_addE, am_subE, am_mulE, am_laddE, am_lsubE, am_upO, am_upS, am_stS, am_stO, am_tnn, am_brl, am_brg, am_bre, am_brn, am_brG, am_brL, am_st1, am_no2, am_st2, am_clr, and_self, true_and, and_true, true_or, or_true, List.length_cons, List.length_nil] <;> omega) ?_
        try simp (disch := omega) only [s124 hw, r124_14 hw, s126 hw, am_tnA, am_tnM, Int.reduceToNat, am_addE, am_subE, am_mulE, am_laddE, am_lsubE, am_upO, am_upS, am_stS, am_stO, am_tnn, am_brl, am_brg, am_bre, am_brn, am_brG, am_brL, am_st1, am_no2, am_st2, am_clr]
        refine am_wp_ret rfl rfl ?_
        rwa [if_pos (by omega)] at h
theorem w_M_worthOfSet {U : Nat} {mi : Int} (hw : wd sh R) (hk : wk (I 126)) (hn : n = nG (I 126)) (hU : U < 256) (h0 : 0 ≤ mi ∧ mi ≤ 100000) (h : Q (am_yi (gzX (I 126) mi U n)) (m, sl, sh, I, R)) : am_wp (d + 1) 296 0 [some (.inr (.inr (124))), some (.inl ((U : Int))), some (.inl (mi)), none, none] [] (m, sl, sh, I, R) Q := by
  have n3 := wk_nG hk
  rw [← hn] at n3
  have bw : ∀ x, x < n → 0 ≤ I 126 (32 + 2 * x + 1) ∧ I 126 (32 + 2 * x + 1) ≤ 99 := fun x hx => by have := hk.2.2.1 x (by omega); omega
  have e6 := n3.1
  have LP : ∀ g : Nat, g ≤ n → am_wp (d + 1) 296 5 [some (.inr (.inr (124))), some (.inl ((U : Int))), some (.inl (mi)), some (.inl (gzX (I 126) mi U g)), some (.inl ((g : Int)))] [] (m, sl, sh, I, R) Q := by
    refine am_lp n (fun g hg ih => ?_)
    have bx := gzX_le (W := I 126) (mi := mi) (U := U) (n := g) (fun x hx => bw x (by omega))
    have es : gzX (I 126) mi U (g + 1) = gzX (I 126) mi U g + if U.testBit g = true then gzf (I 126) mi g else 0 := rfl
    refine am_wp_go rfl (by simp (disch := omega) only [s124 hw, r124_14 hw, s126 hw, e6, Int.reduceToNat, am_b0, am_addE, am_subE, am_mulE, am_laddE, am_lsubE, am_upO, am_upS, am_stS, am_stO, am_tnn, am_brl, am_brg, am_bre, am_brn, am_brG, am_brL, am_st1, am_no2, am_st2, am_clr, and_self, true_and, and_true, true_or, or_true, List.length_cons, List.length_nil] <;> omega) ?_
    try simp (disch := omega) only [s124 hw, r124_14 hw, s126 hw, e6, Int.reduceToNat, am_b0, am_addE, am_subE, am_mulE, am_laddE, am_lsubE, am_upO, am_upS, am_stS, am_stO, am_tnn, am_brl, am_brg, am_bre, am_brn, am_brG, am_brL, am_st1, am_no2, am_st2, am_clr]
    refine am_wp_br (fun b14 => ?_) (fun b14 => ?_)
    · refine am_wp_go rfl (by simp (disch := omega) only [s124 hw, r124_14 hw, s126 hw, e6, Int.reduceToNat, am_b0, am_addE, am_subE, am_mulE, am_laddE, am_lsubE, am_upO, am_upS, am_stS, am_stO, am_tnn, am_brl, am_brg, am_bre, am_brn, am_brG, am_brL, am_st1, am_no2, am_st2, am_clr, and_self, true_and, and_true, true_or, or_true, List.length_cons, List.length_nil] <;> omega) ?_
      try simp (disch := omega) only [s124 hw, r124_14 hw, s126 hw, e6, Int.reduceToNat, am_b0, am_addE, am_subE, am_mulE, am_laddE, am_lsubE, am_upO, am_upS, am_stS, am_stO, am_tnn, am_brl, am_brg, am_bre, am_brn, am_brG, am_brL, am_st1, am_no2, am_st2, am_clr]
      refine am_wp_ret rfl rfl ?_
      rw [show n = g by omega] at h
      exact h
    · have ih := ih (by omega)
      have b := hk.2.2.1 g (by omega)
      have bf := wtF_le (c := I 126 (32 + 2 * g)) (o := I 126 2) (mi := mi) b.2.2.1
      rw [es] at ih
      refine am_wp_go rfl (by simp (disch := omega) only [s124 hw, r124_14 hw, s126 hw, e6, Int.reduceToNat, am_b0, am_addE, am_subE, am_mulE, am_laddE, am_lsubE, am_upO, am_upS, am_stS, am_stO, am_tnn, am_brl, am_brg, am_bre, am_brn, am_brG, am_brL, am_st1, am_no2, am_st2, am_clr, and_self, true_and, and_true, true_or, or_true, List.length_cons, List.length_nil] <;> omega) ?_
      try simp (disch := omega) only [s124 hw, r124_14 hw, s126 hw, e6, Int.reduceToNat, am_b0, am_addE, am_subE, am_mulE, am_laddE, am_lsubE, am_upO, am_upS, am_stS, am_stO, am_tnn, am_brl, am_brg, am_bre, am_brn, am_brG, am_brL, am_st1, am_no2, am_st2, am_clr]
      refine am_wp_cc rfl rfl rfl (trivial) (w_M_has (s := U) (k := g) (by omega) (by omega) ⟨_, rfl, ?_⟩)
      refine am_wp_go rfl (by simp (disch := omega) only [s124 hw, r124_14 hw, s126 hw, e6, Int.reduceToNat, am_b0, am_addE, am_subE, am_mulE, am_laddE, am_lsubE, am_upO, am_upS, am_stS, am_stO, am_tnn, am_brl, am_brg, am_bre, am_brn, am_brG, am_brL, am_st1, am_no2, am_st2, am_clr, and_self, true_and, and_true, true_or, or_true, List.length_cons, List.length_nil] <;> omega) ?_
      try simp (disch := omega) only [s124 hw, r124_14 hw, s126 hw, e6, Int.reduceToNat, am_b0, am_addE, am_subE, am_mulE, am_laddE, am_lsubE, am_upO, am_upS, am_stS, am_stO, am_tnn, am_brl, am_brg, am_bre, am_brn, am_brG, am_brL, am_st1, am_no2, am_st2, am_clr]
      refine am_wp_br (fun b23 => ?_) (fun b23 => ?_)
      · rw [if_neg b23, Int.add_zero] at ih
        refine am_wp_go rfl (by simp (disch := omega) only [s124 hw, r124_14 hw, s126 hw, e6, Int.reduceToNat, am_b0, am_addE, am_subE, am_mulE, am_laddE, am_lsubE, am_upO, am_upS, am_stS, am_stO, am_tnn, am_brl, am_brg, am_bre, am_brn, am_brG, am_brL, am_st1, am_no2, am_st2, am_clr, and_self, true_and, and_true, true_or, or_true, List.length_cons, List.length_nil] <;> omega) ?_
        try simp (disch := omega) only [s124 hw, r124_14 hw, s126 hw, e6, Int.reduceToNat, am_b0, am_addE, am_subE, am_mulE, am_laddE, am_lsubE, am_upO, am_upS, am_stS, am_stO, am_tnn, am_brl, am_brg, am_bre, am_brn, am_brG, am_brL, am_st1, am_no2, am_st2, am_clr]
        exact am_wp_ls ih rfl
      · rw [if_pos (Classical.not_not.mp b23)] at ih
        have bf : 0 ≤ gzf (I 126) mi g ∧ gzf (I 126) mi g ≤ 99 := by unfold gzf; omega
        refine am_wp_go rfl (by simp (disch := omega) only [s124 hw, r124_14 hw, s126 hw, e6, Int.reduceToNat, am_b0, am_addE, am_subE, am_mulE, am_laddE, am_lsubE, am_upO, am_upS, am_stS, am_stO, am_tnn, am_brl, am_brg, am_bre, am_brn, am_brG, am_brL, am_st1, am_no2, am_st2, am_clr, and_self, true_and, and_true, true_or, or_true, List.length_cons, List.length_nil] <;> omega) ?_
        try simp (disch := omega) only [s124 hw, r124_14 hw, s126 hw, e6, Int.reduceToNat, am_b0, am_addE, am_subE, am_mulE, am_laddE, am_lsubE, am_upO, am_upS, am_stS, am_stO, am_tnn, am_brl, am_brg, am_bre, am_brn, am_brG, am_brL, am_st1, am_no2, am_st2, am_clr]
        refine am_wp_cc rfl rfl rfl (congrArg Prod.fst (s124 hw)) (w_M_worthOf hw hk (by omega) h0 ⟨_, rfl, ?_⟩)
        refine am_wp_go rfl (by simp (disch := omega) only [s124 hw, r124_14 hw, s126 hw, e6, Int.reduceToNat, am_b0, am_addE, am_subE, am_mulE, am_laddE, am_lsubE, am_upO, am_upS, am_stS, am_stO, am_tnn, am_brl, am_brg, am_bre, am_brn, am_brG, am_brL, am_st1, am_no2, am_st2, am_clr, and_self, true_and, and_true, true_or, or_true, List.length_cons, List.length_nil] <;> omega) ?_
        try simp (disch := omega) only [s124 hw, r124_14 hw, s126 hw, e6, Int.reduceToNat, am_b0, am_addE, am_subE, am_mulE, am_laddE, am_lsubE, am_upO, am_upS, am_stS, am_stO, am_tnn, am_brl, am_brg, am_bre, am_brn, am_brG, am_brL, am_st1, am_no2, am_st2, am_clr]
        exact am_wp_ls ih rfl
  refine am_wp_go rfl (by simp (disch := omega) only [am_addE, am_subE, am_mulE, am_laddE, am_lsubE, am_upO, am_upS, am_stS, am_stO, am_tnn, am_brl, am_brg, am_bre, am_brn, am_brG, am_brL, am_st1, am_no2, am_st2, am_clr, and_self, true_and, and_true, true_or, or_true, List.length_cons, List.length_nil] <;> omega) ?_
  try simp (disch := omega) only [am_addE, am_subE, am_mulE, am_laddE, am_lsubE, am_upO, am_upS, am_stS, am_stO, am_tnn, am_brl, am_brg, am_bre, am_brn, am_brG, am_brL, am_st1, am_no2, am_st2, am_clr]
  exact am_wp_ls (LP 0 (Nat.zero_le n)) rfl
set_option maxRecDepth 8000 in
set_option maxHeartbeats 4000000 in
theorem w_M_svtrace (hw : wd sh R) (hk : wk (I 126)) (hn : n = nG (I 126)) (hP : I 126 0 = (P : Int)) (hu : 1 ≤ u ∧ u ≤ 40) (hE : E ≤ 341) (hrw : ∀ e, e < E → gzRR (I 126) u n P (I 152) e) (hb : ∀ e, e ≤ E → ∀ S, S < 2 ^ n → 0 ≤ I 152 (256 * e + S) ∧ I 152 (256 * e + S) ≤ 400000) (hz : ∀ g, g < n → I 153 g = -1) {z5 z6 z7 z8 z9 : Option am_V}
    (h : ∀ J a, (∀ x, x ≠ 153 → J x = I x) → gzTr n P (E + 1) gzAll (gzv (I 126) u) (gzBR (I 152)) a → (∀ g, g < n → J 153 g = if a g = 0 then -1 else ((a g * u : Nat) : Int)) → Q (am_yi (I 152 0)) (m, sl, sh, J, R)) : am_wp (d + 2) 297 291 [some (.inr (.inr (124))), some (.inl ((u : Int))), some (.inl ((n : Int))), some (.inl (((2 ^ n : Nat) : Int))), some (.inl ((E : Int))), some (.inl (0)), some (.inl (0)), z7, z8, z9] [] (m, sl, sh, I, R) Q := by
  have n3 := wk_nG hk
  rw [← hn] at n3
  have p4 := hk.1
  unfold wk0 at p4
  have p8 : 2 ^ n ≤ 256 := Nat.pow_le_pow_right (n := 2) (by decide) n3.2
  have bw : ∀ x, x < n → 0 ≤ I 126 (32 + 2 * x + 1) ∧ I 126 (32 + 2 * x + 1) ≤ 99 := fun x hx => by have := hk.2.2.1 x (by omega); omega
  have LO : ∀ e : Nat, e ≤ E → ∀ (a : Nat → Nat) (z7 z8 z9 : Option am_V) (K : Nat → Nat → Int), (∀ x, x ≠ 153 → K x = I x) → (∀ g, g < n → a g ≤ e) → (∀ r, 1 ≤ r → r ≤ e → gzAt n P gzAll (gzv (I 126) u) (gzBR (I 152)) a r) → (∀ g, g < n → K 153 g = if a g = 0 then -1 else ((a g * u : Nat) : Int)) → am_wp (d + 2) 297 291 [some (.inr (.inr (124))), some (.inl ((u : Int))), some (.inl ((n : Int))), some (.inl (((2 ^ n : Nat) : Int))), some (.inl ((E : Int))), some (.inl ((ax_bs (fun g => decide (1 ≤ a g)) n : Int))), some (.inl ((e : Int))), z7, z8, z9] [] (m, sl, sh, K, R) Q := by
    refine am_lp E (fun e he ih a z7 z8 z9 K k1 k2 k3 k4 => ?_)
    have K152 : K 152 = I 152 := k1 152 (by decide)
    have K126 : K 126 = I 126 := k1 126 (by decide)
    refine am_wp_go rfl (by simp (disch := omega) only [am_addE, am_subE, am_mulE, am_laddE, am_lsubE, am_upO, am_upS, am_stS, am_stO, am_tnn, am_brl, am_brg, am_bre, am_brn, am_brG, am_brL, am_st1, am_no2, am_st2, am_clr, and_self, true_and, and_true, true_or, or_true, List.length_cons, List.length_nil] <;> omega) ?_
    try simp (disch := omega) only [am_addE, am_subE, am_mulE, am_laddE, am_lsubE, am_upO, am_upS, am_stS, am_stO, am_tnn, am_brl, am_brg, am_bre, am_brn, am_brG, am_brL, am_st1, am_no2, am_st2, am_clr]
    refine am_wp_br (fun b295 => ?_) (fun b295 => ?_)
    · have ee : e = E := by omega
      rw [ee] at k2 k3
      refine am_wp_go rfl (by simp (disch := omega) only [s124 hw, r124_47 hw, s152 hw, K152, Int.reduceToNat, am_addE, am_subE, am_mulE, am_laddE, am_lsubE, am_upO, am_upS, am_stS, am_stO, am_tnn, am_brl, am_brg, am_bre, am_brn, am_brG, am_brL, am_st1, am_no2, am_st2, am_clr, and_self, true_and, and_true, true_or, or_true, List.length_cons, List.length_nil] <;> omega) ?_
      try simp (disch := omega) only [s124 hw, r124_47 hw, s152 hw, K152, Int.reduceToNat, am_addE, am_subE, am_mulE, am_laddE, am_lsubE, am_upO, am_upS, am_stS, am_stO, am_tnn, am_brl, am_brg, am_bre, am_brn, am_brG, am_brL, am_st1, am_no2, am_st2, am_clr]
      refine am_wp_ret rfl rfl ?_
      exact h K a k1 ⟨fun g hg => by have := k2 g hg; omega, fun r r1 r2 => k3 r r1 (by omega)⟩ k4
    · have ih := ih (by omega)
      have ru : (e + 1) * u ≤ 342 * 40 := Nat.mul_le_mul (by omega) hu.2
      have rc : (u : Int) * ((e : Int) + 1) = (((e + 1) * u : Nat) : Int) := by rw [Int.natCast_mul, Int.natCast_succ, Int.mul_comm]
      have row := hrw e (by omega)
      have Sl : ax_bs (fun g => decide (1 ≤ a g)) n < 2 ^ n := ax_bs_lt _ _
      have eS : gzS n a (e + 1) = ax_bs (fun g => decide (1 ≤ a g)) n := ax_bs_cg (fun g hg => decide_eq_decide.mpr ⟨fun h => h.1, fun h => ⟨h, by have := k2 g hg; omega⟩⟩)
      obtain ⟨U0, o1, o2⟩ := (row _ Sl).2
      have o1b := gz_okA.mp o1
      generalize hS : ax_bs (fun g => decide (1 ≤ a g)) n = S at *
      have LS : ∀ y : Nat, y ≤ U0 → (∀ U, gzOk n P gzAll (e + 1) S U → gzX (I 126) (((e + 1) * u : Nat) : Int) U n + I 152 (256 * (e + 1) + (S ||| U)) = I 152 (256 * e + S) → y ≤ U) → am_wp (d + 2) 297 301 [some (.inr (.inr (124))), some (.inl ((u : Int))), some (.inl ((n : Int))), some (.inl (((2 ^ n : Nat) : Int))), some (.inl ((E : Int))), some (.inl ((S : Int))), some (.inl ((e : Int))), some (.inl ((y : Int))), z8, z9] [] (m, sl, sh, K, R) Q := by
        refine am_lp U0 (fun y hy ih2 y1 => ?_)
        have yl : y < 2 ^ n := by omega
        have no : ¬ (gzOk n P gzAll (e + 1) S y ∧ gzX (I 126) (((e + 1) * u : Nat) : Int) y n + I 152 (256 * (e + 1) + (S ||| y)) = I 152 (256 * e + S)) → am_wp (d + 2) 297 301 [some (.inr (.inr (124))), some (.inl ((u : Int))), some (.inl ((n : Int))), some (.inl (((2 ^ n : Nat) : Int))), some (.inl ((E : Int))), some (.inl ((S : Int))), some (.inl ((e : Int))), some (.inl (((y : Int) + 1))), z8, z9] [] (m, sl, sh, K, R) Q := by
          intro hc
          have ny : y ≠ U0 := fun hy => hc (by rw [hy]; exact ⟨o1, o2⟩)
          refine am_wp_ls (ih2 (by omega) (fun U u1 u2 => ?_)) rfl
          have := y1 U u1 u2
          by_cases eU : U = y
          · subst eU; exact absurd ⟨u1, u2⟩ hc
          · omega
        refine am_wp_go rfl (by simp (disch := omega) only [am_andN, am_addE, am_subE, am_mulE, am_laddE, am_lsubE, am_upO, am_upS, am_stS, am_stO, am_tnn, am_brl, am_brg, am_bre, am_brn, am_brG, am_brL, am_st1, am_no2, am_st2, am_clr, and_self, true_and, and_true, true_or, or_true, List.length_cons, List.length_nil] <;> omega) ?_
        try simp (disch := omega) only [am_andN, am_addE, am_subE, am_mulE, am_laddE, am_lsubE, am_upO, am_upS, am_stS, am_stO, am_tnn, am_brl, am_brg, am_bre, am_brn, am_brG, am_brL, am_st1, am_no2, am_st2, am_clr]
        refine am_wp_br (fun b306 => ?_) (fun b306 => ?_)
        · refine am_wp_go rfl (by simp (disch := omega) only [am_andN, am_addE, am_subE, am_mulE, am_laddE, am_lsubE, am_upO, am_upS, am_stS, am_stO, am_tnn, am_brl, am_brg, am_bre, am_brn, am_brG, am_brL, am_st1, am_no2, am_st2, am_clr, and_self, true_and, and_true, true_or, or_true, List.length_cons, List.length_nil] <;> omega) ?_
          try simp (disch := omega) only [am_andN, am_addE, am_subE, am_mulE, am_laddE, am_lsubE, am_upO, am_upS, am_stS, am_stO, am_tnn, am_brl, am_brg, am_bre, am_brn, am_brG, am_brL, am_st1, am_no2, am_st2, am_clr]
          refine no (fun hc => ?_)
          have := (gz_okA.mp hc.1).2.1
          omega
        · have b306 : y &&& S = 0 := by omega
          have K0 : K 126 0 = (P : Int) := by rw [K126]; exact hP
          refine am_wp_go rfl (by simp (disch := omega) only [am_andN, am_addE, am_subE, am_mulE, am_laddE, am_lsubE, am_upO, am_upS, am_stS, am_stO, am_tnn, am_brl, am_brg, am_bre, am_brn, am_brG, am_brL, am_st1, am_no2, am_st2, am_clr, and_self, true_and, and_true, true_or, or_true, List.length_cons, List.length_nil] <;> omega) ?_
          try simp (disch := omega) only [am_andN, am_addE, am_subE, am_mulE, am_laddE, am_lsubE, am_upO, am_upS, am_stS, am_stO, am_tnn, am_brl, am_brg, am_bre, am_brn, am_brG, am_brL, am_st1, am_no2, am_st2, am_clr]
          refine am_wp_cc rfl rfl rfl (trivial) (w_M_bits (s := y) (by omega) ⟨_, rfl, ?_⟩)
          rw [pop_gzc yl n3.2]
          refine am_wp_go rfl (by simp (disch := omega) only [s124 hw, r124_14 hw, s126 hw, K0, Int.reduceToNat, rc, am_addE, am_subE, am_mulE, am_laddE, am_lsubE, am_upO, am_upS, am_stS, am_stO, am_tnn, am_brl, am_brg, am_bre, am_brn, am_brG, am_brL, am_st1, am_no2, am_st2, am_clr, and_self, true_and, and_true, true_or, or_true, List.length_cons, List.length_nil] <;> omega) ?_
          try simp (disch := omega) only [s124 hw, r124_14 hw, s126 hw, K0, Int.reduceToNat, rc, am_addE, am_subE, am_mulE, am_laddE, am_lsubE, am_upO, am_upS, am_stS, am_stO, am_tnn, am_brl, am_brg, am_bre, am_brn, am_brG, am_brL, am_st1, am_no2, am_st2, am_clr]
          refine am_wp_br (fun b320 => ?_) (fun b320 => ?_)
          · refine am_wp_go rfl (by simp (disch := omega) only [s124 hw, r124_14 hw, s126 hw, K0, Int.reduceToNat, rc, am_addE, am_subE, am_mulE, am_laddE, am_lsubE, am_upO, am_upS, am_stS, am_stO, am_tnn, am_brl, am_brg, am_bre, am_brn, am_brG, am_brL, am_st1, am_no2, am_st2, am_clr, and_self, true_and, and_true, true_or, or_true, List.length_cons, List.length_nil] <;> omega) ?_
            try simp (disch := omega) only [s124 hw, r124_14 hw, s126 hw, K0, Int.reduceToNat, rc, am_addE, am_subE, am_mulE, am_laddE, am_lsubE, am_upO, am_upS, am_stS, am_stO, am_tnn, am_brl, am_brg, am_bre, am_brn, am_brG, am_brL, am_st1, am_no2, am_st2, am_clr]
            refine no (fun hc => ?_)
            have := (gz_okA.mp hc.1).2.2
            omega
          · have ok : gzOk n P gzAll (e + 1) S y := gz_okA.mpr ⟨yl, b306, by omega⟩
            have ol := Nat.or_lt_two_pow Sl yl
            have t1 := hb (e + 1) (by omega) _ ol
            have t0 := hb e (by omega) _ Sl
            have bx := gzX_le (W := I 126) (mi := (((e + 1) * u : Nat) : Int)) (U := y) (n := n) bw
            refine am_wp_go rfl (by simp (disch := omega) only [s124 hw, r124_14 hw, s126 hw, K0, Int.reduceToNat, rc, am_addE, am_subE, am_mulE, am_laddE, am_lsubE, am_upO, am_upS, am_stS, am_stO, am_tnn, am_brl, am_brg, am_bre, am_brn, am_brG, am_brL, am_st1, am_no2, am_st2, am_clr, and_self, true_and, and_true, true_or, or_true, List.length_cons, List.length_nil] <;> omega) ?_
            try simp (disch := omega) only [s124 hw, r124_14 hw, s126 hw, K0, Int.reduceToNat, rc, am_addE, am_subE, am_mulE, am_laddE, am_lsubE, am_upO, am_upS, am_stS, am_stO, am_tnn, am_brl, am_brg, am_bre, am_brn, am_brG, am_brL, am_st1, am_no2, am_st2, am_clr]
            refine am_wp_cc rfl rfl rfl (congrArg Prod.fst (s124 hw)) (w_M_worthOfSet (n := n) (U := y) hw (by rw [K126]; exact hk) (by rw [K126]; exact hn) (by omega) (by omega) ⟨_, rfl, ?_⟩)
            rw [K126]
            refine am_wp_go rfl (by simp (disch := omega) only [s124 hw, r124_47 hw, s152 hw, K152, am_tnA, am_tnM, Int.reduceToNat, am_orN, am_addE, am_subE, am_mulE, am_laddE, am_lsubE, am_upO, am_upS, am_stS, am_stO, am_tnn, am_brl, am_brg, am_bre, am_brn, am_brG, am_brL, am_st1, am_no2, am_st2, am_clr, and_self, true_and, and_true, true_or, or_true, List.length_cons, List.length_nil] <;> omega) ?_
            try simp (disch := omega) only [s124 hw, r124_47 hw, s152 hw, K152, am_tnA, am_tnM, Int.reduceToNat, am_orN, am_addE, am_subE, am_mulE, am_laddE, am_lsubE, am_upO, am_upS, am_stS, am_stO, am_tnn, am_brl, am_brg, am_bre, am_brn, am_brG, am_brL, am_st1, am_no2, am_st2, am_clr]
            refine am_wp_br (fun b369 => ?_) (fun b369 => ?_)
            · -- found
              have dis : ∀ g, g < n → y.testBit g = true → a g = 0 := fun g hg hU => by
                have := (ok.2.1 g hU).2
                rw [← hS, bs_tb, decide_eq_true hg, Bool.true_and, decide_eq_false_iff_not] at this
                omega
              have key : ∀ (L : Nat → Nat → Int) (z8 : Option am_V), (∀ x, x ≠ 153 → L x = I x) → (∀ g, g < n → L 153 g = if y.testBit g = true then (((e + 1) * u : Nat) : Int) else K 153 g) → am_wp (d + 2) 297 291 [some (.inr (.inr (124))), some (.inl ((u : Int))), some (.inl ((n : Int))), some (.inl (((2 ^ n : Nat) : Int))), some (.inl ((E : Int))), some (.inl (((S ||| y : Nat) : Int))), some (.inl (((e : Int) + 1))), some (.inl ((y : Int))), z8, z9] [] (m, sl, sh, L, R) Q := by
                intro L z8 l1 l2
                have b1 : ∀ g, (fun g => if y.testBit g = true then e + 1 else a g) g = if y.testBit g = true then e + 1 else a g := fun g => rfl
                generalize hb0 : (fun g => if y.testBit g = true then e + 1 else a g) = b at b1
                have bM : gzM n b (e + 1) = y := by
                  refine Nat.eq_of_testBit_eq (fun g => ?_)
                  rw [gzM_tb]
                  by_cases hg : g < n
                  · rw [decide_eq_true hg, Bool.true_and, b1]
                    cases hU : y.testBit g
                    · rw [if_neg (by decide)]
                      refine decide_eq_false (fun hc => ?_)
                      have := k2 g hg; omega
                    · rw [if_pos rfl]; exact decide_eq_true rfl
                  · rw [decide_eq_false hg, Bool.false_and]
                    exact (Nat.testBit_lt_two_pow (Nat.lt_of_lt_of_le yl (Nat.pow_le_pow_right (by decide) (by omega)))).symm
                have bS : gzS n b (e + 1) = S := by
                  rw [← eS]
                  refine ax_bs_cg (fun g hg => decide_eq_decide.mpr ?_)
                  rw [b1]
                  cases hU : y.testBit g
                  · rw [if_neg (by decide)]
                  · rw [if_pos rfl, dis g hg hU]; omega
                have e1 : S ||| y = ax_bs (fun g => decide (1 ≤ b g)) n := by
                  rw [← bM, ← bS, gzS_or (by omega)]
                  refine ax_bs_cg (fun g hg => decide_eq_decide.mpr ?_)
                  rw [b1]
                  cases hU : y.testBit g
                  · rw [if_neg (by decide)]
                    exact ⟨fun h => h.1, fun h => ⟨h, by have := k2 g hg; omega⟩⟩
                  · rw [if_pos rfl]; omega
                rw [e1]
                refine am_wp_ls (ih b _ z8 z9 L l1 (fun g hg => ?_) (fun q q1 q2 => ?_) (fun g hg => ?_)) rfl
                · rw [b1]
                  have := k2 g hg
                  split <;> omega
                · by_cases hq : q ≤ e
                  · refine gzAt_cg (k3 q q1 hq) (ax_bs_cg (fun g hg => decide_eq_decide.mpr ?_)) (ax_bs_cg (fun g hg => decide_eq_decide.mpr ?_))
                    · rw [b1]
                      cases hU : y.testBit g
                      · rw [if_neg (by decide)]
                      · rw [if_pos rfl, dis g hg hU]; omega
                    · rw [b1]
                      cases hU : y.testBit g
                      · rw [if_neg (by decide)]
                      · rw [if_pos rfl, dis g hg hU]; omega
                  · have hq2 : q = e + 1 := by omega
                    subst hq2
                    unfold gzAt gzBR
                    rw [bM, bS, Nat.add_sub_cancel, Nat.add_sub_cancel]
                    exact ⟨ok, b369, fun V' o' t' => y1 V' o' t'⟩
                · rw [l2 g hg, b1]
                  cases hU : y.testBit g
                  · simp only [Bool.false_eq_true, if_false]
                    exact k4 g hg
                  · rw [if_pos rfl, if_pos rfl, if_neg (by omega)]
              have LI : ∀ g : Nat, g ≤ n → ∀ (L : Nat → Nat → Int), (∀ x, x ≠ 153 → L x = I x) → (∀ h, h < n → L 153 h = if h < g ∧ y.testBit h = true then (((e + 1) * u : Nat) : Int) else K 153 h) → am_wp (d + 2) 297 381 [some (.inr (.inr (124))), some (.inl ((u : Int))), some (.inl ((n : Int))), some (.inl (((2 ^ n : Nat) : Int))), some (.inl ((E : Int))), some (.inl ((S : Int))), some (.inl ((e : Int))), some (.inl ((y : Int))), some (.inl ((g : Int))), z9] [] (m, sl, sh, L, R) Q := by
                refine am_lp n (fun g hg ih3 L l1 l2 => ?_)
                refine am_wp_go rfl (by simp (disch := omega) only [am_orN, am_addE, am_subE, am_mulE, am_laddE, am_lsubE, am_upO, am_upS, am_stS, am_stO, am_tnn, am_brl, am_brg, am_bre, am_brn, am_brG, am_brL, am_st1, am_no2, am_st2, am_clr, and_self, true_and, and_true, true_or, or_true, List.length_cons, List.length_nil] <;> omega) ?_
                try simp (disch := omega) only [am_orN, am_addE, am_subE, am_mulE, am_laddE, am_lsubE, am_upO, am_upS, am_stS, am_stO, am_tnn, am_brl, am_brg, am_bre, am_brn, am_brG, am_brL, am_st1, am_no2, am_st2, am_clr]
                refine am_wp_br (fun b384 => ?_) (fun b384 => ?_)
                · refine am_wp_go rfl (by simp (disch := omega) only [am_orN, am_addE, am_subE, am_mulE, am_laddE, am_lsubE, am_upO, am_upS, am_stS, am_stO, am_tnn, am_brl, am_brg, am_bre, am_brn, am_brG, am_brL, am_st1, am_no2, am_st2, am_clr, and_self, true_and, and_true, true_or, or_true, List.length_cons, List.length_nil] <;> omega) ?_
                  try simp (disch := omega) only [am_orN, am_addE, am_subE, am_mulE, am_laddE, am_lsubE, am_upO, am_upS, am_stS, am_stO, am_tnn, am_brl, am_brg, am_bre, am_brn, am_brG, am_brL, am_st1, am_no2, am_st2, am_clr]
                  exact am_wp_ls (key L _ l1 (fun x hx => by
                    rw [l2 x hx]
                    cases hU : y.testBit x
                    · rw [if_neg (by rintro ⟨-, h⟩; exact absurd h (by decide)), if_neg (by decide)]
                    · rw [if_pos ⟨by omega, rfl⟩, if_pos rfl])) rfl
                · have ih3 := ih3 (by omega)
                  refine am_wp_go rfl (by simp (disch := omega) only [am_orN, am_addE, am_subE, am_mulE, am_laddE, am_lsubE, am_upO, am_upS, am_stS, am_stO, am_tnn, am_brl, am_brg, am_bre, am_brn, am_brG, am_brL, am_st1, am_no2, am_st2, am_clr, and_self, true_and, and_true, true_or, or_true, List.length_cons, List.length_nil] <;> omega) ?_
                  try simp (disch := omega) only [am_orN, am_addE, am_subE, am_mulE, am_laddE, am_lsubE, am_upO, am_upS, am_stS, am_stO, am_tnn, am_brl, am_brg, am_bre, am_brn, am_brG, am_brL, am_st1, am_no2, am_st2, am_clr]
                  refine am_wp_cc rfl rfl rfl (trivial) (w_M_has (s := y) (k := g) (by omega) (by omega) ⟨_, rfl, ?_⟩)
                  refine am_wp_go rfl (by simp (disch := omega) only [am_b0, rc, am_addE, am_subE, am_mulE, am_laddE, am_lsubE, am_upO, am_upS, am_stS, am_stO, am_tnn, am_brl, am_brg, am_bre, am_brn, am_brG, am_brL, am_st1, am_no2, am_st2, am_clr, and_self, true_and, and_true, true_or, or_true, List.length_cons, List.length_nil] <;> omega) ?_
                  try simp (disch := omega) only [am_b0, rc, am_addE, am_subE, am_mulE, am_laddE, am_lsubE, am_upO, am_upS, am_stS, am_stO, am_tnn, am_brl, am_brg, am_bre, am_brn, am_brG, am_brL, am_st1, am_no2, am_st2, am_clr]
                  refine am_wp_br (fun b394 => ?_) (fun b394 => ?_)
                  · have nb : y.testBit g = false := Bool.eq_false_iff.mpr b394
                    refine am_wp_go rfl (by simp (disch := omega) only [am_b0, rc, am_addE, am_subE, am_mulE, am_laddE, am_lsubE, am_upO, am_upS, am_stS, am_stO, am_tnn, am_brl, am_brg, am_bre, am_brn, am_brG, am_brL, am_st1, am_no2, am_st2, am_clr, and_self, true_and, and_true, true_or, or_true, List.length_cons, List.length_nil] <;> omega) ?_
                    try simp (disch := omega) only [am_b0, rc, am_addE, am_subE, am_mulE, am_laddE, am_lsubE, am_upO, am_upS, am_stS, am_stO, am_tnn, am_brl, am_brg, am_bre, am_brn, am_brG, am_brL, am_st1, am_no2, am_st2, am_clr]
                    refine am_wp_ls (ih3 L l1 (fun x hx => ?_)) rfl
                    rw [l2 x hx]
                    by_cases e2 : x = g
                    · rw [e2, nb, if_neg (by rintro ⟨-, h⟩; exact absurd h (by decide)), if_neg (by rintro ⟨-, h⟩; exact absurd h (by decide))]
                    · have : (x < g ∧ y.testBit x = true) ↔ (x < g + 1 ∧ y.testBit x = true) := ⟨fun h => ⟨by omega, h.2⟩, fun h => ⟨by omega, h.2⟩⟩
                      simp only [this]
                  · have nb : y.testBit g = true := Classical.not_not.mp b394
                    refine am_wp_go rfl (by simp (disch := omega) only [s124 hw, r124_48 hw, s153 hw, am_b0, rc, am_addE, am_subE, am_mulE, am_laddE, am_lsubE, am_upO, am_upS, am_stS, am_stO, am_tnn, am_brl, am_brg, am_bre, am_brn, am_brG, am_brL, am_st1, am_no2, am_st2, am_clr, and_self, true_and, and_true, true_or, or_true, List.length_cons, List.length_nil] <;> omega) ?_
                    try simp (disch := omega) only [s124 hw, r124_48 hw, s153 hw, am_b0, rc, am_addE, am_subE, am_mulE, am_laddE, am_lsubE, am_upO, am_upS, am_stS, am_stO, am_tnn, am_brl, am_brg, am_bre, am_brn, am_brG, am_brL, am_st1, am_no2, am_st2, am_clr]
                    refine am_wp_ls (ih3 _ (fun x x2 => by rw [am_upO x2, l1 x x2]) (fun x hx => ?_)) rfl
                    rw [am_upS]
                    by_cases e2 : x = g
                    · rw [am_stS e2, e2, if_pos ⟨by omega, nb⟩]
                    · rw [am_stO e2, l2 x hx]
                      have : (x < g ∧ y.testBit x = true) ↔ (x < g + 1 ∧ y.testBit x = true) := ⟨fun h => ⟨by omega, h.2⟩, fun h => ⟨by omega, h.2⟩⟩
                      simp only [this]
              refine am_wp_go rfl (by simp (disch := omega) only [s124 hw, r124_47 hw, s152 hw, K152, am_tnA, am_tnM, Int.reduceToNat, am_orN, am_addE, am_subE, am_mulE, am_laddE, am_lsubE, am_upO, am_upS, am_stS, am_stO, am_tnn, am_brl, am_brg, am_bre, am_brn, am_brG, am_brL, am_st1, am_no2, am_st2, am_clr, and_self, true_and, and_true, true_or, or_true, List.length_cons, List.length_nil] <;> omega) ?_
              try simp (disch := omega) only [s124 hw, r124_47 hw, s152 hw, K152, am_tnA, am_tnM, Int.reduceToNat, am_orN, am_addE, am_subE, am_mulE, am_laddE, am_lsubE, am_upO, am_upS, am_stS, am_stO, am_tnn, am_brl, am_brg, am_bre, am_brn, am_brG, am_brL, am_st1, am_no2, am_st2, am_clr]
              refine am_wp_ls (LI 0 (Nat.zero_le n) K k1 (fun x hx => ?_)) rfl
              rw [if_neg (by rintro ⟨h, -⟩; exact absurd h (Nat.not_lt_zero x))]
            · refine am_wp_go rfl (by simp (disch := omega) only [s124 hw, r124_47 hw, s152 hw, K152, am_tnA, am_tnM, Int.reduceToNat, am_orN, am_addE, am_subE, am_mulE, am_laddE, am_lsubE, am_upO, am_upS, am_stS, am_stO, am_tnn, am_brl, am_brg, am_bre, am_brn, am_brG, am_brL, am_st1, am_no2, am_st2, am_clr, and_self, true_and, and_true, true_or, or_true, List.length_cons, List.length_nil] <;> omega) ?_
              try simp (disch := omega) only [s124 hw, r124_47 hw, s152 hw, K152, am_tnA, am_tnM, Int.reduceToNat, am_orN, am_addE, am_subE, am_mulE, am_laddE, am_lsubE, am_upO, am_upS, am_stS, am_stO, am_tnn, am_brl, am_brg, am_bre, am_brn, am_brG, am_brL, am_st1, am_no2, am_st2, am_clr]
              exact no (fun hc => b369 hc.2)
      refine am_wp_go rfl (by simp (disch := omega) only [am_addE, am_subE, am_mulE, am_laddE, am_lsubE, am_upO, am_upS, am_stS, am_stO, am_tnn, am_brl, am_brg, am_bre, am_brn, am_brG, am_brL, am_st1, am_no2, am_st2, am_clr, and_self, true_and, and_true, true_or, or_true, List.length_cons, List.length_nil] <;> omega) ?_
      try simp (disch := omega) only [am_addE, am_subE, am_mulE, am_laddE, am_lsubE, am_upO, am_upS, am_stS, am_stO, am_tnn, am_brl, am_brg, am_bre, am_brn, am_brG, am_brL, am_st1, am_no2, am_st2, am_clr]
      exact am_wp_ls (LS 0 (Nat.zero_le _) (fun U _ _ => Nat.zero_le U)) rfl
  have a0 : ax_bs (fun g => decide (1 ≤ (fun _ => 0 : Nat → Nat) g)) n = 0 := by
    rw [ax_bs_cg (q := fun _ => false) (fun g _ => decide_eq_false (Nat.not_succ_le_zero 0))]
    exact bs_none n
  refine am_wp_ls (LO 0 (Nat.zero_le _) (fun _ => 0) z7 z8 z9 I (fun _ _ => rfl) (fun g _ => Nat.le_refl 0) (fun r r1 r2 => by omega) (fun g hg => by rw [hz g hg]; rfl)) (by rw [a0]; rfl)
end SV
