/-! SERVED by the class: worthAt, weigh -/
/-- the WORTH of a GUEST that COMES at c, served at mi -/
def wtF (c w o mi : Int) : Int := if o < c - mi then 0 else if w < mi - c then 0 else if c < mi then w - (mi - c) else w
theorem wtF_le {c w o mi : Int} (h : 0 ≤ w) : 0 ≤ wtF c w o mi ∧ wtF c w o mi ≤ w := by
  unfold wtF
  (repeat' split) <;> omega
def gzf (W : Nat → Int) (mi : Int) (g : Nat) : Int := wtF (W (32 + 2 * g)) (W (32 + 2 * g + 1)) (W 2) mi
def gzX (W : Nat → Int) (mi : Int) (U n : Nat) : Int := am_fsum (fun g => if U.testBit g = true then gzf W mi g else 0) n
def gzc (U n : Nat) : Nat := ax_ct (fun g => U.testBit g) n
theorem bs_self {x n : Nat} (h : x < 2 ^ n) : ax_bs (fun g => x.testBit g) n = x := by
  refine Nat.eq_of_testBit_eq (fun g => ?_)
  rw [bs_tb]
  by_cases hg : g < n
  · rw [decide_eq_true hg, Bool.true_and]
  · rw [decide_eq_false hg, Bool.false_and]
    exact (Nat.testBit_lt_two_pow (Nat.lt_of_lt_of_le h (Nat.pow_le_pow_right (by decide) (by omega)))).symm
theorem gzc_bc {x n : Nat} (h : x < 2 ^ n) (hn : n ≤ 8) : bcN x = gzc x n := by
  have := bc_bs (p := fun g => x.testBit g) n hn
  rwa [bs_self h] at this
theorem gzX_le {W : Nat → Int} {mi : Int} {U n : Nat} (hw : ∀ g, g < n → 0 ≤ W (32 + 2 * g + 1) ∧ W (32 + 2 * g + 1) ≤ 99) : 0 ≤ gzX W mi U n ∧ gzX W mi U n ≤ n * 99 := by
  refine am_fsum_le (b := 99) (fun g hg => ?_)
  have h1 := hw g hg
  have h2 := wtF_le (c := W (32 + 2 * g)) (o := W 2) (mi := mi) h1.1
  unfold gzf
  split <;> omega
def gaF (W : Nat → Int) (P : Nat) (mi : Int) (U n : Nat) : Int := if gzc U n ≤ P then gzX W mi U n else -1000000
theorem gaF_lo {W : Nat → Int} {P : Nat} {mi : Int} {U n : Nat} (h : U < 2 ^ n) : gaF W P mi U (n + 1) = gaF W P mi U n := by
  have e : U.testBit n = false := Nat.testBit_lt_two_pow h
  unfold gaF gzc gzX
  rw [fsum_s, if_neg (show ¬ U.testBit n = true by rw [e]; decide), Int.add_zero]
  have : ax_ct (fun g => U.testBit g) (n + 1) = ax_ct (fun g => U.testBit g) n := by
    conv => lhs; unfold ax_ct
    rw [e]; rfl
  rw [this]
theorem gaF_hi {W : Nat → Int} {P : Nat} {mi : Int} {x n : Nat} (h : x < 2 ^ n) : gaF W P mi (2 ^ n + x) (n + 1) = if gzc x n < P then gzX W mi x n + gzf W mi n else -1000000 := by
  have e : (2 ^ n + x).testBit n = true := by rw [Nat.testBit_two_pow_add_eq, Nat.testBit_lt_two_pow h]; rfl
  have c : ax_ct (fun g => (2 ^ n + x).testBit g) (n + 1) = ax_ct (fun g => x.testBit g) n + 1 := by
    conv => lhs; unfold ax_ct
    rw [e, cond_true, ax_ct_cg (e := fun g => x.testBit g) (fun g hg => Nat.testBit_two_pow_add_gt hg x)]
  unfold gaF gzc gzX
  rw [c, fsum_s, if_pos e, am_fsum_cg (g := fun g => if x.testBit g = true then gzf W mi g else 0) (fun g hg => by rw [Nat.testBit_two_pow_add_gt hg x])]
  by_cases hc : ax_ct (fun g => x.testBit g) n < P
  · rw [if_pos hc, if_pos (by omega)]
  · rw [if_neg hc, if_neg (by omega)]
section SV
variable {m sl : Nat} {sh : Nat → Nat × Nat} {I : Nat → Nat → Int} {R : Nat → Nat → Nat} {Q : am_R → am_M → Prop} {d : Nat} {W N : Nat → Int}
theorem w_worthAt {g : Nat} {mi : Int} (hw : wd sh R) (hk : kit I 6 W N) (hg : g < nG W) (h0 : 0 ≤ mi ∧ mi ≤ 100000) (h : Q (am_yi (gzf W mi g)) (m, sl, sh, I, R)) : am_wp (d) 96 0 [some (.inr (.inr (6))), some (.inl ((g : Int))), some (.inl (mi)), none] [] (m, sl, sh, I, R) Q := by
  have n3 := wk_nG hk.1
  have e1 := (hk.2.2.2.2.1 g hg).1
  have e2 := (hk.2.2.2.2.1 g hg).2
  have b := hk.1.2.2.1 g hg
  have b0 := hk.1.1
  unfold wk0 at b0
  have k4 := hk.2.1.2.2.1
  unfold gzf wtF at h
  refine am_wp_go rfl (by simp (disch := omega) only [s6 hw, r6_12 hw, r6_13 hw, s8 hw, s9 hw, e1, e2, k4, am_subE, am_addE, am_subE, am_mulE, am_laddE, am_lsubE, am_upO, am_upS, am_stS, am_stO, am_tnn, am_brl, am_brg, am_bre, am_brn, am_brG, am_brL, am_st1, am_no2, am_st2, am_clr, and_self, true_and, and_true, true_or, or_true, List.length_cons, List.length_nil] <;> omega) ?_
  try simp (disch := omega) only [s6 hw, r6_12 hw, r6_13 hw, s8 hw, s9 hw, e1, e2, k4, am_subE, am_addE, am_subE, am_mulE, am_laddE, am_lsubE, am_upO, am_upS, am_stS, am_stO, am_tnn, am_brl, am_brg, am_bre, am_brn, am_brG, am_brL, am_st1, am_no2, am_st2, am_clr]
  refine am_wp_br (fun b15 => ?_) (fun b15 => ?_)
  · rw [if_neg (by omega)] at h
    refine am_wp_go rfl (by simp (disch := omega) only [s6 hw, r6_12 hw, r6_13 hw, s8 hw, s9 hw, e1, e2, k4, am_subE, am_addE, am_subE, am_mulE, am_laddE, am_lsubE, am_upO, am_upS, am_stS, am_stO, am_tnn, am_brl, am_brg, am_bre, am_brn, am_brG, am_brL, am_st1, am_no2, am_st2, am_clr, and_self, true_and, and_true, true_or, or_true, List.length_cons, List.length_nil] <;> omega) ?_
    try simp (disch := omega) only [s6 hw, r6_12 hw, r6_13 hw, s8 hw, s9 hw, e1, e2, k4, am_subE, am_addE, am_subE, am_mulE, am_laddE, am_lsubE, am_upO, am_upS, am_stS, am_stO, am_tnn, am_brl, am_brg, am_bre, am_brn, am_brG, am_brL, am_st1, am_no2, am_st2, am_clr]
    refine am_wp_ret rfl rfl ?_
    by_cases h1 : W (32 + 2 * g) < mi
    · by_cases h2 : W (32 + 2 * g + 1) < mi - W (32 + 2 * g)
      · rw [if_pos h2] at h
        simp (disch := omega) only [if_pos, if_neg, am_subE]
        exact h
      · rw [if_neg h2, if_pos h1] at h
        simp (disch := omega) only [if_pos, if_neg, am_subE]
        first | exact h | (split; exact h; rwa [show W (32 + 2 * g + 1) - (mi - W (32 + 2 * g)) = 0 by omega] at h)
    · rw [if_neg (by omega), if_neg h1] at h
      simp (disch := omega) only [if_pos, if_neg, am_subE]
      first | exact h | (rw [Int.sub_zero]; split; exact h; rwa [show W (32 + 2 * g + 1) = 0 by omega] at h)
  · rw [if_pos (by omega)] at h
    refine am_wp_go rfl (by simp (disch := omega) only [s6 hw, r6_12 hw, r6_13 hw, s8 hw, s9 hw, e1, e2, k4, am_subE, am_addE, am_subE, am_mulE, am_laddE, am_lsubE, am_upO, am_upS, am_stS, am_stO, am_tnn, am_brl, am_brg, am_bre, am_brn, am_brG, am_brL, am_st1, am_no2, am_st2, am_clr, and_self, true_and, and_true, true_or, or_true, List.length_cons, List.length_nil] <;> omega) ?_
    try simp (disch := omega) only [s6 hw, r6_12 hw, r6_13 hw, s8 hw, s9 hw, e1, e2, k4, am_subE, am_addE, am_subE, am_mulE, am_laddE, am_lsubE, am_upO, am_upS, am_stS, am_stO, am_tnn, am_brl, am_brg, am_bre, am_brn, am_brG, am_brL, am_st1, am_no2, am_st2, am_clr]
    refine am_wp_ret rfl rfl ?_
    exact h
theorem w_weigh {n P : Nat} {mi : Int} (hw : wd sh R) (hk : kit I 6 W N) (hn : n = nG W) (hP : W 0 = (P : Int)) (h5 : I 80 5 = (n : Int)) (h0 : 0 ≤ mi ∧ mi ≤ 100000) (h : ∀ J, (∀ a, a ≠ 83 → J a = I a) → (∀ U, U < 2 ^ n → J 83 U = gaF W P mi U n) → Q am_yv (m, sl, sh, J, R)) : am_wp (d + 1) 97 0 [some (.inr (.inr (80))), some (.inr (.inr (6))), some (.inl (mi)), none, none, none, none] [] (m, sl, sh, I, R) Q := by
  have n3 := wk_nG hk.1
  rw [← hn] at n3
  have k1 : I 6 1 = (P : Int) := by rw [hk.2.1.1]; exact hP
  have LO : ∀ g : Nat, g ≤ n → ∀ (z4 z5 z6 : Option am_V) (J : Nat → Nat → Int), (∀ a, a ≠ 83 → J a = I a) → (∀ U, U < 2 ^ g → J 83 U = gaF W P mi U g) → am_wp (d + 1) 97 9 [some (.inr (.inr (80))), some (.inr (.inr (6))), some (.inl (mi)), some (.inl ((g : Int))), z4, z5, z6] [] (m, sl, sh, J, R) Q := by
    refine am_lp n (fun g hg ih z4 z5 z6 J j1 j2 => ?_)
    have e5 : J 80 5 = (n : Int) := by rw [j1 80 (by decide)]; exact h5
    refine am_wp_go rfl (by simp (disch := omega) only [s80 hw, e5, am_addE, am_subE, am_mulE, am_laddE, am_lsubE, am_upO, am_upS, am_stS, am_stO, am_tnn, am_brl, am_brg, am_bre, am_brn, am_brG, am_brL, am_st1, am_no2, am_st2, am_clr, and_self, true_and, and_true, true_or, or_true, List.length_cons, List.length_nil] <;> omega) ?_
    try simp (disch := omega) only [s80 hw, e5, am_addE, am_subE, am_mulE, am_laddE, am_lsubE, am_upO, am_upS, am_stS, am_stO, am_tnn, am_brl, am_brg, am_bre, am_brn, am_brG, am_brL, am_st1, am_no2, am_st2, am_clr]
    refine am_wp_br (fun b14 => ?_) (fun b14 => ?_)
    · refine am_wp_ret rfl rfl ?_
      have e : g = n := by omega
      rw [e] at j2
      exact h J j1 j2
    · have ih := ih (by omega)
      have bw : ∀ x, x < g → 0 ≤ W (32 + 2 * x + 1) ∧ W (32 + 2 * x + 1) ≤ 99 := fun x hx => by have := hk.1.2.2.1 x (by omega); omega
      have bg := hk.1.2.2.1 g (by omega)
      have bf : 0 ≤ gzf W mi g ∧ gzf W mi g ≤ 99 := by have := wtF_le (c := W (32 + 2 * g)) (o := W 2) (mi := mi) bg.2.2.1; unfold gzf; omega
      have p8 : 2 ^ g ≤ 128 := Nat.pow_le_pow_right (n := 2) (by decide) (show g ≤ 7 by omega)
      refine am_wp_go rfl (by simp (disch := omega) only [s80 hw, e5, am_addE, am_subE, am_mulE, am_laddE, am_lsubE, am_upO, am_upS, am_stS, am_stO, am_tnn, am_brl, am_brg, am_bre, am_brn, am_brG, am_brL, am_st1, am_no2, am_st2, am_clr, and_self, true_and, and_true, true_or, or_true, List.length_cons, List.length_nil] <;> omega) ?_
      try simp (disch := omega) only [s80 hw, e5, am_addE, am_subE, am_mulE, am_laddE, am_lsubE, am_upO, am_upS, am_stS, am_stO, am_tnn, am_brl, am_brg, am_bre, am_brn, am_brG, am_brL, am_st1, am_no2, am_st2, am_clr]
      refine am_wp_cc rfl rfl rfl (trivial) (w_worthAt (W := W) (N := N) (g := g) hw (kit_fr hk (fun a a1 a2 => j1 a (by omega))) (by omega) h0 ⟨_, rfl, ?_⟩)
      refine am_wp_go rfl (by simp (disch := omega) only [s80 hw, e5, am_addE, am_subE, am_mulE, am_laddE, am_lsubE, am_upO, am_upS, am_stS, am_stO, am_tnn, am_brl, am_brg, am_bre, am_brn, am_brG, am_brL, am_st1, am_no2, am_st2, am_clr, and_self, true_and, and_true, true_or, or_true, List.length_cons, List.length_nil] <;> omega) ?_
      try simp (disch := omega) only [s80 hw, e5, am_addE, am_subE, am_mulE, am_laddE, am_lsubE, am_upO, am_upS, am_stS, am_stO, am_tnn, am_brl, am_brg, am_bre, am_brn, am_brG, am_brL, am_st1, am_no2, am_st2, am_clr]
      have LI : ∀ x : Nat, x ≤ 2 ^ g → ∀ (z6 : Option am_V) (K : Nat → Nat → Int), (∀ a, a ≠ 83 → K a = I a) → (∀ U, U < 2 ^ g + x → K 83 U = gaF W P mi U (g + 1)) → (∀ U, U < 2 ^ g → K 83 U = gaF W P mi U g) → am_wp (d + 1) 97 28 [some (.inr (.inr (80))), some (.inr (.inr (6))), some (.inl (mi)), some (.inl ((g : Int))), some (.inl (gzf W mi g)), some (.inl ((x : Int))), z6] [] (m, sl, sh, K, R) Q := by
        refine am_lp (2 ^ g) (fun x hx ih2 z6 K k2 k3 k4 => ?_)
        refine am_wp_go rfl (by simp (disch := omega) only [s80 hw, e5, am_shl1, am_addE, am_subE, am_mulE, am_laddE, am_lsubE, am_upO, am_upS, am_stS, am_stO, am_tnn, am_brl, am_brg, am_bre, am_brn, am_brG, am_brL, am_st1, am_no2, am_st2, am_clr, and_self, true_and, and_true, true_or, or_true, List.length_cons, List.length_nil] <;> omega) ?_
        try simp (disch := omega) only [s80 hw, e5, am_shl1, am_addE, am_subE, am_mulE, am_laddE, am_lsubE, am_upO, am_upS, am_stS, am_stO, am_tnn, am_brl, am_brg, am_bre, am_brn, am_brG, am_brL, am_st1, am_no2, am_st2, am_clr]
        refine am_wp_br (fun b33 => ?_) (fun b33 => ?_)
        · have e : x = 2 ^ g := by omega
          refine am_wp_go rfl (by simp (disch := omega) only [s80 hw, e5, am_shl1, am_addE, am_subE, am_mulE, am_laddE, am_lsubE, am_upO, am_upS, am_stS, am_stO, am_tnn, am_brl, am_brg, am_bre, am_brn, am_brG, am_brL, am_st1, am_no2, am_st2, am_clr, and_self, true_and, and_true, true_or, or_true, List.length_cons, List.length_nil] <;> omega) ?_
          try simp (disch := omega) only [s80 hw, e5, am_shl1, am_addE, am_subE, am_mulE, am_laddE, am_lsubE, am_upO, am_upS, am_stS, am_stO, am_tnn, am_brl, am_brg, am_bre, am_brn, am_brG, am_brL, am_st1, am_no2, am_st2, am_clr]
          refine am_wp_ls (ih _ _ _ K k2 (fun U hU => k3 U (by rw [Nat.pow_succ] at hU; omega))) rfl
        · have hx2 : x < 2 ^ g := by omega
          have ih2 := ih2 hx2
          have bx := gzX_le (W := W) (mi := mi) (U := x) (n := g) bw
          have eo : x ||| 2 ^ g = 2 ^ g + x := by
            have := Nat.two_pow_add_eq_or_of_lt hx2 1
            rw [Nat.mul_one] at this
            rw [Nat.or_comm, ← this]
          have hi := gaF_hi (W := W) (P := P) (mi := mi) hx2
          have kx := k4 x hx2
          have k6 : K 6 1 = (P : Int) := by rw [k2 6 (by decide)]; exact k1
          refine am_wp_go rfl (by simp (disch := omega) only [s80 hw, r80_2 hw, s83 hw, s6 hw, k6, am_shl1, am_addE, am_subE, am_mulE, am_laddE, am_lsubE, am_upO, am_upS, am_stS, am_stO, am_tnn, am_brl, am_brg, am_bre, am_brn, am_brG, am_brL, am_st1, am_no2, am_st2, am_clr, and_self, true_and, and_true, true_or, or_true, List.length_cons, List.length_nil] <;> omega) ?_
          try simp (disch := omega) only [s80 hw, r80_2 hw, s83 hw, s6 hw, k6, am_shl1, am_addE, am_subE, am_mulE, am_laddE, am_lsubE, am_upO, am_upS, am_stS, am_stO, am_tnn, am_brl, am_brg, am_bre, am_brn, am_brG, am_brL, am_st1, am_no2, am_st2, am_clr]
          refine am_wp_cc rfl rfl rfl (trivial) (w_bitCount (x := x) (by omega) ⟨_, rfl, ?_⟩)
          rw [gzc_bc hx2 (by omega)]
          refine am_wp_go rfl (by simp (disch := omega) only [s80 hw, r80_2 hw, s83 hw, s6 hw, k6, am_shl1, am_addE, am_subE, am_mulE, am_laddE, am_lsubE, am_upO, am_upS, am_stS, am_stO, am_tnn, am_brl, am_brg, am_bre, am_brn, am_brG, am_brL, am_st1, am_no2, am_st2, am_clr, and_self, true_and, and_true, true_or, or_true, List.length_cons, List.length_nil] <;> omega) ?_
          try simp (disch := omega) only [s80 hw, r80_2 hw, s83 hw, s6 hw, k6, am_shl1, am_addE, am_subE, am_mulE, am_laddE, am_lsubE, am_upO, am_upS, am_stS, am_stO, am_tnn, am_brl, am_brg, am_bre, am_brn, am_brG, am_brL, am_st1, am_no2, am_st2, am_clr]
          refine am_wp_br (fun b45 => ?_) (fun b45 => ?_)
          · refine am_wp_go rfl (by simp (disch := omega) only [s80 hw, r80_2 hw, s83 hw, s6 hw, k6, am_shl1, am_addE, am_subE, am_mulE, am_laddE, am_lsubE, am_upO, am_upS, am_stS, am_stO, am_tnn, am_brl, am_brg, am_bre, am_brn, am_brG, am_brL, am_st1, am_no2, am_st2, am_clr, and_self, true_and, and_true, true_or, or_true, List.length_cons, List.length_nil] <;> omega) ?_
            refine am_wp_pc (pc' := 83) rfl ?_
            rw [if_neg (by omega)] at hi
            refine am_wp_go rfl (by simp (disch := omega) only [s80 hw, r80_2 hw, s83 hw, s6 hw, k6, am_shl1, am_orN, eo, am_addE, am_subE, am_mulE, am_laddE, am_lsubE, am_upO, am_upS, am_stS, am_stO, am_tnn, am_brl, am_brg, am_bre, am_brn, am_brG, am_brL, am_st1, am_no2, am_st2, am_clr, and_self, true_and, and_true, true_or, or_true, List.length_cons, List.length_nil] <;> omega) ?_
            try simp (disch := omega) only [s80 hw, r80_2 hw, s83 hw, s6 hw, k6, am_shl1, am_orN, eo, am_addE, am_subE, am_mulE, am_laddE, am_lsubE, am_upO, am_upS, am_stS, am_stO, am_tnn, am_brl, am_brg, am_bre, am_brn, am_brG, am_brL, am_st1, am_no2, am_st2, am_clr]
            refine am_wp_ls (ih2 _ _ (fun a ha => by rw [am_upO ha, k2 a ha]) (fun U hU => ?_) (fun U hU => ?_)) rfl
            · rw [am_upS]
              by_cases e : U = 2 ^ g + x
              · rw [am_stS e, e, hi]
              · rw [am_stO e]; exact k3 U (by omega)
            · rw [am_upS, am_stO (by omega)]; exact k4 U hU
          · refine am_wp_go rfl (by simp (disch := omega) only [s80 hw, r80_2 hw, s83 hw, s6 hw, k6, am_shl1, am_addE, am_subE, am_mulE, am_laddE, am_lsubE, am_upO, am_upS, am_stS, am_stO, am_tnn, am_brl, am_brg, am_bre, am_brn, am_brG, am_brL, am_st1, am_no2, am_st2, am_clr, and_self, true_and, and_true, true_or, or_true, List.length_cons, List.length_nil] <;> omega) ?_
            refine am_wp_pc (pc' := 70) rfl ?_
            rw [if_pos (by omega)] at hi
            unfold gaF at kx
            rw [if_pos (by omega)] at kx
            refine am_wp_go rfl (by simp (disch := omega) only [s80 hw, r80_2 hw, s83 hw, s6 hw, k6, kx, am_shl1, am_orN, eo, am_addE, am_subE, am_mulE, am_laddE, am_lsubE, am_upO, am_upS, am_stS, am_stO, am_tnn, am_brl, am_brg, am_bre, am_brn, am_brG, am_brL, am_st1, am_no2, am_st2, am_clr, and_self, true_and, and_true, true_or, or_true, List.length_cons, List.length_nil] <;> omega) ?_
            try simp (disch := omega) only [s80 hw, r80_2 hw, s83 hw, s6 hw, k6, kx, am_shl1, am_orN, eo, am_addE, am_subE, am_mulE, am_laddE, am_lsubE, am_upO, am_upS, am_stS, am_stO, am_tnn, am_brl, am_brg, am_bre, am_brn, am_brG, am_brL, am_st1, am_no2, am_st2, am_clr]
            refine am_wp_ls (ih2 _ _ (fun a ha => by rw [am_upO ha, k2 a ha]) (fun U hU => ?_) (fun U hU => ?_)) rfl
            · rw [am_upS]
              by_cases e : U = 2 ^ g + x
              · rw [am_stS e, e, hi]
              · rw [am_stO e]; exact k3 U (by omega)
            · rw [am_upS, am_stO (by omega)]; exact k4 U hU
      refine am_wp_ls (LI 0 (Nat.zero_le _) _ J j1 (fun U hU => ?_) j2) rfl
      rw [gaF_lo (by omega)]; exact j2 U (by omega)
  refine am_wp_go rfl (by simp (disch := omega) only [s80 hw, r80_2 hw, s83 hw, Int.reduceToNat, am_addE, am_subE, am_mulE, am_laddE, am_lsubE, am_upO, am_upS, am_stS, am_stO, am_tnn, am_brl, am_brg, am_bre, am_brn, am_brG, am_brL, am_st1, am_no2, am_st2, am_clr, and_self, true_and, and_true, true_or, or_true, List.length_cons, List.length_nil] <;> omega) ?_
  try simp (disch := omega) only [s80 hw, r80_2 hw, s83 hw, Int.reduceToNat, am_addE, am_subE, am_mulE, am_laddE, am_lsubE, am_upO, am_upS, am_stS, am_stO, am_tnn, am_brl, am_brg, am_bre, am_brn, am_brG, am_brL, am_st1, am_no2, am_st2, am_clr]
  refine am_wp_ls (LO 0 (Nat.zero_le n) none none none _ (fun a ha => am_upO ha) (fun U hU => ?_)) rfl
  have e : U = 0 := by rw [Nat.pow_zero] at hU; omega
  rw [am_upS, am_stS e]
  unfold gaF
  rw [if_pos (show gzc U 0 ≤ P from Nat.zero_le P)]
  rfl
end SV
