/-! restore -/
section REST
variable {m sl : Nat} {sh : Nat → Nat × Nat} {I : Nat → Nat → Int} {R : Nat → Nat → Nat} {Q : am_R → am_M → Prop} {d : Nat} {W N : Nat → Int} {G : List Go}
def reC (I J : Nat → Nat → Int) (W N : Nat → Int) (G : List Go) : Prop := (∀ a, (a ≤ 5 ∨ 20 ≤ a ∧ a ≠ 22) → J a = I a) ∧ kit J 6 W N ∧ pl J 14 G ∧ sen J 16 W ∧ J 22 1 = I 22 1 ∧ J 22 2 = 0
theorem c_restore {k : Int} (hw : wd sh R) (hf : ∀ j, j < 2 → I (92 + 16 * j) 3 = 0 ∨ I (92 + 16 * j) 3 = 1) (h0 : ¬ (0 ≤ k ∧ k ≤ 1 ∧ I (92 + 16 * k.toNat) 3 = 1) → Q (am_yi 0) (m, sl, sh, I, R)) (hc : 0 ≤ k ∧ k ≤ 1 ∧ I (92 + 16 * k.toNat) 3 = 1 → kit I (93 + 16 * k.toNat) W N ∧ pl I (101 + 16 * k.toNat) G ∧ sen I (103 + 16 * k.toNat) W) (h1 : 0 ≤ k ∧ k ≤ 1 ∧ I (92 + 16 * k.toNat) 3 = 1 → ∀ J, reC I J W N G → Q (am_yi 1) (m, sl, sh, J, R)) : am_wp (d + 2) 187 0 [some (.inr (.inr (4))), some (.inl (k))] [] (m, sl, sh, I, R) Q := by
  refine am_wp_go rfl (by simp (disch := omega) only [s4 hw, am_addE, am_subE, am_mulE, am_laddE, am_lsubE, am_upO, am_upS, am_stS, am_stO, am_tnn, am_brl, am_brg, am_bre, am_brn, am_brG, am_brL, am_st1, am_no2, am_st2, am_clr, and_self, true_and, and_true, true_or, or_true, List.length_cons, List.length_nil] <;> omega) ?_
  try simp (disch := omega) only [s4 hw, am_addE, am_subE, am_mulE, am_laddE, am_lsubE, am_upO, am_upS, am_stS, am_stO, am_tnn, am_brl, am_brg, am_bre, am_brn, am_brG, am_brL, am_st1, am_no2, am_st2, am_clr]
  refine am_wp_br (fun b1 => ?_) (fun b1 => ?_)
  · refine am_wp_go rfl (by simp (disch := omega) only [s4 hw, am_addE, am_subE, am_mulE, am_laddE, am_lsubE, am_upO, am_upS, am_stS, am_stO, am_tnn, am_brl, am_brg, am_bre, am_brn, am_brG, am_brL, am_st1, am_no2, am_st2, am_clr, and_self, true_and, and_true, true_or, or_true, List.length_cons, List.length_nil] <;> omega) ?_
    try simp (disch := omega) only [s4 hw, am_addE, am_subE, am_mulE, am_laddE, am_lsubE, am_upO, am_upS, am_stS, am_stO, am_tnn, am_brl, am_brg, am_bre, am_brn, am_brG, am_brL, am_st1, am_no2, am_st2, am_clr]
    refine am_wp_ret rfl rfl ?_
    exact h0 (by omega)
  · refine am_wp_go rfl (by simp (disch := omega) only [s4 hw, am_addE, am_subE, am_mulE, am_laddE, am_lsubE, am_upO, am_upS, am_stS, am_stO, am_tnn, am_brl, am_brg, am_bre, am_brn, am_brG, am_brL, am_st1, am_no2, am_st2, am_clr, and_self, true_and, and_true, true_or, or_true, List.length_cons, List.length_nil] <;> omega) ?_
    try simp (disch := omega) only [s4 hw, am_addE, am_subE, am_mulE, am_laddE, am_lsubE, am_upO, am_upS, am_stS, am_stO, am_tnn, am_brl, am_brg, am_bre, am_brn, am_brG, am_brL, am_st1, am_no2, am_st2, am_clr]
    refine am_wp_br (fun b6 => ?_) (fun b6 => ?_)
    · refine am_wp_go rfl (by simp (disch := omega) only [s4 hw, am_addE, am_subE, am_mulE, am_laddE, am_lsubE, am_upO, am_upS, am_stS, am_stO, am_tnn, am_brl, am_brg, am_bre, am_brn, am_brG, am_brL, am_st1, am_no2, am_st2, am_clr, and_self, true_and, and_true, true_or, or_true, List.length_cons, List.length_nil] <;> omega) ?_
      try simp (disch := omega) only [s4 hw, am_addE, am_subE, am_mulE, am_laddE, am_lsubE, am_upO, am_upS, am_stS, am_stO, am_tnn, am_brl, am_brg, am_bre, am_brn, am_brG, am_brL, am_st1, am_no2, am_st2, am_clr]
      refine am_wp_ret rfl rfl ?_
      exact h0 (by omega)
    · obtain ⟨j, rfl⟩ : ∃ j : Nat, k = (j : Int) := ⟨k.toNat, by omega⟩
      rw [am_tnn] at h0 h1 hc
      have e := r21 hw (k := j) (by omega)
      have e2 := s92k hw (k := j) (by omega)
      have e3 := hf j (by omega)
      refine am_wp_go rfl (by simp (disch := omega) only [s4 hw, r4_1 hw, s21 hw, r4_0 hw, r4_2 hw, e, e2, am_addE, am_subE, am_mulE, am_laddE, am_lsubE, am_upO, am_upS, am_stS, am_stO, am_tnn, am_brl, am_brg, am_bre, am_brn, am_brG, am_brL, am_st1, am_no2, am_st2, am_clr, and_self, true_and, and_true, true_or, or_true, List.length_cons, List.length_nil] <;> omega) ?_
      try simp (disch := omega) only [s4 hw, r4_1 hw, s21 hw, r4_0 hw, r4_2 hw, e, e2, am_addE, am_subE, am_mulE, am_laddE, am_lsubE, am_upO, am_upS, am_stS, am_stO, am_tnn, am_brl, am_brg, am_bre, am_brn, am_brG, am_brL, am_st1, am_no2, am_st2, am_clr]
      refine am_wp_br (fun b18 => ?_) (fun b18 => ?_)
      · obtain ⟨k1, k2, k3⟩ := hc (by omega)
        refine am_wp_go rfl (by simp (disch := omega) only [s4 hw, r4_1 hw, s21 hw, r4_0 hw, r4_2 hw, e, e2, am_addE, am_subE, am_mulE, am_laddE, am_lsubE, am_upO, am_upS, am_stS, am_stO, am_tnn, am_brl, am_brg, am_bre, am_brn, am_brG, am_brL, am_st1, am_no2, am_st2, am_clr, and_self, true_and, and_true, true_or, or_true, List.length_cons, List.length_nil] <;> omega) ?_
        try simp (disch := omega) only [s4 hw, r4_1 hw, s21 hw, r4_0 hw, r4_2 hw, e, e2, am_addE, am_subE, am_mulE, am_laddE, am_lsubE, am_upO, am_upS, am_stS, am_stO, am_tnn, am_brl, am_brg, am_bre, am_brn, am_brG, am_brL, am_st1, am_no2, am_st2, am_clr]
        refine am_wp_cc rfl rfl rfl (congrArg Prod.fst (s5 hw)) (w_stcopy (t := 5) (u := 92 + 16 * j) hw (by omega) (by omega) (by omega) (by rw [show 92 + 16 * j + 1 = 93 + 16 * j by omega]; exact k1) (by rw [show 92 + 16 * j + 9 = 101 + 16 * j by omega]; exact k2) (by rw [show 92 + 16 * j + 11 = 103 + 16 * j by omega]; exact k3) (fun J j1 j2 j3 j4 => ⟨_, rfl, ?_⟩))
        refine am_wp_go rfl (by simp (disch := omega) only [s4 hw, r4_1 hw, s21 hw, r4_0 hw, r4_2 hw, e, e2, am_addE, am_subE, am_mulE, am_laddE, am_lsubE, am_upO, am_upS, am_stS, am_stO, am_tnn, am_brl, am_brg, am_bre, am_brn, am_brG, am_brL, am_st1, am_no2, am_st2, am_clr, and_self, true_and, and_true, true_or, or_true, List.length_cons, List.length_nil] <;> omega) ?_
        try simp (disch := omega) only [s4 hw, r4_1 hw, s21 hw, r4_0 hw, r4_2 hw, e, e2, am_addE, am_subE, am_mulE, am_laddE, am_lsubE, am_upO, am_upS, am_stS, am_stO, am_tnn, am_brl, am_brg, am_bre, am_brn, am_brG, am_brL, am_st1, am_no2, am_st2, am_clr]
        refine am_wp_cc rfl rfl rfl (congrArg Prod.fst (s22 hw)) (w_hclear hw (fun K g1 g2 g3 => ⟨_, rfl, ?_⟩))
        refine am_wp_go rfl (by simp (disch := omega) only [s4 hw, r4_1 hw, s21 hw, r4_0 hw, r4_2 hw, e, e2, am_addE, am_subE, am_mulE, am_laddE, am_lsubE, am_upO, am_upS, am_stS, am_stO, am_tnn, am_brl, am_brg, am_bre, am_brn, am_brG, am_brL, am_st1, am_no2, am_st2, am_clr, and_self, true_and, and_true, true_or, or_true, List.length_cons, List.length_nil] <;> omega) ?_
        try simp (disch := omega) only [s4 hw, r4_1 hw, s21 hw, r4_0 hw, r4_2 hw, e, e2, am_addE, am_subE, am_mulE, am_laddE, am_lsubE, am_upO, am_upS, am_stS, am_stO, am_tnn, am_brl, am_brg, am_bre, am_brn, am_brG, am_brL, am_st1, am_no2, am_st2, am_clr]
        refine am_wp_ret rfl rfl ?_
        exact h1 (by omega) K ⟨fun a ha => by rw [g1 a (by omega), j1 a (by omega)], kit_fr j2 (fun a h1 h2 => g1 a (by omega)), pl_fr j3 (g1 _ (by omega)) (g1 _ (by omega)), sen_fr j4 (g1 _ (by omega)) (g1 _ (by omega)) (g1 _ (by omega)) (g1 _ (by omega)), by rw [g2, j1 22 (by omega)], g3⟩
      · refine am_wp_go rfl (by simp (disch := omega) only [s4 hw, r4_1 hw, s21 hw, r4_0 hw, r4_2 hw, e, e2, am_addE, am_subE, am_mulE, am_laddE, am_lsubE, am_upO, am_upS, am_stS, am_stO, am_tnn, am_brl, am_brg, am_bre, am_brn, am_brG, am_brL, am_st1, am_no2, am_st2, am_clr, and_self, true_and, and_true, true_or, or_true, List.length_cons, List.length_nil] <;> omega) ?_
        try simp (disch := omega) only [s4 hw, r4_1 hw, s21 hw, r4_0 hw, r4_2 hw, e, e2, am_addE, am_subE, am_mulE, am_laddE, am_lsubE, am_upO, am_upS, am_stS, am_stO, am_tnn, am_brl, am_brg, am_bre, am_brn, am_brG, am_brL, am_st1, am_no2, am_st2, am_clr]
        refine am_wp_ret rfl rfl ?_
        exact h0 (by omega)
def reR (I J : Nat → Nat → Int) (k : Nat) : Prop := (∀ a, (a < 124 ∨ a = 125 ∨ 128 ≤ a ∧ a ≤ 129 ∨ 132 ≤ a ∧ a ≤ 133 ∨ a = 135 ∨ a = 153 ∨ a = 156) → J a = I a) ∧ (J 124 2 = I 124 2 ∧ J 124 10 = I 124 10 ∧ J 124 26 = I 124 26 ∧ J 124 29 = I 124 29 ∧ J 124 49 = I 124 49 ∧ J 124 53 = I 124 53) ∧ J 124 23 = 1 ∧ J 124 22 = 0 ∧ (∀ j, j < 2301 → J 126 j = kpW I k j) ∧ (∀ j, j < 21 → J 130 j = kpN I k j)
theorem r_restore {k : Int} (hw : wd sh R) (hb : beg I) (hf : ∀ j, j < 2 → I 133 j = 0 ∨ I 133 j = 1) (h0 : ¬ (0 ≤ k ∧ k ≤ 1 ∧ I 133 k.toNat = 1) → ∀ J, rq I J → Q (am_yi 0) (m, sl, sh, J, R)) (h1 : 0 ≤ k ∧ k ≤ 1 ∧ I 133 k.toNat = 1 → ∀ J, reR I J k.toNat → Q (am_yi 1) (m, sl, sh, J, R)) : am_wp (d + 2) 324 0 [some (.inr (.inr (124))), some (.inl (k)), none] [] (m, sl, sh, I, R) Q := by
  refine am_wp_go rfl (by simp (disch := omega) only [s124 hw, am_addE, am_subE, am_mulE, am_laddE, am_lsubE, am_upO, am_upS, am_stS, am_stO, am_tnn, am_brl, am_brg, am_bre, am_brn, am_brG, am_brL, am_st1, am_no2, am_st2, am_clr, and_self, true_and, and_true, true_or, or_true, List.length_cons, List.length_nil] <;> omega) ?_
  have q0 := rq_thrown (I := I) (x := 0)
  generalize am_up I 124 0 0 = I0 at q0 ⊢
  refine am_wp_cc rfl rfl rfl (congrArg Prod.fst (s124 hw)) (w_M_lay hw (beg_rq q0 hb) (fun J j1 j2 j3 j4 => ⟨_, rfl, ?_⟩))
  have q1 := rq_trans q0 (rq_lay j1 j2 j3 j4)
  rw [rq_lw q0] at j4
  clear j1 j2
  have e133 := q1.1 133 (by omega)
  refine am_wp_go rfl (by simp (disch := omega) only [s124 hw, am_b0, am_addE, am_subE, am_mulE, am_laddE, am_lsubE, am_upO, am_upS, am_stS, am_stO, am_tnn, am_brl, am_brg, am_bre, am_brn, am_brG, am_brL, am_st1, am_no2, am_st2, am_clr, and_self, true_and, and_true, true_or, or_true, List.length_cons, List.length_nil] <;> omega) ?_
  try simp (disch := omega) only [s124 hw, am_b0, am_addE, am_subE, am_mulE, am_laddE, am_lsubE, am_upO, am_upS, am_stS, am_stO, am_tnn, am_brl, am_brg, am_bre, am_brn, am_brG, am_brL, am_st1, am_no2, am_st2, am_clr]
  refine am_wp_cc rfl rfl rfl (trivial) (w_M_isIn ⟨_, rfl, ?_⟩)
  refine am_wp_go rfl (by simp (disch := omega) only [s124 hw, am_b0, am_addE, am_subE, am_mulE, am_laddE, am_lsubE, am_upO, am_upS, am_stS, am_stO, am_tnn, am_brl, am_brg, am_bre, am_brn, am_brG, am_brL, am_st1, am_no2, am_st2, am_clr, and_self, true_and, and_true, true_or, or_true, List.length_cons, List.length_nil] <;> omega) ?_
  try simp (disch := omega) only [s124 hw, am_b0, am_addE, am_subE, am_mulE, am_laddE, am_lsubE, am_upO, am_upS, am_stS, am_stO, am_tnn, am_brl, am_brg, am_bre, am_brn, am_brG, am_brL, am_st1, am_no2, am_st2, am_clr]
  refine am_wp_br (fun b15 => ?_) (fun b15 => ?_)
  · refine am_wp_go rfl (by simp (disch := omega) only [s124 hw, am_b0, am_addE, am_subE, am_mulE, am_laddE, am_lsubE, am_upO, am_upS, am_stS, am_stO, am_tnn, am_brl, am_brg, am_bre, am_brn, am_brG, am_brL, am_st1, am_no2, am_st2, am_clr, and_self, true_and, and_true, true_or, or_true, List.length_cons, List.length_nil] <;> omega) ?_
    try simp (disch := omega) only [s124 hw, am_b0, am_addE, am_subE, am_mulE, am_laddE, am_lsubE, am_upO, am_upS, am_stS, am_stO, am_tnn, am_brl, am_brg, am_bre, am_brn, am_brG, am_brL, am_st1, am_no2, am_st2, am_clr]
    refine am_wp_ret rfl rfl ?_
    exact h0 (by omega) _ q1
  · obtain ⟨n, rfl⟩ : ∃ j : Nat, k = (j : Int) := ⟨k.toNat, by omega⟩
    rw [am_tnn] at h1 h0
    have hn : n < 2 := by omega
    have f := hf n hn
    rw [← e133] at h0 h1 f
    refine am_wp_go rfl (by simp (disch := omega) only [s124 hw, r124_21 hw, s133 hw, am_b0, am_addE, am_subE, am_mulE, am_laddE, am_lsubE, am_upO, am_upS, am_stS, am_stO, am_tnn, am_brl, am_brg, am_bre, am_brn, am_brG, am_brL, am_st1, am_no2, am_st2, am_clr, and_self, true_and, and_true, true_or, or_true, List.length_cons, List.length_nil] <;> omega) ?_
    try simp (disch := omega) only [s124 hw, r124_21 hw, s133 hw, am_b0, am_addE, am_subE, am_mulE, am_laddE, am_lsubE, am_upO, am_upS, am_stS, am_stO, am_tnn, am_brl, am_brg, am_bre, am_brn, am_brG, am_brL, am_st1, am_no2, am_st2, am_clr]
    refine am_wp_br (fun b24 => ?_) (fun b24 => ?_)
    · refine am_wp_go rfl (by simp (disch := omega) only [s124 hw, r124_21 hw, s133 hw, am_b0, am_addE, am_subE, am_mulE, am_laddE, am_lsubE, am_upO, am_upS, am_stS, am_stO, am_tnn, am_brl, am_brg, am_bre, am_brn, am_brG, am_brL, am_st1, am_no2, am_st2, am_clr, and_self, true_and, and_true, true_or, or_true, List.length_cons, List.length_nil] <;> omega) ?_
      try simp (disch := omega) only [s124 hw, r124_21 hw, s133 hw, am_b0, am_addE, am_subE, am_mulE, am_laddE, am_lsubE, am_upO, am_upS, am_stS, am_stO, am_tnn, am_brl, am_brg, am_bre, am_brn, am_brG, am_brL, am_st1, am_no2, am_st2, am_clr]
      refine am_lp0 (P := fun k => ∀ K, (∀ a, a ≠ 126 → K a = J a) → (K 126 = fun x => if x < k then J 128 (2301 * n + x) else J 126 x) → am_wp (d + 2) 324 31 [some (.inr (.inr (124))), some (.inl ((n : Int))), some (.inl ((k : Int)))] [] (m, sl, sh, K, R) Q) 2301 (fun k hk ih K k1 k2 => ?_) J (fun _ _ => rfl) (by funext x; rw [if_neg (by omega)])
      refine am_wp_go rfl (by simp (disch := omega) only [s124 hw, r124_14 hw, s126 hw, r124_16 hw, s128 hw, am_tnA, am_tnM, Int.reduceToNat, am_addE, am_subE, am_mulE, am_laddE, am_lsubE, am_upO, am_upS, am_stS, am_stO, am_tnn, am_brl, am_brg, am_bre, am_brn, am_brG, am_brL, am_st1, am_no2, am_st2, am_clr, and_self, true_and, and_true, true_or, or_true, List.length_cons, List.length_nil] <;> omega) ?_
      try simp (disch := omega) only [s124 hw, r124_14 hw, s126 hw, r124_16 hw, s128 hw, am_tnA, am_tnM, Int.reduceToNat, am_addE, am_subE, am_mulE, am_laddE, am_lsubE, am_upO, am_upS, am_stS, am_stO, am_tnn, am_brl, am_brg, am_bre, am_brn, am_brG, am_brL, am_st1, am_no2, am_st2, am_clr]
      refine am_wp_br (fun b35 => ?_) (fun b35 => ?_)
      · refine am_wp_go rfl (by simp (disch := omega) only [s124 hw, r124_14 hw, s126 hw, r124_16 hw, s128 hw, am_tnA, am_tnM, Int.reduceToNat, am_addE, am_subE, am_mulE, am_laddE, am_lsubE, am_upO, am_upS, am_stS, am_stO, am_tnn, am_brl, am_brg, am_bre, am_brn, am_brG, am_brL, am_st1, am_no2, am_st2, am_clr, and_self, true_and, and_true, true_or, or_true, List.length_cons, List.length_nil] <;> omega) ?_
        try simp (disch := omega) only [s124 hw, r124_14 hw, s126 hw, r124_16 hw, s128 hw, am_tnA, am_tnM, Int.reduceToNat, am_addE, am_subE, am_mulE, am_laddE, am_lsubE, am_upO, am_upS, am_stS, am_stO, am_tnn, am_brl, am_brg, am_bre, am_brn, am_brG, am_brL, am_st1, am_no2, am_st2, am_clr]
        refine am_lp0 (P := fun k => ∀ L, (∀ a, a ≠ 130 → L a = K a) → (L 130 = fun x => if x < k then J 132 (21 * n + x) else J 130 x) → am_wp (d + 2) 324 64 [some (.inr (.inr (124))), some (.inl ((n : Int))), some (.inl ((k : Int)))] [] (m, sl, sh, L, R) Q) 21 (fun i hi ih2 L l1 l2 => ?_) K (fun _ _ => rfl) (by rw [k1 130 (by decide)]; funext x; rw [if_neg (by omega)])
        refine am_wp_go rfl (by simp (disch := omega) only [s124 hw, r124_18 hw, s130 hw, r124_20 hw, s132 hw, am_tnA, am_tnM, Int.reduceToNat, am_addE, am_subE, am_mulE, am_laddE, am_lsubE, am_upO, am_upS, am_stS, am_stO, am_tnn, am_brl, am_brg, am_bre, am_brn, am_brG, am_brL, am_st1, am_no2, am_st2, am_clr, and_self, true_and, and_true, true_or, or_true, List.length_cons, List.length_nil] <;> omega) ?_
        try simp (disch := omega) only [s124 hw, r124_18 hw, s130 hw, r124_20 hw, s132 hw, am_tnA, am_tnM, Int.reduceToNat, am_addE, am_subE, am_mulE, am_laddE, am_lsubE, am_upO, am_upS, am_stS, am_stO, am_tnn, am_brl, am_brg, am_bre, am_brn, am_brG, am_brL, am_st1, am_no2, am_st2, am_clr]
        refine am_wp_br (fun b67 => ?_) (fun b67 => ?_)
        · refine am_wp_go rfl (by simp (disch := omega) only [s124 hw, r124_18 hw, s130 hw, r124_20 hw, s132 hw, am_tnA, am_tnM, Int.reduceToNat, am_addE, am_subE, am_mulE, am_laddE, am_lsubE, am_upO, am_upS, am_stS, am_stO, am_tnn, am_brl, am_brg, am_bre, am_brn, am_brG, am_brL, am_st1, am_no2, am_st2, am_clr, and_self, true_and, and_true, true_or, or_true, List.length_cons, List.length_nil] <;> omega) ?_
          try simp (disch := omega) only [s124 hw, r124_18 hw, s130 hw, r124_20 hw, s132 hw, am_tnA, am_tnM, Int.reduceToNat, am_addE, am_subE, am_mulE, am_laddE, am_lsubE, am_upO, am_upS, am_stS, am_stO, am_tnn, am_brl, am_brg, am_bre, am_brn, am_brG, am_brL, am_st1, am_no2, am_st2, am_clr]
          refine am_wp_ret rfl rfl ?_
          have hk0 : k = 2301 := by omega
          have hi0 : i = 21 := by omega
          subst hk0 hi0
          refine h1 (by omega) _ ⟨fun a ha => ?_, ⟨?_, ?_, ?_, ?_, ?_, ?_⟩, ?_, ?_, fun j hj => ?_, fun j hj => ?_⟩
          · rw [am_upO (by omega), l1 a (by omega), k1 a (by omega)]; exact q1.1 a (by omega)
          · rw [am_upS, am_stO (by decide), l1 124 (by omega), k1 124 (by omega)]; exact q1.2.1.1
          · rw [am_upS, am_stO (by decide), l1 124 (by omega), k1 124 (by omega)]; exact q1.2.1.2.1
          · rw [am_upS, am_stO (by decide), l1 124 (by omega), k1 124 (by omega)]; exact q1.2.1.2.2.2.1
          · rw [am_upS, am_stO (by decide), l1 124 (by omega), k1 124 (by omega)]; exact q1.2.1.2.2.2.2.1
          · rw [am_upS, am_stO (by decide), l1 124 (by omega), k1 124 (by omega)]; exact q1.2.1.2.2.2.2.2.1
          · rw [am_upS, am_stO (by decide), l1 124 (by omega), k1 124 (by omega)]; exact q1.2.1.2.2.2.2.2.2
          · rw [am_upS, am_stO (by decide), l1 124 (by omega), k1 124 (by omega)]; exact j3
          · rw [am_upS, am_stS rfl]
          · unfold kpW
            rw [am_upO (by omega), l1 126 (by omega), k2]
            dsimp only
            rw [if_pos (by omega)]
            exact congrFun (q1.1 128 (by omega)) _
          · unfold kpN
            rw [am_upO (by omega), l2]
            dsimp only
            rw [if_pos (by omega)]
            exact congrFun (q1.1 132 (by omega)) _
        · refine am_wp_go rfl (by simp (disch := omega) only [s124 hw, r124_18 hw, s130 hw, r124_20 hw, s132 hw, am_tnA, am_tnM, Int.reduceToNat, am_addE, am_subE, am_mulE, am_laddE, am_lsubE, am_upO, am_upS, am_stS, am_stO, am_tnn, am_brl, am_brg, am_bre, am_brn, am_brG, am_brL, am_st1, am_no2, am_st2, am_clr, and_self, true_and, and_true, true_or, or_true, List.length_cons, List.length_nil] <;> omega) ?_
          rw [r124_18 hw, r124_20 hw]
          simp (disch := omega) only [s124 hw, r124_18 hw, s130 hw, r124_20 hw, s132 hw, am_tnA, am_tnM, Int.reduceToNat, am_addE, am_subE, am_mulE, am_laddE, am_lsubE, am_upO, am_upS, am_stS, am_stO, am_tnn, am_brl, am_brg, am_bre, am_brn, am_brG, am_brL, am_st1, am_no2, am_st2, am_clr]
          refine am_wp_ls (ih2 (by omega) _ (fun a ha => by rw [am_upO ha, l1 a ha]) ?_) rfl
          rw [am_upS, l2, l1 132 (by decide), k1 132 (by decide)]
          funext x
          simp only [am_set]
          by_cases hx : x = i
          · rw [if_pos hx, if_pos (by omega), hx]
          · rw [if_neg hx]
            by_cases hx2 : x < i
            · rw [if_pos hx2, if_pos (by omega)]
            · rw [if_neg hx2, if_neg (by omega)]
      · refine am_wp_go rfl (by simp (disch := omega) only [s124 hw, r124_14 hw, s126 hw, r124_16 hw, s128 hw, am_tnA, am_tnM, Int.reduceToNat, am_addE, am_subE, am_mulE, am_laddE, am_lsubE, am_upO, am_upS, am_stS, am_stO, am_tnn, am_brl, am_brg, am_bre, am_brn, am_brG, am_brL, am_st1, am_no2, am_st2, am_clr, and_self, true_and, and_true, true_or, or_true, List.length_cons, List.length_nil] <;> omega) ?_
        rw [r124_14 hw, r124_16 hw]
        simp (disch := omega) only [s124 hw, r124_14 hw, s126 hw, r124_16 hw, s128 hw, am_tnA, am_tnM, Int.reduceToNat, am_addE, am_subE, am_mulE, am_laddE, am_lsubE, am_upO, am_upS, am_stS, am_stO, am_tnn, am_brl, am_brg, am_bre, am_brn, am_brG, am_brL, am_st1, am_no2, am_st2, am_clr]
        refine am_wp_ls (ih (by omega) _ (fun a ha => by rw [am_upO ha, k1 a ha]) ?_) rfl
        rw [am_upS, k2, k1 128 (by decide)]
        funext x
        simp only [am_set]
        by_cases hx : x = k
        · rw [if_pos hx, if_pos (by omega), hx]
        · rw [if_neg hx]
          by_cases hx2 : x < k
          · rw [if_pos hx2, if_pos (by omega)]
          · rw [if_neg hx2, if_neg (by omega)]
    · refine am_wp_go rfl (by simp (disch := omega) only [s124 hw, r124_21 hw, s133 hw, am_b0, am_addE, am_subE, am_mulE, am_laddE, am_lsubE, am_upO, am_upS, am_stS, am_stO, am_tnn, am_brl, am_brg, am_bre, am_brn, am_brG, am_brL, am_st1, am_no2, am_st2, am_clr, and_self, true_and, and_true, true_or, or_true, List.length_cons, List.length_nil] <;> omega) ?_
      try simp (disch := omega) only [s124 hw, r124_21 hw, s133 hw, am_b0, am_addE, am_subE, am_mulE, am_laddE, am_lsubE, am_upO, am_upS, am_stS, am_stO, am_tnn, am_brl, am_brg, am_bre, am_brn, am_brG, am_brL, am_st1, am_no2, am_st2, am_clr]
      refine am_wp_ret rfl rfl ?_
      exact h0 (by omega) _ q1
end REST
theorem cp_restore {X : Nat → Int} {I J K : Nat → Nat → Int} {k : Nat} {G : List Go} (hk2 : k < 2) (h : cp X I) (hr : rf (pw (kpW I k)) G) (hg : gkt (kpW I k) G) (c : reC I J (kpW I k) (kpN I k) G) (r : reR J K k) : cp X K := by
  obtain ⟨c, c1, c2, c3, c4, c5⟩ := c
  obtain ⟨r, ⟨r1, r2, r4, r5, r6, r7⟩, r8, r9, r10, r11⟩ := r
  obtain ⟨h1, ⟨k1, k2⟩, g, s, hh, ⟨i0, i1⟩, t, x, f, v, p⟩ := h
  have e124 := c 124 (by omega)
  have ew : kpW J k = kpW I k := by unfold kpW; rw [c 128 (by omega)]
  have en : kpN J k = kpN I k := by unfold kpN; rw [c 132 (by omega)]
  rw [ew] at r10
  rw [en] at r11
  have elk : lw K = K 126 := by unfold lw; rw [r8]; rfl
  have cl : ∀ a, (a ≤ 5 ∨ 23 ≤ a ∧ a < 124) → K a = I a := fun a ha => (r a (by omega)).trans (c a (by omega))
  have rr : ∀ a, (a = 125 ∨ 128 ≤ a ∧ a ≤ 129 ∨ 132 ≤ a ∧ a ≤ 133 ∨ a = 135 ∨ a = 153 ∨ a = 156) → K a = I a := fun a ha => (r a (by omega)).trans (c a (by omega))
  have im : ∀ i, i < 2 → cpI I i → cpI K i := by
    intro i hi ⟨a, b, d⟩
    unfold cpI kpW kpN
    rw [rr 133 (by omega), rr 128 (by omega), rr 132 (by omega)]
    refine ⟨by rw [cl _ (by omega)]; exact a, b, fun hk => ?_⟩
    obtain ⟨d1, d2, d3⟩ := d hk
    exact ⟨kit_fr d1 (fun a h1 h2 => cl a (by omega)), cpG_fr d2 (cl _ (by omega)) (cl _ (by omega)), sen_fr d3 (cl _ (by omega)) (cl _ (by omega)) (cl _ (by omega)) (cl _ (by omega))⟩
  refine ⟨?_, ⟨?_, Or.inr r8⟩, ⟨G, ?_, ?_, ?_⟩, ?_, ⟨[], ?_, ?_, ?_⟩, ⟨im 0 (by decide) i0, im 1 (by decide) i1⟩, ?_, ?_, ?_, ?_, ?_⟩
  · unfold cpC; rw [cl 1 (by omega), cl 2 (by omega), cl 57 (by omega)]; exact h1
  · rw [elk]; exact kitN_row (kit_row (kit_fr c1 (fun a h1 h2 => r a (by omega))) (fun j hj => r10 j (by omega))) (fun j hj => r11 j (by omega))
  · exact pl_fr c2 (r _ (by omega)) (r _ (by omega))
  · exact rf_row hr c2.2.1 (fun j h1 h2 => r10 j (by omega))
  · rw [elk]; exact gkt_row hg (r10 0 (by omega)) (r10 5 (by omega))
  · rw [elk]; exact sen_row2 (sen_fr c3 (r _ (by omega)) (r _ (by omega)) (r _ (by omega)) (r _ (by omega))) (r10 5 (by omega)) (fun j h1 h2 => r10 j h2)
  · obtain ⟨H, ⟨o, a1, a2, a3, a4, a5⟩, -⟩ := hh
    exact ⟨o, a1, by decide, by rw [r 22 (by omega), c4]; exact a3, by rw [r 22 (by omega), c5]; rfl, fun j hj => absurd hj (Nat.not_lt_zero j)⟩
  · exact ⟨r9, fun j hj => absurd hj (Nat.not_lt_zero j)⟩
  · exact fun j hj => absurd hj (Nat.not_lt_zero j)
  · unfold cpT; rw [cl 55 (by omega), r1, e124, rr 125 (by omega), cl 56 (by omega)]; exact t
  · unfold cpX; rw [cl 4 (by omega), r5, e124, rr 135 (by omega), cl 89 (by omega)]; exact x
  · unfold cpF; rw [cl 4 (by omega), r2, r4, e124]; exact f
  · unfold cpV; rw [cl 80 (by omega), r6, e124, cl 85 (by omega), rr 153 (by omega)]; exact v
  · unfold cpP; rw [cl 86 (by omega), r7, e124, cl 88 (by omega), rr 156 (by omega)]; exact p
