/-! image, restore -/
theorem sx_node_D {c g n : Nat → Int} {S : Int} {D E : Nat → Int} {i : Nat} (h : sx_node c g n S D i) (e : ∀ j, j ≤ 4 * i + 3 → E j = D j) : sx_node c g n S E i := by
  unfold sx_node at h ⊢
  rw [e (4 * i) (by omega), e (4 * i + 1) (by omega), e (4 * i + 2) (by omega), e (4 * i + 3) (by omega)]
  exact h
theorem sen_row2 {I : Nat → Nat → Int} {c : Nat} {W V : Nat → Int} (h : sen I c W) (e5 : V 5 = W 5) (e : ∀ j, 2059 ≤ j → j < 2301 → V j = W j) : sen I c V := by
  unfold sen at h ⊢
  rw [e 2059 (by decide) (by decide), e 2060 (by decide) (by decide), e5]
  rcases h with h | ⟨h1, n, h2, h3, h4, h5, h6, h7⟩
  · exact Or.inl h
  · exact Or.inr ⟨h1, n, h2, h3, h4, h5, h6, fun i hi => sx_node_D (h7 i hi) (fun j hj => e _ (by omega) (by omega))⟩
section IMG
variable {m sl : Nat} {sh : Nat → Nat × Nat} {I : Nat → Nat → Int} {R : Nat → Nat → Nat} {Q : am_R → am_M → Prop} {d : Nat} {W N : Nat → Int} {G : List Go}
theorem r21 (hw : wd sh R) {k : Nat} (h : k < 2) : R 21 k = 92 + 16 * k := by
  have : k = 0 ∨ k = 1 := by omega
  rcases this with rfl | rfl <;> exact hw.2 21 _ (by decide) (by decide)
theorem s92k (hw : wd sh R) {k : Nat} (h : k < 2) : sh (92 + 16 * k) = (9, 4) := by
  have : k = 0 ∨ k = 1 := by omega
  rcases this with rfl | rfl <;> exact hw.1 _ (by decide) (by decide)
/-- the class's half of image(k) -/
def imC (I J : Nat → Nat → Int) (k : Nat) (W N : Nat → Int) (G : List Go) : Prop := (∀ a, (a < 92 + 16 * k ∨ 92 + 16 * k + 14 < a) → J a = I a) ∧ J (92 + 16 * k) 3 = 1 ∧ kit J (93 + 16 * k) W N ∧ pl J (101 + 16 * k) G ∧ sen J (103 + 16 * k) W
theorem c_image {k : Int} (hw : wd sh R) (hk : kit I 6 W N) (hp : pl I 14 G) (hs : sen I 16 W) (h0 : ¬ (0 ≤ k ∧ k ≤ 1) → Q (am_yi 0) (m, sl, sh, I, R)) (h1 : 0 ≤ k ∧ k ≤ 1 → ∀ J, imC I J k.toNat W N G → Q (am_yi 1) (m, sl, sh, J, R)) : am_wp (d + 2) 186 0 [some (.inr (.inr (4))), some (.inl (k))] [] (m, sl, sh, I, R) Q := by
  refine am_wp_go rfl (by simp (disch := omega) only [s4 hw, am_addE, am_subE, am_mulE, am_laddE, am_lsubE, am_upO, am_upS, am_stS, am_stO, am_tnn, am_brl, am_brg, am_bre, am_brn, am_brG, am_brL, am_st1, am_no2, am_st2, am_clr, and_self, true_and, and_true, true_or, or_true, List.length_cons, List.length_nil] <;> omega) ?_
  try simp (disch := omega) only [s4 hw, am_addE, am_subE, am_mulE, am_laddE, am_lsubE, am_upO, am_upS, am_stS, am_stO, am_tnn, am_brl, am_brg, am_bre, am_brn, am_brG, am_brL, am_st1, am_no2, am_st2, am_clr]
  refine am_wp_br (fun b1 => ?_) (fun b1 => ?_)
  · refine am_wp_go rfl (by simp (disch := omega) only [s4 hw, am_addE, am_subE, am_mulE, am_laddE, am_lsubE, am_upO, am_upS, am_stS, am_stO, am_tnn, am_brl, am_brg, am_bre, am_brn, am_brG, am_brL, am_st1, am_no2, am_st2, am_clr, and_self, true_and, and_true, true_or, or_true, List.length_cons, List.length_nil] <;> omega) ?_
    try simp (disch := omega) only [s4 hw, am_addE, am_subE, am_mulE, am_laddE, am_lsubE, am_upO, am_upS, am_stS, am_stO, am_tnn, am_brl, am_brg, am_bre, am_brn, am_brG, am_brL, am_st1, am_no2, am_st2, am_clr]
    refine am_wp_ret rfl rfl ?_
    exact h0 (by omega)
  · refine am_wp_go rfl (by simp (disch := omega) only [s4 hw, am_addE, am_subE, am_mulE, am_laddE, am_lsubE, am_upO, am_upS, am_stS, am_stO, am_tnn, am_brl, am_brg, am_bre, am_brn, am_brG, am_brL, am_st1, am_no2, am_st2, am_clr, and_self, true_and, and_true, true_or, or_true, List.length_cons, List.length_nil] <;> omega) ?_
    try simp (disch := omega) only [s4 hw, am_addE, am_subE, am_mulE, am_laddE, am_lsubE, am_upO, am_upS, am_stS, am_stO, am_tnn, am_brl, am_brg, am_bre, am_brn, am_brG, am_brL, am_st1, am_no2, am_st2, am_clr]
    refine am_wp_br (fun b6 => ?_) (fun b6 => ?_)
    · obtain ⟨j, rfl⟩ : ∃ j : Nat, k = (j : Int) := ⟨k.toNat, by omega⟩
      rw [am_tnn] at h1
      have e := r21 hw (k := j) (by omega)
      have e2 := s92k hw (k := j) (by omega)
      refine am_wp_go rfl (by simp (disch := omega) only [s4 hw, r4_1 hw, s21 hw, r4_0 hw, e, e2, am_addE, am_subE, am_mulE, am_laddE, am_lsubE, am_upO, am_upS, am_stS, am_stO, am_tnn, am_brl, am_brg, am_bre, am_brn, am_brG, am_brL, am_st1, am_no2, am_st2, am_clr, and_self, true_and, and_true, true_or, or_true, List.length_cons, List.length_nil] <;> omega) ?_
      try simp (disch := omega) only [s4 hw, r4_1 hw, s21 hw, r4_0 hw, e, e2, am_addE, am_subE, am_mulE, am_laddE, am_lsubE, am_upO, am_upS, am_stS, am_stO, am_tnn, am_brl, am_brg, am_bre, am_brn, am_brG, am_brL, am_st1, am_no2, am_st2, am_clr]
      refine am_wp_cc rfl rfl rfl (congrArg Prod.fst (e2)) (w_stcopy (t := 92 + 16 * j) (u := 5) hw (by omega) (by omega) (by omega) hk hp hs (fun J j1 j2 j3 j4 => ⟨_, rfl, ?_⟩))
      refine am_wp_go rfl (by simp (disch := omega) only [s4 hw, r4_1 hw, s21 hw, r4_0 hw, e, e2, am_addE, am_subE, am_mulE, am_laddE, am_lsubE, am_upO, am_upS, am_stS, am_stO, am_tnn, am_brl, am_brg, am_bre, am_brn, am_brG, am_brL, am_st1, am_no2, am_st2, am_clr, and_self, true_and, and_true, true_or, or_true, List.length_cons, List.length_nil] <;> omega) ?_
      try simp (disch := omega) only [s4 hw, r4_1 hw, s21 hw, r4_0 hw, e, e2, am_addE, am_subE, am_mulE, am_laddE, am_lsubE, am_upO, am_upS, am_stS, am_stO, am_tnn, am_brl, am_brg, am_bre, am_brn, am_brG, am_brL, am_st1, am_no2, am_st2, am_clr]
      refine am_wp_ret rfl rfl ?_
      refine h1 (by omega) _ ⟨fun a ha => by rw [am_upO (by omega), j1 a (by omega)], by rw [am_upS, am_stS rfl], ?_, ?_, ?_⟩
      · have := kit_fr (J := am_up J (92 + 16 * j) 3 1) j2 (fun a h1 h2 => am_upO (by omega))
        rwa [show 92 + 16 * j + 1 = 93 + 16 * j by omega] at this
      · have := pl_fr (J := am_up J (92 + 16 * j) 3 1) j3 (am_upO (by omega)) (am_upO (by omega))
        rwa [show 92 + 16 * j + 9 = 101 + 16 * j by omega] at this
      · have := sen_fr (J := am_up J (92 + 16 * j) 3 1) j4 (am_upO (by omega)) (am_upO (by omega)) (am_upO (by omega)) (am_upO (by omega))
        rwa [show 92 + 16 * j + 11 = 103 + 16 * j by omega] at this
    · refine am_wp_go rfl (by simp (disch := omega) only [s4 hw, am_addE, am_subE, am_mulE, am_laddE, am_lsubE, am_upO, am_upS, am_stS, am_stO, am_tnn, am_brl, am_brg, am_bre, am_brn, am_brG, am_brL, am_st1, am_no2, am_st2, am_clr, and_self, true_and, and_true, true_or, or_true, List.length_cons, List.length_nil] <;> omega) ?_
      try simp (disch := omega) only [s4 hw, am_addE, am_subE, am_mulE, am_laddE, am_lsubE, am_upO, am_upS, am_stS, am_stO, am_tnn, am_brl, am_brg, am_bre, am_brn, am_brG, am_brL, am_st1, am_no2, am_st2, am_clr]
      refine am_wp_ret rfl rfl ?_
      exact h0 (by omega)
/-- the reference's half -/
def imR (I J : Nat → Nat → Int) (k : Nat) : Prop := (∀ a, (a < 124 ∨ a = 125 ∨ 129 ≤ a ∧ a ≤ 130 ∨ a = 135 ∨ a = 153 ∨ a = 156) → J a = I a) ∧ (J 124 2 = I 124 2 ∧ J 124 10 = I 124 10 ∧ J 124 22 = I 124 22 ∧ J 124 26 = I 124 26 ∧ J 124 29 = I 124 29 ∧ J 124 49 = I 124 49 ∧ J 124 53 = I 124 53) ∧ J 124 23 = 1 ∧ J 126 = lw I ∧ (∀ j, j < 2301 → kpW J k j = lw I j) ∧ (∀ j, j < 21 → kpN J k j = I 130 j) ∧ J 133 k = 1 ∧ (∀ i, i < 2 → i ≠ k → J 133 i = I 133 i ∧ (∀ j, j < 2301 → kpW J i j = kpW I i j) ∧ (∀ j, j < 21 → kpN J i j = kpN I i j))
theorem r_image {k : Int} (hw : wd sh R) (hb : beg I) (h0 : ¬ (0 ≤ k ∧ k ≤ 1) → ∀ J, rq I J → Q (am_yi 0) (m, sl, sh, J, R)) (h1 : 0 ≤ k ∧ k ≤ 1 → ∀ J, imR I J k.toNat → Q (am_yi 1) (m, sl, sh, J, R)) : am_wp (d + 2) 323 0 [some (.inr (.inr (124))), some (.inl (k)), none] [] (m, sl, sh, I, R) Q := by
  refine am_wp_go rfl (by simp (disch := omega) only [s124 hw, am_addE, am_subE, am_mulE, am_laddE, am_lsubE, am_upO, am_upS, am_stS, am_stO, am_tnn, am_brl, am_brg, am_bre, am_brn, am_brG, am_brL, am_st1, am_no2, am_st2, am_clr, and_self, true_and, and_true, true_or, or_true, List.length_cons, List.length_nil] <;> omega) ?_
  have q0 := rq_thrown (I := I) (x := 0)
  generalize am_up I 124 0 0 = I0 at q0 ⊢
  refine am_wp_cc rfl rfl rfl (congrArg Prod.fst (s124 hw)) (w_M_lay hw (beg_rq q0 hb) (fun J j1 j2 j3 j4 => ⟨_, rfl, ?_⟩))
  have q1 := rq_trans q0 (rq_lay j1 j2 j3 j4)
  rw [rq_lw q0] at j4
  clear j1 j2
  refine am_wp_go rfl (by simp (disch := omega) only [s124 hw, am_bn0, am_addE, am_subE, am_mulE, am_laddE, am_lsubE, am_upO, am_upS, am_stS, am_stO, am_tnn, am_brl, am_brg, am_bre, am_brn, am_brG, am_brL, am_st1, am_no2, am_st2, am_clr, and_self, true_and, and_true, true_or, or_true, List.length_cons, List.length_nil] <;> omega) ?_
  try simp (disch := omega) only [s124 hw, am_bn0, am_addE, am_subE, am_mulE, am_laddE, am_lsubE, am_upO, am_upS, am_stS, am_stO, am_tnn, am_brl, am_brg, am_bre, am_brn, am_brG, am_brL, am_st1, am_no2, am_st2, am_clr]
  refine am_wp_cc rfl rfl rfl (trivial) (w_M_isIn ⟨_, rfl, ?_⟩)
  refine am_wp_go rfl (by simp (disch := omega) only [s124 hw, am_bn0, am_addE, am_subE, am_mulE, am_laddE, am_lsubE, am_upO, am_upS, am_stS, am_stO, am_tnn, am_brl, am_brg, am_bre, am_brn, am_brG, am_brL, am_st1, am_no2, am_st2, am_clr, and_self, true_and, and_true, true_or, or_true, List.length_cons, List.length_nil] <;> omega) ?_
  try simp (disch := omega) only [s124 hw, am_bn0, am_addE, am_subE, am_mulE, am_laddE, am_lsubE, am_upO, am_upS, am_stS, am_stO, am_tnn, am_brl, am_brg, am_bre, am_brn, am_brG, am_brL, am_st1, am_no2, am_st2, am_clr]
  refine am_wp_br (fun b15 => ?_) (fun b15 => ?_)
  · obtain ⟨n, rfl⟩ : ∃ j : Nat, k = (j : Int) := ⟨k.toNat, by omega⟩
    rw [am_tnn] at h1
    have hn : n < 2 := by omega
    refine am_wp_go rfl (by simp (disch := omega) only [s124 hw, am_bn0, am_addE, am_subE, am_mulE, am_laddE, am_lsubE, am_upO, am_upS, am_stS, am_stO, am_tnn, am_brl, am_brg, am_bre, am_brn, am_brG, am_brL, am_st1, am_no2, am_st2, am_clr, and_self, true_and, and_true, true_or, or_true, List.length_cons, List.length_nil] <;> omega) ?_
    try simp (disch := omega) only [s124 hw, am_bn0, am_addE, am_subE, am_mulE, am_laddE, am_lsubE, am_upO, am_upS, am_stS, am_stO, am_tnn, am_brl, am_brg, am_bre, am_brn, am_brG, am_brL, am_st1, am_no2, am_st2, am_clr]
    refine am_lp0 (P := fun k => ∀ K, (∀ a, a ≠ 128 → K a = J a) → (K 128 = fun x => if 2301 * n ≤ x ∧ x < 2301 * n + k then J 126 (x - 2301 * n) else J 128 x) → am_wp (d + 2) 323 22 [some (.inr (.inr (124))), some (.inl ((n : Int))), some (.inl ((k : Int)))] [] (m, sl, sh, K, R) Q) 2301 (fun k hk ih K k1 k2 => ?_) J (fun _ _ => rfl) (by funext x; rw [if_neg (by omega)])
    refine am_wp_go rfl (by simp (disch := omega) only [s124 hw, r124_14 hw, s126 hw, r124_16 hw, s128 hw, am_tnA, am_tnM, Int.reduceToNat, am_addE, am_subE, am_mulE, am_laddE, am_lsubE, am_upO, am_upS, am_stS, am_stO, am_tnn, am_brl, am_brg, am_bre, am_brn, am_brG, am_brL, am_st1, am_no2, am_st2, am_clr, and_self, true_and, and_true, true_or, or_true, List.length_cons, List.length_nil] <;> omega) ?_
    try simp (disch := omega) only [s124 hw, r124_14 hw, s126 hw, r124_16 hw, s128 hw, am_tnA, am_tnM, Int.reduceToNat, am_addE, am_subE, am_mulE, am_laddE, am_lsubE, am_upO, am_upS, am_stS, am_stO, am_tnn, am_brl, am_brg, am_bre, am_brn, am_brG, am_brL, am_st1, am_no2, am_st2, am_clr]
    refine am_wp_br (fun b26 => ?_) (fun b26 => ?_)
    · refine am_wp_go rfl (by simp (disch := omega) only [s124 hw, r124_14 hw, s126 hw, r124_16 hw, s128 hw, am_tnA, am_tnM, Int.reduceToNat, am_addE, am_subE, am_mulE, am_laddE, am_lsubE, am_upO, am_upS, am_stS, am_stO, am_tnn, am_brl, am_brg, am_bre, am_brn, am_brG, am_brL, am_st1, am_no2, am_st2, am_clr, and_self, true_and, and_true, true_or, or_true, List.length_cons, List.length_nil] <;> omega) ?_
      try simp (disch := omega) only [s124 hw, r124_14 hw, s126 hw, r124_16 hw, s128 hw, am_tnA, am_tnM, Int.reduceToNat, am_addE, am_subE, am_mulE, am_laddE, am_lsubE, am_upO, am_upS, am_stS, am_stO, am_tnn, am_brl, am_brg, am_bre, am_brn, am_brG, am_brL, am_st1, am_no2, am_st2, am_clr]
      refine am_lp0 (P := fun k => ∀ L, (∀ a, a ≠ 132 → L a = K a) → (L 132 = fun x => if 21 * n ≤ x ∧ x < 21 * n + k then J 130 (x - 21 * n) else J 132 x) → am_wp (d + 2) 323 55 [some (.inr (.inr (124))), some (.inl ((n : Int))), some (.inl ((k : Int)))] [] (m, sl, sh, L, R) Q) 21 (fun i hi ih2 L l1 l2 => ?_) K (fun _ _ => rfl) (by rw [k1 132 (by decide)]; funext x; rw [if_neg (by omega)])
      refine am_wp_go rfl (by simp (disch := omega) only [s124 hw, r124_18 hw, s130 hw, r124_20 hw, s132 hw, r124_21 hw, s133 hw, am_tnA, am_tnM, Int.reduceToNat, am_addE, am_subE, am_mulE, am_laddE, am_lsubE, am_upO, am_upS, am_stS, am_stO, am_tnn, am_brl, am_brg, am_bre, am_brn, am_brG, am_brL, am_st1, am_no2, am_st2, am_clr, and_self, true_and, and_true, true_or, or_true, List.length_cons, List.length_nil] <;> omega) ?_
      try simp (disch := omega) only [s124 hw, r124_18 hw, s130 hw, r124_20 hw, s132 hw, r124_21 hw, s133 hw, am_tnA, am_tnM, Int.reduceToNat, am_addE, am_subE, am_mulE, am_laddE, am_lsubE, am_upO, am_upS, am_stS, am_stO, am_tnn, am_brl, am_brg, am_bre, am_brn, am_brG, am_brL, am_st1, am_no2, am_st2, am_clr]
      refine am_wp_br (fun b58 => ?_) (fun b58 => ?_)
      · refine am_wp_go rfl (by simp (disch := omega) only [s124 hw, r124_18 hw, s130 hw, r124_20 hw, s132 hw, r124_21 hw, s133 hw, am_tnA, am_tnM, Int.reduceToNat, am_addE, am_subE, am_mulE, am_laddE, am_lsubE, am_upO, am_upS, am_stS, am_stO, am_tnn, am_brl, am_brg, am_bre, am_brn, am_brG, am_brL, am_st1, am_no2, am_st2, am_clr, and_self, true_and, and_true, true_or, or_true, List.length_cons, List.length_nil] <;> omega) ?_
        try simp (disch := omega) only [s124 hw, r124_18 hw, s130 hw, r124_20 hw, s132 hw, r124_21 hw, s133 hw, am_tnA, am_tnM, Int.reduceToNat, am_addE, am_subE, am_mulE, am_laddE, am_lsubE, am_upO, am_upS, am_stS, am_stO, am_tnn, am_brl, am_brg, am_bre, am_brn, am_brG, am_brL, am_st1, am_no2, am_st2, am_clr]
        refine am_wp_ret rfl rfl ?_
        have hk0 : k = 2301 := by omega
        have hi0 : i = 21 := by omega
        subst hk0 hi0
        have e128 : ∀ V : Nat → Int, L 128 = K 128 := fun _ => l1 128 (by decide)
        refine h1 (by omega) _ ⟨fun a ha => ?_, ⟨?_, ?_, ?_, ?_, ?_, ?_, ?_⟩, ?_, ?_, fun j hj => ?_, fun j hj => ?_, ?_, fun i h2 h3 => ⟨?_, fun j hj => ?_, fun j hj => ?_⟩⟩
        · rw [am_upO (by omega), l1 a (by omega), k1 a (by omega)]; exact q1.1 a (by omega)
        · rw [am_upO (by omega), l1 124 (by omega), k1 124 (by omega)]; exact q1.2.1.1
        · rw [am_upO (by omega), l1 124 (by omega), k1 124 (by omega)]; exact q1.2.1.2.1
        · rw [am_upO (by omega), l1 124 (by omega), k1 124 (by omega)]; exact q1.2.1.2.2.1
        · rw [am_upO (by omega), l1 124 (by omega), k1 124 (by omega)]; exact q1.2.1.2.2.2.1
        · rw [am_upO (by omega), l1 124 (by omega), k1 124 (by omega)]; exact q1.2.1.2.2.2.2.1
        · rw [am_upO (by omega), l1 124 (by omega), k1 124 (by omega)]; exact q1.2.1.2.2.2.2.2.1
        · rw [am_upO (by omega), l1 124 (by omega), k1 124 (by omega)]; exact q1.2.1.2.2.2.2.2.2
        · rw [am_upO (by omega), l1 124 (by omega), k1 124 (by omega)]; exact j3
        · rw [am_upO (by omega), l1 126 (by omega), k1 126 (by omega)]; exact j4
        · unfold kpW
          rw [am_upO (by omega), l1 128 (by omega), k2]
          dsimp only
          rw [if_pos (by omega), show 2301 * n + j - 2301 * n = j by omega, j4]
        · unfold kpN
          rw [am_upO (by omega), l2]
          dsimp only
          rw [if_pos (by omega), show 21 * n + j - 21 * n = j by omega]
          exact congrFun (q1.1 130 (by omega)) j
        · rw [am_upS, am_stS rfl]
        · rw [am_upS, am_stO h3, l1 133 (by omega), k1 133 (by omega)]
          exact congrFun (q1.1 133 (by omega)) i
        · unfold kpW
          rw [am_upO (by omega), l1 128 (by omega), k2]
          dsimp only
          rw [if_neg (by omega)]
          exact congrFun (q1.1 128 (by omega)) _
        · unfold kpN
          rw [am_upO (by omega), l2]
          dsimp only
          rw [if_neg (by omega)]
          exact congrFun (q1.1 132 (by omega)) _
      · refine am_wp_go rfl (by simp (disch := omega) only [s124 hw, r124_18 hw, s130 hw, r124_20 hw, s132 hw, r124_21 hw, s133 hw, am_tnA, am_tnM, Int.reduceToNat, am_addE, am_subE, am_mulE, am_laddE, am_lsubE, am_upO, am_upS, am_stS, am_stO, am_tnn, am_brl, am_brg, am_bre, am_brn, am_brG, am_brL, am_st1, am_no2, am_st2, am_clr, and_self, true_and, and_true, true_or, or_true, List.length_cons, List.length_nil] <;> omega) ?_
        rw [r124_18 hw, r124_20 hw]
        simp (disch := omega) only [s124 hw, r124_18 hw, s130 hw, r124_20 hw, s132 hw, r124_21 hw, s133 hw, am_tnA, am_tnM, Int.reduceToNat, am_addE, am_subE, am_mulE, am_laddE, am_lsubE, am_upO, am_upS, am_stS, am_stO, am_tnn, am_brl, am_brg, am_bre, am_brn, am_brG, am_brL, am_st1, am_no2, am_st2, am_clr]
        refine am_wp_ls (ih2 (by omega) _ (fun a ha => by rw [am_upO ha, l1 a ha]) ?_) rfl
        rw [am_upS, l2, l1 130 (by decide), k1 130 (by decide)]
        funext x
        simp only [am_set]
        by_cases hx : x = 21 * n + i
        · rw [if_pos hx, if_pos (by omega), show x - 21 * n = i by omega]
        · rw [if_neg hx]
          by_cases hx2 : 21 * n ≤ x ∧ x < 21 * n + i
          · rw [if_pos hx2, if_pos (by omega)]
          · rw [if_neg hx2, if_neg (by omega)]
    · refine am_wp_go rfl (by simp (disch := omega) only [s124 hw, r124_14 hw, s126 hw, r124_16 hw, s128 hw, am_tnA, am_tnM, Int.reduceToNat, am_addE, am_subE, am_mulE, am_laddE, am_lsubE, am_upO, am_upS, am_stS, am_stO, am_tnn, am_brl, am_brg, am_bre, am_brn, am_brG, am_brL, am_st1, am_no2, am_st2, am_clr, and_self, true_and, and_true, true_or, or_true, List.length_cons, List.length_nil] <;> omega) ?_
      rw [r124_14 hw, r124_16 hw]
      simp (disch := omega) only [s124 hw, r124_14 hw, s126 hw, r124_16 hw, s128 hw, am_tnA, am_tnM, Int.reduceToNat, am_addE, am_subE, am_mulE, am_laddE, am_lsubE, am_upO, am_upS, am_stS, am_stO, am_tnn, am_brl, am_brg, am_bre, am_brn, am_brG, am_brL, am_st1, am_no2, am_st2, am_clr]
      refine am_wp_ls (ih (by omega) _ (fun a ha => by rw [am_upO ha, k1 a ha]) ?_) rfl
      rw [am_upS, k2, k1 126 (by decide)]
      funext x
      simp only [am_set]
      by_cases hx : x = 2301 * n + k
      · rw [if_pos hx, if_pos (by omega), show x - 2301 * n = k by omega]
      · rw [if_neg hx]
        by_cases hx2 : 2301 * n ≤ x ∧ x < 2301 * n + k
        · rw [if_pos hx2, if_pos (by omega)]
        · rw [if_neg hx2, if_neg (by omega)]
  · refine am_wp_go rfl (by simp (disch := omega) only [s124 hw, am_bn0, am_addE, am_subE, am_mulE, am_laddE, am_lsubE, am_upO, am_upS, am_stS, am_stO, am_tnn, am_brl, am_brg, am_bre, am_brn, am_brG, am_brL, am_st1, am_no2, am_st2, am_clr, and_self, true_and, and_true, true_or, or_true, List.length_cons, List.length_nil] <;> omega) ?_
    try simp (disch := omega) only [s124 hw, am_bn0, am_addE, am_subE, am_mulE, am_laddE, am_lsubE, am_upO, am_upS, am_stS, am_stO, am_tnn, am_brl, am_brg, am_bre, am_brn, am_brG, am_brL, am_st1, am_no2, am_st2, am_clr]
    refine am_wp_ret rfl rfl ?_
    exact h0 (by omega) _ q1
end IMG
theorem kitN_row {I : Nat → Nat → Int} {c : Nat} {W N M : Nat → Int} (h : kit I c W N) (e : ∀ j, j < 8 → M j = N j) : kit I c W M := by
  have n1 := wk_nS h.1
  obtain ⟨a, b, d, f, g⟩ := h
  exact ⟨a, b, d, fun s hs => by rw [e s (by omega)]; exact f s hs, g⟩
theorem rf_row {W V : Nat → Int} {G : List Go} (h : rf (pw W) G) (hg : G.length ≤ 400) (e : ∀ j, 58 ≤ j → j ≤ 2058 → V j = W j) : rf (pw V) G := rf_cg h (fun i hi => e _ (by omega) (by omega))
theorem cp_image {X : Nat → Int} {I J K : Nat → Nat → Int} {k : Nat} {G : List Go} (hk2 : k < 2) (h : cp X I) (hr : rf (pw (I 126)) G) (hg : gkt (lw I) G) (c : imC I J k (lw I) (I 130) G) (r : imR J K k) : cp X K := by
  obtain ⟨c, c1, c2, c3, c4⟩ := c
  obtain ⟨r, ⟨r1, r2, r3, r4, r5, r6, r7⟩, r8, r9, r10, r11, r12, r13⟩ := r
  obtain ⟨h1, ⟨k1, k2⟩, g, s, hh, ⟨i0, i1⟩, t, x, f, v, p⟩ := h
  have e124 := c 124 (by omega)
  have e126 := c 126 (by omega)
  have el : lw J = lw I := by unfold lw; rw [e124, e126]
  rw [el] at r9 r10
  have elk : lw K = lw I := by rw [← r9]; unfold lw; rw [r8]; rfl
  have cl : ∀ a, a < 92 → K a = I a := fun a ha => (r a (by omega)).trans (c a (by omega))
  have rr : ∀ a, (a = 125 ∨ 129 ≤ a ∧ a ≤ 130 ∨ a = 135 ∨ a = 153 ∨ a = 156) → K a = I a := fun a ha => (r a (by omega)).trans (c a (by omega))
  have im : ∀ i, i < 2 → cpI I i → cpI K i := by
    intro i hi ⟨a, b, d⟩
    by_cases hik : i = k
    · subst hik
      refine ⟨by rw [r _ (by omega), c1, r12], Or.inr r12, fun _ => ⟨?_, ⟨G, ?_, ?_, ?_⟩, ?_⟩⟩
      · refine kitN_row (kit_row (kit_fr c2 (fun a h1 h2 => r a (by omega))) (fun j hj => r10 j (by omega))) (fun j hj => ?_)
        rw [r11 j (by omega), c 130 (by omega)]
      · exact pl_fr c3 (r _ (by omega)) (r _ (by omega))
      · exact rf_row (rf_lw k2 hr) c3.2.1 (fun j h1 h2 => r10 j (by omega))
      · exact gkt_row hg (r10 0 (by omega)) (r10 5 (by omega))
      · exact sen_row2 (sen_fr c4 (r _ (by omega)) (r _ (by omega)) (r _ (by omega)) (r _ (by omega))) (r10 5 (by omega)) (fun j h1 h2 => r10 j h2)
    · obtain ⟨f1, f2, f3⟩ := r13 i hi hik
      have f0 : J 133 = I 133 := c 133 (by omega)
      have cc : ∀ a, 92 + 16 * i ≤ a → a ≤ 92 + 16 * i + 14 → K a = I a := fun a h1 h2 => (r a (by omega)).trans (c a (by omega))
      have w1 : ∀ j, j < 2301 → kpW K i j = kpW I i j := fun j hj => by rw [f2 j hj]; unfold kpW; rw [c 128 (by omega)]
      have w2 : ∀ j, j < 21 → kpN K i j = kpN I i j := fun j hj => by rw [f3 j hj]; unfold kpN; rw [c 132 (by omega)]
      refine ⟨by rw [cc _ (by omega) (by omega), f1, f0]; exact a, by rw [f1, f0]; exact b, fun hk => ?_⟩
      rw [f1, f0] at hk
      obtain ⟨d1, ⟨G2, d2, d3, d4⟩, d5⟩ := d hk
      refine ⟨?_, ⟨G2, ?_, ?_, ?_⟩, ?_⟩
      · exact kitN_row (kit_row (kit_fr d1 (fun a h1 h2 => cc a (by omega) (by omega))) (fun j hj => w1 j (by omega))) (fun j hj => w2 j (by omega))
      · exact pl_fr d2 (cc _ (by omega) (by omega)) (cc _ (by omega) (by omega))
      · exact rf_row d3 d2.2.1 (fun j h1 h2 => w1 j (by omega))
      · exact gkt_row d4 (w1 0 (by omega)) (w1 5 (by omega))
      · exact sen_row2 (sen_fr d5 (cc _ (by omega) (by omega)) (cc _ (by omega) (by omega)) (cc _ (by omega) (by omega)) (cc _ (by omega) (by omega))) (w1 5 (by omega)) (fun j h1 h2 => w1 j h2)
  refine ⟨?_, ⟨?_, Or.inr r8⟩, ?_, ?_, ?_, ⟨im 0 (by decide) i0, im 1 (by decide) i1⟩, ?_, ?_, ?_, ?_, ?_⟩
  · unfold cpC; rw [cl 1 (by omega), cl 2 (by omega), cl 57 (by omega)]; exact h1
  · rw [elk, rr 130 (by omega)]; exact kit_fr k1 (fun a h1 h2 => cl a (by omega))
  · rw [elk, r9]
    obtain ⟨G2, a, b, d⟩ := g
    exact ⟨G2, pl_fr a (cl _ (by omega)) (cl _ (by omega)), rf_lw k2 b, d⟩
  · rw [elk]; exact sen_fr s (cl 16 (by omega)) (cl 17 (by omega)) (cl 18 (by omega)) (cl 19 (by omega))
  · obtain ⟨H, a1, a2, a3⟩ := hh
    exact ⟨H, hsC_fr a1 (fun a ha => cl a (by omega)), hsR_fr a2 (by rw [r3, e124]) (rr 129 (by omega)), by rw [elk]; exact a3⟩
  · unfold cpT; rw [cl 55 (by omega), r1, e124, rr 125 (by omega), cl 56 (by omega)]; exact t
  · unfold cpX; rw [cl 4 (by omega), r5, e124, rr 135 (by omega), cl 89 (by omega)]; exact x
  · unfold cpF; rw [cl 4 (by omega), r2, r4, e124]; exact f
  · unfold cpV; rw [cl 80 (by omega), r6, e124, cl 85 (by omega), rr 153 (by omega)]; exact v
  · unfold cpP; rw [cl 86 (by omega), r7, e124, cl 88 (by omega), rr 156 (by omega)]; exact p
