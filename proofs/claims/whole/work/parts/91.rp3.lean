/-! A KITCHEN's text: the reference reads it -/
def wkm (W : Nat → Int) : Prop := (0 ≤ W 5 ∧ W 5 ≤ 8) ∧ (0 ≤ W 6 ∧ W 6 ≤ 8) ∧ (0 ≤ W 7 ∧ W 7 ≤ 5)
def krR (I : Nat → Nat → Int) (S : KS) : Prop := (∀ i, i < 58 → I 127 i = S.2.1 i) ∧ (I 124 24 = (S.2.2.1 : Int) ∧ S.2.2.1 < 16) ∧ (∀ s, s < nS S.2.1 → letOk (S.2.2.2 (0 + s)) ∧ I 131 (0 + s) = (nm27 (S.2.2.2 (0 + s)) : Int)) ∧ (∀ g, g < nG S.2.1 → letOk (S.2.2.2 (8 + g)) ∧ I 131 (8 + g) = (nm27 (S.2.2.2 (8 + g)) : Int)) ∧ wkm S.2.1
theorem wkm_n {W : Nat → Int} (h : wkm W) : (W 5 = (nS W : Int) ∧ nS W ≤ 8) ∧ (W 6 = (nG W : Int) ∧ nG W ≤ 8) ∧ (W 7 = (nK W : Int) ∧ nK W ≤ 5) := by
  obtain ⟨h1, h2, h3⟩ := h
  unfold nS nG nK
  omega
def frM (I J : Nat → Nat → Int) : Prop := (∀ a, a ≠ 124 → a ≠ 127 → a ≠ 131 → J a = I a) ∧ ∀ j, ¬ (5 ≤ j ∧ j ≤ 13 ∨ j = 24) → J 124 j = I 124 j
theorem frM_tr {I J K : Nat → Nat → Int} (h : frM I J) (g : frM J K) : frM I K := ⟨fun a a1 a2 a3 => (g.1 a a1 a2 a3).trans (h.1 a a1 a2 a3), fun j hj => (g.2 j hj).trans (h.2 j hj)⟩
theorem frM_Q {I J : Nat → Nat → Int} (h : frQ I J) : frM I J := ⟨fun a a1 _ _ => h.1 a a1, fun j hj => h.2 j (by omega)⟩
theorem frM_up {I J : Nat → Nat → Int} {a k : Nat} {x : Int} (h : frM I J) (ha : a = 127 ∨ a = 131) : frM I (am_up J a k x) := ⟨fun c c1 c2 c3 => by rw [am_upO (by omega), h.1 c c1 c2 c3], fun j hj => by rw [am_upO (by omega), h.2 j hj]⟩
theorem krR_Q {I J : Nat → Nat → Int} {S : KS} (h : krR I S) (g : frQ I J) : krR J S := by
  obtain ⟨h1, h2, h3, h4, h5⟩ := h
  refine ⟨?_, ?_, ?_, ?_, h5⟩
  · rw [g.1 127 (by decide)]; exact h1
  · rw [g.2 24 (by decide)]; exact h2
  · rw [g.1 131 (by decide)]; exact h3
  · rw [g.1 131 (by decide)]; exact h4
section RP
variable {m sl : Nat} {sh : Nat → Nat × Nat} {I : Nat → Nat → Int} {R : Nat → Nat → Nat} {Q : am_R → am_M → Prop} {d : Nat} {b : Nat → Nat} {n lim : Nat} {S : KS}
theorem w_M_readOnce {k j : Nat} {x : Int} (ex : x = (k : Int)) (hk : k ≤ 3) (hw : wd sh R) (hc : rpR I b n lim j) (ht : owC (lxJ b n lim j) ≠ -1) (ho : I 124 24 = (S.2.2.1 : Int)) (ho2 : S.2.2.1 < 16)
    (h0 : S.2.2.1.testBit k = true → ∀ J, frQ I J → J 124 10 = 3 → J 124 11 = (plT (lxJ b n lim) j : Int) → Q (am_yi 0) (m, sl, sh, J, R))
    (h1 : ¬ S.2.2.1.testBit k = true → ∀ J, fr6 (am_up I 124 24 ((S.2.2.1 ||| 2 ^ k : Nat) : Int)) J → rpR J b n lim (j + 1) → Q (am_yi 1) (m, sl, sh, J, R)) : am_wp (d + 3) 218 0 [some (.inr (.inr (124))), some (.inl (x))] [] (m, sl, sh, I, R) Q := by
  subst ex
  have t2 := ow_le ht
  have p2 : 2 ^ k ≤ 8 := Nat.le_trans (Nat.pow_le_pow_right (by decide) hk) (by decide)
  refine am_wp_go rfl (by simp (disch := omega) only [s124 hw, ho, am_b0, am_addE, am_subE, am_mulE, am_laddE, am_lsubE, am_upO, am_upS, am_stS, am_stO, am_tnn, am_brl, am_brg, am_bre, am_brn, am_brG, am_brL, am_st1, am_no2, am_st2, am_clr, and_self, true_and, and_true, true_or, or_true, List.length_cons, List.length_nil] <;> omega) ?_
  try simp (disch := omega) only [s124 hw, ho, am_b0, am_addE, am_subE, am_mulE, am_laddE, am_lsubE, am_upO, am_upS, am_stS, am_stO, am_tnn, am_brl, am_brg, am_bre, am_brn, am_brG, am_brL, am_st1, am_no2, am_st2, am_clr]
  refine am_wp_cc rfl rfl rfl (trivial) (w_M_has (s := S.2.2.1) (k := k) (by omega) (by omega) ⟨_, rfl, ?_⟩)
  refine am_wp_go rfl (by simp (disch := omega) only [s124 hw, ho, am_b0, am_addE, am_subE, am_mulE, am_laddE, am_lsubE, am_upO, am_upS, am_stS, am_stO, am_tnn, am_brl, am_brg, am_bre, am_brn, am_brG, am_brL, am_st1, am_no2, am_st2, am_clr, and_self, true_and, and_true, true_or, or_true, List.length_cons, List.length_nil] <;> omega) ?_
  try simp (disch := omega) only [s124 hw, ho, am_b0, am_addE, am_subE, am_mulE, am_laddE, am_lsubE, am_upO, am_upS, am_stS, am_stO, am_tnn, am_brl, am_brg, am_bre, am_brn, am_brG, am_brL, am_st1, am_no2, am_st2, am_clr]
  refine am_wp_br (fun b8 => ?_) (fun b8 => ?_)
  · have h := h1 b8
    refine am_wp_go rfl (by simp (disch := omega) only [s124 hw, ho, am_shl1, am_orN, am_addE, am_subE, am_mulE, am_laddE, am_lsubE, am_upO, am_upS, am_stS, am_stO, am_tnn, am_brl, am_brg, am_bre, am_brn, am_brG, am_brL, am_st1, am_no2, am_st2, am_clr, and_self, true_and, and_true, true_or, or_true, List.length_cons, List.length_nil] <;> omega) ?_
    try simp (disch := omega) only [s124 hw, ho, am_shl1, am_orN, am_addE, am_subE, am_mulE, am_laddE, am_lsubE, am_upO, am_upS, am_stS, am_stO, am_tnn, am_brl, am_brg, am_bre, am_brn, am_brG, am_brL, am_st1, am_no2, am_st2, am_clr]
    have hc2 := rpR_up (a := 124) (k := 24) (x := ((S.2.2.1 ||| 2 ^ k : Nat) : Int)) hc (Or.inr ⟨rfl, by decide⟩)
    refine am_wp_cc rfl rfl rfl (congrArg Prod.fst (s124 hw)) (w_M_nx hw hc2 (by omega) (fun J j0 j1 => ⟨_, rfl, ?_⟩))
    refine am_wp_go rfl (by simp (disch := omega) only [s124 hw, ho, am_shl1, am_orN, am_addE, am_subE, am_mulE, am_laddE, am_lsubE, am_upO, am_upS, am_stS, am_stO, am_tnn, am_brl, am_brg, am_bre, am_brn, am_brG, am_brL, am_st1, am_no2, am_st2, am_clr, and_self, true_and, and_true, true_or, or_true, List.length_cons, List.length_nil] <;> omega) ?_
    try simp (disch := omega) only [s124 hw, ho, am_shl1, am_orN, am_addE, am_subE, am_mulE, am_laddE, am_lsubE, am_upO, am_upS, am_stS, am_stO, am_tnn, am_brl, am_brg, am_bre, am_brn, am_brG, am_brL, am_st1, am_no2, am_st2, am_clr]
    refine am_wp_ret rfl rfl ?_
    exact h J j0 j1
  · have h := h0 (Classical.not_not.mp b8)
    refine am_wp_go rfl (by simp (disch := omega) only [s124 hw, ho, am_b0, am_addE, am_subE, am_mulE, am_laddE, am_lsubE, am_upO, am_upS, am_stS, am_stO, am_tnn, am_brl, am_brg, am_bre, am_brn, am_brG, am_brL, am_st1, am_no2, am_st2, am_clr, and_self, true_and, and_true, true_or, or_true, List.length_cons, List.length_nil] <;> omega) ?_
    try simp (disch := omega) only [s124 hw, ho, am_b0, am_addE, am_subE, am_mulE, am_laddE, am_lsubE, am_upO, am_upS, am_stS, am_stO, am_tnn, am_brl, am_brg, am_bre, am_brn, am_brG, am_brL, am_st1, am_no2, am_st2, am_clr]
    refine am_wp_cc rfl rfl rfl (congrArg Prod.fst (s124 hw)) (w_M_bad' (k := 3) rfl hw hc (Or.inr (by omega)) (fun J j0 j1 j2 => ⟨_, rfl, ?_⟩))
    refine am_wp_ret rfl rfl ?_
    exact h J j0 j1 j2
theorem krR_w {I : Nat → Nat → Int} {S : KS} {j w : Nat} {v : Int} (h : krR I S) (hw : w ≤ 4) : krR (am_up I 127 w v) (j, am_set S.2.1 w v, S.2.2.1, S.2.2.2) := by
  obtain ⟨h1, h2, h3, h4, h5⟩ := h
  refine ⟨fun i hi => ?_, ?_, ?_, ?_, ?_⟩
  · rw [am_upS]
    dsimp only
    by_cases hiw : i = w
    · rw [am_stS hiw, am_stS hiw]
    · rw [am_stO hiw, am_stO hiw]; exact h1 i hi
  · rw [am_upO (by decide)]; exact h2
  · have e : nS (am_set S.2.1 w v) = nS S.2.1 := by unfold nS; rw [am_stO (by omega)]
    dsimp only
    rw [e, am_upO (by decide)]; exact h3
  · have e : nG (am_set S.2.1 w v) = nG S.2.1 := by unfold nG; rw [am_stO (by omega)]
    dsimp only
    rw [e, am_upO (by decide)]; exact h4
  · unfold wkm at h5 ⊢
    dsimp only
    rw [am_stO (by omega), am_stO (by omega), am_stO (by omega)]; exact h5
theorem krR_o {I J : Nat → Nat → Int} {S : KS} {k : Nat} (h : krR I S) (hk : k ≤ 3) (g : fr6 (am_up I 124 24 ((S.2.2.1 ||| 2 ^ k : Nat) : Int)) J) : krR J (S.1, S.2.1, S.2.2.1 ||| 2 ^ k, S.2.2.2) ∧ frM I J ∧ J 124 10 = I 124 10 := by
  obtain ⟨h1, h2, h3, h4, h5⟩ := h
  refine ⟨⟨?_, ⟨?_, ?_⟩, ?_, ?_, h5⟩, ⟨fun a a1 _ _ => by rw [g.1 a a1, am_upO a1], fun i hi => by rw [g.2 i (by omega) (by omega) (by omega) (by omega) (by omega) (by omega), am_upS, am_stO (by omega)]⟩, ?_⟩
  · rw [g.1 127 (by decide), am_upO (by decide)]; exact h1
  · rw [g.2 24 (by decide) (by decide) (by decide) (by decide) (by decide) (by decide), am_upS, am_stS rfl]
  · exact Nat.or_lt_two_pow (n := 4) h2.2 (Nat.lt_of_le_of_lt (Nat.pow_le_pow_right (by decide) hk) (by decide))
  · rw [g.1 131 (by decide), am_upO (by decide)]; exact h3
  · rw [g.1 131 (by decide), am_upO (by decide)]; exact h4
  · rw [g.2 10 (by decide) (by decide) (by decide) (by decide) (by decide) (by decide), am_upS, am_stO (by decide)]
theorem frQ_10 {I J : Nat → Nat → Int} (_ : frQ I J) (h : J 124 10 = I 124 10) : J 124 10 = I 124 10 := h
theorem w_M_readPlain {w a c : Nat} {x y z : Int} (ex : x = (w : Int)) (ey : y = (a : Int)) (ez : z = (c : Int)) (hw2 : w ≤ 2) (hw : wd sh R) (hc : rpR I b n lim S.1) (ht : owC (lxJ b n lim S.1) ≠ -1) (hr : krR I S)
    (h0 : ∀ e, kPlain (lxJ b n lim) S w a c = .inl e → ∀ J, frM I J → J 124 10 = (e.1 : Int) → J 124 11 = (e.2 : Int) → Q (am_yi 0) (m, sl, sh, J, R))
    (h1 : ∀ S', kPlain (lxJ b n lim) S w a c = .inr S' → ∀ J, frM I J → J 124 10 = I 124 10 → krR J S' → rpR J b n lim S'.1 → Q (am_yi 1) (m, sl, sh, J, R)) : am_wp (d + 4) 224 0 [some (.inr (.inr (124))), some (.inl (x)), some (.inl (y)), some (.inl (z))] [] (m, sl, sh, I, R) Q := by
  subst ex
  unfold kPlain at h0 h1
  refine am_wp_go rfl (by simp (disch := omega) only [am_b0, am_bn0, am_addE, am_subE, am_mulE, am_laddE, am_lsubE, am_upO, am_upS, am_stS, am_stO, am_tnn, am_brl, am_brg, am_bre, am_brn, am_brG, am_brL, am_st1, am_no2, am_st2, am_clr, and_self, true_and, and_true, true_or, or_true, List.length_cons, List.length_nil] <;> omega) ?_
  try simp (disch := omega) only [am_b0, am_bn0, am_addE, am_subE, am_mulE, am_laddE, am_lsubE, am_upO, am_upS, am_stS, am_stO, am_tnn, am_brl, am_brg, am_bre, am_brn, am_brG, am_brL, am_st1, am_no2, am_st2, am_clr]
  refine am_wp_cc rfl rfl rfl (congrArg Prod.fst (s124 hw)) (w_M_readOnce (S := S) (k := w) rfl (by omega) hw hc ht hr.2.1.1 hr.2.1.2 (fun n0 J j0 j1 j2 => ⟨_, rfl, ?_⟩) (fun n0 J j0 j1 => ⟨_, rfl, ?_⟩))
  · rw [if_pos n0] at h0
    refine am_wp_go rfl (by simp (disch := omega) only [am_b0, am_bn0, am_addE, am_subE, am_mulE, am_laddE, am_lsubE, am_upO, am_upS, am_stS, am_stO, am_tnn, am_brl, am_brg, am_bre, am_brn, am_brG, am_brL, am_st1, am_no2, am_st2, am_clr, and_self, true_and, and_true, true_or, or_true, List.length_cons, List.length_nil] <;> omega) ?_
    refine am_wp_pc (pc' := 17) rfl ?_
    refine am_wp_go rfl (by simp (disch := omega) only [am_b0, am_bn0, am_addE, am_subE, am_mulE, am_laddE, am_lsubE, am_upO, am_upS, am_stS, am_stO, am_tnn, am_brl, am_brg, am_bre, am_brn, am_brG, am_brL, am_st1, am_no2, am_st2, am_clr, and_self, true_and, and_true, true_or, or_true, List.length_cons, List.length_nil] <;> omega) ?_
    try simp (disch := omega) only [am_b0, am_bn0, am_addE, am_subE, am_mulE, am_laddE, am_lsubE, am_upO, am_upS, am_stS, am_stO, am_tnn, am_brl, am_brg, am_bre, am_brn, am_brG, am_brL, am_st1, am_no2, am_st2, am_clr]
    refine am_wp_ret rfl rfl ?_
    exact h0 _ rfl J (frM_Q j0) j1 j2
  · rw [if_neg n0] at h0 h1
    obtain ⟨r1, r2, r3⟩ := krR_o hr (by omega) j0
    refine am_wp_go rfl (by simp (disch := omega) only [am_b0, am_bn0, am_addE, am_subE, am_mulE, am_laddE, am_lsubE, am_upO, am_upS, am_stS, am_stO, am_tnn, am_brl, am_brg, am_bre, am_brn, am_brG, am_brL, am_st1, am_no2, am_st2, am_clr, and_self, true_and, and_true, true_or, or_true, List.length_cons, List.length_nil] <;> omega) ?_
    refine am_wp_pc (pc' := 8) rfl ?_
    refine am_wp_go rfl (by simp (disch := omega) only [am_b0, am_bn0, am_addE, am_subE, am_mulE, am_laddE, am_lsubE, am_upO, am_upS, am_stS, am_stO, am_tnn, am_brl, am_brg, am_bre, am_brn, am_brG, am_brL, am_st1, am_no2, am_st2, am_clr, and_self, true_and, and_true, true_or, or_true, List.length_cons, List.length_nil] <;> omega) ?_
    try simp (disch := omega) only [am_b0, am_bn0, am_addE, am_subE, am_mulE, am_laddE, am_lsubE, am_upO, am_upS, am_stS, am_stO, am_tnn, am_brl, am_brg, am_bre, am_brn, am_brG, am_brL, am_st1, am_no2, am_st2, am_clr]
    refine am_wp_cc rfl rfl rfl (congrArg Prod.fst (s124 hw)) (w_M_readNumber ey ez hw j1 (fun n1 K k0 k1 k2 => ⟨_, rfl, ?_⟩) (fun n1 l1 l2 K k0 k1 k2 k3 => ⟨_, rfl, ?_⟩))
    · rw [kN_0 n1] at h0
      refine am_wp_go rfl (by simp (disch := omega) only [am_b0, am_bn0, am_addE, am_subE, am_mulE, am_laddE, am_lsubE, am_upO, am_upS, am_stS, am_stO, am_tnn, am_brl, am_brg, am_bre, am_brn, am_brG, am_brL, am_st1, am_no2, am_st2, am_clr, and_self, true_and, and_true, true_or, or_true, List.length_cons, List.length_nil] <;> omega) ?_
      refine am_wp_pc (pc' := 17) rfl ?_
      refine am_wp_go rfl (by simp (disch := omega) only [am_b0, am_bn0, am_addE, am_subE, am_mulE, am_laddE, am_lsubE, am_upO, am_upS, am_stS, am_stO, am_tnn, am_brl, am_brg, am_bre, am_brn, am_brG, am_brL, am_st1, am_no2, am_st2, am_clr, and_self, true_and, and_true, true_or, or_true, List.length_cons, List.length_nil] <;> omega) ?_
      try simp (disch := omega) only [am_b0, am_bn0, am_addE, am_subE, am_mulE, am_laddE, am_lsubE, am_upO, am_upS, am_stS, am_stO, am_tnn, am_brl, am_brg, am_bre, am_brn, am_brG, am_brL, am_st1, am_no2, am_st2, am_clr]
      refine am_wp_ret rfl rfl ?_
      exact h0 _ rfl K (frM_tr r2 (frM_Q k0)) k1 k2
    · rw [kN_1 n1] at h1
      refine am_wp_go rfl (by simp (disch := omega) only [am_b0, am_bn0, am_addE, am_subE, am_mulE, am_laddE, am_lsubE, am_upO, am_upS, am_stS, am_stO, am_tnn, am_brl, am_brg, am_bre, am_brn, am_brG, am_brL, am_st1, am_no2, am_st2, am_clr, and_self, true_and, and_true, true_or, or_true, List.length_cons, List.length_nil] <;> omega) ?_
      refine am_wp_pc (pc' := 19) rfl ?_
      refine am_wp_go rfl (by simp (disch := omega) only [s124 hw, r124_15 hw, s127 hw, k2, am_b0, am_bn0, am_addE, am_subE, am_mulE, am_laddE, am_lsubE, am_upO, am_upS, am_stS, am_stO, am_tnn, am_brl, am_brg, am_bre, am_brn, am_brG, am_brL, am_st1, am_no2, am_st2, am_clr, and_self, true_and, and_true, true_or, or_true, List.length_cons, List.length_nil] <;> omega) ?_
      try simp (disch := omega) only [s124 hw, r124_15 hw, s127 hw, k2, am_b0, am_bn0, am_addE, am_subE, am_mulE, am_laddE, am_lsubE, am_upO, am_upS, am_stS, am_stO, am_tnn, am_brl, am_brg, am_bre, am_brn, am_brG, am_brL, am_st1, am_no2, am_st2, am_clr]
      refine am_wp_ret rfl rfl ?_
      refine h1 _ rfl _ (frM_up (frM_tr r2 (frM_Q k0)) (by decide)) (by rw [am_upO (by decide), k1, r3]) (krR_w (krR_Q r1 k0) (by omega)) (rpR_up k3 (Or.inl (by decide)))
theorem w_M_readBurn (hw : wd sh R) (hc : rpR I b n lim S.1) (ht : owC (lxJ b n lim S.1) ≠ -1) (hr : krR I S)
    (h0 : ∀ e, kBurn (lxJ b n lim) S = .inl e → ∀ J, frM I J → J 124 10 = (e.1 : Int) → J 124 11 = (e.2 : Int) → Q (am_yi 0) (m, sl, sh, J, R))
    (h1 : ∀ S', kBurn (lxJ b n lim) S = .inr S' → ∀ J, frM I J → J 124 10 = I 124 10 → krR J S' → rpR J b n lim S'.1 → Q (am_yi 1) (m, sl, sh, J, R)) : am_wp (d + 4) 223 0 [some (.inr (.inr (124)))] [] (m, sl, sh, I, R) Q := by
  unfold kBurn at h0 h1
  refine am_wp_go rfl (by simp (disch := omega) only [am_b0, am_bn0, am_addE, am_subE, am_mulE, am_laddE, am_lsubE, am_upO, am_upS, am_stS, am_stO, am_tnn, am_brl, am_brg, am_bre, am_brn, am_brG, am_brL, am_st1, am_no2, am_st2, am_clr, and_self, true_and, and_true, true_or, or_true, List.length_cons, List.length_nil] <;> omega) ?_
  try simp (disch := omega) only [am_b0, am_bn0, am_addE, am_subE, am_mulE, am_laddE, am_lsubE, am_upO, am_upS, am_stS, am_stO, am_tnn, am_brl, am_brg, am_bre, am_brn, am_brG, am_brL, am_st1, am_no2, am_st2, am_clr]
  refine am_wp_cc rfl rfl rfl (congrArg Prod.fst (s124 hw)) (w_M_readOnce (S := S) (k := 3) rfl (by omega) hw hc ht hr.2.1.1 hr.2.1.2 (fun n0 J j0 j1 j2 => ⟨_, rfl, ?_⟩) (fun n0 J j0 j1 => ⟨_, rfl, ?_⟩))
  · rw [if_pos n0] at h0
    refine am_wp_go rfl (by simp (disch := omega) only [am_b0, am_bn0, am_addE, am_subE, am_mulE, am_laddE, am_lsubE, am_upO, am_upS, am_stS, am_stO, am_tnn, am_brl, am_brg, am_bre, am_brn, am_brG, am_brL, am_st1, am_no2, am_st2, am_clr, and_self, true_and, and_true, true_or, or_true, List.length_cons, List.length_nil] <;> omega) ?_
    refine am_wp_pc (pc' := 18) rfl ?_
    refine am_wp_go rfl (by simp (disch := omega) only [am_b0, am_bn0, am_addE, am_subE, am_mulE, am_laddE, am_lsubE, am_upO, am_upS, am_stS, am_stO, am_tnn, am_brl, am_brg, am_bre, am_brn, am_brG, am_brL, am_st1, am_no2, am_st2, am_clr, and_self, true_and, and_true, true_or, or_true, List.length_cons, List.length_nil] <;> omega) ?_
    try simp (disch := omega) only [am_b0, am_bn0, am_addE, am_subE, am_mulE, am_laddE, am_lsubE, am_upO, am_upS, am_stS, am_stO, am_tnn, am_brl, am_brg, am_bre, am_brn, am_brG, am_brL, am_st1, am_no2, am_st2, am_clr]
    refine am_wp_ret rfl rfl ?_
    exact h0 _ rfl J (frM_Q j0) j1 j2
  · rw [if_neg n0] at h0 h1
    obtain ⟨r1, r2, r3⟩ := krR_o hr (by omega) j0
    refine am_wp_go rfl (by simp (disch := omega) only [am_b0, am_bn0, am_addE, am_subE, am_mulE, am_laddE, am_lsubE, am_upO, am_upS, am_stS, am_stO, am_tnn, am_brl, am_brg, am_bre, am_brn, am_brG, am_brL, am_st1, am_no2, am_st2, am_clr, and_self, true_and, and_true, true_or, or_true, List.length_cons, List.length_nil] <;> omega) ?_
    refine am_wp_pc (pc' := 8) rfl ?_
    refine am_wp_go rfl (by simp (disch := omega) only [am_b0, am_bn0, am_addE, am_subE, am_mulE, am_laddE, am_lsubE, am_upO, am_upS, am_stS, am_stO, am_tnn, am_brl, am_brg, am_bre, am_brn, am_brG, am_brL, am_st1, am_no2, am_st2, am_clr, and_self, true_and, and_true, true_or, or_true, List.length_cons, List.length_nil] <;> omega) ?_
    try simp (disch := omega) only [am_b0, am_bn0, am_addE, am_subE, am_mulE, am_laddE, am_lsubE, am_upO, am_upS, am_stS, am_stO, am_tnn, am_brl, am_brg, am_bre, am_brn, am_brG, am_brL, am_st1, am_no2, am_st2, am_clr]
    refine am_wp_cc rfl rfl rfl (congrArg Prod.fst (s124 hw)) (w_M_readNumber (a := 0) (c := 19) rfl rfl hw j1 (fun n1 K k0 k1 k2 => ⟨_, rfl, ?_⟩) (fun n1 l1 l2 K k0 k1 k2 k3 => ⟨_, rfl, ?_⟩))
    · rw [kN_0 n1] at h0
      refine am_wp_go rfl (by simp (disch := omega) only [am_b0, am_bn0, am_addE, am_subE, am_mulE, am_laddE, am_lsubE, am_upO, am_upS, am_stS, am_stO, am_tnn, am_brl, am_brg, am_bre, am_brn, am_brG, am_brL, am_st1, am_no2, am_st2, am_clr, and_self, true_and, and_true, true_or, or_true, List.length_cons, List.length_nil] <;> omega) ?_
      refine am_wp_pc (pc' := 18) rfl ?_
      refine am_wp_go rfl (by simp (disch := omega) only [am_b0, am_bn0, am_addE, am_subE, am_mulE, am_laddE, am_lsubE, am_upO, am_upS, am_stS, am_stO, am_tnn, am_brl, am_brg, am_bre, am_brn, am_brG, am_brL, am_st1, am_no2, am_st2, am_clr, and_self, true_and, and_true, true_or, or_true, List.length_cons, List.length_nil] <;> omega) ?_
      try simp (disch := omega) only [am_b0, am_bn0, am_addE, am_subE, am_mulE, am_laddE, am_lsubE, am_upO, am_upS, am_stS, am_stO, am_tnn, am_brl, am_brg, am_bre, am_brn, am_brG, am_brL, am_st1, am_no2, am_st2, am_clr]
      refine am_wp_ret rfl rfl ?_
      exact h0 _ rfl K (frM_tr r2 (frM_Q k0)) k1 k2
    · rw [kN_1 n1] at h0 h1
      have V3 : am_up K 127 3 ((lxJ b n lim (S.1 + 1)).2.2.2 : Int) 127 3 = ((lxJ b n lim (S.1 + 1)).2.2.2 : Int) := by rw [am_upS, am_stS rfl]
      refine am_wp_go rfl (by simp (disch := omega) only [am_b0, am_bn0, am_addE, am_subE, am_mulE, am_laddE, am_lsubE, am_upO, am_upS, am_stS, am_stO, am_tnn, am_brl, am_brg, am_bre, am_brn, am_brG, am_brL, am_st1, am_no2, am_st2, am_clr, and_self, true_and, and_true, true_or, or_true, List.length_cons, List.length_nil] <;> omega) ?_
      refine am_wp_pc (pc' := 20) rfl ?_
      refine am_wp_go rfl (by simp (disch := omega) only [s124 hw, r124_15 hw, s127 hw, k2, Int.reduceToNat, am_addE, am_subE, am_mulE, am_laddE, am_lsubE, am_upO, am_upS, am_stS, am_stO, am_tnn, am_brl, am_brg, am_bre, am_brn, am_brG, am_brL, am_st1, am_no2, am_st2, am_clr, and_self, true_and, and_true, true_or, or_true, List.length_cons, List.length_nil] <;> omega) ?_
      try simp (disch := omega) only [s124 hw, r124_15 hw, s127 hw, k2, Int.reduceToNat, am_addE, am_subE, am_mulE, am_laddE, am_lsubE, am_upO, am_upS, am_stS, am_stO, am_tnn, am_brl, am_brg, am_bre, am_brn, am_brG, am_brL, am_st1, am_no2, am_st2, am_clr]
      refine am_wp_cc rfl rfl rfl (congrArg Prod.fst (s124 hw)) (w_M_readNumber (a := (lxJ b n lim (S.1 + 1)).2.2.2 + 1) (c := 20) (by omega) rfl hw (rpR_up k3 (Or.inl (by decide))) (fun n2 V v0 v1 v2 => ⟨_, rfl, ?_⟩) (fun n2 l3 l4 V v0 v1 v2 v3 => ⟨_, rfl, ?_⟩))
      · rw [kN_0 (j := S.1 + 2) n2] at h0
        refine am_wp_go rfl (by simp (disch := omega) only [s124 hw, r124_15 hw, s127 hw, k2, Int.reduceToNat, am_addE, am_subE, am_mulE, am_laddE, am_lsubE, am_upO, am_upS, am_stS, am_stO, am_tnn, am_brl, am_brg, am_bre, am_brn, am_brG, am_brL, am_st1, am_no2, am_st2, am_clr, and_self, true_and, and_true, true_or, or_true, List.length_cons, List.length_nil] <;> omega) ?_
        refine am_wp_pc (pc' := 47) rfl ?_
        refine am_wp_go rfl (by simp (disch := omega) only [s124 hw, r124_15 hw, s127 hw, k2, Int.reduceToNat, am_addE, am_subE, am_mulE, am_laddE, am_lsubE, am_upO, am_upS, am_stS, am_stO, am_tnn, am_brl, am_brg, am_bre, am_brn, am_brG, am_brL, am_st1, am_no2, am_st2, am_clr, and_self, true_and, and_true, true_or, or_true, List.length_cons, List.length_nil] <;> omega) ?_
        try simp (disch := omega) only [s124 hw, r124_15 hw, s127 hw, k2, Int.reduceToNat, am_addE, am_subE, am_mulE, am_laddE, am_lsubE, am_upO, am_upS, am_stS, am_stO, am_tnn, am_brl, am_brg, am_bre, am_brn, am_brG, am_brL, am_st1, am_no2, am_st2, am_clr]
        refine am_wp_ret rfl rfl ?_
        exact h0 _ rfl V (frM_tr (frM_up (frM_tr r2 (frM_Q k0)) (by decide)) (frM_Q v0)) v1 v2
      · rw [kN_1 (j := S.1 + 2) n2] at h1
        refine am_wp_go rfl (by simp (disch := omega) only [s124 hw, r124_15 hw, s127 hw, k2, Int.reduceToNat, am_addE, am_subE, am_mulE, am_laddE, am_lsubE, am_upO, am_upS, am_stS, am_stO, am_tnn, am_brl, am_brg, am_bre, am_brn, am_brG, am_brL, am_st1, am_no2, am_st2, am_clr, and_self, true_and, and_true, true_or, or_true, List.length_cons, List.length_nil] <;> omega) ?_
        refine am_wp_pc (pc' := 49) rfl ?_
        refine am_wp_go rfl (by simp (disch := omega) only [s124 hw, r124_15 hw, s127 hw, v2, Int.reduceToNat, am_addE, am_subE, am_mulE, am_laddE, am_lsubE, am_upO, am_upS, am_stS, am_stO, am_tnn, am_brl, am_brg, am_bre, am_brn, am_brG, am_brL, am_st1, am_no2, am_st2, am_clr, and_self, true_and, and_true, true_or, or_true, List.length_cons, List.length_nil] <;> omega) ?_
        try simp (disch := omega) only [s124 hw, r124_15 hw, s127 hw, v2, Int.reduceToNat, am_addE, am_subE, am_mulE, am_laddE, am_lsubE, am_upO, am_upS, am_stS, am_stO, am_tnn, am_brl, am_brg, am_bre, am_brn, am_brG, am_brL, am_st1, am_no2, am_st2, am_clr]
        refine am_wp_ret rfl rfl ?_
        refine h1 _ rfl _ (frM_up (frM_tr (frM_up (frM_tr r2 (frM_Q k0)) (by decide)) (frM_Q v0)) (by decide)) (by rw [am_upO (by decide), v1, am_upO (by decide), k1, r3]) ?_ (rpR_up v3 (Or.inl (by decide)))
        exact krR_w (S := (S.1, am_set S.2.1 3 ((lxJ b n lim (S.1 + 1)).2.2.2 : Int), S.2.2.1 ||| 2 ^ 3, S.2.2.2)) (krR_Q (krR_w (krR_Q r1 k0) (by decide)) v0) (by decide)
end RP
