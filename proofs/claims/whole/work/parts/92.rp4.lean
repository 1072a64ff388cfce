/-! A KITCHEN's text: SLICES, GUESTS, SORTS by the reference -/
theorem set_cg {A B : Nat → Int} {q k : Nat} {x : Int} (h : ∀ i, i < q → A i = B i) : ∀ i, i < q → am_set A k x i = am_set B k x i := fun i hi => by
  by_cases hik : i = k
  · rw [am_stS hik, am_stS hik]
  · rw [am_stO hik, am_stO hik]; exact h i hi
section RP
variable {m sl : Nat} {sh : Nat → Nat × Nat} {I : Nat → Nat → Int} {R : Nat → Nat → Nat} {Q : am_R → am_M → Prop} {d : Nat} {b : Nat → Nat} {n lim : Nat} {S : KS}
theorem w_M_readNew {z j : Nat} (hw : wd sh R) (hc : rpR I b n lim j) (hr : krR I S) (hz : z < 21)
    (h1 : cK (lxJ b n lim j) ≠ 2 → ∀ J, frQ I J → J 124 10 = 1 → J 124 11 = (plT (lxJ b n lim) j : Int) → Q (am_yi 0) (m, sl, sh, J, R))
    (h3 : cK (lxJ b n lim j) = 2 → kDup S (lxJ b n lim j).2.2.1 → ∀ J, frQ I J → J 124 10 = 3 → J 124 11 = (plT (lxJ b n lim) j : Int) → Q (am_yi 0) (m, sl, sh, J, R))
    (h0 : cK (lxJ b n lim j) = 2 → ¬ kDup S (lxJ b n lim j).2.2.1 → letOk (lxJ b n lim j).2.2.1 → ∀ J, fr6 (am_up I 131 z (nm27 (lxJ b n lim j).2.2.1 : Int)) J → rpR J b n lim (j + 1) → Q (am_yi 1) (m, sl, sh, J, R)) : am_wp (d + 3) 219 0 [some (.inr (.inr (124))), some (.inl ((z : Int)))] [] (m, sl, sh, I, R) Q := by
  obtain ⟨r1, r2, r3, r4, r5⟩ := hr
  obtain ⟨m1, m2, m3⟩ := wkm_n r5
  have e5 : I 127 5 = (nS S.2.1 : Int) := by rw [r1 5 (by decide)]; exact m1.1
  have e6 : I 127 6 = (nG S.2.1 : Int) := by rw [r1 6 (by decide)]; exact m2.1
  refine am_wp_go rfl (by simp (disch := omega) only [s124 hw, am_bn0, am_b0, am_addE, am_subE, am_mulE, am_laddE, am_lsubE, am_upO, am_upS, am_stS, am_stO, am_tnn, am_brl, am_brg, am_bre, am_brn, am_brG, am_brL, am_st1, am_no2, am_st2, am_clr, and_self, true_and, and_true, true_or, or_true, List.length_cons, List.length_nil] <;> omega) ?_
  try simp (disch := omega) only [s124 hw, am_bn0, am_b0, am_addE, am_subE, am_mulE, am_laddE, am_lsubE, am_upO, am_upS, am_stS, am_stO, am_tnn, am_brl, am_brg, am_bre, am_brn, am_brG, am_brL, am_st1, am_no2, am_st2, am_clr]
  refine am_wp_cc rfl rfl rfl (congrArg Prod.fst (s124 hw)) (w_M_isName hw hc ⟨_, rfl, ?_⟩)
  refine am_wp_go rfl (by simp (disch := omega) only [s124 hw, am_bn0, am_b0, am_addE, am_subE, am_mulE, am_laddE, am_lsubE, am_upO, am_upS, am_stS, am_stO, am_tnn, am_brl, am_brg, am_bre, am_brn, am_brG, am_brL, am_st1, am_no2, am_st2, am_clr, and_self, true_and, and_true, true_or, or_true, List.length_cons, List.length_nil] <;> omega) ?_
  try simp (disch := omega) only [s124 hw, am_bn0, am_b0, am_addE, am_subE, am_mulE, am_laddE, am_lsubE, am_upO, am_upS, am_stS, am_stO, am_tnn, am_brl, am_brg, am_bre, am_brn, am_brG, am_brL, am_st1, am_no2, am_st2, am_clr]
  refine am_wp_br (fun b4 => ?_) (fun b4 => ?_)
  · have h3 := h3 b4
    have h0 := h0 b4
    have nmj := cK_2.mp b4
    have lo := (lxJ_ok (b := b) (n := n) (lim := lim) j).1 nmj.1
    have e12 := hc.2.2.2.2.1.2.2.1 nmj.1
    clear h1
    refine am_wp_go rfl (by simp (disch := omega) only [s124 hw, r124_19 hw, r124_15 hw, s127 hw, e5, e12, Int.reduceToNat, am_addE, am_subE, am_mulE, am_laddE, am_lsubE, am_upO, am_upS, am_stS, am_stO, am_tnn, am_brl, am_brg, am_bre, am_brn, am_brG, am_brL, am_st1, am_no2, am_st2, am_clr, and_self, true_and, and_true, true_or, or_true, List.length_cons, List.length_nil] <;> omega) ?_
    try simp (disch := omega) only [s124 hw, r124_19 hw, r124_15 hw, s127 hw, e5, e12, Int.reduceToNat, am_addE, am_subE, am_mulE, am_laddE, am_lsubE, am_upO, am_upS, am_stS, am_stO, am_tnn, am_brl, am_brg, am_bre, am_brn, am_brG, am_brL, am_st1, am_no2, am_st2, am_clr]
    refine am_wp_cc rfl rfl rfl (trivial) (w_M_findIn (a := 131) (o := 0) (q := nS S.2.1) (NM := S.2.2.2) (ws := (lxJ b n lim j).2.2.1) rfl (by decide) (s131 hw) (by omega) r3 lo ⟨_, rfl, ?_⟩)
    refine am_wp_go rfl (by simp (disch := omega) only [s124 hw, r124_19 hw, r124_15 hw, s127 hw, e5, e12, Int.reduceToNat, am_addE, am_subE, am_mulE, am_laddE, am_lsubE, am_upO, am_upS, am_stS, am_stO, am_tnn, am_brl, am_brg, am_bre, am_brn, am_brG, am_brL, am_st1, am_no2, am_st2, am_clr, and_self, true_and, and_true, true_or, or_true, List.length_cons, List.length_nil] <;> omega) ?_
    try simp (disch := omega) only [s124 hw, r124_19 hw, r124_15 hw, s127 hw, e5, e12, Int.reduceToNat, am_addE, am_subE, am_mulE, am_laddE, am_lsubE, am_upO, am_upS, am_stS, am_stO, am_tnn, am_brl, am_brg, am_bre, am_brn, am_brG, am_brL, am_st1, am_no2, am_st2, am_clr]
    refine am_wp_br (fun b32 => ?_) (fun b32 => ?_)
    · have h := h3 (Or.inl b32)
      refine am_wp_go rfl (by simp (disch := omega) only [s124 hw, r124_19 hw, r124_15 hw, s127 hw, e5, e12, Int.reduceToNat, am_addE, am_subE, am_mulE, am_laddE, am_lsubE, am_upO, am_upS, am_stS, am_stO, am_tnn, am_brl, am_brg, am_bre, am_brn, am_brG, am_brL, am_st1, am_no2, am_st2, am_clr, and_self, true_and, and_true, true_or, or_true, List.length_cons, List.length_nil] <;> omega) ?_
      try simp (disch := omega) only [s124 hw, r124_19 hw, r124_15 hw, s127 hw, e5, e12, Int.reduceToNat, am_addE, am_subE, am_mulE, am_laddE, am_lsubE, am_upO, am_upS, am_stS, am_stO, am_tnn, am_brl, am_brg, am_bre, am_brn, am_brG, am_brL, am_st1, am_no2, am_st2, am_clr]
      refine am_wp_cc rfl rfl rfl (congrArg Prod.fst (s124 hw)) (w_M_bad' (k := 3) rfl hw hc (Or.inr (by have := nmj.1; omega)) (fun J j0 j1 j2 => ⟨_, rfl, ?_⟩))
      refine am_wp_ret rfl rfl ?_
      exact h J j0 j1 j2
    · skip
      refine am_wp_go rfl (by simp (disch := omega) only [s124 hw, r124_19 hw, r124_15 hw, s127 hw, e6, e12, Int.reduceToNat, am_addE, am_subE, am_mulE, am_laddE, am_lsubE, am_upO, am_upS, am_stS, am_stO, am_tnn, am_brl, am_brg, am_bre, am_brn, am_brG, am_brL, am_st1, am_no2, am_st2, am_clr, and_self, true_and, and_true, true_or, or_true, List.length_cons, List.length_nil] <;> omega) ?_
      try simp (disch := omega) only [s124 hw, r124_19 hw, r124_15 hw, s127 hw, e6, e12, Int.reduceToNat, am_addE, am_subE, am_mulE, am_laddE, am_lsubE, am_upO, am_upS, am_stS, am_stO, am_tnn, am_brl, am_brg, am_bre, am_brn, am_brG, am_brL, am_st1, am_no2, am_st2, am_clr]
      refine am_wp_cc rfl rfl rfl (trivial) (w_M_findIn (a := 131) (o := 8) (q := nG S.2.1) (NM := S.2.2.2) (ws := (lxJ b n lim j).2.2.1) rfl (by decide) (s131 hw) (by omega) r4 lo ⟨_, rfl, ?_⟩)
      refine am_wp_go rfl (by simp (disch := omega) only [s124 hw, r124_19 hw, r124_15 hw, s127 hw, e6, e12, Int.reduceToNat, am_addE, am_subE, am_mulE, am_laddE, am_lsubE, am_upO, am_upS, am_stS, am_stO, am_tnn, am_brl, am_brg, am_bre, am_brn, am_brG, am_brL, am_st1, am_no2, am_st2, am_clr, and_self, true_and, and_true, true_or, or_true, List.length_cons, List.length_nil] <;> omega) ?_
      try simp (disch := omega) only [s124 hw, r124_19 hw, r124_15 hw, s127 hw, e6, e12, Int.reduceToNat, am_addE, am_subE, am_mulE, am_laddE, am_lsubE, am_upO, am_upS, am_stS, am_stO, am_tnn, am_brl, am_brg, am_bre, am_brn, am_brG, am_brL, am_st1, am_no2, am_st2, am_clr]
      refine am_wp_br (fun b56 => ?_) (fun b56 => ?_)
      · have h := h0 (fun hx => by rcases hx with hx | hx; exact b32 hx; exact hx b56) lo
        refine am_wp_go rfl (by simp (disch := omega) only [s124 hw, r124_19 hw, s131 hw, e12, Int.reduceToNat, am_addE, am_subE, am_mulE, am_laddE, am_lsubE, am_upO, am_upS, am_stS, am_stO, am_tnn, am_brl, am_brg, am_bre, am_brn, am_brG, am_brL, am_st1, am_no2, am_st2, am_clr, and_self, true_and, and_true, true_or, or_true, List.length_cons, List.length_nil] <;> omega) ?_
        try simp (disch := omega) only [s124 hw, r124_19 hw, s131 hw, e12, Int.reduceToNat, am_addE, am_subE, am_mulE, am_laddE, am_lsubE, am_upO, am_upS, am_stS, am_stO, am_tnn, am_brl, am_brg, am_bre, am_brn, am_brG, am_brL, am_st1, am_no2, am_st2, am_clr]
        refine am_wp_cc rfl rfl rfl (congrArg Prod.fst (s124 hw)) (w_M_nx hw (rpR_up hc (Or.inl (by decide))) (by have := nmj.1; omega) (fun J j0 j1 => ⟨_, rfl, ?_⟩))
        refine am_wp_go rfl (by simp (disch := omega) only [s124 hw, r124_19 hw, s131 hw, e12, Int.reduceToNat, am_addE, am_subE, am_mulE, am_laddE, am_lsubE, am_upO, am_upS, am_stS, am_stO, am_tnn, am_brl, am_brg, am_bre, am_brn, am_brG, am_brL, am_st1, am_no2, am_st2, am_clr, and_self, true_and, and_true, true_or, or_true, List.length_cons, List.length_nil] <;> omega) ?_
        try simp (disch := omega) only [s124 hw, r124_19 hw, s131 hw, e12, Int.reduceToNat, am_addE, am_subE, am_mulE, am_laddE, am_lsubE, am_upO, am_upS, am_stS, am_stO, am_tnn, am_brl, am_brg, am_bre, am_brn, am_brG, am_brL, am_st1, am_no2, am_st2, am_clr]
        refine am_wp_ret rfl rfl ?_
        exact h J j0 j1
      · have h := h3 (Or.inr b56)
        refine am_wp_go rfl (by simp (disch := omega) only [s124 hw, r124_19 hw, r124_15 hw, s127 hw, e6, e12, Int.reduceToNat, am_addE, am_subE, am_mulE, am_laddE, am_lsubE, am_upO, am_upS, am_stS, am_stO, am_tnn, am_brl, am_brg, am_bre, am_brn, am_brG, am_brL, am_st1, am_no2, am_st2, am_clr, and_self, true_and, and_true, true_or, or_true, List.length_cons, List.length_nil] <;> omega) ?_
        try simp (disch := omega) only [s124 hw, r124_19 hw, r124_15 hw, s127 hw, e6, e12, Int.reduceToNat, am_addE, am_subE, am_mulE, am_laddE, am_lsubE, am_upO, am_upS, am_stS, am_stO, am_tnn, am_brl, am_brg, am_bre, am_brn, am_brG, am_brL, am_st1, am_no2, am_st2, am_clr]
        refine am_wp_cc rfl rfl rfl (congrArg Prod.fst (s124 hw)) (w_M_bad' (k := 3) rfl hw hc (Or.inr (by have := nmj.1; omega)) (fun J j0 j1 j2 => ⟨_, rfl, ?_⟩))
        refine am_wp_ret rfl rfl ?_
        exact h J j0 j1 j2
  · have h := h1 b4
    refine am_wp_go rfl (by simp (disch := omega) only [s124 hw, am_bn0, am_b0, am_addE, am_subE, am_mulE, am_laddE, am_lsubE, am_upO, am_upS, am_stS, am_stO, am_tnn, am_brl, am_brg, am_bre, am_brn, am_brG, am_brL, am_st1, am_no2, am_st2, am_clr, and_self, true_and, and_true, true_or, or_true, List.length_cons, List.length_nil] <;> omega) ?_
    try simp (disch := omega) only [s124 hw, am_bn0, am_b0, am_addE, am_subE, am_mulE, am_laddE, am_lsubE, am_upO, am_upS, am_stS, am_stO, am_tnn, am_brl, am_brg, am_bre, am_brn, am_brG, am_brL, am_st1, am_no2, am_st2, am_clr]
    refine am_wp_cc rfl rfl rfl (congrArg Prod.fst (s124 hw)) (w_M_bad' (k := 1) rfl hw hc (Or.inl rfl) (fun J j0 j1 j2 => ⟨_, rfl, ?_⟩))
    refine am_wp_ret rfl rfl ?_
    exact h J j0 j1 j2
theorem fr6_10 {I J : Nat → Nat → Int} (h : fr6 I J) : J 124 10 = I 124 10 := h.2 10 (by decide) (by decide) (by decide) (by decide) (by decide) (by decide)
set_option maxHeartbeats 4000000 in
theorem w_M_readSort (hw : wd sh R) (hc : rpR I b n lim S.1) (ht : owC (lxJ b n lim S.1) ≠ -1) (hr : krR I S)
    (h0 : ∀ e, kSort (lxJ b n lim) S = .inl e → ∀ J, frM I J → J 124 10 = (e.1 : Int) → J 124 11 = (e.2 : Int) → Q (am_yi 0) (m, sl, sh, J, R))
    (h1 : ∀ S', kSort (lxJ b n lim) S = .inr S' → ∀ J, frM I J → J 124 10 = I 124 10 → krR J S' → rpR J b n lim S'.1 → Q (am_yi 1) (m, sl, sh, J, R)) : am_wp (d + 4) 222 0 [some (.inr (.inr (124))), none] [] (m, sl, sh, I, R) Q := by
  obtain ⟨r1, r2, r3, r4, r5⟩ := id hr
  obtain ⟨m1, m2, m3⟩ := wkm_n r5
  have e7 : I 127 7 = (nK S.2.1 : Int) := by rw [r1 7 (by decide)]; exact m3.1
  have t2 := ow_le ht
  unfold kSort at h0 h1
  refine am_wp_go rfl (by simp (disch := omega) only [s124 hw, r124_15 hw, s127 hw, e7, Int.reduceToNat, am_addE, am_subE, am_mulE, am_laddE, am_lsubE, am_upO, am_upS, am_stS, am_stO, am_tnn, am_brl, am_brg, am_bre, am_brn, am_brG, am_brL, am_st1, am_no2, am_st2, am_clr, and_self, true_and, and_true, true_or, or_true, List.length_cons, List.length_nil] <;> omega) ?_
  try simp (disch := omega) only [s124 hw, r124_15 hw, s127 hw, e7, Int.reduceToNat, am_addE, am_subE, am_mulE, am_laddE, am_lsubE, am_upO, am_upS, am_stS, am_stO, am_tnn, am_brl, am_brg, am_bre, am_brn, am_brG, am_brL, am_st1, am_no2, am_st2, am_clr]
  refine am_wp_br (fun b10 => ?_) (fun b10 => ?_)
  · rw [if_neg (by omega)] at h0 h1
    refine am_wp_go rfl (by simp (disch := omega) only [s124 hw, r124_15 hw, s127 hw, e7, Int.reduceToNat, am_addE, am_subE, am_mulE, am_laddE, am_lsubE, am_upO, am_upS, am_stS, am_stO, am_tnn, am_brl, am_brg, am_bre, am_brn, am_brG, am_brL, am_st1, am_no2, am_st2, am_clr, and_self, true_and, and_true, true_or, or_true, List.length_cons, List.length_nil] <;> omega) ?_
    try simp (disch := omega) only [s124 hw, r124_15 hw, s127 hw, e7, Int.reduceToNat, am_addE, am_subE, am_mulE, am_laddE, am_lsubE, am_upO, am_upS, am_stS, am_stO, am_tnn, am_brl, am_brg, am_bre, am_brn, am_brG, am_brL, am_st1, am_no2, am_st2, am_clr]
    refine am_wp_cc rfl rfl rfl (congrArg Prod.fst (s124 hw)) (w_M_nx hw hc (by omega) (fun J j0 j1 => ⟨_, rfl, ?_⟩))
    have fJ := frQ_6 j0
    refine am_wp_go rfl (by simp (disch := omega) only [s124 hw, r124_15 hw, s127 hw, e7, Int.reduceToNat, am_addE, am_subE, am_mulE, am_laddE, am_lsubE, am_upO, am_upS, am_stS, am_stO, am_tnn, am_brl, am_brg, am_bre, am_brn, am_brG, am_brL, am_st1, am_no2, am_st2, am_clr, and_self, true_and, and_true, true_or, or_true, List.length_cons, List.length_nil] <;> omega) ?_
    try simp (disch := omega) only [s124 hw, r124_15 hw, s127 hw, e7, Int.reduceToNat, am_addE, am_subE, am_mulE, am_laddE, am_lsubE, am_upO, am_upS, am_stS, am_stO, am_tnn, am_brl, am_brg, am_bre, am_brn, am_brG, am_brL, am_st1, am_no2, am_st2, am_clr]
    refine am_wp_cc rfl rfl rfl (congrArg Prod.fst (s124 hw)) (w_M_readNumber (a := 1) (c := 9) rfl rfl hw j1 (fun n1 K k0 k1 k2 => ⟨_, rfl, ?_⟩) (fun n1 l1 l2 K k0 k1 k2 k3 => ⟨_, rfl, ?_⟩))
    · rw [kN_0 n1] at h0
      refine am_wp_go rfl (by simp (disch := omega) only [s124 hw, r124_15 hw, s127 hw, e7, Int.reduceToNat, am_addE, am_subE, am_mulE, am_laddE, am_lsubE, am_upO, am_upS, am_stS, am_stO, am_tnn, am_brl, am_brg, am_bre, am_brn, am_brG, am_brL, am_st1, am_no2, am_st2, am_clr, and_self, true_and, and_true, true_or, or_true, List.length_cons, List.length_nil] <;> omega) ?_
      refine am_wp_pc (pc' := 33) rfl ?_
      refine am_wp_go rfl (by simp (disch := omega) only [s124 hw, r124_15 hw, s127 hw, e7, Int.reduceToNat, am_addE, am_subE, am_mulE, am_laddE, am_lsubE, am_upO, am_upS, am_stS, am_stO, am_tnn, am_brl, am_brg, am_bre, am_brn, am_brG, am_brL, am_st1, am_no2, am_st2, am_clr, and_self, true_and, and_true, true_or, or_true, List.length_cons, List.length_nil] <;> omega) ?_
      try simp (disch := omega) only [s124 hw, r124_15 hw, s127 hw, e7, Int.reduceToNat, am_addE, am_subE, am_mulE, am_laddE, am_lsubE, am_upO, am_upS, am_stS, am_stO, am_tnn, am_brl, am_brg, am_bre, am_brn, am_brG, am_brL, am_st1, am_no2, am_st2, am_clr]
      refine am_wp_ret rfl rfl ?_
      exact h0 _ rfl K (frM_Q (frQ_tr fJ k0)) k1 k2
    · rw [kN_1 n1] at h0 h1
      have fK := frQ_tr fJ k0
      refine am_wp_go rfl (by simp (disch := omega) only [s124 hw, r124_15 hw, s127 hw, e7, Int.reduceToNat, am_addE, am_subE, am_mulE, am_laddE, am_lsubE, am_upO, am_upS, am_stS, am_stO, am_tnn, am_brl, am_brg, am_bre, am_brn, am_brG, am_brL, am_st1, am_no2, am_st2, am_clr, and_self, true_and, and_true, true_or, or_true, List.length_cons, List.length_nil] <;> omega) ?_
      refine am_wp_pc (pc' := 35) rfl ?_
      refine am_wp_go rfl (by simp (disch := omega) only [s124 hw, r124_15 hw, s127 hw, k2, am_tnA, am_tnM, Int.reduceToNat, am_addE, am_subE, am_mulE, am_laddE, am_lsubE, am_upO, am_upS, am_stS, am_stO, am_tnn, am_brl, am_brg, am_bre, am_brn, am_brG, am_brL, am_st1, am_no2, am_st2, am_clr, and_self, true_and, and_true, true_or, or_true, List.length_cons, List.length_nil] <;> omega) ?_
      try simp (disch := omega) only [s124 hw, r124_15 hw, s127 hw, k2, am_tnA, am_tnM, Int.reduceToNat, am_addE, am_subE, am_mulE, am_laddE, am_lsubE, am_upO, am_upS, am_stS, am_stO, am_tnn, am_brl, am_brg, am_bre, am_brn, am_brG, am_brL, am_st1, am_no2, am_st2, am_clr]
      refine am_wp_cc rfl rfl rfl (congrArg Prod.fst (s124 hw)) (w_M_readNumber (a := 1) (c := 99) rfl rfl hw (rpR_up k3 (Or.inl (by decide))) (fun n2 V v0 v1 v2 => ⟨_, rfl, ?_⟩) (fun n2 l3 l4 V v0 v1 v2 v3 => ⟨_, rfl, ?_⟩))
      · rw [kN_0 (j := S.1 + 2) n2] at h0
        refine am_wp_go rfl (by simp (disch := omega) only [s124 hw, r124_15 hw, s127 hw, k2, am_tnA, am_tnM, Int.reduceToNat, am_addE, am_subE, am_mulE, am_laddE, am_lsubE, am_upO, am_upS, am_stS, am_stO, am_tnn, am_brl, am_brg, am_bre, am_brn, am_brG, am_brL, am_st1, am_no2, am_st2, am_clr, and_self, true_and, and_true, true_or, or_true, List.length_cons, List.length_nil] <;> omega) ?_
        refine am_wp_pc (pc' := 60) rfl ?_
        refine am_wp_go rfl (by simp (disch := omega) only [s124 hw, r124_15 hw, s127 hw, k2, am_tnA, am_tnM, Int.reduceToNat, am_addE, am_subE, am_mulE, am_laddE, am_lsubE, am_upO, am_upS, am_stS, am_stO, am_tnn, am_brl, am_brg, am_bre, am_brn, am_brG, am_brL, am_st1, am_no2, am_st2, am_clr, and_self, true_and, and_true, true_or, or_true, List.length_cons, List.length_nil] <;> omega) ?_
        try simp (disch := omega) only [s124 hw, r124_15 hw, s127 hw, k2, am_tnA, am_tnM, Int.reduceToNat, am_addE, am_subE, am_mulE, am_laddE, am_lsubE, am_upO, am_upS, am_stS, am_stO, am_tnn, am_brl, am_brg, am_bre, am_brn, am_brG, am_brL, am_st1, am_no2, am_st2, am_clr]
        refine am_wp_ret rfl rfl ?_
        exact h0 _ rfl V (frM_tr (frM_up (frM_Q fK) (by decide)) (frM_Q v0)) v1 v2
      · rw [kN_1 (j := S.1 + 2) n2] at h1
        have V127 : V 127 = am_set (I 127) (48 + 2 * nK S.2.1) ((lxJ b n lim (S.1 + 1)).2.2.2 : Int) := by rw [v0.1 127 (by decide), am_upS, fK.1 127 (by decide)]
        have V7 : am_up V 127 (48 + 2 * nK S.2.1 + 1) ((lxJ b n lim (S.1 + 1 + 1)).2.2.2 : Int) 127 7 = (nK S.2.1 : Int) := by rw [am_upS, am_stO (by omega), V127, am_stO (by omega)]; exact e7
        refine am_wp_go rfl (by simp (disch := omega) only [s124 hw, r124_15 hw, s127 hw, k2, am_tnA, am_tnM, Int.reduceToNat, am_addE, am_subE, am_mulE, am_laddE, am_lsubE, am_upO, am_upS, am_stS, am_stO, am_tnn, am_brl, am_brg, am_bre, am_brn, am_brG, am_brL, am_st1, am_no2, am_st2, am_clr, and_self, true_and, and_true, true_or, or_true, List.length_cons, List.length_nil] <;> omega) ?_
        refine am_wp_pc (pc' := 62) rfl ?_
        refine am_wp_go rfl (by simp (disch := omega) only [s124 hw, r124_15 hw, s127 hw, v2, am_tnA, am_tnM, am_tnn, Int.reduceToNat, am_mulE, am_addE, am_upO, and_self, true_and, and_true] <;> omega) ?_
        simp (disch := omega) only [s124 hw, r124_15 hw, s127 hw, v2, am_tnA, am_tnM, am_tnn, Int.reduceToNat, am_mulE, am_addE, V7]
        refine am_wp_ret rfl rfl ?_
        refine h1 _ rfl _ (frM_up (frM_up (frM_tr (frM_up (frM_Q fK) (by decide)) (frM_Q v0)) (by decide)) (by decide)) (by rw [am_upO (by decide), am_upO (by decide), v1, am_upO (by decide), k1, fr6_10 j0]) ⟨?_, ?_, ?_, ?_, ?_⟩ (rpR_up (rpR_up v3 (Or.inl (by decide))) (Or.inl (by decide)))
        · dsimp only
          rw [am_upS, am_upS, V127]
          unfold kSoW
          exact set_cg (set_cg (set_cg r1))
        · rw [am_upO (by decide), am_upO (by decide), v0.2 24 (by decide), am_upO (by decide), fK.2 24 (by decide)]; exact r2
        · have e : nS (kSoW S.2.1 ((lxJ b n lim (S.1 + 1)).2.2.2 : Int) ((lxJ b n lim (S.1 + 2)).2.2.2 : Int)) = nS S.2.1 := by unfold nS kSoW; rw [am_stO (by omega), am_stO (by omega), am_stO (by omega)]
          dsimp only
          rw [e, am_upO (by decide), am_upO (by decide), v0.1 131 (by decide), am_upO (by decide), fK.1 131 (by decide)]; exact r3
        · have e : nG (kSoW S.2.1 ((lxJ b n lim (S.1 + 1)).2.2.2 : Int) ((lxJ b n lim (S.1 + 2)).2.2.2 : Int)) = nG S.2.1 := by unfold nG kSoW; rw [am_stO (by omega), am_stO (by omega), am_stO (by omega)]
          dsimp only
          rw [e, am_upO (by decide), am_upO (by decide), v0.1 131 (by decide), am_upO (by decide), fK.1 131 (by decide)]; exact r4
        · unfold wkm at r5 ⊢
          unfold kSoW
          dsimp only
          simp (disch := omega) only [am_stO, am_stS]
          omega
  · rw [if_pos (by omega)] at h0
    refine am_wp_go rfl (by simp (disch := omega) only [s124 hw, r124_15 hw, s127 hw, e7, Int.reduceToNat, am_addE, am_subE, am_mulE, am_laddE, am_lsubE, am_upO, am_upS, am_stS, am_stO, am_tnn, am_brl, am_brg, am_bre, am_brn, am_brG, am_brL, am_st1, am_no2, am_st2, am_clr, and_self, true_and, and_true, true_or, or_true, List.length_cons, List.length_nil] <;> omega) ?_
    try simp (disch := omega) only [s124 hw, r124_15 hw, s127 hw, e7, Int.reduceToNat, am_addE, am_subE, am_mulE, am_laddE, am_lsubE, am_upO, am_upS, am_stS, am_stO, am_tnn, am_brl, am_brg, am_bre, am_brn, am_brG, am_brL, am_st1, am_no2, am_st2, am_clr]
    refine am_wp_cc rfl rfl rfl (congrArg Prod.fst (s124 hw)) (w_M_bad' (k := 4) rfl hw hc (Or.inr (by omega)) (fun J j0 j1 j2 => ⟨_, rfl, ?_⟩))
    refine am_wp_ret rfl rfl ?_
    exact h0 _ rfl J (frM_Q j0) j1 j2
set_option maxHeartbeats 4000000 in
theorem w_M_readGuest (hw : wd sh R) (hc : rpR I b n lim S.1) (ht : owC (lxJ b n lim S.1) ≠ -1) (hr : krR I S)
    (h0 : ∀ e, kGuest (lxJ b n lim) S = .inl e → ∀ J, frM I J → J 124 10 = (e.1 : Int) → J 124 11 = (e.2 : Int) → Q (am_yi 0) (m, sl, sh, J, R))
    (h1 : ∀ S', kGuest (lxJ b n lim) S = .inr S' → ∀ J, frM I J → J 124 10 = I 124 10 → krR J S' → rpR J b n lim S'.1 → Q (am_yi 1) (m, sl, sh, J, R)) : am_wp (d + 4) 221 0 [some (.inr (.inr (124))), none] [] (m, sl, sh, I, R) Q := by
  obtain ⟨r1, r2, r3, r4, r5⟩ := id hr
  obtain ⟨m1, m2, m3⟩ := wkm_n r5
  have e6 : I 127 6 = (nG S.2.1 : Int) := by rw [r1 6 (by decide)]; exact m2.1
  have t2 := ow_le ht
  unfold kGuest at h0 h1
  refine am_wp_go rfl (by simp (disch := omega) only [s124 hw, r124_15 hw, s127 hw, e6, Int.reduceToNat, am_addE, am_subE, am_mulE, am_laddE, am_lsubE, am_upO, am_upS, am_stS, am_stO, am_tnn, am_brl, am_brg, am_bre, am_brn, am_brG, am_brL, am_st1, am_no2, am_st2, am_clr, and_self, true_and, and_true, true_or, or_true, List.length_cons, List.length_nil] <;> omega) ?_
  try simp (disch := omega) only [s124 hw, r124_15 hw, s127 hw, e6, Int.reduceToNat, am_addE, am_subE, am_mulE, am_laddE, am_lsubE, am_upO, am_upS, am_stS, am_stO, am_tnn, am_brl, am_brg, am_bre, am_brn, am_brG, am_brL, am_st1, am_no2, am_st2, am_clr]
  refine am_wp_br (fun b11 => ?_) (fun b11 => ?_)
  · rw [if_neg (by omega)] at h0 h1
    refine am_wp_go rfl (by simp (disch := omega) only [s124 hw, r124_15 hw, s127 hw, e6, Int.reduceToNat, am_addE, am_subE, am_mulE, am_laddE, am_lsubE, am_upO, am_upS, am_stS, am_stO, am_tnn, am_brl, am_brg, am_bre, am_brn, am_brG, am_brL, am_st1, am_no2, am_st2, am_clr, and_self, true_and, and_true, true_or, or_true, List.length_cons, List.length_nil] <;> omega) ?_
    try simp (disch := omega) only [s124 hw, r124_15 hw, s127 hw, e6, Int.reduceToNat, am_addE, am_subE, am_mulE, am_laddE, am_lsubE, am_upO, am_upS, am_stS, am_stO, am_tnn, am_brl, am_brg, am_bre, am_brn, am_brG, am_brL, am_st1, am_no2, am_st2, am_clr]
    refine am_wp_cc rfl rfl rfl (congrArg Prod.fst (s124 hw)) (w_M_nx hw hc (by omega) (fun J j0 j1 => ⟨_, rfl, ?_⟩))
    have fJ := frQ_6 j0
    have qz : (8 : Int) + (nG S.2.1 : Int) = ((8 + nG S.2.1 : Nat) : Int) := by omega
    refine am_wp_go rfl (by simp (disch := omega) only [s124 hw, r124_15 hw, s127 hw, e6, qz, am_addE, am_subE, am_mulE, am_laddE, am_lsubE, am_upO, am_upS, am_stS, am_stO, am_tnn, am_brl, am_brg, am_bre, am_brn, am_brG, am_brL, am_st1, am_no2, am_st2, am_clr, and_self, true_and, and_true, true_or, or_true, List.length_cons, List.length_nil] <;> omega) ?_
    try simp (disch := omega) only [s124 hw, r124_15 hw, s127 hw, e6, qz, am_addE, am_subE, am_mulE, am_laddE, am_lsubE, am_upO, am_upS, am_stS, am_stO, am_tnn, am_brl, am_brg, am_bre, am_brn, am_brG, am_brL, am_st1, am_no2, am_st2, am_clr]
    refine am_wp_cc rfl rfl rfl (congrArg Prod.fst (s124 hw)) (w_M_readNew (z := 8 + nG S.2.1) hw j1 (krR_Q hr fJ) (by omega) (fun n1 K k0 k1 k2 => ⟨_, rfl, ?_⟩) (fun n1 n2 K k0 k1 k2 => ⟨_, rfl, ?_⟩) (fun n1 n2 lo K k0 k3 => ⟨_, rfl, ?_⟩))
    · rw [kNew_1 n1] at h0
      refine am_wp_go rfl (by simp (disch := omega) only [s124 hw, r124_15 hw, s127 hw, e6, qz, am_addE, am_subE, am_mulE, am_laddE, am_lsubE, am_upO, am_upS, am_stS, am_stO, am_tnn, am_brl, am_brg, am_bre, am_brn, am_brG, am_brL, am_st1, am_no2, am_st2, am_clr, and_self, true_and, and_true, true_or, or_true, List.length_cons, List.length_nil] <;> omega) ?_
      refine am_wp_pc (pc' := 46) rfl ?_
      refine am_wp_go rfl (by simp (disch := omega) only [s124 hw, r124_15 hw, s127 hw, e6, qz, am_addE, am_subE, am_mulE, am_laddE, am_lsubE, am_upO, am_upS, am_stS, am_stO, am_tnn, am_brl, am_brg, am_bre, am_brn, am_brG, am_brL, am_st1, am_no2, am_st2, am_clr, and_self, true_and, and_true, true_or, or_true, List.length_cons, List.length_nil] <;> omega) ?_
      try simp (disch := omega) only [s124 hw, r124_15 hw, s127 hw, e6, qz, am_addE, am_subE, am_mulE, am_laddE, am_lsubE, am_upO, am_upS, am_stS, am_stO, am_tnn, am_brl, am_brg, am_bre, am_brn, am_brG, am_brL, am_st1, am_no2, am_st2, am_clr]
      refine am_wp_ret rfl rfl ?_
      exact h0 _ rfl K (frM_Q (frQ_tr fJ k0)) k1 k2
    · rw [kNew_3 n1 n2] at h0
      refine am_wp_go rfl (by simp (disch := omega) only [s124 hw, r124_15 hw, s127 hw, e6, qz, am_addE, am_subE, am_mulE, am_laddE, am_lsubE, am_upO, am_upS, am_stS, am_stO, am_tnn, am_brl, am_brg, am_bre, am_brn, am_brG, am_brL, am_st1, am_no2, am_st2, am_clr, and_self, true_and, and_true, true_or, or_true, List.length_cons, List.length_nil] <;> omega) ?_
      refine am_wp_pc (pc' := 46) rfl ?_
      refine am_wp_go rfl (by simp (disch := omega) only [s124 hw, r124_15 hw, s127 hw, e6, qz, am_addE, am_subE, am_mulE, am_laddE, am_lsubE, am_upO, am_upS, am_stS, am_stO, am_tnn, am_brl, am_brg, am_bre, am_brn, am_brG, am_brL, am_st1, am_no2, am_st2, am_clr, and_self, true_and, and_true, true_or, or_true, List.length_cons, List.length_nil] <;> omega) ?_
      try simp (disch := omega) only [s124 hw, r124_15 hw, s127 hw, e6, qz, am_addE, am_subE, am_mulE, am_laddE, am_lsubE, am_upO, am_upS, am_stS, am_stO, am_tnn, am_brl, am_brg, am_bre, am_brn, am_brG, am_brL, am_st1, am_no2, am_st2, am_clr]
      refine am_wp_ret rfl rfl ?_
      exact h0 _ rfl K (frM_Q (frQ_tr fJ k0)) k1 k2
    · rw [kNew_0 n1 n2] at h0 h1
      have aK : ∀ a, a ≠ 124 → a ≠ 131 → K a = I a := fun a a1 a2 => by rw [k0.1 a a1, am_upO a2, fJ.1 a a1]
      have K131 : K 131 = am_set (I 131) (8 + nG S.2.1) (nm27 (lxJ b n lim (S.1 + 1)).2.2.1 : Int) := by rw [k0.1 131 (by decide), am_upS, fJ.1 131 (by decide)]
      have fK : frM I K := ⟨fun a a1 _ a3 => aK a a1 a3, fun i hi => by rw [k0.2 i (by omega) (by omega) (by omega) (by omega) (by omega) (by omega), am_upO (by decide), fJ.2 i (by omega)]⟩
      have K10 : K 124 10 = I 124 10 := by rw [fr6_10 k0, am_upO (by decide), fr6_10 j0]
      have K24 : K 124 24 = I 124 24 := by rw [k0.2 24 (by decide) (by decide) (by decide) (by decide) (by decide) (by decide), am_upO (by decide), fJ.2 24 (by decide)]
      clear k0 j0 j1 fJ
      refine am_wp_go rfl (by simp (disch := omega) only [s124 hw, r124_15 hw, s127 hw, e6, qz, am_addE, am_subE, am_mulE, am_laddE, am_lsubE, am_upO, am_upS, am_stS, am_stO, am_tnn, am_brl, am_brg, am_bre, am_brn, am_brG, am_brL, am_st1, am_no2, am_st2, am_clr, and_self, true_and, and_true, true_or, or_true, List.length_cons, List.length_nil] <;> omega) ?_
      refine am_wp_pc (pc' := 35) rfl ?_
      refine am_wp_go rfl (by simp (disch := omega) only [s124 hw, qz, am_addE, am_subE, am_mulE, am_laddE, am_lsubE, am_upO, am_upS, am_stS, am_stO, am_tnn, am_brl, am_brg, am_bre, am_brn, am_brG, am_brL, am_st1, am_no2, am_st2, am_clr, and_self, true_and, and_true, true_or, or_true, List.length_cons, List.length_nil] <;> omega) ?_
      try simp (disch := omega) only [s124 hw, qz, am_addE, am_subE, am_mulE, am_laddE, am_lsubE, am_upO, am_upS, am_stS, am_stO, am_tnn, am_brl, am_brg, am_bre, am_brn, am_brG, am_brL, am_st1, am_no2, am_st2, am_clr]
      refine am_wp_cc rfl rfl rfl (congrArg Prod.fst (s124 hw)) (w_M_readNumber (a := 0) (c := 240) rfl rfl hw k3 (fun n1 V v0 v1 v2 => ⟨_, rfl, ?_⟩) (fun n1 l1 l2 V v0 v1 v2 v3 => ⟨_, rfl, ?_⟩))
      · rw [kN_0 (j := S.1 + 2) n1] at h0
        refine am_wp_go rfl (by simp (disch := omega) only [s124 hw, qz, am_addE, am_subE, am_mulE, am_laddE, am_lsubE, am_upO, am_upS, am_stS, am_stO, am_tnn, am_brl, am_brg, am_bre, am_brn, am_brG, am_brL, am_st1, am_no2, am_st2, am_clr, and_self, true_and, and_true, true_or, or_true, List.length_cons, List.length_nil] <;> omega) ?_
        refine am_wp_pc (pc' := 46) rfl ?_
        refine am_wp_go rfl (by simp (disch := omega) only [s124 hw, qz, am_addE, am_subE, am_mulE, am_laddE, am_lsubE, am_upO, am_upS, am_stS, am_stO, am_tnn, am_brl, am_brg, am_bre, am_brn, am_brG, am_brL, am_st1, am_no2, am_st2, am_clr, and_self, true_and, and_true, true_or, or_true, List.length_cons, List.length_nil] <;> omega) ?_
        try simp (disch := omega) only [s124 hw, qz, am_addE, am_subE, am_mulE, am_laddE, am_lsubE, am_upO, am_upS, am_stS, am_stO, am_tnn, am_brl, am_brg, am_bre, am_brn, am_brG, am_brL, am_st1, am_no2, am_st2, am_clr]
        refine am_wp_ret rfl rfl ?_
        exact h0 _ rfl V (frM_tr fK (frM_Q v0)) v1 v2
      · rw [kN_1 (j := S.1 + 2) n1] at h0 h1
        rw [show S.1 + 1 + 1 = S.1 + 2 from rfl] at v2 v3
        refine am_wp_go rfl (by simp (disch := omega) only [s124 hw, qz, am_addE, am_subE, am_mulE, am_laddE, am_lsubE, am_upO, am_upS, am_stS, am_stO, am_tnn, am_brl, am_brg, am_bre, am_brn, am_brG, am_brL, am_st1, am_no2, am_st2, am_clr, and_self, true_and, and_true, true_or, or_true, List.length_cons, List.length_nil] <;> omega) ?_
        refine am_wp_pc (pc' := 48) rfl ?_
        refine am_wp_go rfl (by simp (disch := omega) only [s124 hw, r124_15 hw, s127 hw, v2, am_tnA, am_tnM, Int.reduceToNat, am_addE, am_subE, am_mulE, am_laddE, am_lsubE, am_upO, am_upS, am_stS, am_stO, am_tnn, am_brl, am_brg, am_bre, am_brn, am_brG, am_brL, am_st1, am_no2, am_st2, am_clr, and_self, true_and, and_true, true_or, or_true, List.length_cons, List.length_nil] <;> omega) ?_
        try simp (disch := omega) only [s124 hw, r124_15 hw, s127 hw, v2, am_tnA, am_tnM, Int.reduceToNat, am_addE, am_subE, am_mulE, am_laddE, am_lsubE, am_upO, am_upS, am_stS, am_stO, am_tnn, am_brl, am_brg, am_bre, am_brn, am_brG, am_brL, am_st1, am_no2, am_st2, am_clr]
        refine am_wp_cc rfl rfl rfl (congrArg Prod.fst (s124 hw)) (w_M_readNumber (a := 0) (c := 99) rfl rfl hw (rpR_up v3 (Or.inl (by decide))) (fun n2 X x0 x1 x2 => ⟨_, rfl, ?_⟩) (fun n2 l3 l4 X x0 x1 x2 x3 => ⟨_, rfl, ?_⟩))
        · rw [kN_0 (j := S.1 + 3) n2] at h0
          refine am_wp_go rfl (by simp (disch := omega) only [s124 hw, r124_15 hw, s127 hw, v2, am_tnA, am_tnM, Int.reduceToNat, am_addE, am_subE, am_mulE, am_laddE, am_lsubE, am_upO, am_upS, am_stS, am_stO, am_tnn, am_brl, am_brg, am_bre, am_brn, am_brG, am_brL, am_st1, am_no2, am_st2, am_clr, and_self, true_and, and_true, true_or, or_true, List.length_cons, List.length_nil] <;> omega) ?_
          refine am_wp_pc (pc' := 73) rfl ?_
          refine am_wp_go rfl (by simp (disch := omega) only [s124 hw, r124_15 hw, s127 hw, v2, am_tnA, am_tnM, Int.reduceToNat, am_addE, am_subE, am_mulE, am_laddE, am_lsubE, am_upO, am_upS, am_stS, am_stO, am_tnn, am_brl, am_brg, am_bre, am_brn, am_brG, am_brL, am_st1, am_no2, am_st2, am_clr, and_self, true_and, and_true, true_or, or_true, List.length_cons, List.length_nil] <;> omega) ?_
          try simp (disch := omega) only [s124 hw, r124_15 hw, s127 hw, v2, am_tnA, am_tnM, Int.reduceToNat, am_addE, am_subE, am_mulE, am_laddE, am_lsubE, am_upO, am_upS, am_stS, am_stO, am_tnn, am_brl, am_brg, am_bre, am_brn, am_brG, am_brL, am_st1, am_no2, am_st2, am_clr]
          refine am_wp_ret rfl rfl ?_
          exact h0 _ rfl X (frM_tr (frM_up (frM_tr fK (frM_Q v0)) (by decide)) (frM_Q x0)) x1 x2
        · rw [kN_1 (j := S.1 + 3) n2] at h1
          rw [show S.1 + 2 + 1 = S.1 + 3 from rfl] at x2 x3
          have X127 : X 127 = am_set (I 127) (32 + 2 * nG S.2.1) ((lxJ b n lim (S.1 + 2)).2.2.2 : Int) := by rw [x0.1 127 (by decide), am_upS, v0.1 127 (by decide), aK 127 (by decide) (by decide)]
          have X6 : am_up X 127 (32 + 2 * nG S.2.1 + 1) ((lxJ b n lim (S.1 + 3)).2.2.2 : Int) 127 6 = (nG S.2.1 : Int) := by rw [am_upS, am_stO (by omega), X127, am_stO (by omega)]; exact e6
          have X131 : X 131 = am_set (I 131) (8 + nG S.2.1) (nm27 (lxJ b n lim (S.1 + 1)).2.2.1 : Int) := by rw [x0.1 131 (by decide), am_upO (by decide), v0.1 131 (by decide), K131]
          have eg : nG (kGuW S.2.1 ((lxJ b n lim (S.1 + 2)).2.2.2 : Int) ((lxJ b n lim (S.1 + 3)).2.2.2 : Int)) = nG S.2.1 + 1 := by unfold nG kGuW; rw [am_stS rfl]; unfold nG; omega
          have es : nS (kGuW S.2.1 ((lxJ b n lim (S.1 + 2)).2.2.2 : Int) ((lxJ b n lim (S.1 + 3)).2.2.2 : Int)) = nS S.2.1 := by unfold nS kGuW; rw [am_stO (by omega), am_stO (by omega), am_stO (by omega)]
          refine am_wp_go rfl (by simp (disch := omega) only [s124 hw, r124_15 hw, s127 hw, v2, am_tnA, am_tnM, Int.reduceToNat, am_addE, am_subE, am_mulE, am_laddE, am_lsubE, am_upO, am_upS, am_stS, am_stO, am_tnn, am_brl, am_brg, am_bre, am_brn, am_brG, am_brL, am_st1, am_no2, am_st2, am_clr, and_self, true_and, and_true, true_or, or_true, List.length_cons, List.length_nil] <;> omega) ?_
          refine am_wp_pc (pc' := 75) rfl ?_
          refine am_wp_go rfl (by simp (disch := omega) only [s124 hw, r124_15 hw, s127 hw, x2, am_tnA, am_tnM, am_tnn, Int.reduceToNat, am_mulE, am_addE, am_upO, and_self, true_and, and_true] <;> omega) ?_
          simp (disch := omega) only [s124 hw, r124_15 hw, s127 hw, x2, am_tnA, am_tnM, am_tnn, Int.reduceToNat, am_mulE, am_addE, X6]
          refine am_wp_ret rfl rfl ?_
          refine h1 _ rfl _ (frM_up (frM_up (frM_tr (frM_up (frM_tr fK (frM_Q v0)) (by decide)) (frM_Q x0)) (by decide)) (by decide)) (by rw [am_upO (by decide), am_upO (by decide), x1, am_upO (by decide), v1, K10]) ⟨?_, ?_, fun s hs => ?_, fun g hg => ?_, ?_⟩ (rpR_up (rpR_up x3 (Or.inl (by decide))) (Or.inl (by decide)))
          · dsimp only
            rw [am_upS, am_upS, X127]
            unfold kGuW
            exact set_cg (set_cg (set_cg r1))
          · rw [am_upO (by decide), am_upO (by decide), x0.2 24 (by decide), am_upO (by decide), v0.2 24 (by decide), K24]; exact r2
          · dsimp only at hs ⊢
            rw [es] at hs
            rw [am_upO (by decide), am_upO (by decide), X131, am_stO (by omega), am_stO (by omega)]; exact r3 s hs
          · dsimp only at hg ⊢
            rw [eg] at hg
            rw [am_upO (by decide), am_upO (by decide), X131]
            by_cases hgn : g = nG S.2.1
            · rw [am_stS (by omega), am_stS (by omega)]; exact ⟨lo, rfl⟩
            · rw [am_stO (by omega), am_stO (by omega)]; exact r4 g (by omega)
          · unfold wkm at r5 ⊢
            unfold kGuW
            dsimp only
            simp (disch := omega) only [am_stO, am_stS]
            omega
  · rw [if_pos (by omega)] at h0
    refine am_wp_go rfl (by simp (disch := omega) only [s124 hw, r124_15 hw, s127 hw, e6, Int.reduceToNat, am_addE, am_subE, am_mulE, am_laddE, am_lsubE, am_upO, am_upS, am_stS, am_stO, am_tnn, am_brl, am_brg, am_bre, am_brn, am_brG, am_brL, am_st1, am_no2, am_st2, am_clr, and_self, true_and, and_true, true_or, or_true, List.length_cons, List.length_nil] <;> omega) ?_
    try simp (disch := omega) only [s124 hw, r124_15 hw, s127 hw, e6, Int.reduceToNat, am_addE, am_subE, am_mulE, am_laddE, am_lsubE, am_upO, am_upS, am_stS, am_stO, am_tnn, am_brl, am_brg, am_bre, am_brn, am_brG, am_brL, am_st1, am_no2, am_st2, am_clr]
    refine am_wp_cc rfl rfl rfl (congrArg Prod.fst (s124 hw)) (w_M_bad' (k := 4) rfl hw hc (Or.inr (by omega)) (fun J j0 j1 j2 => ⟨_, rfl, ?_⟩))
    refine am_wp_ret rfl rfl ?_
    exact h0 _ rfl J (frM_Q j0) j1 j2
end RP
