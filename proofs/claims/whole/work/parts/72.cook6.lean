/-! COOKS: the reference's leaves -/
theorem row_W {V : Nat → Nat → Int} {W : Nat → Int} (hk : wk W) (hv : ∀ j, j < 58 → V 126 j = W j) : wk (V 126) ∧ nS (V 126) = nS W := ⟨wk_row hk hv, (nS_row hv).1⟩
theorem need_W {V : Nat → Nat → Int} {W : Nat → Int} (hk : wk W) (hv : ∀ j, j < 58 → V 126 j = W j) {s u : Nat} (hs : s < nS W) (hu : u < 2) : V 126 (8 + 3 * s + u) = (ndW W (2 * s + u) : Int) := by
  have n1 := wk_nS hk
  have := wkS_at hk.2.1 (s := s) (u := u) hs hu
  rw [hv _ (by omega)]
  unfold ndW
  rw [show (2 * s + u) / 2 = s by omega, show (2 * s + u) % 2 = u by omega]
  omega
section COOK
variable {m sl : Nat} {sh : Nat → Nat × Nat} {I : Nat → Nat → Int} {R : Nat → Nat → Nat} {Q : am_R → am_M → Prop} {d : Nat} {W : Nat → Int} {l f : Nat → Nat} {b nw : Nat → Int} {on t s : Nat} {r : Int} {G : List Go}
theorem w_M_hasLeft2 {x y : Nat} (hw : wd sh R) (hs : s < 8) (e1 : I 145 (2 * s) = (x : Int)) (e2 : I 145 (2 * s + 1) = (y : Int)) (hx : x ≤ 20) (hy : y ≤ 20) (h : Q (am_yi (am_b (0 < x + y))) (m, sl, sh, I, R)) : am_wp (d) 270 0 [some (.inr (.inr (124))), some (.inl ((s : Int)))] [] (m, sl, sh, I, R) Q := by
  refine am_wp_go rfl (by simp (disch := omega) only [s124 hw, r124_39 hw, s145 hw, e1, e2, am_tnA, am_tnM, Int.reduceToNat, am_addE, am_subE, am_mulE, am_laddE, am_lsubE, am_upO, am_upS, am_stS, am_stO, am_tnn, am_brl, am_brg, am_bre, am_brn, am_brG, am_brL, am_st1, am_no2, am_st2, am_clr, and_self, true_and, and_true, true_or, or_true, List.length_cons, List.length_nil] <;> omega) ?_
  try simp (disch := omega) only [s124 hw, r124_39 hw, s145 hw, e1, e2, am_tnA, am_tnM, Int.reduceToNat, am_addE, am_subE, am_mulE, am_laddE, am_lsubE, am_upO, am_upS, am_stS, am_stO, am_tnn, am_brl, am_brg, am_bre, am_brn, am_brG, am_brL, am_st1, am_no2, am_st2, am_clr]
  refine am_wp_br (fun b19 => ?_) (fun b19 => ?_)
  · refine am_wp_go rfl (by simp (disch := omega) only [s124 hw, r124_39 hw, s145 hw, e1, e2, am_tnA, am_tnM, Int.reduceToNat, am_addE, am_subE, am_mulE, am_laddE, am_lsubE, am_upO, am_upS, am_stS, am_stO, am_tnn, am_brl, am_brg, am_bre, am_brn, am_brG, am_brL, am_st1, am_no2, am_st2, am_clr, and_self, true_and, and_true, true_or, or_true, List.length_cons, List.length_nil] <;> omega) ?_
    try simp (disch := omega) only [s124 hw, r124_39 hw, s145 hw, e1, e2, am_tnA, am_tnM, Int.reduceToNat, am_addE, am_subE, am_mulE, am_laddE, am_lsubE, am_upO, am_upS, am_stS, am_stO, am_tnn, am_brl, am_brg, am_bre, am_brn, am_brG, am_brL, am_st1, am_no2, am_st2, am_clr]
    refine am_wp_ret rfl rfl ?_
    rwa [am_bF (by omega)] at h
  · refine am_wp_go rfl (by simp (disch := omega) only [s124 hw, r124_39 hw, s145 hw, e1, e2, am_tnA, am_tnM, Int.reduceToNat, am_addE, am_subE, am_mulE, am_laddE, am_lsubE, am_upO, am_upS, am_stS, am_stO, am_tnn, am_brl, am_brg, am_bre, am_brn, am_brG, am_brL, am_st1, am_no2, am_st2, am_clr, and_self, true_and, and_true, true_or, or_true, List.length_cons, List.length_nil] <;> omega) ?_
    try simp (disch := omega) only [s124 hw, r124_39 hw, s145 hw, e1, e2, am_tnA, am_tnM, Int.reduceToNat, am_addE, am_subE, am_mulE, am_laddE, am_lsubE, am_upO, am_upS, am_stS, am_stO, am_tnn, am_brl, am_brg, am_bre, am_brn, am_brG, am_brL, am_st1, am_no2, am_st2, am_clr]
    refine am_wp_ret rfl rfl ?_
    rwa [am_bT (by omega)] at h
theorem w_M_sideOf (hw : wd sh R) (hk : wk W) (hv : ∀ j, j < 58 → I 126 j = W j) (hs : s < nS W) (e1 : I 145 (2 * s) = (l (2 * s) : Int)) (e2 : I 145 (2 * s + 1) = (l (2 * s + 1) : Int)) (hB : 0 < l (2 * s) → l (2 * s + 1) = ndW W (2 * s + 1)) (h : Q (am_yi (ckS l s % 2 : Nat)) (m, sl, sh, I, R)) : am_wp (d + 1) 271 0 [some (.inr (.inr (124))), some (.inl ((s : Int))), none] [] (m, sl, sh, I, R) Q := by
  have n1 := wk_nS hk
  have e3 := need_W hk hv (u := 0) hs (by decide)
  have e4 := need_W hk hv (u := 1) hs (by decide)
  rw [Nat.add_zero] at e3
  rw [Nat.add_zero] at e3
  unfold ckS at h
  have E : am_wp (d + 1) 271 2 [some (.inr (.inr (124))), some (.inl ((s : Int))), some (.inl (2))] [] (m, sl, sh, I, R) Q := by
    refine am_wp_go rfl (by simp (disch := omega) only [s124 hw, r124_39 hw, s145 hw, e1, e2, Int.reduceToNat, am_tnA, am_tnM, Int.add_zero, Nat.add_zero, am_addE, am_subE, am_mulE, am_laddE, am_lsubE, am_upO, am_upS, am_stS, am_stO, am_tnn, am_brl, am_brg, am_bre, am_brn, am_brG, am_brL, am_st1, am_no2, am_st2, am_clr, and_self, true_and, and_true, true_or, or_true, List.length_cons, List.length_nil] <;> omega) ?_
    refine am_wp_pc (pc' := 47) rfl ?_
    refine am_wp_go rfl (by simp (disch := omega) only [s124 hw, r124_39 hw, s145 hw, e1, e2, Int.reduceToNat, am_tnA, am_tnM, Int.add_zero, Nat.add_zero, am_addE, am_subE, am_mulE, am_laddE, am_lsubE, am_upO, am_upS, am_stS, am_stO, am_tnn, am_brl, am_brg, am_bre, am_brn, am_brG, am_brL, am_st1, am_no2, am_st2, am_clr, and_self, true_and, and_true, true_or, or_true, List.length_cons, List.length_nil] <;> omega) ?_
    try simp (disch := omega) only [s124 hw, r124_39 hw, s145 hw, e1, e2, Int.reduceToNat, am_tnA, am_tnM, Int.add_zero, Nat.add_zero, am_addE, am_subE, am_mulE, am_laddE, am_lsubE, am_upO, am_upS, am_stS, am_stO, am_tnn, am_brl, am_brg, am_bre, am_brn, am_brG, am_brL, am_st1, am_no2, am_st2, am_clr]
    refine am_wp_br (fun b55 => ?_) (fun b55 => ?_)
    · refine am_wp_go rfl (by simp (disch := omega) only [s124 hw, r124_39 hw, s145 hw, e1, e2, Int.reduceToNat, am_tnA, am_tnM, Int.add_zero, Nat.add_zero, am_addE, am_subE, am_mulE, am_laddE, am_lsubE, am_upO, am_upS, am_stS, am_stO, am_tnn, am_brl, am_brg, am_bre, am_brn, am_brG, am_brL, am_st1, am_no2, am_st2, am_clr, and_self, true_and, and_true, true_or, or_true, List.length_cons, List.length_nil] <;> omega) ?_
      try simp (disch := omega) only [s124 hw, r124_39 hw, s145 hw, e1, e2, Int.reduceToNat, am_tnA, am_tnM, Int.add_zero, Nat.add_zero, am_addE, am_subE, am_mulE, am_laddE, am_lsubE, am_upO, am_upS, am_stS, am_stO, am_tnn, am_brl, am_brg, am_bre, am_brn, am_brG, am_brL, am_st1, am_no2, am_st2, am_clr]
      refine am_wp_ret rfl rfl ?_
      rwa [if_neg (by omega), show (2 * s + 1) % 2 = 1 by omega] at h
    · refine am_wp_go rfl (by simp (disch := omega) only [s124 hw, r124_39 hw, s145 hw, e1, e2, Int.reduceToNat, am_tnA, am_tnM, Int.add_zero, Nat.add_zero, am_addE, am_subE, am_mulE, am_laddE, am_lsubE, am_upO, am_upS, am_stS, am_stO, am_tnn, am_brl, am_brg, am_bre, am_brn, am_brG, am_brL, am_st1, am_no2, am_st2, am_clr, and_self, true_and, and_true, true_or, or_true, List.length_cons, List.length_nil] <;> omega) ?_
      try simp (disch := omega) only [s124 hw, r124_39 hw, s145 hw, e1, e2, Int.reduceToNat, am_tnA, am_tnM, Int.add_zero, Nat.add_zero, am_addE, am_subE, am_mulE, am_laddE, am_lsubE, am_upO, am_upS, am_stS, am_stO, am_tnn, am_brl, am_brg, am_bre, am_brn, am_brG, am_brL, am_st1, am_no2, am_st2, am_clr]
      refine am_wp_ret rfl rfl ?_
      rwa [if_pos (by omega), show (2 * s) % 2 = 0 by omega] at h
  have E2 : am_wp (d + 1) 271 2 [some (.inr (.inr (124))), some (.inl ((s : Int))), some (.inl (1))] [] (m, sl, sh, I, R) Q := by
    refine am_wp_go rfl (by simp (disch := omega) only [s124 hw, r124_39 hw, s145 hw, e1, e2, Int.reduceToNat, am_tnA, am_tnM, Int.add_zero, Nat.add_zero, am_addE, am_subE, am_mulE, am_laddE, am_lsubE, am_upO, am_upS, am_stS, am_stO, am_tnn, am_brl, am_brg, am_bre, am_brn, am_brG, am_brL, am_st1, am_no2, am_st2, am_clr, and_self, true_and, and_true, true_or, or_true, List.length_cons, List.length_nil] <;> omega) ?_
    refine am_wp_pc (pc' := 7) rfl ?_
    refine am_wp_go rfl (by simp (disch := omega) only [s124 hw, r124_39 hw, s145 hw, e1, e2, Int.reduceToNat, am_tnA, am_tnM, Int.add_zero, Nat.add_zero, am_addE, am_subE, am_mulE, am_laddE, am_lsubE, am_upO, am_upS, am_stS, am_stO, am_tnn, am_brl, am_brg, am_bre, am_brn, am_brG, am_brL, am_st1, am_no2, am_st2, am_clr, and_self, true_and, and_true, true_or, or_true, List.length_cons, List.length_nil] <;> omega) ?_
    try simp (disch := omega) only [s124 hw, r124_39 hw, s145 hw, e1, e2, Int.reduceToNat, am_tnA, am_tnM, Int.add_zero, Nat.add_zero, am_addE, am_subE, am_mulE, am_laddE, am_lsubE, am_upO, am_upS, am_stS, am_stO, am_tnn, am_brl, am_brg, am_bre, am_brn, am_brG, am_brL, am_st1, am_no2, am_st2, am_clr]
    refine am_wp_br (fun b17 => ?_) (fun b17 => ?_)
    · refine am_wp_go rfl (by simp (disch := omega) only [s124 hw, r124_39 hw, s145 hw, e1, e2, Int.reduceToNat, am_tnA, am_tnM, Int.add_zero, Nat.add_zero, am_addE, am_subE, am_mulE, am_laddE, am_lsubE, am_upO, am_upS, am_stS, am_stO, am_tnn, am_brl, am_brg, am_bre, am_brn, am_brG, am_brL, am_st1, am_no2, am_st2, am_clr, and_self, true_and, and_true, true_or, or_true, List.length_cons, List.length_nil] <;> omega) ?_
      try simp (disch := omega) only [s124 hw, r124_39 hw, s145 hw, e1, e2, Int.reduceToNat, am_tnA, am_tnM, Int.add_zero, Nat.add_zero, am_addE, am_subE, am_mulE, am_laddE, am_lsubE, am_upO, am_upS, am_stS, am_stO, am_tnn, am_brl, am_brg, am_bre, am_brn, am_brG, am_brL, am_st1, am_no2, am_st2, am_clr]
      exact am_wp_ls E rfl
    · refine am_wp_go rfl (by simp (disch := omega) only [s124 hw, r124_39 hw, s145 hw, e1, e2, Int.reduceToNat, am_tnA, am_tnM, Int.add_zero, Nat.add_zero, am_addE, am_subE, am_mulE, am_laddE, am_lsubE, am_upO, am_upS, am_stS, am_stO, am_tnn, am_brl, am_brg, am_bre, am_brn, am_brG, am_brL, am_st1, am_no2, am_st2, am_clr, and_self, true_and, and_true, true_or, or_true, List.length_cons, List.length_nil] <;> omega) ?_
      try simp (disch := omega) only [s124 hw, r124_39 hw, s145 hw, e1, e2, Int.reduceToNat, am_tnA, am_tnM, Int.add_zero, Nat.add_zero, am_addE, am_subE, am_mulE, am_laddE, am_lsubE, am_upO, am_upS, am_stS, am_stO, am_tnn, am_brl, am_brg, am_bre, am_brn, am_brG, am_brL, am_st1, am_no2, am_st2, am_clr]
      refine am_wp_cc rfl rfl rfl (congrArg Prod.fst (s124 hw)) (w_M_needs1 (s := s) hw (by omega) ⟨_, rfl, ?_⟩)
      rw [e4]
      refine am_wp_go rfl (by simp (disch := omega) only [s124 hw, r124_39 hw, s145 hw, e1, e2, Int.reduceToNat, am_tnA, am_tnM, Int.add_zero, Nat.add_zero, am_addE, am_subE, am_mulE, am_laddE, am_lsubE, am_upO, am_upS, am_stS, am_stO, am_tnn, am_brl, am_brg, am_bre, am_brn, am_brG, am_brL, am_st1, am_no2, am_st2, am_clr, and_self, true_and, and_true, true_or, or_true, List.length_cons, List.length_nil] <;> omega) ?_
      try simp (disch := omega) only [s124 hw, r124_39 hw, s145 hw, e1, e2, Int.reduceToNat, am_tnA, am_tnM, Int.add_zero, Nat.add_zero, am_addE, am_subE, am_mulE, am_laddE, am_lsubE, am_upO, am_upS, am_stS, am_stO, am_tnn, am_brl, am_brg, am_bre, am_brn, am_brG, am_brL, am_st1, am_no2, am_st2, am_clr]
      refine am_wp_br (fun b36 => ?_) (fun b36 => ?_)
      · refine am_wp_go rfl (by simp (disch := omega) only [s124 hw, r124_39 hw, s145 hw, e1, e2, Int.reduceToNat, am_tnA, am_tnM, Int.add_zero, Nat.add_zero, am_addE, am_subE, am_mulE, am_laddE, am_lsubE, am_upO, am_upS, am_stS, am_stO, am_tnn, am_brl, am_brg, am_bre, am_brn, am_brG, am_brL, am_st1, am_no2, am_st2, am_clr, and_self, true_and, and_true, true_or, or_true, List.length_cons, List.length_nil] <;> omega) ?_
        try simp (disch := omega) only [s124 hw, r124_39 hw, s145 hw, e1, e2, Int.reduceToNat, am_tnA, am_tnM, Int.add_zero, Nat.add_zero, am_addE, am_subE, am_mulE, am_laddE, am_lsubE, am_upO, am_upS, am_stS, am_stO, am_tnn, am_brl, am_brg, am_bre, am_brn, am_brG, am_brL, am_st1, am_no2, am_st2, am_clr]
        exact am_wp_ls E rfl
      · refine am_wp_go rfl (by simp (disch := omega) only [s124 hw, r124_39 hw, s145 hw, e1, e2, Int.reduceToNat, am_tnA, am_tnM, Int.add_zero, Nat.add_zero, am_addE, am_subE, am_mulE, am_laddE, am_lsubE, am_upO, am_upS, am_stS, am_stO, am_tnn, am_brl, am_brg, am_bre, am_brn, am_brG, am_brL, am_st1, am_no2, am_st2, am_clr, and_self, true_and, and_true, true_or, or_true, List.length_cons, List.length_nil] <;> omega) ?_
        try simp (disch := omega) only [s124 hw, r124_39 hw, s145 hw, e1, e2, Int.reduceToNat, am_tnA, am_tnM, Int.add_zero, Nat.add_zero, am_addE, am_subE, am_mulE, am_laddE, am_lsubE, am_upO, am_upS, am_stS, am_stO, am_tnn, am_brl, am_brg, am_bre, am_brn, am_brG, am_brL, am_st1, am_no2, am_st2, am_clr]
        refine am_wp_ret rfl rfl ?_
        rwa [if_neg (fun hc => by have := hB hc; omega), show (2 * s + 1) % 2 = 1 by omega] at h
  clear hB
  refine am_wp_go rfl (by simp (disch := omega) only [s124 hw, r124_39 hw, s145 hw, e1, e2, Int.reduceToNat, am_tnA, am_tnM, Int.add_zero, Nat.add_zero, am_addE, am_subE, am_mulE, am_laddE, am_lsubE, am_upO, am_upS, am_stS, am_stO, am_tnn, am_brl, am_brg, am_bre, am_brn, am_brG, am_brL, am_st1, am_no2, am_st2, am_clr, and_self, true_and, and_true, true_or, or_true, List.length_cons, List.length_nil] <;> omega) ?_
  try simp (disch := omega) only [s124 hw, r124_39 hw, s145 hw, e1, e2, Int.reduceToNat, am_tnA, am_tnM, Int.add_zero, Nat.add_zero, am_addE, am_subE, am_mulE, am_laddE, am_lsubE, am_upO, am_upS, am_stS, am_stO, am_tnn, am_brl, am_brg, am_bre, am_brn, am_brG, am_brL, am_st1, am_no2, am_st2, am_clr]
  refine am_wp_go rfl (by simp (disch := omega) only [s124 hw, r124_39 hw, s145 hw, e1, e2, Int.reduceToNat, am_tnA, am_tnM, Int.add_zero, Nat.add_zero, am_addE, am_subE, am_mulE, am_laddE, am_lsubE, am_upO, am_upS, am_stS, am_stO, am_tnn, am_brl, am_brg, am_bre, am_brn, am_brG, am_brL, am_st1, am_no2, am_st2, am_clr, and_self, true_and, and_true, true_or, or_true, List.length_cons, List.length_nil] <;> omega) ?_
  refine am_wp_pc (pc' := 7) rfl ?_
  refine am_wp_go rfl (by simp (disch := omega) only [s124 hw, r124_39 hw, s145 hw, e1, e2, Int.reduceToNat, am_tnA, am_tnM, Int.add_zero, Nat.add_zero, am_addE, am_subE, am_mulE, am_laddE, am_lsubE, am_upO, am_upS, am_stS, am_stO, am_tnn, am_brl, am_brg, am_bre, am_brn, am_brG, am_brL, am_st1, am_no2, am_st2, am_clr, and_self, true_and, and_true, true_or, or_true, List.length_cons, List.length_nil] <;> omega) ?_
  try simp (disch := omega) only [s124 hw, r124_39 hw, s145 hw, e1, e2, Int.reduceToNat, am_tnA, am_tnM, Int.add_zero, Nat.add_zero, am_addE, am_subE, am_mulE, am_laddE, am_lsubE, am_upO, am_upS, am_stS, am_stO, am_tnn, am_brl, am_brg, am_bre, am_brn, am_brG, am_brL, am_st1, am_no2, am_st2, am_clr]
  refine am_wp_br (fun b17 => ?_) (fun b17 => ?_)
  · refine am_wp_go rfl (by simp (disch := omega) only [s124 hw, r124_39 hw, s145 hw, e1, e2, Int.reduceToNat, am_tnA, am_tnM, Int.add_zero, Nat.add_zero, am_addE, am_subE, am_mulE, am_laddE, am_lsubE, am_upO, am_upS, am_stS, am_stO, am_tnn, am_brl, am_brg, am_bre, am_brn, am_brG, am_brL, am_st1, am_no2, am_st2, am_clr, and_self, true_and, and_true, true_or, or_true, List.length_cons, List.length_nil] <;> omega) ?_
    try simp (disch := omega) only [s124 hw, r124_39 hw, s145 hw, e1, e2, Int.reduceToNat, am_tnA, am_tnM, Int.add_zero, Nat.add_zero, am_addE, am_subE, am_mulE, am_laddE, am_lsubE, am_upO, am_upS, am_stS, am_stO, am_tnn, am_brl, am_brg, am_bre, am_brn, am_brG, am_brL, am_st1, am_no2, am_st2, am_clr]
    exact am_wp_ls E2 rfl
  · refine am_wp_go rfl (by simp (disch := omega) only [s124 hw, r124_39 hw, s145 hw, e1, e2, Int.reduceToNat, am_tnA, am_tnM, Int.add_zero, Nat.add_zero, am_addE, am_subE, am_mulE, am_laddE, am_lsubE, am_upO, am_upS, am_stS, am_stO, am_tnn, am_brl, am_brg, am_bre, am_brn, am_brG, am_brL, am_st1, am_no2, am_st2, am_clr, and_self, true_and, and_true, true_or, or_true, List.length_cons, List.length_nil] <;> omega) ?_
    try simp (disch := omega) only [s124 hw, r124_39 hw, s145 hw, e1, e2, Int.reduceToNat, am_tnA, am_tnM, Int.add_zero, Nat.add_zero, am_addE, am_subE, am_mulE, am_laddE, am_lsubE, am_upO, am_upS, am_stS, am_stO, am_tnn, am_brl, am_brg, am_bre, am_brn, am_brG, am_brL, am_st1, am_no2, am_st2, am_clr]
    refine am_wp_cc rfl rfl rfl (congrArg Prod.fst (s124 hw)) (w_M_needs0 (s := s) hw (by omega) ⟨_, rfl, ?_⟩)
    rw [e3]
    refine am_wp_go rfl (by simp (disch := omega) only [s124 hw, r124_39 hw, s145 hw, e1, e2, Int.reduceToNat, am_tnA, am_tnM, Int.add_zero, Nat.add_zero, am_addE, am_subE, am_mulE, am_laddE, am_lsubE, am_upO, am_upS, am_stS, am_stO, am_tnn, am_brl, am_brg, am_bre, am_brn, am_brG, am_brL, am_st1, am_no2, am_st2, am_clr, and_self, true_and, and_true, true_or, or_true, List.length_cons, List.length_nil] <;> omega) ?_
    try simp (disch := omega) only [s124 hw, r124_39 hw, s145 hw, e1, e2, Int.reduceToNat, am_tnA, am_tnM, Int.add_zero, Nat.add_zero, am_addE, am_subE, am_mulE, am_laddE, am_lsubE, am_upO, am_upS, am_stS, am_stO, am_tnn, am_brl, am_brg, am_bre, am_brn, am_brG, am_brL, am_st1, am_no2, am_st2, am_clr]
    refine am_wp_br (fun b36 => ?_) (fun b36 => ?_)
    · refine am_wp_go rfl (by simp (disch := omega) only [s124 hw, r124_39 hw, s145 hw, e1, e2, Int.reduceToNat, am_tnA, am_tnM, Int.add_zero, Nat.add_zero, am_addE, am_subE, am_mulE, am_laddE, am_lsubE, am_upO, am_upS, am_stS, am_stO, am_tnn, am_brl, am_brg, am_bre, am_brn, am_brG, am_brL, am_st1, am_no2, am_st2, am_clr, and_self, true_and, and_true, true_or, or_true, List.length_cons, List.length_nil] <;> omega) ?_
      try simp (disch := omega) only [s124 hw, r124_39 hw, s145 hw, e1, e2, Int.reduceToNat, am_tnA, am_tnM, Int.add_zero, Nat.add_zero, am_addE, am_subE, am_mulE, am_laddE, am_lsubE, am_upO, am_upS, am_stS, am_stO, am_tnn, am_brl, am_brg, am_bre, am_brn, am_brG, am_brL, am_st1, am_no2, am_st2, am_clr]
      exact am_wp_ls E2 rfl
    · refine am_wp_go rfl (by simp (disch := omega) only [s124 hw, r124_39 hw, s145 hw, e1, e2, Int.reduceToNat, am_tnA, am_tnM, Int.add_zero, Nat.add_zero, am_addE, am_subE, am_mulE, am_laddE, am_lsubE, am_upO, am_upS, am_stS, am_stO, am_tnn, am_brl, am_brg, am_bre, am_brn, am_brG, am_brL, am_st1, am_no2, am_st2, am_clr, and_self, true_and, and_true, true_or, or_true, List.length_cons, List.length_nil] <;> omega) ?_
      try simp (disch := omega) only [s124 hw, r124_39 hw, s145 hw, e1, e2, Int.reduceToNat, am_tnA, am_tnM, Int.add_zero, Nat.add_zero, am_addE, am_subE, am_mulE, am_laddE, am_lsubE, am_upO, am_upS, am_stS, am_stO, am_tnn, am_brl, am_brg, am_bre, am_brn, am_brG, am_brL, am_st1, am_no2, am_st2, am_clr]
      refine am_wp_ret rfl rfl ?_
      rwa [if_pos (by omega), show (2 * s) % 2 = 0 by omega] at h
theorem w_M_isRested (hw : wd sh R) (hk : wk W) (hv : ∀ j, j < 58 → I 126 j = W j) (hs : s < nS W) (e1 : I 145 (2 * s) = (l (2 * s) : Int)) (e2 : I 145 (2 * s + 1) = (l (2 * s + 1) : Int)) (ln : l (2 * s) ≤ ndW W (2 * s) ∧ l (2 * s + 1) ≤ ndW W (2 * s + 1)) (hB : 0 < l (2 * s) → l (2 * s + 1) = ndW W (2 * s + 1)) (a1 : l (2 * s + 1) = ndW W (2 * s + 1) → I 147 (2 * s + 1) = -1) (a2 : l (2 * s) = 0 → l (2 * s + 1) = ndW W (2 * s + 1) → I 147 (2 * s) = (f s : Int) - 1 ∧ 1 ≤ f s) (hf : f s ≤ 2000) (ht : t ≤ 2000) (hl : 0 < l (2 * s) + l (2 * s + 1)) (h : Q (am_yi (am_b (¬ (l (2 * s) = 0 ∧ l (2 * s + 1) = ndW W (2 * s + 1)) ∨ f s + (W 1).toNat ≤ t))) (m, sl, sh, I, R)) : am_wp (d + 2) 272 0 [some (.inr (.inr (124))), some (.inl ((s : Int))), some (.inl ((t : Int))), none, none] [] (m, sl, sh, I, R) Q := by
  have n1 := wk_nS hk
  have e3 := need_W hk hv (u := 0) hs (by decide)
  have e4 := need_W hk hv (u := 1) hs (by decide)
  rw [Nat.add_zero] at e3
  rw [Nat.add_zero] at e3
  have e5 : I 126 1 = ((W 1).toNat : Int) := by rw [hv 1 (by decide)]; obtain ⟨w1, w2, w3, w4, -⟩ := hk.1; omega
  have w5 : (W 1).toNat ≤ 9 := by obtain ⟨w1, w2, w3, w4, -⟩ := hk.1; omega
  refine am_wp_go rfl (by simp (disch := omega) only [am_addE, am_subE, am_mulE, am_laddE, am_lsubE, am_upO, am_upS, am_stS, am_stO, am_tnn, am_brl, am_brg, am_bre, am_brn, am_brG, am_brL, am_st1, am_no2, am_st2, am_clr, and_self, true_and, and_true, true_or, or_true, List.length_cons, List.length_nil] <;> omega) ?_
  try simp (disch := omega) only [am_addE, am_subE, am_mulE, am_laddE, am_lsubE, am_upO, am_upS, am_stS, am_stO, am_tnn, am_brl, am_brg, am_bre, am_brn, am_brG, am_brL, am_st1, am_no2, am_st2, am_clr]
  refine am_wp_cc rfl rfl rfl (congrArg Prod.fst (s124 hw)) (w_M_sideOf (l := l) hw hk hv hs e1 e2 hB ⟨_, rfl, ?_⟩)
  have eS : ckS l s % 2 = (if 0 < l (2 * s) then 2 * s else 2 * s + 1) % 2 := rfl
  by_cases hp : 0 < l (2 * s)
  · rw [if_pos hp, show (2 * s) % 2 = 0 by omega] at eS
    rw [eS]
    have b1 := hB hp
    have b2 := a1 b1
    clear hB a1 a2
    refine am_wp_go rfl (by simp (disch := omega) only [s124 hw, r124_39 hw, s145 hw, r124_42 hw, s147 hw, e1, b2, Int.reduceToNat, am_tnA, am_tnM, Int.add_zero, Nat.add_zero, Int.natCast_zero, Int.sub_zero, am_addE, am_subE, am_mulE, am_laddE, am_lsubE, am_upO, am_upS, am_stS, am_stO, am_tnn, am_brl, am_brg, am_bre, am_brn, am_brG, am_brL, am_st1, am_no2, am_st2, am_clr, and_self, true_and, and_true, true_or, or_true, List.length_cons, List.length_nil] <;> omega) ?_
    try simp (disch := omega) only [s124 hw, r124_39 hw, s145 hw, r124_42 hw, s147 hw, e1, b2, Int.reduceToNat, am_tnA, am_tnM, Int.add_zero, Nat.add_zero, Int.natCast_zero, Int.sub_zero, am_addE, am_subE, am_mulE, am_laddE, am_lsubE, am_upO, am_upS, am_stS, am_stO, am_tnn, am_brl, am_brg, am_bre, am_brn, am_brG, am_brL, am_st1, am_no2, am_st2, am_clr]
    refine am_wp_cc rfl rfl rfl (congrArg Prod.fst (s124 hw)) (w_M_needs0 (s := s) hw (by omega) ⟨_, rfl, ?_⟩)
    rw [e3]
    refine am_wp_go rfl (by simp (disch := omega) only [s124 hw, r124_39 hw, s145 hw, r124_42 hw, s147 hw, e1, b2, Int.reduceToNat, am_tnA, am_tnM, Int.add_zero, Nat.add_zero, Int.natCast_zero, Int.sub_zero, am_addE, am_subE, am_mulE, am_laddE, am_lsubE, am_upO, am_upS, am_stS, am_stO, am_tnn, am_brl, am_brg, am_bre, am_brn, am_brG, am_brL, am_st1, am_no2, am_st2, am_clr, and_self, true_and, and_true, true_or, or_true, List.length_cons, List.length_nil] <;> omega) ?_
    try simp (disch := omega) only [s124 hw, r124_39 hw, s145 hw, r124_42 hw, s147 hw, e1, b2, Int.reduceToNat, am_tnA, am_tnM, Int.add_zero, Nat.add_zero, Int.natCast_zero, Int.sub_zero, am_addE, am_subE, am_mulE, am_laddE, am_lsubE, am_upO, am_upS, am_stS, am_stO, am_tnn, am_brl, am_brg, am_bre, am_brn, am_brG, am_brL, am_st1, am_no2, am_st2, am_clr]
    refine am_wp_br (fun b31 => ?_) (fun b31 => ?_)
    · refine am_wp_go rfl (by simp (disch := omega) only [s124 hw, r124_39 hw, s145 hw, r124_42 hw, s147 hw, e1, b2, Int.reduceToNat, am_tnA, am_tnM, Int.add_zero, Nat.add_zero, Int.natCast_zero, Int.sub_zero, am_addE, am_subE, am_mulE, am_laddE, am_lsubE, am_upO, am_upS, am_stS, am_stO, am_tnn, am_brl, am_brg, am_bre, am_brn, am_brG, am_brL, am_st1, am_no2, am_st2, am_clr, and_self, true_and, and_true, true_or, or_true, List.length_cons, List.length_nil] <;> omega) ?_
      try simp (disch := omega) only [s124 hw, r124_39 hw, s145 hw, r124_42 hw, s147 hw, e1, b2, Int.reduceToNat, am_tnA, am_tnM, Int.add_zero, Nat.add_zero, Int.natCast_zero, Int.sub_zero, am_addE, am_subE, am_mulE, am_laddE, am_lsubE, am_upO, am_upS, am_stS, am_stO, am_tnn, am_brl, am_brg, am_bre, am_brn, am_brG, am_brL, am_st1, am_no2, am_st2, am_clr]
      refine am_wp_ret rfl rfl ?_
      rwa [am_bT (by omega)] at h
    · refine am_wp_go rfl (by simp (disch := omega) only [s124 hw, r124_39 hw, s145 hw, r124_42 hw, s147 hw, e1, b2, Int.reduceToNat, am_tnA, am_tnM, Int.add_zero, Nat.add_zero, Int.natCast_zero, Int.sub_zero, am_addE, am_subE, am_mulE, am_laddE, am_lsubE, am_upO, am_upS, am_stS, am_stO, am_tnn, am_brl, am_brg, am_bre, am_brn, am_brG, am_brL, am_st1, am_no2, am_st2, am_clr, and_self, true_and, and_true, true_or, or_true, List.length_cons, List.length_nil] <;> omega) ?_
      try simp (disch := omega) only [s124 hw, r124_39 hw, s145 hw, r124_42 hw, s147 hw, e1, b2, Int.reduceToNat, am_tnA, am_tnM, Int.add_zero, Nat.add_zero, Int.natCast_zero, Int.sub_zero, am_addE, am_subE, am_mulE, am_laddE, am_lsubE, am_upO, am_upS, am_stS, am_stO, am_tnn, am_brl, am_brg, am_bre, am_brn, am_brG, am_brL, am_st1, am_no2, am_st2, am_clr]
      refine am_wp_br (fun b42 => ?_) (fun b42 => ?_)
      · refine am_wp_go rfl (by simp (disch := omega) only [s124 hw, r124_39 hw, s145 hw, r124_42 hw, s147 hw, e1, b2, Int.reduceToNat, am_tnA, am_tnM, Int.add_zero, Nat.add_zero, Int.natCast_zero, Int.sub_zero, am_addE, am_subE, am_mulE, am_laddE, am_lsubE, am_upO, am_upS, am_stS, am_stO, am_tnn, am_brl, am_brg, am_bre, am_brn, am_brG, am_brL, am_st1, am_no2, am_st2, am_clr, and_self, true_and, and_true, true_or, or_true, List.length_cons, List.length_nil] <;> omega) ?_
        try simp (disch := omega) only [s124 hw, r124_39 hw, s145 hw, r124_42 hw, s147 hw, e1, b2, Int.reduceToNat, am_tnA, am_tnM, Int.add_zero, Nat.add_zero, Int.natCast_zero, Int.sub_zero, am_addE, am_subE, am_mulE, am_laddE, am_lsubE, am_upO, am_upS, am_stS, am_stO, am_tnn, am_brl, am_brg, am_bre, am_brn, am_brG, am_brL, am_st1, am_no2, am_st2, am_clr]
        refine am_wp_ret rfl rfl ?_
        rwa [am_bT (by omega)] at h
      · first | omega | exact absurd trivial b42 | exact absurd rfl b42
  · rw [if_neg hp, show (2 * s + 1) % 2 = 1 by omega] at eS
    rw [eS]
    have q1 : (2 : Int) * (s : Int) + 1 - 1 = 2 * (s : Int) := by omega
    by_cases hn : l (2 * s + 1) = ndW W (2 * s + 1)
    · obtain ⟨b2, b3⟩ := a2 (by omega) hn
      clear hB a1 a2
      refine am_wp_go rfl (by simp (disch := omega) only [s124 hw, r124_39 hw, s145 hw, r124_42 hw, s147 hw, r124_14 hw, s126 hw, e2, b2, e5, Int.reduceToNat, am_tnA, am_tnM, Int.natCast_one, q1, am_addE, am_subE, am_mulE, am_laddE, am_lsubE, am_upO, am_upS, am_stS, am_stO, am_tnn, am_brl, am_brg, am_bre, am_brn, am_brG, am_brL, am_st1, am_no2, am_st2, am_clr, and_self, true_and, and_true, true_or, or_true, List.length_cons, List.length_nil] <;> omega) ?_
      try simp (disch := omega) only [s124 hw, r124_39 hw, s145 hw, r124_42 hw, s147 hw, r124_14 hw, s126 hw, e2, b2, e5, Int.reduceToNat, am_tnA, am_tnM, Int.natCast_one, q1, am_addE, am_subE, am_mulE, am_laddE, am_lsubE, am_upO, am_upS, am_stS, am_stO, am_tnn, am_brl, am_brg, am_bre, am_brn, am_brG, am_brL, am_st1, am_no2, am_st2, am_clr]
      refine am_wp_cc rfl rfl rfl (congrArg Prod.fst (s124 hw)) (w_M_needs1 (s := s) hw (by omega) ⟨_, rfl, ?_⟩)
      rw [e4]
      refine am_wp_go rfl (by simp (disch := omega) only [s124 hw, r124_39 hw, s145 hw, r124_42 hw, s147 hw, r124_14 hw, s126 hw, e2, b2, e5, Int.reduceToNat, am_tnA, am_tnM, Int.natCast_one, q1, am_addE, am_subE, am_mulE, am_laddE, am_lsubE, am_upO, am_upS, am_stS, am_stO, am_tnn, am_brl, am_brg, am_bre, am_brn, am_brG, am_brL, am_st1, am_no2, am_st2, am_clr, and_self, true_and, and_true, true_or, or_true, List.length_cons, List.length_nil] <;> omega) ?_
      try simp (disch := omega) only [s124 hw, r124_39 hw, s145 hw, r124_42 hw, s147 hw, r124_14 hw, s126 hw, e2, b2, e5, Int.reduceToNat, am_tnA, am_tnM, Int.natCast_one, q1, am_addE, am_subE, am_mulE, am_laddE, am_lsubE, am_upO, am_upS, am_stS, am_stO, am_tnn, am_brl, am_brg, am_bre, am_brn, am_brG, am_brL, am_st1, am_no2, am_st2, am_clr]
      refine am_wp_br (fun b31 => ?_) (fun b31 => ?_)
      · omega
      · refine am_wp_go rfl (by simp (disch := omega) only [s124 hw, r124_39 hw, s145 hw, r124_42 hw, s147 hw, r124_14 hw, s126 hw, e2, b2, e5, Int.reduceToNat, am_tnA, am_tnM, Int.natCast_one, q1, am_addE, am_subE, am_mulE, am_laddE, am_lsubE, am_upO, am_upS, am_stS, am_stO, am_tnn, am_brl, am_brg, am_bre, am_brn, am_brG, am_brL, am_st1, am_no2, am_st2, am_clr, and_self, true_and, and_true, true_or, or_true, List.length_cons, List.length_nil] <;> omega) ?_
        try simp (disch := omega) only [s124 hw, r124_39 hw, s145 hw, r124_42 hw, s147 hw, r124_14 hw, s126 hw, e2, b2, e5, Int.reduceToNat, am_tnA, am_tnM, Int.natCast_one, q1, am_addE, am_subE, am_mulE, am_laddE, am_lsubE, am_upO, am_upS, am_stS, am_stO, am_tnn, am_brl, am_brg, am_bre, am_brn, am_brG, am_brL, am_st1, am_no2, am_st2, am_clr]
        refine am_wp_br (fun b42 => ?_) (fun b42 => ?_)
        · omega
        · refine am_wp_go rfl (by simp (disch := omega) only [s124 hw, r124_39 hw, s145 hw, r124_42 hw, s147 hw, r124_14 hw, s126 hw, e2, b2, e5, Int.reduceToNat, am_tnA, am_tnM, Int.natCast_one, q1, am_addE, am_subE, am_mulE, am_laddE, am_lsubE, am_upO, am_upS, am_stS, am_stO, am_tnn, am_brl, am_brg, am_bre, am_brn, am_brG, am_brL, am_st1, am_no2, am_st2, am_clr, and_self, true_and, and_true, true_or, or_true, List.length_cons, List.length_nil] <;> omega) ?_
          try simp (disch := omega) only [s124 hw, r124_39 hw, s145 hw, r124_42 hw, s147 hw, r124_14 hw, s126 hw, e2, b2, e5, Int.reduceToNat, am_tnA, am_tnM, Int.natCast_one, q1, am_addE, am_subE, am_mulE, am_laddE, am_lsubE, am_upO, am_upS, am_stS, am_stO, am_tnn, am_brl, am_brg, am_bre, am_brn, am_brG, am_brL, am_st1, am_no2, am_st2, am_clr]
          refine am_wp_br (fun b62 => ?_) (fun b62 => ?_)
          · refine am_wp_go rfl (by simp (disch := omega) only [s124 hw, r124_39 hw, s145 hw, r124_42 hw, s147 hw, r124_14 hw, s126 hw, e2, b2, e5, Int.reduceToNat, am_tnA, am_tnM, Int.natCast_one, q1, am_addE, am_subE, am_mulE, am_laddE, am_lsubE, am_upO, am_upS, am_stS, am_stO, am_tnn, am_brl, am_brg, am_bre, am_brn, am_brG, am_brL, am_st1, am_no2, am_st2, am_clr, and_self, true_and, and_true, true_or, or_true, List.length_cons, List.length_nil] <;> omega) ?_
            try simp (disch := omega) only [s124 hw, r124_39 hw, s145 hw, r124_42 hw, s147 hw, r124_14 hw, s126 hw, e2, b2, e5, Int.reduceToNat, am_tnA, am_tnM, Int.natCast_one, q1, am_addE, am_subE, am_mulE, am_laddE, am_lsubE, am_upO, am_upS, am_stS, am_stO, am_tnn, am_brl, am_brg, am_bre, am_brn, am_brG, am_brL, am_st1, am_no2, am_st2, am_clr]
            refine am_wp_ret rfl rfl ?_
            rwa [am_bF (by omega)] at h
          · refine am_wp_go rfl (by simp (disch := omega) only [s124 hw, r124_39 hw, s145 hw, r124_42 hw, s147 hw, r124_14 hw, s126 hw, e2, b2, e5, Int.reduceToNat, am_tnA, am_tnM, Int.natCast_one, q1, am_addE, am_subE, am_mulE, am_laddE, am_lsubE, am_upO, am_upS, am_stS, am_stO, am_tnn, am_brl, am_brg, am_bre, am_brn, am_brG, am_brL, am_st1, am_no2, am_st2, am_clr, and_self, true_and, and_true, true_or, or_true, List.length_cons, List.length_nil] <;> omega) ?_
            try simp (disch := omega) only [s124 hw, r124_39 hw, s145 hw, r124_42 hw, s147 hw, r124_14 hw, s126 hw, e2, b2, e5, Int.reduceToNat, am_tnA, am_tnM, Int.natCast_one, q1, am_addE, am_subE, am_mulE, am_laddE, am_lsubE, am_upO, am_upS, am_stS, am_stO, am_tnn, am_brl, am_brg, am_bre, am_brn, am_brG, am_brL, am_st1, am_no2, am_st2, am_clr]
            refine am_wp_ret rfl rfl ?_
            rwa [am_bT (by omega)] at h
    · clear hB a1 a2
      refine am_wp_go rfl (by simp (disch := omega) only [s124 hw, r124_39 hw, s145 hw, e2, Int.reduceToNat, am_tnA, am_tnM, Int.natCast_one, q1, am_addE, am_subE, am_mulE, am_laddE, am_lsubE, am_upO, am_upS, am_stS, am_stO, am_tnn, am_brl, am_brg, am_bre, am_brn, am_brG, am_brL, am_st1, am_no2, am_st2, am_clr, and_self, true_and, and_true, true_or, or_true, List.length_cons, List.length_nil] <;> omega) ?_
      try simp (disch := omega) only [s124 hw, r124_39 hw, s145 hw, e2, Int.reduceToNat, am_tnA, am_tnM, Int.natCast_one, q1, am_addE, am_subE, am_mulE, am_laddE, am_lsubE, am_upO, am_upS, am_stS, am_stO, am_tnn, am_brl, am_brg, am_bre, am_brn, am_brG, am_brL, am_st1, am_no2, am_st2, am_clr]
      refine am_wp_cc rfl rfl rfl (congrArg Prod.fst (s124 hw)) (w_M_needs1 (s := s) hw (by omega) ⟨_, rfl, ?_⟩)
      rw [e4]
      refine am_wp_go rfl (by simp (disch := omega) only [s124 hw, r124_39 hw, s145 hw, e2, Int.reduceToNat, am_tnA, am_tnM, Int.natCast_one, q1, am_addE, am_subE, am_mulE, am_laddE, am_lsubE, am_upO, am_upS, am_stS, am_stO, am_tnn, am_brl, am_brg, am_bre, am_brn, am_brG, am_brL, am_st1, am_no2, am_st2, am_clr, and_self, true_and, and_true, true_or, or_true, List.length_cons, List.length_nil] <;> omega) ?_
      try simp (disch := omega) only [s124 hw, r124_39 hw, s145 hw, e2, Int.reduceToNat, am_tnA, am_tnM, Int.natCast_one, q1, am_addE, am_subE, am_mulE, am_laddE, am_lsubE, am_upO, am_upS, am_stS, am_stO, am_tnn, am_brl, am_brg, am_bre, am_brn, am_brG, am_brL, am_st1, am_no2, am_st2, am_clr]
      refine am_wp_br (fun b31 => ?_) (fun b31 => ?_)
      · refine am_wp_go rfl (by simp (disch := omega) only [s124 hw, r124_39 hw, s145 hw, e2, Int.reduceToNat, am_tnA, am_tnM, Int.natCast_one, q1, am_addE, am_subE, am_mulE, am_laddE, am_lsubE, am_upO, am_upS, am_stS, am_stO, am_tnn, am_brl, am_brg, am_bre, am_brn, am_brG, am_brL, am_st1, am_no2, am_st2, am_clr, and_self, true_and, and_true, true_or, or_true, List.length_cons, List.length_nil] <;> omega) ?_
        try simp (disch := omega) only [s124 hw, r124_39 hw, s145 hw, e2, Int.reduceToNat, am_tnA, am_tnM, Int.natCast_one, q1, am_addE, am_subE, am_mulE, am_laddE, am_lsubE, am_upO, am_upS, am_stS, am_stO, am_tnn, am_brl, am_brg, am_bre, am_brn, am_brG, am_brL, am_st1, am_no2, am_st2, am_clr]
        refine am_wp_ret rfl rfl ?_
        rwa [am_bT (by omega)] at h
      · omega
theorem w_M_likes (hw : wd sh R) (hr : 0 ≤ r ∧ r ≤ 2) (hs : s < 8) (e1 : I 145 (2 * s) = (l (2 * s) : Int)) (e2 : I 145 (2 * s + 1) = (l (2 * s + 1) : Int)) (l1 : l (2 * s) ≤ 20) (l2 : l (2 * s + 1) ≤ 20) (h : Q (am_yi (ckL r l s)) (m, sl, sh, I, R)) : am_wp (d) 273 0 [some (.inr (.inr (124))), some (.inl ((s : Int))), some (.inl (r))] [] (m, sl, sh, I, R) Q := by
  unfold ckL at h
  refine am_wp_go rfl (by simp (disch := omega) only [s124 hw, r124_39 hw, s145 hw, e1, e2, Int.reduceToNat, am_tnA, am_tnM, am_addE, am_subE, am_mulE, am_laddE, am_lsubE, am_upO, am_upS, am_stS, am_stO, am_tnn, am_brl, am_brg, am_bre, am_brn, am_brG, am_brL, am_st1, am_no2, am_st2, am_clr, and_self, true_and, and_true, true_or, or_true, List.length_cons, List.length_nil] <;> omega) ?_
  try simp (disch := omega) only [s124 hw, r124_39 hw, s145 hw, e1, e2, Int.reduceToNat, am_tnA, am_tnM, am_addE, am_subE, am_mulE, am_laddE, am_lsubE, am_upO, am_upS, am_stS, am_stO, am_tnn, am_brl, am_brg, am_bre, am_brn, am_brG, am_brL, am_st1, am_no2, am_st2, am_clr]
  refine am_wp_br (fun b1 => ?_) (fun b1 => ?_)
  · refine am_wp_go rfl (by simp (disch := omega) only [s124 hw, r124_39 hw, s145 hw, e1, e2, Int.reduceToNat, am_tnA, am_tnM, am_addE, am_subE, am_mulE, am_laddE, am_lsubE, am_upO, am_upS, am_stS, am_stO, am_tnn, am_brl, am_brg, am_bre, am_brn, am_brG, am_brL, am_st1, am_no2, am_st2, am_clr, and_self, true_and, and_true, true_or, or_true, List.length_cons, List.length_nil] <;> omega) ?_
    try simp (disch := omega) only [s124 hw, r124_39 hw, s145 hw, e1, e2, Int.reduceToNat, am_tnA, am_tnM, am_addE, am_subE, am_mulE, am_laddE, am_lsubE, am_upO, am_upS, am_stS, am_stO, am_tnn, am_brl, am_brg, am_bre, am_brn, am_brG, am_brL, am_st1, am_no2, am_st2, am_clr]
    refine am_wp_br (fun b8 => ?_) (fun b8 => ?_)
    · rw [if_neg b8, if_pos (by omega)] at h
      refine am_wp_go rfl (by simp (disch := omega) only [s124 hw, r124_39 hw, s145 hw, e1, e2, Int.reduceToNat, am_tnA, am_tnM, am_addE, am_subE, am_mulE, am_laddE, am_lsubE, am_upO, am_upS, am_stS, am_stO, am_tnn, am_brl, am_brg, am_bre, am_brn, am_brG, am_brL, am_st1, am_no2, am_st2, am_clr, and_self, true_and, and_true, true_or, or_true, List.length_cons, List.length_nil] <;> omega) ?_
      try simp (disch := omega) only [s124 hw, r124_39 hw, s145 hw, e1, e2, Int.reduceToNat, am_tnA, am_tnM, am_addE, am_subE, am_mulE, am_laddE, am_lsubE, am_upO, am_upS, am_stS, am_stO, am_tnn, am_brl, am_brg, am_bre, am_brn, am_brG, am_brL, am_st1, am_no2, am_st2, am_clr]
      refine am_wp_br (fun b39 => ?_) (fun b39 => ?_)
      · refine am_wp_go rfl (by simp (disch := omega) only [s124 hw, r124_39 hw, s145 hw, e1, e2, Int.reduceToNat, am_tnA, am_tnM, am_addE, am_subE, am_mulE, am_laddE, am_lsubE, am_upO, am_upS, am_stS, am_stO, am_tnn, am_brl, am_brg, am_bre, am_brn, am_brG, am_brL, am_st1, am_no2, am_st2, am_clr, and_self, true_and, and_true, true_or, or_true, List.length_cons, List.length_nil] <;> omega) ?_
        try simp (disch := omega) only [s124 hw, r124_39 hw, s145 hw, e1, e2, Int.reduceToNat, am_tnA, am_tnM, am_addE, am_subE, am_mulE, am_laddE, am_lsubE, am_upO, am_upS, am_stS, am_stO, am_tnn, am_brl, am_brg, am_bre, am_brn, am_brG, am_brL, am_st1, am_no2, am_st2, am_clr]
        refine am_wp_ret rfl rfl ?_
        rwa [if_pos (by omega)] at h
      · refine am_wp_go rfl (by simp (disch := omega) only [s124 hw, r124_39 hw, s145 hw, e1, e2, Int.reduceToNat, am_tnA, am_tnM, am_addE, am_subE, am_mulE, am_laddE, am_lsubE, am_upO, am_upS, am_stS, am_stO, am_tnn, am_brl, am_brg, am_bre, am_brn, am_brG, am_brL, am_st1, am_no2, am_st2, am_clr, and_self, true_and, and_true, true_or, or_true, List.length_cons, List.length_nil] <;> omega) ?_
        try simp (disch := omega) only [s124 hw, r124_39 hw, s145 hw, e1, e2, Int.reduceToNat, am_tnA, am_tnM, am_addE, am_subE, am_mulE, am_laddE, am_lsubE, am_upO, am_upS, am_stS, am_stO, am_tnn, am_brl, am_brg, am_bre, am_brn, am_brG, am_brL, am_st1, am_no2, am_st2, am_clr]
        refine am_wp_br (fun b52 => ?_) (fun b52 => ?_)
        · refine am_wp_go rfl (by simp (disch := omega) only [s124 hw, r124_39 hw, s145 hw, e1, e2, Int.reduceToNat, am_tnA, am_tnM, am_addE, am_subE, am_mulE, am_laddE, am_lsubE, am_upO, am_upS, am_stS, am_stO, am_tnn, am_brl, am_brg, am_bre, am_brn, am_brG, am_brL, am_st1, am_no2, am_st2, am_clr, and_self, true_and, and_true, true_or, or_true, List.length_cons, List.length_nil] <;> omega) ?_
          try simp (disch := omega) only [s124 hw, r124_39 hw, s145 hw, e1, e2, Int.reduceToNat, am_tnA, am_tnM, am_addE, am_subE, am_mulE, am_laddE, am_lsubE, am_upO, am_upS, am_stS, am_stO, am_tnn, am_brl, am_brg, am_bre, am_brn, am_brG, am_brL, am_st1, am_no2, am_st2, am_clr]
          refine am_wp_ret rfl rfl ?_
          rwa [if_neg (by omega)] at h
        · refine am_wp_go rfl (by simp (disch := omega) only [s124 hw, r124_39 hw, s145 hw, e1, e2, Int.reduceToNat, am_tnA, am_tnM, am_addE, am_subE, am_mulE, am_laddE, am_lsubE, am_upO, am_upS, am_stS, am_stO, am_tnn, am_brl, am_brg, am_bre, am_brn, am_brG, am_brL, am_st1, am_no2, am_st2, am_clr, and_self, true_and, and_true, true_or, or_true, List.length_cons, List.length_nil] <;> omega) ?_
          try simp (disch := omega) only [s124 hw, r124_39 hw, s145 hw, e1, e2, Int.reduceToNat, am_tnA, am_tnM, am_addE, am_subE, am_mulE, am_laddE, am_lsubE, am_upO, am_upS, am_stS, am_stO, am_tnn, am_brl, am_brg, am_bre, am_brn, am_brG, am_brL, am_st1, am_no2, am_st2, am_clr]
          refine am_wp_ret rfl rfl ?_
          rwa [if_pos (by omega)] at h
    · rw [if_pos (by omega)] at h
      refine am_wp_go rfl (by simp (disch := omega) only [s124 hw, r124_39 hw, s145 hw, e1, e2, Int.reduceToNat, am_tnA, am_tnM, am_addE, am_subE, am_mulE, am_laddE, am_lsubE, am_upO, am_upS, am_stS, am_stO, am_tnn, am_brl, am_brg, am_bre, am_brn, am_brG, am_brL, am_st1, am_no2, am_st2, am_clr, and_self, true_and, and_true, true_or, or_true, List.length_cons, List.length_nil] <;> omega) ?_
      try simp (disch := omega) only [s124 hw, r124_39 hw, s145 hw, e1, e2, Int.reduceToNat, am_tnA, am_tnM, am_addE, am_subE, am_mulE, am_laddE, am_lsubE, am_upO, am_upS, am_stS, am_stO, am_tnn, am_brl, am_brg, am_bre, am_brn, am_brG, am_brL, am_st1, am_no2, am_st2, am_clr]
      refine am_wp_ret rfl rfl ?_
      rwa [Int.natCast_add] at h
  · rw [if_neg (by omega), if_neg (by omega)] at h
    refine am_wp_go rfl (by simp (disch := omega) only [s124 hw, r124_39 hw, s145 hw, e1, e2, Int.reduceToNat, am_tnA, am_tnM, am_addE, am_subE, am_mulE, am_laddE, am_lsubE, am_upO, am_upS, am_stS, am_stO, am_tnn, am_brl, am_brg, am_bre, am_brn, am_brG, am_brL, am_st1, am_no2, am_st2, am_clr, and_self, true_and, and_true, true_or, or_true, List.length_cons, List.length_nil] <;> omega) ?_
    try simp (disch := omega) only [s124 hw, r124_39 hw, s145 hw, e1, e2, Int.reduceToNat, am_tnA, am_tnM, am_addE, am_subE, am_mulE, am_laddE, am_lsubE, am_upO, am_upS, am_stS, am_stO, am_tnn, am_brl, am_brg, am_bre, am_brn, am_brG, am_brL, am_st1, am_no2, am_st2, am_clr]
    refine am_wp_ret rfl rfl ?_
    exact h
theorem w_M_takesCook (hw : wd sh R) (hk : wk W) (hv : ∀ j, j < 58 → I 126 j = W j) (hr : 0 ≤ r ∧ r ≤ 2) (h145 : ∀ s, s < nS W → on.testBit s = false → I 145 (2 * s) = (l (2 * s) : Int) ∧ I 145 (2 * s + 1) = (l (2 * s + 1) : Int)) (hl : ∀ i, i < 2 * nS W → l i ≤ ndW W i) (hB : ∀ s, s < nS W → 0 < l (2 * s) → l (2 * s + 1) = ndW W (2 * s + 1)) (a1 : ∀ s, s < nS W → on.testBit s = false → l (2 * s + 1) = ndW W (2 * s + 1) → I 147 (2 * s + 1) = -1) (a2 : ∀ s, s < nS W → on.testBit s = false → l (2 * s) = 0 → l (2 * s + 1) = ndW W (2 * s + 1) → I 147 (2 * s) = (f s : Int) - 1 ∧ 1 ≤ f s) (hf : ∀ s, s < nS W → f s ≤ 2000) (ht : t ≤ 2000) (ho2 : on < 256) (h : Q (am_yi (ckB W r l f t on (nS W))) (m, sl, sh, I, R)) : am_wp (d + 3) 275 0 [some (.inr (.inr (124))), some (.inl (r)), some (.inl ((t : Int))), some (.inl ((on : Int))), none, none] [] (m, sl, sh, I, R) Q := by
  have n1 := wk_nS hk
  obtain ⟨kW, nW⟩ := row_W hk hv
  have nd := fun i (h : i < 2 * nS W) => nd_pos hk h
  refine am_wp_go rfl (by simp (disch := omega) only [am_b0, am_bn0, am_addE, am_subE, am_mulE, am_laddE, am_lsubE, am_upO, am_upS, am_stS, am_stO, am_tnn, am_brl, am_brg, am_bre, am_brn, am_brG, am_brL, am_st1, am_no2, am_st2, am_clr, and_self, true_and, and_true, true_or, or_true, List.length_cons, List.length_nil] <;> omega) ?_
  try simp (disch := omega) only [am_b0, am_bn0, am_addE, am_subE, am_mulE, am_laddE, am_lsubE, am_upO, am_upS, am_stS, am_stO, am_tnn, am_brl, am_brg, am_bre, am_brn, am_brG, am_brL, am_st1, am_no2, am_st2, am_clr]
  have L : ∀ k, k ≤ nS W → am_wp (d + 3) 275 6 [some (.inr (.inr (124))), some (.inl (r)), some (.inl ((t : Int))), some (.inl ((on : Int))), some (.inl (ckB W r l f t on k)), some (.inl ((k : Int)))] [] (m, sl, sh, I, R) Q := by
    refine am_lp (nS W) (fun k hkl ih => ?_)
    have mv := ckB_v (W := W) (r := r) (l := l) (f := f) (t := t) (on := on) k
    refine am_wp_go rfl (by simp (disch := omega) only [am_b0, am_bn0, am_addE, am_subE, am_mulE, am_laddE, am_lsubE, am_upO, am_upS, am_stS, am_stO, am_tnn, am_brl, am_brg, am_bre, am_brn, am_brG, am_brL, am_st1, am_no2, am_st2, am_clr, and_self, true_and, and_true, true_or, or_true, List.length_cons, List.length_nil] <;> omega) ?_
    try simp (disch := omega) only [am_b0, am_bn0, am_addE, am_subE, am_mulE, am_laddE, am_lsubE, am_upO, am_upS, am_stS, am_stO, am_tnn, am_brl, am_brg, am_bre, am_brn, am_brG, am_brL, am_st1, am_no2, am_st2, am_clr]
    refine am_wp_cc rfl rfl rfl (congrArg Prod.fst (s124 hw)) (w_M_slicesN hw (wk_w kW) ⟨_, rfl, ?_⟩)
    rw [nW]
    refine am_wp_go rfl (by simp (disch := omega) only [am_b0, am_bn0, am_addE, am_subE, am_mulE, am_laddE, am_lsubE, am_upO, am_upS, am_stS, am_stO, am_tnn, am_brl, am_brg, am_bre, am_brn, am_brG, am_brL, am_st1, am_no2, am_st2, am_clr, and_self, true_and, and_true, true_or, or_true, List.length_cons, List.length_nil] <;> omega) ?_
    try simp (disch := omega) only [am_b0, am_bn0, am_addE, am_subE, am_mulE, am_laddE, am_lsubE, am_upO, am_upS, am_stS, am_stO, am_tnn, am_brl, am_brg, am_bre, am_brn, am_brG, am_brL, am_st1, am_no2, am_st2, am_clr]
    refine am_wp_br (fun b12 => ?_) (fun b12 => ?_)
    · have : k = nS W := by omega
      subst this
      refine am_wp_go rfl (by simp (disch := omega) only [am_b0, am_bn0, am_addE, am_subE, am_mulE, am_laddE, am_lsubE, am_upO, am_upS, am_stS, am_stO, am_tnn, am_brl, am_brg, am_bre, am_brn, am_brG, am_brL, am_st1, am_no2, am_st2, am_clr, and_self, true_and, and_true, true_or, or_true, List.length_cons, List.length_nil] <;> omega) ?_
      try simp (disch := omega) only [am_b0, am_bn0, am_addE, am_subE, am_mulE, am_laddE, am_lsubE, am_upO, am_upS, am_stS, am_stO, am_tnn, am_brl, am_brg, am_bre, am_brn, am_brG, am_brL, am_st1, am_no2, am_st2, am_clr]
      refine am_wp_ret rfl rfl ?_
      exact h
    · have ih := ih (by omega)
      have mt := ckM_t (W := W) (l := l) (f := f) (t := t) (on := on) (s := k)
      unfold ckB at ih
      clear h
      refine am_wp_go rfl (by simp (disch := omega) only [am_b0, am_bn0, am_addE, am_subE, am_mulE, am_laddE, am_lsubE, am_upO, am_upS, am_stS, am_stO, am_tnn, am_brl, am_brg, am_bre, am_brn, am_brG, am_brL, am_st1, am_no2, am_st2, am_clr, and_self, true_and, and_true, true_or, or_true, List.length_cons, List.length_nil] <;> omega) ?_
      try simp (disch := omega) only [am_b0, am_bn0, am_addE, am_subE, am_mulE, am_laddE, am_lsubE, am_upO, am_upS, am_stS, am_stO, am_tnn, am_brl, am_brg, am_bre, am_brn, am_brG, am_brL, am_st1, am_no2, am_st2, am_clr]
      refine am_wp_cc rfl rfl rfl (trivial) (w_M_has (s := on) (k := k) (by omega) (by omega) ⟨_, rfl, ?_⟩)
      refine am_wp_go rfl (by simp (disch := omega) only [am_b0, am_bn0, am_addE, am_subE, am_mulE, am_laddE, am_lsubE, am_upO, am_upS, am_stS, am_stO, am_tnn, am_brl, am_brg, am_bre, am_brn, am_brG, am_brL, am_st1, am_no2, am_st2, am_clr, and_self, true_and, and_true, true_or, or_true, List.length_cons, List.length_nil] <;> omega) ?_
      try simp (disch := omega) only [am_b0, am_bn0, am_addE, am_subE, am_mulE, am_laddE, am_lsubE, am_upO, am_upS, am_stS, am_stO, am_tnn, am_brl, am_brg, am_bre, am_brn, am_brG, am_brL, am_st1, am_no2, am_st2, am_clr]
      refine am_wp_br (fun b21 => ?_) (fun b21 => ?_)
      · have hm : ¬ ckM W l f t on k = true := fun hc => by have := (mt.mp hc).1; rw [b21] at this; cases this
        rw [if_neg (fun hc => hm hc.1)] at ih
        refine am_wp_go rfl (by simp (disch := omega) only [am_b0, am_bn0, am_addE, am_subE, am_mulE, am_laddE, am_lsubE, am_upO, am_upS, am_stS, am_stO, am_tnn, am_brl, am_brg, am_bre, am_brn, am_brG, am_brL, am_st1, am_no2, am_st2, am_clr, and_self, true_and, and_true, true_or, or_true, List.length_cons, List.length_nil] <;> omega) ?_
        try simp (disch := omega) only [am_b0, am_bn0, am_addE, am_subE, am_mulE, am_laddE, am_lsubE, am_upO, am_upS, am_stS, am_stO, am_tnn, am_brl, am_brg, am_bre, am_brn, am_brG, am_brL, am_st1, am_no2, am_st2, am_clr]
        exact am_wp_ls ih rfl
      · have hof : on.testBit k = false := by cases hc : on.testBit k with | true => exact absurd hc b21 | false => rfl
        obtain ⟨e1, e2⟩ := h145 k (by omega) hof
        have l1 := hl (2 * k) (by omega)
        have l2 := hl (2 * k + 1) (by omega)
        have l3 := nd (2 * k) (by omega)
        have l4 := nd (2 * k + 1) (by omega)
        refine am_wp_go rfl (by simp (disch := omega) only [am_b0, am_bn0, am_addE, am_subE, am_mulE, am_laddE, am_lsubE, am_upO, am_upS, am_stS, am_stO, am_tnn, am_brl, am_brg, am_bre, am_brn, am_brG, am_brL, am_st1, am_no2, am_st2, am_clr, and_self, true_and, and_true, true_or, or_true, List.length_cons, List.length_nil] <;> omega) ?_
        try simp (disch := omega) only [am_b0, am_bn0, am_addE, am_subE, am_mulE, am_laddE, am_lsubE, am_upO, am_upS, am_stS, am_stO, am_tnn, am_brl, am_brg, am_bre, am_brn, am_brG, am_brL, am_st1, am_no2, am_st2, am_clr]
        refine am_wp_cc rfl rfl rfl (congrArg Prod.fst (s124 hw)) (w_M_hasLeft2 (s := k) hw (by omega) e1 e2 (by omega) (by omega) ⟨_, rfl, ?_⟩)
        refine am_wp_go rfl (by simp (disch := omega) only [am_b0, am_bn0, am_addE, am_subE, am_mulE, am_laddE, am_lsubE, am_upO, am_upS, am_stS, am_stO, am_tnn, am_brl, am_brg, am_bre, am_brn, am_brG, am_brL, am_st1, am_no2, am_st2, am_clr, and_self, true_and, and_true, true_or, or_true, List.length_cons, List.length_nil] <;> omega) ?_
        try simp (disch := omega) only [am_b0, am_bn0, am_addE, am_subE, am_mulE, am_laddE, am_lsubE, am_upO, am_upS, am_stS, am_stO, am_tnn, am_brl, am_brg, am_bre, am_brn, am_brG, am_brL, am_st1, am_no2, am_st2, am_clr]
        refine am_wp_br (fun b30 => ?_) (fun b30 => ?_)
        · have hm : ¬ ckM W l f t on k = true := fun hc => b30 (mt.mp hc).2.1
          rw [if_neg (fun hc => hm hc.1)] at ih
          refine am_wp_go rfl (by simp (disch := omega) only [am_b0, am_bn0, am_addE, am_subE, am_mulE, am_laddE, am_lsubE, am_upO, am_upS, am_stS, am_stO, am_tnn, am_brl, am_brg, am_bre, am_brn, am_brG, am_brL, am_st1, am_no2, am_st2, am_clr, and_self, true_and, and_true, true_or, or_true, List.length_cons, List.length_nil] <;> omega) ?_
          try simp (disch := omega) only [am_b0, am_bn0, am_addE, am_subE, am_mulE, am_laddE, am_lsubE, am_upO, am_upS, am_stS, am_stO, am_tnn, am_brl, am_brg, am_bre, am_brn, am_brG, am_brL, am_st1, am_no2, am_st2, am_clr]
          exact am_wp_ls ih rfl
        · refine am_wp_go rfl (by simp (disch := omega) only [am_b0, am_bn0, am_addE, am_subE, am_mulE, am_laddE, am_lsubE, am_upO, am_upS, am_stS, am_stO, am_tnn, am_brl, am_brg, am_bre, am_brn, am_brG, am_brL, am_st1, am_no2, am_st2, am_clr, and_self, true_and, and_true, true_or, or_true, List.length_cons, List.length_nil] <;> omega) ?_
          try simp (disch := omega) only [am_b0, am_bn0, am_addE, am_subE, am_mulE, am_laddE, am_lsubE, am_upO, am_upS, am_stS, am_stO, am_tnn, am_brl, am_brg, am_bre, am_brn, am_brG, am_brL, am_st1, am_no2, am_st2, am_clr]
          refine am_wp_cc rfl rfl rfl (congrArg Prod.fst (s124 hw)) (w_M_isRested (s := k) (l := l) (f := f) (t := t) hw hk hv (by omega) e1 e2 ⟨l1, l2⟩ (hB k (by omega)) (a1 k (by omega) hof) (a2 k (by omega) hof) (hf k (by omega)) ht (Classical.not_not.mp b30) ⟨_, rfl, ?_⟩)
          refine am_wp_go rfl (by simp (disch := omega) only [am_b0, am_bn0, am_addE, am_subE, am_mulE, am_laddE, am_lsubE, am_upO, am_upS, am_stS, am_stO, am_tnn, am_brl, am_brg, am_bre, am_brn, am_brG, am_brL, am_st1, am_no2, am_st2, am_clr, and_self, true_and, and_true, true_or, or_true, List.length_cons, List.length_nil] <;> omega) ?_
          try simp (disch := omega) only [am_b0, am_bn0, am_addE, am_subE, am_mulE, am_laddE, am_lsubE, am_upO, am_upS, am_stS, am_stO, am_tnn, am_brl, am_brg, am_bre, am_brn, am_brG, am_brL, am_st1, am_no2, am_st2, am_clr]
          refine am_wp_br (fun b40 => ?_) (fun b40 => ?_)
          · have hm : ckM W l f t on k = true := mt.mpr ⟨hof, Classical.not_not.mp b30, b40⟩
            clear mt b40 b30
            refine am_wp_go rfl (by simp (disch := omega) only [am_b0, am_bn0, am_addE, am_subE, am_mulE, am_laddE, am_lsubE, am_upO, am_upS, am_stS, am_stO, am_tnn, am_brl, am_brg, am_bre, am_brn, am_brG, am_brL, am_st1, am_no2, am_st2, am_clr, and_self, true_and, and_true, true_or, or_true, List.length_cons, List.length_nil] <;> omega) ?_
            try simp (disch := omega) only [am_b0, am_bn0, am_addE, am_subE, am_mulE, am_laddE, am_lsubE, am_upO, am_upS, am_stS, am_stO, am_tnn, am_brl, am_brg, am_bre, am_brn, am_brG, am_brL, am_st1, am_no2, am_st2, am_clr]
            refine am_wp_br (fun b49 => ?_) (fun b49 => ?_)
            · rw [if_pos ⟨hm, Or.inl b49⟩] at ih
              refine am_wp_go rfl (by simp (disch := omega) only [am_b0, am_bn0, am_addE, am_subE, am_mulE, am_laddE, am_lsubE, am_upO, am_upS, am_stS, am_stO, am_tnn, am_brl, am_brg, am_bre, am_brn, am_brG, am_brL, am_st1, am_no2, am_st2, am_clr, and_self, true_and, and_true, true_or, or_true, List.length_cons, List.length_nil] <;> omega) ?_
              try simp (disch := omega) only [am_b0, am_bn0, am_addE, am_subE, am_mulE, am_laddE, am_lsubE, am_upO, am_upS, am_stS, am_stO, am_tnn, am_brl, am_brg, am_bre, am_brn, am_brG, am_brL, am_st1, am_no2, am_st2, am_clr]
              exact am_wp_ls ih rfl
            · obtain ⟨j, m1, m2, m3⟩ := mv.resolve_left b49
              obtain ⟨f1, f2⟩ := h145 j (by omega) (ckM_t.mp m3).1
              have l5 := hl (2 * j) (by omega)
              have l6 := hl (2 * j + 1) (by omega)
              have l7 := nd (2 * j) (by omega)
              have l8 := nd (2 * j + 1) (by omega)
              rw [m1] at ih b49 ⊢
              rw [am_tnn] at ih
              refine am_wp_go rfl (by simp (disch := omega) only [am_b0, am_bn0, am_addE, am_subE, am_mulE, am_laddE, am_lsubE, am_upO, am_upS, am_stS, am_stO, am_tnn, am_brl, am_brg, am_bre, am_brn, am_brG, am_brL, am_st1, am_no2, am_st2, am_clr, and_self, true_and, and_true, true_or, or_true, List.length_cons, List.length_nil] <;> omega) ?_
              try simp (disch := omega) only [am_b0, am_bn0, am_addE, am_subE, am_mulE, am_laddE, am_lsubE, am_upO, am_upS, am_stS, am_stO, am_tnn, am_brl, am_brg, am_bre, am_brn, am_brG, am_brL, am_st1, am_no2, am_st2, am_clr]
              refine am_wp_cc rfl rfl rfl (congrArg Prod.fst (s124 hw)) (w_M_likes (s := k) (l := l) hw hr (by omega) e1 e2 (by omega) (by omega) ⟨_, rfl, ?_⟩)
              refine am_wp_go rfl (by simp (disch := omega) only [am_b0, am_bn0, am_addE, am_subE, am_mulE, am_laddE, am_lsubE, am_upO, am_upS, am_stS, am_stO, am_tnn, am_brl, am_brg, am_bre, am_brn, am_brG, am_brL, am_st1, am_no2, am_st2, am_clr, and_self, true_and, and_true, true_or, or_true, List.length_cons, List.length_nil] <;> omega) ?_
              try simp (disch := omega) only [am_b0, am_bn0, am_addE, am_subE, am_mulE, am_laddE, am_lsubE, am_upO, am_upS, am_stS, am_stO, am_tnn, am_brl, am_brg, am_bre, am_brn, am_brG, am_brL, am_st1, am_no2, am_st2, am_clr]
              refine am_wp_cc rfl rfl rfl (congrArg Prod.fst (s124 hw)) (w_M_likes (s := j) (l := l) hw hr (by omega) f1 f2 (by omega) (by omega) ⟨_, rfl, ?_⟩)
              refine am_wp_go rfl (by simp (disch := omega) only [am_b0, am_bn0, am_addE, am_subE, am_mulE, am_laddE, am_lsubE, am_upO, am_upS, am_stS, am_stO, am_tnn, am_brl, am_brg, am_bre, am_brn, am_brG, am_brL, am_st1, am_no2, am_st2, am_clr, and_self, true_and, and_true, true_or, or_true, List.length_cons, List.length_nil] <;> omega) ?_
              try simp (disch := omega) only [am_b0, am_bn0, am_addE, am_subE, am_mulE, am_laddE, am_lsubE, am_upO, am_upS, am_stS, am_stO, am_tnn, am_brl, am_brg, am_bre, am_brn, am_brG, am_brL, am_st1, am_no2, am_st2, am_clr]
              refine am_wp_br (fun b66 => ?_) (fun b66 => ?_)
              · rw [if_neg (fun hc => by rcases hc.2 with h | h <;> omega)] at ih
                refine am_wp_go rfl (by simp (disch := omega) only [am_b0, am_bn0, am_addE, am_subE, am_mulE, am_laddE, am_lsubE, am_upO, am_upS, am_stS, am_stO, am_tnn, am_brl, am_brg, am_bre, am_brn, am_brG, am_brL, am_st1, am_no2, am_st2, am_clr, and_self, true_and, and_true, true_or, or_true, List.length_cons, List.length_nil] <;> omega) ?_
                try simp (disch := omega) only [am_b0, am_bn0, am_addE, am_subE, am_mulE, am_laddE, am_lsubE, am_upO, am_upS, am_stS, am_stO, am_tnn, am_brl, am_brg, am_bre, am_brn, am_brG, am_brL, am_st1, am_no2, am_st2, am_clr]
                exact am_wp_ls ih rfl
              · rw [if_pos ⟨hm, Or.inr (by omega)⟩] at ih
                refine am_wp_go rfl (by simp (disch := omega) only [am_b0, am_bn0, am_addE, am_subE, am_mulE, am_laddE, am_lsubE, am_upO, am_upS, am_stS, am_stO, am_tnn, am_brl, am_brg, am_bre, am_brn, am_brG, am_brL, am_st1, am_no2, am_st2, am_clr, and_self, true_and, and_true, true_or, or_true, List.length_cons, List.length_nil] <;> omega) ?_
                try simp (disch := omega) only [am_b0, am_bn0, am_addE, am_subE, am_mulE, am_laddE, am_lsubE, am_upO, am_upS, am_stS, am_stO, am_tnn, am_brl, am_brg, am_bre, am_brn, am_brG, am_brL, am_st1, am_no2, am_st2, am_clr]
                exact am_wp_ls ih rfl
          · have hm : ¬ ckM W l f t on k = true := fun hc => b40 (mt.mp hc).2.2
            rw [if_neg (fun hc => hm hc.1)] at ih
            clear mt b40 b30
            refine am_wp_go rfl (by simp (disch := omega) only [am_b0, am_bn0, am_addE, am_subE, am_mulE, am_laddE, am_lsubE, am_upO, am_upS, am_stS, am_stO, am_tnn, am_brl, am_brg, am_bre, am_brn, am_brG, am_brL, am_st1, am_no2, am_st2, am_clr, and_self, true_and, and_true, true_or, or_true, List.length_cons, List.length_nil] <;> omega) ?_
            try simp (disch := omega) only [am_b0, am_bn0, am_addE, am_subE, am_mulE, am_laddE, am_lsubE, am_upO, am_upS, am_stS, am_stO, am_tnn, am_brl, am_brg, am_bre, am_brn, am_brG, am_brL, am_st1, am_no2, am_st2, am_clr]
            exact am_wp_ls ih rfl
  exact am_wp_ls (L 0 (by omega)) rfl
/-- what is on, as the reference keeps it -/
def ckQ (A B : Nat → Int) (nw : Nat → Int) (p : Nat) : Prop := (nw p = -1 → A p = -1) ∧ ∀ i : Nat, nw p = (i : Int) → A p = ((i / 2 : Nat) : Int) ∧ B p = ((i % 2 : Nat) : Int)
theorem w_M_placeFor (hw : wd sh R) (hk : wk W) (hv : ∀ j, j < 58 → I 126 j = W j) (hs : s < nS W) (e1 : I 145 (2 * s) = (l (2 * s) : Int)) (e2 : I 145 (2 * s + 1) = (l (2 * s + 1) : Int)) (hB : 0 < l (2 * s) → l (2 * s + 1) = ndW W (2 * s + 1)) (hbw : ckW b (W 0).toNat) (hnw : ckW nw (W 0).toNat) (q1 : ∀ p, p < (W 0).toNat → ckQ (I 149) (I 150) b p) (q2 : ∀ p, p < (W 0).toNat → ckQ (I 143) (I 144) nw p) (h : Q (am_yi (ckP b nw (W 0).toNat (ckS l s))) (m, sl, sh, I, R)) : am_wp (d + 2) 276 0 [some (.inr (.inr (124))), some (.inl ((s : Int))), none] [] (m, sl, sh, I, R) Q := by
  have n1 := wk_nS hk
  obtain ⟨w1, w2, -⟩ := hk.1
  have e0 : I 126 0 = ((W 0).toNat : Int) := by rw [hv 0 (by decide)]; omega
  obtain ⟨c1, c2, c3⟩ := ckS_v (l := l) (s := s)
  unfold ckP at h
  refine am_wp_go rfl (by simp (disch := omega) only [s124 hw, r124_14 hw, s126 hw, r124_37 hw, s143 hw, r124_44 hw, s149 hw, r124_45 hw, s150 hw, e0, Int.reduceToNat, am_addE, am_subE, am_mulE, am_laddE, am_lsubE, am_upO, am_upS, am_stS, am_stO, am_tnn, am_brl, am_brg, am_bre, am_brn, am_brG, am_brL, am_st1, am_no2, am_st2, am_clr, and_self, true_and, and_true, true_or, or_true, List.length_cons, List.length_nil] <;> omega) ?_
  try simp (disch := omega) only [s124 hw, r124_14 hw, s126 hw, r124_37 hw, s143 hw, r124_44 hw, s149 hw, r124_45 hw, s150 hw, e0, Int.reduceToNat, am_addE, am_subE, am_mulE, am_laddE, am_lsubE, am_upO, am_upS, am_stS, am_stO, am_tnn, am_brl, am_brg, am_bre, am_brn, am_brG, am_brL, am_st1, am_no2, am_st2, am_clr]
  have L2 : ∀ k, k ≤ (W 0).toNat → Q (am_yi (am_ff (fun p => decide (nw p = -1)) (W 0).toNat k)) (m, sl, sh, I, R) → am_wp (d + 2) 276 56 [some (.inr (.inr (124))), some (.inl ((s : Int))), some (.inl ((k : Int)))] [] (m, sl, sh, I, R) Q := by
    refine am_lp (W 0).toNat (fun k hkP ih h => ?_)
    refine am_wp_go rfl (by simp (disch := omega) only [s124 hw, r124_14 hw, s126 hw, r124_37 hw, s143 hw, r124_44 hw, s149 hw, r124_45 hw, s150 hw, e0, Int.reduceToNat, am_addE, am_subE, am_mulE, am_laddE, am_lsubE, am_upO, am_upS, am_stS, am_stO, am_tnn, am_brl, am_brg, am_bre, am_brn, am_brG, am_brL, am_st1, am_no2, am_st2, am_clr, and_self, true_and, and_true, true_or, or_true, List.length_cons, List.length_nil] <;> omega) ?_
    try simp (disch := omega) only [s124 hw, r124_14 hw, s126 hw, r124_37 hw, s143 hw, r124_44 hw, s149 hw, r124_45 hw, s150 hw, e0, Int.reduceToNat, am_addE, am_subE, am_mulE, am_laddE, am_lsubE, am_upO, am_upS, am_stS, am_stO, am_tnn, am_brl, am_brg, am_bre, am_brn, am_brG, am_brL, am_st1, am_no2, am_st2, am_clr]
    refine am_wp_br (fun b63 => ?_) (fun b63 => ?_)
    · refine am_wp_go rfl (by simp (disch := omega) only [s124 hw, r124_14 hw, s126 hw, r124_37 hw, s143 hw, r124_44 hw, s149 hw, r124_45 hw, s150 hw, e0, Int.reduceToNat, am_addE, am_subE, am_mulE, am_laddE, am_lsubE, am_upO, am_upS, am_stS, am_stO, am_tnn, am_brl, am_brg, am_bre, am_brn, am_brG, am_brL, am_st1, am_no2, am_st2, am_clr, and_self, true_and, and_true, true_or, or_true, List.length_cons, List.length_nil] <;> omega) ?_
      try simp (disch := omega) only [s124 hw, r124_14 hw, s126 hw, r124_37 hw, s143 hw, r124_44 hw, s149 hw, r124_45 hw, s150 hw, e0, Int.reduceToNat, am_addE, am_subE, am_mulE, am_laddE, am_lsubE, am_upO, am_upS, am_stS, am_stO, am_tnn, am_brl, am_brg, am_bre, am_brn, am_brG, am_brL, am_st1, am_no2, am_st2, am_clr]
      refine am_wp_ret rfl rfl ?_
      rwa [am_ff_end (by omega)] at h
    · have q := q2 k (by omega)
      rcases hnw k (by omega) with z | ⟨i, z⟩
      · have e := q.1 z
        clear q
        refine am_wp_go rfl (by simp (disch := omega) only [s124 hw, r124_14 hw, s126 hw, r124_37 hw, s143 hw, r124_44 hw, s149 hw, r124_45 hw, s150 hw, e0, e, Int.reduceToNat, am_addE, am_subE, am_mulE, am_laddE, am_lsubE, am_upO, am_upS, am_stS, am_stO, am_tnn, am_brl, am_brg, am_bre, am_brn, am_brG, am_brL, am_st1, am_no2, am_st2, am_clr, and_self, true_and, and_true, true_or, or_true, List.length_cons, List.length_nil] <;> omega) ?_
        try simp (disch := omega) only [s124 hw, r124_14 hw, s126 hw, r124_37 hw, s143 hw, r124_44 hw, s149 hw, r124_45 hw, s150 hw, e0, e, Int.reduceToNat, am_addE, am_subE, am_mulE, am_laddE, am_lsubE, am_upO, am_upS, am_stS, am_stO, am_tnn, am_brl, am_brg, am_bre, am_brn, am_brG, am_brL, am_st1, am_no2, am_st2, am_clr]
        refine am_wp_br (fun b73 => ?_) (fun b73 => ?_)
        · omega
        · refine am_wp_go rfl (by simp (disch := omega) only [s124 hw, r124_14 hw, s126 hw, r124_37 hw, s143 hw, r124_44 hw, s149 hw, r124_45 hw, s150 hw, e0, e, Int.reduceToNat, am_addE, am_subE, am_mulE, am_laddE, am_lsubE, am_upO, am_upS, am_stS, am_stO, am_tnn, am_brl, am_brg, am_bre, am_brn, am_brG, am_brL, am_st1, am_no2, am_st2, am_clr, and_self, true_and, and_true, true_or, or_true, List.length_cons, List.length_nil] <;> omega) ?_
          try simp (disch := omega) only [s124 hw, r124_14 hw, s126 hw, r124_37 hw, s143 hw, r124_44 hw, s149 hw, r124_45 hw, s150 hw, e0, e, Int.reduceToNat, am_addE, am_subE, am_mulE, am_laddE, am_lsubE, am_upO, am_upS, am_stS, am_stO, am_tnn, am_brl, am_brg, am_bre, am_brn, am_brG, am_brL, am_st1, am_no2, am_st2, am_clr]
          refine am_wp_ret rfl rfl ?_
          rwa [am_ff_hit (by omega) (decide_eq_true z)] at h
      · have e := (q.2 i z).1
        clear q
        refine am_wp_go rfl (by simp (disch := omega) only [s124 hw, r124_14 hw, s126 hw, r124_37 hw, s143 hw, r124_44 hw, s149 hw, r124_45 hw, s150 hw, e0, e, Int.reduceToNat, am_addE, am_subE, am_mulE, am_laddE, am_lsubE, am_upO, am_upS, am_stS, am_stO, am_tnn, am_brl, am_brg, am_bre, am_brn, am_brG, am_brL, am_st1, am_no2, am_st2, am_clr, and_self, true_and, and_true, true_or, or_true, List.length_cons, List.length_nil] <;> omega) ?_
        try simp (disch := omega) only [s124 hw, r124_14 hw, s126 hw, r124_37 hw, s143 hw, r124_44 hw, s149 hw, r124_45 hw, s150 hw, e0, e, Int.reduceToNat, am_addE, am_subE, am_mulE, am_laddE, am_lsubE, am_upO, am_upS, am_stS, am_stO, am_tnn, am_brl, am_brg, am_bre, am_brn, am_brG, am_brL, am_st1, am_no2, am_st2, am_clr]
        refine am_wp_br (fun b73 => ?_) (fun b73 => ?_)
        · refine am_wp_go rfl (by simp (disch := omega) only [s124 hw, r124_14 hw, s126 hw, r124_37 hw, s143 hw, r124_44 hw, s149 hw, r124_45 hw, s150 hw, e0, e, Int.reduceToNat, am_addE, am_subE, am_mulE, am_laddE, am_lsubE, am_upO, am_upS, am_stS, am_stO, am_tnn, am_brl, am_brg, am_bre, am_brn, am_brG, am_brL, am_st1, am_no2, am_st2, am_clr, and_self, true_and, and_true, true_or, or_true, List.length_cons, List.length_nil] <;> omega) ?_
          try simp (disch := omega) only [s124 hw, r124_14 hw, s126 hw, r124_37 hw, s143 hw, r124_44 hw, s149 hw, r124_45 hw, s150 hw, e0, e, Int.reduceToNat, am_addE, am_subE, am_mulE, am_laddE, am_lsubE, am_upO, am_upS, am_stS, am_stO, am_tnn, am_brl, am_brg, am_bre, am_brn, am_brG, am_brL, am_st1, am_no2, am_st2, am_clr]
          exact am_wp_ls (ih (by omega) (by rw [am_ff_on (decide_eq_false (by omega))] at h; exact h)) rfl
        · omega
  revert h
  refine am_lp0 (P := fun k => Q (am_yi (if am_ff (fun p => decide (b p = (ckS l s : Int)) && decide (nw p = -1)) (W 0).toNat k = -1 then ckF nw (W 0).toNat else am_ff (fun p => decide (b p = (ckS l s : Int)) && decide (nw p = -1)) (W 0).toNat k)) (m, sl, sh, I, R) → am_wp (d + 2) 276 2 [some (.inr (.inr (124))), some (.inl ((s : Int))), some (.inl ((k : Int)))] [] (m, sl, sh, I, R) Q) (W 0).toNat (fun k hkP ih h => ?_)
  refine am_wp_go rfl (by simp (disch := omega) only [s124 hw, r124_14 hw, s126 hw, r124_37 hw, s143 hw, r124_44 hw, s149 hw, r124_45 hw, s150 hw, e0, Int.reduceToNat, am_addE, am_subE, am_mulE, am_laddE, am_lsubE, am_upO, am_upS, am_stS, am_stO, am_tnn, am_brl, am_brg, am_bre, am_brn, am_brG, am_brL, am_st1, am_no2, am_st2, am_clr, and_self, true_and, and_true, true_or, or_true, List.length_cons, List.length_nil] <;> omega) ?_
  try simp (disch := omega) only [s124 hw, r124_14 hw, s126 hw, r124_37 hw, s143 hw, r124_44 hw, s149 hw, r124_45 hw, s150 hw, e0, Int.reduceToNat, am_addE, am_subE, am_mulE, am_laddE, am_lsubE, am_upO, am_upS, am_stS, am_stO, am_tnn, am_brl, am_brg, am_bre, am_brn, am_brG, am_brL, am_st1, am_no2, am_st2, am_clr]
  refine am_wp_br (fun b9 => ?_) (fun b9 => ?_)
  · rw [am_ff_end (by omega), if_pos rfl] at h
    refine am_wp_go rfl (by simp (disch := omega) only [s124 hw, r124_14 hw, s126 hw, r124_37 hw, s143 hw, r124_44 hw, s149 hw, r124_45 hw, s150 hw, e0, Int.reduceToNat, am_addE, am_subE, am_mulE, am_laddE, am_lsubE, am_upO, am_upS, am_stS, am_stO, am_tnn, am_brl, am_brg, am_bre, am_brn, am_brG, am_brL, am_st1, am_no2, am_st2, am_clr, and_self, true_and, and_true, true_or, or_true, List.length_cons, List.length_nil] <;> omega) ?_
    try simp (disch := omega) only [s124 hw, r124_14 hw, s126 hw, r124_37 hw, s143 hw, r124_44 hw, s149 hw, r124_45 hw, s150 hw, e0, Int.reduceToNat, am_addE, am_subE, am_mulE, am_laddE, am_lsubE, am_upO, am_upS, am_stS, am_stO, am_tnn, am_brl, am_brg, am_bre, am_brn, am_brG, am_brL, am_st1, am_no2, am_st2, am_clr]
    exact am_wp_ls (L2 0 (by omega) h) rfl
  · have q := q2 k (by omega)
    have qb := q1 k (by omega)
    clear L2
    rcases hnw k (by omega) with z | ⟨i, z⟩
    · have e := q.1 z
      rcases hbw k (by omega) with y | ⟨j, y⟩
      · have e2 := qb.1 y
        clear q qb
        refine am_wp_go rfl (by simp (disch := omega) only [s124 hw, r124_14 hw, s126 hw, r124_37 hw, s143 hw, r124_44 hw, s149 hw, r124_45 hw, s150 hw, e0, e, e2, Int.reduceToNat, am_addE, am_subE, am_mulE, am_laddE, am_lsubE, am_upO, am_upS, am_stS, am_stO, am_tnn, am_brl, am_brg, am_bre, am_brn, am_brG, am_brL, am_st1, am_no2, am_st2, am_clr, and_self, true_and, and_true, true_or, or_true, List.length_cons, List.length_nil] <;> omega) ?_
        try simp (disch := omega) only [s124 hw, r124_14 hw, s126 hw, r124_37 hw, s143 hw, r124_44 hw, s149 hw, r124_45 hw, s150 hw, e0, e, e2, Int.reduceToNat, am_addE, am_subE, am_mulE, am_laddE, am_lsubE, am_upO, am_upS, am_stS, am_stO, am_tnn, am_brl, am_brg, am_bre, am_brn, am_brG, am_brL, am_st1, am_no2, am_st2, am_clr]
        refine am_wp_br (fun b19 => ?_) (fun b19 => ?_)
        · omega
        · refine am_wp_go rfl (by simp (disch := omega) only [s124 hw, r124_14 hw, s126 hw, r124_37 hw, s143 hw, r124_44 hw, s149 hw, r124_45 hw, s150 hw, e0, e, e2, Int.reduceToNat, am_addE, am_subE, am_mulE, am_laddE, am_lsubE, am_upO, am_upS, am_stS, am_stO, am_tnn, am_brl, am_brg, am_bre, am_brn, am_brG, am_brL, am_st1, am_no2, am_st2, am_clr, and_self, true_and, and_true, true_or, or_true, List.length_cons, List.length_nil] <;> omega) ?_
          try simp (disch := omega) only [s124 hw, r124_14 hw, s126 hw, r124_37 hw, s143 hw, r124_44 hw, s149 hw, r124_45 hw, s150 hw, e0, e, e2, Int.reduceToNat, am_addE, am_subE, am_mulE, am_laddE, am_lsubE, am_upO, am_upS, am_stS, am_stO, am_tnn, am_brl, am_brg, am_bre, am_brn, am_brG, am_brL, am_st1, am_no2, am_st2, am_clr]
          refine am_wp_br (fun b29 => ?_) (fun b29 => ?_)
          · refine am_wp_go rfl (by simp (disch := omega) only [s124 hw, r124_14 hw, s126 hw, r124_37 hw, s143 hw, r124_44 hw, s149 hw, r124_45 hw, s150 hw, e0, e, e2, Int.reduceToNat, am_addE, am_subE, am_mulE, am_laddE, am_lsubE, am_upO, am_upS, am_stS, am_stO, am_tnn, am_brl, am_brg, am_bre, am_brn, am_brG, am_brL, am_st1, am_no2, am_st2, am_clr, and_self, true_and, and_true, true_or, or_true, List.length_cons, List.length_nil] <;> omega) ?_
            try simp (disch := omega) only [s124 hw, r124_14 hw, s126 hw, r124_37 hw, s143 hw, r124_44 hw, s149 hw, r124_45 hw, s150 hw, e0, e, e2, Int.reduceToNat, am_addE, am_subE, am_mulE, am_laddE, am_lsubE, am_upO, am_upS, am_stS, am_stO, am_tnn, am_brl, am_brg, am_bre, am_brn, am_brG, am_brL, am_st1, am_no2, am_st2, am_clr]
            exact am_wp_ls (ih (by omega) (by rw [am_ff_on (by rw [decide_eq_false (by omega)]; rfl)] at h; exact h)) rfl
          · omega
      · obtain ⟨e2', e3⟩ := qb.2 j y
        clear q qb
        refine am_wp_go rfl (by simp (disch := omega) only [s124 hw, r124_14 hw, s126 hw, r124_37 hw, s143 hw, r124_44 hw, s149 hw, r124_45 hw, s150 hw, e0, e, e2', e3, Int.reduceToNat, am_addE, am_subE, am_mulE, am_laddE, am_lsubE, am_upO, am_upS, am_stS, am_stO, am_tnn, am_brl, am_brg, am_bre, am_brn, am_brG, am_brL, am_st1, am_no2, am_st2, am_clr, and_self, true_and, and_true, true_or, or_true, List.length_cons, List.length_nil] <;> omega) ?_
        try simp (disch := omega) only [s124 hw, r124_14 hw, s126 hw, r124_37 hw, s143 hw, r124_44 hw, s149 hw, r124_45 hw, s150 hw, e0, e, e2', e3, Int.reduceToNat, am_addE, am_subE, am_mulE, am_laddE, am_lsubE, am_upO, am_upS, am_stS, am_stO, am_tnn, am_brl, am_brg, am_bre, am_brn, am_brG, am_brL, am_st1, am_no2, am_st2, am_clr]
        refine am_wp_br (fun b19 => ?_) (fun b19 => ?_)
        · omega
        · refine am_wp_go rfl (by simp (disch := omega) only [s124 hw, r124_14 hw, s126 hw, r124_37 hw, s143 hw, r124_44 hw, s149 hw, r124_45 hw, s150 hw, e0, e, e2', e3, Int.reduceToNat, am_addE, am_subE, am_mulE, am_laddE, am_lsubE, am_upO, am_upS, am_stS, am_stO, am_tnn, am_brl, am_brg, am_bre, am_brn, am_brG, am_brL, am_st1, am_no2, am_st2, am_clr, and_self, true_and, and_true, true_or, or_true, List.length_cons, List.length_nil] <;> omega) ?_
          try simp (disch := omega) only [s124 hw, r124_14 hw, s126 hw, r124_37 hw, s143 hw, r124_44 hw, s149 hw, r124_45 hw, s150 hw, e0, e, e2', e3, Int.reduceToNat, am_addE, am_subE, am_mulE, am_laddE, am_lsubE, am_upO, am_upS, am_stS, am_stO, am_tnn, am_brl, am_brg, am_bre, am_brn, am_brG, am_brL, am_st1, am_no2, am_st2, am_clr]
          refine am_wp_br (fun b29 => ?_) (fun b29 => ?_)
          · refine am_wp_go rfl (by simp (disch := omega) only [s124 hw, r124_14 hw, s126 hw, r124_37 hw, s143 hw, r124_44 hw, s149 hw, r124_45 hw, s150 hw, e0, e, e2', e3, Int.reduceToNat, am_addE, am_subE, am_mulE, am_laddE, am_lsubE, am_upO, am_upS, am_stS, am_stO, am_tnn, am_brl, am_brg, am_bre, am_brn, am_brG, am_brL, am_st1, am_no2, am_st2, am_clr, and_self, true_and, and_true, true_or, or_true, List.length_cons, List.length_nil] <;> omega) ?_
            try simp (disch := omega) only [s124 hw, r124_14 hw, s126 hw, r124_37 hw, s143 hw, r124_44 hw, s149 hw, r124_45 hw, s150 hw, e0, e, e2', e3, Int.reduceToNat, am_addE, am_subE, am_mulE, am_laddE, am_lsubE, am_upO, am_upS, am_stS, am_stO, am_tnn, am_brl, am_brg, am_bre, am_brn, am_brG, am_brL, am_st1, am_no2, am_st2, am_clr]
            exact am_wp_ls (ih (by omega) (by rw [am_ff_on (by rw [decide_eq_false (by omega)]; rfl)] at h; exact h)) rfl
          · refine am_wp_go rfl (by simp (disch := omega) only [s124 hw, r124_14 hw, s126 hw, r124_37 hw, s143 hw, r124_44 hw, s149 hw, r124_45 hw, s150 hw, e0, e, e2', e3, Int.reduceToNat, am_addE, am_subE, am_mulE, am_laddE, am_lsubE, am_upO, am_upS, am_stS, am_stO, am_tnn, am_brl, am_brg, am_bre, am_brn, am_brG, am_brL, am_st1, am_no2, am_st2, am_clr, and_self, true_and, and_true, true_or, or_true, List.length_cons, List.length_nil] <;> omega) ?_
            try simp (disch := omega) only [s124 hw, r124_14 hw, s126 hw, r124_37 hw, s143 hw, r124_44 hw, s149 hw, r124_45 hw, s150 hw, e0, e, e2', e3, Int.reduceToNat, am_addE, am_subE, am_mulE, am_laddE, am_lsubE, am_upO, am_upS, am_stS, am_stO, am_tnn, am_brl, am_brg, am_bre, am_brn, am_brG, am_brL, am_st1, am_no2, am_st2, am_clr]
            refine am_wp_cc rfl rfl rfl (congrArg Prod.fst (s124 hw)) (w_M_sideOf (l := l) hw hk hv hs e1 e2 hB ⟨_, rfl, ?_⟩)
            refine am_wp_go rfl (by simp (disch := omega) only [s124 hw, r124_14 hw, s126 hw, r124_37 hw, s143 hw, r124_44 hw, s149 hw, r124_45 hw, s150 hw, e0, e, e2', e3, Int.reduceToNat, am_addE, am_subE, am_mulE, am_laddE, am_lsubE, am_upO, am_upS, am_stS, am_stO, am_tnn, am_brl, am_brg, am_bre, am_brn, am_brG, am_brL, am_st1, am_no2, am_st2, am_clr, and_self, true_and, and_true, true_or, or_true, List.length_cons, List.length_nil] <;> omega) ?_
            try simp (disch := omega) only [s124 hw, r124_14 hw, s126 hw, r124_37 hw, s143 hw, r124_44 hw, s149 hw, r124_45 hw, s150 hw, e0, e, e2', e3, Int.reduceToNat, am_addE, am_subE, am_mulE, am_laddE, am_lsubE, am_upO, am_upS, am_stS, am_stO, am_tnn, am_brl, am_brg, am_bre, am_brn, am_brG, am_brL, am_st1, am_no2, am_st2, am_clr]
            refine am_wp_br (fun b43 => ?_) (fun b43 => ?_)
            · refine am_wp_go rfl (by simp (disch := omega) only [s124 hw, r124_14 hw, s126 hw, r124_37 hw, s143 hw, r124_44 hw, s149 hw, r124_45 hw, s150 hw, e0, e, e2', e3, Int.reduceToNat, am_addE, am_subE, am_mulE, am_laddE, am_lsubE, am_upO, am_upS, am_stS, am_stO, am_tnn, am_brl, am_brg, am_bre, am_brn, am_brG, am_brL, am_st1, am_no2, am_st2, am_clr, and_self, true_and, and_true, true_or, or_true, List.length_cons, List.length_nil] <;> omega) ?_
              try simp (disch := omega) only [s124 hw, r124_14 hw, s126 hw, r124_37 hw, s143 hw, r124_44 hw, s149 hw, r124_45 hw, s150 hw, e0, e, e2', e3, Int.reduceToNat, am_addE, am_subE, am_mulE, am_laddE, am_lsubE, am_upO, am_upS, am_stS, am_stO, am_tnn, am_brl, am_brg, am_bre, am_brn, am_brG, am_brL, am_st1, am_no2, am_st2, am_clr]
              exact am_wp_ls (ih (by omega) (by rw [am_ff_on (by rw [decide_eq_false (by omega)]; rfl)] at h; exact h)) rfl
            · refine am_wp_go rfl (by simp (disch := omega) only [s124 hw, r124_14 hw, s126 hw, r124_37 hw, s143 hw, r124_44 hw, s149 hw, r124_45 hw, s150 hw, e0, e, e2', e3, Int.reduceToNat, am_addE, am_subE, am_mulE, am_laddE, am_lsubE, am_upO, am_upS, am_stS, am_stO, am_tnn, am_brl, am_brg, am_bre, am_brn, am_brG, am_brL, am_st1, am_no2, am_st2, am_clr, and_self, true_and, and_true, true_or, or_true, List.length_cons, List.length_nil] <;> omega) ?_
              try simp (disch := omega) only [s124 hw, r124_14 hw, s126 hw, r124_37 hw, s143 hw, r124_44 hw, s149 hw, r124_45 hw, s150 hw, e0, e, e2', e3, Int.reduceToNat, am_addE, am_subE, am_mulE, am_laddE, am_lsubE, am_upO, am_upS, am_stS, am_stO, am_tnn, am_brl, am_brg, am_bre, am_brn, am_brG, am_brL, am_st1, am_no2, am_st2, am_clr]
              refine am_wp_ret rfl rfl ?_
              rwa [am_ff_hit (by omega) (by rw [decide_eq_true (show b k = (ckS l s : Int) by omega), decide_eq_true z]; rfl), if_neg (by omega)] at h
    · have e := (q.2 i z).1
      clear q qb
      refine am_wp_go rfl (by simp (disch := omega) only [s124 hw, r124_14 hw, s126 hw, r124_37 hw, s143 hw, r124_44 hw, s149 hw, r124_45 hw, s150 hw, e0, e, Int.reduceToNat, am_addE, am_subE, am_mulE, am_laddE, am_lsubE, am_upO, am_upS, am_stS, am_stO, am_tnn, am_brl, am_brg, am_bre, am_brn, am_brG, am_brL, am_st1, am_no2, am_st2, am_clr, and_self, true_and, and_true, true_or, or_true, List.length_cons, List.length_nil] <;> omega) ?_
      try simp (disch := omega) only [s124 hw, r124_14 hw, s126 hw, r124_37 hw, s143 hw, r124_44 hw, s149 hw, r124_45 hw, s150 hw, e0, e, Int.reduceToNat, am_addE, am_subE, am_mulE, am_laddE, am_lsubE, am_upO, am_upS, am_stS, am_stO, am_tnn, am_brl, am_brg, am_bre, am_brn, am_brG, am_brL, am_st1, am_no2, am_st2, am_clr]
      refine am_wp_br (fun b19 => ?_) (fun b19 => ?_)
      · refine am_wp_go rfl (by simp (disch := omega) only [s124 hw, r124_14 hw, s126 hw, r124_37 hw, s143 hw, r124_44 hw, s149 hw, r124_45 hw, s150 hw, e0, e, Int.reduceToNat, am_addE, am_subE, am_mulE, am_laddE, am_lsubE, am_upO, am_upS, am_stS, am_stO, am_tnn, am_brl, am_brg, am_bre, am_brn, am_brG, am_brL, am_st1, am_no2, am_st2, am_clr, and_self, true_and, and_true, true_or, or_true, List.length_cons, List.length_nil] <;> omega) ?_
        try simp (disch := omega) only [s124 hw, r124_14 hw, s126 hw, r124_37 hw, s143 hw, r124_44 hw, s149 hw, r124_45 hw, s150 hw, e0, e, Int.reduceToNat, am_addE, am_subE, am_mulE, am_laddE, am_lsubE, am_upO, am_upS, am_stS, am_stO, am_tnn, am_brl, am_brg, am_bre, am_brn, am_brG, am_brL, am_st1, am_no2, am_st2, am_clr]
        exact am_wp_ls (ih (by omega) (by rw [am_ff_on (by rw [decide_eq_false (show ¬ nw k = -1 by omega), Bool.and_false])] at h; exact h)) rfl
      · omega
/-- a side is on: rows of the reference behind isOn -/
def ckZ (I J : Nat → Nat → Int) (i p t : Nat) (x : Int) : Prop := (∀ a, a ≠ 143 → a ≠ 144 → a ≠ 145 → a ≠ 147 → J a = I a) ∧ J 143 = am_set (I 143) p ((i / 2 : Nat) : Int) ∧ J 144 = am_set (I 144) p ((i % 2 : Nat) : Int) ∧ J 145 = am_set (I 145) i (x - 1) ∧ J 147 = am_set (I 147) i (t : Int)
theorem w_M_isOn {i p : Nat} {x u v : Int} (hw : wd sh R) (hi : i < 16) (hp : p < 4) (eu : u = ((i / 2 : Nat) : Int)) (ev : v = ((i % 2 : Nat) : Int)) (e1 : I 145 i = x) (hx : 0 ≤ x ∧ x ≤ 1000) (h : ∀ J, ckZ I J i p t x → Q am_yv (m, sl, sh, J, R)) : am_wp (d) 274 0 [some (.inr (.inr (124))), some (.inl (u)), some (.inl (v)), some (.inl ((p : Int))), some (.inl ((t : Int)))] [] (m, sl, sh, I, R) Q := by
  subst eu
  subst ev
  have q : (2 : Int) * ((i / 2 : Nat) : Int) + ((i % 2 : Nat) : Int) = (i : Int) := by omega
  refine am_wp_go rfl (by simp (disch := omega) only [s124 hw, r124_37 hw, s143 hw, r124_38 hw, s144 hw, r124_39 hw, s145 hw, r124_42 hw, s147 hw, e1, q, am_addE, am_subE, am_mulE, am_laddE, am_lsubE, am_upO, am_upS, am_stS, am_stO, am_tnn, am_brl, am_brg, am_bre, am_brn, am_brG, am_brL, am_st1, am_no2, am_st2, am_clr, and_self, true_and, and_true, true_or, or_true, List.length_cons, List.length_nil] <;> omega) ?_
  try simp (disch := omega) only [s124 hw, r124_37 hw, s143 hw, r124_38 hw, s144 hw, r124_39 hw, s145 hw, r124_42 hw, s147 hw, e1, q, am_addE, am_subE, am_mulE, am_laddE, am_lsubE, am_upO, am_upS, am_stS, am_stO, am_tnn, am_brl, am_brg, am_bre, am_brn, am_brG, am_brL, am_st1, am_no2, am_st2, am_clr]
  refine am_wp_ret rfl rfl ?_
  refine h _ ⟨fun a h1 h2 h3 h4 => ?_, ?_, ?_, ?_, ?_⟩
  · rw [am_upO h4, am_upO h3, am_upO h2, am_upO h1]
  · rw [am_upO (by decide), am_upO (by decide), am_upO (by decide), am_upS]
  · rw [am_upO (by decide), am_upO (by decide), am_upS, am_upO (by decide)]
  · rw [am_upO (by decide), am_upS, am_upO (by decide), am_upO (by decide)]
  · rw [am_upS, am_upO (by decide), am_upO (by decide), am_upO (by decide)]
end COOK
