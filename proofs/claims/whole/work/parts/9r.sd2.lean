/-! said(): a step and a SLICE, by the class -/
section SD
variable {m sl : Nat} {sh : Nat → Nat × Nat} {I : Nat → Nat → Int} {R : Nat → Nat → Nat} {Q : am_R → am_M → Prop} {d : Nat} {W N : Nat → Int} {G : List Go}
theorem w_sHolds {i s : Nat} (hw : wd sh R) (hk : kit I 6 W N) (hp : pl I 14 G) (hi : i < 40) (hs : s < nS W) (h : Q (am_yi (am_b (svL W G (I 17 i) (I 18 i) (I 19 i) s = true))) (m, sl, sh, I, R)) : am_wp (d + 3) 91 0 [some (.inr (.inr (16))), some (.inl ((i : Int))), some (.inl ((s : Int))), some (.inr (.inr (5))), none] [] (m, sl, sh, I, R) Q := by
  have m1 := (wk_nS hk.1).2
  have n1 := (hk.2.2.1 s hs).1
  have n2 := (hk.2.2.1 s hs).2
  unfold svL at h
  have D150 : (I 17 i ≠ 7 ∧ I 17 i ≠ 8 ∧ I 17 i ≠ 9 ∧ I 17 i ≠ 10 ∧ I 17 i ≠ 14) → am_wp (d + 3) 91 150 [some (.inr (.inr (16))), some (.inl ((i : Int))), some (.inl ((s : Int))), some (.inr (.inr (5))), none] [] (m, sl, sh, I, R) Q := by
    intro hx
    rw [if_neg (by omega), if_neg (by omega), if_neg (by omega), if_neg (by omega), if_neg (by omega)] at h
    refine am_wp_go rfl (by simp (disch := omega) only [s16 hw, s5 hw, r5_1 hw, am_addE, am_subE, am_mulE, am_laddE, am_lsubE, am_upO, am_upS, am_stS, am_stO, am_tnn, am_brl, am_brg, am_bre, am_brn, am_brG, am_brL, am_st1, am_no2, am_st2, am_clr, and_self, true_and, and_true, true_or, or_true, List.length_cons, List.length_nil] <;> omega) ?_
    try simp (disch := omega) only [s16 hw, s5 hw, r5_1 hw, am_addE, am_subE, am_mulE, am_laddE, am_lsubE, am_upO, am_upS, am_stS, am_stO, am_tnn, am_brl, am_brg, am_bre, am_brn, am_brG, am_brL, am_st1, am_no2, am_st2, am_clr]
    refine am_wp_cc rfl rfl rfl (congrArg Prod.fst (s14 hw)) (w_lastEndOf (s := (s : Int)) (pl_w hw (by decide)) hp ⟨_, rfl, ?_⟩)
    refine am_wp_go rfl (by simp (disch := omega) only [s16 hw, s5 hw, r5_1 hw, am_addE, am_subE, am_mulE, am_laddE, am_lsubE, am_upO, am_upS, am_stS, am_stO, am_tnn, am_brl, am_brg, am_bre, am_brn, am_brG, am_brL, am_st1, am_no2, am_st2, am_clr, and_self, true_and, and_true, true_or, or_true, List.length_cons, List.length_nil] <;> omega) ?_
    try simp (disch := omega) only [s16 hw, s5 hw, r5_1 hw, am_addE, am_subE, am_mulE, am_laddE, am_lsubE, am_upO, am_upS, am_stS, am_stO, am_tnn, am_brl, am_brg, am_bre, am_brn, am_brG, am_brL, am_st1, am_no2, am_st2, am_clr]
    refine am_wp_cc rfl rfl rfl (congrArg Prod.fst (s16 hw)) (w_compares hw hi ⟨_, rfl, ?_⟩)
    refine am_wp_retb rfl ?_
    exact h
  refine am_wp_go rfl (by simp (disch := omega) only [s16 hw, r16_0 hw, s17 hw, am_addE, am_subE, am_mulE, am_laddE, am_lsubE, am_upO, am_upS, am_stS, am_stO, am_tnn, am_brl, am_brg, am_bre, am_brn, am_brG, am_brL, am_st1, am_no2, am_st2, am_clr, and_self, true_and, and_true, true_or, or_true, List.length_cons, List.length_nil] <;> omega) ?_
  try simp (disch := omega) only [s16 hw, r16_0 hw, s17 hw, am_addE, am_subE, am_mulE, am_laddE, am_lsubE, am_upO, am_upS, am_stS, am_stO, am_tnn, am_brl, am_brg, am_bre, am_brn, am_brG, am_brL, am_st1, am_no2, am_st2, am_clr]
  refine am_wp_tsw rfl (fun q => ?_) ⟨fun q => ?_, fun q => ?_, fun q => ?_, fun q => ?_, fun q => ?_, fun q => ?_, fun q => ?_, fun q => ?_, trivial⟩
  · exact am_wp_ls (D150 (by omega)) rfl
  · refine am_wp_pc (pc' := 52) rfl ?_
    rw [if_pos q] at h
    clear D150
    refine am_wp_go rfl (by simp (disch := omega) only [s5 hw, r5_0 hw, am_addE, am_subE, am_mulE, am_laddE, am_lsubE, am_upO, am_upS, am_stS, am_stO, am_tnn, am_brl, am_brg, am_bre, am_brn, am_brG, am_brL, am_st1, am_no2, am_st2, am_clr, and_self, true_and, and_true, true_or, or_true, List.length_cons, List.length_nil] <;> omega) ?_
    try simp (disch := omega) only [s5 hw, r5_0 hw, am_addE, am_subE, am_mulE, am_laddE, am_lsubE, am_upO, am_upS, am_stS, am_stO, am_tnn, am_brl, am_brg, am_bre, am_brn, am_brG, am_brL, am_st1, am_no2, am_st2, am_clr]
    refine am_wp_cc rfl rfl rfl (congrArg Prod.fst (s6 hw)) (w_isOnce (c := 6) (kt_w hw (by decide)) hk hs ⟨_, rfl, ?_⟩)
    refine am_wp_retb rfl ?_
    simp only [decide_eq_true_eq] at h
    exact h
  · refine am_wp_pc (pc' := 100) rfl ?_
    rw [if_neg (by omega), if_neg (by omega), if_pos (by omega)] at h
    clear D150
    refine am_wp_go rfl (by simp (disch := omega) only [s5 hw, r5_0 hw, s6 hw, r6_11 hw, s7 hw, n1, am_tnM, Int.reduceToNat, am_addE, am_subE, am_mulE, am_laddE, am_lsubE, am_upO, am_upS, am_stS, am_stO, am_tnn, am_brl, am_brg, am_bre, am_brn, am_brG, am_brL, am_st1, am_no2, am_st2, am_clr, and_self, true_and, and_true, true_or, or_true, List.length_cons, List.length_nil] <;> omega) ?_
    try simp (disch := omega) only [s5 hw, r5_0 hw, s6 hw, r6_11 hw, s7 hw, n1, am_tnM, Int.reduceToNat, am_addE, am_subE, am_mulE, am_laddE, am_lsubE, am_upO, am_upS, am_stS, am_stO, am_tnn, am_brl, am_brg, am_bre, am_brn, am_brG, am_brL, am_st1, am_no2, am_st2, am_clr]
    refine am_wp_cc rfl rfl rfl (congrArg Prod.fst (s16 hw)) (w_compares hw hi ⟨_, rfl, ?_⟩)
    refine am_wp_retb rfl ?_
    exact h
  · refine am_wp_pc (pc' := 117) rfl ?_
    rw [if_neg (by omega), if_neg (by omega), if_neg (by omega), if_pos (by omega)] at h
    clear D150
    refine am_wp_go rfl (by simp (disch := omega) only [s5 hw, r5_0 hw, s6 hw, r6_11 hw, s7 hw, n2, am_tnM, am_tnA, Int.reduceToNat, am_addE, am_subE, am_mulE, am_laddE, am_lsubE, am_upO, am_upS, am_stS, am_stO, am_tnn, am_brl, am_brg, am_bre, am_brn, am_brG, am_brL, am_st1, am_no2, am_st2, am_clr, and_self, true_and, and_true, true_or, or_true, List.length_cons, List.length_nil] <;> omega) ?_
    try simp (disch := omega) only [s5 hw, r5_0 hw, s6 hw, r6_11 hw, s7 hw, n2, am_tnM, am_tnA, Int.reduceToNat, am_addE, am_subE, am_mulE, am_laddE, am_lsubE, am_upO, am_upS, am_stS, am_stO, am_tnn, am_brl, am_brg, am_bre, am_brn, am_brG, am_brL, am_st1, am_no2, am_st2, am_clr]
    refine am_wp_cc rfl rfl rfl (congrArg Prod.fst (s16 hw)) (w_compares hw hi ⟨_, rfl, ?_⟩)
    refine am_wp_retb rfl ?_
    exact h
  · refine am_wp_pc (pc' := 136) rfl ?_
    rw [if_neg (by omega), if_neg (by omega), if_neg (by omega), if_neg (by omega), if_pos (by omega)] at h
    clear D150
    refine am_wp_go rfl (by simp (disch := omega) only [s5 hw, r5_1 hw, am_addE, am_subE, am_mulE, am_laddE, am_lsubE, am_upO, am_upS, am_stS, am_stO, am_tnn, am_brl, am_brg, am_bre, am_brn, am_brG, am_brL, am_st1, am_no2, am_st2, am_clr, and_self, true_and, and_true, true_or, or_true, List.length_cons, List.length_nil] <;> omega) ?_
    try simp (disch := omega) only [s5 hw, r5_1 hw, am_addE, am_subE, am_mulE, am_laddE, am_lsubE, am_upO, am_upS, am_stS, am_stO, am_tnn, am_brl, am_brg, am_bre, am_brn, am_brG, am_brL, am_st1, am_no2, am_st2, am_clr]
    refine am_wp_cc rfl rfl rfl (congrArg Prod.fst (s14 hw)) (w_goesOf (s := (s : Int)) (pl_w hw (by decide)) hp ⟨_, rfl, ?_⟩)
    refine am_wp_go rfl (by simp (disch := omega) only [s5 hw, r5_1 hw, am_addE, am_subE, am_mulE, am_laddE, am_lsubE, am_upO, am_upS, am_stS, am_stO, am_tnn, am_brl, am_brg, am_bre, am_brn, am_brG, am_brL, am_st1, am_no2, am_st2, am_clr, and_self, true_and, and_true, true_or, or_true, List.length_cons, List.length_nil] <;> omega) ?_
    try simp (disch := omega) only [s5 hw, r5_1 hw, am_addE, am_subE, am_mulE, am_laddE, am_lsubE, am_upO, am_upS, am_stS, am_stO, am_tnn, am_brl, am_brg, am_bre, am_brn, am_brG, am_brL, am_st1, am_no2, am_st2, am_clr]
    refine am_wp_cc rfl rfl rfl (congrArg Prod.fst (s16 hw)) (w_compares hw hi ⟨_, rfl, ?_⟩)
    refine am_wp_retb rfl ?_
    exact h
  · exact am_wp_ls (D150 (by omega)) rfl
  · exact am_wp_ls (D150 (by omega)) rfl
  · exact am_wp_ls (D150 (by omega)) rfl
  · refine am_wp_pc (pc' := 61) rfl ?_
    rw [if_neg (by omega), if_pos (by omega)] at h
    clear D150
    refine am_wp_go rfl (by simp (disch := omega) only [s5 hw, r5_1 hw, s16 hw, r16_2 hw, s19 hw, am_addE, am_subE, am_mulE, am_laddE, am_lsubE, am_upO, am_upS, am_stS, am_stO, am_tnn, am_brl, am_brg, am_bre, am_brn, am_brG, am_brL, am_st1, am_no2, am_st2, am_clr, and_self, true_and, and_true, true_or, or_true, List.length_cons, List.length_nil] <;> omega) ?_
    try simp (disch := omega) only [s5 hw, r5_1 hw, s16 hw, r16_2 hw, s19 hw, am_addE, am_subE, am_mulE, am_laddE, am_lsubE, am_upO, am_upS, am_stS, am_stO, am_tnn, am_brl, am_brg, am_bre, am_brn, am_brG, am_brL, am_st1, am_no2, am_st2, am_clr]
    refine am_wp_cc rfl rfl rfl (congrArg Prod.fst (s14 hw)) (w_lastEndOf (s := I 19 i) (pl_w hw (by decide)) hp ⟨_, rfl, ?_⟩)
    change Q (am_yi (am_b (decide (0 < enF G (I 19 i) ∧ enF G (I 19 i) < enF G (s : Int)) = true))) (m, sl, sh, I, R) at h
    simp only [decide_eq_true_eq] at h
    refine am_wp_go rfl (by simp (disch := omega) only [s5 hw, r5_1 hw, am_addE, am_subE, am_mulE, am_laddE, am_lsubE, am_upO, am_upS, am_stS, am_stO, am_tnn, am_brl, am_brg, am_bre, am_brn, am_brG, am_brL, am_st1, am_no2, am_st2, am_clr, and_self, true_and, and_true, true_or, or_true, List.length_cons, List.length_nil] <;> omega) ?_
    try simp (disch := omega) only [s5 hw, r5_1 hw, am_addE, am_subE, am_mulE, am_laddE, am_lsubE, am_upO, am_upS, am_stS, am_stO, am_tnn, am_brl, am_brg, am_bre, am_brn, am_brG, am_brL, am_st1, am_no2, am_st2, am_clr]
    refine am_wp_br (fun b78 => ?_) (fun b78 => ?_)
    · have b78 : enF G (I 19 i) ≤ 0 := b78
      refine am_wp_go rfl (by simp (disch := omega) only [s5 hw, r5_1 hw, am_addE, am_subE, am_mulE, am_laddE, am_lsubE, am_upO, am_upS, am_stS, am_stO, am_tnn, am_brl, am_brg, am_bre, am_brn, am_brG, am_brL, am_st1, am_no2, am_st2, am_clr, and_self, true_and, and_true, true_or, or_true, List.length_cons, List.length_nil] <;> omega) ?_
      try simp (disch := omega) only [s5 hw, r5_1 hw, am_addE, am_subE, am_mulE, am_laddE, am_lsubE, am_upO, am_upS, am_stS, am_stO, am_tnn, am_brl, am_brg, am_bre, am_brn, am_brG, am_brL, am_st1, am_no2, am_st2, am_clr]
      refine am_wp_ret rfl rfl ?_
      rwa [am_bF (by omega)] at h
    · have b78 : ¬ enF G (I 19 i) ≤ 0 := b78
      refine am_wp_go rfl (by simp (disch := omega) only [s5 hw, r5_1 hw, am_addE, am_subE, am_mulE, am_laddE, am_lsubE, am_upO, am_upS, am_stS, am_stO, am_tnn, am_brl, am_brg, am_bre, am_brn, am_brG, am_brL, am_st1, am_no2, am_st2, am_clr, and_self, true_and, and_true, true_or, or_true, List.length_cons, List.length_nil] <;> omega) ?_
      try simp (disch := omega) only [s5 hw, r5_1 hw, am_addE, am_subE, am_mulE, am_laddE, am_lsubE, am_upO, am_upS, am_stS, am_stO, am_tnn, am_brl, am_brg, am_bre, am_brn, am_brG, am_brL, am_st1, am_no2, am_st2, am_clr]
      refine am_wp_cc rfl rfl rfl (congrArg Prod.fst (s14 hw)) (w_lastEndOf (s := (s : Int)) (pl_w hw (by decide)) hp ⟨_, rfl, ?_⟩)
      refine am_wp_go rfl (by simp (disch := omega) only [s5 hw, r5_1 hw, am_addE, am_subE, am_mulE, am_laddE, am_lsubE, am_upO, am_upS, am_stS, am_stO, am_tnn, am_brl, am_brg, am_bre, am_brn, am_brG, am_brL, am_st1, am_no2, am_st2, am_clr, and_self, true_and, and_true, true_or, or_true, List.length_cons, List.length_nil] <;> omega) ?_
      try simp (disch := omega) only [s5 hw, r5_1 hw, am_addE, am_subE, am_mulE, am_laddE, am_lsubE, am_upO, am_upS, am_stS, am_stO, am_tnn, am_brl, am_brg, am_bre, am_brn, am_brG, am_brL, am_st1, am_no2, am_st2, am_clr]
      refine am_wp_br (fun b91 => ?_) (fun b91 => ?_)
      · have b91 : enF G (s : Int) ≤ enF G (I 19 i) := b91
        refine am_wp_go rfl (by simp (disch := omega) only [s5 hw, r5_1 hw, am_addE, am_subE, am_mulE, am_laddE, am_lsubE, am_upO, am_upS, am_stS, am_stO, am_tnn, am_brl, am_brg, am_bre, am_brn, am_brG, am_brL, am_st1, am_no2, am_st2, am_clr, and_self, true_and, and_true, true_or, or_true, List.length_cons, List.length_nil] <;> omega) ?_
        try simp (disch := omega) only [s5 hw, r5_1 hw, am_addE, am_subE, am_mulE, am_laddE, am_lsubE, am_upO, am_upS, am_stS, am_stO, am_tnn, am_brl, am_brg, am_bre, am_brn, am_brG, am_brL, am_st1, am_no2, am_st2, am_clr]
        refine am_wp_ret rfl rfl ?_
        rwa [am_bF (by omega)] at h
      · have b91 : ¬ enF G (s : Int) ≤ enF G (I 19 i) := b91
        refine am_wp_go rfl (by simp (disch := omega) only [s5 hw, r5_1 hw, am_addE, am_subE, am_mulE, am_laddE, am_lsubE, am_upO, am_upS, am_stS, am_stO, am_tnn, am_brl, am_brg, am_bre, am_brn, am_brG, am_brL, am_st1, am_no2, am_st2, am_clr, and_self, true_and, and_true, true_or, or_true, List.length_cons, List.length_nil] <;> omega) ?_
        try simp (disch := omega) only [s5 hw, r5_1 hw, am_addE, am_subE, am_mulE, am_laddE, am_lsubE, am_upO, am_upS, am_stS, am_stO, am_tnn, am_brl, am_brg, am_bre, am_brn, am_brG, am_brL, am_st1, am_no2, am_st2, am_clr]
        refine am_wp_ret rfl rfl ?_
        rwa [am_bT (by omega)] at h
end SD
