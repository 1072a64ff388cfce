/-! said(): what a step means, by the class -/
def cmpB (g x v : Int) : Bool := if g = 60 then decide (v < x) else if g = 61 then decide (v = x) else decide (x < v)
def enF (G : List Go) (s : Int) : Int := am_fmax (fun k => if gS G k = s then gB G k + gN G k else 0) G.length
def ctF (G : List Go) (s : Int) : Int := ax_ct (fun k => decide (gS G k = s)) G.length
/-- what a step that is no word of joining says of SLICE s -/
def svL (W : Nat → Int) (G : List Go) (c g x : Int) (s : Nat) : Bool := if c = 7 then decide (W (8 + 3 * s + 2) = 1) else if c = 14 then decide (0 < enF G x ∧ enF G x < enF G s) else if c = 8 then cmpB g x (W (8 + 3 * s)) else if c = 9 then cmpB g x (W (8 + 3 * s + 1)) else if c = 10 then cmpB g x (ctF G s) else cmpB g x (enF G s)
section SD
variable {m sl : Nat} {sh : Nat → Nat × Nat} {I : Nat → Nat → Int} {R : Nat → Nat → Nat} {Q : am_R → am_M → Prop} {d : Nat}
theorem w_compares {i : Nat} {v : Int} (hw : wd sh R) (hi : i < 40) (h : Q (am_yi (am_b (cmpB (I 18 i) (I 19 i) v = true))) (m, sl, sh, I, R)) : am_wp (d) 92 0 [some (.inr (.inr (16))), some (.inl (v)), some (.inl ((i : Int)))] [] (m, sl, sh, I, R) Q := by
  unfold cmpB at h
  refine am_wp_go rfl (by simp (disch := omega) only [s16 hw, r16_1 hw, s18 hw, r16_2 hw, s19 hw, am_addE, am_subE, am_mulE, am_laddE, am_lsubE, am_upO, am_upS, am_stS, am_stO, am_tnn, am_brl, am_brg, am_bre, am_brn, am_brG, am_brL, am_st1, am_no2, am_st2, am_clr, and_self, true_and, and_true, true_or, or_true, List.length_cons, List.length_nil] <;> omega) ?_
  try simp (disch := omega) only [s16 hw, r16_1 hw, s18 hw, r16_2 hw, s19 hw, am_addE, am_subE, am_mulE, am_laddE, am_lsubE, am_upO, am_upS, am_stS, am_stO, am_tnn, am_brl, am_brg, am_bre, am_brn, am_brG, am_brL, am_st1, am_no2, am_st2, am_clr]
  refine am_wp_lsw (fun q1 => ?_) ⟨fun q1 => ?_, fun q1 => ?_, trivial⟩
  · obtain ⟨q1, q2, -⟩ := q1
    refine am_wp_pc (pc' := 64) rfl ?_
    rw [if_neg q1, if_neg q2] at h
    refine am_wp_go rfl (by simp (disch := omega) only [s16 hw, r16_1 hw, s18 hw, r16_2 hw, s19 hw, am_addE, am_subE, am_mulE, am_laddE, am_lsubE, am_upO, am_upS, am_stS, am_stO, am_tnn, am_brl, am_brg, am_bre, am_brn, am_brG, am_brL, am_st1, am_no2, am_st2, am_clr, and_self, true_and, and_true, true_or, or_true, List.length_cons, List.length_nil] <;> omega) ?_
    try simp (disch := omega) only [s16 hw, r16_1 hw, s18 hw, r16_2 hw, s19 hw, am_addE, am_subE, am_mulE, am_laddE, am_lsubE, am_upO, am_upS, am_stS, am_stO, am_tnn, am_brl, am_brg, am_bre, am_brn, am_brG, am_brL, am_st1, am_no2, am_st2, am_clr]
    refine am_wp_br (fun b => ?_) (fun b => ?_)
    · refine am_wp_go rfl (by simp (disch := omega) only [s16 hw, r16_1 hw, s18 hw, r16_2 hw, s19 hw, am_addE, am_subE, am_mulE, am_laddE, am_lsubE, am_upO, am_upS, am_stS, am_stO, am_tnn, am_brl, am_brg, am_bre, am_brn, am_brG, am_brL, am_st1, am_no2, am_st2, am_clr, and_self, true_and, and_true, true_or, or_true, List.length_cons, List.length_nil] <;> omega) ?_
      try simp (disch := omega) only [s16 hw, r16_1 hw, s18 hw, r16_2 hw, s19 hw, am_addE, am_subE, am_mulE, am_laddE, am_lsubE, am_upO, am_upS, am_stS, am_stO, am_tnn, am_brl, am_brg, am_bre, am_brn, am_brG, am_brL, am_st1, am_no2, am_st2, am_clr]
      refine am_wp_ret rfl rfl ?_
      rwa [am_bF (by simp only [decide_eq_true_eq]; omega)] at h
    · refine am_wp_go rfl (by simp (disch := omega) only [s16 hw, r16_1 hw, s18 hw, r16_2 hw, s19 hw, am_addE, am_subE, am_mulE, am_laddE, am_lsubE, am_upO, am_upS, am_stS, am_stO, am_tnn, am_brl, am_brg, am_bre, am_brn, am_brG, am_brL, am_st1, am_no2, am_st2, am_clr, and_self, true_and, and_true, true_or, or_true, List.length_cons, List.length_nil] <;> omega) ?_
      try simp (disch := omega) only [s16 hw, r16_1 hw, s18 hw, r16_2 hw, s19 hw, am_addE, am_subE, am_mulE, am_laddE, am_lsubE, am_upO, am_upS, am_stS, am_stO, am_tnn, am_brl, am_brg, am_bre, am_brn, am_brG, am_brL, am_st1, am_no2, am_st2, am_clr]
      refine am_wp_ret rfl rfl ?_
      rwa [am_bT (by simp only [decide_eq_true_eq]; omega)] at h
  · refine am_wp_pc (pc' := 32) rfl ?_
    rw [if_pos q1] at h
    refine am_wp_go rfl (by simp (disch := omega) only [s16 hw, r16_1 hw, s18 hw, r16_2 hw, s19 hw, am_addE, am_subE, am_mulE, am_laddE, am_lsubE, am_upO, am_upS, am_stS, am_stO, am_tnn, am_brl, am_brg, am_bre, am_brn, am_brG, am_brL, am_st1, am_no2, am_st2, am_clr, and_self, true_and, and_true, true_or, or_true, List.length_cons, List.length_nil] <;> omega) ?_
    try simp (disch := omega) only [s16 hw, r16_1 hw, s18 hw, r16_2 hw, s19 hw, am_addE, am_subE, am_mulE, am_laddE, am_lsubE, am_upO, am_upS, am_stS, am_stO, am_tnn, am_brl, am_brg, am_bre, am_brn, am_brG, am_brL, am_st1, am_no2, am_st2, am_clr]
    refine am_wp_br (fun b => ?_) (fun b => ?_)
    · refine am_wp_go rfl (by simp (disch := omega) only [s16 hw, r16_1 hw, s18 hw, r16_2 hw, s19 hw, am_addE, am_subE, am_mulE, am_laddE, am_lsubE, am_upO, am_upS, am_stS, am_stO, am_tnn, am_brl, am_brg, am_bre, am_brn, am_brG, am_brL, am_st1, am_no2, am_st2, am_clr, and_self, true_and, and_true, true_or, or_true, List.length_cons, List.length_nil] <;> omega) ?_
      try simp (disch := omega) only [s16 hw, r16_1 hw, s18 hw, r16_2 hw, s19 hw, am_addE, am_subE, am_mulE, am_laddE, am_lsubE, am_upO, am_upS, am_stS, am_stO, am_tnn, am_brl, am_brg, am_bre, am_brn, am_brG, am_brL, am_st1, am_no2, am_st2, am_clr]
      refine am_wp_ret rfl rfl ?_
      rwa [am_bF (by simp only [decide_eq_true_eq]; omega)] at h
    · refine am_wp_go rfl (by simp (disch := omega) only [s16 hw, r16_1 hw, s18 hw, r16_2 hw, s19 hw, am_addE, am_subE, am_mulE, am_laddE, am_lsubE, am_upO, am_upS, am_stS, am_stO, am_tnn, am_brl, am_brg, am_bre, am_brn, am_brG, am_brL, am_st1, am_no2, am_st2, am_clr, and_self, true_and, and_true, true_or, or_true, List.length_cons, List.length_nil] <;> omega) ?_
      try simp (disch := omega) only [s16 hw, r16_1 hw, s18 hw, r16_2 hw, s19 hw, am_addE, am_subE, am_mulE, am_laddE, am_lsubE, am_upO, am_upS, am_stS, am_stO, am_tnn, am_brl, am_brg, am_bre, am_brn, am_brG, am_brL, am_st1, am_no2, am_st2, am_clr]
      refine am_wp_ret rfl rfl ?_
      rwa [am_bT (by simp only [decide_eq_true_eq]; omega)] at h
  · refine am_wp_pc (pc' := 48) rfl ?_
    rw [if_neg (by omega), if_pos q1] at h
    refine am_wp_go rfl (by simp (disch := omega) only [s16 hw, r16_1 hw, s18 hw, r16_2 hw, s19 hw, am_addE, am_subE, am_mulE, am_laddE, am_lsubE, am_upO, am_upS, am_stS, am_stO, am_tnn, am_brl, am_brg, am_bre, am_brn, am_brG, am_brL, am_st1, am_no2, am_st2, am_clr, and_self, true_and, and_true, true_or, or_true, List.length_cons, List.length_nil] <;> omega) ?_
    try simp (disch := omega) only [s16 hw, r16_1 hw, s18 hw, r16_2 hw, s19 hw, am_addE, am_subE, am_mulE, am_laddE, am_lsubE, am_upO, am_upS, am_stS, am_stO, am_tnn, am_brl, am_brg, am_bre, am_brn, am_brG, am_brL, am_st1, am_no2, am_st2, am_clr]
    refine am_wp_br (fun b => ?_) (fun b => ?_)
    · refine am_wp_go rfl (by simp (disch := omega) only [s16 hw, r16_1 hw, s18 hw, r16_2 hw, s19 hw, am_addE, am_subE, am_mulE, am_laddE, am_lsubE, am_upO, am_upS, am_stS, am_stO, am_tnn, am_brl, am_brg, am_bre, am_brn, am_brG, am_brL, am_st1, am_no2, am_st2, am_clr, and_self, true_and, and_true, true_or, or_true, List.length_cons, List.length_nil] <;> omega) ?_
      try simp (disch := omega) only [s16 hw, r16_1 hw, s18 hw, r16_2 hw, s19 hw, am_addE, am_subE, am_mulE, am_laddE, am_lsubE, am_upO, am_upS, am_stS, am_stO, am_tnn, am_brl, am_brg, am_bre, am_brn, am_brG, am_brL, am_st1, am_no2, am_st2, am_clr]
      refine am_wp_ret rfl rfl ?_
      rwa [am_bF (by simp only [decide_eq_true_eq]; omega)] at h
    · refine am_wp_go rfl (by simp (disch := omega) only [s16 hw, r16_1 hw, s18 hw, r16_2 hw, s19 hw, am_addE, am_subE, am_mulE, am_laddE, am_lsubE, am_upO, am_upS, am_stS, am_stO, am_tnn, am_brl, am_brg, am_bre, am_brn, am_brG, am_brL, am_st1, am_no2, am_st2, am_clr, and_self, true_and, and_true, true_or, or_true, List.length_cons, List.length_nil] <;> omega) ?_
      try simp (disch := omega) only [s16 hw, r16_1 hw, s18 hw, r16_2 hw, s19 hw, am_addE, am_subE, am_mulE, am_laddE, am_lsubE, am_upO, am_upS, am_stS, am_stO, am_tnn, am_brl, am_brg, am_bre, am_brn, am_brG, am_brL, am_st1, am_no2, am_st2, am_clr]
      refine am_wp_ret rfl rfl ?_
      rwa [am_bT (by simp only [decide_eq_true_eq]; omega)] at h
end SD
