/-! said(): the SLICES of a step, by the class -/
def svA (W : Nat → Int) (G : List Go) (c g x : Int) (s : Nat) : Bool := if c = 13 then decide (lkW W G s 0 ≤ 0 ∧ lkW W G s 1 ≤ 0) else svL W G c g x s
section SD
variable {m sl : Nat} {sh : Nat → Nat × Nat} {I : Nat → Nat → Int} {R : Nat → Nat → Nat} {Q : am_R → am_M → Prop} {d : Nat} {W N : Nat → Int} {G : List Go}
theorem w_slicesOfStep {i : Nat} (hw : wd sh R) (ht : st_is sh R 5) (hk : kit I 6 W N) (hp : pl I 14 G) (hi : i < 40) (h : Q (am_yi (ax_bs (fun s => svA W G (I 17 i) (I 18 i) (I 19 i) s) (nS W))) (m, sl, sh, I, R)) : am_wp (d + 5) 90 0 [some (.inr (.inr (16))), some (.inl ((i : Int))), some (.inr (.inr (5))), none, none] [] (m, sl, sh, I, R) Q := by
  have m1 := wk_nS hk.1
  have o1 : I 6 6 = (nS W : Int) := by rw [hk.2.1.2.2.2.2.2.1]; exact m1.1
  refine am_wp_go rfl (by simp (disch := omega) only [s16 hw, r16_0 hw, s17 hw, am_addE, am_subE, am_mulE, am_laddE, am_lsubE, am_upO, am_upS, am_stS, am_stO, am_tnn, am_brl, am_brg, am_bre, am_brn, am_brG, am_brL, am_st1, am_no2, am_st2, am_clr, and_self, true_and, and_true, true_or, or_true, List.length_cons, List.length_nil] <;> omega) ?_
  try simp (disch := omega) only [s16 hw, r16_0 hw, s17 hw, am_addE, am_subE, am_mulE, am_laddE, am_lsubE, am_upO, am_upS, am_stS, am_stO, am_tnn, am_brl, am_brg, am_bre, am_brn, am_brG, am_brL, am_st1, am_no2, am_st2, am_clr]
  refine am_wp_br (fun b8 => ?_) (fun b8 => ?_)
  · have e : (fun s => svA W G (I 17 i) (I 18 i) (I 19 i) s) = fun s => svL W G (I 17 i) (I 18 i) (I 19 i) s := by
      funext s
      unfold svA
      rw [if_neg b8]
    rw [e] at h
    refine am_wp_go rfl (by simp (disch := omega) only [s5 hw, r5_0 hw, s6 hw, o1, am_orN, am_shl1, am_b0, am_addE, am_subE, am_mulE, am_laddE, am_lsubE, am_upO, am_upS, am_stS, am_stO, am_tnn, am_brl, am_brg, am_bre, am_brn, am_brG, am_brL, am_st1, am_no2, am_st2, am_clr, and_self, true_and, and_true, true_or, or_true, List.length_cons, List.length_nil] <;> omega) ?_
    try simp (disch := omega) only [s5 hw, r5_0 hw, s6 hw, o1, am_orN, am_shl1, am_b0, am_addE, am_subE, am_mulE, am_laddE, am_lsubE, am_upO, am_upS, am_stS, am_stO, am_tnn, am_brl, am_brg, am_bre, am_brn, am_brG, am_brL, am_st1, am_no2, am_st2, am_clr]
    refine am_lp0 (P := fun k => am_wp (d + 5) 90 21 [some (.inr (.inr (16))), some (.inl ((i : Int))), some (.inr (.inr (5))), some (.inl ((ax_bs (fun s => svL W G (I 17 i) (I 18 i) (I 19 i) s) k : Int))), some (.inl ((k : Int)))] [] (m, sl, sh, I, R) Q) (nS W) (fun k hkn ih => ?_)
    refine am_wp_go rfl (by simp (disch := omega) only [s5 hw, r5_0 hw, s6 hw, o1, am_orN, am_shl1, am_b0, am_addE, am_subE, am_mulE, am_laddE, am_lsubE, am_upO, am_upS, am_stS, am_stO, am_tnn, am_brl, am_brg, am_bre, am_brn, am_brG, am_brL, am_st1, am_no2, am_st2, am_clr, and_self, true_and, and_true, true_or, or_true, List.length_cons, List.length_nil] <;> omega) ?_
    try simp (disch := omega) only [s5 hw, r5_0 hw, s6 hw, o1, am_orN, am_shl1, am_b0, am_addE, am_subE, am_mulE, am_laddE, am_lsubE, am_upO, am_upS, am_stS, am_stO, am_tnn, am_brl, am_brg, am_bre, am_brn, am_brG, am_brL, am_st1, am_no2, am_st2, am_clr]
    refine am_wp_br (fun b30 => ?_) (fun b30 => ?_)
    · refine am_wp_go rfl (by simp (disch := omega) only [s5 hw, r5_0 hw, s6 hw, o1, am_orN, am_shl1, am_b0, am_addE, am_subE, am_mulE, am_laddE, am_lsubE, am_upO, am_upS, am_stS, am_stO, am_tnn, am_brl, am_brg, am_bre, am_brn, am_brG, am_brL, am_st1, am_no2, am_st2, am_clr, and_self, true_and, and_true, true_or, or_true, List.length_cons, List.length_nil] <;> omega) ?_
      try simp (disch := omega) only [s5 hw, r5_0 hw, s6 hw, o1, am_orN, am_shl1, am_b0, am_addE, am_subE, am_mulE, am_laddE, am_lsubE, am_upO, am_upS, am_stS, am_stO, am_tnn, am_brl, am_brg, am_bre, am_brn, am_brG, am_brL, am_st1, am_no2, am_st2, am_clr]
      refine am_wp_ret rfl rfl ?_
      rw [show nS W = k by omega] at h
      exact h
    · have h3 := ax_bs8 (p := fun s => svL W G (I 17 i) (I 18 i) (I 19 i) s) (n := k) (by omega)
      have h4 := ax_p8 (s := k) (by omega)
      refine am_wp_go rfl (by simp (disch := omega) only [s5 hw, r5_0 hw, s6 hw, o1, am_orN, am_shl1, am_b0, am_addE, am_subE, am_mulE, am_laddE, am_lsubE, am_upO, am_upS, am_stS, am_stO, am_tnn, am_brl, am_brg, am_bre, am_brn, am_brG, am_brL, am_st1, am_no2, am_st2, am_clr, and_self, true_and, and_true, true_or, or_true, List.length_cons, List.length_nil] <;> omega) ?_
      try simp (disch := omega) only [s5 hw, r5_0 hw, s6 hw, o1, am_orN, am_shl1, am_b0, am_addE, am_subE, am_mulE, am_laddE, am_lsubE, am_upO, am_upS, am_stS, am_stO, am_tnn, am_brl, am_brg, am_bre, am_brn, am_brG, am_brL, am_st1, am_no2, am_st2, am_clr]
      refine am_wp_cc rfl rfl rfl (congrArg Prod.fst (s16 hw)) (w_sHolds (W := W) (N := N) (G := G) (s := k) hw hk hp hi (by omega) ⟨_, rfl, ?_⟩)
      refine am_wp_go rfl (by simp (disch := omega) only [s5 hw, r5_0 hw, s6 hw, o1, am_orN, am_shl1, am_b0, am_addE, am_subE, am_mulE, am_laddE, am_lsubE, am_upO, am_upS, am_stS, am_stO, am_tnn, am_brl, am_brg, am_bre, am_brn, am_brG, am_brL, am_st1, am_no2, am_st2, am_clr, and_self, true_and, and_true, true_or, or_true, List.length_cons, List.length_nil] <;> omega) ?_
      try simp (disch := omega) only [s5 hw, r5_0 hw, s6 hw, o1, am_orN, am_shl1, am_b0, am_addE, am_subE, am_mulE, am_laddE, am_lsubE, am_upO, am_upS, am_stS, am_stO, am_tnn, am_brl, am_brg, am_bre, am_brn, am_brG, am_brL, am_st1, am_no2, am_st2, am_clr]
      refine am_wp_br (fun b41 => ?_) (fun b41 => ?_)
      · refine am_wp_go rfl (by simp (disch := omega) only [s5 hw, r5_0 hw, s6 hw, o1, am_orN, am_shl1, am_b0, am_addE, am_subE, am_mulE, am_laddE, am_lsubE, am_upO, am_upS, am_stS, am_stO, am_tnn, am_brl, am_brg, am_bre, am_brn, am_brG, am_brL, am_st1, am_no2, am_st2, am_clr, and_self, true_and, and_true, true_or, or_true, List.length_cons, List.length_nil] <;> omega) ?_
        try simp (disch := omega) only [s5 hw, r5_0 hw, s6 hw, o1, am_orN, am_shl1, am_b0, am_addE, am_subE, am_mulE, am_laddE, am_lsubE, am_upO, am_upS, am_stS, am_stO, am_tnn, am_brl, am_brg, am_bre, am_brn, am_brG, am_brL, am_st1, am_no2, am_st2, am_clr]
        have h21 : svL W G (I 17 i) (I 18 i) (I 19 i) k = false := by simpa using b41
        exact am_wp_ls (ih (by omega)) (by simp (disch := omega) only [ax_bs, h21, cond_false, s5 hw, r5_0 hw, s6 hw, o1, am_orN, am_shl1, am_b0, am_addE, am_subE, am_mulE, am_laddE, am_lsubE, am_upO, am_upS, am_stS, am_stO, am_tnn, am_brl, am_brg, am_bre, am_brn, am_brG, am_brL, am_st1, am_no2, am_st2, am_clr, List.cons.injEq, Option.some.injEq, Sum.inl.injEq, Sum.inr.injEq, and_self, true_and, and_true] <;> omega)
      · refine am_wp_go rfl (by simp (disch := omega) only [s5 hw, r5_0 hw, s6 hw, o1, am_orN, am_shl1, am_b0, am_addE, am_subE, am_mulE, am_laddE, am_lsubE, am_upO, am_upS, am_stS, am_stO, am_tnn, am_brl, am_brg, am_bre, am_brn, am_brG, am_brL, am_st1, am_no2, am_st2, am_clr, and_self, true_and, and_true, true_or, or_true, List.length_cons, List.length_nil] <;> omega) ?_
        try simp (disch := omega) only [s5 hw, r5_0 hw, s6 hw, o1, am_orN, am_shl1, am_b0, am_addE, am_subE, am_mulE, am_laddE, am_lsubE, am_upO, am_upS, am_stS, am_stO, am_tnn, am_brl, am_brg, am_bre, am_brn, am_brG, am_brL, am_st1, am_no2, am_st2, am_clr]
        have h21 : svL W G (I 17 i) (I 18 i) (I 19 i) k = true := by simpa using b41
        exact am_wp_ls (ih (by omega)) (by simp (disch := omega) only [ax_bs, h21, cond_true, ax_bs_or, s5 hw, r5_0 hw, s6 hw, o1, am_orN, am_shl1, am_b0, am_addE, am_subE, am_mulE, am_laddE, am_lsubE, am_upO, am_upS, am_stS, am_stO, am_tnn, am_brl, am_brg, am_bre, am_brn, am_brG, am_brL, am_st1, am_no2, am_st2, am_clr, List.cons.injEq, Option.some.injEq, Sum.inl.injEq, Sum.inr.injEq, and_self, true_and, and_true] <;> omega)
  · have b8 : I 17 i = 13 := Classical.not_not.mp b8
    have e : (fun s => svA W G (I 17 i) (I 18 i) (I 19 i) s) = fun s => decide (lkW W G s 0 ≤ 0 ∧ lkW W G s 1 ≤ 0) := by
      funext s
      unfold svA
      rw [if_pos b8]
    rw [e] at h
    refine am_wp_go rfl (by simp (disch := omega) only [am_addE, am_subE, am_mulE, am_laddE, am_lsubE, am_upO, am_upS, am_stS, am_stO, am_tnn, am_brl, am_brg, am_bre, am_brn, am_brG, am_brL, am_st1, am_no2, am_st2, am_clr, and_self, true_and, and_true, true_or, or_true, List.length_cons, List.length_nil] <;> omega) ?_
    try simp (disch := omega) only [am_addE, am_subE, am_mulE, am_laddE, am_lsubE, am_upO, am_upS, am_stS, am_stO, am_tnn, am_brl, am_brg, am_bre, am_brn, am_brG, am_brL, am_st1, am_no2, am_st2, am_clr]
    refine am_wp_cc rfl rfl rfl (congrArg Prod.fst (s5 hw)) (w_doneSlices (t := 5) ht hk hp ⟨_, rfl, ?_⟩)
    refine am_wp_ret rfl rfl ?_
    exact h
end SD
