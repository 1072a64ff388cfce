/-! undo -/
theorem tk_at {H : List (List Go)} {n j : Nat} (h : j < n) : (H.take n).getD j [] = H.getD j [] := by
  simp only [List.getD_eq_getElem?_getD]
  rw [List.getElem?_take_of_lt h]
section UNDO
variable {m sl : Nat} {sh : Nat → Nat × Nat} {I : Nat → Nat → Int} {R : Nat → Nat → Nat} {Q : am_R → am_M → Prop} {d : Nat} {G : List Go} {H : List (List Go)}
theorem w_giveBack (hw : wd sh R) (hh : hsC I H) {n : Nat} (hn : H.length = n + 1) (h : ∀ J, (∀ a, ¬ (a = 14 ∨ a = 15 ∨ a = 22) → J a = I a) → J 22 2 = (n : Int) → pl J 14 (H.getD n []) → hsC J (H.take n) → Q am_yv (m, sl, sh, J, R)) : am_wp (d + 1) 14 0 [some (.inr (.inr (22))), some (.inr (.inr (14)))] [] (m, sl, sh, I, R) Q := by
  obtain ⟨o, h1, h2, h3, h4, h5⟩ := id hh
  have e : ((o : Int) + n) % 8 = (((o + n) % 8 : Nat) : Int) := by omega
  have e2 : (H.length : Int) - 1 = (n : Int) := by omega
  have hi : (o + n) % 8 < 8 := by omega
  have h6 := r23 hw hi
  refine am_wp_go rfl (by simp (disch := omega) only [s22 hw, r22_0 hw, s23 hw, h3, h4, h6, e2, am_remE, e, am_addE, am_subE, am_mulE, am_laddE, am_lsubE, am_upO, am_upS, am_stS, am_stO, am_tnn, am_brl, am_brg, am_bre, am_brn, am_brG, am_brL, am_st1, am_no2, am_st2, am_clr, and_self, true_and, and_true, true_or, or_true, List.length_cons, List.length_nil] <;> omega) ?_
  try simp (disch := omega) only [s22 hw, r22_0 hw, s23 hw, h3, h4, h6, e2, am_remE, e, am_addE, am_subE, am_mulE, am_laddE, am_lsubE, am_upO, am_upS, am_stS, am_stO, am_tnn, am_brl, am_brg, am_bre, am_brn, am_brG, am_brL, am_st1, am_no2, am_st2, am_clr]
  refine am_wp_br (fun b4 => ?_) (fun b4 => ?_)
  · omega
  · refine am_wp_go rfl (by simp (disch := omega) only [s22 hw, r22_0 hw, s23 hw, h3, h4, h6, e2, am_remE, e, am_addE, am_subE, am_mulE, am_laddE, am_lsubE, am_upO, am_upS, am_stS, am_stO, am_tnn, am_brl, am_brg, am_bre, am_brn, am_brG, am_brL, am_st1, am_no2, am_st2, am_clr, and_self, true_and, and_true, true_or, or_true, List.length_cons, List.length_nil] <;> omega) ?_
    try simp (disch := omega) only [s22 hw, r22_0 hw, s23 hw, h3, h4, h6, e2, am_remE, e, am_addE, am_subE, am_mulE, am_laddE, am_lsubE, am_upO, am_upS, am_stS, am_stO, am_tnn, am_brl, am_brg, am_bre, am_brn, am_brG, am_brL, am_st1, am_no2, am_st2, am_clr]
    refine am_wp_cc rfl rfl rfl (congrArg Prod.fst (s14 hw)) (w_plcopy (pl_w hw (by decide)) (pl_wh hw hi) (by omega) (by omega) (by omega) (pl_fr (h5 n (by omega)) (am_upO (by omega)) (am_upO (by omega))) (fun J j1 j2 => ⟨_, rfl, ?_⟩))
    refine am_wp_ret rfl rfl ?_
    have e22 : J 22 2 = (n : Int) := by rw [j1 22 (by decide) (by decide), am_upS, am_stS rfl]
    refine h J (fun a ha => by rw [j1 a (by omega) (by omega), am_upO (by omega)]) e22 j2 ⟨o, h1, by rw [List.length_take]; omega, ?_, ?_, fun j hj => ?_⟩
    · rw [j1 22 (by decide) (by decide), am_upS, am_stO (by decide), h3]
    · rw [e22, List.length_take]; omega
    · rw [List.length_take] at hj
      rw [tk_at (by omega)]
      exact pl_fr (h5 j (by omega)) (by rw [j1 _ (by omega) (by omega), am_upO (by omega)]) (by rw [j1 _ (by omega) (by omega), am_upO (by omega)])
theorem c_undo (hw : wd sh R) (hh : hsC I H) (h0 : H.length = 0 → Q (am_yi (-1)) (m, sl, sh, I, R)) (h1 : ∀ n, H.length = n + 1 → ∀ J, cqp I J → pl J 14 (H.getD n []) → hsC J (H.take n) → Q (am_yi n) (m, sl, sh, J, R)) : am_wp (d + 2) 169 0 [some (.inr (.inr (4)))] [] (m, sl, sh, I, R) Q := by
  obtain ⟨o, g1, g2, g3, g4, g5⟩ := id hh
  refine am_wp_go rfl (by simp (disch := omega) only [s4 hw, r4_2 hw, s22 hw, r4_0 hw, s5 hw, r5_1 hw, g4, am_addE, am_subE, am_mulE, am_laddE, am_lsubE, am_upO, am_upS, am_stS, am_stO, am_tnn, am_brl, am_brg, am_bre, am_brn, am_brG, am_brL, am_st1, am_no2, am_st2, am_clr, and_self, true_and, and_true, true_or, or_true, List.length_cons, List.length_nil] <;> omega) ?_
  try simp (disch := omega) only [s4 hw, r4_2 hw, s22 hw, r4_0 hw, s5 hw, r5_1 hw, g4, am_addE, am_subE, am_mulE, am_laddE, am_lsubE, am_upO, am_upS, am_stS, am_stO, am_tnn, am_brl, am_brg, am_bre, am_brn, am_brG, am_brL, am_st1, am_no2, am_st2, am_clr]
  refine am_wp_br (fun b7 => ?_) (fun b7 => ?_)
  · obtain ⟨n, hn⟩ : ∃ n, H.length = n + 1 := ⟨H.length - 1, by omega⟩
    refine am_wp_go rfl (by simp (disch := omega) only [s4 hw, r4_2 hw, s22 hw, r4_0 hw, s5 hw, r5_1 hw, g4, am_addE, am_subE, am_mulE, am_laddE, am_lsubE, am_upO, am_upS, am_stS, am_stO, am_tnn, am_brl, am_brg, am_bre, am_brn, am_brG, am_brL, am_st1, am_no2, am_st2, am_clr, and_self, true_and, and_true, true_or, or_true, List.length_cons, List.length_nil] <;> omega) ?_
    try simp (disch := omega) only [s4 hw, r4_2 hw, s22 hw, r4_0 hw, s5 hw, r5_1 hw, g4, am_addE, am_subE, am_mulE, am_laddE, am_lsubE, am_upO, am_upS, am_stS, am_stO, am_tnn, am_brl, am_brg, am_bre, am_brn, am_brG, am_brL, am_st1, am_no2, am_st2, am_clr]
    refine am_wp_cc rfl rfl rfl (congrArg Prod.fst (s22 hw)) (w_giveBack hw hh hn (fun J j1 j2 j3 j4 => ⟨_, rfl, ?_⟩))
    refine am_wp_go rfl (by simp (disch := omega) only [s4 hw, r4_2 hw, s22 hw, j2, am_addE, am_subE, am_mulE, am_laddE, am_lsubE, am_upO, am_upS, am_stS, am_stO, am_tnn, am_brl, am_brg, am_bre, am_brn, am_brG, am_brL, am_st1, am_no2, am_st2, am_clr, and_self, true_and, and_true, true_or, or_true, List.length_cons, List.length_nil] <;> omega) ?_
    try simp (disch := omega) only [s4 hw, r4_2 hw, s22 hw, j2, am_addE, am_subE, am_mulE, am_laddE, am_lsubE, am_upO, am_upS, am_stS, am_stO, am_tnn, am_brl, am_brg, am_bre, am_brn, am_brG, am_brL, am_st1, am_no2, am_st2, am_clr]
    refine am_wp_ret rfl rfl ?_
    exact h1 n hn J (cqp_of (fun a ha => j1 a (by omega))) j3 j4
  · refine am_wp_go rfl (by simp (disch := omega) only [s4 hw, r4_2 hw, s22 hw, r4_0 hw, s5 hw, r5_1 hw, g4, am_addE, am_subE, am_mulE, am_laddE, am_lsubE, am_upO, am_upS, am_stS, am_stO, am_tnn, am_brl, am_brg, am_bre, am_brn, am_brG, am_brL, am_st1, am_no2, am_st2, am_clr, and_self, true_and, and_true, true_or, or_true, List.length_cons, List.length_nil] <;> omega) ?_
    try simp (disch := omega) only [s4 hw, r4_2 hw, s22 hw, r4_0 hw, s5 hw, r5_1 hw, g4, am_addE, am_subE, am_mulE, am_laddE, am_lsubE, am_upO, am_upS, am_stS, am_stO, am_tnn, am_brl, am_brg, am_bre, am_brn, am_brG, am_brL, am_st1, am_no2, am_st2, am_clr]
    refine am_wp_ret rfl rfl ?_
    exact h0 (by omega)
theorem r_undo (hw : wd sh R) (hb : beg I) (hH : H.length ≤ 8) (hG : ∀ j, j < H.length → (H.getD j []).length ≤ 400) (hh : hsR I H) (h0 : H.length = 0 → ∀ J, rq I J → Q (am_yi (-1)) (m, sl, sh, J, R)) (h1 : ∀ n, H.length = n + 1 → ∀ J, rqp I J → rf (pw (J 126)) (H.getD n []) → hsR J (H.take n) → Q (am_yi n) (m, sl, sh, J, R)) : am_wp (d + 2) 241 0 [some (.inr (.inr (124))), none] [] (m, sl, sh, I, R) Q := by
  refine am_wp_go rfl (by simp (disch := omega) only [s124 hw, am_addE, am_subE, am_mulE, am_laddE, am_lsubE, am_upO, am_upS, am_stS, am_stO, am_tnn, am_brl, am_brg, am_bre, am_brn, am_brG, am_brL, am_st1, am_no2, am_st2, am_clr, and_self, true_and, and_true, true_or, or_true, List.length_cons, List.length_nil] <;> omega) ?_
  have q0 := rq_thrown (I := I) (x := 0)
  generalize am_up I 124 0 0 = I0 at q0 ⊢
  refine am_wp_cc rfl rfl rfl (congrArg Prod.fst (s124 hw)) (w_M_lay hw (beg_rq q0 hb) (fun J j1 j2 j3 j4 => ⟨_, rfl, ?_⟩))
  have q1 := rq_trans q0 (rq_lay j1 j2 j3 j4)
  rw [rq_lw q0] at j4
  clear j1 j2
  have hh := hsR_rq hh q1
  have g4 : J 124 22 = (H.length : Int) := hh.1
  refine am_wp_go rfl (by simp (disch := omega) only [s124 hw, g4, am_addE, am_subE, am_mulE, am_laddE, am_lsubE, am_upO, am_upS, am_stS, am_stO, am_tnn, am_brl, am_brg, am_bre, am_brn, am_brG, am_brL, am_st1, am_no2, am_st2, am_clr, and_self, true_and, and_true, true_or, or_true, List.length_cons, List.length_nil] <;> omega) ?_
  try simp (disch := omega) only [s124 hw, g4, am_addE, am_subE, am_mulE, am_laddE, am_lsubE, am_upO, am_upS, am_stS, am_stO, am_tnn, am_brl, am_brg, am_bre, am_brn, am_brG, am_brL, am_st1, am_no2, am_st2, am_clr]
  refine am_wp_br (fun b13 => ?_) (fun b13 => ?_)
  · obtain ⟨n, hn⟩ : ∃ n, H.length = n + 1 := ⟨H.length - 1, by omega⟩
    have e2 : (H.length : Int) - 1 = (n : Int) := by omega
    have hgn := hG n (by omega)
    refine am_wp_go rfl (by simp (disch := omega) only [s124 hw, g4, e2, am_addE, am_subE, am_mulE, am_laddE, am_lsubE, am_upO, am_upS, am_stS, am_stO, am_tnn, am_brl, am_brg, am_bre, am_brn, am_brG, am_brL, am_st1, am_no2, am_st2, am_clr, and_self, true_and, and_true, true_or, or_true, List.length_cons, List.length_nil] <;> omega) ?_
    try simp (disch := omega) only [s124 hw, g4, e2, am_addE, am_subE, am_mulE, am_laddE, am_lsubE, am_upO, am_upS, am_stS, am_stO, am_tnn, am_brl, am_brg, am_bre, am_brn, am_brG, am_brL, am_st1, am_no2, am_st2, am_clr]
    refine am_lp0 (P := fun k => ∀ K, (∀ a, a ≠ 124 → a ≠ 126 → K a = J a) → (∀ j, j ≠ 22 → K 124 j = J 124 j) → K 124 22 = (n : Int) → (K 126 = fun x => if 58 ≤ x ∧ x < 58 + k then J 129 (2001 * n + (x - 58)) else J 126 x) → am_wp (d + 2) 241 30 [some (.inr (.inr (124))), some (.inl ((k : Int)))] [] (m, sl, sh, K, R) Q) 2001 (fun k hk ih K k1 k2 k3 k4 => ?_) _ (fun a ha hb => am_upO ha) (fun j hj => by rw [am_upS, am_stO hj]) (by rw [am_upS, am_stS rfl]) (by rw [am_upO (by decide)]; funext x; rw [if_neg (by omega)])
    have e129 := k1 129 (by decide) (by decide)
    refine am_wp_go rfl (by simp (disch := omega) only [s124 hw, r124_14 hw, s126 hw, r124_17 hw, s129 hw, k3, am_tnA, am_tnM, Int.reduceToNat, am_addE, am_subE, am_mulE, am_laddE, am_lsubE, am_upO, am_upS, am_stS, am_stO, am_tnn, am_brl, am_brg, am_bre, am_brn, am_brG, am_brL, am_st1, am_no2, am_st2, am_clr, and_self, true_and, and_true, true_or, or_true, List.length_cons, List.length_nil] <;> omega) ?_
    try simp (disch := omega) only [s124 hw, r124_14 hw, s126 hw, r124_17 hw, s129 hw, k3, am_tnA, am_tnM, Int.reduceToNat, am_addE, am_subE, am_mulE, am_laddE, am_lsubE, am_upO, am_upS, am_stS, am_stO, am_tnn, am_brl, am_brg, am_bre, am_brn, am_brG, am_brL, am_st1, am_no2, am_st2, am_clr]
    refine am_wp_br (fun b34 => ?_) (fun b34 => ?_)
    · refine am_wp_go rfl (by simp (disch := omega) only [s124 hw, r124_14 hw, s126 hw, r124_17 hw, s129 hw, k3, am_tnA, am_tnM, Int.reduceToNat, am_addE, am_subE, am_mulE, am_laddE, am_lsubE, am_upO, am_upS, am_stS, am_stO, am_tnn, am_brl, am_brg, am_bre, am_brn, am_brG, am_brL, am_st1, am_no2, am_st2, am_clr, and_self, true_and, and_true, true_or, or_true, List.length_cons, List.length_nil] <;> omega) ?_
      try simp (disch := omega) only [s124 hw, r124_14 hw, s126 hw, r124_17 hw, s129 hw, k3, am_tnA, am_tnM, Int.reduceToNat, am_addE, am_subE, am_mulE, am_laddE, am_lsubE, am_upO, am_upS, am_stS, am_stO, am_tnn, am_brl, am_brg, am_bre, am_brn, am_brG, am_brL, am_st1, am_no2, am_st2, am_clr]
      refine am_wp_ret rfl rfl ?_
      refine h1 n hn K (rqp_of q1 j3 j4 (fun a ha => k1 a (by omega) (by omega)) (fun j h2 _ _ _ => k2 j h2) (fun j hj => by rw [k4]; dsimp only; rw [if_neg (by omega)])) ?_ ⟨by rw [k3, List.length_take]; omega, fun j hj => ?_⟩
      · refine rf_cg (hh.2 n (by omega)) (fun i hi => ?_)
        unfold pw
        rw [k4]
        dsimp only
        rw [if_pos (by omega), show 58 + i - 58 = i by omega]
      · rw [List.length_take] at hj
        rw [tk_at (by omega), e129]
        exact hh.2 j (by omega)
    · refine am_wp_go rfl (by simp (disch := omega) only [s124 hw, r124_14 hw, s126 hw, r124_17 hw, s129 hw, k3, am_tnA, am_tnM, Int.reduceToNat, am_addE, am_subE, am_mulE, am_laddE, am_lsubE, am_upO, am_upS, am_stS, am_stO, am_tnn, am_brl, am_brg, am_bre, am_brn, am_brG, am_brL, am_st1, am_no2, am_st2, am_clr, and_self, true_and, and_true, true_or, or_true, List.length_cons, List.length_nil] <;> omega) ?_
      rw [r124_14 hw, r124_17 hw]
      simp (disch := omega) only [s124 hw, r124_14 hw, s126 hw, r124_17 hw, s129 hw, k3, am_tnA, am_tnM, Int.reduceToNat, am_addE, am_subE, am_mulE, am_laddE, am_lsubE, am_upO, am_upS, am_stS, am_stO, am_tnn, am_brl, am_brg, am_bre, am_brn, am_brG, am_brL, am_st1, am_no2, am_st2, am_clr]
      refine am_wp_ls (ih (by omega) _ (fun a h1 h2 => by rw [am_upO h2, k1 a h1 h2]) (fun j hj => by rw [am_upO (by decide), k2 j hj]) (by rw [am_upO (by decide), k3]) ?_) rfl
      rw [am_upS, k4, e129]
      funext x
      simp only [am_set]
      by_cases hx : x = 58 + k
      · rw [if_pos hx, if_pos (by omega), show x - 58 = k by omega]
      · rw [if_neg hx]
        by_cases hx2 : 58 ≤ x ∧ x < 58 + k
        · rw [if_pos hx2, if_pos (by omega)]
        · rw [if_neg hx2, if_neg (by omega)]
  · refine am_wp_go rfl (by simp (disch := omega) only [s124 hw, g4, am_addE, am_subE, am_mulE, am_laddE, am_lsubE, am_upO, am_upS, am_stS, am_stO, am_tnn, am_brl, am_brg, am_bre, am_brn, am_brG, am_brL, am_st1, am_no2, am_st2, am_clr, and_self, true_and, and_true, true_or, or_true, List.length_cons, List.length_nil] <;> omega) ?_
    try simp (disch := omega) only [s124 hw, g4, am_addE, am_subE, am_mulE, am_laddE, am_lsubE, am_upO, am_upS, am_stS, am_stO, am_tnn, am_brl, am_brg, am_bre, am_brn, am_brG, am_brL, am_st1, am_no2, am_st2, am_clr]
    refine am_wp_ret rfl rfl ?_
    exact h0 (by omega) _ q1
end UNDO
