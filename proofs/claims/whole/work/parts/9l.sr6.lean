/-! A SENTENCE's text by the reference: not, brackets, one part -/
section SR
variable {d : Nat} {b : Nat → Nat} {n lim : Nat} {NM : Nat → List Nat} {q k : Nat} {f : SNS → SNR}
theorem ndR_N {I J : Nat → Nat → Int} {S : SNS} (h : ndR I q S) (e : J 159 = I 159) (e1 : J 124 58 = I 124 58) (e2 : J 124 59 = I 124 59) : ndR J q S := by
  unfold ndR at h ⊢
  rw [e, e1, e2]; exact h
theorem w_M_sNot (hf : cRn b n lim NM q f k (fun m sl sh I R Q => am_wp (d + 5) 313 0 [some (.inr (.inr (124))), none, none, none] [] (m, sl, sh, I, R) Q)) (hK : ∀ S S', S.2.1 ≤ 20 → f S = .inr S' → sK S S') (hP : ∀ S S', f S = .inr S' → sP S S') : cRn b n lim NM q (fun S => sNot (f S)) k (fun m sl sh I R Q => am_wp (d + 6) 314 0 [some (.inr (.inr (124)))] [] (m, sl, sh, I, R) Q) := by
  intro Q m0 sl0 sh0 I R0 S hw hm0 hc hnm hs h60 hl ho h0 h1
  dsimp only at h0 h1
  refine am_wp_go rfl (by simp (disch := omega) only [am_addE, am_subE, am_mulE, am_laddE, am_lsubE, am_upO, am_upS, am_stS, am_stO, am_tnn, am_brl, am_brg, am_bre, am_brn, am_brG, am_brL, am_st1, am_no2, am_st2, am_clr, and_self, true_and, and_true, true_or, or_true, List.length_cons, List.length_nil] <;> omega) ?_
  try simp (disch := omega) only [am_addE, am_subE, am_mulE, am_laddE, am_lsubE, am_upO, am_upS, am_stS, am_stO, am_tnn, am_brl, am_brg, am_bre, am_brn, am_brG, am_brL, am_st1, am_no2, am_st2, am_clr]
  refine am_wp_cc rfl rfl rfl (congrArg Prod.fst (s124 hw)) (hf _ m0 sl0 sh0 I R0 S hw hm0 hc hnm hs h60 hl ho (fun e he m1 sl1 sh1 J R1 j0 j1 j2 j3 j4 j5 j6 => ⟨_, rfl, ?_⟩) (fun S' he m1 sl1 sh1 J R1 j0 j1 j2 j3 j4 j5 j6 j7 j8 j9 => ⟨_, rfl, ?_⟩))
  · rw [he] at h0
    refine am_wp_go rfl (by simp (disch := omega) only [am_addE, am_subE, am_mulE, am_laddE, am_lsubE, am_upO, am_upS, am_stS, am_stO, am_tnn, am_brl, am_brg, am_bre, am_brn, am_brG, am_brL, am_st1, am_no2, am_st2, am_clr, and_self, true_and, and_true, true_or, or_true, List.length_cons, List.length_nil] <;> omega) ?_
    refine am_wp_pc (pc' := 7) rfl ?_
    refine am_wp_go rfl (by simp (disch := omega) only [am_addE, am_subE, am_mulE, am_laddE, am_lsubE, am_upO, am_upS, am_stS, am_stO, am_tnn, am_brl, am_brg, am_bre, am_brn, am_brG, am_brL, am_st1, am_no2, am_st2, am_clr, and_self, true_and, and_true, true_or, or_true, List.length_cons, List.length_nil] <;> omega) ?_
    try simp (disch := omega) only [am_addE, am_subE, am_mulE, am_laddE, am_lsubE, am_upO, am_upS, am_stS, am_stO, am_tnn, am_brl, am_brg, am_bre, am_brn, am_brG, am_brL, am_st1, am_no2, am_st2, am_clr]
    refine am_wp_ret rfl rfl ?_
    exact h0 e rfl m1 sl1 sh1 J R1 j0 j1 j2 j3 j4 j5 j6
  · rw [he] at h1
    have k1 := hK _ _ ho he
    unfold sK at k1
    have p1 := hP _ _ he
    have hw1 := mo_wd j0 hw
    have hw := hw1
    refine am_wp_go rfl (by simp (disch := omega) only [am_addE, am_subE, am_mulE, am_laddE, am_lsubE, am_upO, am_upS, am_stS, am_stO, am_tnn, am_brl, am_brg, am_bre, am_brn, am_brG, am_brL, am_st1, am_no2, am_st2, am_clr, and_self, true_and, and_true, true_or, or_true, List.length_cons, List.length_nil] <;> omega) ?_
    refine am_wp_pc (pc' := 9) rfl ?_
    refine am_wp_go rfl (by simp (disch := omega) only [s124 hw, j7, am_addE, am_subE, am_mulE, am_laddE, am_lsubE, am_upO, am_upS, am_stS, am_stO, am_tnn, am_brl, am_brg, am_bre, am_brn, am_brG, am_brL, am_st1, am_no2, am_st2, am_clr, and_self, true_and, and_true, true_or, or_true, List.length_cons, List.length_nil] <;> omega) ?_
    try simp (disch := omega) only [s124 hw, j7, am_addE, am_subE, am_mulE, am_laddE, am_lsubE, am_upO, am_upS, am_stS, am_stO, am_tnn, am_brl, am_brg, am_bre, am_brn, am_brG, am_brL, am_st1, am_no2, am_st2, am_clr]
    refine am_wp_cc rfl rfl rfl (congrArg Prod.fst (s124 hw)) (w_M_saysOne (k := S'.2.2.length) hw j8.1 (by omega) (fun B b0 => ⟨_, rfl, ?_⟩))
    refine am_wp_go rfl (by simp (disch := omega) only [s124 hw, j7, am_addE, am_subE, am_mulE, am_laddE, am_lsubE, am_upO, am_upS, am_stS, am_stO, am_tnn, am_brl, am_brg, am_bre, am_brn, am_brG, am_brL, am_st1, am_no2, am_st2, am_clr, and_self, true_and, and_true, true_or, or_true, List.length_cons, List.length_nil] <;> omega) ?_
    try simp (disch := omega) only [s124 hw, j7, am_addE, am_subE, am_mulE, am_laddE, am_lsubE, am_upO, am_upS, am_stS, am_stO, am_tnn, am_brl, am_brg, am_bre, am_brn, am_brG, am_brL, am_st1, am_no2, am_st2, am_clr]
    obtain ⟨v0, v1, v2, v3⟩ := frD_v b0
    have l2 := p1.2.1
    have nd : ndR B q (S'.1, S'.2.1, S'.2.2 ++ [(12, 0, 0)]) := nd_say j8 b0 (Or.inl ⟨by rw [st_last.1], v0, S'.2.2.length - 1, sx_stk (stf S.2.2) S.2.2.length, by rw [stk_pre (Nat.le_refl _), p1.2.2], by rw [v1]; omega⟩)
    refine am_wp_ret rfl rfl ?_
    refine h1 (S'.1, S'.2.1, S'.2.2 ++ [(12, 0, 0)]) rfl m1 sl1 sh1 _ R1 j0 j1 j2 j3 (frN_up (frN_tr j4 (frD_N b0)) (by decide)) ?_ ?_ ?_ (ndR_u (S := (0, S'.2.1, S'.2.2 ++ [(12, 0, 0)])) nd (by decide)) (rpR_up (frD_rp b0 j9) (Or.inr ⟨rfl, by decide⟩))
    · rw [am_upS, am_stO (by decide), b0.2.1 10 (by decide), j5]
    · rw [am_upS, am_stO (by decide), b0.2.1 60 (by decide), j6]
    · rw [am_upS, am_stS rfl]
      dsimp only
      rw [List.length_append, List.length_singleton]
      omega
theorem w_M_sBracket (hf : cRn b n lim NM q f k (fun m sl sh I R Q => am_wp (d + 7) 310 0 [some (.inr (.inr (124))), none] [] (m, sl, sh, I, R) Q)) (hK : ∀ S S', S.2.1 ≤ 20 → f S = .inr S' → sK S S') : cRn b n lim NM q (fun S => sCls (lxJ b n lim) (f S)) k (fun m sl sh I R Q => am_wp (d + 8) 315 0 [some (.inr (.inr (124)))] [] (m, sl, sh, I, R) Q) := by
  intro Q m0 sl0 sh0 I R0 S hw hm0 hc hnm hs h60 hl ho h0 h1
  dsimp only at h0 h1
  refine am_wp_go rfl (by simp (disch := omega) only [am_addE, am_subE, am_mulE, am_laddE, am_lsubE, am_upO, am_upS, am_stS, am_stO, am_tnn, am_brl, am_brg, am_bre, am_brn, am_brG, am_brL, am_st1, am_no2, am_st2, am_clr, and_self, true_and, and_true, true_or, or_true, List.length_cons, List.length_nil] <;> omega) ?_
  try simp (disch := omega) only [am_addE, am_subE, am_mulE, am_laddE, am_lsubE, am_upO, am_upS, am_stS, am_stO, am_tnn, am_brl, am_brg, am_bre, am_brn, am_brG, am_brL, am_st1, am_no2, am_st2, am_clr]
  refine am_wp_cc rfl rfl rfl (congrArg Prod.fst (s124 hw)) (hf _ m0 sl0 sh0 I R0 S hw hm0 hc hnm hs h60 hl ho (fun e he m1 sl1 sh1 J R1 j0 j1 j2 j3 j4 j5 j6 => ⟨_, rfl, ?_⟩) (fun S' he m1 sl1 sh1 J R1 j0 j1 j2 j3 j4 j5 j6 j7 j8 j9 => ⟨_, rfl, ?_⟩))
  · rw [he] at h0
    refine am_wp_go rfl (by simp (disch := omega) only [am_addE, am_subE, am_mulE, am_laddE, am_lsubE, am_upO, am_upS, am_stS, am_stO, am_tnn, am_brl, am_brg, am_bre, am_brn, am_brG, am_brL, am_st1, am_no2, am_st2, am_clr, and_self, true_and, and_true, true_or, or_true, List.length_cons, List.length_nil] <;> omega) ?_
    refine am_wp_pc (pc' := 7) rfl ?_
    refine am_wp_go rfl (by simp (disch := omega) only [am_addE, am_subE, am_mulE, am_laddE, am_lsubE, am_upO, am_upS, am_stS, am_stO, am_tnn, am_brl, am_brg, am_bre, am_brn, am_brG, am_brL, am_st1, am_no2, am_st2, am_clr, and_self, true_and, and_true, true_or, or_true, List.length_cons, List.length_nil] <;> omega) ?_
    try simp (disch := omega) only [am_addE, am_subE, am_mulE, am_laddE, am_lsubE, am_upO, am_upS, am_stS, am_stO, am_tnn, am_brl, am_brg, am_bre, am_brn, am_brG, am_brL, am_st1, am_no2, am_st2, am_clr]
    refine am_wp_ret rfl rfl ?_
    exact h0 e rfl m1 sl1 sh1 J R1 j0 j1 j2 j3 j4 j5 j6
  · have k1 := hK _ _ ho he
    unfold sK at k1
    rw [he] at h0 h1
    unfold sCls at h0 h1
    dsimp only at h0 h1
    have hw1 := mo_wd j0 hw
    have hw := hw1
    refine am_wp_go rfl (by simp (disch := omega) only [am_addE, am_subE, am_mulE, am_laddE, am_lsubE, am_upO, am_upS, am_stS, am_stO, am_tnn, am_brl, am_brg, am_bre, am_brn, am_brG, am_brL, am_st1, am_no2, am_st2, am_clr, and_self, true_and, and_true, true_or, or_true, List.length_cons, List.length_nil] <;> omega) ?_
    refine am_wp_pc (pc' := 9) rfl ?_
    refine am_wp_go rfl (by simp (disch := omega) only [s124 hw, am_bn0, am_addE, am_subE, am_mulE, am_laddE, am_lsubE, am_upO, am_upS, am_stS, am_stO, am_tnn, am_brl, am_brg, am_bre, am_brn, am_brG, am_brL, am_st1, am_no2, am_st2, am_clr, and_self, true_and, and_true, true_or, or_true, List.length_cons, List.length_nil] <;> omega) ?_
    try simp (disch := omega) only [s124 hw, am_bn0, am_addE, am_subE, am_mulE, am_laddE, am_lsubE, am_upO, am_upS, am_stS, am_stO, am_tnn, am_brl, am_brg, am_bre, am_brn, am_brG, am_brL, am_st1, am_no2, am_st2, am_clr]
    refine am_wp_cc rfl rfl rfl (congrArg Prod.fst (s124 hw)) (w_M_isSignR (c := 41) hw j9 ⟨_, rfl, ?_⟩)
    refine am_wp_go rfl (by simp (disch := omega) only [s124 hw, am_bn0, am_addE, am_subE, am_mulE, am_laddE, am_lsubE, am_upO, am_upS, am_stS, am_stO, am_tnn, am_brl, am_brg, am_bre, am_brn, am_brG, am_brL, am_st1, am_no2, am_st2, am_clr, and_self, true_and, and_true, true_or, or_true, List.length_cons, List.length_nil] <;> omega) ?_
    try simp (disch := omega) only [s124 hw, am_bn0, am_addE, am_subE, am_mulE, am_laddE, am_lsubE, am_upO, am_upS, am_stS, am_stO, am_tnn, am_brl, am_brg, am_bre, am_brn, am_brG, am_brL, am_st1, am_no2, am_st2, am_clr]
    refine am_wp_br (fun b15 => ?_) (fun b15 => ?_)
    · rw [if_pos b15] at h1
      have t5 := b15.1
      refine am_wp_go rfl (by simp (disch := omega) only [s124 hw, am_bn0, am_addE, am_subE, am_mulE, am_laddE, am_lsubE, am_upO, am_upS, am_stS, am_stO, am_tnn, am_brl, am_brg, am_bre, am_brn, am_brG, am_brL, am_st1, am_no2, am_st2, am_clr, and_self, true_and, and_true, true_or, or_true, List.length_cons, List.length_nil] <;> omega) ?_
      try simp (disch := omega) only [s124 hw, am_bn0, am_addE, am_subE, am_mulE, am_laddE, am_lsubE, am_upO, am_upS, am_stS, am_stO, am_tnn, am_brl, am_brg, am_bre, am_brn, am_brG, am_brL, am_st1, am_no2, am_st2, am_clr]
      refine am_wp_cc rfl rfl rfl (congrArg Prod.fst (s124 hw)) (w_M_nx hw j9 (by omega) (fun A a0 a1 => ⟨_, rfl, ?_⟩))
      refine am_wp_go rfl (by simp (disch := omega) only [s124 hw, am_bn0, am_addE, am_subE, am_mulE, am_laddE, am_lsubE, am_upO, am_upS, am_stS, am_stO, am_tnn, am_brl, am_brg, am_bre, am_brn, am_brG, am_brL, am_st1, am_no2, am_st2, am_clr, and_self, true_and, and_true, true_or, or_true, List.length_cons, List.length_nil] <;> omega) ?_
      try simp (disch := omega) only [s124 hw, am_bn0, am_addE, am_subE, am_mulE, am_laddE, am_lsubE, am_upO, am_upS, am_stS, am_stO, am_tnn, am_brl, am_brg, am_bre, am_brn, am_brG, am_brL, am_st1, am_no2, am_st2, am_clr]
      refine am_wp_ret rfl rfl ?_
      have fA := frQ_6 a0
      exact h1 (S'.1 + 1, S'.2) rfl m1 sl1 sh1 A R1 j0 j1 j2 j3 (frN_tr j4 (frN_Q fA)) (by rw [fr6_10 a0, j5]) (by rw [fA.2 60 (by decide), j6]) (by rw [fA.2 61 (by decide), j7]) (ndR_Q j8 fA) a1
    · rw [if_neg b15] at h0
      refine am_wp_go rfl (by simp (disch := omega) only [s124 hw, am_bn0, am_addE, am_subE, am_mulE, am_laddE, am_lsubE, am_upO, am_upS, am_stS, am_stO, am_tnn, am_brl, am_brg, am_bre, am_brn, am_brG, am_brL, am_st1, am_no2, am_st2, am_clr, and_self, true_and, and_true, true_or, or_true, List.length_cons, List.length_nil] <;> omega) ?_
      try simp (disch := omega) only [s124 hw, am_bn0, am_addE, am_subE, am_mulE, am_laddE, am_lsubE, am_upO, am_upS, am_stS, am_stO, am_tnn, am_brl, am_brg, am_bre, am_brn, am_brG, am_brL, am_st1, am_no2, am_st2, am_clr]
      refine am_wp_cc rfl rfl rfl (congrArg Prod.fst (s124 hw)) (w_M_bad' (k := 1) rfl hw j9 (Or.inl rfl) (fun A a0 a1 a2 => ⟨_, rfl, ?_⟩))
      refine am_wp_ret rfl rfl ?_
      exact h0 _ rfl m1 sl1 sh1 A R1 j0 j1 (by omega) (by omega) (frN_tr j4 (frN_Q a0)) a1 a2
end SR
