/-! A SENTENCE's text: one part of it; read() -/
def sOneB (T : Nat → Tk) (NM : Nat → List Nat) (n : Nat) (f : SNS → SNR) (S : SNS) : SNR := if ¬ sBgn T S.1 then .inl (1, plT T S.1) else if 20 ≤ S.2.1 then .inl (4, plT T S.1)
    else if isSg (T S.1) 40 then sCls T (sSeq (sSeq f 15 T) 16 T (S.1 + 1, S.2.1 + 1, S.2.2))
    else if owC (T S.1) = 12 then sNot (f (S.1 + 1, S.2.1 + 1, S.2.2))
    else sLeaf T NM n (owC (T S.1)) (S.1 + 1, S.2.1 + 1, S.2.2)
theorem sOne_s {T : Nat → Tk} {NM : Nat → List Nat} {n e : Nat} : sOne T NM n (e + 1) = sOneB T NM n (sOne T NM n e) := by
  funext S
  conv => lhs; unfold sOne
  unfold sOneB
  rfl
theorem sBgn_2 {T : Nat → Tk} {j : Nat} (h : sBgn T j) : 2 ≤ (T j).1 := by
  rcases h with h | h
  · have := h.1; omega
  · have := ow_le (t := T j) (by omega); omega
theorem frS_up {I J : Nat → Nat → Int} {k : Nat} {x : Int} (h : frS I J) : frS I (am_up J 50 k x) := ⟨fun a a1 a2 => by rw [am_upO (by omega), h.1 a a1 a2], by rw [am_upO (by decide), h.2]⟩
section SP
variable {m sl : Nat} {sh : Nat → Nat × Nat} {R : Nat → Nat → Nat} {d : Nat} {N : Nat} {T : Nat → Tk} {NM : Nat → List Nat} {n : Nat} {f : SNS → SNR} {D : Int}
theorem w_sOne0 (hw : wd sh R) : cSn m sl sh R T NM n N (sOne T NM n 0) (fun I Q => am_wp (d + 1) 85 0 [some (.inr (.inr (50))), some (.inr (.inr (55))), some (.inr (.inr (6))), some (.inl (9)), none, none] [] (m, sl, sh, I, R) Q) := by
  intro Q I S hm hc hs hl ho h0 h1
  unfold sOne at h0 h1
  have g10 := hc.2.2.2.2.2.2.2
  have s2 := hs.2.1
  have U : sBgn T S.1 → am_wp (d + 1) 85 39 [some (.inr (.inr (50))), some (.inr (.inr (55))), some (.inr (.inr (6))), some (.inl (9)), some (.inl ((am_b (isSg (T S.1) 40)))), some (.inl ((owC (T S.1))))] [] (m, sl, sh, I, R) Q := by
    intro hbg
    rw [if_neg (fun hx => hx hbg)] at h0
    refine am_wp_go rfl (by simp (disch := omega) only [s50 hw, s2, am_addE, am_subE, am_mulE, am_laddE, am_lsubE, am_upO, am_upS, am_stS, am_stO, am_tnn, am_brl, am_brg, am_bre, am_brn, am_brG, am_brL, am_st1, am_no2, am_st2, am_clr, and_self, true_and, and_true, true_or, or_true, List.length_cons, List.length_nil] <;> omega) ?_
    try simp (disch := omega) only [s50 hw, s2, am_addE, am_subE, am_mulE, am_laddE, am_lsubE, am_upO, am_upS, am_stS, am_stO, am_tnn, am_brl, am_brg, am_bre, am_brn, am_brG, am_brL, am_st1, am_no2, am_st2, am_clr]
    refine am_wp_br (fun b45 => ?_) (fun b45 => ?_)
    · refine am_wp_go rfl (by simp (disch := omega) only [s50 hw, s2, am_addE, am_subE, am_mulE, am_laddE, am_lsubE, am_upO, am_upS, am_stS, am_stO, am_tnn, am_brl, am_brg, am_bre, am_brn, am_brG, am_brL, am_st1, am_no2, am_st2, am_clr, and_self, true_and, and_true, true_or, or_true, List.length_cons, List.length_nil] <;> omega) ?_
      try simp (disch := omega) only [s50 hw, s2, am_addE, am_subE, am_mulE, am_laddE, am_lsubE, am_upO, am_upS, am_stS, am_stO, am_tnn, am_brl, am_brg, am_bre, am_brn, am_brG, am_brL, am_st1, am_no2, am_st2, am_clr]
      refine am_wp_cc rfl rfl rfl (congrArg Prod.fst (s55 hw)) (w_tfail (k := 4) hw hc (fun J j0 j1 j2 => ⟨_, rfl, ?_⟩))
      refine am_wp_ret rfl rfl ?_
      exact h0 _ rfl J (frS_A j0) j1 j2
    · refine am_wp_go rfl (by simp (disch := omega) only [s50 hw, s2, am_addE, am_subE, am_mulE, am_laddE, am_lsubE, am_upO, am_upS, am_stS, am_stO, am_tnn, am_brl, am_brg, am_bre, am_brn, am_brG, am_brL, am_st1, am_no2, am_st2, am_clr, and_self, true_and, and_true, true_or, or_true, List.length_cons, List.length_nil] <;> omega) ?_
      try simp (disch := omega) only [s50 hw, s2, am_addE, am_subE, am_mulE, am_laddE, am_lsubE, am_upO, am_upS, am_stS, am_stO, am_tnn, am_brl, am_brg, am_bre, am_brn, am_brG, am_brL, am_st1, am_no2, am_st2, am_clr]
      refine am_wp_pc (pc' := 54) rfl ?_
      refine am_wp_go rfl (by simp (disch := omega) only [s50 hw, s2, am_addE, am_subE, am_mulE, am_laddE, am_lsubE, am_upO, am_upS, am_stS, am_stO, am_tnn, am_brl, am_brg, am_bre, am_brn, am_brG, am_brL, am_st1, am_no2, am_st2, am_clr, and_self, true_and, and_true, true_or, or_true, List.length_cons, List.length_nil] <;> omega) ?_
      try simp (disch := omega) only [s50 hw, s2, am_addE, am_subE, am_mulE, am_laddE, am_lsubE, am_upO, am_upS, am_stS, am_stO, am_tnn, am_brl, am_brg, am_bre, am_brn, am_brG, am_brL, am_st1, am_no2, am_st2, am_clr]
      refine am_wp_cc rfl rfl rfl (congrArg Prod.fst (s55 hw)) (w_tfail (k := 4) hw hc (fun J j0 j1 j2 => ⟨_, rfl, ?_⟩))
      refine am_wp_ret rfl rfl ?_
      exact h0 _ rfl J (frS_A j0) j1 j2
  refine am_wp_go rfl (by simp (disch := omega) only [s55 hw, g10, am_bn0, am_addE, am_subE, am_mulE, am_laddE, am_lsubE, am_upO, am_upS, am_stS, am_stO, am_tnn, am_brl, am_brg, am_bre, am_brn, am_brG, am_brL, am_st1, am_no2, am_st2, am_clr, and_self, true_and, and_true, true_or, or_true, List.length_cons, List.length_nil] <;> omega) ?_
  try simp (disch := omega) only [s55 hw, g10, am_bn0, am_addE, am_subE, am_mulE, am_laddE, am_lsubE, am_upO, am_upS, am_stS, am_stO, am_tnn, am_brl, am_brg, am_bre, am_brn, am_brG, am_brL, am_st1, am_no2, am_st2, am_clr]
  refine am_wp_cc rfl rfl rfl (congrArg Prod.fst (s55 hw)) (w_isSign (c := 40) hw hc ⟨_, rfl, ?_⟩)
  refine am_wp_go rfl (by simp (disch := omega) only [s55 hw, g10, am_bn0, am_addE, am_subE, am_mulE, am_laddE, am_lsubE, am_upO, am_upS, am_stS, am_stO, am_tnn, am_brl, am_brg, am_bre, am_brn, am_brG, am_brL, am_st1, am_no2, am_st2, am_clr, and_self, true_and, and_true, true_or, or_true, List.length_cons, List.length_nil] <;> omega) ?_
  try simp (disch := omega) only [s55 hw, g10, am_bn0, am_addE, am_subE, am_mulE, am_laddE, am_lsubE, am_upO, am_upS, am_stS, am_stO, am_tnn, am_brl, am_brg, am_bre, am_brn, am_brG, am_brL, am_st1, am_no2, am_st2, am_clr]
  refine am_wp_br (fun b16 => ?_) (fun b16 => ?_)
  · exact am_wp_ls (U (Or.inl b16)) rfl
  · refine am_wp_go rfl (by simp (disch := omega) only [s55 hw, g10, am_bn0, am_addE, am_subE, am_mulE, am_laddE, am_lsubE, am_upO, am_upS, am_stS, am_stO, am_tnn, am_brl, am_brg, am_bre, am_brn, am_brG, am_brL, am_st1, am_no2, am_st2, am_clr, and_self, true_and, and_true, true_or, or_true, List.length_cons, List.length_nil] <;> omega) ?_
    try simp (disch := omega) only [s55 hw, g10, am_bn0, am_addE, am_subE, am_mulE, am_laddE, am_lsubE, am_upO, am_upS, am_stS, am_stO, am_tnn, am_brl, am_brg, am_bre, am_brn, am_brG, am_brL, am_st1, am_no2, am_st2, am_clr]
    refine am_wp_br (fun b23 => ?_) (fun b23 => ?_)
    · rw [if_pos (fun hx => by rcases hx with hx | hx; exact b16 hx; omega)] at h0
      refine am_wp_go rfl (by simp (disch := omega) only [s55 hw, g10, am_bn0, am_addE, am_subE, am_mulE, am_laddE, am_lsubE, am_upO, am_upS, am_stS, am_stO, am_tnn, am_brl, am_brg, am_bre, am_brn, am_brG, am_brL, am_st1, am_no2, am_st2, am_clr, and_self, true_and, and_true, true_or, or_true, List.length_cons, List.length_nil] <;> omega) ?_
      try simp (disch := omega) only [s55 hw, g10, am_bn0, am_addE, am_subE, am_mulE, am_laddE, am_lsubE, am_upO, am_upS, am_stS, am_stO, am_tnn, am_brl, am_brg, am_bre, am_brn, am_brG, am_brL, am_st1, am_no2, am_st2, am_clr]
      refine am_wp_cc rfl rfl rfl (congrArg Prod.fst (s55 hw)) (w_tfail (k := 1) hw hc (fun J j0 j1 j2 => ⟨_, rfl, ?_⟩))
      refine am_wp_ret rfl rfl ?_
      exact h0 _ rfl J (frS_A j0) j1 j2
    · refine am_wp_go rfl (by simp (disch := omega) only [s55 hw, g10, am_bn0, am_addE, am_subE, am_mulE, am_laddE, am_lsubE, am_upO, am_upS, am_stS, am_stO, am_tnn, am_brl, am_brg, am_bre, am_brn, am_brG, am_brL, am_st1, am_no2, am_st2, am_clr, and_self, true_and, and_true, true_or, or_true, List.length_cons, List.length_nil] <;> omega) ?_
      try simp (disch := omega) only [s55 hw, g10, am_bn0, am_addE, am_subE, am_mulE, am_laddE, am_lsubE, am_upO, am_upS, am_stS, am_stO, am_tnn, am_brl, am_brg, am_bre, am_brn, am_brG, am_brL, am_st1, am_no2, am_st2, am_clr]
      refine am_wp_br (fun b30 => ?_) (fun b30 => ?_)
      · exact am_wp_ls (U (Or.inr (by omega))) rfl
      · rw [if_pos (fun hx => by rcases hx with hx | hx; exact b16 hx; omega)] at h0
        refine am_wp_go rfl (by simp (disch := omega) only [s55 hw, g10, am_bn0, am_addE, am_subE, am_mulE, am_laddE, am_lsubE, am_upO, am_upS, am_stS, am_stO, am_tnn, am_brl, am_brg, am_bre, am_brn, am_brG, am_brL, am_st1, am_no2, am_st2, am_clr, and_self, true_and, and_true, true_or, or_true, List.length_cons, List.length_nil] <;> omega) ?_
        try simp (disch := omega) only [s55 hw, g10, am_bn0, am_addE, am_subE, am_mulE, am_laddE, am_lsubE, am_upO, am_upS, am_stS, am_stO, am_tnn, am_brl, am_brg, am_bre, am_brn, am_brG, am_brL, am_st1, am_no2, am_st2, am_clr]
        refine am_wp_cc rfl rfl rfl (congrArg Prod.fst (s55 hw)) (w_tfail (k := 1) hw hc (fun J j0 j1 j2 => ⟨_, rfl, ?_⟩))
        refine am_wp_ret rfl rfl ?_
        exact h0 _ rfl J (frS_A j0) j1 j2
set_option maxHeartbeats 4000000 in
theorem w_sOneS (hw : wd sh R) (hT : tkOk T) (hD : 0 ≤ D ∧ D ≤ 8) (hC : cSn m sl sh R T NM n N (sSeq (sSeq f 15 T) 16 T) (fun I Q => am_wp (d + 2) 83 0 [some (.inr (.inr (50))), some (.inr (.inr (55))), some (.inr (.inr (6))), some (.inl ((D + 1))), none] [] (m, sl, sh, I, R) Q)) (hO : cSn m sl sh R T NM n N f (fun I Q => am_wp (d + 2) 85 0 [some (.inr (.inr (50))), some (.inr (.inr (55))), some (.inr (.inr (6))), some (.inl ((D + 1))), none, none] [] (m, sl, sh, I, R) Q)) (hK : ∀ S S', S.2.1 ≤ 20 → f S = .inr S' → sK S S') : cSn m sl sh R T NM n N (sOneB T NM n f) (fun I Q => am_wp (d + 3) 85 0 [some (.inr (.inr (50))), some (.inr (.inr (55))), some (.inr (.inr (6))), some (.inl (D)), none, none] [] (m, sl, sh, I, R) Q) := by
  intro Q I S hm hc hs hl ho h0 h1
  unfold sOneB at h0 h1
  have g10 := hc.2.2.2.2.2.2.2
  have s2 := hs.2.1
  have U : sBgn T S.1 → am_wp (d + 3) 85 39 [some (.inr (.inr (50))), some (.inr (.inr (55))), some (.inr (.inr (6))), some (.inl (D)), some (.inl ((am_b (isSg (T S.1) 40)))), some (.inl ((owC (T S.1))))] [] (m, sl, sh, I, R) Q := by
    intro hbg
    have t2 := sBgn_2 hbg
    rw [if_neg (fun hx => hx hbg)] at h0 h1
    refine am_wp_go rfl (by simp (disch := omega) only [s50 hw, s2, am_addE, am_subE, am_mulE, am_laddE, am_lsubE, am_upO, am_upS, am_stS, am_stO, am_tnn, am_brl, am_brg, am_bre, am_brn, am_brG, am_brL, am_st1, am_no2, am_st2, am_clr, and_self, true_and, and_true, true_or, or_true, List.length_cons, List.length_nil] <;> omega) ?_
    try simp (disch := omega) only [s50 hw, s2, am_addE, am_subE, am_mulE, am_laddE, am_lsubE, am_upO, am_upS, am_stS, am_stO, am_tnn, am_brl, am_brg, am_bre, am_brn, am_brG, am_brL, am_st1, am_no2, am_st2, am_clr]
    refine am_wp_br (fun b45 => ?_) (fun b45 => ?_)
    · rw [if_pos (by omega)] at h0
      refine am_wp_go rfl (by simp (disch := omega) only [s50 hw, s2, am_addE, am_subE, am_mulE, am_laddE, am_lsubE, am_upO, am_upS, am_stS, am_stO, am_tnn, am_brl, am_brg, am_bre, am_brn, am_brG, am_brL, am_st1, am_no2, am_st2, am_clr, and_self, true_and, and_true, true_or, or_true, List.length_cons, List.length_nil] <;> omega) ?_
      try simp (disch := omega) only [s50 hw, s2, am_addE, am_subE, am_mulE, am_laddE, am_lsubE, am_upO, am_upS, am_stS, am_stO, am_tnn, am_brl, am_brg, am_bre, am_brn, am_brG, am_brL, am_st1, am_no2, am_st2, am_clr]
      refine am_wp_cc rfl rfl rfl (congrArg Prod.fst (s55 hw)) (w_tfail (k := 4) hw hc (fun J j0 j1 j2 => ⟨_, rfl, ?_⟩))
      refine am_wp_ret rfl rfl ?_
      exact h0 _ rfl J (frS_A j0) j1 j2
    · rw [if_neg (by omega)] at h0 h1
      refine am_wp_go rfl (by simp (disch := omega) only [s50 hw, s2, am_addE, am_subE, am_mulE, am_laddE, am_lsubE, am_upO, am_upS, am_stS, am_stO, am_tnn, am_brl, am_brg, am_bre, am_brn, am_brG, am_brL, am_st1, am_no2, am_st2, am_clr, and_self, true_and, and_true, true_or, or_true, List.length_cons, List.length_nil] <;> omega) ?_
      try simp (disch := omega) only [s50 hw, s2, am_addE, am_subE, am_mulE, am_laddE, am_lsubE, am_upO, am_upS, am_stS, am_stO, am_tnn, am_brl, am_brg, am_bre, am_brn, am_brG, am_brL, am_st1, am_no2, am_st2, am_clr]
      refine am_wp_br (fun b51 => ?_) (fun b51 => ?_)
      · have hs1 : stC (am_up I 50 5 ((S.2.1 : Int) + 1)) (S.1 + 1, S.2.1 + 1, S.2.2) := by
          obtain ⟨s1, -, s3⟩ := hs
          refine ⟨by rw [am_upS, am_stO (by decide)]; exact s1, by rw [am_upS, am_stS rfl]; dsimp only; omega, fun k hk => ?_⟩
          rw [am_upO (by decide), am_upO (by decide), am_upO (by decide)]
          exact s3 k hk
        have c1 : tpC (am_up I 50 5 ((S.2.1 : Int) + 1)) T N S.1 := tpC_up hc (by decide)
        refine am_wp_go rfl (by simp (disch := omega) only [s50 hw, s2, am_b0, am_addE, am_subE, am_mulE, am_laddE, am_lsubE, am_upO, am_upS, am_stS, am_stO, am_tnn, am_brl, am_brg, am_bre, am_brn, am_brG, am_brL, am_st1, am_no2, am_st2, am_clr, and_self, true_and, and_true, true_or, or_true, List.length_cons, List.length_nil] <;> omega) ?_
        try simp (disch := omega) only [s50 hw, s2, am_b0, am_addE, am_subE, am_mulE, am_laddE, am_lsubE, am_upO, am_upS, am_stS, am_stO, am_tnn, am_brl, am_brg, am_bre, am_brn, am_brG, am_brL, am_st1, am_no2, am_st2, am_clr]
        refine am_wp_cc rfl rfl rfl (congrArg Prod.fst (s55 hw)) (w_advance hw c1 t2 (fun J j0 j1 j2 j3 => ⟨_, rfl, ?_⟩))
        have hs2 := stC_A hs1 j0
        have fJ : frS I J := frS_tr (frS_up frS_rf) (frS_A j0)
        have hm2 := nmC_S hm fJ
        clear c1 hs1 j0 j1 j2
        refine am_wp_go rfl (by simp (disch := omega) only [am_b0, am_addE, am_subE, am_mulE, am_laddE, am_lsubE, am_upO, am_upS, am_stS, am_stO, am_tnn, am_brl, am_brg, am_bre, am_brn, am_brG, am_brL, am_st1, am_no2, am_st2, am_clr, and_self, true_and, and_true, true_or, or_true, List.length_cons, List.length_nil] <;> omega) ?_
        try simp (disch := omega) only [am_b0, am_addE, am_subE, am_mulE, am_laddE, am_lsubE, am_upO, am_upS, am_stS, am_stO, am_tnn, am_brl, am_brg, am_bre, am_brn, am_brG, am_brL, am_st1, am_no2, am_st2, am_clr]
        refine am_wp_br (fun b76 => ?_) (fun b76 => ?_)
        · rw [if_neg b76] at h0 h1
          have wb : 7 ≤ owC (T S.1) ∧ owC (T S.1) ≤ 14 := by
            rcases hbg with hx | hx
            · exact absurd hx b76
            · exact hx
          generalize owC (T S.1) = w at *
          have B180 : (w = 7 ∨ w = 13) → am_wp (d + 3) 85 180 [some (.inr (.inr (50))), some (.inr (.inr (55))), some (.inr (.inr (6))), some (.inl (D)), some (.inl ((am_b (isSg (T S.1) 40)))), some (.inl (w))] [] (m, sl, sh, J, R) Q := by
            intro hx
            unfold sLeaf at h1
            rw [if_neg (by omega), if_pos hx] at h1
            refine am_wp_go rfl (by simp (disch := omega) only [am_b0, am_addE, am_subE, am_mulE, am_laddE, am_lsubE, am_upO, am_upS, am_stS, am_stO, am_tnn, am_brl, am_brg, am_bre, am_brn, am_brG, am_brL, am_st1, am_no2, am_st2, am_clr, and_self, true_and, and_true, true_or, or_true, List.length_cons, List.length_nil] <;> omega) ?_
            try simp (disch := omega) only [am_b0, am_addE, am_subE, am_mulE, am_laddE, am_lsubE, am_upO, am_upS, am_stS, am_stO, am_tnn, am_brl, am_brg, am_bre, am_brn, am_brG, am_brL, am_st1, am_no2, am_st2, am_clr]
            refine am_wp_cc rfl rfl rfl (congrArg Prod.fst (s50 hw)) (w_putStep (w := w) (g := 0) (x := 0) hw hs2 (by dsimp only; omega) (fun X x0 x1 => ⟨_, rfl, ?_⟩))
            refine am_wp_go rfl (by simp (disch := omega) only [am_b0, am_addE, am_subE, am_mulE, am_laddE, am_lsubE, am_upO, am_upS, am_stS, am_stO, am_tnn, am_brl, am_brg, am_bre, am_brn, am_brG, am_brL, am_st1, am_no2, am_st2, am_clr, and_self, true_and, and_true, true_or, or_true, List.length_cons, List.length_nil] <;> omega) ?_
            try simp (disch := omega) only [am_b0, am_addE, am_subE, am_mulE, am_laddE, am_lsubE, am_upO, am_upS, am_stS, am_stO, am_tnn, am_brl, am_brg, am_bre, am_brn, am_brG, am_brL, am_st1, am_no2, am_st2, am_clr]
            refine am_wp_ret rfl rfl ?_
            exact h1 _ rfl X (frS_tr fJ (frS_5 x0)) x1 (tpC_5 j3 x0)
          have B197 : (w ≠ 7 ∧ w ≠ 13 ∧ w ≠ 12 ∧ w ≠ 14) → am_wp (d + 3) 85 197 [some (.inr (.inr (50))), some (.inr (.inr (55))), some (.inr (.inr (6))), some (.inl (D)), some (.inl ((am_b (isSg (T S.1) 40)))), some (.inl (w))] [] (m, sl, sh, J, R) Q := by
            intro hx
            rw [if_neg (by omega)] at h0 h1
            refine am_wp_go rfl (by simp (disch := omega) only [am_b0, am_addE, am_subE, am_mulE, am_laddE, am_lsubE, am_upO, am_upS, am_stS, am_stO, am_tnn, am_brl, am_brg, am_bre, am_brn, am_brG, am_brL, am_st1, am_no2, am_st2, am_clr, and_self, true_and, and_true, true_or, or_true, List.length_cons, List.length_nil] <;> omega) ?_
            try simp (disch := omega) only [am_b0, am_addE, am_subE, am_mulE, am_laddE, am_lsubE, am_upO, am_upS, am_stS, am_stO, am_tnn, am_brl, am_brg, am_bre, am_brn, am_brG, am_brL, am_st1, am_no2, am_st2, am_clr]
            refine am_wp_cc rfl rfl rfl (congrArg Prod.fst (s50 hw)) (w_sMeasure (NM := NM) (n := n) hw j3 hs2 (by dsimp only; omega) (by omega) (by omega) (fun e he X x0 x1 x2 => ⟨_, rfl, ?_⟩) (fun S' he X x0 x1 x2 => ⟨_, rfl, ?_⟩))
            · refine am_wp_ret rfl rfl ?_
              exact h0 e he X (frS_tr fJ x0) x1 x2
            · refine am_wp_ret rfl rfl ?_
              exact h1 S' he X (frS_tr fJ x0) x1 x2
          refine am_wp_go rfl (by simp (disch := omega) only [am_b0, am_addE, am_subE, am_mulE, am_laddE, am_lsubE, am_upO, am_upS, am_stS, am_stO, am_tnn, am_brl, am_brg, am_bre, am_brn, am_brG, am_brL, am_st1, am_no2, am_st2, am_clr, and_self, true_and, and_true, true_or, or_true, List.length_cons, List.length_nil] <;> omega) ?_
          refine am_wp_tsw rfl (fun q => ?_) ⟨fun q => ?_, fun q => ?_, fun q => ?_, fun q => ?_, fun q => ?_, fun q => ?_, fun q => ?_, fun q => ?_, trivial⟩
          · omega
          · exact am_wp_ls (B180 (by omega)) rfl
          · exact am_wp_ls (B197 (by omega)) rfl
          · exact am_wp_ls (B197 (by omega)) rfl
          · exact am_wp_ls (B197 (by omega)) rfl
          · exact am_wp_ls (B197 (by omega)) rfl
          · refine am_wp_pc (pc' := 156) rfl ?_
            rw [if_pos (by omega)] at h0 h1
            have w12 : w = 12 := by omega
            clear B180 B197 q
            subst w12
            refine am_wp_go rfl (by simp (disch := omega) only [am_b0, am_addE, am_subE, am_mulE, am_laddE, am_lsubE, am_upO, am_upS, am_stS, am_stO, am_tnn, am_brl, am_brg, am_bre, am_brn, am_brG, am_brL, am_st1, am_no2, am_st2, am_clr, and_self, true_and, and_true, true_or, or_true, List.length_cons, List.length_nil] <;> omega) ?_
            try simp (disch := omega) only [am_b0, am_addE, am_subE, am_mulE, am_laddE, am_lsubE, am_upO, am_upS, am_stS, am_stO, am_tnn, am_brl, am_brg, am_bre, am_brn, am_brG, am_brL, am_st1, am_no2, am_st2, am_clr]
            refine am_wp_cc rfl rfl rfl (congrArg Prod.fst (s50 hw)) (hO _ J (S.1 + 1, S.2.1 + 1, S.2.2) hm2 j3 hs2 (by dsimp only; omega) (by dsimp only; omega) (fun e he X x0 x1 x2 => ⟨_, rfl, ?_⟩) (fun S' he X x0 x1 x2 => ⟨_, rfl, ?_⟩))
            · rw [he] at h0
              refine am_wp_go rfl (by simp (disch := omega) only [am_b0, am_addE, am_subE, am_mulE, am_laddE, am_lsubE, am_upO, am_upS, am_stS, am_stO, am_tnn, am_brl, am_brg, am_bre, am_brn, am_brG, am_brL, am_st1, am_no2, am_st2, am_clr, and_self, true_and, and_true, true_or, or_true, List.length_cons, List.length_nil] <;> omega) ?_
              refine am_wp_pc (pc' := 168) rfl ?_
              refine am_wp_go rfl (by simp (disch := omega) only [am_b0, am_addE, am_subE, am_mulE, am_laddE, am_lsubE, am_upO, am_upS, am_stS, am_stO, am_tnn, am_brl, am_brg, am_bre, am_brn, am_brG, am_brL, am_st1, am_no2, am_st2, am_clr, and_self, true_and, and_true, true_or, or_true, List.length_cons, List.length_nil] <;> omega) ?_
              try simp (disch := omega) only [am_b0, am_addE, am_subE, am_mulE, am_laddE, am_lsubE, am_upO, am_upS, am_stS, am_stO, am_tnn, am_brl, am_brg, am_bre, am_brn, am_brG, am_brL, am_st1, am_no2, am_st2, am_clr]
              refine am_wp_ret rfl rfl ?_
              exact h0 e rfl X (frS_tr fJ x0) x1 x2
            · rw [he] at h1
              have k2 := hK (S.1 + 1, S.2.1 + 1, S.2.2) S' (by dsimp only; omega) he
              unfold sK at k2
              dsimp only at k2
              refine am_wp_go rfl (by simp (disch := omega) only [am_b0, am_addE, am_subE, am_mulE, am_laddE, am_lsubE, am_upO, am_upS, am_stS, am_stO, am_tnn, am_brl, am_brg, am_bre, am_brn, am_brG, am_brL, am_st1, am_no2, am_st2, am_clr, and_self, true_and, and_true, true_or, or_true, List.length_cons, List.length_nil] <;> omega) ?_
              refine am_wp_pc (pc' := 170) rfl ?_
              refine am_wp_go rfl (by simp (disch := omega) only [am_b0, am_addE, am_subE, am_mulE, am_laddE, am_lsubE, am_upO, am_upS, am_stS, am_stO, am_tnn, am_brl, am_brg, am_bre, am_brn, am_brG, am_brL, am_st1, am_no2, am_st2, am_clr, and_self, true_and, and_true, true_or, or_true, List.length_cons, List.length_nil] <;> omega) ?_
              try simp (disch := omega) only [am_b0, am_addE, am_subE, am_mulE, am_laddE, am_lsubE, am_upO, am_upS, am_stS, am_stO, am_tnn, am_brl, am_brg, am_bre, am_brn, am_brG, am_brL, am_st1, am_no2, am_st2, am_clr]
              refine am_wp_cc rfl rfl rfl (congrArg Prod.fst (s50 hw)) (w_putStep (w := 12) (g := 0) (x := 0) hw x1 (by omega) (fun Y y0 y1 => ⟨_, rfl, ?_⟩))
              refine am_wp_go rfl (by simp (disch := omega) only [am_b0, am_addE, am_subE, am_mulE, am_laddE, am_lsubE, am_upO, am_upS, am_stS, am_stO, am_tnn, am_brl, am_brg, am_bre, am_brn, am_brG, am_brL, am_st1, am_no2, am_st2, am_clr, and_self, true_and, and_true, true_or, or_true, List.length_cons, List.length_nil] <;> omega) ?_
              try simp (disch := omega) only [am_b0, am_addE, am_subE, am_mulE, am_laddE, am_lsubE, am_upO, am_upS, am_stS, am_stO, am_tnn, am_brl, am_brg, am_bre, am_brn, am_brG, am_brL, am_st1, am_no2, am_st2, am_clr]
              refine am_wp_ret rfl rfl ?_
              exact h1 _ rfl Y (frS_tr (frS_tr fJ x0) (frS_5 y0)) y1 (tpC_5 x2 y0)
          · exact am_wp_ls (B180 (by omega)) rfl
          · refine am_wp_pc (pc' := 190) rfl ?_
            rw [if_neg (by omega)] at h0 h1
            have w14 : w = 14 := by omega
            clear B180 B197 q
            subst w14
            refine am_wp_go rfl (by simp (disch := omega) only [am_b0, am_addE, am_subE, am_mulE, am_laddE, am_lsubE, am_upO, am_upS, am_stS, am_stO, am_tnn, am_brl, am_brg, am_bre, am_brn, am_brG, am_brL, am_st1, am_no2, am_st2, am_clr, and_self, true_and, and_true, true_or, or_true, List.length_cons, List.length_nil] <;> omega) ?_
            try simp (disch := omega) only [am_b0, am_addE, am_subE, am_mulE, am_laddE, am_lsubE, am_upO, am_upS, am_stS, am_stO, am_tnn, am_brl, am_brg, am_bre, am_brn, am_brG, am_brL, am_st1, am_no2, am_st2, am_clr]
            refine am_wp_cc rfl rfl rfl (congrArg Prod.fst (s50 hw)) (w_sAfter (NM := NM) (n := n) hw hT hm2 j3 hs2 (by dsimp only; omega) (fun e he X x0 x1 x2 => ⟨_, rfl, ?_⟩) (fun S' he X x0 x1 x2 => ⟨_, rfl, ?_⟩))
            · refine am_wp_ret rfl rfl ?_
              exact h0 e he X (frS_tr fJ x0) x1 x2
            · refine am_wp_ret rfl rfl ?_
              exact h1 S' he X (frS_tr fJ x0) x1 x2
        · have b76 : isSg (T S.1) 40 := Classical.not_not.mp b76
          rw [if_pos b76] at h0 h1
          refine am_wp_go rfl (by simp (disch := omega) only [am_b0, am_addE, am_subE, am_mulE, am_laddE, am_lsubE, am_upO, am_upS, am_stS, am_stO, am_tnn, am_brl, am_brg, am_bre, am_brn, am_brG, am_brL, am_st1, am_no2, am_st2, am_clr, and_self, true_and, and_true, true_or, or_true, List.length_cons, List.length_nil] <;> omega) ?_
          try simp (disch := omega) only [am_b0, am_addE, am_subE, am_mulE, am_laddE, am_lsubE, am_upO, am_upS, am_stS, am_stO, am_tnn, am_brl, am_brg, am_bre, am_brn, am_brG, am_brL, am_st1, am_no2, am_st2, am_clr]
          refine am_wp_cc rfl rfl rfl (congrArg Prod.fst (s50 hw)) (hC _ J (S.1 + 1, S.2.1 + 1, S.2.2) hm2 j3 hs2 (by dsimp only; omega) (by dsimp only; omega) (fun e he X x0 x1 x2 => ⟨_, rfl, ?_⟩) (fun S' he X x0 x1 x2 => ⟨_, rfl, ?_⟩))
          · rw [he] at h0
            refine am_wp_go rfl (by simp (disch := omega) only [am_b0, am_addE, am_subE, am_mulE, am_laddE, am_lsubE, am_upO, am_upS, am_stS, am_stO, am_tnn, am_brl, am_brg, am_bre, am_brn, am_brG, am_brL, am_st1, am_no2, am_st2, am_clr, and_self, true_and, and_true, true_or, or_true, List.length_cons, List.length_nil] <;> omega) ?_
            refine am_wp_pc (pc' := 104) rfl ?_
            refine am_wp_go rfl (by simp (disch := omega) only [am_b0, am_addE, am_subE, am_mulE, am_laddE, am_lsubE, am_upO, am_upS, am_stS, am_stO, am_tnn, am_brl, am_brg, am_bre, am_brn, am_brG, am_brL, am_st1, am_no2, am_st2, am_clr, and_self, true_and, and_true, true_or, or_true, List.length_cons, List.length_nil] <;> omega) ?_
            try simp (disch := omega) only [am_b0, am_addE, am_subE, am_mulE, am_laddE, am_lsubE, am_upO, am_upS, am_stS, am_stO, am_tnn, am_brl, am_brg, am_bre, am_brn, am_brG, am_brL, am_st1, am_no2, am_st2, am_clr]
            refine am_wp_ret rfl rfl ?_
            exact h0 e rfl X (frS_tr fJ x0) x1 x2
          · rw [he] at h0 h1
            unfold sCls at h0 h1
            dsimp only at h0 h1
            refine am_wp_go rfl (by simp (disch := omega) only [am_b0, am_addE, am_subE, am_mulE, am_laddE, am_lsubE, am_upO, am_upS, am_stS, am_stO, am_tnn, am_brl, am_brg, am_bre, am_brn, am_brG, am_brL, am_st1, am_no2, am_st2, am_clr, and_self, true_and, and_true, true_or, or_true, List.length_cons, List.length_nil] <;> omega) ?_
            refine am_wp_pc (pc' := 91) rfl ?_
            refine am_wp_go rfl (by simp (disch := omega) only [am_b0, am_addE, am_subE, am_mulE, am_laddE, am_lsubE, am_upO, am_upS, am_stS, am_stO, am_tnn, am_brl, am_brg, am_bre, am_brn, am_brG, am_brL, am_st1, am_no2, am_st2, am_clr, and_self, true_and, and_true, true_or, or_true, List.length_cons, List.length_nil] <;> omega) ?_
            try simp (disch := omega) only [am_b0, am_addE, am_subE, am_mulE, am_laddE, am_lsubE, am_upO, am_upS, am_stS, am_stO, am_tnn, am_brl, am_brg, am_bre, am_brn, am_brG, am_brL, am_st1, am_no2, am_st2, am_clr]
            refine am_wp_cc rfl rfl rfl (congrArg Prod.fst (s55 hw)) (w_takeSign (c := 41) hw x2 (fun ns Y y0 y1 y2 => ⟨_, rfl, ?_⟩) (fun ys Y y0 y1 y2 y3 => ⟨_, rfl, ?_⟩))
            · rw [if_neg ns] at h0
              refine am_wp_go rfl (by simp (disch := omega) only [am_b0, am_addE, am_subE, am_mulE, am_laddE, am_lsubE, am_upO, am_upS, am_stS, am_stO, am_tnn, am_brl, am_brg, am_bre, am_brn, am_brG, am_brL, am_st1, am_no2, am_st2, am_clr, and_self, true_and, and_true, true_or, or_true, List.length_cons, List.length_nil] <;> omega) ?_
              refine am_wp_pc (pc' := 104) rfl ?_
              refine am_wp_go rfl (by simp (disch := omega) only [am_b0, am_addE, am_subE, am_mulE, am_laddE, am_lsubE, am_upO, am_upS, am_stS, am_stO, am_tnn, am_brl, am_brg, am_bre, am_brn, am_brG, am_brL, am_st1, am_no2, am_st2, am_clr, and_self, true_and, and_true, true_or, or_true, List.length_cons, List.length_nil] <;> omega) ?_
              try simp (disch := omega) only [am_b0, am_addE, am_subE, am_mulE, am_laddE, am_lsubE, am_upO, am_upS, am_stS, am_stO, am_tnn, am_brl, am_brg, am_bre, am_brn, am_brG, am_brL, am_st1, am_no2, am_st2, am_clr]
              refine am_wp_ret rfl rfl ?_
              exact h0 _ rfl Y (frS_tr (frS_tr fJ x0) (frS_A y0)) y1 y2
            · rw [if_pos ys] at h1
              refine am_wp_go rfl (by simp (disch := omega) only [am_b0, am_addE, am_subE, am_mulE, am_laddE, am_lsubE, am_upO, am_upS, am_stS, am_stO, am_tnn, am_brl, am_brg, am_bre, am_brn, am_brG, am_brL, am_st1, am_no2, am_st2, am_clr, and_self, true_and, and_true, true_or, or_true, List.length_cons, List.length_nil] <;> omega) ?_
              refine am_wp_pc (pc' := 100) rfl ?_
              refine am_wp_go rfl (by simp (disch := omega) only [am_b0, am_addE, am_subE, am_mulE, am_laddE, am_lsubE, am_upO, am_upS, am_stS, am_stO, am_tnn, am_brl, am_brg, am_bre, am_brn, am_brG, am_brL, am_st1, am_no2, am_st2, am_clr, and_self, true_and, and_true, true_or, or_true, List.length_cons, List.length_nil] <;> omega) ?_
              try simp (disch := omega) only [am_b0, am_addE, am_subE, am_mulE, am_laddE, am_lsubE, am_upO, am_upS, am_stS, am_stO, am_tnn, am_brl, am_brg, am_bre, am_brn, am_brG, am_brL, am_st1, am_no2, am_st2, am_clr]
              refine am_wp_ret rfl rfl ?_
              exact h1 _ rfl Y (frS_tr (frS_tr fJ x0) (frS_A y0)) (stC_A x1 y0) y3
      · omega
  refine am_wp_go rfl (by simp (disch := omega) only [s55 hw, g10, am_bn0, am_addE, am_subE, am_mulE, am_laddE, am_lsubE, am_upO, am_upS, am_stS, am_stO, am_tnn, am_brl, am_brg, am_bre, am_brn, am_brG, am_brL, am_st1, am_no2, am_st2, am_clr, and_self, true_and, and_true, true_or, or_true, List.length_cons, List.length_nil] <;> omega) ?_
  try simp (disch := omega) only [s55 hw, g10, am_bn0, am_addE, am_subE, am_mulE, am_laddE, am_lsubE, am_upO, am_upS, am_stS, am_stO, am_tnn, am_brl, am_brg, am_bre, am_brn, am_brG, am_brL, am_st1, am_no2, am_st2, am_clr]
  refine am_wp_cc rfl rfl rfl (congrArg Prod.fst (s55 hw)) (w_isSign (c := 40) hw hc ⟨_, rfl, ?_⟩)
  refine am_wp_go rfl (by simp (disch := omega) only [s55 hw, g10, am_bn0, am_addE, am_subE, am_mulE, am_laddE, am_lsubE, am_upO, am_upS, am_stS, am_stO, am_tnn, am_brl, am_brg, am_bre, am_brn, am_brG, am_brL, am_st1, am_no2, am_st2, am_clr, and_self, true_and, and_true, true_or, or_true, List.length_cons, List.length_nil] <;> omega) ?_
  try simp (disch := omega) only [s55 hw, g10, am_bn0, am_addE, am_subE, am_mulE, am_laddE, am_lsubE, am_upO, am_upS, am_stS, am_stO, am_tnn, am_brl, am_brg, am_bre, am_brn, am_brG, am_brL, am_st1, am_no2, am_st2, am_clr]
  refine am_wp_br (fun b16 => ?_) (fun b16 => ?_)
  · exact am_wp_ls (U (Or.inl b16)) rfl
  · refine am_wp_go rfl (by simp (disch := omega) only [s55 hw, g10, am_bn0, am_addE, am_subE, am_mulE, am_laddE, am_lsubE, am_upO, am_upS, am_stS, am_stO, am_tnn, am_brl, am_brg, am_bre, am_brn, am_brG, am_brL, am_st1, am_no2, am_st2, am_clr, and_self, true_and, and_true, true_or, or_true, List.length_cons, List.length_nil] <;> omega) ?_
    try simp (disch := omega) only [s55 hw, g10, am_bn0, am_addE, am_subE, am_mulE, am_laddE, am_lsubE, am_upO, am_upS, am_stS, am_stO, am_tnn, am_brl, am_brg, am_bre, am_brn, am_brG, am_brL, am_st1, am_no2, am_st2, am_clr]
    refine am_wp_br (fun b23 => ?_) (fun b23 => ?_)
    · rw [if_pos (fun hx => by rcases hx with hx | hx; exact b16 hx; omega)] at h0
      refine am_wp_go rfl (by simp (disch := omega) only [s55 hw, g10, am_bn0, am_addE, am_subE, am_mulE, am_laddE, am_lsubE, am_upO, am_upS, am_stS, am_stO, am_tnn, am_brl, am_brg, am_bre, am_brn, am_brG, am_brL, am_st1, am_no2, am_st2, am_clr, and_self, true_and, and_true, true_or, or_true, List.length_cons, List.length_nil] <;> omega) ?_
      try simp (disch := omega) only [s55 hw, g10, am_bn0, am_addE, am_subE, am_mulE, am_laddE, am_lsubE, am_upO, am_upS, am_stS, am_stO, am_tnn, am_brl, am_brg, am_bre, am_brn, am_brG, am_brL, am_st1, am_no2, am_st2, am_clr]
      refine am_wp_cc rfl rfl rfl (congrArg Prod.fst (s55 hw)) (w_tfail (k := 1) hw hc (fun J j0 j1 j2 => ⟨_, rfl, ?_⟩))
      refine am_wp_ret rfl rfl ?_
      exact h0 _ rfl J (frS_A j0) j1 j2
    · refine am_wp_go rfl (by simp (disch := omega) only [s55 hw, g10, am_bn0, am_addE, am_subE, am_mulE, am_laddE, am_lsubE, am_upO, am_upS, am_stS, am_stO, am_tnn, am_brl, am_brg, am_bre, am_brn, am_brG, am_brL, am_st1, am_no2, am_st2, am_clr, and_self, true_and, and_true, true_or, or_true, List.length_cons, List.length_nil] <;> omega) ?_
      try simp (disch := omega) only [s55 hw, g10, am_bn0, am_addE, am_subE, am_mulE, am_laddE, am_lsubE, am_upO, am_upS, am_stS, am_stO, am_tnn, am_brl, am_brg, am_bre, am_brn, am_brG, am_brL, am_st1, am_no2, am_st2, am_clr]
      refine am_wp_br (fun b30 => ?_) (fun b30 => ?_)
      · exact am_wp_ls (U (Or.inr (by omega))) rfl
      · rw [if_pos (fun hx => by rcases hx with hx | hx; exact b16 hx; omega)] at h0
        refine am_wp_go rfl (by simp (disch := omega) only [s55 hw, g10, am_bn0, am_addE, am_subE, am_mulE, am_laddE, am_lsubE, am_upO, am_upS, am_stS, am_stO, am_tnn, am_brl, am_brg, am_bre, am_brn, am_brG, am_brL, am_st1, am_no2, am_st2, am_clr, and_self, true_and, and_true, true_or, or_true, List.length_cons, List.length_nil] <;> omega) ?_
        try simp (disch := omega) only [s55 hw, g10, am_bn0, am_addE, am_subE, am_mulE, am_laddE, am_lsubE, am_upO, am_upS, am_stS, am_stO, am_tnn, am_brl, am_brg, am_bre, am_brn, am_brG, am_brL, am_st1, am_no2, am_st2, am_clr]
        refine am_wp_cc rfl rfl rfl (congrArg Prod.fst (s55 hw)) (w_tfail (k := 1) hw hc (fun J j0 j1 j2 => ⟨_, rfl, ?_⟩))
        refine am_wp_ret rfl rfl ?_
        exact h0 _ rfl J (frS_A j0) j1 j2
end SP
