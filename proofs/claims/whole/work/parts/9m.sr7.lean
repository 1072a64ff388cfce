/-! A SENTENCE's text by the reference: one part -/
section SR
variable {d : Nat} {b : Nat → Nat} {n lim : Nat} {NM : Nat → List Nat} {q k : Nat} {f : SNS → SNR}
theorem oneW_0 {t : Tk} : oneW t = -1 ↔ ¬ (7 ≤ owC t ∧ owC t ≤ 14) := by
  unfold oneW
  by_cases h : 7 ≤ owC t ∧ owC t ≤ 14
  · rw [if_pos h]
    constructor
    · intro hx; omega
    · intro hx; exact absurd h hx
  · rw [if_neg h]
    exact ⟨fun _ => h, fun _ => rfl⟩
theorem rpR_m {I J : Nat → Nat → Int} {j m : Nat} (hm : 161 ≤ m) (h : ∀ a, a ≠ m → J a = I a) (hc : rpR I b n lim j) : rpR J b n lim j := by
  unfold rpR rTk at hc ⊢
  rw [h 124 (by omega), h 125 (by omega)]; exact hc
theorem frN_m {I J : Nat → Nat → Int} {m : Nat} (hm : 161 ≤ m) (h : ∀ a, a ≠ m → J a = I a) : frN I J := ⟨fun a a1 _ _ => h a (by omega), fun j _ => by rw [h 124 (by omega)]⟩
theorem w_M_sOne0 : cRn b n lim NM q (sOne (lxJ b n lim) NM q 0) 8 (fun m sl sh I R Q => am_wp (d + 5) 313 0 [some (.inr (.inr (124))), none, none, none] [] (m, sl, sh, I, R) Q) := by
  intro Q m0 sl0 sh0 I R0 S hw hm0 hc hnm hs h60 hl ho h0 h1
  unfold sOne at h0 h1
  refine am_wp_go rfl (by simp (disch := omega) only [am_addE, am_subE, am_mulE, am_laddE, am_lsubE, am_upO, am_upS, am_stS, am_stO, am_tnn, am_brl, am_brg, am_bre, am_brn, am_brG, am_brL, am_st1, am_no2, am_st2, am_clr, and_self, true_and, and_true, true_or, or_true, List.length_cons, List.length_nil] <;> omega) ?_
  try simp (disch := omega) only [am_addE, am_subE, am_mulE, am_laddE, am_lsubE, am_upO, am_upS, am_stS, am_stO, am_tnn, am_brl, am_brg, am_bre, am_brn, am_brG, am_brL, am_st1, am_no2, am_st2, am_clr]
  refine am_wp_cc rfl rfl rfl (congrArg Prod.fst (s124 hw)) (w_M_isSignR (c := 40) hw hc ⟨_, rfl, ?_⟩)
  refine am_wp_go rfl (by simp (disch := omega) only [am_addE, am_subE, am_mulE, am_laddE, am_lsubE, am_upO, am_upS, am_stS, am_stO, am_tnn, am_brl, am_brg, am_bre, am_brn, am_brG, am_brL, am_st1, am_no2, am_st2, am_clr, and_self, true_and, and_true, true_or, or_true, List.length_cons, List.length_nil] <;> omega) ?_
  try simp (disch := omega) only [am_addE, am_subE, am_mulE, am_laddE, am_lsubE, am_upO, am_upS, am_stS, am_stO, am_tnn, am_brl, am_brg, am_bre, am_brn, am_brG, am_brL, am_st1, am_no2, am_st2, am_clr]
  refine am_wp_cc rfl rfl rfl (congrArg Prod.fst (s124 hw)) (w_M_oneAtHand hw hm0 hc (fun sh1 R1 J j0 j1 => ⟨_, rfl, ?_⟩))
  have hw1 := mo_wd j0 hw
  have hw := hw1
  have cJ := rpR_m hm0 j1 hc
  have fJ := frN_m hm0 j1
  have s59 := hs.2.1
  have J59 : J 124 59 = (S.2.1 : Int) := by rw [j1 124 (by omega)]; exact s59
  have J60 : J 124 60 = 8 := by rw [j1 124 (by omega)]; exact h60
  have ow := oneW_0 (t := lxJ b n lim S.1)
  clear hs s59
  generalize oneW (lxJ b n lim S.1) = w at *
  have U : sBgn (lxJ b n lim) S.1 → am_wp (d + 5) 313 27 [some (Sum.inr (Sum.inr 124)), some (Sum.inl (am_b (isSg (lxJ b n lim S.1) 40))), some (Sum.inl w), none] [] (m0 + 1, sl0 + 8, sh1, J, R1) Q := by
    intro hbg
    have t2 := sBgn_2 hbg
    rw [if_neg (fun hx => hx hbg)] at h0
    refine am_wp_go rfl (by simp (disch := omega) only [s124 hw, J59, J60, am_addE, am_subE, am_mulE, am_laddE, am_lsubE, am_upO, am_upS, am_stS, am_stO, am_tnn, am_brl, am_brg, am_bre, am_brn, am_brG, am_brL, am_st1, am_no2, am_st2, am_clr, and_self, true_and, and_true, true_or, or_true, List.length_cons, List.length_nil] <;> omega) ?_
    try simp (disch := omega) only [s124 hw, J59, J60, am_addE, am_subE, am_mulE, am_laddE, am_lsubE, am_upO, am_upS, am_stS, am_stO, am_tnn, am_brl, am_brg, am_bre, am_brn, am_brG, am_brL, am_st1, am_no2, am_st2, am_clr]
    refine am_wp_br (fun b33 => ?_) (fun b33 => ?_)
    · refine am_wp_go rfl (by simp (disch := omega) only [s124 hw, J59, J60, am_addE, am_subE, am_mulE, am_laddE, am_lsubE, am_upO, am_upS, am_stS, am_stO, am_tnn, am_brl, am_brg, am_bre, am_brn, am_brG, am_brL, am_st1, am_no2, am_st2, am_clr, and_self, true_and, and_true, true_or, or_true, List.length_cons, List.length_nil] <;> omega) ?_
      try simp (disch := omega) only [s124 hw, J59, J60, am_addE, am_subE, am_mulE, am_laddE, am_lsubE, am_upO, am_upS, am_stS, am_stO, am_tnn, am_brl, am_brg, am_bre, am_brn, am_brG, am_brL, am_st1, am_no2, am_st2, am_clr]
      refine am_wp_cc rfl rfl rfl (congrArg Prod.fst (s124 hw)) (w_M_bad' (k := 4) rfl hw cJ (Or.inr (by omega)) (fun A a0 a1 a2 => ⟨_, rfl, ?_⟩))
      refine am_wp_ret rfl rfl ?_
      exact h0 _ rfl _ _ sh1 A R1 j0 (by omega) (by omega) (by omega) (frN_tr fJ (frN_Q a0)) a1 a2
    · refine am_wp_go rfl (by simp (disch := omega) only [s124 hw, J59, J60, am_addE, am_subE, am_mulE, am_laddE, am_lsubE, am_upO, am_upS, am_stS, am_stO, am_tnn, am_brl, am_brg, am_bre, am_brn, am_brG, am_brL, am_st1, am_no2, am_st2, am_clr, and_self, true_and, and_true, true_or, or_true, List.length_cons, List.length_nil] <;> omega) ?_
      try simp (disch := omega) only [s124 hw, J59, J60, am_addE, am_subE, am_mulE, am_laddE, am_lsubE, am_upO, am_upS, am_stS, am_stO, am_tnn, am_brl, am_brg, am_bre, am_brn, am_brG, am_brL, am_st1, am_no2, am_st2, am_clr]
      refine am_wp_pc (pc' := 45) rfl ?_
      refine am_wp_go rfl (by simp (disch := omega) only [s124 hw, J59, J60, am_addE, am_subE, am_mulE, am_laddE, am_lsubE, am_upO, am_upS, am_stS, am_stO, am_tnn, am_brl, am_brg, am_bre, am_brn, am_brG, am_brL, am_st1, am_no2, am_st2, am_clr, and_self, true_and, and_true, true_or, or_true, List.length_cons, List.length_nil] <;> omega) ?_
      try simp (disch := omega) only [s124 hw, J59, J60, am_addE, am_subE, am_mulE, am_laddE, am_lsubE, am_upO, am_upS, am_stS, am_stO, am_tnn, am_brl, am_brg, am_bre, am_brn, am_brG, am_brL, am_st1, am_no2, am_st2, am_clr]
      refine am_wp_cc rfl rfl rfl (congrArg Prod.fst (s124 hw)) (w_M_bad' (k := 4) rfl hw cJ (Or.inr (by omega)) (fun A a0 a1 a2 => ⟨_, rfl, ?_⟩))
      refine am_wp_ret rfl rfl ?_
      exact h0 _ rfl _ _ sh1 A R1 j0 (by omega) (by omega) (by omega) (frN_tr fJ (frN_Q a0)) a1 a2
  refine am_wp_go rfl (by simp (disch := omega) only [s124 hw, am_bn0, am_addE, am_subE, am_mulE, am_laddE, am_lsubE, am_upO, am_upS, am_stS, am_stO, am_tnn, am_brl, am_brg, am_bre, am_brn, am_brG, am_brL, am_st1, am_no2, am_st2, am_clr, and_self, true_and, and_true, true_or, or_true, List.length_cons, List.length_nil] <;> omega) ?_
  try simp (disch := omega) only [s124 hw, am_bn0, am_addE, am_subE, am_mulE, am_laddE, am_lsubE, am_upO, am_upS, am_stS, am_stO, am_tnn, am_brl, am_brg, am_bre, am_brn, am_brG, am_brL, am_st1, am_no2, am_st2, am_clr]
  refine am_wp_br (fun b13 => ?_) (fun b13 => ?_)
  · exact am_wp_ls (U (Or.inl b13)) rfl
  · refine am_wp_go rfl (by simp (disch := omega) only [s124 hw, am_bn0, am_addE, am_subE, am_mulE, am_laddE, am_lsubE, am_upO, am_upS, am_stS, am_stO, am_tnn, am_brl, am_brg, am_bre, am_brn, am_brG, am_brL, am_st1, am_no2, am_st2, am_clr, and_self, true_and, and_true, true_or, or_true, List.length_cons, List.length_nil] <;> omega) ?_
    try simp (disch := omega) only [s124 hw, am_bn0, am_addE, am_subE, am_mulE, am_laddE, am_lsubE, am_upO, am_upS, am_stS, am_stO, am_tnn, am_brl, am_brg, am_bre, am_brn, am_brG, am_brL, am_st1, am_no2, am_st2, am_clr]
    refine am_wp_br (fun b18 => ?_) (fun b18 => ?_)
    · exact am_wp_ls (U (Or.inr (Classical.not_not.mp (fun hx => b18 (ow.mpr hx))))) rfl
    · have nb : ¬ (7 ≤ owC (lxJ b n lim S.1) ∧ owC (lxJ b n lim S.1) ≤ 14) := ow.mp (Classical.not_not.mp b18)
      rw [if_pos (fun hx => by rcases hx with hx | hx; exact b13 hx; exact nb hx)] at h0
      refine am_wp_go rfl (by simp (disch := omega) only [s124 hw, am_bn0, am_addE, am_subE, am_mulE, am_laddE, am_lsubE, am_upO, am_upS, am_stS, am_stO, am_tnn, am_brl, am_brg, am_bre, am_brn, am_brG, am_brL, am_st1, am_no2, am_st2, am_clr, and_self, true_and, and_true, true_or, or_true, List.length_cons, List.length_nil] <;> omega) ?_
      try simp (disch := omega) only [s124 hw, am_bn0, am_addE, am_subE, am_mulE, am_laddE, am_lsubE, am_upO, am_upS, am_stS, am_stO, am_tnn, am_brl, am_brg, am_bre, am_brn, am_brG, am_brL, am_st1, am_no2, am_st2, am_clr]
      refine am_wp_cc rfl rfl rfl (congrArg Prod.fst (s124 hw)) (w_M_bad' (k := 1) rfl hw cJ (Or.inl rfl) (fun A a0 a1 a2 => ⟨_, rfl, ?_⟩))
      refine am_wp_ret rfl rfl ?_
      exact h0 _ rfl _ _ sh1 A R1 j0 (by omega) (by omega) (by omega) (frN_tr fJ (frN_Q a0)) a1 a2
end SR
