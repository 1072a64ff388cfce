/-! A SENTENCE's text by the reference: measures -/
section SR
variable {m sl : Nat} {sh : Nat → Nat × Nat} {I : Nat → Nat → Int} {R : Nat → Nat → Nat} {Q : am_R → am_M → Prop} {d : Nat} {b : Nat → Nat} {n lim : Nat} {NM : Nat → List Nat} {q : Nat} {S : SNS}
theorem ndR_Q {J : Nat → Nat → Int} (h : ndR I q S) (g : frQ I J) : ndR J q S := by
  unfold ndR at h ⊢
  rw [g.2 58 (by decide), g.2 59 (by decide), g.1 159 (by decide)]; exact h
theorem ndR_u {j k : Nat} {x : Int} (h : ndR I q (j, S.2)) (hk : k ≠ 58 ∧ k ≠ 59) : ndR (am_up I 124 k x) q (j, S.2) := by
  unfold ndR at h ⊢
  rw [am_upS, am_stO (by omega), am_stO (by omega), am_upO (by decide)]; exact h
def cmpW (w v : Int) : Prop := w = 8 ∧ v = 8 ∨ w = 9 ∧ v = 9 ∨ w = 10 ∧ v = 15 ∨ w = 11 ∧ v = 16
theorem w_M_sCompare {w v : Int} (hv : cmpW w v) (hw : wd sh R) (hc : rpR I b n lim S.1) (hs : ndR I q S) (hl : S.2.2.length < 40)
    (h0 : ∀ e, sLeaf (lxJ b n lim) NM q w S = .inl e → ∀ J, frN I J → J 124 10 = (e.1 : Int) → J 124 11 = (e.2 : Int) → Q (am_yi 0) (m, sl, sh, J, R))
    (h1 : ∀ S', sLeaf (lxJ b n lim) NM q w S = .inr S' → ∀ J, frN I J → J 124 10 = I 124 10 → J 124 60 = I 124 60 → J 124 61 = (S'.2.2.length : Int) - 1 → ndR J q S' → rpR J b n lim S'.1 → Q (am_yi 1) (m, sl, sh, J, R)) : am_wp (d + 4) 317 0 [some (.inr (.inr (124))), some (.inl (v)), none] [] (m, sl, sh, I, R) Q := by
  unfold cmpW at hv
  unfold sLeaf at h0 h1
  rw [if_neg (by omega), if_neg (by omega)] at h0 h1
  have U : (isSg (lxJ b n lim S.1) 60 ∨ isSg (lxJ b n lim S.1) 61 ∨ isSg (lxJ b n lim S.1) 62) → am_wp (d + 4) 317 33 [some (.inr (.inr (124))), some (.inl (v)), none] [] (m, sl, sh, I, R) Q := by
    intro hsg
    rw [if_neg (fun hx => hx hsg)] at h0 h1
    have t5 : (lxJ b n lim S.1).1 = 5 := by rcases hsg with hx | hx | hx <;> exact hx.1
    have e9 := hc.2.2.2.2.1.2.2.2.2 t5
    have g3 : ((lxJ b n lim S.1).2.2.2 : Int) = 60 ∨ ((lxJ b n lim S.1).2.2.2 : Int) = 61 ∨ ((lxJ b n lim S.1).2.2.2 : Int) = 62 := by
      rcases hsg with hx | hx | hx <;> have := hx.2 <;> omega
    clear hsg
    refine am_wp_go rfl (by simp (disch := omega) only [s124 hw, e9, am_addE, am_subE, am_mulE, am_laddE, am_lsubE, am_upO, am_upS, am_stS, am_stO, am_tnn, am_brl, am_brg, am_bre, am_brn, am_brG, am_brL, am_st1, am_no2, am_st2, am_clr, and_self, true_and, and_true, true_or, or_true, List.length_cons, List.length_nil] <;> omega) ?_
    try simp (disch := omega) only [s124 hw, e9, am_addE, am_subE, am_mulE, am_laddE, am_lsubE, am_upO, am_upS, am_stS, am_stO, am_tnn, am_brl, am_brg, am_bre, am_brn, am_brG, am_brL, am_st1, am_no2, am_st2, am_clr]
    refine am_wp_cc rfl rfl rfl (congrArg Prod.fst (s124 hw)) (w_M_nx hw hc (by omega) (fun J j0 j1 => ⟨_, rfl, ?_⟩))
    have fJ := frQ_6 j0
    refine am_wp_go rfl (by simp (disch := omega) only [am_addE, am_subE, am_mulE, am_laddE, am_lsubE, am_upO, am_upS, am_stS, am_stO, am_tnn, am_brl, am_brg, am_bre, am_brn, am_brG, am_brL, am_st1, am_no2, am_st2, am_clr, and_self, true_and, and_true, true_or, or_true, List.length_cons, List.length_nil] <;> omega) ?_
    try simp (disch := omega) only [am_addE, am_subE, am_mulE, am_laddE, am_lsubE, am_upO, am_upS, am_stS, am_stO, am_tnn, am_brl, am_brg, am_bre, am_brn, am_brG, am_brL, am_st1, am_no2, am_st2, am_clr]
    refine am_wp_cc rfl rfl rfl (congrArg Prod.fst (s124 hw)) (w_M_readNumber (a := 0) (c := 999) rfl rfl hw j1 (fun n1 K k0 k1 k2 => ⟨_, rfl, ?_⟩) (fun n1 l1 l2 K k0 k1 k2 k3 => ⟨_, rfl, ?_⟩))
    · rw [if_pos n1] at h0
      refine am_wp_go rfl (by simp (disch := omega) only [am_addE, am_subE, am_mulE, am_laddE, am_lsubE, am_upO, am_upS, am_stS, am_stO, am_tnn, am_brl, am_brg, am_bre, am_brn, am_brG, am_brL, am_st1, am_no2, am_st2, am_clr, and_self, true_and, and_true, true_or, or_true, List.length_cons, List.length_nil] <;> omega) ?_
      refine am_wp_pc (pc' := 53) rfl ?_
      refine am_wp_go rfl (by simp (disch := omega) only [am_addE, am_subE, am_mulE, am_laddE, am_lsubE, am_upO, am_upS, am_stS, am_stO, am_tnn, am_brl, am_brg, am_bre, am_brn, am_brG, am_brL, am_st1, am_no2, am_st2, am_clr, and_self, true_and, and_true, true_or, or_true, List.length_cons, List.length_nil] <;> omega) ?_
      try simp (disch := omega) only [am_addE, am_subE, am_mulE, am_laddE, am_lsubE, am_upO, am_upS, am_stS, am_stO, am_tnn, am_brl, am_brg, am_bre, am_brn, am_brG, am_brL, am_st1, am_no2, am_st2, am_clr]
      refine am_wp_ret rfl rfl ?_
      exact h0 _ rfl K (frN_Q (frQ_tr fJ k0)) k1 k2
    · rw [if_neg (fun hx => hx n1)] at h1
      have fK := frQ_tr fJ k0
      have nK := ndR_Q hs fK
      refine am_wp_go rfl (by simp (disch := omega) only [am_addE, am_subE, am_mulE, am_laddE, am_lsubE, am_upO, am_upS, am_stS, am_stO, am_tnn, am_brl, am_brg, am_bre, am_brn, am_brG, am_brL, am_st1, am_no2, am_st2, am_clr, and_self, true_and, and_true, true_or, or_true, List.length_cons, List.length_nil] <;> omega) ?_
      refine am_wp_pc (pc' := 55) rfl ?_
      refine am_wp_go rfl (by simp (disch := omega) only [s124 hw, k2, am_addE, am_subE, am_mulE, am_laddE, am_lsubE, am_upO, am_upS, am_stS, am_stO, am_tnn, am_brl, am_brg, am_bre, am_brn, am_brG, am_brL, am_st1, am_no2, am_st2, am_clr, and_self, true_and, and_true, true_or, or_true, List.length_cons, List.length_nil] <;> omega) ?_
      try simp (disch := omega) only [s124 hw, k2, am_addE, am_subE, am_mulE, am_laddE, am_lsubE, am_upO, am_upS, am_stS, am_stO, am_tnn, am_brl, am_brg, am_bre, am_brn, am_brG, am_brL, am_st1, am_no2, am_st2, am_clr]
      refine am_wp_cc rfl rfl rfl (congrArg Prod.fst (s124 hw)) (w_M_saysOne (k := S.2.2.length) hw nK.1 (by omega) (fun X x0 => ⟨_, rfl, ?_⟩))
      refine am_wp_go rfl (by simp (disch := omega) only [s124 hw, k2, am_addE, am_subE, am_mulE, am_laddE, am_lsubE, am_upO, am_upS, am_stS, am_stO, am_tnn, am_brl, am_brg, am_bre, am_brn, am_brG, am_brL, am_st1, am_no2, am_st2, am_clr, and_self, true_and, and_true, true_or, or_true, List.length_cons, List.length_nil] <;> omega) ?_
      try simp (disch := omega) only [s124 hw, k2, am_addE, am_subE, am_mulE, am_laddE, am_lsubE, am_upO, am_upS, am_stS, am_stO, am_tnn, am_brl, am_brg, am_bre, am_brn, am_brG, am_brL, am_st1, am_no2, am_st2, am_clr]
      obtain ⟨v0, v1, v2, v3⟩ := frD_v x0
      have nd : ndR X q (S.1 + 2, S.2.1, S.2.2 ++ [(w, ((lxJ b n lim S.1).2.2.2 : Int), ((lxJ b n lim (S.1 + 1)).2.2.2 : Int))]) := nd_say nK x0 (Or.inr (Or.inr (Or.inr (Or.inr (Or.inr ⟨by rw [st_last.1, v0]; dsimp only; omega, by rw [st_last.2.2, v2], by rw [st_last.2.1, v3], by rw [st_last.2.1]; exact g3⟩)))))
      refine am_wp_ret rfl rfl ?_
      refine h1 _ rfl _ (frN_up (frN_tr (frN_Q fK) (frD_N x0)) (by decide)) ?_ ?_ ?_ (ndR_u (S := (0, S.2.1, S.2.2 ++ [(w, ((lxJ b n lim S.1).2.2.2 : Int), ((lxJ b n lim (S.1 + 1)).2.2.2 : Int))])) nd (by decide)) (rpR_up (frD_rp x0 k3) (Or.inr ⟨rfl, by decide⟩))
      · rw [am_upS, am_stO (by decide), x0.2.1 10 (by decide), k1, fr6_10 j0]
      · rw [am_upS, am_stO (by decide), x0.2.1 60 (by decide), fK.2 60 (by decide)]
      · rw [am_upS, am_stS rfl]
        dsimp only
        rw [List.length_append, List.length_singleton]
        omega
  clear h1
  refine am_wp_go rfl (by simp (disch := omega) only [s124 hw, am_bn0, am_addE, am_subE, am_mulE, am_laddE, am_lsubE, am_upO, am_upS, am_stS, am_stO, am_tnn, am_brl, am_brg, am_bre, am_brn, am_brG, am_brL, am_st1, am_no2, am_st2, am_clr, and_self, true_and, and_true, true_or, or_true, List.length_cons, List.length_nil] <;> omega) ?_
  try simp (disch := omega) only [s124 hw, am_bn0, am_addE, am_subE, am_mulE, am_laddE, am_lsubE, am_upO, am_upS, am_stS, am_stO, am_tnn, am_brl, am_brg, am_bre, am_brn, am_brG, am_brL, am_st1, am_no2, am_st2, am_clr]
  refine am_wp_cc rfl rfl rfl (congrArg Prod.fst (s124 hw)) (w_M_isSignR (c := 60) hw hc ⟨_, rfl, ?_⟩)
  refine am_wp_go rfl (by simp (disch := omega) only [s124 hw, am_bn0, am_addE, am_subE, am_mulE, am_laddE, am_lsubE, am_upO, am_upS, am_stS, am_stO, am_tnn, am_brl, am_brg, am_bre, am_brn, am_brG, am_brL, am_st1, am_no2, am_st2, am_clr, and_self, true_and, and_true, true_or, or_true, List.length_cons, List.length_nil] <;> omega) ?_
  try simp (disch := omega) only [s124 hw, am_bn0, am_addE, am_subE, am_mulE, am_laddE, am_lsubE, am_upO, am_upS, am_stS, am_stO, am_tnn, am_brl, am_brg, am_bre, am_brn, am_brG, am_brL, am_st1, am_no2, am_st2, am_clr]
  refine am_wp_br (fun b6 => ?_) (fun b6 => ?_)
  · exact am_wp_ls (U (Or.inl b6)) rfl
  · refine am_wp_go rfl (by simp (disch := omega) only [s124 hw, am_bn0, am_addE, am_subE, am_mulE, am_laddE, am_lsubE, am_upO, am_upS, am_stS, am_stO, am_tnn, am_brl, am_brg, am_bre, am_brn, am_brG, am_brL, am_st1, am_no2, am_st2, am_clr, and_self, true_and, and_true, true_or, or_true, List.length_cons, List.length_nil] <;> omega) ?_
    try simp (disch := omega) only [s124 hw, am_bn0, am_addE, am_subE, am_mulE, am_laddE, am_lsubE, am_upO, am_upS, am_stS, am_stO, am_tnn, am_brl, am_brg, am_bre, am_brn, am_brG, am_brL, am_st1, am_no2, am_st2, am_clr]
    refine am_wp_cc rfl rfl rfl (congrArg Prod.fst (s124 hw)) (w_M_isSignR (c := 61) hw hc ⟨_, rfl, ?_⟩)
    refine am_wp_go rfl (by simp (disch := omega) only [s124 hw, am_bn0, am_addE, am_subE, am_mulE, am_laddE, am_lsubE, am_upO, am_upS, am_stS, am_stO, am_tnn, am_brl, am_brg, am_bre, am_brn, am_brG, am_brL, am_st1, am_no2, am_st2, am_clr, and_self, true_and, and_true, true_or, or_true, List.length_cons, List.length_nil] <;> omega) ?_
    try simp (disch := omega) only [s124 hw, am_bn0, am_addE, am_subE, am_mulE, am_laddE, am_lsubE, am_upO, am_upS, am_stS, am_stO, am_tnn, am_brl, am_brg, am_bre, am_brn, am_brG, am_brL, am_st1, am_no2, am_st2, am_clr]
    refine am_wp_br (fun b15 => ?_) (fun b15 => ?_)
    · exact am_wp_ls (U (Or.inr (Or.inl b15))) rfl
    · refine am_wp_go rfl (by simp (disch := omega) only [s124 hw, am_bn0, am_addE, am_subE, am_mulE, am_laddE, am_lsubE, am_upO, am_upS, am_stS, am_stO, am_tnn, am_brl, am_brg, am_bre, am_brn, am_brG, am_brL, am_st1, am_no2, am_st2, am_clr, and_self, true_and, and_true, true_or, or_true, List.length_cons, List.length_nil] <;> omega) ?_
      try simp (disch := omega) only [s124 hw, am_bn0, am_addE, am_subE, am_mulE, am_laddE, am_lsubE, am_upO, am_upS, am_stS, am_stO, am_tnn, am_brl, am_brg, am_bre, am_brn, am_brG, am_brL, am_st1, am_no2, am_st2, am_clr]
      refine am_wp_cc rfl rfl rfl (congrArg Prod.fst (s124 hw)) (w_M_isSignR (c := 62) hw hc ⟨_, rfl, ?_⟩)
      refine am_wp_go rfl (by simp (disch := omega) only [s124 hw, am_bn0, am_addE, am_subE, am_mulE, am_laddE, am_lsubE, am_upO, am_upS, am_stS, am_stO, am_tnn, am_brl, am_brg, am_bre, am_brn, am_brG, am_brL, am_st1, am_no2, am_st2, am_clr, and_self, true_and, and_true, true_or, or_true, List.length_cons, List.length_nil] <;> omega) ?_
      try simp (disch := omega) only [s124 hw, am_bn0, am_addE, am_subE, am_mulE, am_laddE, am_lsubE, am_upO, am_upS, am_stS, am_stO, am_tnn, am_brl, am_brg, am_bre, am_brn, am_brG, am_brL, am_st1, am_no2, am_st2, am_clr]
      refine am_wp_br (fun b24 => ?_) (fun b24 => ?_)
      · exact am_wp_ls (U (Or.inr (Or.inr b24))) rfl
      · rw [if_pos (fun hx => by rcases hx with hx | hx | hx; exact b6 hx; exact b15 hx; exact b24 hx)] at h0
        refine am_wp_go rfl (by simp (disch := omega) only [s124 hw, am_bn0, am_addE, am_subE, am_mulE, am_laddE, am_lsubE, am_upO, am_upS, am_stS, am_stO, am_tnn, am_brl, am_brg, am_bre, am_brn, am_brG, am_brL, am_st1, am_no2, am_st2, am_clr, and_self, true_and, and_true, true_or, or_true, List.length_cons, List.length_nil] <;> omega) ?_
        try simp (disch := omega) only [s124 hw, am_bn0, am_addE, am_subE, am_mulE, am_laddE, am_lsubE, am_upO, am_upS, am_stS, am_stO, am_tnn, am_brl, am_brg, am_bre, am_brn, am_brG, am_brL, am_st1, am_no2, am_st2, am_clr]
        refine am_wp_cc rfl rfl rfl (congrArg Prod.fst (s124 hw)) (w_M_bad' (k := 1) rfl hw hc (Or.inl rfl) (fun J j0 j1 j2 => ⟨_, rfl, ?_⟩))
        refine am_wp_ret rfl rfl ?_
        exact h0 _ rfl J (frN_Q j0) j1 j2
end SR
