/-! A SENTENCE's text: the class's reading -/
theorem sLp_y {f : SNS → SNR} {w : Int} {T : Nat → Tk} {c : Nat} {S : SNS} (h : owC (T S.1) = w) : sLp f w T (c + 1) S = match f (S.1 + 1, S.2) with
    | .inl e => .inl e
    | .inr S' => sLp f w T c (S'.1, S'.2.1, S'.2.2 ++ [(w, 0, 0)]) := by
  conv => lhs; unfold sLp
  rw [if_pos h]
  cases f (S.1 + 1, S.2) <;> rfl
theorem sLp_n {f : SNS → SNR} {w : Int} {T : Nat → Tk} {c : Nat} {S : SNS} (h : c = 0 ∨ owC (T S.1) ≠ w) : sLp f w T c S = .inr S := by
  cases c with
  | zero => rfl
  | succ c =>
    conv => lhs; unfold sLp
    rw [if_neg (by rcases h with h | h; exact absurd h (by omega); exact h)]
def cSn (m sl : Nat) (sh : Nat → Nat × Nat) (R : Nat → Nat → Nat) (T : Nat → Tk) (NM : Nat → List Nat) (n N : Nat) (f : SNS → SNR) (run : (Nat → Nat → Int) → (am_R → am_M → Prop) → Prop) : Prop := ∀ (Q : am_R → am_M → Prop) (I : Nat → Nat → Int) (S : SNS), nmC I NM n → tpC I T N S.1 → stC I S → S.2.2.length ≤ 2 * S.2.1 → S.2.1 ≤ 20 → (∀ e, f S = .inl e → ∀ J, frS I J → J 55 11 = (e.1 : Int) → J 55 12 = (e.2 : Int) → Q (am_yi 0) (m, sl, sh, J, R)) → (∀ S', f S = .inr S' → ∀ J, frS I J → stC J S' → tpC J T N S'.1 → Q (am_yi 1) (m, sl, sh, J, R)) → run I Q
section SP
variable {m sl : Nat} {sh : Nat → Nat × Nat} {I : Nat → Nat → Int} {R : Nat → Nat → Nat} {Q : am_R → am_M → Prop} {d : Nat} {N j : Nat} {T : Nat → Tk} {NM : Nat → List Nat} {n : Nat} {S : SNS}
theorem w_sAfter (hw : wd sh R) (hT : tkOk T) (hm : nmC I NM n) (hc : tpC I T N S.1) (hs : stC I S) (hl : S.2.2.length < 40)
    (h0 : ∀ e, sLeaf T NM n 14 S = .inl e → ∀ J, frS I J → J 55 11 = (e.1 : Int) → J 55 12 = (e.2 : Int) → Q (am_yi 0) (m, sl, sh, J, R))
    (h1 : ∀ S', sLeaf T NM n 14 S = .inr S' → ∀ J, frS I J → stC J S' → tpC J T N S'.1 → Q (am_yi 1) (m, sl, sh, J, R)) : am_wp (d + 2) 86 0 [some (.inr (.inr (50))), some (.inr (.inr (55))), some (.inr (.inr (6))), none] [] (m, sl, sh, I, R) Q := by
  unfold sLeaf at h0 h1
  rw [if_neg (by decide), if_pos rfl] at h0 h1
  refine am_wp_go rfl (by simp (disch := omega) only [am_addE, am_subE, am_mulE, am_laddE, am_lsubE, am_upO, am_upS, am_stS, am_stO, am_tnn, am_brl, am_brg, am_bre, am_brn, am_brG, am_brL, am_st1, am_no2, am_st2, am_clr, and_self, true_and, and_true, true_or, or_true, List.length_cons, List.length_nil] <;> omega) ?_
  try simp (disch := omega) only [am_addE, am_subE, am_mulE, am_laddE, am_lsubE, am_upO, am_upS, am_stS, am_stO, am_tnn, am_brl, am_brg, am_bre, am_brn, am_brG, am_brL, am_st1, am_no2, am_st2, am_clr]
  refine am_wp_cc rfl rfl rfl (congrArg Prod.fst (s55 hw)) (w_findSlice hw hc hT hm (fun n0 J j0 j1 j2 => ⟨_, rfl, ?_⟩) (fun n0 n1 J j0 j1 j2 => ⟨_, rfl, ?_⟩) (fun n0 n1 => ⟨_, rfl, ?_⟩))
  · rw [if_pos n0] at h0
    refine am_wp_go rfl (by simp (disch := omega) only [am_addE, am_subE, am_mulE, am_laddE, am_lsubE, am_upO, am_upS, am_stS, am_stO, am_tnn, am_brl, am_brg, am_bre, am_brn, am_brG, am_brL, am_st1, am_no2, am_st2, am_clr, and_self, true_and, and_true, true_or, or_true, List.length_cons, List.length_nil] <;> omega) ?_
    refine am_wp_pc (pc' := 11) rfl ?_
    refine am_wp_go rfl (by simp (disch := omega) only [am_addE, am_subE, am_mulE, am_laddE, am_lsubE, am_upO, am_upS, am_stS, am_stO, am_tnn, am_brl, am_brg, am_bre, am_brn, am_brG, am_brL, am_st1, am_no2, am_st2, am_clr, and_self, true_and, and_true, true_or, or_true, List.length_cons, List.length_nil] <;> omega) ?_
    try simp (disch := omega) only [am_addE, am_subE, am_mulE, am_laddE, am_lsubE, am_upO, am_upS, am_stS, am_stO, am_tnn, am_brl, am_brg, am_bre, am_brn, am_brG, am_brL, am_st1, am_no2, am_st2, am_clr]
    refine am_wp_ret rfl rfl ?_
    exact h0 _ rfl J (frS_A j0) j1 j2
  · rw [if_neg (fun hx => hx n0), if_pos n1] at h0
    refine am_wp_go rfl (by simp (disch := omega) only [am_addE, am_subE, am_mulE, am_laddE, am_lsubE, am_upO, am_upS, am_stS, am_stO, am_tnn, am_brl, am_brg, am_bre, am_brn, am_brG, am_brL, am_st1, am_no2, am_st2, am_clr, and_self, true_and, and_true, true_or, or_true, List.length_cons, List.length_nil] <;> omega) ?_
    refine am_wp_pc (pc' := 11) rfl ?_
    refine am_wp_go rfl (by simp (disch := omega) only [am_addE, am_subE, am_mulE, am_laddE, am_lsubE, am_upO, am_upS, am_stS, am_stO, am_tnn, am_brl, am_brg, am_bre, am_brn, am_brG, am_brL, am_st1, am_no2, am_st2, am_clr, and_self, true_and, and_true, true_or, or_true, List.length_cons, List.length_nil] <;> omega) ?_
    try simp (disch := omega) only [am_addE, am_subE, am_mulE, am_laddE, am_lsubE, am_upO, am_upS, am_stS, am_stO, am_tnn, am_brl, am_brg, am_bre, am_brn, am_brG, am_brL, am_st1, am_no2, am_st2, am_clr]
    refine am_wp_ret rfl rfl ?_
    exact h0 _ rfl J (frS_A j0) j1 j2
  · rw [if_neg (fun hx => hx n0), if_neg n1] at h1
    have t2 : 2 ≤ (T S.1).1 := by have := (cK_2.mp n0).1; omega
    generalize kFd NM 0 n (T S.1).2.2.1 = s at *
    refine am_wp_go rfl (by simp (disch := omega) only [am_addE, am_subE, am_mulE, am_laddE, am_lsubE, am_upO, am_upS, am_stS, am_stO, am_tnn, am_brl, am_brg, am_bre, am_brn, am_brG, am_brL, am_st1, am_no2, am_st2, am_clr, and_self, true_and, and_true, true_or, or_true, List.length_cons, List.length_nil] <;> omega) ?_
    try simp (disch := omega) only [am_addE, am_subE, am_mulE, am_laddE, am_lsubE, am_upO, am_upS, am_stS, am_stO, am_tnn, am_brl, am_brg, am_bre, am_brn, am_brG, am_brL, am_st1, am_no2, am_st2, am_clr]
    refine am_wp_br (fun b8 => ?_) (fun b8 => ?_)
    · refine am_wp_go rfl (by simp (disch := omega) only [am_addE, am_subE, am_mulE, am_laddE, am_lsubE, am_upO, am_upS, am_stS, am_stO, am_tnn, am_brl, am_brg, am_bre, am_brn, am_brG, am_brL, am_st1, am_no2, am_st2, am_clr, and_self, true_and, and_true, true_or, or_true, List.length_cons, List.length_nil] <;> omega) ?_
      try simp (disch := omega) only [am_addE, am_subE, am_mulE, am_laddE, am_lsubE, am_upO, am_upS, am_stS, am_stO, am_tnn, am_brl, am_brg, am_bre, am_brn, am_brG, am_brL, am_st1, am_no2, am_st2, am_clr]
      refine am_wp_cc rfl rfl rfl (congrArg Prod.fst (s50 hw)) (w_putStep (w := 14) (g := 0) (x := s) hw hs hl (fun J j0 j1 => ⟨_, rfl, ?_⟩))
      refine am_wp_go rfl (by simp (disch := omega) only [am_addE, am_subE, am_mulE, am_laddE, am_lsubE, am_upO, am_upS, am_stS, am_stO, am_tnn, am_brl, am_brg, am_bre, am_brn, am_brG, am_brL, am_st1, am_no2, am_st2, am_clr, and_self, true_and, and_true, true_or, or_true, List.length_cons, List.length_nil] <;> omega) ?_
      try simp (disch := omega) only [am_addE, am_subE, am_mulE, am_laddE, am_lsubE, am_upO, am_upS, am_stS, am_stO, am_tnn, am_brl, am_brg, am_bre, am_brn, am_brG, am_brL, am_st1, am_no2, am_st2, am_clr]
      refine am_wp_cc rfl rfl rfl (congrArg Prod.fst (s55 hw)) (w_advance hw (tpC_5 hc j0) t2 (fun K k0 k1 k2 k3 => ⟨_, rfl, ?_⟩))
      refine am_wp_go rfl (by simp (disch := omega) only [am_addE, am_subE, am_mulE, am_laddE, am_lsubE, am_upO, am_upS, am_stS, am_stO, am_tnn, am_brl, am_brg, am_bre, am_brn, am_brG, am_brL, am_st1, am_no2, am_st2, am_clr, and_self, true_and, and_true, true_or, or_true, List.length_cons, List.length_nil] <;> omega) ?_
      try simp (disch := omega) only [am_addE, am_subE, am_mulE, am_laddE, am_lsubE, am_upO, am_upS, am_stS, am_stO, am_tnn, am_brl, am_brg, am_bre, am_brn, am_brG, am_brL, am_st1, am_no2, am_st2, am_clr]
      refine am_wp_ret rfl rfl ?_
      exact h1 _ rfl K (frS_tr (frS_5 j0) (frS_A k0)) (stC_A j1 k0) k3
    · exact absurd n1 b8
theorem w_sMeasure {w : Int} (hw : wd sh R) (hc : tpC I T N S.1) (hs : stC I S) (hl : S.2.2.length < 40) (hw1 : ¬ (w = 7 ∨ w = 13)) (hw2 : w ≠ 14)
    (h0 : ∀ e, sLeaf T NM n w S = .inl e → ∀ J, frS I J → J 55 11 = (e.1 : Int) → J 55 12 = (e.2 : Int) → Q (am_yi 0) (m, sl, sh, J, R))
    (h1 : ∀ S', sLeaf T NM n w S = .inr S' → ∀ J, frS I J → stC J S' → tpC J T N S'.1 → Q (am_yi 1) (m, sl, sh, J, R)) : am_wp (d + 2) 87 0 [some (.inr (.inr (50))), some (.inr (.inr (55))), some (.inl (w)), none, none] [] (m, sl, sh, I, R) Q := by
  unfold sLeaf at h0 h1
  rw [if_neg hw1, if_neg hw2] at h0 h1
  have h9 := hc.2.2.2.2.2.2.1
  have U : (isSg (T S.1) 60 ∨ isSg (T S.1) 61 ∨ isSg (T S.1) 62) → am_wp (d + 2) 87 39 [some (.inr (.inr (50))), some (.inr (.inr (55))), some (.inl (w)), some (.inl ((I 55 9))), none] [.inr (.inr (55))] (m, sl, sh, I, R) Q := by
    intro hsg
    rw [if_neg (fun hx => hx hsg)] at h0 h1
    have t5 : (T S.1).1 = 5 := by rcases hsg with hx | hx | hx <;> exact hx.1
    have e9 : I 55 9 = ((T S.1).2.2.2 : Int) := by
      rw [h9 (by omega)]
      unfold cV
      rw [if_neg (by omega)]
    rw [e9]
    clear e9 h9 hsg
    refine am_wp_cc rfl rfl rfl (congrArg Prod.fst (s55 hw)) (w_advance hw hc (by omega) (fun J j0 j1 j2 j3 => ⟨_, rfl, ?_⟩))
    refine am_wp_go rfl (by simp (disch := omega) only [am_addE, am_subE, am_mulE, am_laddE, am_lsubE, am_upO, am_upS, am_stS, am_stO, am_tnn, am_brl, am_brg, am_bre, am_brn, am_brG, am_brL, am_st1, am_no2, am_st2, am_clr, and_self, true_and, and_true, true_or, or_true, List.length_cons, List.length_nil] <;> omega) ?_
    try simp (disch := omega) only [am_addE, am_subE, am_mulE, am_laddE, am_lsubE, am_upO, am_upS, am_stS, am_stO, am_tnn, am_brl, am_brg, am_bre, am_brn, am_brG, am_brL, am_st1, am_no2, am_st2, am_clr]
    refine am_wp_cc rfl rfl rfl (congrArg Prod.fst (s55 hw)) (w_takeNumber' (a := 0) (b := 999) rfl rfl hw j3 (fun z0 V v0 v1 v2 => ⟨_, rfl, ?_⟩) (fun z0 l1 l2 V v0 v1 v2 v3 => ⟨_, rfl, ?_⟩))
    · rw [if_pos z0] at h0
      refine am_wp_go rfl (by simp (disch := omega) only [am_addE, am_subE, am_mulE, am_laddE, am_lsubE, am_upO, am_upS, am_stS, am_stO, am_tnn, am_brl, am_brg, am_bre, am_brn, am_brG, am_brL, am_st1, am_no2, am_st2, am_clr, and_self, true_and, and_true, true_or, or_true, List.length_cons, List.length_nil] <;> omega) ?_
      refine am_wp_pc (pc' := 58) rfl ?_
      refine am_wp_go rfl (by simp (disch := omega) only [am_addE, am_subE, am_mulE, am_laddE, am_lsubE, am_upO, am_upS, am_stS, am_stO, am_tnn, am_brl, am_brg, am_bre, am_brn, am_brG, am_brL, am_st1, am_no2, am_st2, am_clr, and_self, true_and, and_true, true_or, or_true, List.length_cons, List.length_nil] <;> omega) ?_
      try simp (disch := omega) only [am_addE, am_subE, am_mulE, am_laddE, am_lsubE, am_upO, am_upS, am_stS, am_stO, am_tnn, am_brl, am_brg, am_bre, am_brn, am_brG, am_brL, am_st1, am_no2, am_st2, am_clr]
      refine am_wp_ret rfl rfl ?_
      exact h0 _ rfl V (frS_tr (frS_A j0) (frS_A v0)) v1 v2
    · rw [if_neg (fun hx => hx z0)] at h1
      refine am_wp_go rfl (by simp (disch := omega) only [am_addE, am_subE, am_mulE, am_laddE, am_lsubE, am_upO, am_upS, am_stS, am_stO, am_tnn, am_brl, am_brg, am_bre, am_brn, am_brG, am_brL, am_st1, am_no2, am_st2, am_clr, and_self, true_and, and_true, true_or, or_true, List.length_cons, List.length_nil] <;> omega) ?_
      try simp (disch := omega) only [am_addE, am_subE, am_mulE, am_laddE, am_lsubE, am_upO, am_upS, am_stS, am_stO, am_tnn, am_brl, am_brg, am_bre, am_brn, am_brG, am_brL, am_st1, am_no2, am_st2, am_clr]
      refine am_wp_br (fun b55 => ?_) (fun b55 => ?_)
      · refine am_wp_go rfl (by simp (disch := omega) only [am_addE, am_subE, am_mulE, am_laddE, am_lsubE, am_upO, am_upS, am_stS, am_stO, am_tnn, am_brl, am_brg, am_bre, am_brn, am_brG, am_brL, am_st1, am_no2, am_st2, am_clr, and_self, true_and, and_true, true_or, or_true, List.length_cons, List.length_nil] <;> omega) ?_
        try simp (disch := omega) only [am_addE, am_subE, am_mulE, am_laddE, am_lsubE, am_upO, am_upS, am_stS, am_stO, am_tnn, am_brl, am_brg, am_bre, am_brn, am_brG, am_brL, am_st1, am_no2, am_st2, am_clr]
        refine am_wp_cc rfl rfl rfl (congrArg Prod.fst (s50 hw)) (w_putStep (w := w) (g := ((T S.1).2.2.2 : Int)) (x := ((T (S.1 + 1)).2.2.2 : Int)) hw (stC_A (stC_A hs j0) v0) hl (fun X x0 x1 => ⟨_, rfl, ?_⟩))
        refine am_wp_go rfl (by simp (disch := omega) only [am_addE, am_subE, am_mulE, am_laddE, am_lsubE, am_upO, am_upS, am_stS, am_stO, am_tnn, am_brl, am_brg, am_bre, am_brn, am_brG, am_brL, am_st1, am_no2, am_st2, am_clr, and_self, true_and, and_true, true_or, or_true, List.length_cons, List.length_nil] <;> omega) ?_
        try simp (disch := omega) only [am_addE, am_subE, am_mulE, am_laddE, am_lsubE, am_upO, am_upS, am_stS, am_stO, am_tnn, am_brl, am_brg, am_bre, am_brn, am_brG, am_brL, am_st1, am_no2, am_st2, am_clr]
        refine am_wp_ret rfl rfl ?_
        exact h1 _ rfl X (frS_tr (frS_tr (frS_A j0) (frS_A v0)) (frS_5 x0)) x1 (tpC_5 v3 x0)
      · omega
  clear h1
  refine am_wp_go rfl (by simp (disch := omega) only [s55 hw, am_bn0, am_addE, am_subE, am_mulE, am_laddE, am_lsubE, am_upO, am_upS, am_stS, am_stO, am_tnn, am_brl, am_brg, am_bre, am_brn, am_brG, am_brL, am_st1, am_no2, am_st2, am_clr, and_self, true_and, and_true, true_or, or_true, List.length_cons, List.length_nil] <;> omega) ?_
  try simp (disch := omega) only [s55 hw, am_bn0, am_addE, am_subE, am_mulE, am_laddE, am_lsubE, am_upO, am_upS, am_stS, am_stO, am_tnn, am_brl, am_brg, am_bre, am_brn, am_brG, am_brL, am_st1, am_no2, am_st2, am_clr]
  refine am_wp_cc rfl rfl rfl (congrArg Prod.fst (s55 hw)) (w_isSign (c := 60) hw hc ⟨_, rfl, ?_⟩)
  refine am_wp_go rfl (by simp (disch := omega) only [s55 hw, am_bn0, am_addE, am_subE, am_mulE, am_laddE, am_lsubE, am_upO, am_upS, am_stS, am_stO, am_tnn, am_brl, am_brg, am_bre, am_brn, am_brG, am_brL, am_st1, am_no2, am_st2, am_clr, and_self, true_and, and_true, true_or, or_true, List.length_cons, List.length_nil] <;> omega) ?_
  try simp (disch := omega) only [s55 hw, am_bn0, am_addE, am_subE, am_mulE, am_laddE, am_lsubE, am_upO, am_upS, am_stS, am_stO, am_tnn, am_brl, am_brg, am_bre, am_brn, am_brG, am_brL, am_st1, am_no2, am_st2, am_clr]
  refine am_wp_br (fun b11 => ?_) (fun b11 => ?_)
  · refine am_wp_go rfl (by simp (disch := omega) only [s55 hw, am_bn0, am_addE, am_subE, am_mulE, am_laddE, am_lsubE, am_upO, am_upS, am_stS, am_stO, am_tnn, am_brl, am_brg, am_bre, am_brn, am_brG, am_brL, am_st1, am_no2, am_st2, am_clr, and_self, true_and, and_true, true_or, or_true, List.length_cons, List.length_nil] <;> omega) ?_
    try simp (disch := omega) only [s55 hw, am_bn0, am_addE, am_subE, am_mulE, am_laddE, am_lsubE, am_upO, am_upS, am_stS, am_stO, am_tnn, am_brl, am_brg, am_bre, am_brn, am_brG, am_brL, am_st1, am_no2, am_st2, am_clr]
    exact am_wp_ls (U (Or.inl b11)) rfl
  · refine am_wp_go rfl (by simp (disch := omega) only [s55 hw, am_bn0, am_addE, am_subE, am_mulE, am_laddE, am_lsubE, am_upO, am_upS, am_stS, am_stO, am_tnn, am_brl, am_brg, am_bre, am_brn, am_brG, am_brL, am_st1, am_no2, am_st2, am_clr, and_self, true_and, and_true, true_or, or_true, List.length_cons, List.length_nil] <;> omega) ?_
    try simp (disch := omega) only [s55 hw, am_bn0, am_addE, am_subE, am_mulE, am_laddE, am_lsubE, am_upO, am_upS, am_stS, am_stO, am_tnn, am_brl, am_brg, am_bre, am_brn, am_brG, am_brL, am_st1, am_no2, am_st2, am_clr]
    refine am_wp_cc rfl rfl rfl (congrArg Prod.fst (s55 hw)) (w_isSign (c := 61) hw hc ⟨_, rfl, ?_⟩)
    refine am_wp_go rfl (by simp (disch := omega) only [s55 hw, am_bn0, am_addE, am_subE, am_mulE, am_laddE, am_lsubE, am_upO, am_upS, am_stS, am_stO, am_tnn, am_brl, am_brg, am_bre, am_brn, am_brG, am_brL, am_st1, am_no2, am_st2, am_clr, and_self, true_and, and_true, true_or, or_true, List.length_cons, List.length_nil] <;> omega) ?_
    try simp (disch := omega) only [s55 hw, am_bn0, am_addE, am_subE, am_mulE, am_laddE, am_lsubE, am_upO, am_upS, am_stS, am_stO, am_tnn, am_brl, am_brg, am_bre, am_brn, am_brG, am_brL, am_st1, am_no2, am_st2, am_clr]
    refine am_wp_br (fun b20 => ?_) (fun b20 => ?_)
    · refine am_wp_go rfl (by simp (disch := omega) only [s55 hw, am_bn0, am_addE, am_subE, am_mulE, am_laddE, am_lsubE, am_upO, am_upS, am_stS, am_stO, am_tnn, am_brl, am_brg, am_bre, am_brn, am_brG, am_brL, am_st1, am_no2, am_st2, am_clr, and_self, true_and, and_true, true_or, or_true, List.length_cons, List.length_nil] <;> omega) ?_
      try simp (disch := omega) only [s55 hw, am_bn0, am_addE, am_subE, am_mulE, am_laddE, am_lsubE, am_upO, am_upS, am_stS, am_stO, am_tnn, am_brl, am_brg, am_bre, am_brn, am_brG, am_brL, am_st1, am_no2, am_st2, am_clr]
      exact am_wp_ls (U (Or.inr (Or.inl b20))) rfl
    · refine am_wp_go rfl (by simp (disch := omega) only [s55 hw, am_bn0, am_addE, am_subE, am_mulE, am_laddE, am_lsubE, am_upO, am_upS, am_stS, am_stO, am_tnn, am_brl, am_brg, am_bre, am_brn, am_brG, am_brL, am_st1, am_no2, am_st2, am_clr, and_self, true_and, and_true, true_or, or_true, List.length_cons, List.length_nil] <;> omega) ?_
      try simp (disch := omega) only [s55 hw, am_bn0, am_addE, am_subE, am_mulE, am_laddE, am_lsubE, am_upO, am_upS, am_stS, am_stO, am_tnn, am_brl, am_brg, am_bre, am_brn, am_brG, am_brL, am_st1, am_no2, am_st2, am_clr]
      refine am_wp_cc rfl rfl rfl (congrArg Prod.fst (s55 hw)) (w_isSign (c := 62) hw hc ⟨_, rfl, ?_⟩)
      refine am_wp_go rfl (by simp (disch := omega) only [s55 hw, am_bn0, am_addE, am_subE, am_mulE, am_laddE, am_lsubE, am_upO, am_upS, am_stS, am_stO, am_tnn, am_brl, am_brg, am_bre, am_brn, am_brG, am_brL, am_st1, am_no2, am_st2, am_clr, and_self, true_and, and_true, true_or, or_true, List.length_cons, List.length_nil] <;> omega) ?_
      try simp (disch := omega) only [s55 hw, am_bn0, am_addE, am_subE, am_mulE, am_laddE, am_lsubE, am_upO, am_upS, am_stS, am_stO, am_tnn, am_brl, am_brg, am_bre, am_brn, am_brG, am_brL, am_st1, am_no2, am_st2, am_clr]
      refine am_wp_br (fun b29 => ?_) (fun b29 => ?_)
      · refine am_wp_go rfl (by simp (disch := omega) only [s55 hw, am_bn0, am_addE, am_subE, am_mulE, am_laddE, am_lsubE, am_upO, am_upS, am_stS, am_stO, am_tnn, am_brl, am_brg, am_bre, am_brn, am_brG, am_brL, am_st1, am_no2, am_st2, am_clr, and_self, true_and, and_true, true_or, or_true, List.length_cons, List.length_nil] <;> omega) ?_
        try simp (disch := omega) only [s55 hw, am_bn0, am_addE, am_subE, am_mulE, am_laddE, am_lsubE, am_upO, am_upS, am_stS, am_stO, am_tnn, am_brl, am_brg, am_bre, am_brn, am_brG, am_brL, am_st1, am_no2, am_st2, am_clr]
        exact am_wp_ls (U (Or.inr (Or.inr b29))) rfl
      · rw [if_pos (fun hx => by rcases hx with hx | hx | hx; exact b11 hx; exact b20 hx; exact b29 hx)] at h0
        refine am_wp_go rfl (by simp (disch := omega) only [s55 hw, am_bn0, am_addE, am_subE, am_mulE, am_laddE, am_lsubE, am_upO, am_upS, am_stS, am_stO, am_tnn, am_brl, am_brg, am_bre, am_brn, am_brG, am_brL, am_st1, am_no2, am_st2, am_clr, and_self, true_and, and_true, true_or, or_true, List.length_cons, List.length_nil] <;> omega) ?_
        try simp (disch := omega) only [s55 hw, am_bn0, am_addE, am_subE, am_mulE, am_laddE, am_lsubE, am_upO, am_upS, am_stS, am_stO, am_tnn, am_brl, am_brg, am_bre, am_brn, am_brG, am_brL, am_st1, am_no2, am_st2, am_clr]
        refine am_wp_cc rfl rfl rfl (congrArg Prod.fst (s55 hw)) (w_tfail (k := 1) hw hc (fun J j0 j1 j2 => ⟨_, rfl, ?_⟩))
        refine am_wp_ret rfl rfl ?_
        exact h0 _ rfl J (frS_A j0) j1 j2
end SP
