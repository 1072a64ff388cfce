/-! A KITCHEN's text: SLICES, GUESTS, SORTS by the class -/
theorem kNew_1 {T : Nat → Tk} {j : Nat} {S : KS} {k : KR} (h : cK (T j) ≠ 2) : kNew T j S k = .inl (1, plT T j) := if_pos h
theorem kNew_3 {T : Nat → Tk} {j : Nat} {S : KS} {k : KR} (h : cK (T j) = 2) (g : kDup S (T j).2.2.1) : kNew T j S k = .inl (3, plT T j) := by
  unfold kNew
  rw [if_neg (fun hx => hx h)]
  exact if_pos g
theorem kNew_0 {T : Nat → Tk} {j : Nat} {S : KS} {k : KR} (h : cK (T j) = 2) (g : ¬ kDup S (T j).2.2.1) : kNew T j S k = k := by
  unfold kNew
  rw [if_neg (fun hx => hx h)]
  exact if_neg g
section KP
variable {m sl : Nat} {sh : Nat → Nat × Nat} {I : Nat → Nat → Int} {R : Nat → Nat → Nat} {Q : am_R → am_M → Prop} {d : Nat} {N j : Nat} {T : Nat → Tk} {S : KS}
theorem w_takeNumber' {a b : Nat} {x y : Int} (ex : x = (a : Int)) (ey : y = (b : Int)) (hw : wd sh R) (hc : tpC I T N j) (h0 : nmF (T j) a b ≠ 0 → ∀ J, frA I J → J 55 11 = (nmF (T j) a b : Int) → J 55 12 = ((T j).2.1 : Int) → Q (am_yi (-1)) (m, sl, sh, J, R)) (h1 : nmF (T j) a b = 0 → a ≤ (T j).2.2.2 → (T j).2.2.2 ≤ b → ∀ J, frA I J → J 55 11 = I 55 11 → J 55 12 = I 55 12 → tpC J T N (j + 1) → Q (am_yi (T j).2.2.2) (m, sl, sh, J, R)) : am_wp (d + 1) 129 0 [some (.inr (.inr (55))), some (.inl (x)), some (.inl (y)), none] [] (m, sl, sh, I, R) Q := by
  subst ex
  subst ey
  exact w_takeNumber hw hc h0 h1
set_option maxHeartbeats 4000000 in
theorem w_readSort (hw : wd sh R) (hc : tpC I T N S.1) (ho : owC (T S.1) ≠ -1) (hr : krC I S)
    (h0 : ∀ e, kSort T S = .inl e → ∀ J, frK I J → J 55 11 = (e.1 : Int) → J 55 12 = (e.2 : Int) → Q (am_yi 0) (m, sl, sh, J, R))
    (h1 : ∀ S', kSort T S = .inr S' → ∀ J, frK I J → krC J S' → J 40 0 = I 40 0 → tpC J T N S'.1 → Q (am_yi 1) (m, sl, sh, J, R)) : am_wp (d + 2) 35 0 [some (.inr (.inr (40))), some (.inr (.inr (55)))] [] (m, sl, sh, I, R) Q := by
  obtain ⟨r1, r2, r3, r4⟩ := id hr
  have m1 := wk_nK r1.1
  have e8 : I 40 8 = (nK S.2.1 : Int) := by rw [r1.2.1.2.2.2.2.2.2.2.1]; exact m1.1
  have k2 : 2 ≤ (T S.1).1 := by have := ow_le ho; omega
  unfold kSort at h0 h1
  refine am_wp_go rfl (by simp (disch := omega) only [s40 hw, e8, am_addE, am_subE, am_mulE, am_laddE, am_lsubE, am_upO, am_upS, am_stS, am_stO, am_tnn, am_brl, am_brg, am_bre, am_brn, am_brG, am_brL, am_st1, am_no2, am_st2, am_clr, and_self, true_and, and_true, true_or, or_true, List.length_cons, List.length_nil] <;> omega) ?_
  try simp (disch := omega) only [s40 hw, e8, am_addE, am_subE, am_mulE, am_laddE, am_lsubE, am_upO, am_upS, am_stS, am_stO, am_tnn, am_brl, am_brg, am_bre, am_brn, am_brG, am_brL, am_st1, am_no2, am_st2, am_clr]
  refine am_wp_br (fun b5 => ?_) (fun b5 => ?_)
  · rw [if_neg (by omega)] at h0 h1
    refine am_wp_go rfl (by simp (disch := omega) only [s40 hw, e8, am_addE, am_subE, am_mulE, am_laddE, am_lsubE, am_upO, am_upS, am_stS, am_stO, am_tnn, am_brl, am_brg, am_bre, am_brn, am_brG, am_brL, am_st1, am_no2, am_st2, am_clr, and_self, true_and, and_true, true_or, or_true, List.length_cons, List.length_nil] <;> omega) ?_
    try simp (disch := omega) only [s40 hw, e8, am_addE, am_subE, am_mulE, am_laddE, am_lsubE, am_upO, am_upS, am_stS, am_stO, am_tnn, am_brl, am_brg, am_bre, am_brn, am_brG, am_brL, am_st1, am_no2, am_st2, am_clr]
    refine am_wp_cc rfl rfl rfl (congrArg Prod.fst (s55 hw)) (w_advance hw hc k2 (fun J j0 j1 j2 j3 => ⟨_, rfl, ?_⟩))
    have J8 : J 40 8 = (nK S.2.1 : Int) := by rw [j0.1 40 (by decide)]; exact e8
    refine am_wp_go rfl (by simp (disch := omega) only [s40 hw, r40_14 hw, s44 hw, r40_15 hw, s45 hw, J8, am_addE, am_subE, am_mulE, am_laddE, am_lsubE, am_upO, am_upS, am_stS, am_stO, am_tnn, am_brl, am_brg, am_bre, am_brn, am_brG, am_brL, am_st1, am_no2, am_st2, am_clr, and_self, true_and, and_true, true_or, or_true, List.length_cons, List.length_nil] <;> omega) ?_
    try simp (disch := omega) only [s40 hw, r40_14 hw, s44 hw, r40_15 hw, s45 hw, J8, am_addE, am_subE, am_mulE, am_laddE, am_lsubE, am_upO, am_upS, am_stS, am_stO, am_tnn, am_brl, am_brg, am_bre, am_brn, am_brG, am_brL, am_st1, am_no2, am_st2, am_clr]
    refine am_wp_cc rfl rfl rfl (congrArg Prod.fst (s55 hw)) (w_takeNumber' (a := 1) (b := 9) rfl rfl hw j3 (fun n0 K k0 k1 k2 => ⟨_, rfl, ?_⟩) (fun n0 l1 l2 K k0 k1 k2 k3 => ⟨_, rfl, ?_⟩))
    · have K8 : K 40 8 = (nK S.2.1 : Int) := by rw [k0.1 40 (by decide)]; exact J8
      rw [kN_0 n0] at h0
      refine am_wp_go rfl (by simp (disch := omega) only [s40 hw, r40_14 hw, s44 hw, K8, am_addE, am_subE, am_mulE, am_laddE, am_lsubE, am_upO, am_upS, am_stS, am_stO, am_tnn, am_brl, am_brg, am_bre, am_brn, am_brG, am_brL, am_st1, am_no2, am_st2, am_clr, and_self, true_and, and_true, true_or, or_true, List.length_cons, List.length_nil] <;> omega) ?_
      try simp (disch := omega) only [s40 hw, r40_14 hw, s44 hw, K8, am_addE, am_subE, am_mulE, am_laddE, am_lsubE, am_upO, am_upS, am_stS, am_stO, am_tnn, am_brl, am_brg, am_bre, am_brn, am_brG, am_brL, am_st1, am_no2, am_st2, am_clr]
      refine am_wp_br (fun b44 => ?_) (fun b44 => ?_)
      · first | omega | exact absurd trivial b44 | exact absurd rfl b44 | exact absurd b44 (by decide)
      · refine am_wp_go rfl (by simp (disch := omega) only [s40 hw, r40_14 hw, s44 hw, K8, am_addE, am_subE, am_mulE, am_laddE, am_lsubE, am_upO, am_upS, am_stS, am_stO, am_tnn, am_brl, am_brg, am_bre, am_brn, am_brG, am_brL, am_st1, am_no2, am_st2, am_clr, and_self, true_and, and_true, true_or, or_true, List.length_cons, List.length_nil] <;> omega) ?_
        try simp (disch := omega) only [s40 hw, r40_14 hw, s44 hw, K8, am_addE, am_subE, am_mulE, am_laddE, am_lsubE, am_upO, am_upS, am_stS, am_stO, am_tnn, am_brl, am_brg, am_bre, am_brn, am_brG, am_brL, am_st1, am_no2, am_st2, am_clr]
        refine am_wp_ret rfl rfl ?_
        exact h0 _ rfl _ (frK_up (frK_tr (frK_A j0) (frK_A k0)) (by decide)) (by rw [am_upO (by decide)]; exact k1) (by rw [am_upO (by decide)]; exact k2)
    · have K8 : K 40 8 = (nK S.2.1 : Int) := by rw [k0.1 40 (by decide)]; exact J8
      rw [kN_1 n0] at h0 h1
      refine am_wp_go rfl (by simp (disch := omega) only [s40 hw, r40_14 hw, s44 hw, K8, am_addE, am_subE, am_mulE, am_laddE, am_lsubE, am_upO, am_upS, am_stS, am_stO, am_tnn, am_brl, am_brg, am_bre, am_brn, am_brG, am_brL, am_st1, am_no2, am_st2, am_clr, and_self, true_and, and_true, true_or, or_true, List.length_cons, List.length_nil] <;> omega) ?_
      try simp (disch := omega) only [s40 hw, r40_14 hw, s44 hw, K8, am_addE, am_subE, am_mulE, am_laddE, am_lsubE, am_upO, am_upS, am_stS, am_stO, am_tnn, am_brl, am_brg, am_bre, am_brn, am_brG, am_brL, am_st1, am_no2, am_st2, am_clr]
      have tc := tpC_up (a := 44) (k := nK S.2.1) (x := ((T (S.1 + 1)).2.2.2 : Int)) k3 (by decide)
      refine am_wp_br (fun b44 => ?_) (fun b44 => ?_)
      · skip
        have K8' : am_up K 44 (nK S.2.1) ((T (S.1 + 1)).2.2.2 : Int) 40 8 = (nK S.2.1 : Int) := by rw [am_upO (by decide)]; exact K8
        refine am_wp_go rfl (by simp (disch := omega) only [s40 hw, r40_14 hw, s44 hw, r40_15 hw, s45 hw, K8', am_addE, am_subE, am_mulE, am_laddE, am_lsubE, am_upO, am_upS, am_stS, am_stO, am_tnn, am_brl, am_brg, am_bre, am_brn, am_brG, am_brL, am_st1, am_no2, am_st2, am_clr, and_self, true_and, and_true, true_or, or_true, List.length_cons, List.length_nil] <;> omega) ?_
        try simp (disch := omega) only [s40 hw, r40_14 hw, s44 hw, r40_15 hw, s45 hw, K8', am_addE, am_subE, am_mulE, am_laddE, am_lsubE, am_upO, am_upS, am_stS, am_stO, am_tnn, am_brl, am_brg, am_bre, am_brn, am_brG, am_brL, am_st1, am_no2, am_st2, am_clr]
        refine am_wp_cc rfl rfl rfl (congrArg Prod.fst (s55 hw)) (w_takeNumber' (a := 1) (b := 99) rfl rfl hw tc (fun n1 V v0 v1 v2 => ⟨_, rfl, ?_⟩) (fun n1 l3 l4 V v0 v1 v2 v3 => ⟨_, rfl, ?_⟩))
        · have V8 : V 40 8 = (nK S.2.1 : Int) := by rw [v0.1 40 (by decide)]; exact K8'
          rw [kN_0 (j := S.1 + 2) n1] at h0
          refine am_wp_go rfl (by simp (disch := omega) only [s40 hw, r40_15 hw, s45 hw, V8, am_addE, am_subE, am_mulE, am_laddE, am_lsubE, am_upO, am_upS, am_stS, am_stO, am_tnn, am_brl, am_brg, am_bre, am_brn, am_brG, am_brL, am_st1, am_no2, am_st2, am_clr, and_self, true_and, and_true, true_or, or_true, List.length_cons, List.length_nil] <;> omega) ?_
          try simp (disch := omega) only [s40 hw, r40_15 hw, s45 hw, V8, am_addE, am_subE, am_mulE, am_laddE, am_lsubE, am_upO, am_upS, am_stS, am_stO, am_tnn, am_brl, am_brg, am_bre, am_brn, am_brG, am_brL, am_st1, am_no2, am_st2, am_clr]
          refine am_wp_br (fun b75 => ?_) (fun b75 => ?_)
          · first | omega | exact absurd trivial b75 | exact absurd rfl b75 | exact absurd b75 (by decide)
          · refine am_wp_go rfl (by simp (disch := omega) only [s40 hw, r40_15 hw, s45 hw, V8, am_addE, am_subE, am_mulE, am_laddE, am_lsubE, am_upO, am_upS, am_stS, am_stO, am_tnn, am_brl, am_brg, am_bre, am_brn, am_brG, am_brL, am_st1, am_no2, am_st2, am_clr, and_self, true_and, and_true, true_or, or_true, List.length_cons, List.length_nil] <;> omega) ?_
            try simp (disch := omega) only [s40 hw, r40_15 hw, s45 hw, V8, am_addE, am_subE, am_mulE, am_laddE, am_lsubE, am_upO, am_upS, am_stS, am_stO, am_tnn, am_brl, am_brg, am_bre, am_brn, am_brG, am_brL, am_st1, am_no2, am_st2, am_clr]
            refine am_wp_ret rfl rfl ?_
            exact h0 _ rfl _ (frK_up (frK_tr (frK_up (frK_tr (frK_A j0) (frK_A k0)) (by decide)) (frK_A v0)) (by decide)) (by rw [am_upO (by decide)]; exact v1) (by rw [am_upO (by decide)]; exact v2)
        · have V8 : V 40 8 = (nK S.2.1 : Int) := by rw [v0.1 40 (by decide)]; exact K8'
          rw [kN_1 (j := S.1 + 2) n1] at h1
          rw [show S.1 + 1 + 1 = S.1 + 2 from rfl] at l3 l4
          refine am_wp_go rfl (by simp (disch := omega) only [s40 hw, r40_15 hw, s45 hw, V8, am_addE, am_subE, am_mulE, am_laddE, am_lsubE, am_upO, am_upS, am_stS, am_stO, am_tnn, am_brl, am_brg, am_bre, am_brn, am_brG, am_brL, am_st1, am_no2, am_st2, am_clr, and_self, true_and, and_true, true_or, or_true, List.length_cons, List.length_nil] <;> omega) ?_
          try simp (disch := omega) only [s40 hw, r40_15 hw, s45 hw, V8, am_addE, am_subE, am_mulE, am_laddE, am_lsubE, am_upO, am_upS, am_stS, am_stO, am_tnn, am_brl, am_brg, am_bre, am_brn, am_brG, am_brL, am_st1, am_no2, am_st2, am_clr]
          refine am_wp_br (fun b75 => ?_) (fun b75 => ?_)
          · refine am_wp_go rfl (by simp (disch := omega) only [s40 hw, r40_15 hw, s45 hw, V8, am_addE, am_subE, am_mulE, am_laddE, am_lsubE, am_upO, am_upS, am_stS, am_stO, am_tnn, am_brl, am_brg, am_bre, am_brn, am_brG, am_brL, am_st1, am_no2, am_st2, am_clr, and_self, true_and, and_true, true_or, or_true, List.length_cons, List.length_nil] <;> omega) ?_
            try simp (disch := omega) only [s40 hw, r40_15 hw, s45 hw, V8, am_addE, am_subE, am_mulE, am_laddE, am_lsubE, am_upO, am_upS, am_stS, am_stO, am_tnn, am_brl, am_brg, am_bre, am_brn, am_brG, am_brL, am_st1, am_no2, am_st2, am_clr]
            refine am_wp_ret rfl rfl ?_
            have aV : ∀ a, a ≠ 44 → a ≠ 55 → V a = I a := fun a a1 a2 => by rw [v0.1 a a2, am_upO a1, k0.1 a a2, j0.1 a a2]
            have V44 : V 44 = am_set (I 44) (nK S.2.1) ((T (S.1 + 1)).2.2.2 : Int) := by rw [v0.1 44 (by decide), am_upS, k0.1 44 (by decide), j0.1 44 (by decide)]
            obtain ⟨kk, kg, ks⟩ := kit_so (I := I) (J := am_up (am_up V 45 (nK S.2.1) ((T (S.1 + 2)).2.2.2 : Int)) 40 8 ((nK S.2.1 : Int) + 1)) (c := 40) (t := ((T (S.1 + 1)).2.2.2 : Int)) (u := ((T (S.1 + 2)).2.2.2 : Int)) r1 (by omega) (by omega) (by omega) (by rw [am_upO (by decide), am_upO (by decide), aV 41 (by decide) (by decide)]) (by rw [am_upO (by decide), am_upO (by decide), aV 42 (by decide) (by decide)]) (by rw [am_upO (by decide), am_upO (by decide), aV 43 (by decide) (by decide)]) (by rw [am_upO (by decide), am_upO (by decide), aV 46 (by decide) (by decide)]) (by rw [am_upO (by decide), am_upO (by decide), V44]) (by rw [am_upO (by decide), am_upS, aV 45 (by decide) (by decide)]) (fun i hi => by rw [am_upS, am_upO (by decide), aV 40 (by decide) (by decide)])
            refine h1 _ rfl _ ⟨fun a ha => by rw [am_upO (by omega), am_upO (by omega), aV a (by omega) (by omega)], by rw [am_upO (by decide), am_upO (by decide), fr55 v0, am_upO (by decide), fr55 k0, fr55 j0]⟩ ⟨kk, ⟨?_, r2.2⟩, ?_, ?_⟩ ?_ (tpC_up (tpC_up v3 (by decide)) (by decide))
            · rw [am_upS, am_stO (by decide), am_upO (by decide), aV 40 (by decide) (by decide)]; exact r2.1
            · dsimp only; rw [ks, am_upO (by decide), am_upO (by decide), aV 46 (by decide) (by decide)]; exact r3
            · dsimp only; rw [kg, am_upO (by decide), am_upO (by decide), aV 47 (by decide) (by decide)]; exact r4
            · rw [am_upS, am_stO (by decide), am_upO (by decide), aV 40 (by decide) (by decide)]
          · omega
      · omega
  · rw [if_pos (by omega)] at h0
    refine am_wp_go rfl (by simp (disch := omega) only [s40 hw, e8, am_addE, am_subE, am_mulE, am_laddE, am_lsubE, am_upO, am_upS, am_stS, am_stO, am_tnn, am_brl, am_brg, am_bre, am_brn, am_brG, am_brL, am_st1, am_no2, am_st2, am_clr, and_self, true_and, and_true, true_or, or_true, List.length_cons, List.length_nil] <;> omega) ?_
    try simp (disch := omega) only [s40 hw, e8, am_addE, am_subE, am_mulE, am_laddE, am_lsubE, am_upO, am_upS, am_stS, am_stO, am_tnn, am_brl, am_brg, am_bre, am_brn, am_brG, am_brL, am_st1, am_no2, am_st2, am_clr]
    refine am_wp_cc rfl rfl rfl (congrArg Prod.fst (s55 hw)) (w_tfail (k := 4) hw hc (fun J j0 j1 j2 => ⟨_, rfl, ?_⟩))
    refine am_wp_ret rfl rfl ?_
    exact h0 _ rfl J (frK_A j0) j1 j2
set_option maxHeartbeats 4000000 in
theorem w_readGuest (hw : wd sh R) (hT : tkOk T) (hc : tpC I T N S.1) (ho : owC (T S.1) ≠ -1) (hr : krC I S)
    (h0 : ∀ e, kGuest T S = .inl e → ∀ J, frK I J → J 55 11 = (e.1 : Int) → J 55 12 = (e.2 : Int) → Q (am_yi 0) (m, sl, sh, J, R))
    (h1 : ∀ S', kGuest T S = .inr S' → ∀ J, frK I J → krC J S' → J 40 0 = I 40 0 → tpC J T N S'.1 → Q (am_yi 1) (m, sl, sh, J, R)) : am_wp (d + 2) 34 0 [some (.inr (.inr (40))), some (.inr (.inr (55)))] [] (m, sl, sh, I, R) Q := by
  obtain ⟨r1, r2, r3, r4⟩ := id hr
  have m1 := wk_nG r1.1
  have e7 : I 40 7 = (nG S.2.1 : Int) := by rw [r1.2.1.2.2.2.2.2.2.1]; exact m1.1
  have k2 : 2 ≤ (T S.1).1 := by have := ow_le ho; omega
  unfold kGuest at h0 h1
  refine am_wp_go rfl (by simp (disch := omega) only [s40 hw, e7, am_addE, am_subE, am_mulE, am_laddE, am_lsubE, am_upO, am_upS, am_stS, am_stO, am_tnn, am_brl, am_brg, am_bre, am_brn, am_brG, am_brL, am_st1, am_no2, am_st2, am_clr, and_self, true_and, and_true, true_or, or_true, List.length_cons, List.length_nil] <;> omega) ?_
  try simp (disch := omega) only [s40 hw, e7, am_addE, am_subE, am_mulE, am_laddE, am_lsubE, am_upO, am_upS, am_stS, am_stO, am_tnn, am_brl, am_brg, am_bre, am_brn, am_brG, am_brL, am_st1, am_no2, am_st2, am_clr]
  refine am_wp_br (fun b6 => ?_) (fun b6 => ?_)
  · rw [if_neg (by omega)] at h0 h1
    refine am_wp_go rfl (by simp (disch := omega) only [s40 hw, e7, am_addE, am_subE, am_mulE, am_laddE, am_lsubE, am_upO, am_upS, am_stS, am_stO, am_tnn, am_brl, am_brg, am_bre, am_brn, am_brG, am_brL, am_st1, am_no2, am_st2, am_clr, and_self, true_and, and_true, true_or, or_true, List.length_cons, List.length_nil] <;> omega) ?_
    try simp (disch := omega) only [s40 hw, e7, am_addE, am_subE, am_mulE, am_laddE, am_lsubE, am_upO, am_upS, am_stS, am_stO, am_tnn, am_brl, am_brg, am_bre, am_brn, am_brG, am_brL, am_st1, am_no2, am_st2, am_clr]
    refine am_wp_cc rfl rfl rfl (congrArg Prod.fst (s55 hw)) (w_advance hw hc k2 (fun J j0 j1 j2 j3 => ⟨_, rfl, ?_⟩))
    have J7 : J 40 7 = (nG S.2.1 : Int) := by rw [j0.1 40 (by decide)]; exact e7
    refine am_wp_go rfl (by simp (disch := omega) only [s40 hw, r40_17 hw, J7, am_addE, am_subE, am_mulE, am_laddE, am_lsubE, am_upO, am_upS, am_stS, am_stO, am_tnn, am_brl, am_brg, am_bre, am_brn, am_brG, am_brL, am_st1, am_no2, am_st2, am_clr, and_self, true_and, and_true, true_or, or_true, List.length_cons, List.length_nil] <;> omega) ?_
    try simp (disch := omega) only [s40 hw, r40_17 hw, J7, am_addE, am_subE, am_mulE, am_laddE, am_lsubE, am_upO, am_upS, am_stS, am_stO, am_tnn, am_brl, am_brg, am_bre, am_brn, am_brG, am_brL, am_st1, am_no2, am_st2, am_clr]
    refine am_wp_cc rfl rfl rfl (congrArg Prod.fst (s40 hw)) (w_newName (a2 := 47) (z := nG S.2.1) hw j3 hT (krC_A hr j0) (Or.inr rfl) (by omega) (fun n1 K k0 k1 k2 => ⟨_, rfl, ?_⟩) (fun n1 n2 K k0 k1 k2 => ⟨_, rfl, ?_⟩) (fun n1 n2 lo K k0 k3 => ⟨_, rfl, ?_⟩))
    · rw [kNew_1 n1] at h0
      refine am_wp_go rfl (by simp (disch := omega) only [s40 hw, r40_17 hw, J7, am_addE, am_subE, am_mulE, am_laddE, am_lsubE, am_upO, am_upS, am_stS, am_stO, am_tnn, am_brl, am_brg, am_bre, am_brn, am_brG, am_brL, am_st1, am_no2, am_st2, am_clr, and_self, true_and, and_true, true_or, or_true, List.length_cons, List.length_nil] <;> omega) ?_
      refine am_wp_pc (pc' := 35) rfl ?_
      refine am_wp_go rfl (by simp (disch := omega) only [s40 hw, r40_17 hw, J7, am_addE, am_subE, am_mulE, am_laddE, am_lsubE, am_upO, am_upS, am_stS, am_stO, am_tnn, am_brl, am_brg, am_bre, am_brn, am_brG, am_brL, am_st1, am_no2, am_st2, am_clr, and_self, true_and, and_true, true_or, or_true, List.length_cons, List.length_nil] <;> omega) ?_
      try simp (disch := omega) only [s40 hw, r40_17 hw, J7, am_addE, am_subE, am_mulE, am_laddE, am_lsubE, am_upO, am_upS, am_stS, am_stO, am_tnn, am_brl, am_brg, am_bre, am_brn, am_brG, am_brL, am_st1, am_no2, am_st2, am_clr]
      refine am_wp_ret rfl rfl ?_
      exact h0 _ rfl K (frK_tr (frK_A j0) (frK_A k0)) k1 k2
    · rw [kNew_3 n1 n2] at h0
      refine am_wp_go rfl (by simp (disch := omega) only [s40 hw, r40_17 hw, J7, am_addE, am_subE, am_mulE, am_laddE, am_lsubE, am_upO, am_upS, am_stS, am_stO, am_tnn, am_brl, am_brg, am_bre, am_brn, am_brG, am_brL, am_st1, am_no2, am_st2, am_clr, and_self, true_and, and_true, true_or, or_true, List.length_cons, List.length_nil] <;> omega) ?_
      refine am_wp_pc (pc' := 35) rfl ?_
      refine am_wp_go rfl (by simp (disch := omega) only [s40 hw, r40_17 hw, J7, am_addE, am_subE, am_mulE, am_laddE, am_lsubE, am_upO, am_upS, am_stS, am_stO, am_tnn, am_brl, am_brg, am_bre, am_brn, am_brG, am_brL, am_st1, am_no2, am_st2, am_clr, and_self, true_and, and_true, true_or, or_true, List.length_cons, List.length_nil] <;> omega) ?_
      try simp (disch := omega) only [s40 hw, r40_17 hw, J7, am_addE, am_subE, am_mulE, am_laddE, am_lsubE, am_upO, am_upS, am_stS, am_stO, am_tnn, am_brl, am_brg, am_bre, am_brn, am_brG, am_brL, am_st1, am_no2, am_st2, am_clr]
      refine am_wp_ret rfl rfl ?_
      exact h0 _ rfl K (frK_tr (frK_A j0) (frK_A k0)) k1 k2
    · rw [kNew_0 n1 n2] at h0 h1
      have aK : ∀ a, a ≠ 47 → a ≠ 55 → K a = I a := fun a a1 a2 => by rw [k0.1 a a2, am_upO a1, j0.1 a a2]
      have K47 : K 47 = am_set (I 47) (nG S.2.1) (nm32 (T (S.1 + 1)).2.2.1 : Int) := by rw [k0.1 47 (by decide), am_upS, j0.1 47 (by decide)]
      have K1 : K 55 1 = I 55 1 := by rw [fr55 k0, am_upO (by decide), fr55 j0]
      have K7 : K 40 7 = (nG S.2.1 : Int) := by rw [aK 40 (by decide) (by decide)]; exact e7
      have fK : frK I K := ⟨fun a ha => aK a (by omega) (by omega), K1⟩
      clear j0 k0 j1 j2 j3
      refine am_wp_go rfl (by simp (disch := omega) only [s40 hw, r40_17 hw, J7, am_addE, am_subE, am_mulE, am_laddE, am_lsubE, am_upO, am_upS, am_stS, am_stO, am_tnn, am_brl, am_brg, am_bre, am_brn, am_brG, am_brL, am_st1, am_no2, am_st2, am_clr, and_self, true_and, and_true, true_or, or_true, List.length_cons, List.length_nil] <;> omega) ?_
      refine am_wp_pc (pc' := 37) rfl ?_
      refine am_wp_go rfl (by simp (disch := omega) only [s40 hw, r40_12 hw, s42 hw, r40_13 hw, s43 hw, K7, am_addE, am_subE, am_mulE, am_laddE, am_lsubE, am_upO, am_upS, am_stS, am_stO, am_tnn, am_brl, am_brg, am_bre, am_brn, am_brG, am_brL, am_st1, am_no2, am_st2, am_clr, and_self, true_and, and_true, true_or, or_true, List.length_cons, List.length_nil] <;> omega) ?_
      try simp (disch := omega) only [s40 hw, r40_12 hw, s42 hw, r40_13 hw, s43 hw, K7, am_addE, am_subE, am_mulE, am_laddE, am_lsubE, am_upO, am_upS, am_stS, am_stO, am_tnn, am_brl, am_brg, am_bre, am_brn, am_brG, am_brL, am_st1, am_no2, am_st2, am_clr]
      refine am_wp_cc rfl rfl rfl (congrArg Prod.fst (s55 hw)) (w_takeNumber' (a := 0) (b := 240) rfl rfl hw k3 (fun n0 V v0 v1 v2 => ⟨_, rfl, ?_⟩) (fun n0 l1 l2 V v0 v1 v2 v3 => ⟨_, rfl, ?_⟩))
      · have V7 : V 40 7 = (nG S.2.1 : Int) := by rw [v0.1 40 (by decide)]; exact K7
        rw [kN_0 (j := S.1 + 2) n0] at h0
        have X7 : am_up V 42 (nG S.2.1) (-1) 40 7 = (nG S.2.1 : Int) := by rw [am_upO (by decide)]; exact V7
        refine am_wp_go rfl (by simp (disch := omega) only [s40 hw, r40_12 hw, s42 hw, V7, X7, am_addE, am_subE, am_mulE, am_laddE, am_lsubE, am_upO, am_upS, am_stS, am_stO, am_tnn, am_brl, am_brg, am_bre, am_brn, am_brG, am_brL, am_st1, am_no2, am_st2, am_clr, and_self, true_and, and_true, true_or, or_true, List.length_cons, List.length_nil] <;> omega) ?_
        try simp (disch := omega) only [s40 hw, r40_12 hw, s42 hw, V7, X7, am_addE, am_subE, am_mulE, am_laddE, am_lsubE, am_upO, am_upS, am_stS, am_stO, am_tnn, am_brl, am_brg, am_bre, am_brn, am_brG, am_brL, am_st1, am_no2, am_st2, am_clr]
        refine am_wp_br (fun b64 => ?_) (fun b64 => ?_)
        · first | omega | exact absurd trivial b64 | exact absurd rfl b64 | exact absurd b64 (by decide)
        · refine am_wp_go rfl (by simp (disch := omega) only [s40 hw, r40_12 hw, s42 hw, V7, X7, am_addE, am_subE, am_mulE, am_laddE, am_lsubE, am_upO, am_upS, am_stS, am_stO, am_tnn, am_brl, am_brg, am_bre, am_brn, am_brG, am_brL, am_st1, am_no2, am_st2, am_clr, and_self, true_and, and_true, true_or, or_true, List.length_cons, List.length_nil] <;> omega) ?_
          try simp (disch := omega) only [s40 hw, r40_12 hw, s42 hw, V7, X7, am_addE, am_subE, am_mulE, am_laddE, am_lsubE, am_upO, am_upS, am_stS, am_stO, am_tnn, am_brl, am_brg, am_bre, am_brn, am_brG, am_brL, am_st1, am_no2, am_st2, am_clr]
          refine am_wp_ret rfl rfl ?_
          exact h0 _ rfl _ (frK_up (frK_tr fK (frK_A v0)) (by decide)) (by rw [am_upO (by decide)]; exact v1) (by rw [am_upO (by decide)]; exact v2)
      · have V7 : V 40 7 = (nG S.2.1 : Int) := by rw [v0.1 40 (by decide)]; exact K7
        rw [kN_1 (j := S.1 + 2) n0] at h0 h1
        rw [show S.1 + 1 + 1 = S.1 + 2 from rfl] at l1 l2 ⊢
        have X7 : am_up V 42 (nG S.2.1) ((T (S.1 + 2)).2.2.2 : Int) 40 7 = (nG S.2.1 : Int) := by rw [am_upO (by decide)]; exact V7
        have tc := tpC_up (a := 42) (k := nG S.2.1) (x := ((T (S.1 + 2)).2.2.2 : Int)) v3 (by decide)
        refine am_wp_go rfl (by simp (disch := omega) only [s40 hw, r40_12 hw, s42 hw, r40_13 hw, s43 hw, V7, X7, am_addE, am_subE, am_mulE, am_laddE, am_lsubE, am_upO, am_upS, am_stS, am_stO, am_tnn, am_brl, am_brg, am_bre, am_brn, am_brG, am_brL, am_st1, am_no2, am_st2, am_clr, and_self, true_and, and_true, true_or, or_true, List.length_cons, List.length_nil] <;> omega) ?_
        try simp (disch := omega) only [s40 hw, r40_12 hw, s42 hw, r40_13 hw, s43 hw, V7, X7, am_addE, am_subE, am_mulE, am_laddE, am_lsubE, am_upO, am_upS, am_stS, am_stO, am_tnn, am_brl, am_brg, am_bre, am_brn, am_brG, am_brL, am_st1, am_no2, am_st2, am_clr]
        refine am_wp_br (fun b64 => ?_) (fun b64 => ?_)
        · refine am_wp_go rfl (by simp (disch := omega) only [s40 hw, r40_12 hw, s42 hw, r40_13 hw, s43 hw, V7, X7, am_addE, am_subE, am_mulE, am_laddE, am_lsubE, am_upO, am_upS, am_stS, am_stO, am_tnn, am_brl, am_brg, am_bre, am_brn, am_brG, am_brL, am_st1, am_no2, am_st2, am_clr, and_self, true_and, and_true, true_or, or_true, List.length_cons, List.length_nil] <;> omega) ?_
          try simp (disch := omega) only [s40 hw, r40_12 hw, s42 hw, r40_13 hw, s43 hw, V7, X7, am_addE, am_subE, am_mulE, am_laddE, am_lsubE, am_upO, am_upS, am_stS, am_stO, am_tnn, am_brl, am_brg, am_bre, am_brn, am_brG, am_brL, am_st1, am_no2, am_st2, am_clr]
          refine am_wp_cc rfl rfl rfl (congrArg Prod.fst (s55 hw)) (w_takeNumber' (a := 0) (b := 99) rfl rfl hw tc (fun n1 X x0 x1 x2 => ⟨_, rfl, ?_⟩) (fun n1 l3 l4 X x0 x1 x2 x3 => ⟨_, rfl, ?_⟩))
          · have Y7 : X 40 7 = (nG S.2.1 : Int) := by rw [x0.1 40 (by decide)]; exact X7
            rw [kN_0 (j := S.1 + 3) n1] at h0
            have Z7 : am_up X 43 (nG S.2.1) (-1) 40 7 = (nG S.2.1 : Int) := by rw [am_upO (by decide)]; exact Y7
            refine am_wp_go rfl (by simp (disch := omega) only [s40 hw, r40_13 hw, s43 hw, Y7, Z7, am_addE, am_subE, am_mulE, am_laddE, am_lsubE, am_upO, am_upS, am_stS, am_stO, am_tnn, am_brl, am_brg, am_bre, am_brn, am_brG, am_brL, am_st1, am_no2, am_st2, am_clr, and_self, true_and, and_true, true_or, or_true, List.length_cons, List.length_nil] <;> omega) ?_
            try simp (disch := omega) only [s40 hw, r40_13 hw, s43 hw, Y7, Z7, am_addE, am_subE, am_mulE, am_laddE, am_lsubE, am_upO, am_upS, am_stS, am_stO, am_tnn, am_brl, am_brg, am_bre, am_brn, am_brG, am_brL, am_st1, am_no2, am_st2, am_clr]
            refine am_wp_br (fun b95 => ?_) (fun b95 => ?_)
            · first | omega | exact absurd trivial b95 | exact absurd rfl b95 | exact absurd b95 (by decide)
            · refine am_wp_go rfl (by simp (disch := omega) only [s40 hw, r40_13 hw, s43 hw, Y7, Z7, am_addE, am_subE, am_mulE, am_laddE, am_lsubE, am_upO, am_upS, am_stS, am_stO, am_tnn, am_brl, am_brg, am_bre, am_brn, am_brG, am_brL, am_st1, am_no2, am_st2, am_clr, and_self, true_and, and_true, true_or, or_true, List.length_cons, List.length_nil] <;> omega) ?_
              try simp (disch := omega) only [s40 hw, r40_13 hw, s43 hw, Y7, Z7, am_addE, am_subE, am_mulE, am_laddE, am_lsubE, am_upO, am_upS, am_stS, am_stO, am_tnn, am_brl, am_brg, am_bre, am_brn, am_brG, am_brL, am_st1, am_no2, am_st2, am_clr]
              refine am_wp_ret rfl rfl ?_
              exact h0 _ rfl _ (frK_up (frK_tr (frK_up (frK_tr fK (frK_A v0)) (by decide)) (frK_A x0)) (by decide)) (by rw [am_upO (by decide)]; exact x1) (by rw [am_upO (by decide)]; exact x2)
          · have Y7 : X 40 7 = (nG S.2.1 : Int) := by rw [x0.1 40 (by decide)]; exact X7
            rw [kN_1 (j := S.1 + 3) n1] at h1
            rw [show S.1 + 2 + 1 = S.1 + 3 from rfl] at l3 l4 ⊢
            have Z7 : am_up X 43 (nG S.2.1) ((T (S.1 + 3)).2.2.2 : Int) 40 7 = (nG S.2.1 : Int) := by rw [am_upO (by decide)]; exact Y7
            refine am_wp_go rfl (by simp (disch := omega) only [s40 hw, r40_13 hw, s43 hw, Y7, Z7, am_addE, am_subE, am_mulE, am_laddE, am_lsubE, am_upO, am_upS, am_stS, am_stO, am_tnn, am_brl, am_brg, am_bre, am_brn, am_brG, am_brL, am_st1, am_no2, am_st2, am_clr, and_self, true_and, and_true, true_or, or_true, List.length_cons, List.length_nil] <;> omega) ?_
            try simp (disch := omega) only [s40 hw, r40_13 hw, s43 hw, Y7, Z7, am_addE, am_subE, am_mulE, am_laddE, am_lsubE, am_upO, am_upS, am_stS, am_stO, am_tnn, am_brl, am_brg, am_bre, am_brn, am_brG, am_brL, am_st1, am_no2, am_st2, am_clr]
            refine am_wp_br (fun b95 => ?_) (fun b95 => ?_)
            · refine am_wp_go rfl (by simp (disch := omega) only [s40 hw, r40_13 hw, s43 hw, Y7, Z7, am_addE, am_subE, am_mulE, am_laddE, am_lsubE, am_upO, am_upS, am_stS, am_stO, am_tnn, am_brl, am_brg, am_bre, am_brn, am_brG, am_brL, am_st1, am_no2, am_st2, am_clr, and_self, true_and, and_true, true_or, or_true, List.length_cons, List.length_nil] <;> omega) ?_
              try simp (disch := omega) only [s40 hw, r40_13 hw, s43 hw, Y7, Z7, am_addE, am_subE, am_mulE, am_laddE, am_lsubE, am_upO, am_upS, am_stS, am_stO, am_tnn, am_brl, am_brg, am_bre, am_brn, am_brG, am_brL, am_st1, am_no2, am_st2, am_clr]
              refine am_wp_ret rfl rfl ?_
              have aX : ∀ a, a ≠ 42 → a ≠ 47 → a ≠ 55 → X a = I a := fun a a1 a2 a3 => by rw [x0.1 a a3, am_upO a1, v0.1 a a3, aK a a2 a3]
              have X42 : X 42 = am_set (I 42) (nG S.2.1) ((T (S.1 + 2)).2.2.2 : Int) := by rw [x0.1 42 (by decide), am_upS, v0.1 42 (by decide), aK 42 (by decide) (by decide)]
              have X47 : X 47 = am_set (I 47) (nG S.2.1) (nm32 (T (S.1 + 1)).2.2.1 : Int) := by rw [x0.1 47 (by decide), am_upO (by decide), v0.1 47 (by decide), K47]
              obtain ⟨kk, kg, ks⟩ := kit_gu (I := I) (J := am_up (am_up X 43 (nG S.2.1) ((T (S.1 + 3)).2.2.2 : Int)) 40 7 ((nG S.2.1 : Int) + 1)) (c := 40) (t := ((T (S.1 + 2)).2.2.2 : Int)) (u := ((T (S.1 + 3)).2.2.2 : Int)) r1 (by omega) (by omega) (by omega) (by rw [am_upO (by decide), am_upO (by decide), aX 41 (by decide) (by decide) (by decide)]) (by rw [am_upO (by decide), am_upO (by decide), aX 44 (by decide) (by decide) (by decide)]) (by rw [am_upO (by decide), am_upO (by decide), aX 45 (by decide) (by decide) (by decide)]) (by rw [am_upO (by decide), am_upO (by decide), aX 46 (by decide) (by decide) (by decide)]) (by rw [am_upO (by decide), am_upO (by decide), X42]) (by rw [am_upO (by decide), am_upS, aX 43 (by decide) (by decide) (by decide)]) (fun i hi => by rw [am_upS, am_upO (by decide), aX 40 (by decide) (by decide) (by decide)])
              have kk2 : kit (am_up (am_up X 43 (nG S.2.1) ((T (S.1 + 3)).2.2.2 : Int)) 40 7 ((nG S.2.1 : Int) + 1)) 40 (kGuW S.2.1 ((T (S.1 + 2)).2.2.2 : Int) ((T (S.1 + 3)).2.2.2 : Int)) (fun s => (nm27 (am_set S.2.2.2 (8 + nG S.2.1) (T (S.1 + 1)).2.2.1 s) : Int)) := by
                have m3 := wk_nS r1.1
                refine ⟨kk.1, kk.2.1, kk.2.2.1, fun s hs => ?_, kk.2.2.2.2⟩
                have := kk.2.2.2.1 s hs
                rw [ks] at hs
                dsimp only
                rw [am_stO (by omega)]
                exact this
              refine h1 _ rfl _ ⟨fun a ha => by rw [am_upO (by omega), am_upO (by omega), aX a (by omega) (by omega) (by omega)], by rw [am_upO (by decide), am_upO (by decide), fr55 x0, am_upO (by decide), fr55 v0, K1]⟩ ⟨kk2, ⟨?_, r2.2⟩, fun s hs => ?_, fun g hg => ?_⟩ ?_ (tpC_up (tpC_up x3 (by decide)) (by decide))
              · rw [am_upS, am_stO (by decide), am_upO (by decide), aX 40 (by decide) (by decide) (by decide)]; exact r2.1
              · have m3 := wk_nS r1.1
                dsimp only at hs ⊢
                rw [ks] at hs
                rw [am_upO (by decide), am_upO (by decide), aX 46 (by decide) (by decide) (by decide), am_stO (by omega)]; exact r3 s hs
              · dsimp only at hg ⊢
                rw [kg] at hg
                rw [am_upO (by decide), am_upO (by decide), X47]
                by_cases hgn : g = nG S.2.1
                · rw [am_stS (by omega), am_stS hgn]; exact ⟨lo, rfl⟩
                · rw [am_stO (by omega), am_stO hgn]; exact r4 g (by omega)
              · rw [am_upS, am_stO (by decide), am_upO (by decide), aX 40 (by decide) (by decide) (by decide)]
            · omega
        · omega
  · rw [if_pos (by omega)] at h0
    refine am_wp_go rfl (by simp (disch := omega) only [s40 hw, e7, am_addE, am_subE, am_mulE, am_laddE, am_lsubE, am_upO, am_upS, am_stS, am_stO, am_tnn, am_brl, am_brg, am_bre, am_brn, am_brG, am_brL, am_st1, am_no2, am_st2, am_clr, and_self, true_and, and_true, true_or, or_true, List.length_cons, List.length_nil] <;> omega) ?_
    try simp (disch := omega) only [s40 hw, e7, am_addE, am_subE, am_mulE, am_laddE, am_lsubE, am_upO, am_upS, am_stS, am_stO, am_tnn, am_brl, am_brg, am_bre, am_brn, am_brG, am_brL, am_st1, am_no2, am_st2, am_clr]
    refine am_wp_cc rfl rfl rfl (congrArg Prod.fst (s55 hw)) (w_tfail (k := 4) hw hc (fun J j0 j1 j2 => ⟨_, rfl, ?_⟩))
    refine am_wp_ret rfl rfl ?_
    exact h0 _ rfl J (frK_A j0) j1 j2
set_option maxHeartbeats 8000000 in
theorem w_readSlice (hw : wd sh R) (hT : tkOk T) (hc : tpC I T N S.1) (ho : owC (T S.1) ≠ -1) (hr : krC I S)
    (h0 : ∀ e, kSlice T S = .inl e → ∀ J, frK I J → J 55 11 = (e.1 : Int) → J 55 12 = (e.2 : Int) → Q (am_yi 0) (m, sl, sh, J, R))
    (h1 : ∀ S', kSlice T S = .inr S' → ∀ J, frK I J → krC J S' → J 40 0 = I 40 0 → tpC J T N S'.1 → Q (am_yi 1) (m, sl, sh, J, R)) : am_wp (d + 2) 33 0 [some (.inr (.inr (40))), some (.inr (.inr (55))), none, none] [] (m, sl, sh, I, R) Q := by
  obtain ⟨r1, r2, r3, r4⟩ := id hr
  have m1 := wk_nS r1.1
  have m2 := wk_nG r1.1
  have e6 : I 40 6 = (nS S.2.1 : Int) := by rw [r1.2.1.2.2.2.2.2.1]; exact m1.1
  have e9 : I 40 9 = (onB S.2.1 : Int) := r1.2.1.2.2.2.2.2.2.2.2
  have ob8 : onB S.2.1 < 256 := ax_bs8 m1.2
  have k2 : 2 ≤ (T S.1).1 := by have := ow_le ho; omega
  unfold kSlice at h0 h1
  refine am_wp_go rfl (by simp (disch := omega) only [s40 hw, e6, am_addE, am_subE, am_mulE, am_laddE, am_lsubE, am_upO, am_upS, am_stS, am_stO, am_tnn, am_brl, am_brg, am_bre, am_brn, am_brG, am_brL, am_st1, am_no2, am_st2, am_clr, and_self, true_and, and_true, true_or, or_true, List.length_cons, List.length_nil] <;> omega) ?_
  try simp (disch := omega) only [s40 hw, e6, am_addE, am_subE, am_mulE, am_laddE, am_lsubE, am_upO, am_upS, am_stS, am_stO, am_tnn, am_brl, am_brg, am_bre, am_brn, am_brG, am_brL, am_st1, am_no2, am_st2, am_clr]
  refine am_wp_br (fun b6 => ?_) (fun b6 => ?_)
  · rw [if_neg (by omega)] at h0 h1
    refine am_wp_go rfl (by simp (disch := omega) only [s40 hw, e6, am_addE, am_subE, am_mulE, am_laddE, am_lsubE, am_upO, am_upS, am_stS, am_stO, am_tnn, am_brl, am_brg, am_bre, am_brn, am_brG, am_brL, am_st1, am_no2, am_st2, am_clr, and_self, true_and, and_true, true_or, or_true, List.length_cons, List.length_nil] <;> omega) ?_
    try simp (disch := omega) only [s40 hw, e6, am_addE, am_subE, am_mulE, am_laddE, am_lsubE, am_upO, am_upS, am_stS, am_stO, am_tnn, am_brl, am_brg, am_bre, am_brn, am_brG, am_brL, am_st1, am_no2, am_st2, am_clr]
    refine am_wp_cc rfl rfl rfl (congrArg Prod.fst (s55 hw)) (w_advance hw hc k2 (fun J j0 j1 j2 j3 => ⟨_, rfl, ?_⟩))
    have J6 : J 40 6 = (nS S.2.1 : Int) := by rw [j0.1 40 (by decide)]; exact e6
    refine am_wp_go rfl (by simp (disch := omega) only [s40 hw, r40_16 hw, J6, am_addE, am_subE, am_mulE, am_laddE, am_lsubE, am_upO, am_upS, am_stS, am_stO, am_tnn, am_brl, am_brg, am_bre, am_brn, am_brG, am_brL, am_st1, am_no2, am_st2, am_clr, and_self, true_and, and_true, true_or, or_true, List.length_cons, List.length_nil] <;> omega) ?_
    try simp (disch := omega) only [s40 hw, r40_16 hw, J6, am_addE, am_subE, am_mulE, am_laddE, am_lsubE, am_upO, am_upS, am_stS, am_stO, am_tnn, am_brl, am_brg, am_bre, am_brn, am_brG, am_brL, am_st1, am_no2, am_st2, am_clr]
    refine am_wp_cc rfl rfl rfl (congrArg Prod.fst (s40 hw)) (w_newName (a2 := 46) (z := nS S.2.1) hw j3 hT (krC_A hr j0) (Or.inl rfl) (by omega) (fun n1 K k0 k1 k2 => ⟨_, rfl, ?_⟩) (fun n1 n2 K k0 k1 k2 => ⟨_, rfl, ?_⟩) (fun n1 n2 lo K k0 k3 => ⟨_, rfl, ?_⟩))
    · rw [kNew_1 n1] at h0
      refine am_wp_go rfl (by simp (disch := omega) only [s40 hw, r40_16 hw, J6, am_addE, am_subE, am_mulE, am_laddE, am_lsubE, am_upO, am_upS, am_stS, am_stO, am_tnn, am_brl, am_brg, am_bre, am_brn, am_brG, am_brL, am_st1, am_no2, am_st2, am_clr, and_self, true_and, and_true, true_or, or_true, List.length_cons, List.length_nil] <;> omega) ?_
      refine am_wp_pc (pc' := 35) rfl ?_
      refine am_wp_go rfl (by simp (disch := omega) only [s40 hw, r40_16 hw, J6, am_addE, am_subE, am_mulE, am_laddE, am_lsubE, am_upO, am_upS, am_stS, am_stO, am_tnn, am_brl, am_brg, am_bre, am_brn, am_brG, am_brL, am_st1, am_no2, am_st2, am_clr, and_self, true_and, and_true, true_or, or_true, List.length_cons, List.length_nil] <;> omega) ?_
      try simp (disch := omega) only [s40 hw, r40_16 hw, J6, am_addE, am_subE, am_mulE, am_laddE, am_lsubE, am_upO, am_upS, am_stS, am_stO, am_tnn, am_brl, am_brg, am_bre, am_brn, am_brG, am_brL, am_st1, am_no2, am_st2, am_clr]
      refine am_wp_ret rfl rfl ?_
      exact h0 _ rfl K (frK_tr (frK_A j0) (frK_A k0)) k1 k2
    · rw [kNew_3 n1 n2] at h0
      refine am_wp_go rfl (by simp (disch := omega) only [s40 hw, r40_16 hw, J6, am_addE, am_subE, am_mulE, am_laddE, am_lsubE, am_upO, am_upS, am_stS, am_stO, am_tnn, am_brl, am_brg, am_bre, am_brn, am_brG, am_brL, am_st1, am_no2, am_st2, am_clr, and_self, true_and, and_true, true_or, or_true, List.length_cons, List.length_nil] <;> omega) ?_
      refine am_wp_pc (pc' := 35) rfl ?_
      refine am_wp_go rfl (by simp (disch := omega) only [s40 hw, r40_16 hw, J6, am_addE, am_subE, am_mulE, am_laddE, am_lsubE, am_upO, am_upS, am_stS, am_stO, am_tnn, am_brl, am_brg, am_bre, am_brn, am_brG, am_brL, am_st1, am_no2, am_st2, am_clr, and_self, true_and, and_true, true_or, or_true, List.length_cons, List.length_nil] <;> omega) ?_
      try simp (disch := omega) only [s40 hw, r40_16 hw, J6, am_addE, am_subE, am_mulE, am_laddE, am_lsubE, am_upO, am_upS, am_stS, am_stO, am_tnn, am_brl, am_brg, am_bre, am_brn, am_brG, am_brL, am_st1, am_no2, am_st2, am_clr]
      refine am_wp_ret rfl rfl ?_
      exact h0 _ rfl K (frK_tr (frK_A j0) (frK_A k0)) k1 k2
    · rw [kNew_0 n1 n2] at h0 h1
      have aK : ∀ a, a ≠ 46 → a ≠ 55 → K a = I a := fun a a1 a2 => by rw [k0.1 a a2, am_upO a1, j0.1 a a2]
      have K46 : K 46 = am_set (I 46) (nS S.2.1) (nm32 (T (S.1 + 1)).2.2.1 : Int) := by rw [k0.1 46 (by decide), am_upS, j0.1 46 (by decide)]
      have K1 : K 55 1 = I 55 1 := by rw [fr55 k0, am_upO (by decide), fr55 j0]
      have fK : frK I K := ⟨fun a ha => aK a (by omega) (by omega), K1⟩
      clear j0 k0 j1 j2 j3
      refine am_wp_go rfl (by simp (disch := omega) only [s40 hw, r40_16 hw, J6, am_addE, am_subE, am_mulE, am_laddE, am_lsubE, am_upO, am_upS, am_stS, am_stO, am_tnn, am_brl, am_brg, am_bre, am_brn, am_brG, am_brL, am_st1, am_no2, am_st2, am_clr, and_self, true_and, and_true, true_or, or_true, List.length_cons, List.length_nil] <;> omega) ?_
      refine am_wp_pc (pc' := 37) rfl ?_
      refine am_wp_go rfl (by simp (disch := omega) only [s40 hw, am_addE, am_subE, am_mulE, am_laddE, am_lsubE, am_upO, am_upS, am_stS, am_stO, am_tnn, am_brl, am_brg, am_bre, am_brn, am_brG, am_brL, am_st1, am_no2, am_st2, am_clr, and_self, true_and, and_true, true_or, or_true, List.length_cons, List.length_nil] <;> omega) ?_
      try simp (disch := omega) only [s40 hw, am_addE, am_subE, am_mulE, am_laddE, am_lsubE, am_upO, am_upS, am_stS, am_stO, am_tnn, am_brl, am_brg, am_bre, am_brn, am_brG, am_brL, am_st1, am_no2, am_st2, am_clr]
      refine am_wp_cc rfl rfl rfl (congrArg Prod.fst (s55 hw)) (w_takeNumber' (a := 1) (b := 20) rfl rfl hw k3 (fun n0 V v0 v1 v2 => ⟨_, rfl, ?_⟩) (fun n0 l1 l2 V v0 v1 v2 v3 => ⟨_, rfl, ?_⟩))
      · rw [kN_0 (j := S.1 + 2) n0] at h0
        refine am_wp_go rfl (by simp (disch := omega) only [s40 hw, am_addE, am_subE, am_mulE, am_laddE, am_lsubE, am_upO, am_upS, am_stS, am_stO, am_tnn, am_brl, am_brg, am_bre, am_brn, am_brG, am_brL, am_st1, am_no2, am_st2, am_clr, and_self, true_and, and_true, true_or, or_true, List.length_cons, List.length_nil] <;> omega) ?_
        refine am_wp_pc (pc' := 50) rfl ?_
        refine am_wp_go rfl (by simp (disch := omega) only [s40 hw, am_addE, am_subE, am_mulE, am_laddE, am_lsubE, am_upO, am_upS, am_stS, am_stO, am_tnn, am_brl, am_brg, am_bre, am_brn, am_brG, am_brL, am_st1, am_no2, am_st2, am_clr, and_self, true_and, and_true, true_or, or_true, List.length_cons, List.length_nil] <;> omega) ?_
        refine am_wp_pc (pc' := 67) rfl ?_
        refine am_wp_go rfl (by simp (disch := omega) only [s40 hw, am_addE, am_subE, am_mulE, am_laddE, am_lsubE, am_upO, am_upS, am_stS, am_stO, am_tnn, am_brl, am_brg, am_bre, am_brn, am_brG, am_brL, am_st1, am_no2, am_st2, am_clr, and_self, true_and, and_true, true_or, or_true, List.length_cons, List.length_nil] <;> omega) ?_
        try simp (disch := omega) only [s40 hw, am_addE, am_subE, am_mulE, am_laddE, am_lsubE, am_upO, am_upS, am_stS, am_stO, am_tnn, am_brl, am_brg, am_bre, am_brn, am_brG, am_brL, am_st1, am_no2, am_st2, am_clr]
        refine am_wp_ret rfl rfl ?_
        exact h0 _ rfl _ (frK_tr fK (frK_A v0)) v1 v2
      · rw [kN_1 (j := S.1 + 2) n0] at h0 h1
        rw [show S.1 + 1 + 1 = S.1 + 2 from rfl] at l1 l2 v3 ⊢
        refine am_wp_go rfl (by simp (disch := omega) only [s40 hw, am_addE, am_subE, am_mulE, am_laddE, am_lsubE, am_upO, am_upS, am_stS, am_stO, am_tnn, am_brl, am_brg, am_bre, am_brn, am_brG, am_brL, am_st1, am_no2, am_st2, am_clr, and_self, true_and, and_true, true_or, or_true, List.length_cons, List.length_nil] <;> omega) ?_
        try simp (disch := omega) only [s40 hw, am_addE, am_subE, am_mulE, am_laddE, am_lsubE, am_upO, am_upS, am_stS, am_stO, am_tnn, am_brl, am_brg, am_bre, am_brn, am_brG, am_brL, am_st1, am_no2, am_st2, am_clr]
        refine am_wp_br (fun b47 => ?_) (fun b47 => ?_)
        · refine am_wp_go rfl (by simp (disch := omega) only [s40 hw, am_addE, am_subE, am_mulE, am_laddE, am_lsubE, am_upO, am_upS, am_stS, am_stO, am_tnn, am_brl, am_brg, am_bre, am_brn, am_brG, am_brL, am_st1, am_no2, am_st2, am_clr, and_self, true_and, and_true, true_or, or_true, List.length_cons, List.length_nil] <;> omega) ?_
          try simp (disch := omega) only [s40 hw, am_addE, am_subE, am_mulE, am_laddE, am_lsubE, am_upO, am_upS, am_stS, am_stO, am_tnn, am_brl, am_brg, am_bre, am_brn, am_brG, am_brL, am_st1, am_no2, am_st2, am_clr]
          refine am_wp_cc rfl rfl rfl (congrArg Prod.fst (s55 hw)) (w_takeNumber' (a := 1) (b := 20) rfl rfl hw v3 (fun n1 X x0 x1 x2 => ⟨_, rfl, ?_⟩) (fun n1 l3 l4 X x0 x1 x2 x3 => ⟨_, rfl, ?_⟩))
          · rw [kN_0 (j := S.1 + 3) n1] at h0
            refine am_wp_go rfl (by simp (disch := omega) only [s40 hw, am_addE, am_subE, am_mulE, am_laddE, am_lsubE, am_upO, am_upS, am_stS, am_stO, am_tnn, am_brl, am_brg, am_bre, am_brn, am_brG, am_brL, am_st1, am_no2, am_st2, am_clr, and_self, true_and, and_true, true_or, or_true, List.length_cons, List.length_nil] <;> omega) ?_
            refine am_wp_pc (pc' := 67) rfl ?_
            refine am_wp_go rfl (by simp (disch := omega) only [s40 hw, am_addE, am_subE, am_mulE, am_laddE, am_lsubE, am_upO, am_upS, am_stS, am_stO, am_tnn, am_brl, am_brg, am_bre, am_brn, am_brG, am_brL, am_st1, am_no2, am_st2, am_clr, and_self, true_and, and_true, true_or, or_true, List.length_cons, List.length_nil] <;> omega) ?_
            try simp (disch := omega) only [s40 hw, am_addE, am_subE, am_mulE, am_laddE, am_lsubE, am_upO, am_upS, am_stS, am_stO, am_tnn, am_brl, am_brg, am_bre, am_brn, am_brG, am_brL, am_st1, am_no2, am_st2, am_clr]
            refine am_wp_ret rfl rfl ?_
            exact h0 _ rfl _ (frK_tr (frK_tr fK (frK_A v0)) (frK_A x0)) x1 x2
          · rw [kN_1 (j := S.1 + 3) n1] at h1
            rw [show S.1 + 2 + 1 = S.1 + 3 from rfl] at l3 l4 x3 ⊢
            have aX : ∀ a, a ≠ 46 → a ≠ 55 → X a = I a := fun a a1 a2 => by rw [x0.1 a a2, v0.1 a a2, aK a a1 a2]
            have X46 : X 46 = am_set (I 46) (nS S.2.1) (nm32 (T (S.1 + 1)).2.2.1 : Int) := by rw [x0.1 46 (by decide), v0.1 46 (by decide), K46]
            have X1 : X 55 1 = I 55 1 := by rw [fr55 x0, fr55 v0, K1]
            have X6 : X 40 6 = (nS S.2.1 : Int) := by rw [aX 40 (by decide) (by decide)]; exact e6
            have X9 : X 40 9 = (onB S.2.1 : Int) := by rw [aX 40 (by decide) (by decide)]; exact e9
            clear v0 v1 v2 v3 x0 x1 x2 k3 h0
            -- both minutes are written down
            have q2 : (2 : Int) * (nS S.2.1 : Int) = ((2 * nS S.2.1 : Nat) : Int) := by omega
            have q3 : ((2 * nS S.2.1 : Nat) : Int) + 1 = ((2 * nS S.2.1 + 1 : Nat) : Int) := by omega
            have Y41 : am_up (am_up X 41 (2 * nS S.2.1) ((T (S.1 + 2)).2.2.2 : Int)) 41 (2 * nS S.2.1 + 1) ((T (S.1 + 3)).2.2.2 : Int) 41 = am_set (am_set (I 41) (2 * nS S.2.1) ((T (S.1 + 2)).2.2.2 : Int)) (2 * nS S.2.1 + 1) ((T (S.1 + 3)).2.2.2 : Int) := by rw [am_upS, am_upS, aX 41 (by decide) (by decide)]
            have aY : ∀ a, a ≠ 41 → a ≠ 46 → a ≠ 55 → am_up (am_up X 41 (2 * nS S.2.1) ((T (S.1 + 2)).2.2.2 : Int)) 41 (2 * nS S.2.1 + 1) ((T (S.1 + 3)).2.2.2 : Int) a = I a := fun a a1 a2 a3 => by rw [am_upO a1, am_upO a1, aX a a2 a3]
            have Y46 : am_up (am_up X 41 (2 * nS S.2.1) ((T (S.1 + 2)).2.2.2 : Int)) 41 (2 * nS S.2.1 + 1) ((T (S.1 + 3)).2.2.2 : Int) 46 = am_set (I 46) (nS S.2.1) (nm32 (T (S.1 + 1)).2.2.1 : Int) := by rw [am_upO (by decide), am_upO (by decide), X46]
            have Y1 : am_up (am_up X 41 (2 * nS S.2.1) ((T (S.1 + 2)).2.2.2 : Int)) 41 (2 * nS S.2.1 + 1) ((T (S.1 + 3)).2.2.2 : Int) 55 1 = I 55 1 := by rw [am_upO (by decide), am_upO (by decide), X1]
            have tc := tpC_up (a := 41) (k := 2 * nS S.2.1 + 1) (x := ((T (S.1 + 3)).2.2.2 : Int)) (tpC_up (a := 41) (k := 2 * nS S.2.1) (x := ((T (S.1 + 2)).2.2.2 : Int)) x3 (by decide)) (by decide)
            rw [show S.1 + 3 + 1 = S.1 + 4 from rfl] at tc
            have MK : ∀ (o : Int) (Z : Nat → Nat → Int), (o = 0 ∨ o = 1) → (∀ a, a ≠ 40 → a ≠ 41 → a ≠ 46 → a ≠ 55 → Z a = I a) → Z 41 = am_set (am_set (I 41) (2 * nS S.2.1) ((T (S.1 + 2)).2.2.2 : Int)) (2 * nS S.2.1 + 1) ((T (S.1 + 3)).2.2.2 : Int) → Z 46 = am_set (I 46) (nS S.2.1) (nm32 (T (S.1 + 1)).2.2.1 : Int) → Z 55 1 = I 55 1 → (∀ i, i ≠ 6 → i ≠ 9 → Z 40 i = I 40 i) → Z 40 6 = (nS S.2.1 : Int) + 1 → Z 40 9 = ((if o = 1 then onB S.2.1 ||| 2 ^ nS S.2.1 else onB S.2.1 : Nat) : Int) → frK I Z ∧ ∀ jj, krC Z (jj, kSlW S.2.1 ((T (S.1 + 2)).2.2.2 : Int) ((T (S.1 + 3)).2.2.2 : Int) o, S.2.2.1, am_set S.2.2.2 (nS S.2.1) (T (S.1 + 1)).2.2.1) := fun o Z ho za z41 z46 z1 z40 z6 z9 => by
              refine ⟨⟨fun a ha => za a (by omega) (by omega) (by omega) (by omega), z1⟩, fun jj => ?_⟩
              have ns := (onB_sl (W := S.2.1) (t := ((T (S.1 + 2)).2.2.2 : Int)) (u := ((T (S.1 + 3)).2.2.2 : Int)) ho (by omega)).2
              have ng : nG (kSlW S.2.1 ((T (S.1 + 2)).2.2.2 : Int) ((T (S.1 + 3)).2.2.2 : Int) o) = nG S.2.1 := by unfold nG kSlW; rw [am_stO (by omega), am_stO (by omega), am_stO (by omega), am_stO (by omega)]
              refine ⟨kit_sl (y := (nm32 (T (S.1 + 1)).2.2.1 : Int)) r1 (by omega) (by omega) (by omega) ho (fun s hs => by dsimp only; rw [am_stO (by omega)]) ?_ (fun a a1 a2 => za a (by omega) (by omega) (by omega) (by omega)) z41 z46 (fun i hi => ?_) z9, ⟨by rw [z40 10 (by decide) (by decide)]; exact r2.1, r2.2⟩, fun s hs => ?_, fun g hg => ?_⟩
              · dsimp only
                rw [am_stS rfl]
                exact ⟨(T (S.1 + 1)).2.2.1, lo.1, lo.2.1, letOk_mem lo, rfl, rfl⟩
              · by_cases hi6 : i = 6
                · rw [am_stS hi6, hi6]; exact z6
                · rw [am_stO hi6]; exact z40 i hi6 (by omega)
              · dsimp only at hs ⊢
                rw [ns] at hs
                rw [z46]
                by_cases hsn : s = nS S.2.1
                · rw [am_stS hsn, am_stS hsn]; exact ⟨lo, rfl⟩
                · rw [am_stO hsn, am_stO hsn]; exact r3 s (by omega)
              · dsimp only at hg ⊢
                rw [ng] at hg
                rw [am_stO (by omega), za 47 (by decide) (by decide) (by decide) (by decide)]; exact r4 g hg
            refine am_wp_go rfl (by simp (disch := omega) only [s40 hw, am_addE, am_subE, am_mulE, am_laddE, am_lsubE, am_upO, am_upS, am_stS, am_stO, am_tnn, am_brl, am_brg, am_bre, am_brn, am_brG, am_brL, am_st1, am_no2, am_st2, am_clr, and_self, true_and, and_true, true_or, or_true, List.length_cons, List.length_nil] <;> omega) ?_
            try simp (disch := omega) only [s40 hw, am_addE, am_subE, am_mulE, am_laddE, am_lsubE, am_upO, am_upS, am_stS, am_stO, am_tnn, am_brl, am_brg, am_bre, am_brn, am_brG, am_brL, am_st1, am_no2, am_st2, am_clr]
            refine am_wp_br (fun b64 => ?_) (fun b64 => by omega)
            refine am_wp_go rfl (by simp (disch := omega) only [s40 hw, r40_11 hw, s41 hw, X6, am_upO, q2, q3, am_mulE, am_addE, am_tnn, and_self, true_and, and_true, s55 hw] <;> omega) ?_
            simp (disch := omega) only [s40 hw, r40_11 hw, s41 hw, X6, am_upO, q2, q3, am_mulE, am_addE, am_tnn]
            have Y10 := tc.2.2.2.2.2.2.2
            have Y6 : am_up (am_up X 41 (2 * nS S.2.1) ((T (S.1 + 2)).2.2.2 : Int)) 41 (2 * nS S.2.1 + 1) ((T (S.1 + 3)).2.2.2 : Int) 40 6 = (nS S.2.1 : Int) := by rw [aY 40 (by decide) (by decide) (by decide)]; exact e6
            have Y9 : am_up (am_up X 41 (2 * nS S.2.1) ((T (S.1 + 2)).2.2.2 : Int)) 41 (2 * nS S.2.1 + 1) ((T (S.1 + 3)).2.2.2 : Int) 40 9 = (onB S.2.1 : Int) := by rw [aY 40 (by decide) (by decide) (by decide)]; exact e9
            rw [← am_upO (f := X) (a := 41) (k := 2 * nS S.2.1) (x := ((T (S.1 + 2)).2.2.2 : Int)) (b := 55) (by decide), ← am_upO (f := am_up X 41 (2 * nS S.2.1) ((T (S.1 + 2)).2.2.2 : Int)) (a := 41) (k := 2 * nS S.2.1 + 1) (x := ((T (S.1 + 3)).2.2.2 : Int)) (b := 55) (by decide)]
            generalize am_up (am_up X 41 (2 * nS S.2.1) ((T (S.1 + 2)).2.2.2 : Int)) 41 (2 * nS S.2.1 + 1) ((T (S.1 + 3)).2.2.2 : Int) = Y at *
            rw [Y10]
            simp (disch := omega) only [am_brn]
            refine am_wp_br (fun b101 => ?_) (fun b101 => ?_)
            · rw [if_neg b101, if_neg b101] at h1
              obtain ⟨g1, g2⟩ := MK 0 (am_up Y 40 6 ((nS S.2.1 : Int) + 1)) (Or.inl rfl) (fun a a1 a2 a3 a4 => by rw [am_upO a1, aY a a2 a3 a4]) (by rw [am_upO (by decide), Y41]) (by rw [am_upO (by decide), Y46]) (by rw [am_upO (by decide), Y1]) (fun i i6 i9 => by rw [am_upS, am_stO i6, aY 40 (by decide) (by decide) (by decide)]) (by rw [am_upS, am_stS rfl]) (by rw [am_upS, am_stO (by decide), Y9]; rfl)
              refine am_wp_go rfl (by simp (disch := omega) only [s40 hw, Y6, q2, q3, am_addE, am_subE, am_mulE, am_laddE, am_lsubE, am_upO, am_upS, am_stS, am_stO, am_tnn, am_brl, am_brg, am_bre, am_brn, am_brG, am_brL, am_st1, am_no2, am_st2, am_clr, and_self, true_and, and_true, true_or, or_true, List.length_cons, List.length_nil] <;> omega) ?_
              try simp (disch := omega) only [s40 hw, Y6, q2, q3, am_addE, am_subE, am_mulE, am_laddE, am_lsubE, am_upO, am_upS, am_stS, am_stO, am_tnn, am_brl, am_brg, am_bre, am_brn, am_brG, am_brL, am_st1, am_no2, am_st2, am_clr]
              refine am_wp_ret rfl rfl ?_
              exact h1 _ rfl _ g1 (g2 _) (by rw [am_upS, am_stO (by decide), aY 40 (by decide) (by decide) (by decide)]) (tpC_up tc (by decide))
            · have b101 := Classical.not_not.mp b101
              rw [if_pos b101, if_pos b101] at h1
              have p8 := ax_p8 (s := nS S.2.1) (by omega)
              refine am_wp_go rfl (by simp (disch := omega) only [s40 hw, Y6, Y9, am_shl1, am_orN, am_addE, am_subE, am_mulE, am_laddE, am_lsubE, am_upO, am_upS, am_stS, am_stO, am_tnn, am_brl, am_brg, am_bre, am_brn, am_brG, am_brL, am_st1, am_no2, am_st2, am_clr, and_self, true_and, and_true, true_or, or_true, List.length_cons, List.length_nil] <;> omega) ?_
              try simp (disch := omega) only [s40 hw, Y6, Y9, am_shl1, am_orN, am_addE, am_subE, am_mulE, am_laddE, am_lsubE, am_upO, am_upS, am_stS, am_stO, am_tnn, am_brl, am_brg, am_bre, am_brn, am_brG, am_brL, am_st1, am_no2, am_st2, am_clr]
              have tc2 := tpC_up (a := 40) (k := 9) (x := ((onB S.2.1 ||| 2 ^ nS S.2.1 : Nat) : Int)) tc (by decide)
              refine am_wp_cc rfl rfl rfl (congrArg Prod.fst (s55 hw)) (w_advance hw tc2 (by have := ow_le (t := T (S.1 + 4)) (by omega); omega) (fun Z z0 z1 z2 z3 => ⟨_, rfl, ?_⟩))
              have Z40 : Z 40 = am_set (Y 40) 9 ((onB S.2.1 ||| 2 ^ nS S.2.1 : Nat) : Int) := by rw [z0.1 40 (by decide), am_upS]
              have Z6 : Z 40 6 = (nS S.2.1 : Int) := by rw [Z40, am_stO (by decide)]; exact Y6
              refine am_wp_go rfl (by simp (disch := omega) only [s40 hw, Z6, am_shl1, am_orN, am_addE, am_subE, am_mulE, am_laddE, am_lsubE, am_upO, am_upS, am_stS, am_stO, am_tnn, am_brl, am_brg, am_bre, am_brn, am_brG, am_brL, am_st1, am_no2, am_st2, am_clr, and_self, true_and, and_true, true_or, or_true, List.length_cons, List.length_nil] <;> omega) ?_
              try simp (disch := omega) only [s40 hw, Z6, am_shl1, am_orN, am_addE, am_subE, am_mulE, am_laddE, am_lsubE, am_upO, am_upS, am_stS, am_stO, am_tnn, am_brl, am_brg, am_bre, am_brn, am_brG, am_brL, am_st1, am_no2, am_st2, am_clr]
              refine am_wp_ret rfl rfl ?_
              obtain ⟨g1, g2⟩ := MK 1 (am_up Z 40 6 ((nS S.2.1 : Int) + 1)) (Or.inr rfl) (fun a a1 a2 a3 a4 => by rw [am_upO a1, z0.1 a a4, am_upO a1, aY a a2 a3 a4]) (by rw [am_upO (by decide), z0.1 41 (by decide), am_upO (by decide), Y41]) (by rw [am_upO (by decide), z0.1 46 (by decide), am_upO (by decide), Y46]) (by rw [am_upO (by decide), fr55 z0, am_upO (by decide), Y1]) (fun i i6 i9 => by rw [am_upS, am_stO i6, Z40, am_stO i9, aY 40 (by decide) (by decide) (by decide)]) (by rw [am_upS, am_stS rfl]) (by rw [am_upS, am_stO (by decide), Z40, am_stS rfl]; rfl)
              exact h1 _ rfl _ g1 (g2 _) (by rw [am_upS, am_stO (by decide), Z40, am_stO (by decide), aY 40 (by decide) (by decide) (by decide)]) (tpC_up z3 (by decide))
        · omega
  · rw [if_pos (by omega)] at h0
    refine am_wp_go rfl (by simp (disch := omega) only [s40 hw, e6, am_addE, am_subE, am_mulE, am_laddE, am_lsubE, am_upO, am_upS, am_stS, am_stO, am_tnn, am_brl, am_brg, am_bre, am_brn, am_brG, am_brL, am_st1, am_no2, am_st2, am_clr, and_self, true_and, and_true, true_or, or_true, List.length_cons, List.length_nil] <;> omega) ?_
    try simp (disch := omega) only [s40 hw, e6, am_addE, am_subE, am_mulE, am_laddE, am_lsubE, am_upO, am_upS, am_stS, am_stO, am_tnn, am_brl, am_brg, am_bre, am_brn, am_brG, am_brL, am_st1, am_no2, am_st2, am_clr]
    refine am_wp_cc rfl rfl rfl (congrArg Prod.fst (s55 hw)) (w_tfail (k := 4) hw hc (fun J j0 j1 j2 => ⟨_, rfl, ?_⟩))
    refine am_wp_ret rfl rfl ?_
    exact h0 _ rfl J (frK_A j0) j1 j2
end KP
