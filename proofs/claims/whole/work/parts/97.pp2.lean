/-! A PLAN's text: the class's lines -/
section PP
variable {m sl : Nat} {sh : Nat → Nat × Nat} {I : Nat → Nat → Int} {R : Nat → Nat → Nat} {Q : am_R → am_M → Prop} {d : Nat} {N j : Nat} {T : Nat → Tk} {NM : Nat → List Nat} {n P : Nat} {S : PLS}
theorem pl_frA {J : Nat → Nat → Int} {G : List Go} (h : pl I 48 G) (g : frA I J) : pl J 48 G := pl_fr h (g.1 48 (by decide)) (g.1 49 (by decide))
theorem kFd_v {ws : List Nat} (h : kFd NM 0 n ws ≠ -1) : 0 ≤ kFd NM 0 n ws ∧ kFd NM 0 n ws < n := by
  rcases am_ff_v (p := fun s => decide (NM (0 + s) = ws)) (n := n) 0 with hx | ⟨q, h1, h2, h3, -⟩
  · exact absurd hx h
  · have e : kFd NM 0 n ws = (q : Int) := h1
    omega
set_option maxHeartbeats 4000000 in
theorem w_pReadLine (hw : wd sh R) (hc : tpC I T N S.1) (hT : tkOk T) (hm : nmC I NM n) (hP : I 6 1 = (P : Int) + 1) (hP4 : P < 4) (hp : pl I 48 S.2) (hl : S.2.length ≤ 30)
    (h0 : ∀ e, pGo T NM n P S = .inl e → ∀ J, frP I J → J 55 11 = (e.1 : Int) → J 55 12 = (e.2 : Int) → Q (am_yi 0) (m, sl, sh, J, R))
    (h1 : ∀ S', pGo T NM n P S = .inr S' → S'.2.length = S.2.length + 1 → ∀ J, frP I J → pl J 48 S'.2 → tpC J T N S'.1 → Q (am_yi 1) (m, sl, sh, J, R)) : am_wp (d + 2) 77 0 [some (.inr (.inr (48))), some (.inr (.inr (55))), some (.inr (.inr (6))), none, none, none, none, none] [] (m, sl, sh, I, R) Q := by
  unfold pGo at h0 h1
  have hm8 := hm.2.1
  refine am_wp_go rfl (by simp (disch := omega) only [am_addE, am_subE, am_mulE, am_laddE, am_lsubE, am_upO, am_upS, am_stS, am_stO, am_tnn, am_brl, am_brg, am_bre, am_brn, am_brG, am_brL, am_st1, am_no2, am_st2, am_clr, and_self, true_and, and_true, true_or, or_true, List.length_cons, List.length_nil] <;> omega) ?_
  try simp (disch := omega) only [am_addE, am_subE, am_mulE, am_laddE, am_lsubE, am_upO, am_upS, am_stS, am_stO, am_tnn, am_brl, am_brg, am_bre, am_brn, am_brG, am_brL, am_st1, am_no2, am_st2, am_clr]
  refine am_wp_cc rfl rfl rfl (congrArg Prod.fst (s55 hw)) (w_findSlice hw hc hT hm (fun n0 J j0 j1 j2 => ⟨_, rfl, ?_⟩) (fun n0 n1 J j0 j1 j2 => ⟨_, rfl, ?_⟩) (fun n0 n1 => ⟨_, rfl, ?_⟩))
  · rw [if_pos n0] at h0
    refine am_wp_go rfl (by simp (disch := omega) only [am_addE, am_subE, am_mulE, am_laddE, am_lsubE, am_upO, am_upS, am_stS, am_stO, am_tnn, am_brl, am_brg, am_bre, am_brn, am_brG, am_brL, am_st1, am_no2, am_st2, am_clr, and_self, true_and, and_true, true_or, or_true, List.length_cons, List.length_nil] <;> omega) ?_
    refine am_wp_pc (pc' := 11) rfl ?_
    refine am_wp_go rfl (by simp (disch := omega) only [am_addE, am_subE, am_mulE, am_laddE, am_lsubE, am_upO, am_upS, am_stS, am_stO, am_tnn, am_brl, am_brg, am_bre, am_brn, am_brG, am_brL, am_st1, am_no2, am_st2, am_clr, and_self, true_and, and_true, true_or, or_true, List.length_cons, List.length_nil] <;> omega) ?_
    try simp (disch := omega) only [am_addE, am_subE, am_mulE, am_laddE, am_lsubE, am_upO, am_upS, am_stS, am_stO, am_tnn, am_brl, am_brg, am_bre, am_brn, am_brG, am_brL, am_st1, am_no2, am_st2, am_clr]
    refine am_wp_ret rfl rfl ?_
    exact h0 _ rfl J (frP_A j0) j1 j2
  · rw [if_neg (fun hx => hx n0), if_pos n1] at h0
    refine am_wp_go rfl (by simp (disch := omega) only [am_addE, am_subE, am_mulE, am_laddE, am_lsubE, am_upO, am_upS, am_stS, am_stO, am_tnn, am_brl, am_brg, am_bre, am_brn, am_brG, am_brL, am_st1, am_no2, am_st2, am_clr, and_self, true_and, and_true, true_or, or_true, List.length_cons, List.length_nil] <;> omega) ?_
    refine am_wp_pc (pc' := 11) rfl ?_
    refine am_wp_go rfl (by simp (disch := omega) only [am_addE, am_subE, am_mulE, am_laddE, am_lsubE, am_upO, am_upS, am_stS, am_stO, am_tnn, am_brl, am_brg, am_bre, am_brn, am_brG, am_brL, am_st1, am_no2, am_st2, am_clr, and_self, true_and, and_true, true_or, or_true, List.length_cons, List.length_nil] <;> omega) ?_
    try simp (disch := omega) only [am_addE, am_subE, am_mulE, am_laddE, am_lsubE, am_upO, am_upS, am_stS, am_stO, am_tnn, am_brl, am_brg, am_bre, am_brn, am_brG, am_brL, am_st1, am_no2, am_st2, am_clr]
    refine am_wp_ret rfl rfl ?_
    exact h0 _ rfl J (frP_A j0) j1 j2
  · rw [if_neg (fun hx => hx n0), if_neg n1] at h0 h1
    have kv := kFd_v n1
    generalize kFd NM 0 n (T S.1).2.2.1 = s at *
    have p1 := hp.1
    have k2 : 2 ≤ (T S.1).1 := by have := (cK_2.mp n0).1; omega
    refine am_wp_go rfl (by simp (disch := omega) only [s48 hw, p1, am_addE, am_subE, am_mulE, am_laddE, am_lsubE, am_upO, am_upS, am_stS, am_stO, am_tnn, am_brl, am_brg, am_bre, am_brn, am_brG, am_brL, am_st1, am_no2, am_st2, am_clr, and_self, true_and, and_true, true_or, or_true, List.length_cons, List.length_nil] <;> omega) ?_
    try simp (disch := omega) only [s48 hw, p1, am_addE, am_subE, am_mulE, am_laddE, am_lsubE, am_upO, am_upS, am_stS, am_stO, am_tnn, am_brl, am_brg, am_bre, am_brn, am_brG, am_brL, am_st1, am_no2, am_st2, am_clr]
    refine am_wp_br (fun b8 => ?_) (fun b8 => ?_)
    · refine am_wp_go rfl (by simp (disch := omega) only [s48 hw, p1, am_addE, am_subE, am_mulE, am_laddE, am_lsubE, am_upO, am_upS, am_stS, am_stO, am_tnn, am_brl, am_brg, am_bre, am_brn, am_brG, am_brL, am_st1, am_no2, am_st2, am_clr, and_self, true_and, and_true, true_or, or_true, List.length_cons, List.length_nil] <;> omega) ?_
      try simp (disch := omega) only [s48 hw, p1, am_addE, am_subE, am_mulE, am_laddE, am_lsubE, am_upO, am_upS, am_stS, am_stO, am_tnn, am_brl, am_brg, am_bre, am_brn, am_brG, am_brL, am_st1, am_no2, am_st2, am_clr]
      refine am_wp_br (fun b19 => ?_) (fun b19 => ?_)
      · rw [if_neg (by omega)] at h0 h1
        refine am_wp_go rfl (by simp (disch := omega) only [s48 hw, p1, am_addE, am_subE, am_mulE, am_laddE, am_lsubE, am_upO, am_upS, am_stS, am_stO, am_tnn, am_brl, am_brg, am_bre, am_brn, am_brG, am_brL, am_st1, am_no2, am_st2, am_clr, and_self, true_and, and_true, true_or, or_true, List.length_cons, List.length_nil] <;> omega) ?_
        try simp (disch := omega) only [s48 hw, p1, am_addE, am_subE, am_mulE, am_laddE, am_lsubE, am_upO, am_upS, am_stS, am_stO, am_tnn, am_brl, am_brg, am_bre, am_brn, am_brG, am_brL, am_st1, am_no2, am_st2, am_clr]
        refine am_wp_cc rfl rfl rfl (congrArg Prod.fst (s55 hw)) (w_advance hw hc k2 (fun J j0 j1 j2 j3 => ⟨_, rfl, ?_⟩))
        have g10 := j3.2.2.2.2.2.2.2
        have U : ∀ u : Int, (if owC (T (S.1 + 1)) = 8 then (0 : Int) else 1) = u → (owC (T (S.1 + 1)) = 8 ∨ owC (T (S.1 + 1)) = 9) → am_wp (d + 2) 77 73 [some (.inr (.inr (48))), some (.inr (.inr (55))), some (.inr (.inr (6))), some (.inl (s)), some (.inl (u)), none, none, none] [.inr (.inr (55))] (m, sl, sh, J, R) Q := by
          intro u hu hou
          rw [if_neg (fun hx => hx hou), hu] at h0 h1
          have u01 : 0 ≤ u ∧ u ≤ 1 := by split at hu <;> omega
          have t2 : 2 ≤ (T (S.1 + 1)).1 := by have := ow_le (t := T (S.1 + 1)) (by omega); omega
          clear hu hou g10
          have aJ : frP I J := frP_A j0
          have pJ := pl_frA hp j0
          refine am_wp_cc rfl rfl rfl (congrArg Prod.fst (s55 hw)) (w_advance hw j3 t2 (fun K k0 k1 k2 k3 => ⟨_, rfl, ?_⟩))
          refine am_wp_go rfl (by simp (disch := omega) only [am_addE, am_subE, am_mulE, am_laddE, am_lsubE, am_upO, am_upS, am_stS, am_stO, am_tnn, am_brl, am_brg, am_bre, am_brn, am_brG, am_brL, am_st1, am_no2, am_st2, am_clr, and_self, true_and, and_true, true_or, or_true, List.length_cons, List.length_nil] <;> omega) ?_
          try simp (disch := omega) only [am_addE, am_subE, am_mulE, am_laddE, am_lsubE, am_upO, am_upS, am_stS, am_stO, am_tnn, am_brl, am_brg, am_bre, am_brn, am_brG, am_brL, am_st1, am_no2, am_st2, am_clr]
          refine am_wp_cc rfl rfl rfl (congrArg Prod.fst (s55 hw)) (w_takeNumber' (a := 0) (b := 240) rfl rfl hw k3 (fun z0 V v0 v1 v2 => ⟨_, rfl, ?_⟩) (fun z0 l1 l2 V v0 v1 v2 v3 => ⟨_, rfl, ?_⟩))
          · rw [pN_0 z0] at h0
            refine am_wp_go rfl (by simp (disch := omega) only [am_addE, am_subE, am_mulE, am_laddE, am_lsubE, am_upO, am_upS, am_stS, am_stO, am_tnn, am_brl, am_brg, am_bre, am_brn, am_brG, am_brL, am_st1, am_no2, am_st2, am_clr, and_self, true_and, and_true, true_or, or_true, List.length_cons, List.length_nil] <;> omega) ?_
            refine am_wp_pc (pc' := 92) rfl ?_
            refine am_wp_go rfl (by simp (disch := omega) only [am_addE, am_subE, am_mulE, am_laddE, am_lsubE, am_upO, am_upS, am_stS, am_stO, am_tnn, am_brl, am_brg, am_bre, am_brn, am_brG, am_brL, am_st1, am_no2, am_st2, am_clr, and_self, true_and, and_true, true_or, or_true, List.length_cons, List.length_nil] <;> omega) ?_
            refine am_wp_pc (pc' := 115) rfl ?_
            refine am_wp_go rfl (by simp (disch := omega) only [am_addE, am_subE, am_mulE, am_laddE, am_lsubE, am_upO, am_upS, am_stS, am_stO, am_tnn, am_brl, am_brg, am_bre, am_brn, am_brG, am_brL, am_st1, am_no2, am_st2, am_clr, and_self, true_and, and_true, true_or, or_true, List.length_cons, List.length_nil] <;> omega) ?_
            refine am_wp_pc (pc' := 158) rfl ?_
            refine am_wp_go rfl (by simp (disch := omega) only [am_addE, am_subE, am_mulE, am_laddE, am_lsubE, am_upO, am_upS, am_stS, am_stO, am_tnn, am_brl, am_brg, am_bre, am_brn, am_brG, am_brL, am_st1, am_no2, am_st2, am_clr, and_self, true_and, and_true, true_or, or_true, List.length_cons, List.length_nil] <;> omega) ?_
            try simp (disch := omega) only [am_addE, am_subE, am_mulE, am_laddE, am_lsubE, am_upO, am_upS, am_stS, am_stO, am_tnn, am_brl, am_brg, am_bre, am_brn, am_brG, am_brL, am_st1, am_no2, am_st2, am_clr]
            refine am_wp_ret rfl rfl ?_
            exact h0 _ rfl V (frP_tr aJ (frP_tr (frP_A k0) (frP_A v0))) v1 v2
          · rw [pN_1 z0] at h0 h1
            have V61 : V 6 1 = (P : Int) + 1 := by rw [v0.1 6 (by decide), k0.1 6 (by decide), j0.1 6 (by decide)]; exact hP
            refine am_wp_go rfl (by simp (disch := omega) only [s6 hw, V61, am_addE, am_subE, am_mulE, am_laddE, am_lsubE, am_upO, am_upS, am_stS, am_stO, am_tnn, am_brl, am_brg, am_bre, am_brn, am_brG, am_brL, am_st1, am_no2, am_st2, am_clr, and_self, true_and, and_true, true_or, or_true, List.length_cons, List.length_nil] <;> omega) ?_
            try simp (disch := omega) only [s6 hw, V61, am_addE, am_subE, am_mulE, am_laddE, am_lsubE, am_upO, am_upS, am_stS, am_stO, am_tnn, am_brl, am_brg, am_bre, am_brn, am_brG, am_brL, am_st1, am_no2, am_st2, am_clr]
            refine am_wp_br (fun b89 => ?_) (fun b89 => ?_)
            · refine am_wp_go rfl (by simp (disch := omega) only [s6 hw, V61, am_addE, am_subE, am_mulE, am_laddE, am_lsubE, am_upO, am_upS, am_stS, am_stO, am_tnn, am_brl, am_brg, am_bre, am_brn, am_brG, am_brL, am_st1, am_no2, am_st2, am_clr, and_self, true_and, and_true, true_or, or_true, List.length_cons, List.length_nil] <;> omega) ?_
              try simp (disch := omega) only [s6 hw, V61, am_addE, am_subE, am_mulE, am_laddE, am_lsubE, am_upO, am_upS, am_stS, am_stO, am_tnn, am_brl, am_brg, am_bre, am_brn, am_brG, am_brL, am_st1, am_no2, am_st2, am_clr]
              refine am_wp_cc rfl rfl rfl (congrArg Prod.fst (s55 hw)) (w_takeNumber' (a := 0) (b := P) rfl (by omega) hw v3 (fun z1 X x0 x1 x2 => ⟨_, rfl, ?_⟩) (fun z1 l3 l4 X x0 x1 x2 x3 => ⟨_, rfl, ?_⟩))
              · rw [pN_0 (j := S.1 + 3) z1] at h0
                refine am_wp_go rfl (by simp (disch := omega) only [s6 hw, V61, am_addE, am_subE, am_mulE, am_laddE, am_lsubE, am_upO, am_upS, am_stS, am_stO, am_tnn, am_brl, am_brg, am_bre, am_brn, am_brG, am_brL, am_st1, am_no2, am_st2, am_clr, and_self, true_and, and_true, true_or, or_true, List.length_cons, List.length_nil] <;> omega) ?_
                refine am_wp_pc (pc' := 115) rfl ?_
                refine am_wp_go rfl (by simp (disch := omega) only [s6 hw, V61, am_addE, am_subE, am_mulE, am_laddE, am_lsubE, am_upO, am_upS, am_stS, am_stO, am_tnn, am_brl, am_brg, am_bre, am_brn, am_brG, am_brL, am_st1, am_no2, am_st2, am_clr, and_self, true_and, and_true, true_or, or_true, List.length_cons, List.length_nil] <;> omega) ?_
                refine am_wp_pc (pc' := 158) rfl ?_
                refine am_wp_go rfl (by simp (disch := omega) only [s6 hw, V61, am_addE, am_subE, am_mulE, am_laddE, am_lsubE, am_upO, am_upS, am_stS, am_stO, am_tnn, am_brl, am_brg, am_bre, am_brn, am_brG, am_brL, am_st1, am_no2, am_st2, am_clr, and_self, true_and, and_true, true_or, or_true, List.length_cons, List.length_nil] <;> omega) ?_
                try simp (disch := omega) only [s6 hw, V61, am_addE, am_subE, am_mulE, am_laddE, am_lsubE, am_upO, am_upS, am_stS, am_stO, am_tnn, am_brl, am_brg, am_bre, am_brn, am_brG, am_brL, am_st1, am_no2, am_st2, am_clr]
                refine am_wp_ret rfl rfl ?_
                exact h0 _ rfl X (frP_tr aJ (frP_tr (frP_A k0) (frP_tr (frP_A v0) (frP_A x0)))) x1 x2
              · rw [pN_1 (j := S.1 + 3) z1] at h0 h1
                refine am_wp_go rfl (by simp (disch := omega) only [am_addE, am_subE, am_mulE, am_laddE, am_lsubE, am_upO, am_upS, am_stS, am_stO, am_tnn, am_brl, am_brg, am_bre, am_brn, am_brG, am_brL, am_st1, am_no2, am_st2, am_clr, and_self, true_and, and_true, true_or, or_true, List.length_cons, List.length_nil] <;> omega) ?_
                try simp (disch := omega) only [am_addE, am_subE, am_mulE, am_laddE, am_lsubE, am_upO, am_upS, am_stS, am_stO, am_tnn, am_brl, am_brg, am_bre, am_brn, am_brG, am_brL, am_st1, am_no2, am_st2, am_clr]
                refine am_wp_br (fun b112 => ?_) (fun b112 => ?_)
                · refine am_wp_go rfl (by simp (disch := omega) only [am_addE, am_subE, am_mulE, am_laddE, am_lsubE, am_upO, am_upS, am_stS, am_stO, am_tnn, am_brl, am_brg, am_bre, am_brn, am_brG, am_brL, am_st1, am_no2, am_st2, am_clr, and_self, true_and, and_true, true_or, or_true, List.length_cons, List.length_nil] <;> omega) ?_
                  try simp (disch := omega) only [am_addE, am_subE, am_mulE, am_laddE, am_lsubE, am_upO, am_upS, am_stS, am_stO, am_tnn, am_brl, am_brg, am_bre, am_brn, am_brG, am_brL, am_st1, am_no2, am_st2, am_clr]
                  refine am_wp_cc rfl rfl rfl (congrArg Prod.fst (s55 hw)) (w_takeNumber' (a := 1) (b := 20) rfl rfl hw x3 (fun z2 Y y0 y1 y2 => ⟨_, rfl, ?_⟩) (fun z2 l5 l6 Y y0 y1 y2 y3 => ⟨_, rfl, ?_⟩))
                  · rw [pN_0 (j := S.1 + 4) z2] at h0
                    refine am_wp_go rfl (by simp (disch := omega) only [am_addE, am_subE, am_mulE, am_laddE, am_lsubE, am_upO, am_upS, am_stS, am_stO, am_tnn, am_brl, am_brg, am_bre, am_brn, am_brG, am_brL, am_st1, am_no2, am_st2, am_clr, and_self, true_and, and_true, true_or, or_true, List.length_cons, List.length_nil] <;> omega) ?_
                    refine am_wp_pc (pc' := 158) rfl ?_
                    refine am_wp_go rfl (by simp (disch := omega) only [am_addE, am_subE, am_mulE, am_laddE, am_lsubE, am_upO, am_upS, am_stS, am_stO, am_tnn, am_brl, am_brg, am_bre, am_brn, am_brG, am_brL, am_st1, am_no2, am_st2, am_clr, and_self, true_and, and_true, true_or, or_true, List.length_cons, List.length_nil] <;> omega) ?_
                    try simp (disch := omega) only [am_addE, am_subE, am_mulE, am_laddE, am_lsubE, am_upO, am_upS, am_stS, am_stO, am_tnn, am_brl, am_brg, am_bre, am_brn, am_brG, am_brL, am_st1, am_no2, am_st2, am_clr]
                    refine am_wp_ret rfl rfl ?_
                    exact h0 _ rfl Y (frP_tr aJ (frP_tr (frP_A k0) (frP_tr (frP_A v0) (frP_tr (frP_A x0) (frP_A y0))))) y1 y2
                  · rw [pN_1 (j := S.1 + 4) z2] at h1
                    have h := h1 _ rfl (by rw [List.length_append]; rfl)
                    clear h0 h1
                    have q1 : (T (S.1 + 2)).2.2.2 ≤ 240 := l2
                    have q2 : (T (S.1 + 3)).2.2.2 ≤ P := l4
                    have q3 : 1 ≤ (T (S.1 + 4)).2.2.2 ∧ (T (S.1 + 4)).2.2.2 ≤ 20 := ⟨l5, l6⟩
                    have fY := frP_tr aJ (frP_tr (frP_A k0) (frP_tr (frP_A v0) (frP_tr (frP_A x0) (frP_A y0))))
                    have pY := pl_frA (pl_frA (pl_frA (pl_frA pJ k0) v0) x0) y0
                    refine am_wp_go rfl (by simp (disch := omega) only [am_addE, am_subE, am_mulE, am_laddE, am_lsubE, am_upO, am_upS, am_stS, am_stO, am_tnn, am_brl, am_brg, am_bre, am_brn, am_brG, am_brL, am_st1, am_no2, am_st2, am_clr, and_self, true_and, and_true, true_or, or_true, List.length_cons, List.length_nil] <;> omega) ?_
                    try simp (disch := omega) only [am_addE, am_subE, am_mulE, am_laddE, am_lsubE, am_upO, am_upS, am_stS, am_stO, am_tnn, am_brl, am_brg, am_bre, am_brn, am_brG, am_brL, am_st1, am_no2, am_st2, am_clr]
                    refine am_wp_br (fun b131 => ?_) (fun b131 => ?_)
                    · omega
                    · refine am_wp_go rfl (by simp (disch := omega) only [am_addE, am_subE, am_mulE, am_laddE, am_lsubE, am_upO, am_upS, am_stS, am_stO, am_tnn, am_brl, am_brg, am_bre, am_brn, am_brG, am_brL, am_st1, am_no2, am_st2, am_clr, and_self, true_and, and_true, true_or, or_true, List.length_cons, List.length_nil] <;> omega) ?_
                      try simp (disch := omega) only [am_addE, am_subE, am_mulE, am_laddE, am_lsubE, am_upO, am_upS, am_stS, am_stO, am_tnn, am_brl, am_brg, am_bre, am_brn, am_brG, am_brL, am_st1, am_no2, am_st2, am_clr]
                      refine am_wp_cc rfl rfl rfl (congrArg Prod.fst (s48 hw)) (w_append (G := S.2) (g := (s, u, ((T (S.1 + 2)).2.2.2 : Int), ((T (S.1 + 3)).2.2.2 : Int), ((T (S.1 + 4)).2.2.2 : Int))) (pl_w hw (by decide)) pY (by omega) (by refine ⟨?_, ?_, ?_, ?_, ?_, ?_, ?_, ?_, ?_, ?_⟩ <;> dsimp only <;> omega) (by dsimp only) rfl rfl rfl (fun Z z0 z1 => ⟨_, rfl, ?_⟩))
                      refine am_wp_go rfl (by simp (disch := omega) only [am_addE, am_subE, am_mulE, am_laddE, am_lsubE, am_upO, am_upS, am_stS, am_stO, am_tnn, am_brl, am_brg, am_bre, am_brn, am_brG, am_brL, am_st1, am_no2, am_st2, am_clr, and_self, true_and, and_true, true_or, or_true, List.length_cons, List.length_nil] <;> omega) ?_
                      try simp (disch := omega) only [am_addE, am_subE, am_mulE, am_laddE, am_lsubE, am_upO, am_upS, am_stS, am_stO, am_tnn, am_brl, am_brg, am_bre, am_brn, am_brG, am_brL, am_st1, am_no2, am_st2, am_clr]
                      refine am_wp_br (fun b151 => ?_) (fun b151 => ?_)
                      · omega
                      · refine am_wp_go rfl (by simp (disch := omega) only [am_addE, am_subE, am_mulE, am_laddE, am_lsubE, am_upO, am_upS, am_stS, am_stO, am_tnn, am_brl, am_brg, am_bre, am_brn, am_brG, am_brL, am_st1, am_no2, am_st2, am_clr, and_self, true_and, and_true, true_or, or_true, List.length_cons, List.length_nil] <;> omega) ?_
                        try simp (disch := omega) only [am_addE, am_subE, am_mulE, am_laddE, am_lsubE, am_upO, am_upS, am_stS, am_stO, am_tnn, am_brl, am_brg, am_bre, am_brn, am_brG, am_brL, am_st1, am_no2, am_st2, am_clr]
                        refine am_wp_ret rfl rfl ?_
                        refine h Z ⟨fun a a1 a2 a3 => by rw [z0 a a1 a2, fY.1 a a1 a2 a3], by rw [z0 55 (by decide) (by decide), fY.2]⟩ z1 (tpC_fr y3 (fun k _ _ _ => by rw [z0 55 (by decide) (by decide)]) (z0 58 (by decide) (by decide)) (z0 59 (by decide) (by decide)) (z0 60 (by decide) (by decide)))
                · omega
            · omega
        refine am_wp_go rfl (by simp (disch := omega) only [s55 hw, g10, am_addE, am_subE, am_mulE, am_laddE, am_lsubE, am_upO, am_upS, am_stS, am_stO, am_tnn, am_brl, am_brg, am_bre, am_brn, am_brG, am_brL, am_st1, am_no2, am_st2, am_clr, and_self, true_and, and_true, true_or, or_true, List.length_cons, List.length_nil] <;> omega) ?_
        try simp (disch := omega) only [s55 hw, g10, am_addE, am_subE, am_mulE, am_laddE, am_lsubE, am_upO, am_upS, am_stS, am_stO, am_tnn, am_brl, am_brg, am_bre, am_brn, am_brG, am_brL, am_st1, am_no2, am_st2, am_clr]
        refine am_wp_br (fun b38 => ?_) (fun b38 => ?_)
        · refine am_wp_go rfl (by simp (disch := omega) only [s55 hw, g10, am_addE, am_subE, am_mulE, am_laddE, am_lsubE, am_upO, am_upS, am_stS, am_stO, am_tnn, am_brl, am_brg, am_bre, am_brn, am_brG, am_brL, am_st1, am_no2, am_st2, am_clr, and_self, true_and, and_true, true_or, or_true, List.length_cons, List.length_nil] <;> omega) ?_
          try simp (disch := omega) only [s55 hw, g10, am_addE, am_subE, am_mulE, am_laddE, am_lsubE, am_upO, am_upS, am_stS, am_stO, am_tnn, am_brl, am_brg, am_bre, am_brn, am_brG, am_brL, am_st1, am_no2, am_st2, am_clr]
          refine am_wp_br (fun b62 => ?_) (fun b62 => ?_)
          · omega
          · refine am_wp_go rfl (by simp (disch := omega) only [s55 hw, g10, am_addE, am_subE, am_mulE, am_laddE, am_lsubE, am_upO, am_upS, am_stS, am_stO, am_tnn, am_brl, am_brg, am_bre, am_brn, am_brG, am_brL, am_st1, am_no2, am_st2, am_clr, and_self, true_and, and_true, true_or, or_true, List.length_cons, List.length_nil] <;> omega) ?_
            try simp (disch := omega) only [s55 hw, g10, am_addE, am_subE, am_mulE, am_laddE, am_lsubE, am_upO, am_upS, am_stS, am_stO, am_tnn, am_brl, am_brg, am_bre, am_brn, am_brG, am_brL, am_st1, am_no2, am_st2, am_clr]
            exact am_wp_ls (U 0 (by rw [if_pos (by omega)]) (by omega)) rfl
        · refine am_wp_go rfl (by simp (disch := omega) only [s55 hw, g10, am_addE, am_subE, am_mulE, am_laddE, am_lsubE, am_upO, am_upS, am_stS, am_stO, am_tnn, am_brl, am_brg, am_bre, am_brn, am_brG, am_brL, am_st1, am_no2, am_st2, am_clr, and_self, true_and, and_true, true_or, or_true, List.length_cons, List.length_nil] <;> omega) ?_
          try simp (disch := omega) only [s55 hw, g10, am_addE, am_subE, am_mulE, am_laddE, am_lsubE, am_upO, am_upS, am_stS, am_stO, am_tnn, am_brl, am_brg, am_bre, am_brn, am_brG, am_brL, am_st1, am_no2, am_st2, am_clr]
          refine am_wp_br (fun b47 => ?_) (fun b47 => ?_)
          · refine am_wp_go rfl (by simp (disch := omega) only [s55 hw, g10, am_addE, am_subE, am_mulE, am_laddE, am_lsubE, am_upO, am_upS, am_stS, am_stO, am_tnn, am_brl, am_brg, am_bre, am_brn, am_brG, am_brL, am_st1, am_no2, am_st2, am_clr, and_self, true_and, and_true, true_or, or_true, List.length_cons, List.length_nil] <;> omega) ?_
            try simp (disch := omega) only [s55 hw, g10, am_addE, am_subE, am_mulE, am_laddE, am_lsubE, am_upO, am_upS, am_stS, am_stO, am_tnn, am_brl, am_brg, am_bre, am_brn, am_brG, am_brL, am_st1, am_no2, am_st2, am_clr]
            refine am_wp_br (fun b62 => ?_) (fun b62 => ?_)
            · refine am_wp_go rfl (by simp (disch := omega) only [s55 hw, g10, am_addE, am_subE, am_mulE, am_laddE, am_lsubE, am_upO, am_upS, am_stS, am_stO, am_tnn, am_brl, am_brg, am_bre, am_brn, am_brG, am_brL, am_st1, am_no2, am_st2, am_clr, and_self, true_and, and_true, true_or, or_true, List.length_cons, List.length_nil] <;> omega) ?_
              try simp (disch := omega) only [s55 hw, g10, am_addE, am_subE, am_mulE, am_laddE, am_lsubE, am_upO, am_upS, am_stS, am_stO, am_tnn, am_brl, am_brg, am_bre, am_brn, am_brG, am_brL, am_st1, am_no2, am_st2, am_clr]
              exact am_wp_ls (U 1 (by rw [if_neg (by omega)]) (by omega)) rfl
            · omega
          · rw [if_pos (by omega)] at h0
            refine am_wp_go rfl (by simp (disch := omega) only [s55 hw, g10, am_addE, am_subE, am_mulE, am_laddE, am_lsubE, am_upO, am_upS, am_stS, am_stO, am_tnn, am_brl, am_brg, am_bre, am_brn, am_brG, am_brL, am_st1, am_no2, am_st2, am_clr, and_self, true_and, and_true, true_or, or_true, List.length_cons, List.length_nil] <;> omega) ?_
            try simp (disch := omega) only [s55 hw, g10, am_addE, am_subE, am_mulE, am_laddE, am_lsubE, am_upO, am_upS, am_stS, am_stO, am_tnn, am_brl, am_brg, am_bre, am_brn, am_brG, am_brL, am_st1, am_no2, am_st2, am_clr]
            refine am_wp_cc rfl rfl rfl (congrArg Prod.fst (s55 hw)) (w_tfail (k := 1) hw j3 (fun K k0 k1 k2 => ⟨_, rfl, ?_⟩))
            refine am_wp_ret rfl rfl ?_
            exact h0 _ rfl K (frP_tr (frP_A j0) (frP_A k0)) k1 k2
      · rw [if_pos (by omega)] at h0
        refine am_wp_go rfl (by simp (disch := omega) only [s48 hw, p1, am_addE, am_subE, am_mulE, am_laddE, am_lsubE, am_upO, am_upS, am_stS, am_stO, am_tnn, am_brl, am_brg, am_bre, am_brn, am_brG, am_brL, am_st1, am_no2, am_st2, am_clr, and_self, true_and, and_true, true_or, or_true, List.length_cons, List.length_nil] <;> omega) ?_
        try simp (disch := omega) only [s48 hw, p1, am_addE, am_subE, am_mulE, am_laddE, am_lsubE, am_upO, am_upS, am_stS, am_stO, am_tnn, am_brl, am_brg, am_bre, am_brn, am_brG, am_brL, am_st1, am_no2, am_st2, am_clr]
        refine am_wp_cc rfl rfl rfl (congrArg Prod.fst (s55 hw)) (w_tfail (k := 4) hw hc (fun J j0 j1 j2 => ⟨_, rfl, ?_⟩))
        refine am_wp_ret rfl rfl ?_
        exact h0 _ rfl J (frP_A j0) j1 j2
    · exact absurd n1 b8
end PP
