/-! kitchen() by the reference -/
section RP
variable {m sl : Nat} {sh : Nat → Nat × Nat} {I : Nat → Nat → Int} {R : Nat → Nat → Nat} {Q : am_R → am_M → Prop} {d : Nat} {b : Nat → Nat} {n lim : Nat} {S : KS}
theorem w_M_isWord' {k j : Nat} {x y : Int} (ex : x = (k : Int)) (ey : y = (rpm k : Int)) (hw : wd sh R) (hk : k < 17) (hc : rpR I b n lim j) (h : Q (am_yi (am_b (owC (lxJ b n lim j) = y))) (m, sl, sh, I, R)) : am_wp (d + 2) 208 0 [some (.inr (.inr (124))), some (.inl (x))] [] (m, sl, sh, I, R) Q := by
  subst ex
  subst ey
  exact w_M_isWord hw hk hc h
set_option maxHeartbeats 8000000 in
theorem w_M_readSlice (hw : wd sh R) (hc : rpR I b n lim S.1) (ht : owC (lxJ b n lim S.1) ≠ -1) (hr : krR I S)
    (h0 : ∀ e, kSlice (lxJ b n lim) S = .inl e → ∀ J, frM I J → J 124 10 = (e.1 : Int) → J 124 11 = (e.2 : Int) → Q (am_yi 0) (m, sl, sh, J, R))
    (h1 : ∀ S', kSlice (lxJ b n lim) S = .inr S' → ∀ J, frM I J → J 124 10 = I 124 10 → krR J S' → rpR J b n lim S'.1 → Q (am_yi 1) (m, sl, sh, J, R)) : am_wp (d + 4) 220 0 [some (.inr (.inr (124))), none] [] (m, sl, sh, I, R) Q := by
  obtain ⟨r1, r2, r3, r4, r5⟩ := id hr
  obtain ⟨m1, m2, m3⟩ := wkm_n r5
  have e5 : I 127 5 = (nS S.2.1 : Int) := by rw [r1 5 (by decide)]; exact m1.1
  have t2 := ow_le ht
  unfold kSlice at h0 h1
  refine am_wp_go rfl (by simp (disch := omega) only [s124 hw, r124_15 hw, s127 hw, e5, Int.reduceToNat, am_addE, am_subE, am_mulE, am_laddE, am_lsubE, am_upO, am_upS, am_stS, am_stO, am_tnn, am_brl, am_brg, am_bre, am_brn, am_brG, am_brL, am_st1, am_no2, am_st2, am_clr, and_self, true_and, and_true, true_or, or_true, List.length_cons, List.length_nil] <;> omega) ?_
  try simp (disch := omega) only [s124 hw, r124_15 hw, s127 hw, e5, Int.reduceToNat, am_addE, am_subE, am_mulE, am_laddE, am_lsubE, am_upO, am_upS, am_stS, am_stO, am_tnn, am_brl, am_brg, am_bre, am_brn, am_brG, am_brL, am_st1, am_no2, am_st2, am_clr]
  refine am_wp_br (fun b10 => ?_) (fun b10 => ?_)
  · rw [if_neg (by omega)] at h0 h1
    refine am_wp_go rfl (by simp (disch := omega) only [s124 hw, r124_15 hw, s127 hw, e5, Int.reduceToNat, am_addE, am_subE, am_mulE, am_laddE, am_lsubE, am_upO, am_upS, am_stS, am_stO, am_tnn, am_brl, am_brg, am_bre, am_brn, am_brG, am_brL, am_st1, am_no2, am_st2, am_clr, and_self, true_and, and_true, true_or, or_true, List.length_cons, List.length_nil] <;> omega) ?_
    try simp (disch := omega) only [s124 hw, r124_15 hw, s127 hw, e5, Int.reduceToNat, am_addE, am_subE, am_mulE, am_laddE, am_lsubE, am_upO, am_upS, am_stS, am_stO, am_tnn, am_brl, am_brg, am_bre, am_brn, am_brG, am_brL, am_st1, am_no2, am_st2, am_clr]
    refine am_wp_cc rfl rfl rfl (congrArg Prod.fst (s124 hw)) (w_M_nx hw hc (by omega) (fun J j0 j1 => ⟨_, rfl, ?_⟩))
    have fJ := frQ_6 j0
    refine am_wp_go rfl (by simp (disch := omega) only [s124 hw, r124_15 hw, s127 hw, e5, Int.reduceToNat, am_addE, am_subE, am_mulE, am_laddE, am_lsubE, am_upO, am_upS, am_stS, am_stO, am_tnn, am_brl, am_brg, am_bre, am_brn, am_brG, am_brL, am_st1, am_no2, am_st2, am_clr, and_self, true_and, and_true, true_or, or_true, List.length_cons, List.length_nil] <;> omega) ?_
    try simp (disch := omega) only [s124 hw, r124_15 hw, s127 hw, e5, Int.reduceToNat, am_addE, am_subE, am_mulE, am_laddE, am_lsubE, am_upO, am_upS, am_stS, am_stO, am_tnn, am_brl, am_brg, am_bre, am_brn, am_brG, am_brL, am_st1, am_no2, am_st2, am_clr]
    refine am_wp_cc rfl rfl rfl (congrArg Prod.fst (s124 hw)) (w_M_readNew (z := nS S.2.1) hw j1 (krR_Q hr fJ) (by omega) (fun n1 K k0 k1 k2 => ⟨_, rfl, ?_⟩) (fun n1 n2 K k0 k1 k2 => ⟨_, rfl, ?_⟩) (fun n1 n2 lo K k0 k3 => ⟨_, rfl, ?_⟩))
    · rw [kNew_1 n1] at h0
      refine am_wp_go rfl (by simp (disch := omega) only [s124 hw, r124_15 hw, s127 hw, e5, Int.reduceToNat, am_addE, am_subE, am_mulE, am_laddE, am_lsubE, am_upO, am_upS, am_stS, am_stO, am_tnn, am_brl, am_brg, am_bre, am_brn, am_brG, am_brL, am_st1, am_no2, am_st2, am_clr, and_self, true_and, and_true, true_or, or_true, List.length_cons, List.length_nil] <;> omega) ?_
      refine am_wp_pc (pc' := 41) rfl ?_
      refine am_wp_go rfl (by simp (disch := omega) only [s124 hw, r124_15 hw, s127 hw, e5, Int.reduceToNat, am_addE, am_subE, am_mulE, am_laddE, am_lsubE, am_upO, am_upS, am_stS, am_stO, am_tnn, am_brl, am_brg, am_bre, am_brn, am_brG, am_brL, am_st1, am_no2, am_st2, am_clr, and_self, true_and, and_true, true_or, or_true, List.length_cons, List.length_nil] <;> omega) ?_
      try simp (disch := omega) only [s124 hw, r124_15 hw, s127 hw, e5, Int.reduceToNat, am_addE, am_subE, am_mulE, am_laddE, am_lsubE, am_upO, am_upS, am_stS, am_stO, am_tnn, am_brl, am_brg, am_bre, am_brn, am_brG, am_brL, am_st1, am_no2, am_st2, am_clr]
      refine am_wp_ret rfl rfl ?_
      exact h0 _ rfl K (frM_Q (frQ_tr fJ k0)) k1 k2
    · rw [kNew_3 n1 n2] at h0
      refine am_wp_go rfl (by simp (disch := omega) only [s124 hw, r124_15 hw, s127 hw, e5, Int.reduceToNat, am_addE, am_subE, am_mulE, am_laddE, am_lsubE, am_upO, am_upS, am_stS, am_stO, am_tnn, am_brl, am_brg, am_bre, am_brn, am_brG, am_brL, am_st1, am_no2, am_st2, am_clr, and_self, true_and, and_true, true_or, or_true, List.length_cons, List.length_nil] <;> omega) ?_
      refine am_wp_pc (pc' := 41) rfl ?_
      refine am_wp_go rfl (by simp (disch := omega) only [s124 hw, r124_15 hw, s127 hw, e5, Int.reduceToNat, am_addE, am_subE, am_mulE, am_laddE, am_lsubE, am_upO, am_upS, am_stS, am_stO, am_tnn, am_brl, am_brg, am_bre, am_brn, am_brG, am_brL, am_st1, am_no2, am_st2, am_clr, and_self, true_and, and_true, true_or, or_true, List.length_cons, List.length_nil] <;> omega) ?_
      try simp (disch := omega) only [s124 hw, r124_15 hw, s127 hw, e5, Int.reduceToNat, am_addE, am_subE, am_mulE, am_laddE, am_lsubE, am_upO, am_upS, am_stS, am_stO, am_tnn, am_brl, am_brg, am_bre, am_brn, am_brG, am_brL, am_st1, am_no2, am_st2, am_clr]
      refine am_wp_ret rfl rfl ?_
      exact h0 _ rfl K (frM_Q (frQ_tr fJ k0)) k1 k2
    · rw [kNew_0 n1 n2] at h0 h1
      have aK : ∀ a, a ≠ 124 → a ≠ 131 → K a = I a := fun a a1 a2 => by rw [k0.1 a a1, am_upO a2, fJ.1 a a1]
      have K131 : K 131 = am_set (I 131) (nS S.2.1) (nm27 (lxJ b n lim (S.1 + 1)).2.2.1 : Int) := by rw [k0.1 131 (by decide), am_upS, fJ.1 131 (by decide)]
      have fK : frM I K := ⟨fun a a1 _ a3 => aK a a1 a3, fun i hi => by rw [k0.2 i (by omega) (by omega) (by omega) (by omega) (by omega) (by omega), am_upO (by decide), fJ.2 i (by omega)]⟩
      have K10 : K 124 10 = I 124 10 := by rw [fr6_10 k0, am_upO (by decide), fr6_10 j0]
      have K24 : K 124 24 = I 124 24 := by rw [k0.2 24 (by decide) (by decide) (by decide) (by decide) (by decide) (by decide), am_upO (by decide), fJ.2 24 (by decide)]
      clear k0 j0 j1 fJ
      refine am_wp_go rfl (by simp (disch := omega) only [s124 hw, r124_15 hw, s127 hw, e5, Int.reduceToNat, am_addE, am_subE, am_mulE, am_laddE, am_lsubE, am_upO, am_upS, am_stS, am_stO, am_tnn, am_brl, am_brg, am_bre, am_brn, am_brG, am_brL, am_st1, am_no2, am_st2, am_clr, and_self, true_and, and_true, true_or, or_true, List.length_cons, List.length_nil] <;> omega) ?_
      refine am_wp_pc (pc' := 31) rfl ?_
      refine am_wp_go rfl (by simp (disch := omega) only [s124 hw, Int.reduceToNat, am_addE, am_subE, am_mulE, am_laddE, am_lsubE, am_upO, am_upS, am_stS, am_stO, am_tnn, am_brl, am_brg, am_bre, am_brn, am_brG, am_brL, am_st1, am_no2, am_st2, am_clr, and_self, true_and, and_true, true_or, or_true, List.length_cons, List.length_nil] <;> omega) ?_
      try simp (disch := omega) only [s124 hw, Int.reduceToNat, am_addE, am_subE, am_mulE, am_laddE, am_lsubE, am_upO, am_upS, am_stS, am_stO, am_tnn, am_brl, am_brg, am_bre, am_brn, am_brG, am_brL, am_st1, am_no2, am_st2, am_clr]
      refine am_wp_cc rfl rfl rfl (congrArg Prod.fst (s124 hw)) (w_M_readNumber (a := 1) (c := 20) rfl rfl hw k3 (fun n1 V v0 v1 v2 => ⟨_, rfl, ?_⟩) (fun n1 l1 l2 V v0 v1 v2 v3 => ⟨_, rfl, ?_⟩))
      · rw [kN_0 (j := S.1 + 2) n1] at h0
        refine am_wp_go rfl (by simp (disch := omega) only [s124 hw, Int.reduceToNat, am_addE, am_subE, am_mulE, am_laddE, am_lsubE, am_upO, am_upS, am_stS, am_stO, am_tnn, am_brl, am_brg, am_bre, am_brn, am_brG, am_brL, am_st1, am_no2, am_st2, am_clr, and_self, true_and, and_true, true_or, or_true, List.length_cons, List.length_nil] <;> omega) ?_
        refine am_wp_pc (pc' := 41) rfl ?_
        refine am_wp_go rfl (by simp (disch := omega) only [s124 hw, Int.reduceToNat, am_addE, am_subE, am_mulE, am_laddE, am_lsubE, am_upO, am_upS, am_stS, am_stO, am_tnn, am_brl, am_brg, am_bre, am_brn, am_brG, am_brL, am_st1, am_no2, am_st2, am_clr, and_self, true_and, and_true, true_or, or_true, List.length_cons, List.length_nil] <;> omega) ?_
        try simp (disch := omega) only [s124 hw, Int.reduceToNat, am_addE, am_subE, am_mulE, am_laddE, am_lsubE, am_upO, am_upS, am_stS, am_stO, am_tnn, am_brl, am_brg, am_bre, am_brn, am_brG, am_brL, am_st1, am_no2, am_st2, am_clr]
        refine am_wp_ret rfl rfl ?_
        exact h0 _ rfl V (frM_tr fK (frM_Q v0)) v1 v2
      · rw [kN_1 (j := S.1 + 2) n1] at h0 h1
        rw [show S.1 + 1 + 1 = S.1 + 2 from rfl] at v2 v3
        refine am_wp_go rfl (by simp (disch := omega) only [s124 hw, Int.reduceToNat, am_addE, am_subE, am_mulE, am_laddE, am_lsubE, am_upO, am_upS, am_stS, am_stO, am_tnn, am_brl, am_brg, am_bre, am_brn, am_brG, am_brL, am_st1, am_no2, am_st2, am_clr, and_self, true_and, and_true, true_or, or_true, List.length_cons, List.length_nil] <;> omega) ?_
        refine am_wp_pc (pc' := 43) rfl ?_
        refine am_wp_go rfl (by simp (disch := omega) only [s124 hw, r124_15 hw, s127 hw, v2, am_tnA, am_tnM, Int.reduceToNat, am_addE, am_subE, am_mulE, am_laddE, am_lsubE, am_upO, am_upS, am_stS, am_stO, am_tnn, am_brl, am_brg, am_bre, am_brn, am_brG, am_brL, am_st1, am_no2, am_st2, am_clr, and_self, true_and, and_true, true_or, or_true, List.length_cons, List.length_nil] <;> omega) ?_
        try simp (disch := omega) only [s124 hw, r124_15 hw, s127 hw, v2, am_tnA, am_tnM, Int.reduceToNat, am_addE, am_subE, am_mulE, am_laddE, am_lsubE, am_upO, am_upS, am_stS, am_stO, am_tnn, am_brl, am_brg, am_bre, am_brn, am_brG, am_brL, am_st1, am_no2, am_st2, am_clr]
        refine am_wp_cc rfl rfl rfl (congrArg Prod.fst (s124 hw)) (w_M_readNumber (a := 1) (c := 20) rfl rfl hw (rpR_up v3 (Or.inl (by decide))) (fun n2 X x0 x1 x2 => ⟨_, rfl, ?_⟩) (fun n2 l3 l4 X x0 x1 x2 x3 => ⟨_, rfl, ?_⟩))
        · rw [kN_0 (j := S.1 + 3) n2] at h0
          refine am_wp_go rfl (by simp (disch := omega) only [s124 hw, r124_15 hw, s127 hw, v2, am_tnA, am_tnM, Int.reduceToNat, am_addE, am_subE, am_mulE, am_laddE, am_lsubE, am_upO, am_upS, am_stS, am_stO, am_tnn, am_brl, am_brg, am_bre, am_brn, am_brG, am_brL, am_st1, am_no2, am_st2, am_clr, and_self, true_and, and_true, true_or, or_true, List.length_cons, List.length_nil] <;> omega) ?_
          refine am_wp_pc (pc' := 68) rfl ?_
          refine am_wp_go rfl (by simp (disch := omega) only [s124 hw, r124_15 hw, s127 hw, v2, am_tnA, am_tnM, Int.reduceToNat, am_addE, am_subE, am_mulE, am_laddE, am_lsubE, am_upO, am_upS, am_stS, am_stO, am_tnn, am_brl, am_brg, am_bre, am_brn, am_brG, am_brL, am_st1, am_no2, am_st2, am_clr, and_self, true_and, and_true, true_or, or_true, List.length_cons, List.length_nil] <;> omega) ?_
          try simp (disch := omega) only [s124 hw, r124_15 hw, s127 hw, v2, am_tnA, am_tnM, Int.reduceToNat, am_addE, am_subE, am_mulE, am_laddE, am_lsubE, am_upO, am_upS, am_stS, am_stO, am_tnn, am_brl, am_brg, am_bre, am_brn, am_brG, am_brL, am_st1, am_no2, am_st2, am_clr]
          refine am_wp_ret rfl rfl ?_
          exact h0 _ rfl X (frM_tr (frM_up (frM_tr fK (frM_Q v0)) (by decide)) (frM_Q x0)) x1 x2
        · rw [kN_1 (j := S.1 + 3) n2] at h1
          rw [show S.1 + 2 + 1 = S.1 + 3 from rfl] at x2 x3
          have X127 : X 127 = am_set (I 127) (8 + 3 * nS S.2.1) ((lxJ b n lim (S.1 + 2)).2.2.2 : Int) := by rw [x0.1 127 (by decide), am_upS, v0.1 127 (by decide), aK 127 (by decide) (by decide)]
          have X131 : X 131 = am_set (I 131) (nS S.2.1) (nm27 (lxJ b n lim (S.1 + 1)).2.2.1 : Int) := by rw [x0.1 131 (by decide), am_upO (by decide), v0.1 131 (by decide), K131]
          have fX : frM I X := frM_tr (frM_up (frM_tr fK (frM_Q v0)) (by decide)) (frM_Q x0)
          have X10 : X 124 10 = I 124 10 := by rw [x1, am_upO (by decide), v1, K10]
          have X24 : X 124 24 = I 124 24 := by rw [x0.2 24 (by decide), am_upO (by decide), v0.2 24 (by decide), K24]
          have RES : ∀ (o : Int) (Z : Nat → Nat → Int), (∀ i, i < 58 → Z 127 i = kSlW S.2.1 ((lxJ b n lim (S.1 + 2)).2.2.2 : Int) ((lxJ b n lim (S.1 + 3)).2.2.2 : Int) o i) → Z 131 = X 131 → Z 124 24 = X 124 24 → ∀ jj, krR Z (jj, kSlW S.2.1 ((lxJ b n lim (S.1 + 2)).2.2.2 : Int) ((lxJ b n lim (S.1 + 3)).2.2.2 : Int) o, S.2.2.1, am_set S.2.2.2 (nS S.2.1) (lxJ b n lim (S.1 + 1)).2.2.1) := fun o Z z1 z2 z3 jj => by
            have es : nS (kSlW S.2.1 ((lxJ b n lim (S.1 + 2)).2.2.2 : Int) ((lxJ b n lim (S.1 + 3)).2.2.2 : Int) o) = nS S.2.1 + 1 := by unfold nS kSlW; rw [am_stS rfl]; unfold nS; omega
            have eg : nG (kSlW S.2.1 ((lxJ b n lim (S.1 + 2)).2.2.2 : Int) ((lxJ b n lim (S.1 + 3)).2.2.2 : Int) o) = nG S.2.1 := by unfold nG kSlW; rw [am_stO (by omega), am_stO (by omega), am_stO (by omega), am_stO (by omega)]
            refine ⟨z1, ⟨by rw [z3, X24]; exact r2.1, r2.2⟩, fun s hs => ?_, fun g hg => ?_, ?_⟩
            · dsimp only at hs ⊢
              rw [es] at hs
              rw [z2, X131]
              by_cases hsn : s = nS S.2.1
              · rw [am_stS (by omega), am_stS (by omega)]; exact ⟨lo, rfl⟩
              · rw [am_stO (by omega), am_stO (by omega)]; exact r3 s (by omega)
            · dsimp only at hg ⊢
              rw [eg] at hg
              rw [z2, X131, am_stO (by omega), am_stO (by omega)]; exact r4 g hg
            · unfold wkm at r5 ⊢
              unfold kSlW
              dsimp only
              simp (disch := omega) only [am_stO, am_stS]
              omega
          have tc := rpR_up (a := 127) (k := 8 + 3 * nS S.2.1 + 1) (x := ((lxJ b n lim (S.1 + 3)).2.2.2 : Int)) x3 (Or.inl (by decide))
          rw [show S.1 + 3 + 1 = S.1 + 4 from rfl] at tc
          clear x0 v0 v1 v2 v3 x1 k3
          refine am_wp_go rfl (by simp (disch := omega) only [s124 hw, am_addE, am_subE, am_mulE, am_laddE, am_lsubE, am_upO, am_upS, am_stS, am_stO, am_tnn, am_brl, am_brg, am_bre, am_brn, am_brG, am_brL, am_st1, am_no2, am_st2, am_clr, and_self, true_and, and_true, true_or, or_true, List.length_cons, List.length_nil] <;> omega) ?_
          refine am_wp_pc (pc' := 70) rfl ?_
          refine am_wp_go rfl (by simp (disch := omega) only [s124 hw, r124_15 hw, s127 hw, x2, am_tnA, am_tnM, Int.reduceToNat, am_addE, am_subE, am_mulE, am_laddE, am_lsubE, am_upO, am_upS, am_stS, am_stO, am_tnn, am_brl, am_brg, am_bre, am_brn, am_brG, am_brL, am_st1, am_no2, am_st2, am_clr, and_self, true_and, and_true, true_or, or_true, List.length_cons, List.length_nil] <;> omega) ?_
          try simp (disch := omega) only [s124 hw, r124_15 hw, s127 hw, x2, am_tnA, am_tnM, Int.reduceToNat, am_addE, am_subE, am_mulE, am_laddE, am_lsubE, am_upO, am_upS, am_stS, am_stO, am_tnn, am_brl, am_brg, am_bre, am_brn, am_brG, am_brL, am_st1, am_no2, am_st2, am_clr]
          refine am_wp_cc rfl rfl rfl (congrArg Prod.fst (s124 hw)) (w_M_isWord' (k := 5) (y := 7) rfl rfl hw (by decide) tc ⟨_, rfl, ?_⟩)
          by_cases ho : owC (lxJ b n lim (S.1 + 4)) = 7
          · rw [if_pos ho, if_pos ho] at h1
            rw [am_bT ho]
            refine am_wp_go rfl (by simp (disch := omega) only [s124 hw, r124_15 hw, s127 hw, x2, am_tnA, am_tnM, Int.reduceToNat, am_addE, am_subE, am_mulE, am_laddE, am_lsubE, am_upO, am_upS, am_stS, am_stO, am_tnn, am_brl, am_brg, am_bre, am_brn, am_brG, am_brL, am_st1, am_no2, am_st2, am_clr, and_self, true_and, and_true, true_or, or_true, List.length_cons, List.length_nil] <;> omega) ?_
            refine am_wp_pc (pc' := 107) rfl ?_
            refine am_wp_go rfl (by simp (disch := omega) only [s124 hw, r124_15 hw, s127 hw, am_tnA, am_tnM, Int.reduceToNat, am_addE, am_subE, am_mulE, am_laddE, am_lsubE, am_upO, am_upS, am_stS, am_stO, am_tnn, am_brl, am_brg, am_bre, am_brn, am_brG, am_brL, am_st1, am_no2, am_st2, am_clr, and_self, true_and, and_true, true_or, or_true, List.length_cons, List.length_nil] <;> omega) ?_
            try simp (disch := omega) only [s124 hw, r124_15 hw, s127 hw, am_tnA, am_tnM, Int.reduceToNat, am_addE, am_subE, am_mulE, am_laddE, am_lsubE, am_upO, am_upS, am_stS, am_stO, am_tnn, am_brl, am_brg, am_bre, am_brn, am_brG, am_brL, am_st1, am_no2, am_st2, am_clr]
            have tc2 := rpR_up (a := 127) (k := 8 + 3 * nS S.2.1 + 2) (x := 1) tc (Or.inl (by decide))
            refine am_wp_cc rfl rfl rfl (congrArg Prod.fst (s124 hw)) (w_M_isWord' (k := 5) (y := 7) rfl rfl hw (by decide) tc2 ⟨_, rfl, ?_⟩)
            rw [am_bT ho]
            refine am_wp_go rfl (by simp (disch := omega) only [s124 hw, r124_15 hw, s127 hw, am_tnA, am_tnM, Int.reduceToNat, am_addE, am_subE, am_mulE, am_laddE, am_lsubE, am_upO, am_upS, am_stS, am_stO, am_tnn, am_brl, am_brg, am_bre, am_brn, am_brG, am_brL, am_st1, am_no2, am_st2, am_clr, and_self, true_and, and_true, true_or, or_true, List.length_cons, List.length_nil] <;> omega) ?_
            refine am_wp_pc (pc' := 121) rfl ?_
            refine am_wp_go rfl (by simp (disch := omega) only [s124 hw, r124_15 hw, s127 hw, am_tnA, am_tnM, Int.reduceToNat, am_addE, am_subE, am_mulE, am_laddE, am_lsubE, am_upO, am_upS, am_stS, am_stO, am_tnn, am_brl, am_brg, am_bre, am_brn, am_brG, am_brL, am_st1, am_no2, am_st2, am_clr, and_self, true_and, and_true, true_or, or_true, List.length_cons, List.length_nil] <;> omega) ?_
            try simp (disch := omega) only [s124 hw, r124_15 hw, s127 hw, am_tnA, am_tnM, Int.reduceToNat, am_addE, am_subE, am_mulE, am_laddE, am_lsubE, am_upO, am_upS, am_stS, am_stO, am_tnn, am_brl, am_brg, am_bre, am_brn, am_brG, am_brL, am_st1, am_no2, am_st2, am_clr]
            refine am_wp_cc rfl rfl rfl (congrArg Prod.fst (s124 hw)) (w_M_nx hw tc2 (by have := ow_le (t := lxJ b n lim (S.1 + 4)) (by omega); omega) (fun Z z0 z1 => ⟨_, rfl, ?_⟩))
            have Z127 : Z 127 = am_set (am_set (am_set (I 127) (8 + 3 * nS S.2.1) ((lxJ b n lim (S.1 + 2)).2.2.2 : Int)) (8 + 3 * nS S.2.1 + 1) ((lxJ b n lim (S.1 + 3)).2.2.2 : Int)) (8 + 3 * nS S.2.1 + 2) 1 := by rw [z0.1 127 (by decide), am_upS, am_upS, X127]
            have Z5 : Z 127 5 = (nS S.2.1 : Int) := by rw [Z127, am_stO (by omega), am_stO (by omega), am_stO (by omega)]; exact e5
            refine am_wp_go rfl (by simp (disch := omega) only [s124 hw, r124_15 hw, s127 hw, Z5, Int.reduceToNat, am_addE, am_subE, am_mulE, am_laddE, am_lsubE, am_upO, am_upS, am_stS, am_stO, am_tnn, am_brl, am_brg, am_bre, am_brn, am_brG, am_brL, am_st1, am_no2, am_st2, am_clr, and_self, true_and, and_true, true_or, or_true, List.length_cons, List.length_nil] <;> omega) ?_
            try simp (disch := omega) only [s124 hw, r124_15 hw, s127 hw, Z5, Int.reduceToNat, am_addE, am_subE, am_mulE, am_laddE, am_lsubE, am_upO, am_upS, am_stS, am_stO, am_tnn, am_brl, am_brg, am_bre, am_brn, am_brG, am_brL, am_st1, am_no2, am_st2, am_clr]
            refine am_wp_ret rfl rfl ?_
            refine h1 _ rfl _ (frM_up (frM_tr (frM_up (frM_up fX (by decide)) (by decide)) (frM_Q (frQ_6 z0))) (by decide)) (by rw [am_upO (by decide), fr6_10 z0, am_upO (by decide), am_upO (by decide), X10]) (RES 1 _ ?_ ?_ ?_ _) (rpR_up z1 (Or.inl (by decide)))
            · rw [am_upS, Z127]
              unfold kSlW
              exact set_cg (set_cg (set_cg (set_cg r1)))
            · rw [am_upO (by decide), z0.1 131 (by decide), am_upO (by decide), am_upO (by decide)]
            · rw [am_upO (by decide), z0.2 24 (by decide) (by decide) (by decide) (by decide) (by decide) (by decide), am_upO (by decide), am_upO (by decide)]
          · rw [if_neg ho, if_neg ho] at h1
            rw [am_bF ho]
            refine am_wp_go rfl (by simp (disch := omega) only [s124 hw, r124_15 hw, s127 hw, x2, am_tnA, am_tnM, Int.reduceToNat, am_addE, am_subE, am_mulE, am_laddE, am_lsubE, am_upO, am_upS, am_stS, am_stO, am_tnn, am_brl, am_brg, am_bre, am_brn, am_brG, am_brL, am_st1, am_no2, am_st2, am_clr, and_self, true_and, and_true, true_or, or_true, List.length_cons, List.length_nil] <;> omega) ?_
            refine am_wp_pc (pc' := 111) rfl ?_
            refine am_wp_go rfl (by simp (disch := omega) only [s124 hw, r124_15 hw, s127 hw, am_tnA, am_tnM, Int.reduceToNat, am_addE, am_subE, am_mulE, am_laddE, am_lsubE, am_upO, am_upS, am_stS, am_stO, am_tnn, am_brl, am_brg, am_bre, am_brn, am_brG, am_brL, am_st1, am_no2, am_st2, am_clr, and_self, true_and, and_true, true_or, or_true, List.length_cons, List.length_nil] <;> omega) ?_
            try simp (disch := omega) only [s124 hw, r124_15 hw, s127 hw, am_tnA, am_tnM, Int.reduceToNat, am_addE, am_subE, am_mulE, am_laddE, am_lsubE, am_upO, am_upS, am_stS, am_stO, am_tnn, am_brl, am_brg, am_bre, am_brn, am_brG, am_brL, am_st1, am_no2, am_st2, am_clr]
            have tc2 := rpR_up (a := 127) (k := 8 + 3 * nS S.2.1 + 2) (x := 0) tc (Or.inl (by decide))
            refine am_wp_cc rfl rfl rfl (congrArg Prod.fst (s124 hw)) (w_M_isWord' (k := 5) (y := 7) rfl rfl hw (by decide) tc2 ⟨_, rfl, ?_⟩)
            rw [am_bF ho]
            refine am_wp_go rfl (by simp (disch := omega) only [s124 hw, r124_15 hw, s127 hw, am_tnA, am_tnM, Int.reduceToNat, am_addE, am_subE, am_mulE, am_laddE, am_lsubE, am_upO, am_upS, am_stS, am_stO, am_tnn, am_brl, am_brg, am_bre, am_brn, am_brG, am_brL, am_st1, am_no2, am_st2, am_clr, and_self, true_and, and_true, true_or, or_true, List.length_cons, List.length_nil] <;> omega) ?_
            refine am_wp_pc (pc' := 125) rfl ?_
            have Z127 : am_up (am_up X 127 (8 + 3 * nS S.2.1 + 1) ((lxJ b n lim (S.1 + 3)).2.2.2 : Int)) 127 (8 + 3 * nS S.2.1 + 2) 0 127 = am_set (am_set (am_set (I 127) (8 + 3 * nS S.2.1) ((lxJ b n lim (S.1 + 2)).2.2.2 : Int)) (8 + 3 * nS S.2.1 + 1) ((lxJ b n lim (S.1 + 3)).2.2.2 : Int)) (8 + 3 * nS S.2.1 + 2) 0 := by rw [am_upS, am_upS, X127]
            have Z5 : am_up (am_up X 127 (8 + 3 * nS S.2.1 + 1) ((lxJ b n lim (S.1 + 3)).2.2.2 : Int)) 127 (8 + 3 * nS S.2.1 + 2) 0 127 5 = (nS S.2.1 : Int) := by rw [Z127, am_stO (by omega), am_stO (by omega), am_stO (by omega)]; exact e5
            have fZ : frM I (am_up (am_up X 127 (8 + 3 * nS S.2.1 + 1) ((lxJ b n lim (S.1 + 3)).2.2.2 : Int)) 127 (8 + 3 * nS S.2.1 + 2) 0) := frM_up (frM_up fX (by decide)) (by decide)
            have Za : ∀ a, a ≠ 127 → am_up (am_up X 127 (8 + 3 * nS S.2.1 + 1) ((lxJ b n lim (S.1 + 3)).2.2.2 : Int)) 127 (8 + 3 * nS S.2.1 + 2) 0 a = X a := fun a ha => by rw [am_upO ha, am_upO ha]
            generalize am_up (am_up X 127 (8 + 3 * nS S.2.1 + 1) ((lxJ b n lim (S.1 + 3)).2.2.2 : Int)) 127 (8 + 3 * nS S.2.1 + 2) 0 = Z at *
            refine am_wp_go rfl (by simp (disch := omega) only [s124 hw, r124_15 hw, s127 hw, Z5, Int.reduceToNat, am_addE, am_subE, am_mulE, am_laddE, am_lsubE, am_upO, am_upS, am_stS, am_stO, am_tnn, am_brl, am_brg, am_bre, am_brn, am_brG, am_brL, am_st1, am_no2, am_st2, am_clr, and_self, true_and, and_true, true_or, or_true, List.length_cons, List.length_nil] <;> omega) ?_
            try simp (disch := omega) only [s124 hw, r124_15 hw, s127 hw, Z5, Int.reduceToNat, am_addE, am_subE, am_mulE, am_laddE, am_lsubE, am_upO, am_upS, am_stS, am_stO, am_tnn, am_brl, am_brg, am_bre, am_brn, am_brG, am_brL, am_st1, am_no2, am_st2, am_clr]
            refine am_wp_ret rfl rfl ?_
            refine h1 _ rfl _ (frM_up fZ (by decide)) (by rw [am_upO (by decide), Za 124 (by decide), X10]) (RES 0 _ ?_ ?_ ?_ _) (rpR_up tc2 (Or.inl (by decide)))
            · rw [am_upS, Z127]
              unfold kSlW
              exact set_cg (set_cg (set_cg (set_cg r1)))
            · rw [am_upO (by decide), Za 131 (by decide)]
            · rw [am_upO (by decide), Za 124 (by decide)]
  · rw [if_pos (by omega)] at h0
    refine am_wp_go rfl (by simp (disch := omega) only [s124 hw, r124_15 hw, s127 hw, e5, Int.reduceToNat, am_addE, am_subE, am_mulE, am_laddE, am_lsubE, am_upO, am_upS, am_stS, am_stO, am_tnn, am_brl, am_brg, am_bre, am_brn, am_brG, am_brL, am_st1, am_no2, am_st2, am_clr, and_self, true_and, and_true, true_or, or_true, List.length_cons, List.length_nil] <;> omega) ?_
    try simp (disch := omega) only [s124 hw, r124_15 hw, s127 hw, e5, Int.reduceToNat, am_addE, am_subE, am_mulE, am_laddE, am_lsubE, am_upO, am_upS, am_stS, am_stO, am_tnn, am_brl, am_brg, am_bre, am_brn, am_brG, am_brL, am_st1, am_no2, am_st2, am_clr]
    refine am_wp_cc rfl rfl rfl (congrArg Prod.fst (s124 hw)) (w_M_bad' (k := 4) rfl hw hc (Or.inr (by omega)) (fun J j0 j1 j2 => ⟨_, rfl, ?_⟩))
    refine am_wp_ret rfl rfl ?_
    exact h0 _ rfl J (frM_Q j0) j1 j2
set_option maxHeartbeats 8000000 in
theorem w_M_readLine (hw : wd sh R) (hc : rpR I b n lim S.1) (hr : krR I S)
    (h0 : ∀ e, kEnd (lxJ b n lim) (kLine (lxJ b n lim) S) = .inl e → ∀ J, frM I J → J 124 10 = (e.1 : Int) → J 124 11 = (e.2 : Int) → Q (am_yi 0) (m, sl, sh, J, R))
    (h1 : ∀ S', kEnd (lxJ b n lim) (kLine (lxJ b n lim) S) = .inr S' → ∀ J, frM I J → J 124 10 = I 124 10 → krR J S' → rpR J b n lim S'.1 → Q (am_yi 1) (m, sl, sh, J, R)) : am_wp (d + 5) 225 0 [some (.inr (.inr (124))), none] [] (m, sl, sh, I, R) Q := by
  -- behind a line's own words
  have E0 : ∀ e, kLine (lxJ b n lim) S = .inl e → ∀ J, frM I J → J 124 10 = (e.1 : Int) → J 124 11 = (e.2 : Int) → am_wp (d + 5) 225 130 [some (.inr (.inr (124))), some (.inl (0))] [] (m, sl, sh, J, R) Q := fun e he J j0 j1 j2 => by
    rw [he] at h0
    refine am_wp_go rfl (by simp (disch := omega) only [am_addE, am_subE, am_mulE, am_laddE, am_lsubE, am_upO, am_upS, am_stS, am_stO, am_tnn, am_brl, am_brg, am_bre, am_brn, am_brG, am_brL, am_st1, am_no2, am_st2, am_clr, and_self, true_and, and_true, true_or, or_true, List.length_cons, List.length_nil] <;> omega) ?_
    refine am_wp_pc (pc' := 145) rfl ?_
    refine am_wp_go rfl (by simp (disch := omega) only [am_addE, am_subE, am_mulE, am_laddE, am_lsubE, am_upO, am_upS, am_stS, am_stO, am_tnn, am_brl, am_brg, am_bre, am_brn, am_brG, am_brL, am_st1, am_no2, am_st2, am_clr, and_self, true_and, and_true, true_or, or_true, List.length_cons, List.length_nil] <;> omega) ?_
    try simp (disch := omega) only [am_addE, am_subE, am_mulE, am_laddE, am_lsubE, am_upO, am_upS, am_stS, am_stO, am_tnn, am_brl, am_brg, am_bre, am_brn, am_brG, am_brL, am_st1, am_no2, am_st2, am_clr]
    refine am_wp_ret rfl rfl ?_
    exact h0 e rfl J j0 j1 j2
  have E1 : ∀ S', kLine (lxJ b n lim) S = .inr S' → ∀ J, frM I J → J 124 10 = I 124 10 → krR J S' → rpR J b n lim S'.1 → am_wp (d + 5) 225 130 [some (.inr (.inr (124))), some (.inl (1))] [] (m, sl, sh, J, R) Q := fun S' he J j0 j1 j2 j3 => by
    rw [he] at h0 h1
    refine am_wp_go rfl (by simp (disch := omega) only [am_addE, am_subE, am_mulE, am_laddE, am_lsubE, am_upO, am_upS, am_stS, am_stO, am_tnn, am_brl, am_brg, am_bre, am_brn, am_brG, am_brL, am_st1, am_no2, am_st2, am_clr, and_self, true_and, and_true, true_or, or_true, List.length_cons, List.length_nil] <;> omega) ?_
    refine am_wp_pc (pc' := 134) rfl ?_
    refine am_wp_go rfl (by simp (disch := omega) only [am_addE, am_subE, am_mulE, am_laddE, am_lsubE, am_upO, am_upS, am_stS, am_stO, am_tnn, am_brl, am_brg, am_bre, am_brn, am_brG, am_brL, am_st1, am_no2, am_st2, am_clr, and_self, true_and, and_true, true_or, or_true, List.length_cons, List.length_nil] <;> omega) ?_
    try simp (disch := omega) only [am_addE, am_subE, am_mulE, am_laddE, am_lsubE, am_upO, am_upS, am_stS, am_stO, am_tnn, am_brl, am_brg, am_bre, am_brn, am_brG, am_brL, am_st1, am_no2, am_st2, am_clr]
    refine am_wp_cc rfl rfl rfl (congrArg Prod.fst (s124 hw)) (w_M_readEnd hw j3 (fun ns K k0 k1 k2 => ⟨_, rfl, ?_⟩) (fun ys K k0 k1 k2 => ⟨_, rfl, ?_⟩))
    · have e2 : kEnd (lxJ b n lim) (.inr S') = .inl (1, plT (lxJ b n lim) S'.1) := by unfold kEnd; dsimp only; rw [if_neg ns]
      rw [e2] at h0
      refine am_wp_go rfl (by simp (disch := omega) only [am_addE, am_subE, am_mulE, am_laddE, am_lsubE, am_upO, am_upS, am_stS, am_stO, am_tnn, am_brl, am_brg, am_bre, am_brn, am_brG, am_brL, am_st1, am_no2, am_st2, am_clr, and_self, true_and, and_true, true_or, or_true, List.length_cons, List.length_nil] <;> omega) ?_
      refine am_wp_pc (pc' := 145) rfl ?_
      refine am_wp_go rfl (by simp (disch := omega) only [am_addE, am_subE, am_mulE, am_laddE, am_lsubE, am_upO, am_upS, am_stS, am_stO, am_tnn, am_brl, am_brg, am_bre, am_brn, am_brG, am_brL, am_st1, am_no2, am_st2, am_clr, and_self, true_and, and_true, true_or, or_true, List.length_cons, List.length_nil] <;> omega) ?_
      try simp (disch := omega) only [am_addE, am_subE, am_mulE, am_laddE, am_lsubE, am_upO, am_upS, am_stS, am_stO, am_tnn, am_brl, am_brg, am_bre, am_brn, am_brG, am_brL, am_st1, am_no2, am_st2, am_clr]
      refine am_wp_ret rfl rfl ?_
      exact h0 _ rfl K (frM_tr j0 (frM_Q k0)) k1 k2
    · have e2 : kEnd (lxJ b n lim) (.inr S') = .inr (S'.1 + 1, S'.2) := by unfold kEnd; dsimp only; rw [if_pos ys]
      rw [e2] at h1
      refine am_wp_go rfl (by simp (disch := omega) only [am_addE, am_subE, am_mulE, am_laddE, am_lsubE, am_upO, am_upS, am_stS, am_stO, am_tnn, am_brl, am_brg, am_bre, am_brn, am_brG, am_brL, am_st1, am_no2, am_st2, am_clr, and_self, true_and, and_true, true_or, or_true, List.length_cons, List.length_nil] <;> omega) ?_
      refine am_wp_pc (pc' := 141) rfl ?_
      refine am_wp_go rfl (by simp (disch := omega) only [am_addE, am_subE, am_mulE, am_laddE, am_lsubE, am_upO, am_upS, am_stS, am_stO, am_tnn, am_brl, am_brg, am_bre, am_brn, am_brG, am_brL, am_st1, am_no2, am_st2, am_clr, and_self, true_and, and_true, true_or, or_true, List.length_cons, List.length_nil] <;> omega) ?_
      try simp (disch := omega) only [am_addE, am_subE, am_mulE, am_laddE, am_lsubE, am_upO, am_upS, am_stS, am_stO, am_tnn, am_brl, am_brg, am_bre, am_brn, am_brG, am_brL, am_st1, am_no2, am_st2, am_clr]
      refine am_wp_ret rfl rfl ?_
      exact h1 _ rfl K (frM_tr j0 (frM_Q k0)) (by rw [k1, j1]) (krR_Q j2 k0) k2
  clear h0 h1
  unfold kLine at E0 E1
  refine am_wp_go rfl (by simp (disch := omega) only [am_b0, am_addE, am_subE, am_mulE, am_laddE, am_lsubE, am_upO, am_upS, am_stS, am_stO, am_tnn, am_brl, am_brg, am_bre, am_brn, am_brG, am_brL, am_st1, am_no2, am_st2, am_clr, and_self, true_and, and_true, true_or, or_true, List.length_cons, List.length_nil] <;> omega) ?_
  try simp (disch := omega) only [am_b0, am_addE, am_subE, am_mulE, am_laddE, am_lsubE, am_upO, am_upS, am_stS, am_stO, am_tnn, am_brl, am_brg, am_bre, am_brn, am_brG, am_brL, am_st1, am_no2, am_st2, am_clr]
  refine am_wp_cc rfl rfl rfl (congrArg Prod.fst (s124 hw)) (w_M_isWord' (k := 0) (y := 0) rfl rfl hw (by decide) hc ⟨_, rfl, ?_⟩)
  refine am_wp_go rfl (by simp (disch := omega) only [am_b0, am_addE, am_subE, am_mulE, am_laddE, am_lsubE, am_upO, am_upS, am_stS, am_stO, am_tnn, am_brl, am_brg, am_bre, am_brn, am_brG, am_brL, am_st1, am_no2, am_st2, am_clr, and_self, true_and, and_true, true_or, or_true, List.length_cons, List.length_nil] <;> omega) ?_
  try simp (disch := omega) only [am_b0, am_addE, am_subE, am_mulE, am_laddE, am_lsubE, am_upO, am_upS, am_stS, am_stO, am_tnn, am_brl, am_brg, am_bre, am_brn, am_brG, am_brL, am_st1, am_no2, am_st2, am_clr]
  refine am_wp_br (fun b5 => ?_) (fun b5 => ?_)
  · rw [if_neg b5] at E0 E1
    refine am_wp_go rfl (by simp (disch := omega) only [am_b0, am_addE, am_subE, am_mulE, am_laddE, am_lsubE, am_upO, am_upS, am_stS, am_stO, am_tnn, am_brl, am_brg, am_bre, am_brn, am_brG, am_brL, am_st1, am_no2, am_st2, am_clr, and_self, true_and, and_true, true_or, or_true, List.length_cons, List.length_nil] <;> omega) ?_
    try simp (disch := omega) only [am_b0, am_addE, am_subE, am_mulE, am_laddE, am_lsubE, am_upO, am_upS, am_stS, am_stO, am_tnn, am_brl, am_brg, am_bre, am_brn, am_brG, am_brL, am_st1, am_no2, am_st2, am_clr]
    refine am_wp_cc rfl rfl rfl (congrArg Prod.fst (s124 hw)) (w_M_isWord' (k := 1) (y := 1) rfl rfl hw (by decide) hc ⟨_, rfl, ?_⟩)
    refine am_wp_go rfl (by simp (disch := omega) only [am_b0, am_addE, am_subE, am_mulE, am_laddE, am_lsubE, am_upO, am_upS, am_stS, am_stO, am_tnn, am_brl, am_brg, am_bre, am_brn, am_brG, am_brL, am_st1, am_no2, am_st2, am_clr, and_self, true_and, and_true, true_or, or_true, List.length_cons, List.length_nil] <;> omega) ?_
    try simp (disch := omega) only [am_b0, am_addE, am_subE, am_mulE, am_laddE, am_lsubE, am_upO, am_upS, am_stS, am_stO, am_tnn, am_brl, am_brg, am_bre, am_brn, am_brG, am_brL, am_st1, am_no2, am_st2, am_clr]
    refine am_wp_br (fun b24 => ?_) (fun b24 => ?_)
    · rw [if_neg b24] at E0 E1
      refine am_wp_go rfl (by simp (disch := omega) only [am_b0, am_addE, am_subE, am_mulE, am_laddE, am_lsubE, am_upO, am_upS, am_stS, am_stO, am_tnn, am_brl, am_brg, am_bre, am_brn, am_brG, am_brL, am_st1, am_no2, am_st2, am_clr, and_self, true_and, and_true, true_or, or_true, List.length_cons, List.length_nil] <;> omega) ?_
      try simp (disch := omega) only [am_b0, am_addE, am_subE, am_mulE, am_laddE, am_lsubE, am_upO, am_upS, am_stS, am_stO, am_tnn, am_brl, am_brg, am_bre, am_brn, am_brG, am_brL, am_st1, am_no2, am_st2, am_clr]
      refine am_wp_cc rfl rfl rfl (congrArg Prod.fst (s124 hw)) (w_M_isWord' (k := 2) (y := 2) rfl rfl hw (by decide) hc ⟨_, rfl, ?_⟩)
      refine am_wp_go rfl (by simp (disch := omega) only [am_b0, am_addE, am_subE, am_mulE, am_laddE, am_lsubE, am_upO, am_upS, am_stS, am_stO, am_tnn, am_brl, am_brg, am_bre, am_brn, am_brG, am_brL, am_st1, am_no2, am_st2, am_clr, and_self, true_and, and_true, true_or, or_true, List.length_cons, List.length_nil] <;> omega) ?_
      try simp (disch := omega) only [am_b0, am_addE, am_subE, am_mulE, am_laddE, am_lsubE, am_upO, am_upS, am_stS, am_stO, am_tnn, am_brl, am_brg, am_bre, am_brn, am_brG, am_brL, am_st1, am_no2, am_st2, am_clr]
      refine am_wp_br (fun b44 => ?_) (fun b44 => ?_)
      · rw [if_neg b44] at E0 E1
        refine am_wp_go rfl (by simp (disch := omega) only [am_b0, am_addE, am_subE, am_mulE, am_laddE, am_lsubE, am_upO, am_upS, am_stS, am_stO, am_tnn, am_brl, am_brg, am_bre, am_brn, am_brG, am_brL, am_st1, am_no2, am_st2, am_clr, and_self, true_and, and_true, true_or, or_true, List.length_cons, List.length_nil] <;> omega) ?_
        try simp (disch := omega) only [am_b0, am_addE, am_subE, am_mulE, am_laddE, am_lsubE, am_upO, am_upS, am_stS, am_stO, am_tnn, am_brl, am_brg, am_bre, am_brn, am_brG, am_brL, am_st1, am_no2, am_st2, am_clr]
        refine am_wp_cc rfl rfl rfl (congrArg Prod.fst (s124 hw)) (w_M_isWord' (k := 3) (y := 3) rfl rfl hw (by decide) hc ⟨_, rfl, ?_⟩)
        refine am_wp_go rfl (by simp (disch := omega) only [am_b0, am_addE, am_subE, am_mulE, am_laddE, am_lsubE, am_upO, am_upS, am_stS, am_stO, am_tnn, am_brl, am_brg, am_bre, am_brn, am_brG, am_brL, am_st1, am_no2, am_st2, am_clr, and_self, true_and, and_true, true_or, or_true, List.length_cons, List.length_nil] <;> omega) ?_
        try simp (disch := omega) only [am_b0, am_addE, am_subE, am_mulE, am_laddE, am_lsubE, am_upO, am_upS, am_stS, am_stO, am_tnn, am_brl, am_brg, am_bre, am_brn, am_brG, am_brL, am_st1, am_no2, am_st2, am_clr]
        refine am_wp_br (fun b64 => ?_) (fun b64 => ?_)
        · rw [if_neg b64] at E0 E1
          refine am_wp_go rfl (by simp (disch := omega) only [am_b0, am_addE, am_subE, am_mulE, am_laddE, am_lsubE, am_upO, am_upS, am_stS, am_stO, am_tnn, am_brl, am_brg, am_bre, am_brn, am_brG, am_brL, am_st1, am_no2, am_st2, am_clr, and_self, true_and, and_true, true_or, or_true, List.length_cons, List.length_nil] <;> omega) ?_
          try simp (disch := omega) only [am_b0, am_addE, am_subE, am_mulE, am_laddE, am_lsubE, am_upO, am_upS, am_stS, am_stO, am_tnn, am_brl, am_brg, am_bre, am_brn, am_brG, am_brL, am_st1, am_no2, am_st2, am_clr]
          refine am_wp_cc rfl rfl rfl (congrArg Prod.fst (s124 hw)) (w_M_isWord' (k := 4) (y := 4) rfl rfl hw (by decide) hc ⟨_, rfl, ?_⟩)
          refine am_wp_go rfl (by simp (disch := omega) only [am_b0, am_addE, am_subE, am_mulE, am_laddE, am_lsubE, am_upO, am_upS, am_stS, am_stO, am_tnn, am_brl, am_brg, am_bre, am_brn, am_brG, am_brL, am_st1, am_no2, am_st2, am_clr, and_self, true_and, and_true, true_or, or_true, List.length_cons, List.length_nil] <;> omega) ?_
          try simp (disch := omega) only [am_b0, am_addE, am_subE, am_mulE, am_laddE, am_lsubE, am_upO, am_upS, am_stS, am_stO, am_tnn, am_brl, am_brg, am_bre, am_brn, am_brG, am_brL, am_st1, am_no2, am_st2, am_clr]
          refine am_wp_br (fun b80 => ?_) (fun b80 => ?_)
          · rw [if_neg b80] at E0 E1
            refine am_wp_go rfl (by simp (disch := omega) only [am_b0, am_addE, am_subE, am_mulE, am_laddE, am_lsubE, am_upO, am_upS, am_stS, am_stO, am_tnn, am_brl, am_brg, am_bre, am_brn, am_brG, am_brL, am_st1, am_no2, am_st2, am_clr, and_self, true_and, and_true, true_or, or_true, List.length_cons, List.length_nil] <;> omega) ?_
            try simp (disch := omega) only [am_b0, am_addE, am_subE, am_mulE, am_laddE, am_lsubE, am_upO, am_upS, am_stS, am_stO, am_tnn, am_brl, am_brg, am_bre, am_brn, am_brG, am_brL, am_st1, am_no2, am_st2, am_clr]
            refine am_wp_cc rfl rfl rfl (congrArg Prod.fst (s124 hw)) (w_M_isWord' (k := 6) (y := 5) rfl rfl hw (by decide) hc ⟨_, rfl, ?_⟩)
            refine am_wp_go rfl (by simp (disch := omega) only [am_b0, am_addE, am_subE, am_mulE, am_laddE, am_lsubE, am_upO, am_upS, am_stS, am_stO, am_tnn, am_brl, am_brg, am_bre, am_brn, am_brG, am_brL, am_st1, am_no2, am_st2, am_clr, and_self, true_and, and_true, true_or, or_true, List.length_cons, List.length_nil] <;> omega) ?_
            try simp (disch := omega) only [am_b0, am_addE, am_subE, am_mulE, am_laddE, am_lsubE, am_upO, am_upS, am_stS, am_stO, am_tnn, am_brl, am_brg, am_bre, am_brn, am_brG, am_brL, am_st1, am_no2, am_st2, am_clr]
            refine am_wp_br (fun b97 => ?_) (fun b97 => ?_)
            · rw [if_neg b97] at E0 E1
              refine am_wp_go rfl (by simp (disch := omega) only [am_b0, am_addE, am_subE, am_mulE, am_laddE, am_lsubE, am_upO, am_upS, am_stS, am_stO, am_tnn, am_brl, am_brg, am_bre, am_brn, am_brG, am_brL, am_st1, am_no2, am_st2, am_clr, and_self, true_and, and_true, true_or, or_true, List.length_cons, List.length_nil] <;> omega) ?_
              try simp (disch := omega) only [am_b0, am_addE, am_subE, am_mulE, am_laddE, am_lsubE, am_upO, am_upS, am_stS, am_stO, am_tnn, am_brl, am_brg, am_bre, am_brn, am_brG, am_brL, am_st1, am_no2, am_st2, am_clr]
              refine am_wp_cc rfl rfl rfl (congrArg Prod.fst (s124 hw)) (w_M_isWord' (k := 7) (y := 6) rfl rfl hw (by decide) hc ⟨_, rfl, ?_⟩)
              refine am_wp_go rfl (by simp (disch := omega) only [am_b0, am_addE, am_subE, am_mulE, am_laddE, am_lsubE, am_upO, am_upS, am_stS, am_stO, am_tnn, am_brl, am_brg, am_bre, am_brn, am_brG, am_brL, am_st1, am_no2, am_st2, am_clr, and_self, true_and, and_true, true_or, or_true, List.length_cons, List.length_nil] <;> omega) ?_
              try simp (disch := omega) only [am_b0, am_addE, am_subE, am_mulE, am_laddE, am_lsubE, am_upO, am_upS, am_stS, am_stO, am_tnn, am_brl, am_brg, am_bre, am_brn, am_brG, am_brL, am_st1, am_no2, am_st2, am_clr]
              refine am_wp_br (fun b114 => ?_) (fun b114 => ?_)
              · rw [if_neg b114] at E0 E1
                refine am_wp_go rfl (by simp (disch := omega) only [am_b0, am_addE, am_subE, am_mulE, am_laddE, am_lsubE, am_upO, am_upS, am_stS, am_stO, am_tnn, am_brl, am_brg, am_bre, am_brn, am_brG, am_brL, am_st1, am_no2, am_st2, am_clr, and_self, true_and, and_true, true_or, or_true, List.length_cons, List.length_nil] <;> omega) ?_
                try simp (disch := omega) only [am_b0, am_addE, am_subE, am_mulE, am_laddE, am_lsubE, am_upO, am_upS, am_stS, am_stO, am_tnn, am_brl, am_brg, am_bre, am_brn, am_brG, am_brL, am_st1, am_no2, am_st2, am_clr]
                refine am_wp_cc rfl rfl rfl (congrArg Prod.fst (s124 hw)) (w_M_bad' (k := 1) rfl hw hc (Or.inl rfl) (fun J j0 j1 j2 => ⟨_, rfl, ?_⟩))
                refine am_wp_goc [130] rfl trivial ?_
                exact am_wp_ls (E0 _ rfl J (frM_Q j0) j1 j2) rfl
              · have bb := Classical.not_not.mp b114
                rw [if_pos bb] at E0 E1
                refine am_wp_go rfl (by simp (disch := omega) only [am_b0, am_addE, am_subE, am_mulE, am_laddE, am_lsubE, am_upO, am_upS, am_stS, am_stO, am_tnn, am_brl, am_brg, am_bre, am_brn, am_brG, am_brL, am_st1, am_no2, am_st2, am_clr, and_self, true_and, and_true, true_or, or_true, List.length_cons, List.length_nil] <;> omega) ?_
                try simp (disch := omega) only [am_b0, am_addE, am_subE, am_mulE, am_laddE, am_lsubE, am_upO, am_upS, am_stS, am_stO, am_tnn, am_brl, am_brg, am_bre, am_brn, am_brG, am_brL, am_st1, am_no2, am_st2, am_clr]
                refine am_wp_cc rfl rfl rfl (congrArg Prod.fst (s124 hw)) (w_M_readSort hw hc (by omega) hr (fun e he J j0 j1 j2 => ⟨_, rfl, ?_⟩) (fun S' he J j0 j1 j2 j3 => ⟨_, rfl, ?_⟩))
                · refine am_wp_goc [130] rfl trivial ?_
                  exact am_wp_ls (E0 e he J j0 j1 j2) rfl
                · refine am_wp_goc [130] rfl trivial ?_
                  exact am_wp_ls (E1 S' he J j0 j1 j2 j3) rfl
            · have bb := Classical.not_not.mp b97
              rw [if_pos bb] at E0 E1
              refine am_wp_go rfl (by simp (disch := omega) only [am_b0, am_addE, am_subE, am_mulE, am_laddE, am_lsubE, am_upO, am_upS, am_stS, am_stO, am_tnn, am_brl, am_brg, am_bre, am_brn, am_brG, am_brL, am_st1, am_no2, am_st2, am_clr, and_self, true_and, and_true, true_or, or_true, List.length_cons, List.length_nil] <;> omega) ?_
              try simp (disch := omega) only [am_b0, am_addE, am_subE, am_mulE, am_laddE, am_lsubE, am_upO, am_upS, am_stS, am_stO, am_tnn, am_brl, am_brg, am_bre, am_brn, am_brG, am_brL, am_st1, am_no2, am_st2, am_clr]
              refine am_wp_cc rfl rfl rfl (congrArg Prod.fst (s124 hw)) (w_M_readGuest hw hc (by omega) hr (fun e he J j0 j1 j2 => ⟨_, rfl, ?_⟩) (fun S' he J j0 j1 j2 j3 => ⟨_, rfl, ?_⟩))
              · refine am_wp_goc [130] rfl trivial ?_
                exact am_wp_ls (E0 e he J j0 j1 j2) rfl
              · refine am_wp_goc [130] rfl trivial ?_
                exact am_wp_ls (E1 S' he J j0 j1 j2 j3) rfl
          · have bb := Classical.not_not.mp b80
            rw [if_pos bb] at E0 E1
            refine am_wp_go rfl (by simp (disch := omega) only [am_b0, am_addE, am_subE, am_mulE, am_laddE, am_lsubE, am_upO, am_upS, am_stS, am_stO, am_tnn, am_brl, am_brg, am_bre, am_brn, am_brG, am_brL, am_st1, am_no2, am_st2, am_clr, and_self, true_and, and_true, true_or, or_true, List.length_cons, List.length_nil] <;> omega) ?_
            try simp (disch := omega) only [am_b0, am_addE, am_subE, am_mulE, am_laddE, am_lsubE, am_upO, am_upS, am_stS, am_stO, am_tnn, am_brl, am_brg, am_bre, am_brn, am_brG, am_brL, am_st1, am_no2, am_st2, am_clr]
            refine am_wp_cc rfl rfl rfl (congrArg Prod.fst (s124 hw)) (w_M_readSlice hw hc (by omega) hr (fun e he J j0 j1 j2 => ⟨_, rfl, ?_⟩) (fun S' he J j0 j1 j2 j3 => ⟨_, rfl, ?_⟩))
            · refine am_wp_goc [130] rfl trivial ?_
              exact am_wp_ls (E0 e he J j0 j1 j2) rfl
            · refine am_wp_goc [130] rfl trivial ?_
              exact am_wp_ls (E1 S' he J j0 j1 j2 j3) rfl
        · have bb := Classical.not_not.mp b64
          rw [if_pos bb] at E0 E1
          refine am_wp_go rfl (by simp (disch := omega) only [am_b0, am_addE, am_subE, am_mulE, am_laddE, am_lsubE, am_upO, am_upS, am_stS, am_stO, am_tnn, am_brl, am_brg, am_bre, am_brn, am_brG, am_brL, am_st1, am_no2, am_st2, am_clr, and_self, true_and, and_true, true_or, or_true, List.length_cons, List.length_nil] <;> omega) ?_
          try simp (disch := omega) only [am_b0, am_addE, am_subE, am_mulE, am_laddE, am_lsubE, am_upO, am_upS, am_stS, am_stO, am_tnn, am_brl, am_brg, am_bre, am_brn, am_brG, am_brL, am_st1, am_no2, am_st2, am_clr]
          refine am_wp_cc rfl rfl rfl (congrArg Prod.fst (s124 hw)) (w_M_readBurn hw hc (by omega) hr (fun e he J j0 j1 j2 => ⟨_, rfl, ?_⟩) (fun S' he J j0 j1 j2 j3 => ⟨_, rfl, ?_⟩))
          · refine am_wp_goc [130] rfl trivial ?_
            exact am_wp_ls (E0 e he J j0 j1 j2) rfl
          · refine am_wp_goc [130] rfl trivial ?_
            exact am_wp_ls (E1 S' he J j0 j1 j2 j3) rfl
      · have bb := Classical.not_not.mp b44
        rw [if_pos bb] at E0 E1
        refine am_wp_go rfl (by simp (disch := omega) only [am_b0, am_addE, am_subE, am_mulE, am_laddE, am_lsubE, am_upO, am_upS, am_stS, am_stO, am_tnn, am_brl, am_brg, am_bre, am_brn, am_brG, am_brL, am_st1, am_no2, am_st2, am_clr, and_self, true_and, and_true, true_or, or_true, List.length_cons, List.length_nil] <;> omega) ?_
        try simp (disch := omega) only [am_b0, am_addE, am_subE, am_mulE, am_laddE, am_lsubE, am_upO, am_upS, am_stS, am_stO, am_tnn, am_brl, am_brg, am_bre, am_brn, am_brG, am_brL, am_st1, am_no2, am_st2, am_clr]
        refine am_wp_cc rfl rfl rfl (congrArg Prod.fst (s124 hw)) (w_M_readPlain (w := 2) (a := 0) (c := 99) rfl rfl rfl (by decide) hw hc (by omega) hr (fun e he J j0 j1 j2 => ⟨_, rfl, ?_⟩) (fun S' he J j0 j1 j2 j3 => ⟨_, rfl, ?_⟩))
        · refine am_wp_goc [130] rfl trivial ?_
          exact am_wp_ls (E0 e he J j0 j1 j2) rfl
        · refine am_wp_goc [130] rfl trivial ?_
          exact am_wp_ls (E1 S' he J j0 j1 j2 j3) rfl
    · have bb := Classical.not_not.mp b24
      rw [if_pos bb] at E0 E1
      refine am_wp_go rfl (by simp (disch := omega) only [am_b0, am_addE, am_subE, am_mulE, am_laddE, am_lsubE, am_upO, am_upS, am_stS, am_stO, am_tnn, am_brl, am_brg, am_bre, am_brn, am_brG, am_brL, am_st1, am_no2, am_st2, am_clr, and_self, true_and, and_true, true_or, or_true, List.length_cons, List.length_nil] <;> omega) ?_
      try simp (disch := omega) only [am_b0, am_addE, am_subE, am_mulE, am_laddE, am_lsubE, am_upO, am_upS, am_stS, am_stO, am_tnn, am_brl, am_brg, am_bre, am_brn, am_brG, am_brL, am_st1, am_no2, am_st2, am_clr]
      refine am_wp_cc rfl rfl rfl (congrArg Prod.fst (s124 hw)) (w_M_readPlain (w := 1) (a := 0) (c := 9) rfl rfl rfl (by decide) hw hc (by omega) hr (fun e he J j0 j1 j2 => ⟨_, rfl, ?_⟩) (fun S' he J j0 j1 j2 j3 => ⟨_, rfl, ?_⟩))
      · refine am_wp_goc [130] rfl trivial ?_
        exact am_wp_ls (E0 e he J j0 j1 j2) rfl
      · refine am_wp_goc [130] rfl trivial ?_
        exact am_wp_ls (E1 S' he J j0 j1 j2 j3) rfl
  · have bb := Classical.not_not.mp b5
    rw [if_pos bb] at E0 E1
    refine am_wp_go rfl (by simp (disch := omega) only [am_b0, am_addE, am_subE, am_mulE, am_laddE, am_lsubE, am_upO, am_upS, am_stS, am_stO, am_tnn, am_brl, am_brg, am_bre, am_brn, am_brG, am_brL, am_st1, am_no2, am_st2, am_clr, and_self, true_and, and_true, true_or, or_true, List.length_cons, List.length_nil] <;> omega) ?_
    try simp (disch := omega) only [am_b0, am_addE, am_subE, am_mulE, am_laddE, am_lsubE, am_upO, am_upS, am_stS, am_stO, am_tnn, am_brl, am_brg, am_bre, am_brn, am_brG, am_brL, am_st1, am_no2, am_st2, am_clr]
    refine am_wp_cc rfl rfl rfl (congrArg Prod.fst (s124 hw)) (w_M_readPlain (w := 0) (a := 1) (c := 4) rfl rfl rfl (by decide) hw hc (by omega) hr (fun e he J j0 j1 j2 => ⟨_, rfl, ?_⟩) (fun S' he J j0 j1 j2 j3 => ⟨_, rfl, ?_⟩))
    · refine am_wp_goc [130] rfl trivial ?_
      exact am_wp_ls (E0 e he J j0 j1 j2) rfl
    · refine am_wp_goc [130] rfl trivial ?_
      exact am_wp_ls (E1 S' he J j0 j1 j2 j3) rfl
end RP
