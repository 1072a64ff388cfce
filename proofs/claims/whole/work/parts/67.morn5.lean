/-! MORNINGS: the reference's run -/
section MORN
variable {m sl : Nat} {sh : Nat → Nat × Nat} {I : Nat → Nat → Int} {R : Nat → Nat → Nat} {Q : am_R → am_M → Prop} {d : Nat} {W N : Nat → Int}
theorem w_M_drawn' {k : Nat} {l : Nat → Nat} {on : Nat} {x : Int} {W : Nat → Int} (hw : wd sh R) (eW : I 126 = W) (ex : I 124 56 = x) (hkk : wk W) (hl : lfR I l (nS W)) (ho2 : on < 256) (hk : 1 ≤ k) (hk2 : k ≤ 8) (h : Q (am_yi (kth (cdr l on) (nS W) ((am_ushr (nxt x) 8).toNat % k))) (m, sl, sh, am_up I 124 56 (nxt x), R)) : am_wp (d + 1) 305 0 [some (.inr (.inr (124))), some (.inl ((k : Int))), some (.inl ((on : Int))), none, none] [] (m, sl, sh, I, R) Q := by
  subst eW
  subst ex
  exact w_M_drawn hw hkk hl ho2 hk hk2 h
theorem w_M_draw2 {x : Int} (hw : wd sh R) (ex : I 124 56 = x) (h : Q (am_yi ((am_ushr (nxt x) 8).toNat % 2 : Nat)) (m, sl, sh, am_up I 124 56 (nxt x), R)) : am_wp (d) 304 0 [some (.inr (.inr (124))), some (.inl (2))] [] (m, sl, sh, I, R) Q := by
  subst ex
  exact w_M_draw (k := 2) hw (by decide) (by decide) h
set_option maxHeartbeats 4000000 in
theorem w_M_morningBy {x : Int} (hw : wd sh R) (eW : I 126 = W) (hk : wk W) (h : ∀ J, (∀ a, a ≠ 124 → a ≠ 145 → J a = I a) → (∀ j, j ≠ 56 → J 124 j = I 124 j) → Q (am_yi (mornV W x)) (m, sl, sh, J, R)) : am_wp (d + 2) 306 0 [some (.inr (.inr (124))), some (.inl (x)), none, none, none, none, none, none, none] [] (m, sl, sh, I, R) Q := by
  have n1 := wk_nS hk
  obtain ⟨w1, w2, -⟩ := hk.1
  have nall := nd_all hk
  have ntot := nd_tot hk
  refine am_wp_go rfl (by simp (disch := omega) only [s124 hw, am_addE, am_subE, am_mulE, am_laddE, am_lsubE, am_upO, am_upS, am_stS, am_stO, am_tnn, am_brl, am_brg, am_bre, am_brn, am_brG, am_brL, am_st1, am_no2, am_st2, am_clr, and_self, true_and, and_true, true_or, or_true, List.length_cons, List.length_nil] <;> omega) ?_
  try simp (disch := omega) only [s124 hw, am_addE, am_subE, am_mulE, am_laddE, am_lsubE, am_upO, am_upS, am_stS, am_stO, am_tnn, am_brl, am_brg, am_bre, am_brn, am_brG, am_brL, am_st1, am_no2, am_st2, am_clr]
  have v1 : ∀ a, a ≠ 124 → a ≠ 145 → am_up I 124 56 x a = I a := fun a h1 h2 => am_upO h1
  have v2 : ∀ j, j ≠ 56 → am_up I 124 56 x 124 j = I 124 j := fun j hj => by rw [am_upS, am_stO hj]
  have v3 : am_up I 124 56 x 124 56 = x := by rw [am_upS, am_stS rfl]
  generalize am_up I 124 56 x = J at v1 v2 v3 ⊢
  have eJ : J 126 = W := by rw [v1 126 (by decide) (by decide), eW]
  refine am_wp_cc rfl rfl rfl (congrArg Prod.fst (s124 hw)) (w_M_allMinutes hw (by rw [eJ]; exact hk) ⟨_, rfl, ?_⟩)
  rw [eJ, allW_eq, ← ntot]
  refine am_wp_go rfl (by simp (disch := omega) only [s124 hw, am_addE, am_subE, am_mulE, am_laddE, am_lsubE, am_upO, am_upS, am_stS, am_stO, am_tnn, am_brl, am_brg, am_bre, am_brn, am_brG, am_brL, am_st1, am_no2, am_st2, am_clr, and_self, true_and, and_true, true_or, or_true, List.length_cons, List.length_nil] <;> omega) ?_
  -- the minutes of the sides
  have L0 : ∀ i, i ≤ 2 * nS W → ∀ (K : Nat → Nat → Int), (∀ a, a ≠ 124 → a ≠ 145 → K a = I a) → (∀ j, j ≠ 56 → K 124 j = I 124 j) → K 124 56 = x → (∀ k, k < i → K 145 k = (ndW W k : Int)) → am_wp (d + 2) 306 12 [some (.inr (.inr (124))), some (.inl (x)), some (.inl ((preS (ndW W) (2 * nS W) : Int))), some (.inl ((i : Int))), none, none, none, none, none] [] (m, sl, sh, K, R) Q := by
    refine am_lp (2 * nS W) (fun i hi ih K k1 k2 k3 k4 => ?_)
    have eK : K 126 = W := by rw [k1 126 (by decide) (by decide), eW]
    refine am_wp_go rfl (by simp (disch := omega) only [s124 hw, am_addE, am_subE, am_mulE, am_laddE, am_lsubE, am_upO, am_upS, am_stS, am_stO, am_tnn, am_brl, am_brg, am_bre, am_brn, am_brG, am_brL, am_st1, am_no2, am_st2, am_clr, and_self, true_and, and_true, true_or, or_true, List.length_cons, List.length_nil] <;> omega) ?_
    try simp (disch := omega) only [s124 hw, am_addE, am_subE, am_mulE, am_laddE, am_lsubE, am_upO, am_upS, am_stS, am_stO, am_tnn, am_brl, am_brg, am_bre, am_brn, am_brG, am_brL, am_st1, am_no2, am_st2, am_clr]
    refine am_wp_cc rfl rfl rfl (congrArg Prod.fst (s124 hw)) (w_M_slicesN hw (by rw [eK]; exact wk_w hk) ⟨_, rfl, ?_⟩)
    rw [eK]
    refine am_wp_go rfl (by simp (disch := omega) only [s124 hw, am_addE, am_subE, am_mulE, am_laddE, am_lsubE, am_upO, am_upS, am_stS, am_stO, am_tnn, am_brl, am_brg, am_bre, am_brn, am_brG, am_brL, am_st1, am_no2, am_st2, am_clr, and_self, true_and, and_true, true_or, or_true, List.length_cons, List.length_nil] <;> omega) ?_
    try simp (disch := omega) only [s124 hw, am_addE, am_subE, am_mulE, am_laddE, am_lsubE, am_upO, am_upS, am_stS, am_stO, am_tnn, am_brl, am_brg, am_bre, am_brn, am_brG, am_brL, am_st1, am_no2, am_st2, am_clr]
    refine am_wp_br (fun b19 => ?_) (fun b19 => ?_)
    · clear ih
      have L : ∀ t, t ≤ 1000 → ∀ (z4 z5 z6 z7 z8 : Option am_V) (K : Nat → Nat → Int) (A : Int × (Nat → Nat)), (∀ a, a ≠ 124 → a ≠ 145 → K a = I a) → (∀ j, j ≠ 56 → K 124 j = I 124 j) → K 124 56 = A.1 → lfR K A.2 (nS W) → t + preS A.2 (2 * nS W) ≤ 320 → mnR (nS W) (W 0).toNat (1000 - t) t A = mornV W x → am_wp (d + 2) 306 46 [some (.inr (.inr (124))), some (.inl (x)), some (.inl ((preS A.2 (2 * nS W) : Int))), some (.inl ((t : Int))), z4, z5, z6, z7, z8] [] (m, sl, sh, K, R) Q := by
        refine am_lp 1000 (fun t ht ih z4 z5 z6 z7 z8 K A k1 k2 k3 k4 k5 k6 => ?_)
        refine am_wp_go rfl (by simp (disch := omega) only [s124 hw, am_addE, am_subE, am_mulE, am_laddE, am_lsubE, am_upO, am_upS, am_stS, am_stO, am_tnn, am_brl, am_brg, am_bre, am_brn, am_brG, am_brL, am_st1, am_no2, am_st2, am_clr, and_self, true_and, and_true, true_or, or_true, List.length_cons, List.length_nil] <;> omega) ?_
        try simp (disch := omega) only [s124 hw, am_addE, am_subE, am_mulE, am_laddE, am_lsubE, am_upO, am_upS, am_stS, am_stO, am_tnn, am_brl, am_brg, am_bre, am_brn, am_brG, am_brL, am_st1, am_no2, am_st2, am_clr]
        refine am_wp_br (fun b47 => ?_) (fun b47 => ?_)
        · rw [show 1000 - t = (999 - t) + 1 by omega] at k6
          unfold mnR at k6
          rw [if_pos (by omega)] at k6
          refine am_wp_go rfl (by simp (disch := omega) only [s124 hw, am_addE, am_subE, am_mulE, am_laddE, am_lsubE, am_upO, am_upS, am_stS, am_stO, am_tnn, am_brl, am_brg, am_bre, am_brn, am_brG, am_brL, am_st1, am_no2, am_st2, am_clr, and_self, true_and, and_true, true_or, or_true, List.length_cons, List.length_nil] <;> omega) ?_
          try simp (disch := omega) only [s124 hw, am_addE, am_subE, am_mulE, am_laddE, am_lsubE, am_upO, am_upS, am_stS, am_stO, am_tnn, am_brl, am_brg, am_bre, am_brn, am_brG, am_brL, am_st1, am_no2, am_st2, am_clr]
          refine am_wp_ret rfl rfl ?_
          rw [k6]
          exact h K k1 k2
        · rw [show 1000 - t = (1000 - (t + 1)) + 1 by omega] at k6
          unfold mnR at k6
          rw [if_neg (by omega)] at k6
          have k7 := mn_min (x := A.1) (p := (W 0).toNat) (show 0 < preS A.2 (2 * nS W) by omega) (by omega)
          have ih := ih (by omega)
          clear h
          refine am_wp_go rfl (by simp (disch := omega) only [s124 hw, am_addE, am_subE, am_mulE, am_laddE, am_lsubE, am_upO, am_upS, am_stS, am_stO, am_tnn, am_brl, am_brg, am_bre, am_brn, am_brG, am_brL, am_st1, am_no2, am_st2, am_clr, and_self, true_and, and_true, true_or, or_true, List.length_cons, List.length_nil] <;> omega) ?_
          try simp (disch := omega) only [s124 hw, am_addE, am_subE, am_mulE, am_laddE, am_lsubE, am_upO, am_upS, am_stS, am_stO, am_tnn, am_brl, am_brg, am_bre, am_brn, am_brG, am_brL, am_st1, am_no2, am_st2, am_clr]
          have M : ∀ p, p ≤ (W 0).toNat → ∀ (z6 z7 z8 : Option am_V) (V : Nat → Nat → Int) (T : Int × (Nat → Nat) × Nat), (∀ a, a ≠ 124 → a ≠ 145 → V a = I a) → (∀ j, j ≠ 56 → V 124 j = I 124 j) → V 124 56 = T.1 → lfR V T.2.1 (nS W) → T.2.2 < 256 → preS T.2.1 (2 * nS W) ≤ 320 → mnP (nS W) ((W 0).toNat - p) T = mnP (nS W) (W 0).toNat (A.1, A.2, 0) → am_wp (d + 2) 306 56 [some (.inr (.inr (124))), some (.inl (x)), some (.inl ((preS T.2.1 (2 * nS W) : Int))), some (.inl ((t : Int))), some (.inl ((T.2.2 : Int))), some (.inl ((p : Int))), z6, z7, z8] [] (m, sl, sh, V, R) Q := by
            refine am_lp (W 0).toNat (fun p hp ih2 z6 z7 z8 V T v1 v2 v3 v4 v5 v6 v7 => ?_)
            have eV : V 126 = W := by rw [v1 126 (by decide) (by decide), eW]
            have e0 : V 126 0 = W 0 := by rw [eV]
            have ctl := ax_ct_le (cdr T.2.1 T.2.2) (nS W)
            refine am_wp_go rfl (by simp (disch := omega) only [s124 hw, r124_14 hw, s126 hw, e0, Int.reduceToNat, am_addE, am_subE, am_mulE, am_laddE, am_lsubE, am_upO, am_upS, am_stS, am_stO, am_tnn, am_brl, am_brg, am_bre, am_brn, am_brG, am_brL, am_st1, am_no2, am_st2, am_clr, and_self, true_and, and_true, true_or, or_true, List.length_cons, List.length_nil] <;> omega) ?_
            try simp (disch := omega) only [s124 hw, r124_14 hw, s126 hw, e0, Int.reduceToNat, am_addE, am_subE, am_mulE, am_laddE, am_lsubE, am_upO, am_upS, am_stS, am_stO, am_tnn, am_brl, am_brg, am_bre, am_brn, am_brG, am_brL, am_st1, am_no2, am_st2, am_clr]
            refine am_wp_br (fun b64 => ?_) (fun b64 => ?_)
            · rw [show (W 0).toNat - p = 0 by omega] at v7
              have v7 : T = mnP (nS W) (W 0).toNat (A.1, A.2, 0) := v7
              rw [← v7] at k6 k7
              refine am_wp_go rfl (by simp (disch := omega) only [s124 hw, r124_14 hw, s126 hw, e0, Int.reduceToNat, am_addE, am_subE, am_mulE, am_laddE, am_lsubE, am_upO, am_upS, am_stS, am_stO, am_tnn, am_brl, am_brg, am_bre, am_brn, am_brG, am_brL, am_st1, am_no2, am_st2, am_clr, and_self, true_and, and_true, true_or, or_true, List.length_cons, List.length_nil] <;> omega) ?_
              try simp (disch := omega) only [s124 hw, r124_14 hw, s126 hw, e0, Int.reduceToNat, am_addE, am_subE, am_mulE, am_laddE, am_lsubE, am_upO, am_upS, am_stS, am_stO, am_tnn, am_brl, am_brg, am_bre, am_brn, am_brG, am_brL, am_st1, am_no2, am_st2, am_clr]
              exact am_wp_ls (ih _ _ _ _ _ V (T.1, T.2.1) v1 v2 v3 v4 (by dsimp only at k7 ⊢; omega) k6) rfl
            · have ih2 := ih2 (by omega)
              refine am_wp_go rfl (by simp (disch := omega) only [s124 hw, r124_14 hw, s126 hw, e0, Int.reduceToNat, am_addE, am_subE, am_mulE, am_laddE, am_lsubE, am_upO, am_upS, am_stS, am_stO, am_tnn, am_brl, am_brg, am_bre, am_brn, am_brG, am_brL, am_st1, am_no2, am_st2, am_clr, and_self, true_and, and_true, true_or, or_true, List.length_cons, List.length_nil] <;> omega) ?_
              try simp (disch := omega) only [s124 hw, r124_14 hw, s126 hw, e0, Int.reduceToNat, am_addE, am_subE, am_mulE, am_laddE, am_lsubE, am_upO, am_upS, am_stS, am_stO, am_tnn, am_brl, am_brg, am_bre, am_brn, am_brG, am_brL, am_st1, am_no2, am_st2, am_clr]
              refine am_wp_ls (am_lp0 (P := fun s => am_wp (d + 2) 306 73 [some (.inr (.inr (124))), some (.inl (x)), some (.inl ((preS T.2.1 (2 * nS W) : Int))), some (.inl ((t : Int))), some (.inl ((T.2.2 : Int))), some (.inl ((p : Int))), some (.inl ((ax_ct (cdr T.2.1 T.2.2) s : Int))), some (.inl ((s : Int))), z8] [] (m, sl, sh, V, R) Q) (nS W) (fun s hs ih3 => ?_)) rfl
              have cts := ax_ct_le (cdr T.2.1 T.2.2) s
              refine am_wp_go rfl (by simp (disch := omega) only [s124 hw, r124_14 hw, s126 hw, e0, am_b0, am_bn0, Int.reduceToNat, am_addE, am_subE, am_mulE, am_laddE, am_lsubE, am_upO, am_upS, am_stS, am_stO, am_tnn, am_brl, am_brg, am_bre, am_brn, am_brG, am_brL, am_st1, am_no2, am_st2, am_clr, and_self, true_and, and_true, true_or, or_true, List.length_cons, List.length_nil] <;> omega) ?_
              try simp (disch := omega) only [s124 hw, r124_14 hw, s126 hw, e0, am_b0, am_bn0, Int.reduceToNat, am_addE, am_subE, am_mulE, am_laddE, am_lsubE, am_upO, am_upS, am_stS, am_stO, am_tnn, am_brl, am_brg, am_bre, am_brn, am_brG, am_brL, am_st1, am_no2, am_st2, am_clr]
              refine am_wp_cc rfl rfl rfl (congrArg Prod.fst (s124 hw)) (w_M_slicesN hw (by rw [eV]; exact wk_w hk) ⟨_, rfl, ?_⟩)
              rw [eV]
              refine am_wp_go rfl (by simp (disch := omega) only [s124 hw, r124_14 hw, s126 hw, e0, am_b0, am_bn0, Int.reduceToNat, am_addE, am_subE, am_mulE, am_laddE, am_lsubE, am_upO, am_upS, am_stS, am_stO, am_tnn, am_brl, am_brg, am_bre, am_brn, am_brG, am_brL, am_st1, am_no2, am_st2, am_clr, and_self, true_and, and_true, true_or, or_true, List.length_cons, List.length_nil] <;> omega) ?_
              try simp (disch := omega) only [s124 hw, r124_14 hw, s126 hw, e0, am_b0, am_bn0, Int.reduceToNat, am_addE, am_subE, am_mulE, am_laddE, am_lsubE, am_upO, am_upS, am_stS, am_stO, am_tnn, am_brl, am_brg, am_bre, am_brn, am_brG, am_brL, am_st1, am_no2, am_st2, am_clr]
              refine am_wp_br (fun b79 => ?_) (fun b79 => ?_)
              · have es : s = nS W := by omega
                subst es
                clear ih3
                refine am_wp_go rfl (by simp (disch := omega) only [s124 hw, r124_14 hw, s126 hw, e0, am_b0, am_bn0, Int.reduceToNat, am_addE, am_subE, am_mulE, am_laddE, am_lsubE, am_upO, am_upS, am_stS, am_stO, am_tnn, am_brl, am_brg, am_bre, am_brn, am_brG, am_brL, am_st1, am_no2, am_st2, am_clr, and_self, true_and, and_true, true_or, or_true, List.length_cons, List.length_nil] <;> omega) ?_
                try simp (disch := omega) only [s124 hw, r124_14 hw, s126 hw, e0, am_b0, am_bn0, Int.reduceToNat, am_addE, am_subE, am_mulE, am_laddE, am_lsubE, am_upO, am_upS, am_stS, am_stO, am_tnn, am_brl, am_brg, am_bre, am_brn, am_brG, am_brL, am_st1, am_no2, am_st2, am_clr]
                refine am_wp_br (fun b112 => ?_) (fun b112 => ?_)
                · have hpos : 0 < ax_ct (cdr T.2.1 T.2.2) (nS W) := by omega
                  rw [show (W 0).toNat - p = ((W 0).toNat - (p + 1)) + 1 by omega, mnP_s hpos] at v7
                  obtain ⟨d1, d2, d3⟩ := mn_draw (x := T.1) hpos
                  have d4 : 0 < T.2.1 (2 * mnS (nS W) T.1 T.2.1 T.2.2) + T.2.1 (2 * mnS (nS W) T.1 T.2.1 T.2.2 + 1) := by
                    unfold cdr at d3
                    rw [Bool.and_eq_true, decide_eq_true_iff] at d3
                    exact d3.2
                  have d5 := mn_side (x := T.1) d4
                  have d6 := mnT_pre hpos
                  refine am_wp_go rfl (by simp (disch := omega) only [s124 hw, r124_14 hw, s126 hw, e0, am_b0, am_bn0, Int.reduceToNat, am_addE, am_subE, am_mulE, am_laddE, am_lsubE, am_upO, am_upS, am_stS, am_stO, am_tnn, am_brl, am_brg, am_bre, am_brn, am_brG, am_brL, am_st1, am_no2, am_st2, am_clr, and_self, true_and, and_true, true_or, or_true, List.length_cons, List.length_nil] <;> omega) ?_
                  try simp (disch := omega) only [s124 hw, r124_14 hw, s126 hw, e0, am_b0, am_bn0, Int.reduceToNat, am_addE, am_subE, am_mulE, am_laddE, am_lsubE, am_upO, am_upS, am_stS, am_stO, am_tnn, am_brl, am_brg, am_bre, am_brn, am_brG, am_brL, am_st1, am_no2, am_st2, am_clr]
                  refine am_wp_cc rfl rfl rfl (congrArg Prod.fst (s124 hw)) (w_M_drawn' (l := T.2.1) (on := T.2.2) (x := T.1) hw eV v3 hk v4 v5 (by omega) (by omega) ⟨_, rfl, ?_⟩)
                  rw [d1]
                  have e3 : mnT (nS W) T = (mnX T.1 T.2.1 (mnS (nS W) T.1 T.2.1 T.2.2), am_set T.2.1 (mnU T.1 T.2.1 (mnS (nS W) T.1 T.2.1 T.2.2)) (T.2.1 (mnU T.1 T.2.1 (mnS (nS W) T.1 T.2.1 T.2.2)) - 1), T.2.2 ||| 2 ^ mnS (nS W) T.1 T.2.1 T.2.2) := rfl
                  have eU : mnU T.1 T.2.1 (mnS (nS W) T.1 T.2.1 T.2.2) = if 0 < T.2.1 (2 * (mnS (nS W) T.1 T.2.1 T.2.2)) ∧ 0 < T.2.1 (2 * (mnS (nS W) T.1 T.2.1 T.2.2) + 1) then 2 * (mnS (nS W) T.1 T.2.1 T.2.2) + (am_ushr (nxt (nxt T.1)) 8).toNat % 2 else if 0 < T.2.1 (2 * (mnS (nS W) T.1 T.2.1 T.2.2)) then 2 * (mnS (nS W) T.1 T.2.1 T.2.2) else 2 * (mnS (nS W) T.1 T.2.1 T.2.2) + 1 := rfl
                  have eX : mnX T.1 T.2.1 (mnS (nS W) T.1 T.2.1 T.2.2) = if 0 < T.2.1 (2 * (mnS (nS W) T.1 T.2.1 T.2.2)) ∧ 0 < T.2.1 (2 * (mnS (nS W) T.1 T.2.1 T.2.2) + 1) then nxt (nxt T.1) else nxt T.1 := rfl
                  generalize mnX T.1 T.2.1 (mnS (nS W) T.1 T.2.1 T.2.2) = x2 at e3 eX
                  generalize mnU T.1 T.2.1 (mnS (nS W) T.1 T.2.1 T.2.2) = u at d5 e3 eU
                  generalize mnS (nS W) T.1 T.2.1 T.2.2 = s at *
                  generalize mnT (nS W) T = T2 at *
                  subst e3
                  have p8 := ax_p8 (s := s) (by omega)
                  have FIN : ∀ (X : Nat → Nat → Int) (k : Nat) (z8 : Option am_V), (∀ a, a ≠ 124 → X a = V a) → (∀ j, j ≠ 56 → X 124 j = V 124 j) → X 124 56 = x2 → 2 * s + k = u → am_wp (d + 2) 306 179 [some (.inr (.inr (124))), some (.inl (x)), some (.inl ((preS T.2.1 (2 * nS W) : Int))), some (.inl ((t : Int))), some (.inl ((T.2.2 : Int))), some (.inl ((p : Int))), some (.inl ((ax_ct (cdr T.2.1 T.2.2) (nS W) : Int))), some (.inl ((s : Int))), z8] [.inl ((k : Int))] (m, sl, sh, X, R) Q := by
                    intro X k z8 y1 y2 y3 hku
                    have l3 := v4 u (by omega)
                    have l4 : X 145 (2 * s + k) = (T.2.1 u : Int) := by rw [y1 145 (by decide), hku]; exact l3.1
                    refine am_wp_go rfl (by simp (disch := omega) only [s124 hw, r124_39 hw, s145 hw, l4, am_shl1, am_orN, am_tnA, am_tnM, Int.reduceToNat, am_addE, am_subE, am_mulE, am_laddE, am_lsubE, am_upO, am_upS, am_stS, am_stO, am_tnn, am_brl, am_brg, am_bre, am_brn, am_brG, am_brL, am_st1, am_no2, am_st2, am_clr, and_self, true_and, and_true, true_or, or_true, List.length_cons, List.length_nil] <;> omega) ?_
                    try simp (disch := omega) only [s124 hw, r124_39 hw, s145 hw, l4, am_shl1, am_orN, am_tnA, am_tnM, Int.reduceToNat, am_addE, am_subE, am_mulE, am_laddE, am_lsubE, am_upO, am_upS, am_stS, am_stO, am_tnn, am_brl, am_brg, am_bre, am_brn, am_brG, am_brL, am_st1, am_no2, am_st2, am_clr]
                    refine am_wp_ls (ih2 (some (.inl (ax_ct (cdr T.2.1 T.2.2) (nS W) : Int))) (some (.inl (s : Int))) (some (.inl (k : Int))) _ (x2, am_set T.2.1 u (T.2.1 u - 1), T.2.2 ||| 2 ^ s) (fun a h1 h2 => ?_) (fun j hj => ?_) ?_ (fun i hi => ?_) (ax_or8 v5 p8) ?_ v7) ?_
                    · rw [am_upO h2, y1 a h1, v1 a h1 h2]
                    · rw [am_upO (by decide), y2 j hj, v2 j hj]
                    · rw [am_upO (by decide), y3]
                    · rw [am_upS, y1 145 (by decide), hku]
                      dsimp only
                      have := v4 i hi
                      by_cases hik : i = u
                      · rw [am_stS hik, am_stS hik]; omega
                      · rw [am_stO hik, am_stO hik]; exact this
                    · dsimp only at d6 ⊢
                      omega
                    · dsimp only at d6 ⊢
                      simp only [List.cons.injEq, Option.some.injEq, Sum.inl.injEq, and_true, true_and]
                      omega
                  clear ih2 ih
                  have x1 : ∀ a, a ≠ 124 → am_up V 124 56 (nxt T.1) a = V a := fun a ha => am_upO ha
                  have x3 : ∀ j, j ≠ 56 → am_up V 124 56 (nxt T.1) 124 j = V 124 j := fun j hj => by rw [am_upS, am_stO hj]
                  have x4 : am_up V 124 56 (nxt T.1) 124 56 = nxt T.1 := by rw [am_upS, am_stS rfl]
                  generalize am_up V 124 56 (nxt T.1) = X at x1 x3 x4 ⊢
                  have l1 := v4 (2 * s) (by omega)
                  have l2 := v4 (2 * s + 1) (by omega)
                  rw [← x1 145 (by decide)] at l1 l2
                  refine am_wp_go rfl (by simp (disch := omega) only [s124 hw, r124_39 hw, s145 hw, l1.1, l2.1, am_tnA, am_tnM, Int.reduceToNat, am_addE, am_subE, am_mulE, am_laddE, am_lsubE, am_upO, am_upS, am_stS, am_stO, am_tnn, am_brl, am_brg, am_bre, am_brn, am_brG, am_brL, am_st1, am_no2, am_st2, am_clr, and_self, true_and, and_true, true_or, or_true, List.length_cons, List.length_nil] <;> omega) ?_
                  try simp (disch := omega) only [s124 hw, r124_39 hw, s145 hw, l1.1, l2.1, am_tnA, am_tnM, Int.reduceToNat, am_addE, am_subE, am_mulE, am_laddE, am_lsubE, am_upO, am_upS, am_stS, am_stO, am_tnn, am_brl, am_brg, am_bre, am_brn, am_brG, am_brL, am_st1, am_no2, am_st2, am_clr]
                  refine am_wp_br (fun b137 => ?_) (fun b137 => ?_)
                  · refine am_wp_go rfl (by simp (disch := omega) only [s124 hw, r124_39 hw, s145 hw, l1.1, l2.1, am_tnA, am_tnM, Int.reduceToNat, am_addE, am_subE, am_mulE, am_laddE, am_lsubE, am_upO, am_upS, am_stS, am_stO, am_tnn, am_brl, am_brg, am_bre, am_brn, am_brG, am_brL, am_st1, am_no2, am_st2, am_clr, and_self, true_and, and_true, true_or, or_true, List.length_cons, List.length_nil] <;> omega) ?_
                    try simp (disch := omega) only [s124 hw, r124_39 hw, s145 hw, l1.1, l2.1, am_tnA, am_tnM, Int.reduceToNat, am_addE, am_subE, am_mulE, am_laddE, am_lsubE, am_upO, am_upS, am_stS, am_stO, am_tnn, am_brl, am_brg, am_bre, am_brn, am_brG, am_brL, am_st1, am_no2, am_st2, am_clr]
                    refine am_wp_br (fun b171 => ?_) (fun b171 => ?_)
                    · rw [if_neg (by omega), if_neg (by omega)] at eU
                      rw [if_neg (by omega)] at eX
                      refine am_wp_goc [179] rfl trivial ?_
                      exact am_wp_ls (FIN X 1 _ x1 x3 (by rw [x4, eX]) eU.symm) rfl
                    · omega
                  · refine am_wp_go rfl (by simp (disch := omega) only [s124 hw, r124_39 hw, s145 hw, l1.1, l2.1, am_tnA, am_tnM, Int.reduceToNat, am_addE, am_subE, am_mulE, am_laddE, am_lsubE, am_upO, am_upS, am_stS, am_stO, am_tnn, am_brl, am_brg, am_bre, am_brn, am_brG, am_brL, am_st1, am_no2, am_st2, am_clr, and_self, true_and, and_true, true_or, or_true, List.length_cons, List.length_nil] <;> omega) ?_
                    try simp (disch := omega) only [s124 hw, r124_39 hw, s145 hw, l1.1, l2.1, am_tnA, am_tnM, Int.reduceToNat, am_addE, am_subE, am_mulE, am_laddE, am_lsubE, am_upO, am_upS, am_stS, am_stO, am_tnn, am_brl, am_brg, am_bre, am_brn, am_brG, am_brL, am_st1, am_no2, am_st2, am_clr]
                    refine am_wp_br (fun b151 => ?_) (fun b151 => ?_)
                    · refine am_wp_go rfl (by simp (disch := omega) only [s124 hw, r124_39 hw, s145 hw, l1.1, l2.1, am_tnA, am_tnM, Int.reduceToNat, am_addE, am_subE, am_mulE, am_laddE, am_lsubE, am_upO, am_upS, am_stS, am_stO, am_tnn, am_brl, am_brg, am_bre, am_brn, am_brG, am_brL, am_st1, am_no2, am_st2, am_clr, and_self, true_and, and_true, true_or, or_true, List.length_cons, List.length_nil] <;> omega) ?_
                      try simp (disch := omega) only [s124 hw, r124_39 hw, s145 hw, l1.1, l2.1, am_tnA, am_tnM, Int.reduceToNat, am_addE, am_subE, am_mulE, am_laddE, am_lsubE, am_upO, am_upS, am_stS, am_stO, am_tnn, am_brl, am_brg, am_bre, am_brn, am_brG, am_brL, am_st1, am_no2, am_st2, am_clr]
                      refine am_wp_br (fun b171 => ?_) (fun b171 => ?_)
                      · omega
                      · rw [if_neg (by omega), if_pos (by omega)] at eU
                        rw [if_neg (by omega)] at eX
                        refine am_wp_goc [179] rfl trivial ?_
                        exact am_wp_ls (FIN X 0 _ x1 x3 (by rw [x4, eX]) eU.symm) rfl
                    · rw [if_pos (by omega)] at eU eX
                      refine am_wp_go rfl (by simp (disch := omega) only [s124 hw, r124_39 hw, s145 hw, l1.1, l2.1, am_tnA, am_tnM, Int.reduceToNat, am_addE, am_subE, am_mulE, am_laddE, am_lsubE, am_upO, am_upS, am_stS, am_stO, am_tnn, am_brl, am_brg, am_bre, am_brn, am_brG, am_brL, am_st1, am_no2, am_st2, am_clr, and_self, true_and, and_true, true_or, or_true, List.length_cons, List.length_nil] <;> omega) ?_
                      try simp (disch := omega) only [s124 hw, r124_39 hw, s145 hw, l1.1, l2.1, am_tnA, am_tnM, Int.reduceToNat, am_addE, am_subE, am_mulE, am_laddE, am_lsubE, am_upO, am_upS, am_stS, am_stO, am_tnn, am_brl, am_brg, am_bre, am_brn, am_brG, am_brL, am_st1, am_no2, am_st2, am_clr]
                      refine am_wp_cc rfl rfl rfl (congrArg Prod.fst (s124 hw)) (w_M_draw2 (x := nxt T.1) hw x4 ⟨_, rfl, ?_⟩)
                      refine am_wp_goc [179] rfl trivial ?_
                      refine am_wp_ls (FIN _ ((am_ushr (nxt (nxt T.1)) 8).toNat % 2) _ (fun a ha => by rw [am_upO ha, x1 a ha]) (fun j hj => by rw [am_upS, am_stO hj, x3 j hj]) (by rw [am_upS, am_stS rfl, eX]) eU.symm) rfl
                · rw [mnP_0 (by omega)] at v7
                  refine am_wp_go rfl (by simp (disch := omega) only [s124 hw, r124_14 hw, s126 hw, e0, am_b0, am_bn0, Int.reduceToNat, am_addE, am_subE, am_mulE, am_laddE, am_lsubE, am_upO, am_upS, am_stS, am_stO, am_tnn, am_brl, am_brg, am_bre, am_brn, am_brG, am_brL, am_st1, am_no2, am_st2, am_clr, and_self, true_and, and_true, true_or, or_true, List.length_cons, List.length_nil] <;> omega) ?_
                  try simp (disch := omega) only [s124 hw, r124_14 hw, s126 hw, e0, am_b0, am_bn0, Int.reduceToNat, am_addE, am_subE, am_mulE, am_laddE, am_lsubE, am_upO, am_upS, am_stS, am_stO, am_tnn, am_brl, am_brg, am_bre, am_brn, am_brG, am_brL, am_st1, am_no2, am_st2, am_clr]
                  refine am_wp_ls (ih2 _ _ _ V T v1 v2 v3 v4 v5 v6 ?_) rfl
                  rw [mnP_0 (by omega)]
                  exact v7
              · have ih3 := ih3 (by omega)
                refine am_wp_go rfl (by simp (disch := omega) only [s124 hw, r124_14 hw, s126 hw, e0, am_b0, am_bn0, Int.reduceToNat, am_addE, am_subE, am_mulE, am_laddE, am_lsubE, am_upO, am_upS, am_stS, am_stO, am_tnn, am_brl, am_brg, am_bre, am_brn, am_brG, am_brL, am_st1, am_no2, am_st2, am_clr, and_self, true_and, and_true, true_or, or_true, List.length_cons, List.length_nil] <;> omega) ?_
                try simp (disch := omega) only [s124 hw, r124_14 hw, s126 hw, e0, am_b0, am_bn0, Int.reduceToNat, am_addE, am_subE, am_mulE, am_laddE, am_lsubE, am_upO, am_upS, am_stS, am_stO, am_tnn, am_brl, am_brg, am_bre, am_brn, am_brG, am_brL, am_st1, am_no2, am_st2, am_clr]
                refine am_wp_cc rfl rfl rfl (trivial) (w_M_has (s := T.2.2) (k := s) (by omega) (by omega) ⟨_, rfl, ?_⟩)
                refine am_wp_go rfl (by simp (disch := omega) only [s124 hw, r124_14 hw, s126 hw, e0, am_b0, am_bn0, Int.reduceToNat, am_addE, am_subE, am_mulE, am_laddE, am_lsubE, am_upO, am_upS, am_stS, am_stO, am_tnn, am_brl, am_brg, am_bre, am_brn, am_brG, am_brL, am_st1, am_no2, am_st2, am_clr, and_self, true_and, and_true, true_or, or_true, List.length_cons, List.length_nil] <;> omega) ?_
                try simp (disch := omega) only [s124 hw, r124_14 hw, s126 hw, e0, am_b0, am_bn0, Int.reduceToNat, am_addE, am_subE, am_mulE, am_laddE, am_lsubE, am_upO, am_upS, am_stS, am_stO, am_tnn, am_brl, am_brg, am_bre, am_brn, am_brG, am_brL, am_st1, am_no2, am_st2, am_clr]
                refine am_wp_br (fun b89 => ?_) (fun b89 => ?_)
                · have h21 : cdr T.2.1 T.2.2 s = false := by unfold cdr; rw [b89]; rfl
                  refine am_wp_go rfl (by simp (disch := omega) only [s124 hw, r124_14 hw, s126 hw, e0, am_b0, am_bn0, Int.reduceToNat, am_addE, am_subE, am_mulE, am_laddE, am_lsubE, am_upO, am_upS, am_stS, am_stO, am_tnn, am_brl, am_brg, am_bre, am_brn, am_brG, am_brL, am_st1, am_no2, am_st2, am_clr, and_self, true_and, and_true, true_or, or_true, List.length_cons, List.length_nil] <;> omega) ?_
                  try simp (disch := omega) only [s124 hw, r124_14 hw, s126 hw, e0, am_b0, am_bn0, Int.reduceToNat, am_addE, am_subE, am_mulE, am_laddE, am_lsubE, am_upO, am_upS, am_stS, am_stO, am_tnn, am_brl, am_brg, am_bre, am_brn, am_brG, am_brL, am_st1, am_no2, am_st2, am_clr]
                  exact am_wp_ls (ih3) (by simp (disch := omega) only [ax_ct, h21, cond_false, s124 hw, r124_14 hw, s126 hw, e0, am_b0, am_bn0, Int.reduceToNat, am_addE, am_subE, am_mulE, am_laddE, am_lsubE, am_upO, am_upS, am_stS, am_stO, am_tnn, am_brl, am_brg, am_bre, am_brn, am_brG, am_brL, am_st1, am_no2, am_st2, am_clr, List.cons.injEq, Option.some.injEq, Sum.inl.injEq, Sum.inr.injEq, and_self, true_and, and_true] <;> omega)
                · have hf : T.2.2.testBit s = false := by cases hc : T.2.2.testBit s with | true => exact absurd hc b89 | false => rfl
                  refine am_wp_go rfl (by simp (disch := omega) only [s124 hw, r124_14 hw, s126 hw, e0, am_b0, am_bn0, Int.reduceToNat, am_addE, am_subE, am_mulE, am_laddE, am_lsubE, am_upO, am_upS, am_stS, am_stO, am_tnn, am_brl, am_brg, am_bre, am_brn, am_brG, am_brL, am_st1, am_no2, am_st2, am_clr, and_self, true_and, and_true, true_or, or_true, List.length_cons, List.length_nil] <;> omega) ?_
                  try simp (disch := omega) only [s124 hw, r124_14 hw, s126 hw, e0, am_b0, am_bn0, Int.reduceToNat, am_addE, am_subE, am_mulE, am_laddE, am_lsubE, am_upO, am_upS, am_stS, am_stO, am_tnn, am_brl, am_brg, am_bre, am_brn, am_brG, am_brL, am_st1, am_no2, am_st2, am_clr]
                  refine am_wp_cc rfl rfl rfl (congrArg Prod.fst (s124 hw)) (w_M_hasLeft (l := T.2.1) (n := nS W) hw v4 (by omega) n1.2 ⟨_, rfl, ?_⟩)
                  refine am_wp_go rfl (by simp (disch := omega) only [s124 hw, r124_14 hw, s126 hw, e0, am_b0, am_bn0, Int.reduceToNat, am_addE, am_subE, am_mulE, am_laddE, am_lsubE, am_upO, am_upS, am_stS, am_stO, am_tnn, am_brl, am_brg, am_bre, am_brn, am_brG, am_brL, am_st1, am_no2, am_st2, am_clr, and_self, true_and, and_true, true_or, or_true, List.length_cons, List.length_nil] <;> omega) ?_
                  try simp (disch := omega) only [s124 hw, r124_14 hw, s126 hw, e0, am_b0, am_bn0, Int.reduceToNat, am_addE, am_subE, am_mulE, am_laddE, am_lsubE, am_upO, am_upS, am_stS, am_stO, am_tnn, am_brl, am_brg, am_bre, am_brn, am_brG, am_brL, am_st1, am_no2, am_st2, am_clr]
                  refine am_wp_br (fun b98 => ?_) (fun b98 => ?_)
                  · have h21 : cdr T.2.1 T.2.2 s = false := by unfold cdr; rw [decide_eq_false b98, Bool.and_false]
                    refine am_wp_go rfl (by simp (disch := omega) only [s124 hw, r124_14 hw, s126 hw, e0, am_b0, am_bn0, Int.reduceToNat, am_addE, am_subE, am_mulE, am_laddE, am_lsubE, am_upO, am_upS, am_stS, am_stO, am_tnn, am_brl, am_brg, am_bre, am_brn, am_brG, am_brL, am_st1, am_no2, am_st2, am_clr, and_self, true_and, and_true, true_or, or_true, List.length_cons, List.length_nil] <;> omega) ?_
                    try simp (disch := omega) only [s124 hw, r124_14 hw, s126 hw, e0, am_b0, am_bn0, Int.reduceToNat, am_addE, am_subE, am_mulE, am_laddE, am_lsubE, am_upO, am_upS, am_stS, am_stO, am_tnn, am_brl, am_brg, am_bre, am_brn, am_brG, am_brL, am_st1, am_no2, am_st2, am_clr]
                    exact am_wp_ls (ih3) (by simp (disch := omega) only [ax_ct, h21, cond_false, s124 hw, r124_14 hw, s126 hw, e0, am_b0, am_bn0, Int.reduceToNat, am_addE, am_subE, am_mulE, am_laddE, am_lsubE, am_upO, am_upS, am_stS, am_stO, am_tnn, am_brl, am_brg, am_bre, am_brn, am_brG, am_brL, am_st1, am_no2, am_st2, am_clr, List.cons.injEq, Option.some.injEq, Sum.inl.injEq, Sum.inr.injEq, and_self, true_and, and_true] <;> omega)
                  · have h21 : cdr T.2.1 T.2.2 s = true := by unfold cdr; rw [hf, decide_eq_true (by omega)]; rfl
                    refine am_wp_go rfl (by simp (disch := omega) only [s124 hw, r124_14 hw, s126 hw, e0, am_b0, am_bn0, Int.reduceToNat, am_addE, am_subE, am_mulE, am_laddE, am_lsubE, am_upO, am_upS, am_stS, am_stO, am_tnn, am_brl, am_brg, am_bre, am_brn, am_brG, am_brL, am_st1, am_no2, am_st2, am_clr, and_self, true_and, and_true, true_or, or_true, List.length_cons, List.length_nil] <;> omega) ?_
                    try simp (disch := omega) only [s124 hw, r124_14 hw, s126 hw, e0, am_b0, am_bn0, Int.reduceToNat, am_addE, am_subE, am_mulE, am_laddE, am_lsubE, am_upO, am_upS, am_stS, am_stO, am_tnn, am_brl, am_brg, am_bre, am_brn, am_brG, am_brL, am_st1, am_no2, am_st2, am_clr]
                    exact am_wp_ls (ih3) (by simp (disch := omega) only [ax_ct, h21, cond_true, s124 hw, r124_14 hw, s126 hw, e0, am_b0, am_bn0, Int.reduceToNat, am_addE, am_subE, am_mulE, am_laddE, am_lsubE, am_upO, am_upS, am_stS, am_stO, am_tnn, am_brl, am_brg, am_bre, am_brn, am_brG, am_brL, am_st1, am_no2, am_st2, am_clr, List.cons.injEq, Option.some.injEq, Sum.inl.injEq, Sum.inr.injEq, and_self, true_and, and_true] <;> omega)
          exact am_wp_ls (M 0 (by omega) _ _ _ K (A.1, A.2, 0) k1 k2 k3 k4 (show 0 < 256 by decide) (by dsimp only; omega) rfl) rfl
      refine am_wp_go rfl (by simp (disch := omega) only [s124 hw, am_addE, am_subE, am_mulE, am_laddE, am_lsubE, am_upO, am_upS, am_stS, am_stO, am_tnn, am_brl, am_brg, am_bre, am_brn, am_brG, am_brL, am_st1, am_no2, am_st2, am_clr, and_self, true_and, and_true, true_or, or_true, List.length_cons, List.length_nil] <;> omega) ?_
      refine am_wp_ls (L 0 (by decide) none none none none none K (x, ndW W) k1 k2 k3 (fun i hi => ⟨k4 i (by omega), (nd_pos hk hi).2⟩) (by dsimp only; omega) rfl) rfl
    · have ih := ih (by omega)
      have en := wkS_at hk.2.1 (s := i / 2) (u := i % 2) (by omega) (by omega)
      have ed : ((i : Int)) / 2 = ((i / 2 : Nat) : Int) := by omega
      have em : ((i : Int)) % 2 = ((i % 2 : Nat) : Int) := by omega
      refine am_wp_go rfl (by simp (disch := omega) only [s124 hw, r124_39 hw, s145 hw, am_divE, am_remE, ed, em, am_addE, am_subE, am_mulE, am_laddE, am_lsubE, am_upO, am_upS, am_stS, am_stO, am_tnn, am_brl, am_brg, am_bre, am_brn, am_brG, am_brL, am_st1, am_no2, am_st2, am_clr, and_self, true_and, and_true, true_or, or_true, List.length_cons, List.length_nil] <;> omega) ?_
      try simp (disch := omega) only [s124 hw, r124_39 hw, s145 hw, am_divE, am_remE, ed, em, am_addE, am_subE, am_mulE, am_laddE, am_lsubE, am_upO, am_upS, am_stS, am_stO, am_tnn, am_brl, am_brg, am_bre, am_brn, am_brG, am_brL, am_st1, am_no2, am_st2, am_clr]
      refine am_wp_cc rfl rfl rfl (congrArg Prod.fst (s124 hw)) (w_M_needs (s := i / 2) (u := i % 2) hw (by omega) (by omega) ⟨_, rfl, ?_⟩)
      refine am_wp_go rfl (by simp (disch := omega) only [s124 hw, r124_39 hw, s145 hw, am_divE, am_remE, ed, em, am_addE, am_subE, am_mulE, am_laddE, am_lsubE, am_upO, am_upS, am_stS, am_stO, am_tnn, am_brl, am_brg, am_bre, am_brn, am_brG, am_brL, am_st1, am_no2, am_st2, am_clr, and_self, true_and, and_true, true_or, or_true, List.length_cons, List.length_nil] <;> omega) ?_
      try simp (disch := omega) only [s124 hw, r124_39 hw, s145 hw, am_divE, am_remE, ed, em, am_addE, am_subE, am_mulE, am_laddE, am_lsubE, am_upO, am_upS, am_stS, am_stO, am_tnn, am_brl, am_brg, am_bre, am_brn, am_brG, am_brL, am_st1, am_no2, am_st2, am_clr]
      refine am_wp_ls (ih _ (fun a h1 h2 => ?_) (fun j hj => ?_) ?_ (fun k hk2 => ?_)) rfl
      · rw [am_upO h2, k1 a h1 h2]
      · rw [am_upO (by decide), k2 j hj]
      · rw [am_upO (by decide), k3]
      · rw [am_upS, eK]
        by_cases hki : k = i
        · rw [am_stS hki, hki]; unfold ndW; omega
        · rw [am_stO hki]; exact k4 k (by omega)
  exact am_wp_ls (L0 0 (by omega) J v1 v2 v3 (fun k hk2 => absurd hk2 (Nat.not_lt_zero k))) rfl
/-- the shortest of n seeds -/
def mornB (W : Nat → Int) (x : Int) : Nat → Int
  | 0 => (mornV W x : Int)
  | k + 1 => if (mornV W (am_add x ((k : Int) + 1)) : Int) < mornB W x k then (mornV W (am_add x ((k : Int) + 1)) : Int) else mornB W x k
theorem c_morning {x : Int} (hw : wd sh R) (hk : kit I 6 W N) (h0 : nS W = 0 → Q (am_yi (-1)) (m, sl, sh, I, R)) (h1 : 0 < nS W → ∀ J, cq I J → Q (am_yi (mornV W x)) (m, sl, sh, J, R)) : am_wp (d + 3) 183 0 [some (.inr (.inr (4))), some (.inl (x))] [] (m, sl, sh, I, R) Q := by
  have n1 := wk_nS hk.1
  have o1 : I 6 6 = (nS W : Int) := by rw [hk.2.1.2.2.2.2.2.1]; exact n1.1
  refine am_wp_go rfl (by simp (disch := omega) only [s4 hw, r4_0 hw, s5 hw, r5_0 hw, s6 hw, r4_9 hw, o1, am_addE, am_subE, am_mulE, am_laddE, am_lsubE, am_upO, am_upS, am_stS, am_stO, am_tnn, am_brl, am_brg, am_bre, am_brn, am_brG, am_brL, am_st1, am_no2, am_st2, am_clr, and_self, true_and, and_true, true_or, or_true, List.length_cons, List.length_nil] <;> omega) ?_
  try simp (disch := omega) only [s4 hw, r4_0 hw, s5 hw, r5_0 hw, s6 hw, r4_9 hw, o1, am_addE, am_subE, am_mulE, am_laddE, am_lsubE, am_upO, am_upS, am_stS, am_stO, am_tnn, am_brl, am_brg, am_bre, am_brn, am_brG, am_brL, am_st1, am_no2, am_st2, am_clr]
  refine am_wp_br (fun b10 => ?_) (fun b10 => ?_)
  · refine am_wp_go rfl (by simp (disch := omega) only [s4 hw, r4_0 hw, s5 hw, r5_0 hw, s6 hw, r4_9 hw, o1, am_addE, am_subE, am_mulE, am_laddE, am_lsubE, am_upO, am_upS, am_stS, am_stO, am_tnn, am_brl, am_brg, am_bre, am_brn, am_brG, am_brL, am_st1, am_no2, am_st2, am_clr, and_self, true_and, and_true, true_or, or_true, List.length_cons, List.length_nil] <;> omega) ?_
    try simp (disch := omega) only [s4 hw, r4_0 hw, s5 hw, r5_0 hw, s6 hw, r4_9 hw, o1, am_addE, am_subE, am_mulE, am_laddE, am_lsubE, am_upO, am_upS, am_stS, am_stO, am_tnn, am_brl, am_brg, am_bre, am_brn, am_brG, am_brL, am_st1, am_no2, am_st2, am_clr]
    refine am_wp_cc rfl rfl rfl (congrArg Prod.fst (s73 hw)) (w_drawnMinutes hw hk (fun J j1 => ⟨_, rfl, ?_⟩))
    refine am_wp_ret rfl rfl ?_
    exact h1 (by omega) J (cq_of (fun a ha => j1 a (by omega)))
  · refine am_wp_go rfl (by simp (disch := omega) only [s4 hw, r4_0 hw, s5 hw, r5_0 hw, s6 hw, r4_9 hw, o1, am_addE, am_subE, am_mulE, am_laddE, am_lsubE, am_upO, am_upS, am_stS, am_stO, am_tnn, am_brl, am_brg, am_bre, am_brn, am_brG, am_brL, am_st1, am_no2, am_st2, am_clr, and_self, true_and, and_true, true_or, or_true, List.length_cons, List.length_nil] <;> omega) ?_
    try simp (disch := omega) only [s4 hw, r4_0 hw, s5 hw, r5_0 hw, s6 hw, r4_9 hw, o1, am_addE, am_subE, am_mulE, am_laddE, am_lsubE, am_upO, am_upS, am_stS, am_stO, am_tnn, am_brl, am_brg, am_bre, am_brn, am_brG, am_brL, am_st1, am_no2, am_st2, am_clr]
    refine am_wp_ret rfl rfl ?_
    exact h0 (by omega)
theorem c_mornings {n x : Int} (hw : wd sh R) (hk : kit I 6 W N) (h0 : ¬ (0 < nS W ∧ 1 ≤ n ∧ n ≤ 100) → Q (am_yi (-1)) (m, sl, sh, I, R)) (h1 : 0 < nS W ∧ 1 ≤ n ∧ n ≤ 100 → ∀ J, cq I J → Q (am_yi (mornB W x (n.toNat - 1))) (m, sl, sh, J, R)) : am_wp (d + 3) 184 0 [some (.inr (.inr (4))), some (.inl (n)), some (.inl (x)), none, none] [] (m, sl, sh, I, R) Q := by
  have n1 := wk_nS hk.1
  have o1 : ∀ J : Nat → Nat → Int, (∀ a, ¬ (73 ≤ a ∧ a ≤ 79) → J a = I a) → J 6 6 = (nS W : Int) := fun J hJ => by rw [hJ 6 (by omega), hk.2.1.2.2.2.2.2.1]; exact n1.1
  have o2 := o1 I (fun _ _ => rfl)
  refine am_wp_go rfl (by simp (disch := omega) only [s4 hw, r4_0 hw, s5 hw, r5_0 hw, s6 hw, r4_9 hw, o2, am_addE, am_subE, am_mulE, am_laddE, am_lsubE, am_upO, am_upS, am_stS, am_stO, am_tnn, am_brl, am_brg, am_bre, am_brn, am_brG, am_brL, am_st1, am_no2, am_st2, am_clr, and_self, true_and, and_true, true_or, or_true, List.length_cons, List.length_nil] <;> omega) ?_
  try simp (disch := omega) only [s4 hw, r4_0 hw, s5 hw, r5_0 hw, s6 hw, r4_9 hw, o2, am_addE, am_subE, am_mulE, am_laddE, am_lsubE, am_upO, am_upS, am_stS, am_stO, am_tnn, am_brl, am_brg, am_bre, am_brn, am_brG, am_brL, am_st1, am_no2, am_st2, am_clr]
  refine am_wp_br (fun b10 => ?_) (fun b10 => ?_)
  · refine am_wp_go rfl (by simp (disch := omega) only [s4 hw, r4_0 hw, s5 hw, r5_0 hw, s6 hw, r4_9 hw, o2, am_addE, am_subE, am_mulE, am_laddE, am_lsubE, am_upO, am_upS, am_stS, am_stO, am_tnn, am_brl, am_brg, am_bre, am_brn, am_brG, am_brL, am_st1, am_no2, am_st2, am_clr, and_self, true_and, and_true, true_or, or_true, List.length_cons, List.length_nil] <;> omega) ?_
    try simp (disch := omega) only [s4 hw, r4_0 hw, s5 hw, r5_0 hw, s6 hw, r4_9 hw, o2, am_addE, am_subE, am_mulE, am_laddE, am_lsubE, am_upO, am_upS, am_stS, am_stO, am_tnn, am_brl, am_brg, am_bre, am_brn, am_brG, am_brL, am_st1, am_no2, am_st2, am_clr]
    refine am_wp_ret rfl rfl ?_
    exact h0 (by omega)
  · refine am_wp_go rfl (by simp (disch := omega) only [s4 hw, r4_0 hw, s5 hw, r5_0 hw, s6 hw, r4_9 hw, o2, am_addE, am_subE, am_mulE, am_laddE, am_lsubE, am_upO, am_upS, am_stS, am_stO, am_tnn, am_brl, am_brg, am_bre, am_brn, am_brG, am_brL, am_st1, am_no2, am_st2, am_clr, and_self, true_and, and_true, true_or, or_true, List.length_cons, List.length_nil] <;> omega) ?_
    try simp (disch := omega) only [s4 hw, r4_0 hw, s5 hw, r5_0 hw, s6 hw, r4_9 hw, o2, am_addE, am_subE, am_mulE, am_laddE, am_lsubE, am_upO, am_upS, am_stS, am_stO, am_tnn, am_brl, am_brg, am_bre, am_brn, am_brG, am_brL, am_st1, am_no2, am_st2, am_clr]
    refine am_wp_br (fun b15 => ?_) (fun b15 => ?_)
    · refine am_wp_go rfl (by simp (disch := omega) only [s4 hw, r4_0 hw, s5 hw, r5_0 hw, s6 hw, r4_9 hw, o2, am_addE, am_subE, am_mulE, am_laddE, am_lsubE, am_upO, am_upS, am_stS, am_stO, am_tnn, am_brl, am_brg, am_bre, am_brn, am_brG, am_brL, am_st1, am_no2, am_st2, am_clr, and_self, true_and, and_true, true_or, or_true, List.length_cons, List.length_nil] <;> omega) ?_
      try simp (disch := omega) only [s4 hw, r4_0 hw, s5 hw, r5_0 hw, s6 hw, r4_9 hw, o2, am_addE, am_subE, am_mulE, am_laddE, am_lsubE, am_upO, am_upS, am_stS, am_stO, am_tnn, am_brl, am_brg, am_bre, am_brn, am_brG, am_brL, am_st1, am_no2, am_st2, am_clr]
      refine am_wp_ret rfl rfl ?_
      exact h0 (by omega)
    · refine am_wp_go rfl (by simp (disch := omega) only [s4 hw, r4_0 hw, s5 hw, r5_0 hw, s6 hw, r4_9 hw, o2, am_addE, am_subE, am_mulE, am_laddE, am_lsubE, am_upO, am_upS, am_stS, am_stO, am_tnn, am_brl, am_brg, am_bre, am_brn, am_brG, am_brL, am_st1, am_no2, am_st2, am_clr, and_self, true_and, and_true, true_or, or_true, List.length_cons, List.length_nil] <;> omega) ?_
      try simp (disch := omega) only [s4 hw, r4_0 hw, s5 hw, r5_0 hw, s6 hw, r4_9 hw, o2, am_addE, am_subE, am_mulE, am_laddE, am_lsubE, am_upO, am_upS, am_stS, am_stO, am_tnn, am_brl, am_brg, am_bre, am_brn, am_brG, am_brL, am_st1, am_no2, am_st2, am_clr]
      refine am_wp_br (fun b21 => ?_) (fun b21 => ?_)
      · have h := h1 (by omega)
        clear h0 h1
        refine am_wp_go rfl (by simp (disch := omega) only [s4 hw, r4_0 hw, s5 hw, r5_0 hw, s6 hw, r4_9 hw, o2, am_addE, am_subE, am_mulE, am_laddE, am_lsubE, am_upO, am_upS, am_stS, am_stO, am_tnn, am_brl, am_brg, am_bre, am_brn, am_brG, am_brL, am_st1, am_no2, am_st2, am_clr, and_self, true_and, and_true, true_or, or_true, List.length_cons, List.length_nil] <;> omega) ?_
        try simp (disch := omega) only [s4 hw, r4_0 hw, s5 hw, r5_0 hw, s6 hw, r4_9 hw, o2, am_addE, am_subE, am_mulE, am_laddE, am_lsubE, am_upO, am_upS, am_stS, am_stO, am_tnn, am_brl, am_brg, am_bre, am_brn, am_brG, am_brL, am_st1, am_no2, am_st2, am_clr]
        refine am_wp_cc rfl rfl rfl (congrArg Prod.fst (s73 hw)) (w_drawnMinutes hw hk (fun J j1 => ⟨_, rfl, ?_⟩))
        refine am_wp_go rfl (by simp (disch := omega) only [s4 hw, r4_0 hw, s5 hw, r5_0 hw, s6 hw, r4_9 hw, o2, am_addE, am_subE, am_mulE, am_laddE, am_lsubE, am_upO, am_upS, am_stS, am_stO, am_tnn, am_brl, am_brg, am_bre, am_brn, am_brG, am_brL, am_st1, am_no2, am_st2, am_clr, and_self, true_and, and_true, true_or, or_true, List.length_cons, List.length_nil] <;> omega) ?_
        have L : ∀ k, k ≤ n.toNat - 1 → ∀ J : Nat → Nat → Int, (∀ a, ¬ (73 ≤ a ∧ a ≤ 79) → J a = I a) → am_wp (d + 3) 184 45 [some (.inr (.inr (4))), some (.inl (n)), some (.inl (x)), some (.inl (mornB W x k)), some (.inl ((k : Int) + 1))] [] (m, sl, sh, J, R) Q := by
          refine am_lp (n.toNat - 1) (fun k hkn ih J j1 => ?_)
          have hkJ : kit J 6 W N := kit_fr hk (fun a h1 h2 => j1 a (by omega))
          refine am_wp_go rfl (by simp (disch := omega) only [s4 hw, r4_0 hw, s5 hw, r5_0 hw, r4_9 hw, am_addE, am_subE, am_mulE, am_laddE, am_lsubE, am_upO, am_upS, am_stS, am_stO, am_tnn, am_brl, am_brg, am_bre, am_brn, am_brG, am_brL, am_st1, am_no2, am_st2, am_clr, and_self, true_and, and_true, true_or, or_true, List.length_cons, List.length_nil] <;> omega) ?_
          try simp (disch := omega) only [s4 hw, r4_0 hw, s5 hw, r5_0 hw, r4_9 hw, am_addE, am_subE, am_mulE, am_laddE, am_lsubE, am_upO, am_upS, am_stS, am_stO, am_tnn, am_brl, am_brg, am_bre, am_brn, am_brG, am_brL, am_st1, am_no2, am_st2, am_clr]
          refine am_wp_br (fun b48 => ?_) (fun b48 => ?_)
          · refine am_wp_go rfl (by simp (disch := omega) only [s4 hw, r4_0 hw, s5 hw, r5_0 hw, r4_9 hw, am_addE, am_subE, am_mulE, am_laddE, am_lsubE, am_upO, am_upS, am_stS, am_stO, am_tnn, am_brl, am_brg, am_bre, am_brn, am_brG, am_brL, am_st1, am_no2, am_st2, am_clr, and_self, true_and, and_true, true_or, or_true, List.length_cons, List.length_nil] <;> omega) ?_
            try simp (disch := omega) only [s4 hw, r4_0 hw, s5 hw, r5_0 hw, r4_9 hw, am_addE, am_subE, am_mulE, am_laddE, am_lsubE, am_upO, am_upS, am_stS, am_stO, am_tnn, am_brl, am_brg, am_bre, am_brn, am_brG, am_brL, am_st1, am_no2, am_st2, am_clr]
            refine am_wp_ret rfl rfl ?_
            rw [show n.toNat - 1 = k by omega] at h
            exact h J (cq_of (fun a ha => j1 a (by omega)))
          · refine am_wp_go rfl (by simp (disch := omega) only [s4 hw, r4_0 hw, s5 hw, r5_0 hw, r4_9 hw, am_addE, am_subE, am_mulE, am_laddE, am_lsubE, am_upO, am_upS, am_stS, am_stO, am_tnn, am_brl, am_brg, am_bre, am_brn, am_brG, am_brL, am_st1, am_no2, am_st2, am_clr, and_self, true_and, and_true, true_or, or_true, List.length_cons, List.length_nil] <;> omega) ?_
            try simp (disch := omega) only [s4 hw, r4_0 hw, s5 hw, r5_0 hw, r4_9 hw, am_addE, am_subE, am_mulE, am_laddE, am_lsubE, am_upO, am_upS, am_stS, am_stO, am_tnn, am_brl, am_brg, am_bre, am_brn, am_brG, am_brL, am_st1, am_no2, am_st2, am_clr]
            refine am_wp_cc rfl rfl rfl (congrArg Prod.fst (s73 hw)) (w_drawnMinutes hw hkJ (fun V v1 => ⟨_, rfl, ?_⟩))
            refine am_wp_go rfl (by simp (disch := omega) only [s4 hw, r4_0 hw, s5 hw, r5_0 hw, r4_9 hw, am_addE, am_subE, am_mulE, am_laddE, am_lsubE, am_upO, am_upS, am_stS, am_stO, am_tnn, am_brl, am_brg, am_bre, am_brn, am_brG, am_brL, am_st1, am_no2, am_st2, am_clr, and_self, true_and, and_true, true_or, or_true, List.length_cons, List.length_nil] <;> omega) ?_
            try simp (disch := omega) only [s4 hw, r4_0 hw, s5 hw, r5_0 hw, r4_9 hw, am_addE, am_subE, am_mulE, am_laddE, am_lsubE, am_upO, am_upS, am_stS, am_stO, am_tnn, am_brl, am_brg, am_bre, am_brn, am_brG, am_brL, am_st1, am_no2, am_st2, am_clr]
            refine am_wp_ls (ih (by omega) V (fun a ha => by rw [v1 a ha, j1 a ha])) ?_
            simp only [mornB, List.cons.injEq, Option.some.injEq, Sum.inl.injEq, and_true, true_and]
            first | omega | rfl
        exact am_wp_ls (L 0 (by omega) J j1) rfl
      · refine am_wp_go rfl (by simp (disch := omega) only [s4 hw, r4_0 hw, s5 hw, r5_0 hw, s6 hw, r4_9 hw, o2, am_addE, am_subE, am_mulE, am_laddE, am_lsubE, am_upO, am_upS, am_stS, am_stO, am_tnn, am_brl, am_brg, am_bre, am_brn, am_brG, am_brL, am_st1, am_no2, am_st2, am_clr, and_self, true_and, and_true, true_or, or_true, List.length_cons, List.length_nil] <;> omega) ?_
        try simp (disch := omega) only [s4 hw, r4_0 hw, s5 hw, r5_0 hw, s6 hw, r4_9 hw, o2, am_addE, am_subE, am_mulE, am_laddE, am_lsubE, am_upO, am_upS, am_stS, am_stO, am_tnn, am_brl, am_brg, am_bre, am_brn, am_brG, am_brL, am_st1, am_no2, am_st2, am_clr]
        refine am_wp_ret rfl rfl ?_
        exact h0 (by omega)
theorem rq_morn {I J K : Nat → Nat → Int} (q : rq I J) (k1 : ∀ a, a ≠ 124 → a ≠ 145 → K a = J a) (k2 : ∀ j, j ≠ 56 → K 124 j = J 124 j) : rq I K := by
  refine rq_trans q ⟨fun a ha => k1 a (by omega) (by omega), ⟨k2 _ (by decide), k2 _ (by decide), k2 _ (by decide), k2 _ (by decide), k2 _ (by decide), k2 _ (by decide), k2 _ (by decide)⟩, Or.inl ⟨k2 _ (by decide), k1 _ (by decide) (by decide)⟩⟩
theorem r_morning {x : Int} (hw : wd sh R) (hb : beg I) (hk : wk (lw I)) (h0 : nS (lw I) = 0 → ∀ J, rq I J → Q (am_yi (-1)) (m, sl, sh, J, R)) (h1 : 0 < nS (lw I) → ∀ J, rq I J → Q (am_yi (mornV (lw I) x)) (m, sl, sh, J, R)) : am_wp (d + 3) 307 0 [some (.inr (.inr (124))), some (.inl (x))] [] (m, sl, sh, I, R) Q := by
  refine am_wp_go rfl (by simp (disch := omega) only [s124 hw, am_addE, am_subE, am_mulE, am_laddE, am_lsubE, am_upO, am_upS, am_stS, am_stO, am_tnn, am_brl, am_brg, am_bre, am_brn, am_brG, am_brL, am_st1, am_no2, am_st2, am_clr, and_self, true_and, and_true, true_or, or_true, List.length_cons, List.length_nil] <;> omega) ?_
  have q0 := rq_thrown (I := I) (x := 0)
  generalize am_up I 124 0 0 = I0 at q0 ⊢
  refine am_wp_cc rfl rfl rfl (congrArg Prod.fst (s124 hw)) (w_M_lay hw (beg_rq q0 hb) (fun J j1 j2 j3 j4 => ⟨_, rfl, ?_⟩))
  have q1 := rq_trans q0 (rq_lay j1 j2 j3 j4)
  rw [rq_lw q0] at j4
  clear j1 j2
  rw [← j4] at hk h0 h1
  refine am_wp_go rfl (by simp (disch := omega) only [s124 hw, am_addE, am_subE, am_mulE, am_laddE, am_lsubE, am_upO, am_upS, am_stS, am_stO, am_tnn, am_brl, am_brg, am_bre, am_brn, am_brG, am_brL, am_st1, am_no2, am_st2, am_clr, and_self, true_and, and_true, true_or, or_true, List.length_cons, List.length_nil] <;> omega) ?_
  try simp (disch := omega) only [s124 hw, am_addE, am_subE, am_mulE, am_laddE, am_lsubE, am_upO, am_upS, am_stS, am_stO, am_tnn, am_brl, am_brg, am_bre, am_brn, am_brG, am_brL, am_st1, am_no2, am_st2, am_clr]
  refine am_wp_cc rfl rfl rfl (congrArg Prod.fst (s124 hw)) (w_M_slicesN hw (wk_w hk) ⟨_, rfl, ?_⟩)
  refine am_wp_go rfl (by simp (disch := omega) only [s124 hw, am_addE, am_subE, am_mulE, am_laddE, am_lsubE, am_upO, am_upS, am_stS, am_stO, am_tnn, am_brl, am_brg, am_bre, am_brn, am_brG, am_brL, am_st1, am_no2, am_st2, am_clr, and_self, true_and, and_true, true_or, or_true, List.length_cons, List.length_nil] <;> omega) ?_
  try simp (disch := omega) only [s124 hw, am_addE, am_subE, am_mulE, am_laddE, am_lsubE, am_upO, am_upS, am_stS, am_stO, am_tnn, am_brl, am_brg, am_bre, am_brn, am_brG, am_brL, am_st1, am_no2, am_st2, am_clr]
  refine am_wp_br (fun b13 => ?_) (fun b13 => ?_)
  · refine am_wp_go rfl (by simp (disch := omega) only [s124 hw, am_addE, am_subE, am_mulE, am_laddE, am_lsubE, am_upO, am_upS, am_stS, am_stO, am_tnn, am_brl, am_brg, am_bre, am_brn, am_brG, am_brL, am_st1, am_no2, am_st2, am_clr, and_self, true_and, and_true, true_or, or_true, List.length_cons, List.length_nil] <;> omega) ?_
    try simp (disch := omega) only [s124 hw, am_addE, am_subE, am_mulE, am_laddE, am_lsubE, am_upO, am_upS, am_stS, am_stO, am_tnn, am_brl, am_brg, am_bre, am_brn, am_brG, am_brL, am_st1, am_no2, am_st2, am_clr]
    refine am_wp_cc rfl rfl rfl (congrArg Prod.fst (s124 hw)) (w_M_morningBy (W := J 126) hw rfl hk (fun K k1 k2 => ⟨_, rfl, ?_⟩))
    refine am_wp_ret rfl rfl ?_
    exact h1 (by omega) K (rq_morn q1 k1 k2)
  · refine am_wp_go rfl (by simp (disch := omega) only [s124 hw, am_addE, am_subE, am_mulE, am_laddE, am_lsubE, am_upO, am_upS, am_stS, am_stO, am_tnn, am_brl, am_brg, am_bre, am_brn, am_brG, am_brL, am_st1, am_no2, am_st2, am_clr, and_self, true_and, and_true, true_or, or_true, List.length_cons, List.length_nil] <;> omega) ?_
    try simp (disch := omega) only [s124 hw, am_addE, am_subE, am_mulE, am_laddE, am_lsubE, am_upO, am_upS, am_stS, am_stO, am_tnn, am_brl, am_brg, am_bre, am_brn, am_brG, am_brL, am_st1, am_no2, am_st2, am_clr]
    refine am_wp_ret rfl rfl ?_
    exact h0 (by omega) J q1
theorem r_mornings {n x : Int} (hw : wd sh R) (hb : beg I) (hk : wk (lw I)) (h0 : ¬ (0 < nS (lw I) ∧ 1 ≤ n ∧ n ≤ 100) → ∀ J, rq I J → Q (am_yi (-1)) (m, sl, sh, J, R)) (h1 : 0 < nS (lw I) ∧ 1 ≤ n ∧ n ≤ 100 → ∀ J, rq I J → Q (am_yi (mornB (lw I) x (n.toNat - 1))) (m, sl, sh, J, R)) : am_wp (d + 3) 308 0 [some (.inr (.inr (124))), some (.inl (n)), some (.inl (x)), none, none, none] [] (m, sl, sh, I, R) Q := by
  refine am_wp_go rfl (by simp (disch := omega) only [s124 hw, am_bn0, am_b0, am_addE, am_subE, am_mulE, am_laddE, am_lsubE, am_upO, am_upS, am_stS, am_stO, am_tnn, am_brl, am_brg, am_bre, am_brn, am_brG, am_brL, am_st1, am_no2, am_st2, am_clr, and_self, true_and, and_true, true_or, or_true, List.length_cons, List.length_nil] <;> omega) ?_
  have q0 := rq_thrown (I := I) (x := 0)
  generalize am_up I 124 0 0 = I0 at q0 ⊢
  refine am_wp_cc rfl rfl rfl (congrArg Prod.fst (s124 hw)) (w_M_lay hw (beg_rq q0 hb) (fun J j1 j2 j3 j4 => ⟨_, rfl, ?_⟩))
  have q1 := rq_trans q0 (rq_lay j1 j2 j3 j4)
  rw [rq_lw q0] at j4
  clear j1 j2
  rw [← j4] at hk h0 h1
  refine am_wp_go rfl (by simp (disch := omega) only [s124 hw, am_bn0, am_b0, am_addE, am_subE, am_mulE, am_laddE, am_lsubE, am_upO, am_upS, am_stS, am_stO, am_tnn, am_brl, am_brg, am_bre, am_brn, am_brG, am_brL, am_st1, am_no2, am_st2, am_clr, and_self, true_and, and_true, true_or, or_true, List.length_cons, List.length_nil] <;> omega) ?_
  try simp (disch := omega) only [s124 hw, am_bn0, am_b0, am_addE, am_subE, am_mulE, am_laddE, am_lsubE, am_upO, am_upS, am_stS, am_stO, am_tnn, am_brl, am_brg, am_bre, am_brn, am_brG, am_brL, am_st1, am_no2, am_st2, am_clr]
  refine am_wp_cc rfl rfl rfl (congrArg Prod.fst (s124 hw)) (w_M_slicesN hw (wk_w hk) ⟨_, rfl, ?_⟩)
  refine am_wp_go rfl (by simp (disch := omega) only [s124 hw, am_bn0, am_b0, am_addE, am_subE, am_mulE, am_laddE, am_lsubE, am_upO, am_upS, am_stS, am_stO, am_tnn, am_brl, am_brg, am_bre, am_brn, am_brG, am_brL, am_st1, am_no2, am_st2, am_clr, and_self, true_and, and_true, true_or, or_true, List.length_cons, List.length_nil] <;> omega) ?_
  try simp (disch := omega) only [s124 hw, am_bn0, am_b0, am_addE, am_subE, am_mulE, am_laddE, am_lsubE, am_upO, am_upS, am_stS, am_stO, am_tnn, am_brl, am_brg, am_bre, am_brn, am_brG, am_brL, am_st1, am_no2, am_st2, am_clr]
  refine am_wp_br (fun b13 => ?_) (fun b13 => ?_)
  · refine am_wp_go rfl (by simp (disch := omega) only [s124 hw, am_bn0, am_b0, am_addE, am_subE, am_mulE, am_laddE, am_lsubE, am_upO, am_upS, am_stS, am_stO, am_tnn, am_brl, am_brg, am_bre, am_brn, am_brG, am_brL, am_st1, am_no2, am_st2, am_clr, and_self, true_and, and_true, true_or, or_true, List.length_cons, List.length_nil] <;> omega) ?_
    try simp (disch := omega) only [s124 hw, am_bn0, am_b0, am_addE, am_subE, am_mulE, am_laddE, am_lsubE, am_upO, am_upS, am_stS, am_stO, am_tnn, am_brl, am_brg, am_bre, am_brn, am_brG, am_brL, am_st1, am_no2, am_st2, am_clr]
    refine am_wp_ret rfl rfl ?_
    exact h0 (by omega) J q1
  · refine am_wp_go rfl (by simp (disch := omega) only [s124 hw, am_bn0, am_b0, am_addE, am_subE, am_mulE, am_laddE, am_lsubE, am_upO, am_upS, am_stS, am_stO, am_tnn, am_brl, am_brg, am_bre, am_brn, am_brG, am_brL, am_st1, am_no2, am_st2, am_clr, and_self, true_and, and_true, true_or, or_true, List.length_cons, List.length_nil] <;> omega) ?_
    try simp (disch := omega) only [s124 hw, am_bn0, am_b0, am_addE, am_subE, am_mulE, am_laddE, am_lsubE, am_upO, am_upS, am_stS, am_stO, am_tnn, am_brl, am_brg, am_bre, am_brn, am_brG, am_brL, am_st1, am_no2, am_st2, am_clr]
    refine am_wp_cc rfl rfl rfl (trivial) (w_M_isIn ⟨_, rfl, ?_⟩)
    refine am_wp_go rfl (by simp (disch := omega) only [s124 hw, am_bn0, am_b0, am_addE, am_subE, am_mulE, am_laddE, am_lsubE, am_upO, am_upS, am_stS, am_stO, am_tnn, am_brl, am_brg, am_bre, am_brn, am_brG, am_brL, am_st1, am_no2, am_st2, am_clr, and_self, true_and, and_true, true_or, or_true, List.length_cons, List.length_nil] <;> omega) ?_
    try simp (disch := omega) only [s124 hw, am_bn0, am_b0, am_addE, am_subE, am_mulE, am_laddE, am_lsubE, am_upO, am_upS, am_stS, am_stO, am_tnn, am_brl, am_brg, am_bre, am_brn, am_brG, am_brL, am_st1, am_no2, am_st2, am_clr]
    refine am_wp_br (fun b23 => ?_) (fun b23 => ?_)
    · have h := h1 (by omega)
      clear h0 h1
      refine am_wp_go rfl (by simp (disch := omega) only [s124 hw, am_bn0, am_b0, am_addE, am_subE, am_mulE, am_laddE, am_lsubE, am_upO, am_upS, am_stS, am_stO, am_tnn, am_brl, am_brg, am_bre, am_brn, am_brG, am_brL, am_st1, am_no2, am_st2, am_clr, and_self, true_and, and_true, true_or, or_true, List.length_cons, List.length_nil] <;> omega) ?_
      try simp (disch := omega) only [s124 hw, am_bn0, am_b0, am_addE, am_subE, am_mulE, am_laddE, am_lsubE, am_upO, am_upS, am_stS, am_stO, am_tnn, am_brl, am_brg, am_bre, am_brn, am_brG, am_brL, am_st1, am_no2, am_st2, am_clr]
      refine am_wp_cc rfl rfl rfl (congrArg Prod.fst (s124 hw)) (w_M_morningBy (W := J 126) hw rfl hk (fun K k1 k2 => ⟨_, rfl, ?_⟩))
      refine am_wp_go rfl (by simp (disch := omega) only [s124 hw, am_bn0, am_b0, am_addE, am_subE, am_mulE, am_laddE, am_lsubE, am_upO, am_upS, am_stS, am_stO, am_tnn, am_brl, am_brg, am_bre, am_brn, am_brG, am_brL, am_st1, am_no2, am_st2, am_clr, and_self, true_and, and_true, true_or, or_true, List.length_cons, List.length_nil] <;> omega) ?_
      have L : ∀ k, k ≤ n.toNat - 1 → ∀ (z5 : Option am_V) (K : Nat → Nat → Int), rq I K → K 126 = J 126 → am_wp (d + 3) 308 37 [some (.inr (.inr (124))), some (.inl (n)), some (.inl (x)), some (.inl (mornB (J 126) x k)), some (.inl ((k : Int) + 1)), z5] [] (m, sl, sh, K, R) Q := by
        refine am_lp (n.toNat - 1) (fun k hkn ih z5 K k1 k2 => ?_)
        refine am_wp_go rfl (by simp (disch := omega) only [s124 hw, am_bn0, am_b0, am_addE, am_subE, am_mulE, am_laddE, am_lsubE, am_upO, am_upS, am_stS, am_stO, am_tnn, am_brl, am_brg, am_bre, am_brn, am_brG, am_brL, am_st1, am_no2, am_st2, am_clr, and_self, true_and, and_true, true_or, or_true, List.length_cons, List.length_nil] <;> omega) ?_
        try simp (disch := omega) only [s124 hw, am_bn0, am_b0, am_addE, am_subE, am_mulE, am_laddE, am_lsubE, am_upO, am_upS, am_stS, am_stO, am_tnn, am_brl, am_brg, am_bre, am_brn, am_brG, am_brL, am_st1, am_no2, am_st2, am_clr]
        refine am_wp_br (fun b40 => ?_) (fun b40 => ?_)
        · refine am_wp_go rfl (by simp (disch := omega) only [s124 hw, am_bn0, am_b0, am_addE, am_subE, am_mulE, am_laddE, am_lsubE, am_upO, am_upS, am_stS, am_stO, am_tnn, am_brl, am_brg, am_bre, am_brn, am_brG, am_brL, am_st1, am_no2, am_st2, am_clr, and_self, true_and, and_true, true_or, or_true, List.length_cons, List.length_nil] <;> omega) ?_
          try simp (disch := omega) only [s124 hw, am_bn0, am_b0, am_addE, am_subE, am_mulE, am_laddE, am_lsubE, am_upO, am_upS, am_stS, am_stO, am_tnn, am_brl, am_brg, am_bre, am_brn, am_brG, am_brL, am_st1, am_no2, am_st2, am_clr]
          refine am_wp_ret rfl rfl ?_
          rw [show n.toNat - 1 = k by omega] at h
          exact h K k1
        · refine am_wp_go rfl (by simp (disch := omega) only [s124 hw, am_bn0, am_b0, am_addE, am_subE, am_mulE, am_laddE, am_lsubE, am_upO, am_upS, am_stS, am_stO, am_tnn, am_brl, am_brg, am_bre, am_brn, am_brG, am_brL, am_st1, am_no2, am_st2, am_clr, and_self, true_and, and_true, true_or, or_true, List.length_cons, List.length_nil] <;> omega) ?_
          try simp (disch := omega) only [s124 hw, am_bn0, am_b0, am_addE, am_subE, am_mulE, am_laddE, am_lsubE, am_upO, am_upS, am_stS, am_stO, am_tnn, am_brl, am_brg, am_bre, am_brn, am_brG, am_brL, am_st1, am_no2, am_st2, am_clr]
          refine am_wp_cc rfl rfl rfl (congrArg Prod.fst (s124 hw)) (w_M_morningBy (W := J 126) hw k2 hk (fun V v1 v2 => ⟨_, rfl, ?_⟩))
          refine am_wp_go rfl (by simp (disch := omega) only [s124 hw, am_bn0, am_b0, am_addE, am_subE, am_mulE, am_laddE, am_lsubE, am_upO, am_upS, am_stS, am_stO, am_tnn, am_brl, am_brg, am_bre, am_brn, am_brG, am_brL, am_st1, am_no2, am_st2, am_clr, and_self, true_and, and_true, true_or, or_true, List.length_cons, List.length_nil] <;> omega) ?_
          try simp (disch := omega) only [s124 hw, am_bn0, am_b0, am_addE, am_subE, am_mulE, am_laddE, am_lsubE, am_upO, am_upS, am_stS, am_stO, am_tnn, am_brl, am_brg, am_bre, am_brn, am_brG, am_brL, am_st1, am_no2, am_st2, am_clr]
          refine am_wp_br (fun b56 => ?_) (fun b56 => ?_)
          · refine am_wp_go rfl (by simp (disch := omega) only [s124 hw, am_bn0, am_b0, am_addE, am_subE, am_mulE, am_laddE, am_lsubE, am_upO, am_upS, am_stS, am_stO, am_tnn, am_brl, am_brg, am_bre, am_brn, am_brG, am_brL, am_st1, am_no2, am_st2, am_clr, and_self, true_and, and_true, true_or, or_true, List.length_cons, List.length_nil] <;> omega) ?_
            try simp (disch := omega) only [s124 hw, am_bn0, am_b0, am_addE, am_subE, am_mulE, am_laddE, am_lsubE, am_upO, am_upS, am_stS, am_stO, am_tnn, am_brl, am_brg, am_bre, am_brn, am_brG, am_brL, am_st1, am_no2, am_st2, am_clr]
            refine am_wp_ls (ih (by omega) (some (.inl (mornV (J 126) (am_add x ((k : Int) + 1)) : Int))) V (rq_morn k1 v1 v2) (by rw [v1 126 (by decide) (by decide), k2])) ?_
            simp only [mornB, List.cons.injEq, Option.some.injEq, Sum.inl.injEq, and_true, true_and]
            rw [if_neg (by omega)]
            exact ⟨rfl, by omega⟩
          · refine am_wp_go rfl (by simp (disch := omega) only [s124 hw, am_bn0, am_b0, am_addE, am_subE, am_mulE, am_laddE, am_lsubE, am_upO, am_upS, am_stS, am_stO, am_tnn, am_brl, am_brg, am_bre, am_brn, am_brG, am_brL, am_st1, am_no2, am_st2, am_clr, and_self, true_and, and_true, true_or, or_true, List.length_cons, List.length_nil] <;> omega) ?_
            try simp (disch := omega) only [s124 hw, am_bn0, am_b0, am_addE, am_subE, am_mulE, am_laddE, am_lsubE, am_upO, am_upS, am_stS, am_stO, am_tnn, am_brl, am_brg, am_bre, am_brn, am_brG, am_brL, am_st1, am_no2, am_st2, am_clr]
            refine am_wp_ls (ih (by omega) (some (.inl (mornV (J 126) (am_add x ((k : Int) + 1)) : Int))) V (rq_morn k1 v1 v2) (by rw [v1 126 (by decide) (by decide), k2])) ?_
            simp only [mornB, List.cons.injEq, Option.some.injEq, Sum.inl.injEq, and_true, true_and]
            rw [if_pos (by omega)]
            exact ⟨rfl, by omega⟩
      exact am_wp_ls (L 0 (by omega) _ K (rq_morn q1 k1 k2) (k1 126 (by decide) (by decide))) rfl
    · refine am_wp_go rfl (by simp (disch := omega) only [s124 hw, am_bn0, am_b0, am_addE, am_subE, am_mulE, am_laddE, am_lsubE, am_upO, am_upS, am_stS, am_stO, am_tnn, am_brl, am_brg, am_bre, am_brn, am_brG, am_brL, am_st1, am_no2, am_st2, am_clr, and_self, true_and, and_true, true_or, or_true, List.length_cons, List.length_nil] <;> omega) ?_
      try simp (disch := omega) only [s124 hw, am_bn0, am_b0, am_addE, am_subE, am_mulE, am_laddE, am_lsubE, am_upO, am_upS, am_stS, am_stO, am_tnn, am_brl, am_brg, am_bre, am_brn, am_brG, am_brL, am_st1, am_no2, am_st2, am_clr]
      refine am_wp_ret rfl rfl ?_
      exact h0 (by omega) J q1
end MORN
