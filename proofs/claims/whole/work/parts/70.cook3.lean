/-! COOKS: the class's methods -/
section COOK
variable {m sl : Nat} {sh : Nat → Nat × Nat} {I : Nat → Nat → Int} {R : Nat → Nat → Nat} {Q : am_R → am_M → Prop} {d : Nat} {W N : Nat → Int} {l f : Nat → Nat} {b nw : Nat → Int} {on t : Nat} {r : Int}
theorem ckPut_s {W : Nat → Int} {r : Int} {l f : Nat → Nat} {b : Nat → Int} {t c : Nat} {S : PS} : ckPut W r l f b t (c + 1) S = if ckF S.1 (W 0).toNat = -1 ∨ ckB W r l f t S.2 (nS W) = -1 then S else ckPut W r l f b t c (ckT W r l f b t S) := rfl
theorem kit_P {I : Nat → Nat → Int} {W N : Nat → Int} (hk : kit I 6 W N) : I 6 1 = ((W 0).toNat : Int) ∧ 1 ≤ (W 0).toNat ∧ (W 0).toNat ≤ 4 := by
  have := hk.2.1.1
  obtain ⟨w1, w2, -⟩ := hk.1.1
  omega
theorem kit_n {I : Nat → Nat → Int} {W N : Nat → Int} (hk : kit I 6 W N) : I 6 6 = (nS W : Int) ∧ nS W ≤ 8 := by
  have n1 := wk_nS hk.1
  exact ⟨by rw [hk.2.1.2.2.2.2.2.1]; exact n1.1, n1.2⟩
set_option maxHeartbeats 4000000 in
theorem w_letStay (hw : wd sh R) (hk : kit I 6 W N) (h74 : ∀ i, i < 2 * nS W → I 74 i = (l i : Int)) (h75 : ∀ p, p < (W 0).toNat → I 75 p = b p) (hb : ∀ p, p < (W 0).toNat → b p = -1 ∨ ∃ i : Nat, i < 2 * nS W ∧ b p = (i : Int)) (h : ∀ J, (∀ a, a ≠ 73 → a ≠ 76 → J a = I a) → (∀ j, j ≠ 6 → J 73 j = I 73 j) → J 73 6 = ((ck0 W l b).2 : Int) → (∀ p, p < (W 0).toNat → J 76 p = (ck0 W l b).1 p) → Q am_yv (m, sl, sh, J, R)) : am_wp (d + 1) 43 0 [some (.inr (.inr (73))), some (.inr (.inr (6))), none, none, none] [] (m, sl, sh, I, R) Q := by
  obtain ⟨o1, o2, o3⟩ := kit_P hk
  obtain ⟨n1, n2⟩ := kit_n hk
  refine am_wp_go rfl (by simp (disch := omega) only [s73 hw, am_addE, am_subE, am_mulE, am_laddE, am_lsubE, am_upO, am_upS, am_stS, am_stO, am_tnn, am_brl, am_brg, am_bre, am_brn, am_brG, am_brL, am_st1, am_no2, am_st2, am_clr, and_self, true_and, and_true, true_or, or_true, List.length_cons, List.length_nil] <;> omega) ?_
  try simp (disch := omega) only [s73 hw, am_addE, am_subE, am_mulE, am_laddE, am_lsubE, am_upO, am_upS, am_stS, am_stO, am_tnn, am_brl, am_brg, am_bre, am_brn, am_brG, am_brL, am_st1, am_no2, am_st2, am_clr]
  have L : ∀ k, k ≤ (W 0).toNat → ∀ (z3 z4 : Option am_V) (K : Nat → Nat → Int), (∀ a, a ≠ 73 → a ≠ 76 → K a = I a) → (∀ j, j ≠ 6 → K 73 j = I 73 j) → K 73 6 = (ckO (ckY W l b) k : Int) → ckO (ckY W l b) k < 256 → (∀ p, p < k → K 76 p = ckY W l b p) → am_wp (d + 1) 43 7 [some (.inr (.inr (73))), some (.inr (.inr (6))), some (.inl ((k : Int))), z3, z4] [] (m, sl, sh, K, R) Q := by
    refine am_lp (W 0).toNat (fun k hkP ih z3 z4 K k1 k2 k3 k4 k5 => ?_)
    have hkk : kit K 6 W N := kit_fr hk (fun a h1 h2 => k1 a (by omega) (by omega))
    have e1 := (kit_P hkk).1
    refine am_wp_go rfl (by simp (disch := omega) only [s73 hw, s6 hw, e1, am_addE, am_subE, am_mulE, am_laddE, am_lsubE, am_upO, am_upS, am_stS, am_stO, am_tnn, am_brl, am_brg, am_bre, am_brn, am_brG, am_brL, am_st1, am_no2, am_st2, am_clr, and_self, true_and, and_true, true_or, or_true, List.length_cons, List.length_nil] <;> omega) ?_
    try simp (disch := omega) only [s73 hw, s6 hw, e1, am_addE, am_subE, am_mulE, am_laddE, am_lsubE, am_upO, am_upS, am_stS, am_stO, am_tnn, am_brl, am_brg, am_bre, am_brn, am_brG, am_brL, am_st1, am_no2, am_st2, am_clr]
    refine am_wp_br (fun b12 => ?_) (fun b12 => ?_)
    · have : k = (W 0).toNat := by omega
      subst this
      refine am_wp_ret rfl rfl ?_
      exact h K k1 k2 k3 k5
    · have ih := ih (by omega)
      have e75 : K 75 k = b k := by rw [k1 75 (by decide) (by decide)]; exact h75 k (by omega)
      have eO : ckO (ckY W l b) (k + 1) = ckO (ckY W l b) k ||| (if ckY W l b k = -1 then 0 else 2 ^ ((ckY W l b k).toNat / 2)) := rfl
      have NO : ckY W l b k = -1 → ∀ z3 z4 : Option am_V, am_wp (d + 1) 43 7 [some (.inr (.inr (73))), some (.inr (.inr (6))), some (.inl (((k + 1 : Nat) : Int))), z3, z4] [] (m, sl, sh, am_up K 76 k (-1), R) Q := fun hy z3 z4 => by
        rw [if_pos hy, Nat.or_zero] at eO
        refine ih z3 z4 _ (fun a h1 h2 => by rw [am_upO h2, k1 a h1 h2]) (fun j hj => by rw [am_upO (by decide), k2 j hj]) (by rw [am_upO (by decide), eO, k3]) (by rw [eO]; exact k4) (fun p hp => ?_)
        rw [am_upS]
        by_cases hpk : p = k
        · rw [am_stS hpk, hpk, hy]
        · rw [am_stO hpk]; exact k5 p (by omega)
      clear h
      refine am_wp_go rfl (by simp (disch := omega) only [s73 hw, s6 hw, r73_0 hw, r73_1 hw, r73_2 hw, s74 hw, s75 hw, s76 hw, e75, Int.reduceToNat, am_b0, am_addE, am_subE, am_mulE, am_laddE, am_lsubE, am_upO, am_upS, am_stS, am_stO, am_tnn, am_brl, am_brg, am_bre, am_brn, am_brG, am_brL, am_st1, am_no2, am_st2, am_clr, and_self, true_and, and_true, true_or, or_true, List.length_cons, List.length_nil] <;> omega) ?_
      try simp (disch := omega) only [s73 hw, s6 hw, r73_0 hw, r73_1 hw, r73_2 hw, s74 hw, s75 hw, s76 hw, e75, Int.reduceToNat, am_b0, am_addE, am_subE, am_mulE, am_laddE, am_lsubE, am_upO, am_upS, am_stS, am_stO, am_tnn, am_brl, am_brg, am_bre, am_brn, am_brG, am_brL, am_st1, am_no2, am_st2, am_clr]
      rcases hb k (by omega) with z | ⟨i, i1, i2⟩
      · refine am_wp_br (fun b24 => ?_) (fun b24 => ?_)
        · refine am_wp_go rfl (by simp (disch := omega) only [s73 hw, s6 hw, r73_0 hw, r73_1 hw, r73_2 hw, s74 hw, s75 hw, s76 hw, e75, Int.reduceToNat, am_b0, am_addE, am_subE, am_mulE, am_laddE, am_lsubE, am_upO, am_upS, am_stS, am_stO, am_tnn, am_brl, am_brg, am_bre, am_brn, am_brG, am_brL, am_st1, am_no2, am_st2, am_clr, and_self, true_and, and_true, true_or, or_true, List.length_cons, List.length_nil] <;> omega) ?_
          refine am_wp_pc (pc' := 67) rfl ?_
          refine am_wp_go rfl (by simp (disch := omega) only [s73 hw, s6 hw, r73_0 hw, r73_1 hw, r73_2 hw, s74 hw, s75 hw, s76 hw, e75, Int.reduceToNat, am_b0, am_addE, am_subE, am_mulE, am_laddE, am_lsubE, am_upO, am_upS, am_stS, am_stO, am_tnn, am_brl, am_brg, am_bre, am_brn, am_brG, am_brL, am_st1, am_no2, am_st2, am_clr, and_self, true_and, and_true, true_or, or_true, List.length_cons, List.length_nil] <;> omega) ?_
          refine am_wp_pc (pc' := 88) rfl ?_
          refine am_wp_go rfl (by simp (disch := omega) only [s73 hw, s6 hw, r73_0 hw, r73_1 hw, r73_2 hw, s74 hw, s75 hw, s76 hw, e75, Int.reduceToNat, am_b0, am_addE, am_subE, am_mulE, am_laddE, am_lsubE, am_upO, am_upS, am_stS, am_stO, am_tnn, am_brl, am_brg, am_bre, am_brn, am_brG, am_brL, am_st1, am_no2, am_st2, am_clr, and_self, true_and, and_true, true_or, or_true, List.length_cons, List.length_nil] <;> omega) ?_
          try simp (disch := omega) only [s73 hw, s6 hw, r73_0 hw, r73_1 hw, r73_2 hw, s74 hw, s75 hw, s76 hw, e75, Int.reduceToNat, am_b0, am_addE, am_subE, am_mulE, am_laddE, am_lsubE, am_upO, am_upS, am_stS, am_stO, am_tnn, am_brl, am_brg, am_bre, am_brn, am_brG, am_brL, am_st1, am_no2, am_st2, am_clr]
          exact am_wp_ls (NO (by unfold ckY; rw [if_neg (fun hc => hc.1 z)]) _ _) rfl
        · omega
      · have e74 : K 74 i = (l i : Int) := by rw [k1 74 (by decide) (by decide)]; exact h74 i i1
        have ei : ((i : Int)) / 2 = ((i / 2 : Nat) : Int) := by omega
        have ey : ckY W l b k = if 0 < l i ∧ W (8 + 3 * (i / 2) + 2) = 1 then (i : Int) else -1 := by
          unfold ckY
          rw [i2, am_tnn]
          by_cases hc : 0 < l i ∧ W (8 + 3 * (i / 2) + 2) = 1
          · rw [if_pos hc, if_pos ⟨by omega, hc⟩]
          · rw [if_neg hc, if_neg (fun hx => hc hx.2)]
        rw [i2]
        refine am_wp_br (fun b24 => ?_) (fun b24 => ?_)
        · omega
        · refine am_wp_go rfl (by simp (disch := omega) only [s73 hw, s6 hw, r73_0 hw, r73_1 hw, r73_2 hw, s74 hw, s75 hw, s76 hw, e75, e74, Int.reduceToNat, am_b0, am_addE, am_subE, am_mulE, am_laddE, am_lsubE, am_upO, am_upS, am_stS, am_stO, am_tnn, am_brl, am_brg, am_bre, am_brn, am_brG, am_brL, am_st1, am_no2, am_st2, am_clr, and_self, true_and, and_true, true_or, or_true, List.length_cons, List.length_nil] <;> omega) ?_
          try simp (disch := omega) only [s73 hw, s6 hw, r73_0 hw, r73_1 hw, r73_2 hw, s74 hw, s75 hw, s76 hw, e75, e74, Int.reduceToNat, am_b0, am_addE, am_subE, am_mulE, am_laddE, am_lsubE, am_upO, am_upS, am_stS, am_stO, am_tnn, am_brl, am_brg, am_bre, am_brn, am_brG, am_brL, am_st1, am_no2, am_st2, am_clr]
          refine am_wp_br (fun b33 => ?_) (fun b33 => ?_)
          · refine am_wp_go rfl (by simp (disch := omega) only [s73 hw, s6 hw, r73_0 hw, r73_1 hw, r73_2 hw, s74 hw, s75 hw, s76 hw, e75, e74, Int.reduceToNat, am_b0, am_addE, am_subE, am_mulE, am_laddE, am_lsubE, am_upO, am_upS, am_stS, am_stO, am_tnn, am_brl, am_brg, am_bre, am_brn, am_brG, am_brL, am_st1, am_no2, am_st2, am_clr, and_self, true_and, and_true, true_or, or_true, List.length_cons, List.length_nil] <;> omega) ?_
            refine am_wp_pc (pc' := 67) rfl ?_
            refine am_wp_go rfl (by simp (disch := omega) only [s73 hw, s6 hw, r73_0 hw, r73_1 hw, r73_2 hw, s74 hw, s75 hw, s76 hw, e75, e74, Int.reduceToNat, am_b0, am_addE, am_subE, am_mulE, am_laddE, am_lsubE, am_upO, am_upS, am_stS, am_stO, am_tnn, am_brl, am_brg, am_bre, am_brn, am_brG, am_brL, am_st1, am_no2, am_st2, am_clr, and_self, true_and, and_true, true_or, or_true, List.length_cons, List.length_nil] <;> omega) ?_
            refine am_wp_pc (pc' := 88) rfl ?_
            refine am_wp_go rfl (by simp (disch := omega) only [s73 hw, s6 hw, r73_0 hw, r73_1 hw, r73_2 hw, s74 hw, s75 hw, s76 hw, e75, e74, Int.reduceToNat, am_b0, am_addE, am_subE, am_mulE, am_laddE, am_lsubE, am_upO, am_upS, am_stS, am_stO, am_tnn, am_brl, am_brg, am_bre, am_brn, am_brG, am_brL, am_st1, am_no2, am_st2, am_clr, and_self, true_and, and_true, true_or, or_true, List.length_cons, List.length_nil] <;> omega) ?_
            try simp (disch := omega) only [s73 hw, s6 hw, r73_0 hw, r73_1 hw, r73_2 hw, s74 hw, s75 hw, s76 hw, e75, e74, Int.reduceToNat, am_b0, am_addE, am_subE, am_mulE, am_laddE, am_lsubE, am_upO, am_upS, am_stS, am_stO, am_tnn, am_brl, am_brg, am_bre, am_brn, am_brG, am_brL, am_st1, am_no2, am_st2, am_clr]
            exact am_wp_ls (NO (by rw [ey, if_neg (by omega)]) _ _) rfl
          · skip
            refine am_wp_go rfl (by simp (disch := omega) only [s73 hw, s6 hw, r73_0 hw, r73_1 hw, r73_2 hw, s74 hw, s75 hw, s76 hw, e75, e74, Int.reduceToNat, am_b0, am_divE, ei, am_addE, am_subE, am_mulE, am_laddE, am_lsubE, am_upO, am_upS, am_stS, am_stO, am_tnn, am_brl, am_brg, am_bre, am_brn, am_brG, am_brL, am_st1, am_no2, am_st2, am_clr, and_self, true_and, and_true, true_or, or_true, List.length_cons, List.length_nil] <;> omega) ?_
            try simp (disch := omega) only [s73 hw, s6 hw, r73_0 hw, r73_1 hw, r73_2 hw, s74 hw, s75 hw, s76 hw, e75, e74, Int.reduceToNat, am_b0, am_divE, ei, am_addE, am_subE, am_mulE, am_laddE, am_lsubE, am_upO, am_upS, am_stS, am_stO, am_tnn, am_brl, am_brg, am_bre, am_brn, am_brG, am_brL, am_st1, am_no2, am_st2, am_clr]
            refine am_wp_cc rfl rfl rfl (congrArg Prod.fst (s6 hw)) (w_isOnce (s := i / 2) (kt_w hw (by decide)) hkk (by omega) ⟨_, rfl, ?_⟩)
            refine am_wp_go rfl (by simp (disch := omega) only [s73 hw, s6 hw, r73_0 hw, r73_1 hw, r73_2 hw, s74 hw, s75 hw, s76 hw, e75, e74, Int.reduceToNat, am_b0, am_divE, ei, am_addE, am_subE, am_mulE, am_laddE, am_lsubE, am_upO, am_upS, am_stS, am_stO, am_tnn, am_brl, am_brg, am_bre, am_brn, am_brG, am_brL, am_st1, am_no2, am_st2, am_clr, and_self, true_and, and_true, true_or, or_true, List.length_cons, List.length_nil] <;> omega) ?_
            try simp (disch := omega) only [s73 hw, s6 hw, r73_0 hw, r73_1 hw, r73_2 hw, s74 hw, s75 hw, s76 hw, e75, e74, Int.reduceToNat, am_b0, am_divE, ei, am_addE, am_subE, am_mulE, am_laddE, am_lsubE, am_upO, am_upS, am_stS, am_stO, am_tnn, am_brl, am_brg, am_bre, am_brn, am_brG, am_brL, am_st1, am_no2, am_st2, am_clr]
            refine am_wp_br (fun b43 => ?_) (fun b43 => ?_)
            · refine am_wp_go rfl (by simp (disch := omega) only [s73 hw, s6 hw, r73_0 hw, r73_1 hw, r73_2 hw, s74 hw, s75 hw, s76 hw, e75, e74, Int.reduceToNat, am_b0, am_divE, ei, am_addE, am_subE, am_mulE, am_laddE, am_lsubE, am_upO, am_upS, am_stS, am_stO, am_tnn, am_brl, am_brg, am_bre, am_brn, am_brG, am_brL, am_st1, am_no2, am_st2, am_clr, and_self, true_and, and_true, true_or, or_true, List.length_cons, List.length_nil] <;> omega) ?_
              refine am_wp_pc (pc' := 67) rfl ?_
              refine am_wp_go rfl (by simp (disch := omega) only [s73 hw, s6 hw, r73_0 hw, r73_1 hw, r73_2 hw, s74 hw, s75 hw, s76 hw, e75, e74, Int.reduceToNat, am_b0, am_divE, ei, am_addE, am_subE, am_mulE, am_laddE, am_lsubE, am_upO, am_upS, am_stS, am_stO, am_tnn, am_brl, am_brg, am_bre, am_brn, am_brG, am_brL, am_st1, am_no2, am_st2, am_clr, and_self, true_and, and_true, true_or, or_true, List.length_cons, List.length_nil] <;> omega) ?_
              refine am_wp_pc (pc' := 88) rfl ?_
              refine am_wp_go rfl (by simp (disch := omega) only [s73 hw, s6 hw, r73_0 hw, r73_1 hw, r73_2 hw, s74 hw, s75 hw, s76 hw, e75, e74, Int.reduceToNat, am_b0, am_divE, ei, am_addE, am_subE, am_mulE, am_laddE, am_lsubE, am_upO, am_upS, am_stS, am_stO, am_tnn, am_brl, am_brg, am_bre, am_brn, am_brG, am_brL, am_st1, am_no2, am_st2, am_clr, and_self, true_and, and_true, true_or, or_true, List.length_cons, List.length_nil] <;> omega) ?_
              try simp (disch := omega) only [s73 hw, s6 hw, r73_0 hw, r73_1 hw, r73_2 hw, s74 hw, s75 hw, s76 hw, e75, e74, Int.reduceToNat, am_b0, am_divE, ei, am_addE, am_subE, am_mulE, am_laddE, am_lsubE, am_upO, am_upS, am_stS, am_stO, am_tnn, am_brl, am_brg, am_bre, am_brn, am_brG, am_brL, am_st1, am_no2, am_st2, am_clr]
              exact am_wp_ls (NO (by rw [ey, if_neg (fun hc => b43 hc.2)]) _ _) rfl
            · have b43 := Classical.not_not.mp b43
              rw [if_pos ⟨by omega, b43⟩] at ey
              rw [ey, if_neg (by omega), am_tnn] at eO
              have p8 := ax_p8 (s := i / 2) (by omega)
              clear NO
              refine am_wp_go rfl (by simp (disch := omega) only [s73 hw, s6 hw, r73_0 hw, r73_1 hw, r73_2 hw, s74 hw, s75 hw, s76 hw, e75, e74, Int.reduceToNat, am_b0, am_divE, ei, am_addE, am_subE, am_mulE, am_laddE, am_lsubE, am_upO, am_upS, am_stS, am_stO, am_tnn, am_brl, am_brg, am_bre, am_brn, am_brG, am_brL, am_st1, am_no2, am_st2, am_clr, and_self, true_and, and_true, true_or, or_true, List.length_cons, List.length_nil] <;> omega) ?_
              refine am_wp_pc (pc' := 63) rfl ?_
              refine am_wp_go rfl (by simp (disch := omega) only [s73 hw, s6 hw, r73_0 hw, r73_1 hw, r73_2 hw, s74 hw, s75 hw, s76 hw, e75, e74, Int.reduceToNat, am_b0, am_divE, ei, am_addE, am_subE, am_mulE, am_laddE, am_lsubE, am_upO, am_upS, am_stS, am_stO, am_tnn, am_brl, am_brg, am_bre, am_brn, am_brG, am_brL, am_st1, am_no2, am_st2, am_clr, and_self, true_and, and_true, true_or, or_true, List.length_cons, List.length_nil] <;> omega) ?_
              refine am_wp_pc (pc' := 74) rfl ?_
              refine am_wp_go rfl (by simp (disch := omega) only [s73 hw, s6 hw, r73_0 hw, r73_1 hw, r73_2 hw, s74 hw, s75 hw, s76 hw, e75, e74, k3, Int.reduceToNat, am_divE, ei, am_shl1, am_orN, am_addE, am_subE, am_mulE, am_laddE, am_lsubE, am_upO, am_upS, am_stS, am_stO, am_tnn, am_brl, am_brg, am_bre, am_brn, am_brG, am_brL, am_st1, am_no2, am_st2, am_clr, and_self, true_and, and_true, true_or, or_true, List.length_cons, List.length_nil] <;> omega) ?_
              try simp (disch := omega) only [s73 hw, s6 hw, r73_0 hw, r73_1 hw, r73_2 hw, s74 hw, s75 hw, s76 hw, e75, e74, k3, Int.reduceToNat, am_divE, ei, am_shl1, am_orN, am_addE, am_subE, am_mulE, am_laddE, am_lsubE, am_upO, am_upS, am_stS, am_stO, am_tnn, am_brl, am_brg, am_bre, am_brn, am_brG, am_brL, am_st1, am_no2, am_st2, am_clr]
              refine am_wp_ls (ih _ _ _ (fun a h1 h2 => by rw [am_upO h1, am_upO h2, k1 a h1 h2]) (fun j hj => by rw [am_upS, am_stO hj, am_upO (by decide), k2 j hj]) (by rw [am_upS, am_stS rfl, eO]) (by rw [eO]; exact ax_or8 k4 p8) (fun p hp => ?_)) rfl
              rw [am_upO (by decide), am_upS]
              by_cases hpk : p = k
              · rw [am_stS hpk, hpk, ey]
              · rw [am_stO hpk]; exact k5 p (by omega)
  exact am_wp_ls (L 0 (by omega) none none _ (fun a h1 h2 => by rw [am_upO h1]) (fun j hj => by rw [am_upS, am_stO hj]) (by rw [am_upS, am_stS rfl]; rfl) (show 0 < 256 by decide) (fun p hp => absurd hp (Nat.not_lt_zero p))) rfl
theorem w_leastFreeM (hw : wd sh R) (hk : kit I 6 W N) (h76 : ∀ p, p < (W 0).toNat → I 76 p = nw p) (h : Q (am_yi (ckF nw (W 0).toNat)) (m, sl, sh, I, R)) : am_wp (d) 45 0 [some (.inr (.inr (73))), some (.inr (.inr (6))), none] [] (m, sl, sh, I, R) Q := by
  obtain ⟨o1, o2, o3⟩ := kit_P hk
  unfold ckF at h
  refine am_wp_go rfl (by simp (disch := omega) only [s73 hw, r73_2 hw, s76 hw, s6 hw, o1, Int.reduceToNat, am_addE, am_subE, am_mulE, am_laddE, am_lsubE, am_upO, am_upS, am_stS, am_stO, am_tnn, am_brl, am_brg, am_bre, am_brn, am_brG, am_brL, am_st1, am_no2, am_st2, am_clr, and_self, true_and, and_true, true_or, or_true, List.length_cons, List.length_nil] <;> omega) ?_
  try simp (disch := omega) only [s73 hw, r73_2 hw, s76 hw, s6 hw, o1, Int.reduceToNat, am_addE, am_subE, am_mulE, am_laddE, am_lsubE, am_upO, am_upS, am_stS, am_stO, am_tnn, am_brl, am_brg, am_bre, am_brn, am_brG, am_brL, am_st1, am_no2, am_st2, am_clr]
  revert h
  refine am_lp0 (P := fun k => Q (am_yi (am_ff (fun p => decide (nw p = -1)) (W 0).toNat k)) (m, sl, sh, I, R) → am_wp (d) 45 2 [some (.inr (.inr (73))), some (.inr (.inr (6))), some (.inl ((k : Int)))] [] (m, sl, sh, I, R) Q) (W 0).toNat (fun k hkP ih h => ?_)
  refine am_wp_go rfl (by simp (disch := omega) only [s73 hw, r73_2 hw, s76 hw, s6 hw, o1, Int.reduceToNat, am_addE, am_subE, am_mulE, am_laddE, am_lsubE, am_upO, am_upS, am_stS, am_stO, am_tnn, am_brl, am_brg, am_bre, am_brn, am_brG, am_brL, am_st1, am_no2, am_st2, am_clr, and_self, true_and, and_true, true_or, or_true, List.length_cons, List.length_nil] <;> omega) ?_
  try simp (disch := omega) only [s73 hw, r73_2 hw, s76 hw, s6 hw, o1, Int.reduceToNat, am_addE, am_subE, am_mulE, am_laddE, am_lsubE, am_upO, am_upS, am_stS, am_stO, am_tnn, am_brl, am_brg, am_bre, am_brn, am_brG, am_brL, am_st1, am_no2, am_st2, am_clr]
  refine am_wp_br (fun b7 => ?_) (fun b7 => ?_)
  · refine am_wp_go rfl (by simp (disch := omega) only [s73 hw, r73_2 hw, s76 hw, s6 hw, o1, Int.reduceToNat, am_addE, am_subE, am_mulE, am_laddE, am_lsubE, am_upO, am_upS, am_stS, am_stO, am_tnn, am_brl, am_brg, am_bre, am_brn, am_brG, am_brL, am_st1, am_no2, am_st2, am_clr, and_self, true_and, and_true, true_or, or_true, List.length_cons, List.length_nil] <;> omega) ?_
    try simp (disch := omega) only [s73 hw, r73_2 hw, s76 hw, s6 hw, o1, Int.reduceToNat, am_addE, am_subE, am_mulE, am_laddE, am_lsubE, am_upO, am_upS, am_stS, am_stO, am_tnn, am_brl, am_brg, am_bre, am_brn, am_brG, am_brL, am_st1, am_no2, am_st2, am_clr]
    refine am_wp_ret rfl rfl ?_
    rwa [am_ff_end (by omega)] at h
  · have e := h76 k (by omega)
    refine am_wp_go rfl (by simp (disch := omega) only [s73 hw, r73_2 hw, s76 hw, s6 hw, o1, e, Int.reduceToNat, am_addE, am_subE, am_mulE, am_laddE, am_lsubE, am_upO, am_upS, am_stS, am_stO, am_tnn, am_brl, am_brg, am_bre, am_brn, am_brG, am_brL, am_st1, am_no2, am_st2, am_clr, and_self, true_and, and_true, true_or, or_true, List.length_cons, List.length_nil] <;> omega) ?_
    try simp (disch := omega) only [s73 hw, r73_2 hw, s76 hw, s6 hw, o1, e, Int.reduceToNat, am_addE, am_subE, am_mulE, am_laddE, am_lsubE, am_upO, am_upS, am_stS, am_stO, am_tnn, am_brl, am_brg, am_bre, am_brn, am_brG, am_brL, am_st1, am_no2, am_st2, am_clr]
    refine am_wp_br (fun b17 => ?_) (fun b17 => ?_)
    · refine am_wp_go rfl (by simp (disch := omega) only [s73 hw, r73_2 hw, s76 hw, s6 hw, o1, e, Int.reduceToNat, am_addE, am_subE, am_mulE, am_laddE, am_lsubE, am_upO, am_upS, am_stS, am_stO, am_tnn, am_brl, am_brg, am_bre, am_brn, am_brG, am_brL, am_st1, am_no2, am_st2, am_clr, and_self, true_and, and_true, true_or, or_true, List.length_cons, List.length_nil] <;> omega) ?_
      try simp (disch := omega) only [s73 hw, r73_2 hw, s76 hw, s6 hw, o1, e, Int.reduceToNat, am_addE, am_subE, am_mulE, am_laddE, am_lsubE, am_upO, am_upS, am_stS, am_stO, am_tnn, am_brl, am_brg, am_bre, am_brn, am_brG, am_brL, am_st1, am_no2, am_st2, am_clr]
      exact am_wp_ls (ih (by omega) (by rw [am_ff_on (decide_eq_false b17)] at h; exact h)) rfl
    · refine am_wp_go rfl (by simp (disch := omega) only [s73 hw, r73_2 hw, s76 hw, s6 hw, o1, e, Int.reduceToNat, am_addE, am_subE, am_mulE, am_laddE, am_lsubE, am_upO, am_upS, am_stS, am_stO, am_tnn, am_brl, am_brg, am_bre, am_brn, am_brG, am_brL, am_st1, am_no2, am_st2, am_clr, and_self, true_and, and_true, true_or, or_true, List.length_cons, List.length_nil] <;> omega) ?_
      try simp (disch := omega) only [s73 hw, r73_2 hw, s76 hw, s6 hw, o1, e, Int.reduceToNat, am_addE, am_subE, am_mulE, am_laddE, am_lsubE, am_upO, am_upS, am_stS, am_stO, am_tnn, am_brl, am_brg, am_bre, am_brn, am_brG, am_brL, am_st1, am_no2, am_st2, am_clr]
      refine am_wp_ret rfl rfl ?_
      rwa [am_ff_hit (by omega) (decide_eq_true (Classical.not_not.mp b17))] at h
theorem w_mayGoOn {s : Nat} (hw : wd sh R) (hk : kit I 6 W N) (hs : s < nS W) (h74 : ∀ i, i < 2 * nS W → I 74 i = (l i : Int)) (h78 : ∀ s, s < nS W → I 78 s = (f s : Int)) (hf : f s ≤ 2000) (h : Q (am_yi (am_b (0 < l (2 * s) + l (2 * s + 1) ∧ (¬ (l (2 * s) = 0 ∧ l (2 * s + 1) = ndW W (2 * s + 1)) ∨ f s + (W 1).toNat ≤ t)))) (m, sl, sh, I, R)) : am_wp (d) 47 0 [some (.inr (.inr (73))), some (.inr (.inr (6))), some (.inl ((s : Int))), some (.inl ((t : Int))), none] [] (m, sl, sh, I, R) Q := by
  obtain ⟨n1, n2⟩ := kit_n hk
  have e1 := h74 (2 * s) (by omega)
  have e2 := h74 (2 * s + 1) (by omega)
  have e3 := h78 s hs
  have e4 := ndW_kit hk (i := 2 * s + 1) (by omega)
  have e5 : I 6 2 = ((W 1).toNat : Int) := by have := hk.2.1.2.1; obtain ⟨w1, w2, w3, w4, -⟩ := hk.1.1; omega
  have w5 : (W 1).toNat ≤ 9 := by obtain ⟨w1, w2, w3, w4, -⟩ := hk.1.1; omega
  refine am_wp_go rfl (by simp (disch := omega) only [s73 hw, r73_0 hw, s74 hw, r73_4 hw, s78 hw, s6 hw, r6_11 hw, s7 hw, e1, e2, e3, e4, e5, Int.reduceToNat, am_tnA, am_tnM, am_addE, am_subE, am_mulE, am_laddE, am_lsubE, am_upO, am_upS, am_stS, am_stO, am_tnn, am_brl, am_brg, am_bre, am_brn, am_brG, am_brL, am_st1, am_no2, am_st2, am_clr, and_self, true_and, and_true, true_or, or_true, List.length_cons, List.length_nil] <;> omega) ?_
  try simp (disch := omega) only [s73 hw, r73_0 hw, s74 hw, r73_4 hw, s78 hw, s6 hw, r6_11 hw, s7 hw, e1, e2, e3, e4, e5, Int.reduceToNat, am_tnA, am_tnM, am_addE, am_subE, am_mulE, am_laddE, am_lsubE, am_upO, am_upS, am_stS, am_stO, am_tnn, am_brl, am_brg, am_bre, am_brn, am_brG, am_brL, am_st1, am_no2, am_st2, am_clr]
  refine am_wp_br (fun b8 => ?_) (fun b8 => ?_)
  · refine am_wp_go rfl (by simp (disch := omega) only [s73 hw, r73_0 hw, s74 hw, r73_4 hw, s78 hw, s6 hw, r6_11 hw, s7 hw, e1, e2, e3, e4, e5, Int.reduceToNat, am_tnA, am_tnM, am_addE, am_subE, am_mulE, am_laddE, am_lsubE, am_upO, am_upS, am_stS, am_stO, am_tnn, am_brl, am_brg, am_bre, am_brn, am_brG, am_brL, am_st1, am_no2, am_st2, am_clr, and_self, true_and, and_true, true_or, or_true, List.length_cons, List.length_nil] <;> omega) ?_
    try simp (disch := omega) only [s73 hw, r73_0 hw, s74 hw, r73_4 hw, s78 hw, s6 hw, r6_11 hw, s7 hw, e1, e2, e3, e4, e5, Int.reduceToNat, am_tnA, am_tnM, am_addE, am_subE, am_mulE, am_laddE, am_lsubE, am_upO, am_upS, am_stS, am_stO, am_tnn, am_brl, am_brg, am_bre, am_brn, am_brG, am_brL, am_st1, am_no2, am_st2, am_clr]
    refine am_wp_br (fun b34 => ?_) (fun b34 => ?_)
    · refine am_wp_go rfl (by simp (disch := omega) only [s73 hw, r73_0 hw, s74 hw, r73_4 hw, s78 hw, s6 hw, r6_11 hw, s7 hw, e1, e2, e3, e4, e5, Int.reduceToNat, am_tnA, am_tnM, am_addE, am_subE, am_mulE, am_laddE, am_lsubE, am_upO, am_upS, am_stS, am_stO, am_tnn, am_brl, am_brg, am_bre, am_brn, am_brG, am_brL, am_st1, am_no2, am_st2, am_clr, and_self, true_and, and_true, true_or, or_true, List.length_cons, List.length_nil] <;> omega) ?_
      refine am_wp_pc (pc' := 87) rfl ?_
      refine am_wp_go rfl (by simp (disch := omega) only [s73 hw, r73_0 hw, s74 hw, r73_4 hw, s78 hw, s6 hw, r6_11 hw, s7 hw, e1, e2, e3, e4, e5, Int.reduceToNat, am_tnA, am_tnM, am_addE, am_subE, am_mulE, am_laddE, am_lsubE, am_upO, am_upS, am_stS, am_stO, am_tnn, am_brl, am_brg, am_bre, am_brn, am_brG, am_brL, am_st1, am_no2, am_st2, am_clr, and_self, true_and, and_true, true_or, or_true, List.length_cons, List.length_nil] <;> omega) ?_
      try simp (disch := omega) only [s73 hw, r73_0 hw, s74 hw, r73_4 hw, s78 hw, s6 hw, r6_11 hw, s7 hw, e1, e2, e3, e4, e5, Int.reduceToNat, am_tnA, am_tnM, am_addE, am_subE, am_mulE, am_laddE, am_lsubE, am_upO, am_upS, am_stS, am_stO, am_tnn, am_brl, am_brg, am_bre, am_brn, am_brG, am_brL, am_st1, am_no2, am_st2, am_clr]
      refine am_wp_ret rfl rfl ?_
      rwa [am_bT (by omega)] at h
    · omega
  · refine am_wp_go rfl (by simp (disch := omega) only [s73 hw, r73_0 hw, s74 hw, r73_4 hw, s78 hw, s6 hw, r6_11 hw, s7 hw, e1, e2, e3, e4, e5, Int.reduceToNat, am_tnA, am_tnM, am_addE, am_subE, am_mulE, am_laddE, am_lsubE, am_upO, am_upS, am_stS, am_stO, am_tnn, am_brl, am_brg, am_bre, am_brn, am_brG, am_brL, am_st1, am_no2, am_st2, am_clr, and_self, true_and, and_true, true_or, or_true, List.length_cons, List.length_nil] <;> omega) ?_
    try simp (disch := omega) only [s73 hw, r73_0 hw, s74 hw, r73_4 hw, s78 hw, s6 hw, r6_11 hw, s7 hw, e1, e2, e3, e4, e5, Int.reduceToNat, am_tnA, am_tnM, am_addE, am_subE, am_mulE, am_laddE, am_lsubE, am_upO, am_upS, am_stS, am_stO, am_tnn, am_brl, am_brg, am_bre, am_brn, am_brG, am_brL, am_st1, am_no2, am_st2, am_clr]
    refine am_wp_br (fun b21 => ?_) (fun b21 => ?_)
    · refine am_wp_go rfl (by simp (disch := omega) only [s73 hw, r73_0 hw, s74 hw, r73_4 hw, s78 hw, s6 hw, r6_11 hw, s7 hw, e1, e2, e3, e4, e5, Int.reduceToNat, am_tnA, am_tnM, am_addE, am_subE, am_mulE, am_laddE, am_lsubE, am_upO, am_upS, am_stS, am_stO, am_tnn, am_brl, am_brg, am_bre, am_brn, am_brG, am_brL, am_st1, am_no2, am_st2, am_clr, and_self, true_and, and_true, true_or, or_true, List.length_cons, List.length_nil] <;> omega) ?_
      try simp (disch := omega) only [s73 hw, r73_0 hw, s74 hw, r73_4 hw, s78 hw, s6 hw, r6_11 hw, s7 hw, e1, e2, e3, e4, e5, Int.reduceToNat, am_tnA, am_tnM, am_addE, am_subE, am_mulE, am_laddE, am_lsubE, am_upO, am_upS, am_stS, am_stO, am_tnn, am_brl, am_brg, am_bre, am_brn, am_brG, am_brL, am_st1, am_no2, am_st2, am_clr]
      refine am_wp_br (fun b34 => ?_) (fun b34 => ?_)
      · omega
      · refine am_wp_go rfl (by simp (disch := omega) only [s73 hw, r73_0 hw, s74 hw, r73_4 hw, s78 hw, s6 hw, r6_11 hw, s7 hw, e1, e2, e3, e4, e5, Int.reduceToNat, am_tnA, am_tnM, am_addE, am_subE, am_mulE, am_laddE, am_lsubE, am_upO, am_upS, am_stS, am_stO, am_tnn, am_brl, am_brg, am_bre, am_brn, am_brG, am_brL, am_st1, am_no2, am_st2, am_clr, and_self, true_and, and_true, true_or, or_true, List.length_cons, List.length_nil] <;> omega) ?_
        try simp (disch := omega) only [s73 hw, r73_0 hw, s74 hw, r73_4 hw, s78 hw, s6 hw, r6_11 hw, s7 hw, e1, e2, e3, e4, e5, Int.reduceToNat, am_tnA, am_tnM, am_addE, am_subE, am_mulE, am_laddE, am_lsubE, am_upO, am_upS, am_stS, am_stO, am_tnn, am_brl, am_brg, am_bre, am_brn, am_brG, am_brL, am_st1, am_no2, am_st2, am_clr]
        refine am_wp_br (fun b57 => ?_) (fun b57 => ?_)
        · refine am_wp_go rfl (by simp (disch := omega) only [s73 hw, r73_0 hw, s74 hw, r73_4 hw, s78 hw, s6 hw, r6_11 hw, s7 hw, e1, e2, e3, e4, e5, Int.reduceToNat, am_tnA, am_tnM, am_addE, am_subE, am_mulE, am_laddE, am_lsubE, am_upO, am_upS, am_stS, am_stO, am_tnn, am_brl, am_brg, am_bre, am_brn, am_brG, am_brL, am_st1, am_no2, am_st2, am_clr, and_self, true_and, and_true, true_or, or_true, List.length_cons, List.length_nil] <;> omega) ?_
          refine am_wp_pc (pc' := 87) rfl ?_
          refine am_wp_go rfl (by simp (disch := omega) only [s73 hw, r73_0 hw, s74 hw, r73_4 hw, s78 hw, s6 hw, r6_11 hw, s7 hw, e1, e2, e3, e4, e5, Int.reduceToNat, am_tnA, am_tnM, am_addE, am_subE, am_mulE, am_laddE, am_lsubE, am_upO, am_upS, am_stS, am_stO, am_tnn, am_brl, am_brg, am_bre, am_brn, am_brG, am_brL, am_st1, am_no2, am_st2, am_clr, and_self, true_and, and_true, true_or, or_true, List.length_cons, List.length_nil] <;> omega) ?_
          try simp (disch := omega) only [s73 hw, r73_0 hw, s74 hw, r73_4 hw, s78 hw, s6 hw, r6_11 hw, s7 hw, e1, e2, e3, e4, e5, Int.reduceToNat, am_tnA, am_tnM, am_addE, am_subE, am_mulE, am_laddE, am_lsubE, am_upO, am_upS, am_stS, am_stO, am_tnn, am_brl, am_brg, am_bre, am_brn, am_brG, am_brL, am_st1, am_no2, am_st2, am_clr]
          refine am_wp_ret rfl rfl ?_
          rwa [am_bT (by omega)] at h
        · refine am_wp_go rfl (by simp (disch := omega) only [s73 hw, r73_0 hw, s74 hw, r73_4 hw, s78 hw, s6 hw, r6_11 hw, s7 hw, e1, e2, e3, e4, e5, Int.reduceToNat, am_tnA, am_tnM, am_addE, am_subE, am_mulE, am_laddE, am_lsubE, am_upO, am_upS, am_stS, am_stO, am_tnn, am_brl, am_brg, am_bre, am_brn, am_brG, am_brL, am_st1, am_no2, am_st2, am_clr, and_self, true_and, and_true, true_or, or_true, List.length_cons, List.length_nil] <;> omega) ?_
          refine am_wp_pc (pc' := 72) rfl ?_
          refine am_wp_go rfl (by simp (disch := omega) only [s73 hw, r73_0 hw, s74 hw, r73_4 hw, s78 hw, s6 hw, r6_11 hw, s7 hw, e1, e2, e3, e4, e5, Int.reduceToNat, am_tnA, am_tnM, am_addE, am_subE, am_mulE, am_laddE, am_lsubE, am_upO, am_upS, am_stS, am_stO, am_tnn, am_brl, am_brg, am_bre, am_brn, am_brG, am_brL, am_st1, am_no2, am_st2, am_clr, and_self, true_and, and_true, true_or, or_true, List.length_cons, List.length_nil] <;> omega) ?_
          try simp (disch := omega) only [s73 hw, r73_0 hw, s74 hw, r73_4 hw, s78 hw, s6 hw, r6_11 hw, s7 hw, e1, e2, e3, e4, e5, Int.reduceToNat, am_tnA, am_tnM, am_addE, am_subE, am_mulE, am_laddE, am_lsubE, am_upO, am_upS, am_stS, am_stO, am_tnn, am_brl, am_brg, am_bre, am_brn, am_brG, am_brL, am_st1, am_no2, am_st2, am_clr]
          refine am_wp_br (fun b84 => ?_) (fun b84 => ?_)
          · refine am_wp_go rfl (by simp (disch := omega) only [s73 hw, r73_0 hw, s74 hw, r73_4 hw, s78 hw, s6 hw, r6_11 hw, s7 hw, e1, e2, e3, e4, e5, Int.reduceToNat, am_tnA, am_tnM, am_addE, am_subE, am_mulE, am_laddE, am_lsubE, am_upO, am_upS, am_stS, am_stO, am_tnn, am_brl, am_brg, am_bre, am_brn, am_brG, am_brL, am_st1, am_no2, am_st2, am_clr, and_self, true_and, and_true, true_or, or_true, List.length_cons, List.length_nil] <;> omega) ?_
            try simp (disch := omega) only [s73 hw, r73_0 hw, s74 hw, r73_4 hw, s78 hw, s6 hw, r6_11 hw, s7 hw, e1, e2, e3, e4, e5, Int.reduceToNat, am_tnA, am_tnM, am_addE, am_subE, am_mulE, am_laddE, am_lsubE, am_upO, am_upS, am_stS, am_stO, am_tnn, am_brl, am_brg, am_bre, am_brn, am_brG, am_brL, am_st1, am_no2, am_st2, am_clr]
            refine am_wp_ret rfl rfl ?_
            rwa [am_bF (by omega)] at h
          · refine am_wp_go rfl (by simp (disch := omega) only [s73 hw, r73_0 hw, s74 hw, r73_4 hw, s78 hw, s6 hw, r6_11 hw, s7 hw, e1, e2, e3, e4, e5, Int.reduceToNat, am_tnA, am_tnM, am_addE, am_subE, am_mulE, am_laddE, am_lsubE, am_upO, am_upS, am_stS, am_stO, am_tnn, am_brl, am_brg, am_bre, am_brn, am_brG, am_brL, am_st1, am_no2, am_st2, am_clr, and_self, true_and, and_true, true_or, or_true, List.length_cons, List.length_nil] <;> omega) ?_
            try simp (disch := omega) only [s73 hw, r73_0 hw, s74 hw, r73_4 hw, s78 hw, s6 hw, r6_11 hw, s7 hw, e1, e2, e3, e4, e5, Int.reduceToNat, am_tnA, am_tnM, am_addE, am_subE, am_mulE, am_laddE, am_lsubE, am_upO, am_upS, am_stS, am_stO, am_tnn, am_brl, am_brg, am_bre, am_brn, am_brG, am_brL, am_st1, am_no2, am_st2, am_clr]
            refine am_wp_ret rfl rfl ?_
            rwa [am_bT (by omega)] at h
    · refine am_wp_go rfl (by simp (disch := omega) only [s73 hw, r73_0 hw, s74 hw, r73_4 hw, s78 hw, s6 hw, r6_11 hw, s7 hw, e1, e2, e3, e4, e5, Int.reduceToNat, am_tnA, am_tnM, am_addE, am_subE, am_mulE, am_laddE, am_lsubE, am_upO, am_upS, am_stS, am_stO, am_tnn, am_brl, am_brg, am_bre, am_brn, am_brG, am_brL, am_st1, am_no2, am_st2, am_clr, and_self, true_and, and_true, true_or, or_true, List.length_cons, List.length_nil] <;> omega) ?_
      try simp (disch := omega) only [s73 hw, r73_0 hw, s74 hw, r73_4 hw, s78 hw, s6 hw, r6_11 hw, s7 hw, e1, e2, e3, e4, e5, Int.reduceToNat, am_tnA, am_tnM, am_addE, am_subE, am_mulE, am_laddE, am_lsubE, am_upO, am_upS, am_stS, am_stO, am_tnn, am_brl, am_brg, am_bre, am_brn, am_brG, am_brL, am_st1, am_no2, am_st2, am_clr]
      refine am_wp_ret rfl rfl ?_
      rwa [am_bF (by omega)] at h
theorem w_liking {s : Nat} (hw : wd sh R) (hs : s < 8) (e1 : I 74 (2 * s) = (l (2 * s) : Int)) (e2 : I 74 (2 * s + 1) = (l (2 * s + 1) : Int)) (l1 : l (2 * s) ≤ 20) (l2 : l (2 * s + 1) ≤ 20) (h : Q (am_yi (ckL r l s)) (m, sl, sh, I, R)) : am_wp (d) 48 0 [some (.inr (.inr (73))), some (.inl (r)), some (.inl ((s : Int)))] [] (m, sl, sh, I, R) Q := by
  unfold ckL at h
  refine am_wp_go rfl (by simp (disch := omega) only [s73 hw, r73_0 hw, s74 hw, e1, e2, Int.reduceToNat, am_tnA, am_tnM, am_addE, am_subE, am_mulE, am_laddE, am_lsubE, am_upO, am_upS, am_stS, am_stO, am_tnn, am_brl, am_brg, am_bre, am_brn, am_brG, am_brL, am_st1, am_no2, am_st2, am_clr, and_self, true_and, and_true, true_or, or_true, List.length_cons, List.length_nil] <;> omega) ?_
  refine am_wp_lsw (fun q1 => ?_) ⟨fun q1 => ?_, fun q1 => ?_, trivial⟩
  · obtain ⟨q1, q2, -⟩ := q1
    rw [if_neg q1, if_neg q2] at h
    refine am_wp_pc (pc' := 78) rfl ?_
    refine am_wp_go rfl (by simp (disch := omega) only [s73 hw, r73_0 hw, s74 hw, e1, e2, Int.reduceToNat, am_tnA, am_tnM, am_addE, am_subE, am_mulE, am_laddE, am_lsubE, am_upO, am_upS, am_stS, am_stO, am_tnn, am_brl, am_brg, am_bre, am_brn, am_brG, am_brL, am_st1, am_no2, am_st2, am_clr, and_self, true_and, and_true, true_or, or_true, List.length_cons, List.length_nil] <;> omega) ?_
    try simp (disch := omega) only [s73 hw, r73_0 hw, s74 hw, e1, e2, Int.reduceToNat, am_tnA, am_tnM, am_addE, am_subE, am_mulE, am_laddE, am_lsubE, am_upO, am_upS, am_stS, am_stO, am_tnn, am_brl, am_brg, am_bre, am_brn, am_brG, am_brL, am_st1, am_no2, am_st2, am_clr]
    refine am_wp_ret rfl rfl ?_
    exact h
  · rw [if_pos q1] at h
    refine am_wp_pc (pc' := 28) rfl ?_
    refine am_wp_go rfl (by simp (disch := omega) only [s73 hw, r73_0 hw, s74 hw, e1, e2, Int.reduceToNat, am_tnA, am_tnM, am_addE, am_subE, am_mulE, am_laddE, am_lsubE, am_upO, am_upS, am_stS, am_stO, am_tnn, am_brl, am_brg, am_bre, am_brn, am_brG, am_brL, am_st1, am_no2, am_st2, am_clr, and_self, true_and, and_true, true_or, or_true, List.length_cons, List.length_nil] <;> omega) ?_
    try simp (disch := omega) only [s73 hw, r73_0 hw, s74 hw, e1, e2, Int.reduceToNat, am_tnA, am_tnM, am_addE, am_subE, am_mulE, am_laddE, am_lsubE, am_upO, am_upS, am_stS, am_stO, am_tnn, am_brl, am_brg, am_bre, am_brn, am_brG, am_brL, am_st1, am_no2, am_st2, am_clr]
    refine am_wp_ret rfl rfl ?_
    rwa [Int.natCast_add] at h
  · rw [if_neg (by omega), if_pos q1] at h
    refine am_wp_pc (pc' := 48) rfl ?_
    refine am_wp_go rfl (by simp (disch := omega) only [s73 hw, r73_0 hw, s74 hw, e1, e2, Int.reduceToNat, am_tnA, am_tnM, am_addE, am_subE, am_mulE, am_laddE, am_lsubE, am_upO, am_upS, am_stS, am_stO, am_tnn, am_brl, am_brg, am_bre, am_brn, am_brG, am_brL, am_st1, am_no2, am_st2, am_clr, and_self, true_and, and_true, true_or, or_true, List.length_cons, List.length_nil] <;> omega) ?_
    try simp (disch := omega) only [s73 hw, r73_0 hw, s74 hw, e1, e2, Int.reduceToNat, am_tnA, am_tnM, am_addE, am_subE, am_mulE, am_laddE, am_lsubE, am_upO, am_upS, am_stS, am_stO, am_tnn, am_brl, am_brg, am_bre, am_brn, am_brG, am_brL, am_st1, am_no2, am_st2, am_clr]
    refine am_wp_br (fun b56 => ?_) (fun b56 => ?_)
    · refine am_wp_go rfl (by simp (disch := omega) only [s73 hw, r73_0 hw, s74 hw, e1, e2, Int.reduceToNat, am_tnA, am_tnM, am_addE, am_subE, am_mulE, am_laddE, am_lsubE, am_upO, am_upS, am_stS, am_stO, am_tnn, am_brl, am_brg, am_bre, am_brn, am_brG, am_brL, am_st1, am_no2, am_st2, am_clr, and_self, true_and, and_true, true_or, or_true, List.length_cons, List.length_nil] <;> omega) ?_
      try simp (disch := omega) only [s73 hw, r73_0 hw, s74 hw, e1, e2, Int.reduceToNat, am_tnA, am_tnM, am_addE, am_subE, am_mulE, am_laddE, am_lsubE, am_upO, am_upS, am_stS, am_stO, am_tnn, am_brl, am_brg, am_bre, am_brn, am_brG, am_brL, am_st1, am_no2, am_st2, am_clr]
      refine am_wp_ret rfl rfl ?_
      rwa [if_pos (by omega)] at h
    · refine am_wp_go rfl (by simp (disch := omega) only [s73 hw, r73_0 hw, s74 hw, e1, e2, Int.reduceToNat, am_tnA, am_tnM, am_addE, am_subE, am_mulE, am_laddE, am_lsubE, am_upO, am_upS, am_stS, am_stO, am_tnn, am_brl, am_brg, am_bre, am_brn, am_brG, am_brL, am_st1, am_no2, am_st2, am_clr, and_self, true_and, and_true, true_or, or_true, List.length_cons, List.length_nil] <;> omega) ?_
      try simp (disch := omega) only [s73 hw, r73_0 hw, s74 hw, e1, e2, Int.reduceToNat, am_tnA, am_tnM, am_addE, am_subE, am_mulE, am_laddE, am_lsubE, am_upO, am_upS, am_stS, am_stO, am_tnn, am_brl, am_brg, am_bre, am_brn, am_brG, am_brL, am_st1, am_no2, am_st2, am_clr]
      refine am_wp_br (fun b69 => ?_) (fun b69 => ?_)
      · refine am_wp_go rfl (by simp (disch := omega) only [s73 hw, r73_0 hw, s74 hw, e1, e2, Int.reduceToNat, am_tnA, am_tnM, am_addE, am_subE, am_mulE, am_laddE, am_lsubE, am_upO, am_upS, am_stS, am_stO, am_tnn, am_brl, am_brg, am_bre, am_brn, am_brG, am_brL, am_st1, am_no2, am_st2, am_clr, and_self, true_and, and_true, true_or, or_true, List.length_cons, List.length_nil] <;> omega) ?_
        try simp (disch := omega) only [s73 hw, r73_0 hw, s74 hw, e1, e2, Int.reduceToNat, am_tnA, am_tnM, am_addE, am_subE, am_mulE, am_laddE, am_lsubE, am_upO, am_upS, am_stS, am_stO, am_tnn, am_brl, am_brg, am_bre, am_brn, am_brG, am_brL, am_st1, am_no2, am_st2, am_clr]
        refine am_wp_ret rfl rfl ?_
        rwa [if_neg (by omega)] at h
      · refine am_wp_go rfl (by simp (disch := omega) only [s73 hw, r73_0 hw, s74 hw, e1, e2, Int.reduceToNat, am_tnA, am_tnM, am_addE, am_subE, am_mulE, am_laddE, am_lsubE, am_upO, am_upS, am_stS, am_stO, am_tnn, am_brl, am_brg, am_bre, am_brn, am_brG, am_brL, am_st1, am_no2, am_st2, am_clr, and_self, true_and, and_true, true_or, or_true, List.length_cons, List.length_nil] <;> omega) ?_
        try simp (disch := omega) only [s73 hw, r73_0 hw, s74 hw, e1, e2, Int.reduceToNat, am_tnA, am_tnM, am_addE, am_subE, am_mulE, am_laddE, am_lsubE, am_upO, am_upS, am_stS, am_stO, am_tnn, am_brl, am_brg, am_bre, am_brn, am_brG, am_brL, am_st1, am_no2, am_st2, am_clr]
        refine am_wp_ret rfl rfl ?_
        rwa [if_pos (by omega)] at h
theorem w_cookTakes (hw : wd sh R) (hk : kit I 6 W N) (h74 : ∀ i, i < 2 * nS W → I 74 i = (l i : Int)) (hl : ∀ i, i < 2 * nS W → l i ≤ 20) (h78 : ∀ s, s < nS W → I 78 s = (f s : Int)) (hf : ∀ s, s < nS W → f s ≤ 2000) (ho : I 73 6 = (on : Int)) (ho2 : on < 256) (h : Q (am_yi (ckB W r l f t on (nS W))) (m, sl, sh, I, R)) : am_wp (d + 1) 46 0 [some (.inr (.inr (73))), some (.inr (.inr (6))), some (.inl (r)), some (.inl ((t : Int))), none, none, none, none] [] (m, sl, sh, I, R) Q := by
  obtain ⟨n1, n2⟩ := kit_n hk
  refine am_wp_go rfl (by simp (disch := omega) only [s73 hw, s6 hw, n1, ho, am_b0, am_addE, am_subE, am_mulE, am_laddE, am_lsubE, am_upO, am_upS, am_stS, am_stO, am_tnn, am_brl, am_brg, am_bre, am_brn, am_brG, am_brL, am_st1, am_no2, am_st2, am_clr, and_self, true_and, and_true, true_or, or_true, List.length_cons, List.length_nil] <;> omega) ?_
  try simp (disch := omega) only [s73 hw, s6 hw, n1, ho, am_b0, am_addE, am_subE, am_mulE, am_laddE, am_lsubE, am_upO, am_upS, am_stS, am_stO, am_tnn, am_brl, am_brg, am_bre, am_brn, am_brG, am_brL, am_st1, am_no2, am_st2, am_clr]
  have L : ∀ k, k ≤ nS W → ∀ (z7 : Option am_V), am_wp (d + 1) 46 9 [some (.inr (.inr (73))), some (.inr (.inr (6))), some (.inl (r)), some (.inl ((t : Int))), some (.inl (ckB W r l f t on k)), some (.inl ((if ckB W r l f t on k = -1 then -1 else (ckL r l (ckB W r l f t on k).toNat : Int)))), some (.inl ((k : Int))), z7] [] (m, sl, sh, I, R) Q := by
    refine am_lp (nS W) (fun k hkl ih z7 => ?_)
    have mv := ckB_v (W := W) (r := r) (l := l) (f := f) (t := t) (on := on) k
    have o4 : on.testBit k = decide (on / 2 ^ k % 2 = 1) := Nat.testBit_eq_decide_div_mod_eq
    have o6 : ((on : Int)) / 2 ^ k = ((on / 2 ^ k : Nat) : Int) := by simp
    have o7 := Nat.div_le_self on (2 ^ k)
    refine am_wp_go rfl (by simp (disch := omega) only [s73 hw, s6 hw, n1, ho, am_b0, am_addE, am_subE, am_mulE, am_laddE, am_lsubE, am_upO, am_upS, am_stS, am_stO, am_tnn, am_brl, am_brg, am_bre, am_brn, am_brG, am_brL, am_st1, am_no2, am_st2, am_clr, and_self, true_and, and_true, true_or, or_true, List.length_cons, List.length_nil] <;> omega) ?_
    try simp (disch := omega) only [s73 hw, s6 hw, n1, ho, am_b0, am_addE, am_subE, am_mulE, am_laddE, am_lsubE, am_upO, am_upS, am_stS, am_stO, am_tnn, am_brl, am_brg, am_bre, am_brn, am_brG, am_brL, am_st1, am_no2, am_st2, am_clr]
    refine am_wp_br (fun b15 => ?_) (fun b15 => ?_)
    · have : k = nS W := by omega
      subst this
      refine am_wp_go rfl (by simp (disch := omega) only [s73 hw, s6 hw, n1, ho, am_b0, am_addE, am_subE, am_mulE, am_laddE, am_lsubE, am_upO, am_upS, am_stS, am_stO, am_tnn, am_brl, am_brg, am_bre, am_brn, am_brG, am_brL, am_st1, am_no2, am_st2, am_clr, and_self, true_and, and_true, true_or, or_true, List.length_cons, List.length_nil] <;> omega) ?_
      try simp (disch := omega) only [s73 hw, s6 hw, n1, ho, am_b0, am_addE, am_subE, am_mulE, am_laddE, am_lsubE, am_upO, am_upS, am_stS, am_stO, am_tnn, am_brl, am_brg, am_bre, am_brn, am_brG, am_brL, am_st1, am_no2, am_st2, am_clr]
      refine am_wp_ret rfl rfl ?_
      exact h
    · have ih := ih (by omega)
      unfold ckB at ih
      clear h
      have mt := ckM_t (W := W) (l := l) (f := f) (t := t) (on := on) (s := k)
      rw [o4] at mt
      generalize on / 2 ^ k = q at o6 o7 mt
      refine am_wp_go rfl (by simp (disch := omega) only [s73 hw, s6 hw, n1, ho, am_ushrN, o6, am_and1, am_b0, am_addE, am_subE, am_mulE, am_laddE, am_lsubE, am_upO, am_upS, am_stS, am_stO, am_tnn, am_brl, am_brg, am_bre, am_brn, am_brG, am_brL, am_st1, am_no2, am_st2, am_clr, and_self, true_and, and_true, true_or, or_true, List.length_cons, List.length_nil] <;> omega) ?_
      try simp (disch := omega) only [s73 hw, s6 hw, n1, ho, am_ushrN, o6, am_and1, am_b0, am_addE, am_subE, am_mulE, am_laddE, am_lsubE, am_upO, am_upS, am_stS, am_stO, am_tnn, am_brl, am_brg, am_bre, am_brn, am_brG, am_brL, am_st1, am_no2, am_st2, am_clr]
      refine am_wp_br (fun b27 => ?_) (fun b27 => ?_)
      · have hm : ¬ ckM W l f t on k = true := fun hc => by have := (mt.mp hc).1; rw [decide_eq_false_iff_not] at this; omega
        rw [if_neg (fun hc => hm hc.1)] at ih
        refine am_wp_go rfl (by simp (disch := omega) only [s73 hw, s6 hw, n1, ho, am_ushrN, o6, am_and1, am_b0, am_addE, am_subE, am_mulE, am_laddE, am_lsubE, am_upO, am_upS, am_stS, am_stO, am_tnn, am_brl, am_brg, am_bre, am_brn, am_brG, am_brL, am_st1, am_no2, am_st2, am_clr, and_self, true_and, and_true, true_or, or_true, List.length_cons, List.length_nil] <;> omega) ?_
        try simp (disch := omega) only [s73 hw, s6 hw, n1, ho, am_ushrN, o6, am_and1, am_b0, am_addE, am_subE, am_mulE, am_laddE, am_lsubE, am_upO, am_upS, am_stS, am_stO, am_tnn, am_brl, am_brg, am_bre, am_brn, am_brG, am_brL, am_st1, am_no2, am_st2, am_clr]
        exact am_wp_ls (ih _) rfl
      · refine am_wp_go rfl (by simp (disch := omega) only [s73 hw, s6 hw, n1, ho, am_ushrN, o6, am_and1, am_b0, am_addE, am_subE, am_mulE, am_laddE, am_lsubE, am_upO, am_upS, am_stS, am_stO, am_tnn, am_brl, am_brg, am_bre, am_brn, am_brG, am_brL, am_st1, am_no2, am_st2, am_clr, and_self, true_and, and_true, true_or, or_true, List.length_cons, List.length_nil] <;> omega) ?_
        try simp (disch := omega) only [s73 hw, s6 hw, n1, ho, am_ushrN, o6, am_and1, am_b0, am_addE, am_subE, am_mulE, am_laddE, am_lsubE, am_upO, am_upS, am_stS, am_stO, am_tnn, am_brl, am_brg, am_bre, am_brn, am_brG, am_brL, am_st1, am_no2, am_st2, am_clr]
        refine am_wp_cc rfl rfl rfl (congrArg Prod.fst (s73 hw)) (w_mayGoOn (s := k) (t := t) hw hk (by omega) h74 h78 (hf k (by omega)) ⟨_, rfl, ?_⟩)
        refine am_wp_go rfl (by simp (disch := omega) only [s73 hw, s6 hw, n1, ho, am_ushrN, o6, am_and1, am_b0, am_addE, am_subE, am_mulE, am_laddE, am_lsubE, am_upO, am_upS, am_stS, am_stO, am_tnn, am_brl, am_brg, am_bre, am_brn, am_brG, am_brL, am_st1, am_no2, am_st2, am_clr, and_self, true_and, and_true, true_or, or_true, List.length_cons, List.length_nil] <;> omega) ?_
        try simp (disch := omega) only [s73 hw, s6 hw, n1, ho, am_ushrN, o6, am_and1, am_b0, am_addE, am_subE, am_mulE, am_laddE, am_lsubE, am_upO, am_upS, am_stS, am_stO, am_tnn, am_brl, am_brg, am_bre, am_brn, am_brG, am_brL, am_st1, am_no2, am_st2, am_clr]
        refine am_wp_br (fun b38 => ?_) (fun b38 => ?_)
        · have hm : ¬ ckM W l f t on k = true := fun hc => b38 (mt.mp hc).2
          rw [if_neg (fun hc => hm hc.1)] at ih
          refine am_wp_go rfl (by simp (disch := omega) only [s73 hw, s6 hw, n1, ho, am_ushrN, o6, am_and1, am_b0, am_addE, am_subE, am_mulE, am_laddE, am_lsubE, am_upO, am_upS, am_stS, am_stO, am_tnn, am_brl, am_brg, am_bre, am_brn, am_brG, am_brL, am_st1, am_no2, am_st2, am_clr, and_self, true_and, and_true, true_or, or_true, List.length_cons, List.length_nil] <;> omega) ?_
          try simp (disch := omega) only [s73 hw, s6 hw, n1, ho, am_ushrN, o6, am_and1, am_b0, am_addE, am_subE, am_mulE, am_laddE, am_lsubE, am_upO, am_upS, am_stS, am_stO, am_tnn, am_brl, am_brg, am_bre, am_brn, am_brG, am_brL, am_st1, am_no2, am_st2, am_clr]
          exact am_wp_ls (ih _) rfl
        · have hm : ckM W l f t on k = true := mt.mpr ⟨decide_eq_false (by omega), Classical.not_not.mp b38⟩
          clear mt b38
          refine am_wp_go rfl (by simp (disch := omega) only [s73 hw, s6 hw, n1, ho, am_ushrN, o6, am_and1, am_b0, am_addE, am_subE, am_mulE, am_laddE, am_lsubE, am_upO, am_upS, am_stS, am_stO, am_tnn, am_brl, am_brg, am_bre, am_brn, am_brG, am_brL, am_st1, am_no2, am_st2, am_clr, and_self, true_and, and_true, true_or, or_true, List.length_cons, List.length_nil] <;> omega) ?_
          try simp (disch := omega) only [s73 hw, s6 hw, n1, ho, am_ushrN, o6, am_and1, am_b0, am_addE, am_subE, am_mulE, am_laddE, am_lsubE, am_upO, am_upS, am_stS, am_stO, am_tnn, am_brl, am_brg, am_bre, am_brn, am_brG, am_brL, am_st1, am_no2, am_st2, am_clr]
          refine am_wp_cc rfl rfl rfl (congrArg Prod.fst (s73 hw)) (w_liking (r := r) (l := l) (s := k) hw (by omega) (h74 _ (by omega)) (h74 _ (by omega)) (hl _ (by omega)) (hl _ (by omega)) ⟨_, rfl, ?_⟩)
          refine am_wp_go rfl (by simp (disch := omega) only [s73 hw, s6 hw, n1, ho, am_ushrN, o6, am_and1, am_b0, am_addE, am_subE, am_mulE, am_laddE, am_lsubE, am_upO, am_upS, am_stS, am_stO, am_tnn, am_brl, am_brg, am_bre, am_brn, am_brG, am_brL, am_st1, am_no2, am_st2, am_clr, and_self, true_and, and_true, true_or, or_true, List.length_cons, List.length_nil] <;> omega) ?_
          try simp (disch := omega) only [s73 hw, s6 hw, n1, ho, am_ushrN, o6, am_and1, am_b0, am_addE, am_subE, am_mulE, am_laddE, am_lsubE, am_upO, am_upS, am_stS, am_stO, am_tnn, am_brl, am_brg, am_bre, am_brn, am_brG, am_brL, am_st1, am_no2, am_st2, am_clr]
          rcases mv with m1 | ⟨j, m1, m2, m3⟩
          · rw [m1] at ih ⊢
            rw [if_pos ⟨hm, Or.inl rfl⟩, if_neg (by omega), am_tnn] at ih
            refine am_wp_br (fun b54 => ?_) (fun b54 => ?_)
            · rw [if_pos rfl] at b54; omega
            · refine am_wp_go rfl (by simp (disch := omega) only [s73 hw, s6 hw, n1, ho, am_ushrN, o6, am_and1, am_b0, am_addE, am_subE, am_mulE, am_laddE, am_lsubE, am_upO, am_upS, am_stS, am_stO, am_tnn, am_brl, am_brg, am_bre, am_brn, am_brG, am_brL, am_st1, am_no2, am_st2, am_clr, and_self, true_and, and_true, true_or, or_true, List.length_cons, List.length_nil] <;> omega) ?_
              try simp (disch := omega) only [s73 hw, s6 hw, n1, ho, am_ushrN, o6, am_and1, am_b0, am_addE, am_subE, am_mulE, am_laddE, am_lsubE, am_upO, am_upS, am_stS, am_stO, am_tnn, am_brl, am_brg, am_bre, am_brn, am_brG, am_brL, am_st1, am_no2, am_st2, am_clr]
              exact am_wp_ls (ih _) rfl
          · rw [m1] at ih ⊢
            rw [am_tnn] at ih ⊢
            rw [if_neg (by omega : ¬ (j : Int) = -1)]
            refine am_wp_br (fun b54 => ?_) (fun b54 => ?_)
            · rw [if_neg (fun hc => by rcases hc.2 with h | h <;> omega), if_neg (by omega), am_tnn] at ih
              refine am_wp_go rfl (by simp (disch := omega) only [s73 hw, s6 hw, n1, ho, am_ushrN, o6, am_and1, am_b0, am_addE, am_subE, am_mulE, am_laddE, am_lsubE, am_upO, am_upS, am_stS, am_stO, am_tnn, am_brl, am_brg, am_bre, am_brn, am_brG, am_brL, am_st1, am_no2, am_st2, am_clr, and_self, true_and, and_true, true_or, or_true, List.length_cons, List.length_nil] <;> omega) ?_
              try simp (disch := omega) only [s73 hw, s6 hw, n1, ho, am_ushrN, o6, am_and1, am_b0, am_addE, am_subE, am_mulE, am_laddE, am_lsubE, am_upO, am_upS, am_stS, am_stO, am_tnn, am_brl, am_brg, am_bre, am_brn, am_brG, am_brL, am_st1, am_no2, am_st2, am_clr]
              exact am_wp_ls (ih _) rfl
            · rw [if_pos ⟨hm, Or.inr (by omega)⟩, if_neg (by omega), am_tnn] at ih
              refine am_wp_go rfl (by simp (disch := omega) only [s73 hw, s6 hw, n1, ho, am_ushrN, o6, am_and1, am_b0, am_addE, am_subE, am_mulE, am_laddE, am_lsubE, am_upO, am_upS, am_stS, am_stO, am_tnn, am_brl, am_brg, am_bre, am_brn, am_brG, am_brL, am_st1, am_no2, am_st2, am_clr, and_self, true_and, and_true, true_or, or_true, List.length_cons, List.length_nil] <;> omega) ?_
              try simp (disch := omega) only [s73 hw, s6 hw, n1, ho, am_ushrN, o6, am_and1, am_b0, am_addE, am_subE, am_mulE, am_laddE, am_lsubE, am_upO, am_upS, am_stS, am_stO, am_tnn, am_brl, am_brg, am_bre, am_brn, am_brG, am_brL, am_st1, am_no2, am_st2, am_clr]
              exact am_wp_ls (ih _) rfl
  exact am_wp_ls (L 0 (by omega) none) rfl
theorem w_sideToFry {s : Nat} (hw : wd sh R) (hk : kit I 6 W N) (hs : s < nS W) (h74 : ∀ i, i < 2 * nS W → I 74 i = (l i : Int)) (hB : 0 < l (2 * s) → l (2 * s + 1) = ndW W (2 * s + 1)) (h : Q (am_yi (ckS l s)) (m, sl, sh, I, R)) : am_wp (d) 49 0 [some (.inr (.inr (73))), some (.inr (.inr (6))), some (.inl ((s : Int))), none] [] (m, sl, sh, I, R) Q := by
  obtain ⟨n1, n2⟩ := kit_n hk
  have e1 := h74 (2 * s) (by omega)
  have e2 := h74 (2 * s + 1) (by omega)
  have e3 := ndW_kit hk (i := 2 * s) (by omega)
  have e4 := ndW_kit hk (i := 2 * s + 1) (by omega)
  unfold ckS at h
  have E : am_wp (d) 49 4 [some (.inr (.inr (73))), some (.inr (.inr (6))), some (.inl ((s : Int))), some (.inl (2 * (s : Int) + 2))] [] (m, sl, sh, I, R) Q := by
    refine am_wp_go rfl (by simp (disch := omega) only [s73 hw, r73_0 hw, s74 hw, s6 hw, r6_11 hw, s7 hw, e1, e2, e3, e4, Int.reduceToNat, am_tnA, am_tnM, am_addE, am_subE, am_mulE, am_laddE, am_lsubE, am_upO, am_upS, am_stS, am_stO, am_tnn, am_brl, am_brg, am_bre, am_brn, am_brG, am_brL, am_st1, am_no2, am_st2, am_clr, and_self, true_and, and_true, true_or, or_true, List.length_cons, List.length_nil] <;> omega) ?_
    try simp (disch := omega) only [s73 hw, r73_0 hw, s74 hw, s6 hw, r6_11 hw, s7 hw, e1, e2, e3, e4, Int.reduceToNat, am_tnA, am_tnM, am_addE, am_subE, am_mulE, am_laddE, am_lsubE, am_upO, am_upS, am_stS, am_stO, am_tnn, am_brl, am_brg, am_bre, am_brn, am_brG, am_brL, am_st1, am_no2, am_st2, am_clr]
    refine am_wp_br (fun b10 => ?_) (fun b10 => ?_)
    · refine am_wp_go rfl (by simp (disch := omega) only [s73 hw, r73_0 hw, s74 hw, s6 hw, r6_11 hw, s7 hw, e1, e2, e3, e4, Int.reduceToNat, am_tnA, am_tnM, am_addE, am_subE, am_mulE, am_laddE, am_lsubE, am_upO, am_upS, am_stS, am_stO, am_tnn, am_brl, am_brg, am_bre, am_brn, am_brG, am_brL, am_st1, am_no2, am_st2, am_clr, and_self, true_and, and_true, true_or, or_true, List.length_cons, List.length_nil] <;> omega) ?_
      try simp (disch := omega) only [s73 hw, r73_0 hw, s74 hw, s6 hw, r6_11 hw, s7 hw, e1, e2, e3, e4, Int.reduceToNat, am_tnA, am_tnM, am_addE, am_subE, am_mulE, am_laddE, am_lsubE, am_upO, am_upS, am_stS, am_stO, am_tnn, am_brl, am_brg, am_bre, am_brn, am_brG, am_brL, am_st1, am_no2, am_st2, am_clr]
      refine am_wp_br (fun b53 => ?_) (fun b53 => ?_)
      · refine am_wp_go rfl (by simp (disch := omega) only [s73 hw, r73_0 hw, s74 hw, s6 hw, r6_11 hw, s7 hw, e1, e2, e3, e4, Int.reduceToNat, am_tnA, am_tnM, am_addE, am_subE, am_mulE, am_laddE, am_lsubE, am_upO, am_upS, am_stS, am_stO, am_tnn, am_brl, am_brg, am_bre, am_brn, am_brG, am_brL, am_st1, am_no2, am_st2, am_clr, and_self, true_and, and_true, true_or, or_true, List.length_cons, List.length_nil] <;> omega) ?_
        try simp (disch := omega) only [s73 hw, r73_0 hw, s74 hw, s6 hw, r6_11 hw, s7 hw, e1, e2, e3, e4, Int.reduceToNat, am_tnA, am_tnM, am_addE, am_subE, am_mulE, am_laddE, am_lsubE, am_upO, am_upS, am_stS, am_stO, am_tnn, am_brl, am_brg, am_bre, am_brn, am_brG, am_brL, am_st1, am_no2, am_st2, am_clr]
        refine am_wp_ret rfl rfl ?_
        rwa [if_neg (by omega), Int.natCast_add, Int.natCast_mul] at h
      · refine am_wp_go rfl (by simp (disch := omega) only [s73 hw, r73_0 hw, s74 hw, s6 hw, r6_11 hw, s7 hw, e1, e2, e3, e4, Int.reduceToNat, am_tnA, am_tnM, am_addE, am_subE, am_mulE, am_laddE, am_lsubE, am_upO, am_upS, am_stS, am_stO, am_tnn, am_brl, am_brg, am_bre, am_brn, am_brG, am_brL, am_st1, am_no2, am_st2, am_clr, and_self, true_and, and_true, true_or, or_true, List.length_cons, List.length_nil] <;> omega) ?_
        try simp (disch := omega) only [s73 hw, r73_0 hw, s74 hw, s6 hw, r6_11 hw, s7 hw, e1, e2, e3, e4, Int.reduceToNat, am_tnA, am_tnM, am_addE, am_subE, am_mulE, am_laddE, am_lsubE, am_upO, am_upS, am_stS, am_stO, am_tnn, am_brl, am_brg, am_bre, am_brn, am_brG, am_brL, am_st1, am_no2, am_st2, am_clr]
        refine am_wp_ret rfl rfl ?_
        rwa [if_pos (by omega), Int.natCast_mul] at h
    · omega
  have E2 : am_wp (d) 49 4 [some (.inr (.inr (73))), some (.inr (.inr (6))), some (.inl ((s : Int))), some (.inl (2 * (s : Int) + 1))] [] (m, sl, sh, I, R) Q := by
    refine am_wp_go rfl (by simp (disch := omega) only [s73 hw, r73_0 hw, s74 hw, s6 hw, r6_11 hw, s7 hw, e1, e2, e3, e4, Int.reduceToNat, am_tnA, am_tnM, am_addE, am_subE, am_mulE, am_laddE, am_lsubE, am_upO, am_upS, am_stS, am_stO, am_tnn, am_brl, am_brg, am_bre, am_brn, am_brG, am_brL, am_st1, am_no2, am_st2, am_clr, and_self, true_and, and_true, true_or, or_true, List.length_cons, List.length_nil] <;> omega) ?_
    try simp (disch := omega) only [s73 hw, r73_0 hw, s74 hw, s6 hw, r6_11 hw, s7 hw, e1, e2, e3, e4, Int.reduceToNat, am_tnA, am_tnM, am_addE, am_subE, am_mulE, am_laddE, am_lsubE, am_upO, am_upS, am_stS, am_stO, am_tnn, am_brl, am_brg, am_bre, am_brn, am_brG, am_brL, am_st1, am_no2, am_st2, am_clr]
    refine am_wp_br (fun b10 => ?_) (fun b10 => ?_)
    · omega
    · refine am_wp_go rfl (by simp (disch := omega) only [s73 hw, r73_0 hw, s74 hw, s6 hw, r6_11 hw, s7 hw, e1, e2, e3, e4, Int.reduceToNat, am_tnA, am_tnM, am_addE, am_subE, am_mulE, am_laddE, am_lsubE, am_upO, am_upS, am_stS, am_stO, am_tnn, am_brl, am_brg, am_bre, am_brn, am_brG, am_brL, am_st1, am_no2, am_st2, am_clr, and_self, true_and, and_true, true_or, or_true, List.length_cons, List.length_nil] <;> omega) ?_
      try simp (disch := omega) only [s73 hw, r73_0 hw, s74 hw, s6 hw, r6_11 hw, s7 hw, e1, e2, e3, e4, Int.reduceToNat, am_tnA, am_tnM, am_addE, am_subE, am_mulE, am_laddE, am_lsubE, am_upO, am_upS, am_stS, am_stO, am_tnn, am_brl, am_brg, am_bre, am_brn, am_brG, am_brL, am_st1, am_no2, am_st2, am_clr]
      refine am_wp_br (fun b19 => ?_) (fun b19 => ?_)
      · refine am_wp_go rfl (by simp (disch := omega) only [s73 hw, r73_0 hw, s74 hw, s6 hw, r6_11 hw, s7 hw, e1, e2, e3, e4, Int.reduceToNat, am_tnA, am_tnM, am_addE, am_subE, am_mulE, am_laddE, am_lsubE, am_upO, am_upS, am_stS, am_stO, am_tnn, am_brl, am_brg, am_bre, am_brn, am_brG, am_brL, am_st1, am_no2, am_st2, am_clr, and_self, true_and, and_true, true_or, or_true, List.length_cons, List.length_nil] <;> omega) ?_
        try simp (disch := omega) only [s73 hw, r73_0 hw, s74 hw, s6 hw, r6_11 hw, s7 hw, e1, e2, e3, e4, Int.reduceToNat, am_tnA, am_tnM, am_addE, am_subE, am_mulE, am_laddE, am_lsubE, am_upO, am_upS, am_stS, am_stO, am_tnn, am_brl, am_brg, am_bre, am_brn, am_brG, am_brL, am_st1, am_no2, am_st2, am_clr]
        exact am_wp_ls E (by simp only [List.cons.injEq, Option.some.injEq, Sum.inl.injEq, and_true, true_and]; omega)
      · refine am_wp_go rfl (by simp (disch := omega) only [s73 hw, r73_0 hw, s74 hw, s6 hw, r6_11 hw, s7 hw, e1, e2, e3, e4, Int.reduceToNat, am_tnA, am_tnM, am_addE, am_subE, am_mulE, am_laddE, am_lsubE, am_upO, am_upS, am_stS, am_stO, am_tnn, am_brl, am_brg, am_bre, am_brn, am_brG, am_brL, am_st1, am_no2, am_st2, am_clr, and_self, true_and, and_true, true_or, or_true, List.length_cons, List.length_nil] <;> omega) ?_
        try simp (disch := omega) only [s73 hw, r73_0 hw, s74 hw, s6 hw, r6_11 hw, s7 hw, e1, e2, e3, e4, Int.reduceToNat, am_tnA, am_tnM, am_addE, am_subE, am_mulE, am_laddE, am_lsubE, am_upO, am_upS, am_stS, am_stO, am_tnn, am_brl, am_brg, am_bre, am_brn, am_brG, am_brL, am_st1, am_no2, am_st2, am_clr]
        refine am_wp_br (fun b34 => ?_) (fun b34 => ?_)
        · refine am_wp_go rfl (by simp (disch := omega) only [s73 hw, r73_0 hw, s74 hw, s6 hw, r6_11 hw, s7 hw, e1, e2, e3, e4, Int.reduceToNat, am_tnA, am_tnM, am_addE, am_subE, am_mulE, am_laddE, am_lsubE, am_upO, am_upS, am_stS, am_stO, am_tnn, am_brl, am_brg, am_bre, am_brn, am_brG, am_brL, am_st1, am_no2, am_st2, am_clr, and_self, true_and, and_true, true_or, or_true, List.length_cons, List.length_nil] <;> omega) ?_
          try simp (disch := omega) only [s73 hw, r73_0 hw, s74 hw, s6 hw, r6_11 hw, s7 hw, e1, e2, e3, e4, Int.reduceToNat, am_tnA, am_tnM, am_addE, am_subE, am_mulE, am_laddE, am_lsubE, am_upO, am_upS, am_stS, am_stO, am_tnn, am_brl, am_brg, am_bre, am_brn, am_brG, am_brL, am_st1, am_no2, am_st2, am_clr]
          exact am_wp_ls E (by simp only [List.cons.injEq, Option.some.injEq, Sum.inl.injEq, and_true, true_and]; omega)
        · refine am_wp_go rfl (by simp (disch := omega) only [s73 hw, r73_0 hw, s74 hw, s6 hw, r6_11 hw, s7 hw, e1, e2, e3, e4, Int.reduceToNat, am_tnA, am_tnM, am_addE, am_subE, am_mulE, am_laddE, am_lsubE, am_upO, am_upS, am_stS, am_stO, am_tnn, am_brl, am_brg, am_bre, am_brn, am_brG, am_brL, am_st1, am_no2, am_st2, am_clr, and_self, true_and, and_true, true_or, or_true, List.length_cons, List.length_nil] <;> omega) ?_
          try simp (disch := omega) only [s73 hw, r73_0 hw, s74 hw, s6 hw, r6_11 hw, s7 hw, e1, e2, e3, e4, Int.reduceToNat, am_tnA, am_tnM, am_addE, am_subE, am_mulE, am_laddE, am_lsubE, am_upO, am_upS, am_stS, am_stO, am_tnn, am_brl, am_brg, am_bre, am_brn, am_brG, am_brL, am_st1, am_no2, am_st2, am_clr]
          refine am_wp_ret rfl rfl ?_
          rwa [if_neg (fun hc => by have := hB hc; omega), Int.natCast_add, Int.natCast_mul] at h
  clear hB
  refine am_wp_go rfl (by simp (disch := omega) only [s73 hw, r73_0 hw, s74 hw, s6 hw, r6_11 hw, s7 hw, e1, e2, e3, e4, Int.reduceToNat, am_tnA, am_tnM, am_addE, am_subE, am_mulE, am_laddE, am_lsubE, am_upO, am_upS, am_stS, am_stO, am_tnn, am_brl, am_brg, am_bre, am_brn, am_brG, am_brL, am_st1, am_no2, am_st2, am_clr, and_self, true_and, and_true, true_or, or_true, List.length_cons, List.length_nil] <;> omega) ?_
  try simp (disch := omega) only [s73 hw, r73_0 hw, s74 hw, s6 hw, r6_11 hw, s7 hw, e1, e2, e3, e4, Int.reduceToNat, am_tnA, am_tnM, am_addE, am_subE, am_mulE, am_laddE, am_lsubE, am_upO, am_upS, am_stS, am_stO, am_tnn, am_brl, am_brg, am_bre, am_brn, am_brG, am_brL, am_st1, am_no2, am_st2, am_clr]
  refine am_wp_go rfl (by simp (disch := omega) only [s73 hw, r73_0 hw, s74 hw, s6 hw, r6_11 hw, s7 hw, e1, e2, e3, e4, Int.reduceToNat, am_tnA, am_tnM, am_addE, am_subE, am_mulE, am_laddE, am_lsubE, am_upO, am_upS, am_stS, am_stO, am_tnn, am_brl, am_brg, am_bre, am_brn, am_brG, am_brL, am_st1, am_no2, am_st2, am_clr, and_self, true_and, and_true, true_or, or_true, List.length_cons, List.length_nil] <;> omega) ?_
  try simp (disch := omega) only [s73 hw, r73_0 hw, s74 hw, s6 hw, r6_11 hw, s7 hw, e1, e2, e3, e4, Int.reduceToNat, am_tnA, am_tnM, am_addE, am_subE, am_mulE, am_laddE, am_lsubE, am_upO, am_upS, am_stS, am_stO, am_tnn, am_brl, am_brg, am_bre, am_brn, am_brG, am_brL, am_st1, am_no2, am_st2, am_clr]
  refine am_wp_br (fun b10 => ?_) (fun b10 => ?_)
  · omega
  · refine am_wp_go rfl (by simp (disch := omega) only [s73 hw, r73_0 hw, s74 hw, s6 hw, r6_11 hw, s7 hw, e1, e2, e3, e4, Int.reduceToNat, am_tnA, am_tnM, am_addE, am_subE, am_mulE, am_laddE, am_lsubE, am_upO, am_upS, am_stS, am_stO, am_tnn, am_brl, am_brg, am_bre, am_brn, am_brG, am_brL, am_st1, am_no2, am_st2, am_clr, and_self, true_and, and_true, true_or, or_true, List.length_cons, List.length_nil] <;> omega) ?_
    try simp (disch := omega) only [s73 hw, r73_0 hw, s74 hw, s6 hw, r6_11 hw, s7 hw, e1, e2, e3, e4, Int.reduceToNat, am_tnA, am_tnM, am_addE, am_subE, am_mulE, am_laddE, am_lsubE, am_upO, am_upS, am_stS, am_stO, am_tnn, am_brl, am_brg, am_bre, am_brn, am_brG, am_brL, am_st1, am_no2, am_st2, am_clr]
    refine am_wp_br (fun b19 => ?_) (fun b19 => ?_)
    · refine am_wp_go rfl (by simp (disch := omega) only [s73 hw, r73_0 hw, s74 hw, s6 hw, r6_11 hw, s7 hw, e1, e2, e3, e4, Int.reduceToNat, am_tnA, am_tnM, am_addE, am_subE, am_mulE, am_laddE, am_lsubE, am_upO, am_upS, am_stS, am_stO, am_tnn, am_brl, am_brg, am_bre, am_brn, am_brG, am_brL, am_st1, am_no2, am_st2, am_clr, and_self, true_and, and_true, true_or, or_true, List.length_cons, List.length_nil] <;> omega) ?_
      try simp (disch := omega) only [s73 hw, r73_0 hw, s74 hw, s6 hw, r6_11 hw, s7 hw, e1, e2, e3, e4, Int.reduceToNat, am_tnA, am_tnM, am_addE, am_subE, am_mulE, am_laddE, am_lsubE, am_upO, am_upS, am_stS, am_stO, am_tnn, am_brl, am_brg, am_bre, am_brn, am_brG, am_brL, am_st1, am_no2, am_st2, am_clr]
      exact am_wp_ls E2 rfl
    · refine am_wp_go rfl (by simp (disch := omega) only [s73 hw, r73_0 hw, s74 hw, s6 hw, r6_11 hw, s7 hw, e1, e2, e3, e4, Int.reduceToNat, am_tnA, am_tnM, am_addE, am_subE, am_mulE, am_laddE, am_lsubE, am_upO, am_upS, am_stS, am_stO, am_tnn, am_brl, am_brg, am_bre, am_brn, am_brG, am_brL, am_st1, am_no2, am_st2, am_clr, and_self, true_and, and_true, true_or, or_true, List.length_cons, List.length_nil] <;> omega) ?_
      try simp (disch := omega) only [s73 hw, r73_0 hw, s74 hw, s6 hw, r6_11 hw, s7 hw, e1, e2, e3, e4, Int.reduceToNat, am_tnA, am_tnM, am_addE, am_subE, am_mulE, am_laddE, am_lsubE, am_upO, am_upS, am_stS, am_stO, am_tnn, am_brl, am_brg, am_bre, am_brn, am_brG, am_brL, am_st1, am_no2, am_st2, am_clr]
      refine am_wp_br (fun b34 => ?_) (fun b34 => ?_)
      · refine am_wp_go rfl (by simp (disch := omega) only [s73 hw, r73_0 hw, s74 hw, s6 hw, r6_11 hw, s7 hw, e1, e2, e3, e4, Int.reduceToNat, am_tnA, am_tnM, am_addE, am_subE, am_mulE, am_laddE, am_lsubE, am_upO, am_upS, am_stS, am_stO, am_tnn, am_brl, am_brg, am_bre, am_brn, am_brG, am_brL, am_st1, am_no2, am_st2, am_clr, and_self, true_and, and_true, true_or, or_true, List.length_cons, List.length_nil] <;> omega) ?_
        try simp (disch := omega) only [s73 hw, r73_0 hw, s74 hw, s6 hw, r6_11 hw, s7 hw, e1, e2, e3, e4, Int.reduceToNat, am_tnA, am_tnM, am_addE, am_subE, am_mulE, am_laddE, am_lsubE, am_upO, am_upS, am_stS, am_stO, am_tnn, am_brl, am_brg, am_bre, am_brn, am_brG, am_brL, am_st1, am_no2, am_st2, am_clr]
        exact am_wp_ls E2 rfl
      · refine am_wp_go rfl (by simp (disch := omega) only [s73 hw, r73_0 hw, s74 hw, s6 hw, r6_11 hw, s7 hw, e1, e2, e3, e4, Int.reduceToNat, am_tnA, am_tnM, am_addE, am_subE, am_mulE, am_laddE, am_lsubE, am_upO, am_upS, am_stS, am_stO, am_tnn, am_brl, am_brg, am_bre, am_brn, am_brG, am_brL, am_st1, am_no2, am_st2, am_clr, and_self, true_and, and_true, true_or, or_true, List.length_cons, List.length_nil] <;> omega) ?_
        try simp (disch := omega) only [s73 hw, r73_0 hw, s74 hw, s6 hw, r6_11 hw, s7 hw, e1, e2, e3, e4, Int.reduceToNat, am_tnA, am_tnM, am_addE, am_subE, am_mulE, am_laddE, am_lsubE, am_upO, am_upS, am_stS, am_stO, am_tnn, am_brl, am_brg, am_bre, am_brn, am_brG, am_brL, am_st1, am_no2, am_st2, am_clr]
        refine am_wp_ret rfl rfl ?_
        rwa [if_pos (by omega), Int.natCast_mul] at h
theorem w_placeForM {i : Nat} (hw : wd sh R) (hk : kit I 6 W N) (h75 : ∀ p, p < (W 0).toNat → I 75 p = b p) (h76 : ∀ p, p < (W 0).toNat → I 76 p = nw p) (hF : ckF nw (W 0).toNat ≠ -1) (h : Q (am_yi (ckP b nw (W 0).toNat i)) (m, sl, sh, I, R)) : am_wp (d + 1) 50 0 [some (.inr (.inr (73))), some (.inr (.inr (6))), some (.inl ((i : Int))), none] [] (m, sl, sh, I, R) Q := by
  obtain ⟨o1, o2, o3⟩ := kit_P hk
  unfold ckP at h
  obtain ⟨q, f1, f2, f3⟩ := (ckF_v (nw := nw) (P := (W 0).toNat)).resolve_left hF
  refine am_wp_go rfl (by simp (disch := omega) only [s73 hw, r73_1 hw, s75 hw, r73_2 hw, s76 hw, s6 hw, o1, Int.reduceToNat, am_addE, am_subE, am_mulE, am_laddE, am_lsubE, am_upO, am_upS, am_stS, am_stO, am_tnn, am_brl, am_brg, am_bre, am_brn, am_brG, am_brL, am_st1, am_no2, am_st2, am_clr, and_self, true_and, and_true, true_or, or_true, List.length_cons, List.length_nil] <;> omega) ?_
  try simp (disch := omega) only [s73 hw, r73_1 hw, s75 hw, r73_2 hw, s76 hw, s6 hw, o1, Int.reduceToNat, am_addE, am_subE, am_mulE, am_laddE, am_lsubE, am_upO, am_upS, am_stS, am_stO, am_tnn, am_brl, am_brg, am_bre, am_brn, am_brG, am_brL, am_st1, am_no2, am_st2, am_clr]
  revert h
  refine am_lp0 (P := fun k => Q (am_yi (if am_ff (fun p => decide (b p = (i : Int)) && decide (nw p = -1)) (W 0).toNat k = -1 then ckF nw (W 0).toNat else am_ff (fun p => decide (b p = (i : Int)) && decide (nw p = -1)) (W 0).toNat k)) (m, sl, sh, I, R) → am_wp (d + 1) 50 2 [some (.inr (.inr (73))), some (.inr (.inr (6))), some (.inl ((i : Int))), some (.inl ((k : Int)))] [] (m, sl, sh, I, R) Q) (W 0).toNat (fun k hkP ih h => ?_)
  refine am_wp_go rfl (by simp (disch := omega) only [s73 hw, r73_1 hw, s75 hw, r73_2 hw, s76 hw, s6 hw, o1, Int.reduceToNat, am_addE, am_subE, am_mulE, am_laddE, am_lsubE, am_upO, am_upS, am_stS, am_stO, am_tnn, am_brl, am_brg, am_bre, am_brn, am_brG, am_brL, am_st1, am_no2, am_st2, am_clr, and_self, true_and, and_true, true_or, or_true, List.length_cons, List.length_nil] <;> omega) ?_
  try simp (disch := omega) only [s73 hw, r73_1 hw, s75 hw, r73_2 hw, s76 hw, s6 hw, o1, Int.reduceToNat, am_addE, am_subE, am_mulE, am_laddE, am_lsubE, am_upO, am_upS, am_stS, am_stO, am_tnn, am_brl, am_brg, am_bre, am_brn, am_brG, am_brL, am_st1, am_no2, am_st2, am_clr]
  refine am_wp_br (fun b7 => ?_) (fun b7 => ?_)
  · rw [am_ff_end (by omega), if_pos rfl] at h
    refine am_wp_go rfl (by simp (disch := omega) only [s73 hw, r73_1 hw, s75 hw, r73_2 hw, s76 hw, s6 hw, o1, Int.reduceToNat, am_addE, am_subE, am_mulE, am_laddE, am_lsubE, am_upO, am_upS, am_stS, am_stO, am_tnn, am_brl, am_brg, am_bre, am_brn, am_brG, am_brL, am_st1, am_no2, am_st2, am_clr, and_self, true_and, and_true, true_or, or_true, List.length_cons, List.length_nil] <;> omega) ?_
    try simp (disch := omega) only [s73 hw, r73_1 hw, s75 hw, r73_2 hw, s76 hw, s6 hw, o1, Int.reduceToNat, am_addE, am_subE, am_mulE, am_laddE, am_lsubE, am_upO, am_upS, am_stS, am_stO, am_tnn, am_brl, am_brg, am_bre, am_brn, am_brG, am_brL, am_st1, am_no2, am_st2, am_clr]
    refine am_wp_cc rfl rfl rfl (congrArg Prod.fst (s73 hw)) (w_leastFreeM hw hk h76 ⟨_, rfl, ?_⟩)
    rw [f1] at h ⊢
    refine am_wp_go rfl (by simp (disch := omega) only [s73 hw, r73_1 hw, s75 hw, r73_2 hw, s76 hw, s6 hw, o1, Int.reduceToNat, am_addE, am_subE, am_mulE, am_laddE, am_lsubE, am_upO, am_upS, am_stS, am_stO, am_tnn, am_brl, am_brg, am_bre, am_brn, am_brG, am_brL, am_st1, am_no2, am_st2, am_clr, and_self, true_and, and_true, true_or, or_true, List.length_cons, List.length_nil] <;> omega) ?_
    try simp (disch := omega) only [s73 hw, r73_1 hw, s75 hw, r73_2 hw, s76 hw, s6 hw, o1, Int.reduceToNat, am_addE, am_subE, am_mulE, am_laddE, am_lsubE, am_upO, am_upS, am_stS, am_stO, am_tnn, am_brl, am_brg, am_bre, am_brn, am_brG, am_brL, am_st1, am_no2, am_st2, am_clr]
    refine am_wp_ret rfl rfl ?_
    rwa [show (if (q : Int) < 0 then 0 else (q : Int)) = (q : Int) by split <;> omega]
  · have e := h75 k (by omega)
    have e2 := h76 k (by omega)
    refine am_wp_go rfl (by simp (disch := omega) only [s73 hw, r73_1 hw, s75 hw, r73_2 hw, s76 hw, s6 hw, o1, e, e2, Int.reduceToNat, am_addE, am_subE, am_mulE, am_laddE, am_lsubE, am_upO, am_upS, am_stS, am_stO, am_tnn, am_brl, am_brg, am_bre, am_brn, am_brG, am_brL, am_st1, am_no2, am_st2, am_clr, and_self, true_and, and_true, true_or, or_true, List.length_cons, List.length_nil] <;> omega) ?_
    try simp (disch := omega) only [s73 hw, r73_1 hw, s75 hw, r73_2 hw, s76 hw, s6 hw, o1, e, e2, Int.reduceToNat, am_addE, am_subE, am_mulE, am_laddE, am_lsubE, am_upO, am_upS, am_stS, am_stO, am_tnn, am_brl, am_brg, am_bre, am_brn, am_brG, am_brL, am_st1, am_no2, am_st2, am_clr]
    refine am_wp_br (fun b17 => ?_) (fun b17 => ?_)
    · refine am_wp_go rfl (by simp (disch := omega) only [s73 hw, r73_1 hw, s75 hw, r73_2 hw, s76 hw, s6 hw, o1, e, e2, Int.reduceToNat, am_addE, am_subE, am_mulE, am_laddE, am_lsubE, am_upO, am_upS, am_stS, am_stO, am_tnn, am_brl, am_brg, am_bre, am_brn, am_brG, am_brL, am_st1, am_no2, am_st2, am_clr, and_self, true_and, and_true, true_or, or_true, List.length_cons, List.length_nil] <;> omega) ?_
      try simp (disch := omega) only [s73 hw, r73_1 hw, s75 hw, r73_2 hw, s76 hw, s6 hw, o1, e, e2, Int.reduceToNat, am_addE, am_subE, am_mulE, am_laddE, am_lsubE, am_upO, am_upS, am_stS, am_stO, am_tnn, am_brl, am_brg, am_bre, am_brn, am_brG, am_brL, am_st1, am_no2, am_st2, am_clr]
      exact am_wp_ls (ih (by omega) (by rw [am_ff_on (by rw [decide_eq_false b17]; rfl)] at h; exact h)) rfl
    · refine am_wp_go rfl (by simp (disch := omega) only [s73 hw, r73_1 hw, s75 hw, r73_2 hw, s76 hw, s6 hw, o1, e, e2, Int.reduceToNat, am_addE, am_subE, am_mulE, am_laddE, am_lsubE, am_upO, am_upS, am_stS, am_stO, am_tnn, am_brl, am_brg, am_bre, am_brn, am_brG, am_brL, am_st1, am_no2, am_st2, am_clr, and_self, true_and, and_true, true_or, or_true, List.length_cons, List.length_nil] <;> omega) ?_
      try simp (disch := omega) only [s73 hw, r73_1 hw, s75 hw, r73_2 hw, s76 hw, s6 hw, o1, e, e2, Int.reduceToNat, am_addE, am_subE, am_mulE, am_laddE, am_lsubE, am_upO, am_upS, am_stS, am_stO, am_tnn, am_brl, am_brg, am_bre, am_brn, am_brG, am_brL, am_st1, am_no2, am_st2, am_clr]
      refine am_wp_br (fun b27 => ?_) (fun b27 => ?_)
      · refine am_wp_go rfl (by simp (disch := omega) only [s73 hw, r73_1 hw, s75 hw, r73_2 hw, s76 hw, s6 hw, o1, e, e2, Int.reduceToNat, am_addE, am_subE, am_mulE, am_laddE, am_lsubE, am_upO, am_upS, am_stS, am_stO, am_tnn, am_brl, am_brg, am_bre, am_brn, am_brG, am_brL, am_st1, am_no2, am_st2, am_clr, and_self, true_and, and_true, true_or, or_true, List.length_cons, List.length_nil] <;> omega) ?_
        try simp (disch := omega) only [s73 hw, r73_1 hw, s75 hw, r73_2 hw, s76 hw, s6 hw, o1, e, e2, Int.reduceToNat, am_addE, am_subE, am_mulE, am_laddE, am_lsubE, am_upO, am_upS, am_stS, am_stO, am_tnn, am_brl, am_brg, am_bre, am_brn, am_brG, am_brL, am_st1, am_no2, am_st2, am_clr]
        exact am_wp_ls (ih (by omega) (by rw [am_ff_on (by rw [decide_eq_false b27, Bool.and_false])] at h; exact h)) rfl
      · refine am_wp_go rfl (by simp (disch := omega) only [s73 hw, r73_1 hw, s75 hw, r73_2 hw, s76 hw, s6 hw, o1, e, e2, Int.reduceToNat, am_addE, am_subE, am_mulE, am_laddE, am_lsubE, am_upO, am_upS, am_stS, am_stO, am_tnn, am_brl, am_brg, am_bre, am_brn, am_brG, am_brL, am_st1, am_no2, am_st2, am_clr, and_self, true_and, and_true, true_or, or_true, List.length_cons, List.length_nil] <;> omega) ?_
        try simp (disch := omega) only [s73 hw, r73_1 hw, s75 hw, r73_2 hw, s76 hw, s6 hw, o1, e, e2, Int.reduceToNat, am_addE, am_subE, am_mulE, am_laddE, am_lsubE, am_upO, am_upS, am_stS, am_stO, am_tnn, am_brl, am_brg, am_bre, am_brn, am_brG, am_brL, am_st1, am_no2, am_st2, am_clr]
        refine am_wp_ret rfl rfl ?_
        rwa [am_ff_hit (by omega) (by rw [decide_eq_true (Classical.not_not.mp b17), decide_eq_true (Classical.not_not.mp b27)]; rfl), if_neg (by omega)] at h
set_option maxHeartbeats 4000000 in
theorem w_putOnFree (hw : wd sh R) (hk : kit I 6 W N) (h74 : ∀ i, i < 2 * nS W → I 74 i = (l i : Int)) (hl : ∀ i, i < 2 * nS W → l i ≤ 20) (hB : ∀ s, s < nS W → 0 < l (2 * s) → l (2 * s + 1) = ndW W (2 * s + 1)) (h75 : ∀ p, p < (W 0).toNat → I 75 p = b p) (h78 : ∀ s, s < nS W → I 78 s = (f s : Int)) (hf : ∀ s, s < nS W → f s ≤ 2000) {S : PS} (hJ : ckJ W l S) (h76 : ∀ p, p < (W 0).toNat → I 76 p = S.1 p) (ho : I 73 6 = (S.2 : Int)) (h : ∀ J, (∀ a, a ≠ 73 → a ≠ 76 → J a = I a) → (∀ j, j ≠ 6 → J 73 j = I 73 j) → J 73 6 = ((ckPut W r l f b t (W 0).toNat S).2 : Int) → (∀ p, p < (W 0).toNat → J 76 p = (ckPut W r l f b t (W 0).toNat S).1 p) → Q am_yv (m, sl, sh, J, R)) : am_wp (d + 2) 44 0 [some (.inr (.inr (73))), some (.inr (.inr (6))), some (.inl (r)), some (.inl ((t : Int))), none, none, none] [] (m, sl, sh, I, R) Q := by
  obtain ⟨o1, o2, o3⟩ := kit_P hk
  obtain ⟨n1, n2⟩ := kit_n hk
  refine am_wp_go rfl (by simp (disch := omega) only [am_addE, am_subE, am_mulE, am_laddE, am_lsubE, am_upO, am_upS, am_stS, am_stO, am_tnn, am_brl, am_brg, am_bre, am_brn, am_brG, am_brL, am_st1, am_no2, am_st2, am_clr, and_self, true_and, and_true, true_or, or_true, List.length_cons, List.length_nil] <;> omega) ?_
  try simp (disch := omega) only [am_addE, am_subE, am_mulE, am_laddE, am_lsubE, am_upO, am_upS, am_stS, am_stO, am_tnn, am_brl, am_brg, am_bre, am_brn, am_brG, am_brL, am_st1, am_no2, am_st2, am_clr]
  have L : ∀ k, k ≤ (W 0).toNat → ∀ (z5 z6 : Option am_V) (K : Nat → Nat → Int) (T : PS), (∀ a, a ≠ 73 → a ≠ 76 → K a = I a) → (∀ j, j ≠ 6 → K 73 j = I 73 j) → K 73 6 = (T.2 : Int) → (∀ p, p < (W 0).toNat → K 76 p = T.1 p) → ckJ W l T → ckPut W r l f b t ((W 0).toNat - k) T = ckPut W r l f b t (W 0).toNat S → am_wp (d + 2) 44 3 [some (.inr (.inr (73))), some (.inr (.inr (6))), some (.inl (r)), some (.inl ((t : Int))), some (.inl ((k : Int))), z5, z6] [] (m, sl, sh, K, R) Q := by
    refine am_lp (W 0).toNat (fun k hkP ih z5 z6 K T k1 k2 k3 k4 k5 k6 => ?_)
    have hkk : kit K 6 W N := kit_fr hk (fun a h1 h2 => k1 a (by omega) (by omega))
    have e1 := (kit_P hkk).1
    have K74 : ∀ i, i < 2 * nS W → K 74 i = (l i : Int) := by rw [k1 74 (by decide) (by decide)]; exact h74
    have K75 : ∀ p, p < (W 0).toNat → K 75 p = b p := by rw [k1 75 (by decide) (by decide)]; exact h75
    have K78 : ∀ s, s < nS W → K 78 s = (f s : Int) := by rw [k1 78 (by decide) (by decide)]; exact h78
    refine am_wp_go rfl (by simp (disch := omega) only [s6 hw, s73 hw, r73_2 hw, e1, am_addE, am_subE, am_mulE, am_laddE, am_lsubE, am_upO, am_upS, am_stS, am_stO, am_tnn, am_brl, am_brg, am_bre, am_brn, am_brG, am_brL, am_st1, am_no2, am_st2, am_clr, and_self, true_and, and_true, true_or, or_true, List.length_cons, List.length_nil] <;> omega) ?_
    try simp (disch := omega) only [s6 hw, s73 hw, r73_2 hw, e1, am_addE, am_subE, am_mulE, am_laddE, am_lsubE, am_upO, am_upS, am_stS, am_stO, am_tnn, am_brl, am_brg, am_bre, am_brn, am_brG, am_brL, am_st1, am_no2, am_st2, am_clr]
    refine am_wp_br (fun b9 => ?_) (fun b9 => ?_)
    · rw [show (W 0).toNat - k = 0 by omega] at k6
      have k6 : T = ckPut W r l f b t (W 0).toNat S := k6
      rw [← k6] at h
      refine am_wp_ret rfl rfl ?_
      exact h K k1 k2 k3 k4
    · rw [show (W 0).toNat - k = ((W 0).toNat - (k + 1)) + 1 by omega] at k6
      rw [ckPut_s] at k6
      refine am_wp_go rfl (by simp (disch := omega) only [s6 hw, s73 hw, r73_2 hw, e1, am_addE, am_subE, am_mulE, am_laddE, am_lsubE, am_upO, am_upS, am_stS, am_stO, am_tnn, am_brl, am_brg, am_bre, am_brn, am_brG, am_brL, am_st1, am_no2, am_st2, am_clr, and_self, true_and, and_true, true_or, or_true, List.length_cons, List.length_nil] <;> omega) ?_
      try simp (disch := omega) only [s6 hw, s73 hw, r73_2 hw, e1, am_addE, am_subE, am_mulE, am_laddE, am_lsubE, am_upO, am_upS, am_stS, am_stO, am_tnn, am_brl, am_brg, am_bre, am_brn, am_brG, am_brL, am_st1, am_no2, am_st2, am_clr]
      refine am_wp_cc rfl rfl rfl (congrArg Prod.fst (s73 hw)) (w_leastFreeM hw hkk k4 ⟨_, rfl, ?_⟩)
      refine am_wp_go rfl (by simp (disch := omega) only [s6 hw, s73 hw, r73_2 hw, e1, am_addE, am_subE, am_mulE, am_laddE, am_lsubE, am_upO, am_upS, am_stS, am_stO, am_tnn, am_brl, am_brg, am_bre, am_brn, am_brG, am_brL, am_st1, am_no2, am_st2, am_clr, and_self, true_and, and_true, true_or, or_true, List.length_cons, List.length_nil] <;> omega) ?_
      try simp (disch := omega) only [s6 hw, s73 hw, r73_2 hw, e1, am_addE, am_subE, am_mulE, am_laddE, am_lsubE, am_upO, am_upS, am_stS, am_stO, am_tnn, am_brl, am_brg, am_bre, am_brn, am_brG, am_brL, am_st1, am_no2, am_st2, am_clr]
      refine am_wp_br (fun b18 => ?_) (fun b18 => ?_)
      · refine am_wp_go rfl (by simp (disch := omega) only [s6 hw, s73 hw, r73_2 hw, e1, am_addE, am_subE, am_mulE, am_laddE, am_lsubE, am_upO, am_upS, am_stS, am_stO, am_tnn, am_brl, am_brg, am_bre, am_brn, am_brG, am_brL, am_st1, am_no2, am_st2, am_clr, and_self, true_and, and_true, true_or, or_true, List.length_cons, List.length_nil] <;> omega) ?_
        try simp (disch := omega) only [s6 hw, s73 hw, r73_2 hw, e1, am_addE, am_subE, am_mulE, am_laddE, am_lsubE, am_upO, am_upS, am_stS, am_stO, am_tnn, am_brl, am_brg, am_bre, am_brn, am_brG, am_brL, am_st1, am_no2, am_st2, am_clr]
        refine am_wp_cc rfl rfl rfl (congrArg Prod.fst (s73 hw)) (w_cookTakes (r := r) (l := l) (f := f) (t := t) (on := T.2) hw hkk K74 hl K78 hf k3 k5.2.2.1 ⟨_, rfl, ?_⟩)
        refine am_wp_go rfl (by simp (disch := omega) only [s6 hw, s73 hw, r73_2 hw, e1, am_addE, am_subE, am_mulE, am_laddE, am_lsubE, am_upO, am_upS, am_stS, am_stO, am_tnn, am_brl, am_brg, am_bre, am_brn, am_brG, am_brL, am_st1, am_no2, am_st2, am_clr, and_self, true_and, and_true, true_or, or_true, List.length_cons, List.length_nil] <;> omega) ?_
        try simp (disch := omega) only [s6 hw, s73 hw, r73_2 hw, e1, am_addE, am_subE, am_mulE, am_laddE, am_lsubE, am_upO, am_upS, am_stS, am_stO, am_tnn, am_brl, am_brg, am_bre, am_brn, am_brG, am_brL, am_st1, am_no2, am_st2, am_clr]
        refine am_wp_br (fun b37 => ?_) (fun b37 => ?_)
        · have ne : ¬ (ckF T.1 (W 0).toNat = -1 ∨ ckB W r l f t T.2 (nS W) = -1) := by omega
          rw [if_neg ne] at k6
          have J2 := ckT_J (b := b) hk.1 hB k5 ne
          obtain ⟨s, q, t1, t2, t3, t4, t5, t6, t7⟩ := ckT_v (b := b) ne
          rw [t7] at k6 J2
          rw [t1]
          have p8 := ax_p8 (s := s) (by omega)
          refine am_wp_go rfl (by simp (disch := omega) only [s6 hw, s73 hw, r73_2 hw, e1, am_addE, am_subE, am_mulE, am_laddE, am_lsubE, am_upO, am_upS, am_stS, am_stO, am_tnn, am_brl, am_brg, am_bre, am_brn, am_brG, am_brL, am_st1, am_no2, am_st2, am_clr, and_self, true_and, and_true, true_or, or_true, List.length_cons, List.length_nil] <;> omega) ?_
          try simp (disch := omega) only [s6 hw, s73 hw, r73_2 hw, e1, am_addE, am_subE, am_mulE, am_laddE, am_lsubE, am_upO, am_upS, am_stS, am_stO, am_tnn, am_brl, am_brg, am_bre, am_brn, am_brG, am_brL, am_st1, am_no2, am_st2, am_clr]
          refine am_wp_cc rfl rfl rfl (congrArg Prod.fst (s73 hw)) (w_sideToFry (l := l) (s := s) hw hkk t2 K74 (hB s t2) ⟨_, rfl, ?_⟩)
          refine am_wp_go rfl (by simp (disch := omega) only [s6 hw, s73 hw, r73_2 hw, e1, am_addE, am_subE, am_mulE, am_laddE, am_lsubE, am_upO, am_upS, am_stS, am_stO, am_tnn, am_brl, am_brg, am_bre, am_brn, am_brG, am_brL, am_st1, am_no2, am_st2, am_clr, and_self, true_and, and_true, true_or, or_true, List.length_cons, List.length_nil] <;> omega) ?_
          try simp (disch := omega) only [s6 hw, s73 hw, r73_2 hw, e1, am_addE, am_subE, am_mulE, am_laddE, am_lsubE, am_upO, am_upS, am_stS, am_stO, am_tnn, am_brl, am_brg, am_bre, am_brn, am_brG, am_brL, am_st1, am_no2, am_st2, am_clr]
          refine am_wp_cc rfl rfl rfl (congrArg Prod.fst (s73 hw)) (w_placeForM (b := b) (nw := T.1) (i := ckS l s) hw hkk K75 k4 b18 ⟨_, rfl, ?_⟩)
          rw [t4]
          have o7 := k5.2.2.1
          refine am_wp_go rfl (by simp (disch := omega) only [s73 hw, r73_2 hw, s76 hw, k3, am_shl1, am_orN, am_addE, am_subE, am_mulE, am_laddE, am_lsubE, am_upO, am_upS, am_stS, am_stO, am_tnn, am_brl, am_brg, am_bre, am_brn, am_brG, am_brL, am_st1, am_no2, am_st2, am_clr, and_self, true_and, and_true, true_or, or_true, List.length_cons, List.length_nil] <;> omega) ?_
          try simp (disch := omega) only [s73 hw, r73_2 hw, s76 hw, k3, am_shl1, am_orN, am_addE, am_subE, am_mulE, am_laddE, am_lsubE, am_upO, am_upS, am_stS, am_stO, am_tnn, am_brl, am_brg, am_bre, am_brn, am_brG, am_brL, am_st1, am_no2, am_st2, am_clr]
          refine am_wp_ls (ih (by omega) _ _ _ _ (fun a h1 h2 => by rw [am_upO h1, am_upO h2, k1 a h1 h2]) (fun j hj => by rw [am_upS, am_stO hj, am_upO (by decide), k2 j hj]) (by rw [am_upS, am_stS rfl]) (fun p hp => ?_) J2 k6) rfl
          rw [am_upO (by decide), am_upS]
          dsimp only
          by_cases hpq : p = q
          · rw [am_stS hpq, am_stS hpq]
          · rw [am_stO hpq, am_stO hpq]; exact k4 p hp
        · rw [if_pos (by omega)] at k6
          rw [← k6] at h
          refine am_wp_ret rfl rfl ?_
          exact h K k1 k2 k3 k4
      · rw [if_pos (by omega)] at k6
        rw [← k6] at h
        refine am_wp_go rfl (by simp (disch := omega) only [s6 hw, s73 hw, r73_2 hw, e1, am_addE, am_subE, am_mulE, am_laddE, am_lsubE, am_upO, am_upS, am_stS, am_stO, am_tnn, am_brl, am_brg, am_bre, am_brn, am_brG, am_brL, am_st1, am_no2, am_st2, am_clr, and_self, true_and, and_true, true_or, or_true, List.length_cons, List.length_nil] <;> omega) ?_
        refine am_wp_pc (pc' := 40) rfl ?_
        refine am_wp_ret rfl rfl ?_
        exact h K k1 k2 k3 k4
  exact am_wp_ls (L 0 (by omega) none none I S (fun _ _ _ => rfl) (fun _ _ => rfl) ho h76 hJ rfl) rfl
end COOK
