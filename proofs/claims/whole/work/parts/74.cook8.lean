/-! COOKS: the reference's run; cook(), best() -/
section COOK
variable {m sl : Nat} {sh : Nat → Nat × Nat} {I : Nat → Nat → Int} {R : Nat → Nat → Nat} {Q : am_R → am_M → Prop} {d : Nat} {W : Nat → Int} {r : Int} {G : List Go} {H : List (List Go)}
set_option maxHeartbeats 8000000 in
theorem w_M_cookAll (hw : wd sh R) (hk : wk W) (hr : 0 ≤ r ∧ r ≤ 2) (hv : ∀ j, (j < 58 ∨ 2059 ≤ j) → I 126 j = W j) (h : ∀ J, (∀ a, ¬ (a = 126 ∨ 143 ≤ a ∧ a ≤ 150) → J a = I a) → (∀ j, (j < 58 ∨ 2059 ≤ j) → J 126 j = W j) → rf (pw (J 126)) (ckV W r).2 → Q (am_yi ((ckV W r).1 : Nat)) (m, sl, sh, J, R)) : am_wp (d + 5) 279 0 [some (.inr (.inr (124))), some (.inl (r)), none, none, none] [] (m, sl, sh, I, R) Q := by
  have n1 := wk_nS hk
  obtain ⟨w1, w2, -⟩ := hk.1
  have ntot := nd_tot hk
  have nall := nd_all hk
  refine am_wp_go rfl (by simp (disch := omega) only [s124 hw, r124_14 hw, s126 hw, Int.reduceToNat, am_addE, am_subE, am_mulE, am_laddE, am_lsubE, am_upO, am_upS, am_stS, am_stO, am_tnn, am_brl, am_brg, am_bre, am_brn, am_brG, am_brL, am_st1, am_no2, am_st2, am_clr, and_self, true_and, and_true, true_or, or_true, List.length_cons, List.length_nil] <;> omega) ?_
  try simp (disch := omega) only [s124 hw, r124_14 hw, s126 hw, Int.reduceToNat, am_addE, am_subE, am_mulE, am_laddE, am_lsubE, am_upO, am_upS, am_stS, am_stO, am_tnn, am_brl, am_brg, am_bre, am_brn, am_brG, am_brL, am_st1, am_no2, am_st2, am_clr]
  have v1 : ∀ a, ¬ (a = 126 ∨ 143 ≤ a ∧ a ≤ 150) → am_up I 126 58 0 a = I a := fun a ha => am_upO (by omega)
  have v2 : ∀ j, (j < 58 ∨ 2059 ≤ j) → am_up I 126 58 0 126 j = W j := fun j hj => by rw [am_upS, am_stO (by omega), hv j hj]
  have v3 : rf (pw (am_up I 126 58 0 126)) [] := ⟨by unfold pw; rw [am_upS, am_stS rfl]; rfl, fun k hk => absurd hk (Nat.not_lt_zero k)⟩
  generalize am_up I 126 58 0 = J at v1 v2 v3 ⊢
  obtain ⟨kJ, nJ⟩ := row_W hk (V := J) (fun j hj => v2 j (by omega))
  have aJ : allW (J 126) = (preS (ndW W) (2 * nS W) : Int) := by
    rw [allW_eq, ntot]
    unfold totW
    rw [nJ]
    congr 1
    · exact am_fsum_cg (fun s hs => v2 _ (by omega))
    · exact am_fsum_cg (fun s hs => v2 _ (by omega))
  refine am_wp_cc rfl rfl rfl (congrArg Prod.fst (s124 hw)) (w_M_allMinutes hw kJ ⟨_, rfl, ?_⟩)
  rw [aJ]
  refine am_wp_go rfl (by simp (disch := omega) only [s124 hw, r124_14 hw, s126 hw, Int.reduceToNat, am_addE, am_subE, am_mulE, am_laddE, am_lsubE, am_upO, am_upS, am_stS, am_stO, am_tnn, am_brl, am_brg, am_bre, am_brn, am_brG, am_brL, am_st1, am_no2, am_st2, am_clr, and_self, true_and, and_true, true_or, or_true, List.length_cons, List.length_nil] <;> omega) ?_
  have L0 : ∀ i, i ≤ 2 * nS W → ∀ (K : Nat → Nat → Int), (∀ a, ¬ (a = 126 ∨ 143 ≤ a ∧ a ≤ 150) → K a = I a) → K 126 = J 126 → (∀ k, k < i → K 145 k = (ndW W k : Int) ∧ K 147 k = -1) → am_wp (d + 5) 279 15 [some (.inr (.inr (124))), some (.inl (r)), some (.inl ((preS (ndW W) (2 * nS W) : Int))), some (.inl ((i : Int))), none] [] (m, sl, sh, K, R) Q := by
    refine am_lp (2 * nS W) (fun i hi ih K k1 k2 k3 => ?_)
    have vK : ∀ j, (j < 58 ∨ 2059 ≤ j) → K 126 j = W j := by rw [k2]; exact v2
    obtain ⟨kK, nK⟩ := row_W hk (V := K) (fun j hj => vK j (by omega))
    refine am_wp_go rfl (by simp (disch := omega) only [s124 hw, r124_14 hw, s126 hw, Int.reduceToNat, am_addE, am_subE, am_mulE, am_laddE, am_lsubE, am_upO, am_upS, am_stS, am_stO, am_tnn, am_brl, am_brg, am_bre, am_brn, am_brG, am_brL, am_st1, am_no2, am_st2, am_clr, and_self, true_and, and_true, true_or, or_true, List.length_cons, List.length_nil] <;> omega) ?_
    try simp (disch := omega) only [s124 hw, r124_14 hw, s126 hw, Int.reduceToNat, am_addE, am_subE, am_mulE, am_laddE, am_lsubE, am_upO, am_upS, am_stS, am_stO, am_tnn, am_brl, am_brg, am_bre, am_brn, am_brG, am_brL, am_st1, am_no2, am_st2, am_clr]
    refine am_wp_cc rfl rfl rfl (congrArg Prod.fst (s124 hw)) (w_M_slicesN hw (wk_w kK) ⟨_, rfl, ?_⟩)
    rw [nK]
    refine am_wp_go rfl (by simp (disch := omega) only [s124 hw, r124_14 hw, s126 hw, Int.reduceToNat, am_addE, am_subE, am_mulE, am_laddE, am_lsubE, am_upO, am_upS, am_stS, am_stO, am_tnn, am_brl, am_brg, am_bre, am_brn, am_brG, am_brL, am_st1, am_no2, am_st2, am_clr, and_self, true_and, and_true, true_or, or_true, List.length_cons, List.length_nil] <;> omega) ?_
    try simp (disch := omega) only [s124 hw, r124_14 hw, s126 hw, Int.reduceToNat, am_addE, am_subE, am_mulE, am_laddE, am_lsubE, am_upO, am_upS, am_stS, am_stO, am_tnn, am_brl, am_brg, am_bre, am_brn, am_brG, am_brL, am_st1, am_no2, am_st2, am_clr]
    refine am_wp_br (fun b22 => ?_) (fun b22 => ?_)
    · clear ih
      have i2 : i = 2 * nS W := by omega
      subst i2
      refine am_wp_go rfl (by simp (disch := omega) only [s124 hw, r124_14 hw, s126 hw, Int.reduceToNat, am_addE, am_subE, am_mulE, am_laddE, am_lsubE, am_upO, am_upS, am_stS, am_stO, am_tnn, am_brl, am_brg, am_bre, am_brn, am_brG, am_brL, am_st1, am_no2, am_st2, am_clr, and_self, true_and, and_true, true_or, or_true, List.length_cons, List.length_nil] <;> omega) ?_
      have L1 : ∀ p, p ≤ 4 → ∀ (K : Nat → Nat → Int), (∀ a, ¬ (a = 126 ∨ 143 ≤ a ∧ a ≤ 150) → K a = I a) → K 126 = J 126 → (∀ k, k < 2 * nS W → K 145 k = (ndW W k : Int) ∧ K 147 k = -1) → (∀ q, q < p → K 149 q = -1) → am_wp (d + 5) 279 56 [some (.inr (.inr (124))), some (.inl (r)), some (.inl ((preS (ndW W) (2 * nS W) : Int))), some (.inl ((p : Int))), none] [] (m, sl, sh, K, R) Q := by
        refine am_lp 4 (fun p hp ih K k1 k2 k3 k4 => ?_)
        refine am_wp_go rfl (by simp (disch := omega) only [s124 hw, r124_14 hw, s126 hw, Int.reduceToNat, am_addE, am_subE, am_mulE, am_laddE, am_lsubE, am_upO, am_upS, am_stS, am_stO, am_tnn, am_brl, am_brg, am_bre, am_brn, am_brG, am_brL, am_st1, am_no2, am_st2, am_clr, and_self, true_and, and_true, true_or, or_true, List.length_cons, List.length_nil] <;> omega) ?_
        try simp (disch := omega) only [s124 hw, r124_14 hw, s126 hw, Int.reduceToNat, am_addE, am_subE, am_mulE, am_laddE, am_lsubE, am_upO, am_upS, am_stS, am_stO, am_tnn, am_brl, am_brg, am_bre, am_brn, am_brG, am_brL, am_st1, am_no2, am_st2, am_clr]
        refine am_wp_br (fun b58 => ?_) (fun b58 => ?_)
        · clear ih
          have p4 : p = 4 := by omega
          subst p4
          have L : ∀ t, t ≤ 1000 → ∀ (z4 : Option am_V) (K : Nat → Nat → Int) (S : CK), (∀ a, ¬ (a = 126 ∨ 143 ≤ a ∧ a ≤ 150) → K a = I a) → ckRf W K S → ckI W t S → (∀ s, s < nS W → S.2.2.1 s ≤ t) → ckRun W r (1000 - t) t S = ckV W r → am_wp (d + 5) 279 76 [some (.inr (.inr (124))), some (.inl (r)), some (.inl ((preS S.1 (2 * nS W) : Int))), some (.inl ((t : Int))), z4] [] (m, sl, sh, K, R) Q := by
            refine am_lp 1000 (fun t ht ih z4 K S k1 k2 k3 k4 k5 => ?_)
            have k8 := k3.2.2.2.2.2.2.2
            refine am_wp_go rfl (by simp (disch := omega) only [s124 hw, r124_14 hw, s126 hw, Int.reduceToNat, am_addE, am_subE, am_mulE, am_laddE, am_lsubE, am_upO, am_upS, am_stS, am_stO, am_tnn, am_brl, am_brg, am_bre, am_brn, am_brG, am_brL, am_st1, am_no2, am_st2, am_clr, and_self, true_and, and_true, true_or, or_true, List.length_cons, List.length_nil] <;> omega) ?_
            try simp (disch := omega) only [s124 hw, r124_14 hw, s126 hw, Int.reduceToNat, am_addE, am_subE, am_mulE, am_laddE, am_lsubE, am_upO, am_upS, am_stS, am_stO, am_tnn, am_brl, am_brg, am_bre, am_brn, am_brG, am_brL, am_st1, am_no2, am_st2, am_clr]
            refine am_wp_br (fun b77 => ?_) (fun b77 => ?_)
            · rw [show 1000 - t = (999 - t) + 1 by omega] at k5
              unfold ckRun at k5
              rw [if_pos (by omega)] at k5
              refine am_wp_go rfl (by simp (disch := omega) only [s124 hw, r124_14 hw, s126 hw, Int.reduceToNat, am_addE, am_subE, am_mulE, am_laddE, am_lsubE, am_upO, am_upS, am_stS, am_stO, am_tnn, am_brl, am_brg, am_bre, am_brn, am_brG, am_brL, am_st1, am_no2, am_st2, am_clr, and_self, true_and, and_true, true_or, or_true, List.length_cons, List.length_nil] <;> omega) ?_
              try simp (disch := omega) only [s124 hw, r124_14 hw, s126 hw, Int.reduceToNat, am_addE, am_subE, am_mulE, am_laddE, am_lsubE, am_upO, am_upS, am_stS, am_stO, am_tnn, am_brl, am_brg, am_bre, am_brn, am_brG, am_brL, am_st1, am_no2, am_st2, am_clr]
              refine am_wp_ret rfl rfl ?_
              rw [← k5] at h
              exact h K k1 k2.2.2.2.2.1 k2.2.2.2.2.2
            · rw [show 1000 - t = (1000 - (t + 1)) + 1 by omega] at k5
              unfold ckRun at k5
              rw [if_neg (by omega)] at k5
              have ih := ih (by omega)
              clear h
              refine am_wp_go rfl (by simp (disch := omega) only [s124 hw, r124_14 hw, s126 hw, Int.reduceToNat, am_addE, am_subE, am_mulE, am_laddE, am_lsubE, am_upO, am_upS, am_stS, am_stO, am_tnn, am_brl, am_brg, am_bre, am_brn, am_brG, am_brL, am_st1, am_no2, am_st2, am_clr, and_self, true_and, and_true, true_or, or_true, List.length_cons, List.length_nil] <;> omega) ?_
              try simp (disch := omega) only [s124 hw, r124_14 hw, s126 hw, Int.reduceToNat, am_addE, am_subE, am_mulE, am_laddE, am_lsubE, am_upO, am_upS, am_stS, am_stO, am_tnn, am_brl, am_brg, am_bre, am_brn, am_brG, am_brL, am_st1, am_no2, am_st2, am_clr]
              refine am_wp_cc rfl rfl rfl (congrArg Prod.fst (s124 hw)) (w_M_cookMinute (r := r) (S := S) (t := t) hw hk hr k3 (by omega) k4 k2 (fun X x1 x2 => ⟨_, rfl, ?_⟩))
              have m1 := ck_min (r := r) hk k3 (by omega)
              have m2 := ckMin_f (r := r) hk k3 k4
              generalize ckMin W r t S = T at *
              obtain ⟨kX, nX⟩ := row_W hk (V := X) (fun j hj => x2.2.2.2.2.1 j (by omega))
              refine am_wp_go rfl (by simp (disch := omega) only [s124 hw, r124_14 hw, s126 hw, Int.reduceToNat, am_addE, am_subE, am_mulE, am_laddE, am_lsubE, am_upO, am_upS, am_stS, am_stO, am_tnn, am_brl, am_brg, am_bre, am_brn, am_brG, am_brL, am_st1, am_no2, am_st2, am_clr, and_self, true_and, and_true, true_or, or_true, List.length_cons, List.length_nil] <;> omega) ?_
              refine am_wp_ls (am_lp0 (P := fun k => am_wp (d + 5) 279 91 [some (.inr (.inr (124))), some (.inl (r)), some (.inl ((preS T.1 k : Int))), some (.inl ((t : Int))), some (.inl ((k : Int)))] [] (m, sl, sh, X, R) Q) (2 * nS W) (fun k hkn ih2 => ?_)) rfl
              refine am_wp_go rfl (by simp (disch := omega) only [s124 hw, r124_14 hw, s126 hw, Int.reduceToNat, am_addE, am_subE, am_mulE, am_laddE, am_lsubE, am_upO, am_upS, am_stS, am_stO, am_tnn, am_brl, am_brg, am_bre, am_brn, am_brG, am_brL, am_st1, am_no2, am_st2, am_clr, and_self, true_and, and_true, true_or, or_true, List.length_cons, List.length_nil] <;> omega) ?_
              try simp (disch := omega) only [s124 hw, r124_14 hw, s126 hw, Int.reduceToNat, am_addE, am_subE, am_mulE, am_laddE, am_lsubE, am_upO, am_upS, am_stS, am_stO, am_tnn, am_brl, am_brg, am_bre, am_brn, am_brG, am_brL, am_st1, am_no2, am_st2, am_clr]
              refine am_wp_cc rfl rfl rfl (congrArg Prod.fst (s124 hw)) (w_M_slicesN hw (wk_w kX) ⟨_, rfl, ?_⟩)
              rw [nX]
              refine am_wp_go rfl (by simp (disch := omega) only [s124 hw, r124_14 hw, s126 hw, Int.reduceToNat, am_addE, am_subE, am_mulE, am_laddE, am_lsubE, am_upO, am_upS, am_stS, am_stO, am_tnn, am_brl, am_brg, am_bre, am_brn, am_brG, am_brL, am_st1, am_no2, am_st2, am_clr, and_self, true_and, and_true, true_or, or_true, List.length_cons, List.length_nil] <;> omega) ?_
              try simp (disch := omega) only [s124 hw, r124_14 hw, s126 hw, Int.reduceToNat, am_addE, am_subE, am_mulE, am_laddE, am_lsubE, am_upO, am_upS, am_stS, am_stO, am_tnn, am_brl, am_brg, am_bre, am_brn, am_brG, am_brL, am_st1, am_no2, am_st2, am_clr]
              refine am_wp_br (fun b99 => ?_) (fun b99 => ?_)
              · have : k = 2 * nS W := by omega
                subst this
                refine am_wp_go rfl (by simp (disch := omega) only [s124 hw, r124_14 hw, s126 hw, Int.reduceToNat, am_addE, am_subE, am_mulE, am_laddE, am_lsubE, am_upO, am_upS, am_stS, am_stO, am_tnn, am_brl, am_brg, am_bre, am_brn, am_brG, am_brL, am_st1, am_no2, am_st2, am_clr, and_self, true_and, and_true, true_or, or_true, List.length_cons, List.length_nil] <;> omega) ?_
                try simp (disch := omega) only [s124 hw, r124_14 hw, s126 hw, Int.reduceToNat, am_addE, am_subE, am_mulE, am_laddE, am_lsubE, am_upO, am_upS, am_stS, am_stO, am_tnn, am_brl, am_brg, am_bre, am_brn, am_brG, am_brL, am_st1, am_no2, am_st2, am_clr]
                exact am_wp_ls (ih _ X T (fun a ha => by rw [x1 a ha, k1 a ha]) x2 m1 m2 k5) rfl
              · have e145 := x2.1 k (by omega)
                have l1 := m1.1 k (by omega)
                have l2 := nd_pos hk (i := k) (by omega)
                have l3 := preS_mono (nd := T.1) k (2 * nS W) (by omega)
                have l4 := m1.2.2.2.2.2.2.1
                have ih2 := ih2 (by omega)
                unfold preS at ih2
                refine am_wp_go rfl (by simp (disch := omega) only [s124 hw, r124_39 hw, s145 hw, e145, Int.reduceToNat, am_addE, am_subE, am_mulE, am_laddE, am_lsubE, am_upO, am_upS, am_stS, am_stO, am_tnn, am_brl, am_brg, am_bre, am_brn, am_brG, am_brL, am_st1, am_no2, am_st2, am_clr, and_self, true_and, and_true, true_or, or_true, List.length_cons, List.length_nil] <;> omega) ?_
                try simp (disch := omega) only [s124 hw, r124_39 hw, s145 hw, e145, Int.reduceToNat, am_addE, am_subE, am_mulE, am_laddE, am_lsubE, am_upO, am_upS, am_stS, am_stO, am_tnn, am_brl, am_brg, am_bre, am_brn, am_brG, am_brL, am_st1, am_no2, am_st2, am_clr]
                refine am_wp_ls ih2 ?_
                simp only [List.cons.injEq, Option.some.injEq, Sum.inl.injEq, and_true, true_and]
                omega
          refine am_wp_go rfl (by simp (disch := omega) only [s124 hw, r124_14 hw, s126 hw, Int.reduceToNat, am_addE, am_subE, am_mulE, am_laddE, am_lsubE, am_upO, am_upS, am_stS, am_stO, am_tnn, am_brl, am_brg, am_bre, am_brn, am_brG, am_brL, am_st1, am_no2, am_st2, am_clr, and_self, true_and, and_true, true_or, or_true, List.length_cons, List.length_nil] <;> omega) ?_
          refine am_wp_ls (L 0 (by decide) none K (ckS0 W) k1 ⟨fun i hi => (k3 i hi).1, fun p hp => ⟨fun _ => k4 p (by omega), fun i hi => by have : (-1 : Int) = (i : Int) := hi; omega⟩, fun p hp hn => absurd rfl hn, fun s hs => ⟨fun _ => (k3 (2 * s + 1) (by omega)).2, fun hx => ?_⟩, by rw [k2]; exact v2, by rw [k2]; exact v3⟩ (ckI_0 hk) (fun s hs => Nat.le_refl _) rfl) rfl
          have := nd_pos hk (i := 2 * s) (by omega)
          have hx : ndW W (2 * s) = 0 := hx
          omega
        · skip
          refine am_wp_go rfl (by simp (disch := omega) only [s124 hw, r124_44 hw, s149 hw, Int.reduceToNat, am_addE, am_subE, am_mulE, am_laddE, am_lsubE, am_upO, am_upS, am_stS, am_stO, am_tnn, am_brl, am_brg, am_bre, am_brn, am_brG, am_brL, am_st1, am_no2, am_st2, am_clr, and_self, true_and, and_true, true_or, or_true, List.length_cons, List.length_nil] <;> omega) ?_
          try simp (disch := omega) only [s124 hw, r124_44 hw, s149 hw, Int.reduceToNat, am_addE, am_subE, am_mulE, am_laddE, am_lsubE, am_upO, am_upS, am_stS, am_stO, am_tnn, am_brl, am_brg, am_bre, am_brn, am_brG, am_brL, am_st1, am_no2, am_st2, am_clr]
          refine am_wp_ls (ih (by omega) _ (fun a ha => by rw [am_upO (by omega), k1 a ha]) (by rw [am_upO (by decide), k2]) (fun k hk2 => by rw [am_upO (by decide), am_upO (by decide)]; exact k3 k hk2) (fun q hq => ?_)) rfl
          rw [am_upS]
          by_cases hqp : q = p
          · rw [am_stS hqp]
          · rw [am_stO hqp]; exact k4 q (by omega)
      exact am_wp_ls (L1 0 (by omega) K k1 k2 k3 (fun q hq => absurd hq (Nat.not_lt_zero q))) rfl
    · have ih := ih (by omega)
      have ed : ((i : Int)) / 2 = ((i / 2 : Nat) : Int) := by omega
      have em : ((i : Int)) % 2 = ((i % 2 : Nat) : Int) := by omega
      have en := need_W hk (V := K) (fun j hj => vK j (by omega)) (s := i / 2) (u := i % 2) (by omega) (by omega)
      rw [show 2 * (i / 2) + i % 2 = i by omega] at en
      refine am_wp_go rfl (by simp (disch := omega) only [s124 hw, r124_39 hw, s145 hw, r124_42 hw, s147 hw, am_divE, am_remE, ed, em, am_addE, am_subE, am_mulE, am_laddE, am_lsubE, am_upO, am_upS, am_stS, am_stO, am_tnn, am_brl, am_brg, am_bre, am_brn, am_brG, am_brL, am_st1, am_no2, am_st2, am_clr, and_self, true_and, and_true, true_or, or_true, List.length_cons, List.length_nil] <;> omega) ?_
      try simp (disch := omega) only [s124 hw, r124_39 hw, s145 hw, r124_42 hw, s147 hw, am_divE, am_remE, ed, em, am_addE, am_subE, am_mulE, am_laddE, am_lsubE, am_upO, am_upS, am_stS, am_stO, am_tnn, am_brl, am_brg, am_bre, am_brn, am_brG, am_brL, am_st1, am_no2, am_st2, am_clr]
      refine am_wp_cc rfl rfl rfl (congrArg Prod.fst (s124 hw)) (w_M_needs (s := i / 2) (u := i % 2) hw (by omega) (by omega) ⟨_, rfl, ?_⟩)
      rw [en]
      refine am_wp_go rfl (by simp (disch := omega) only [s124 hw, r124_39 hw, s145 hw, r124_42 hw, s147 hw, am_divE, am_remE, ed, em, am_addE, am_subE, am_mulE, am_laddE, am_lsubE, am_upO, am_upS, am_stS, am_stO, am_tnn, am_brl, am_brg, am_bre, am_brn, am_brG, am_brL, am_st1, am_no2, am_st2, am_clr, and_self, true_and, and_true, true_or, or_true, List.length_cons, List.length_nil] <;> omega) ?_
      try simp (disch := omega) only [s124 hw, r124_39 hw, s145 hw, r124_42 hw, s147 hw, am_divE, am_remE, ed, em, am_addE, am_subE, am_mulE, am_laddE, am_lsubE, am_upO, am_upS, am_stS, am_stO, am_tnn, am_brl, am_brg, am_bre, am_brn, am_brG, am_brL, am_st1, am_no2, am_st2, am_clr]
      refine am_wp_ls (ih _ (fun a ha => ?_) ?_ (fun k hk2 => ?_)) rfl
      · rw [am_upO (by omega), am_upO (by omega), k1 a ha]
      · rw [am_upO (by decide), am_upO (by decide), k2]
      · rw [am_upO (by decide), am_upS, am_upS, am_upO (by decide)]
        by_cases hki : k = i
        · rw [am_stS hki, am_stS hki, hki]; exact ⟨rfl, rfl⟩
        · rw [am_stO hki, am_stO hki]; exact k3 k (by omega)
  exact am_wp_ls (L0 0 (by omega) J v1 rfl (fun k hk2 => absurd hk2 (Nat.not_lt_zero k))) rfl
theorem r_cook (hw : wd sh R) (hb : beg I) (hk : wk (lw I)) (hr : rf (pw (lw I)) G) (hg : gok G) (hH : H.length ≤ 8) (hG : ∀ j, j < H.length → (H.getD j []).length ≤ 400) (hh : hsR I H) (h0 : ¬ (0 < nS (lw I) ∧ 0 ≤ r ∧ r ≤ 2) → ∀ J, rq I J → Q (am_yi (-1)) (m, sl, sh, J, R)) (h1 : 0 < nS (lw I) ∧ 0 ≤ r ∧ r ≤ 2 → ∀ J, rqp I J → rf (pw (J 126)) (ckV (lw I) r).2 → hsR J (hpush H G) → Q (am_yi ((ckV (lw I) r).1 : Nat)) (m, sl, sh, J, R)) : am_wp (d + 6) 280 0 [some (.inr (.inr (124))), some (.inl (r))] [] (m, sl, sh, I, R) Q := by
  refine am_wp_go rfl (by simp (disch := omega) only [s124 hw, am_bn0, am_b0, am_addE, am_subE, am_mulE, am_laddE, am_lsubE, am_upO, am_upS, am_stS, am_stO, am_tnn, am_brl, am_brg, am_bre, am_brn, am_brG, am_brL, am_st1, am_no2, am_st2, am_clr, and_self, true_and, and_true, true_or, or_true, List.length_cons, List.length_nil] <;> omega) ?_
  have q0 := rq_thrown (I := I) (x := 0)
  generalize am_up I 124 0 0 = I0 at q0 ⊢
  refine am_wp_cc rfl rfl rfl (congrArg Prod.fst (s124 hw)) (w_M_lay hw (beg_rq q0 hb) (fun J j1 j2 j3 j4 => ⟨_, rfl, ?_⟩))
  have q1 := rq_trans q0 (rq_lay j1 j2 j3 j4)
  rw [rq_lw q0] at j4
  clear j1 j2
  rw [← j4] at hk hr h0 h1
  have hh := hsR_rq hh q1
  refine am_wp_go rfl (by simp (disch := omega) only [s124 hw, am_bn0, am_b0, am_addE, am_subE, am_mulE, am_laddE, am_lsubE, am_upO, am_upS, am_stS, am_stO, am_tnn, am_brl, am_brg, am_bre, am_brn, am_brG, am_brL, am_st1, am_no2, am_st2, am_clr, and_self, true_and, and_true, true_or, or_true, List.length_cons, List.length_nil] <;> omega) ?_
  try simp (disch := omega) only [s124 hw, am_bn0, am_b0, am_addE, am_subE, am_mulE, am_laddE, am_lsubE, am_upO, am_upS, am_stS, am_stO, am_tnn, am_brl, am_brg, am_bre, am_brn, am_brG, am_brL, am_st1, am_no2, am_st2, am_clr]
  refine am_wp_cc rfl rfl rfl (congrArg Prod.fst (s124 hw)) (w_M_slicesN hw (wk_w hk) ⟨_, rfl, ?_⟩)
  refine am_wp_go rfl (by simp (disch := omega) only [s124 hw, am_bn0, am_b0, am_addE, am_subE, am_mulE, am_laddE, am_lsubE, am_upO, am_upS, am_stS, am_stO, am_tnn, am_brl, am_brg, am_bre, am_brn, am_brG, am_brL, am_st1, am_no2, am_st2, am_clr, and_self, true_and, and_true, true_or, or_true, List.length_cons, List.length_nil] <;> omega) ?_
  try simp (disch := omega) only [s124 hw, am_bn0, am_b0, am_addE, am_subE, am_mulE, am_laddE, am_lsubE, am_upO, am_upS, am_stS, am_stO, am_tnn, am_brl, am_brg, am_bre, am_brn, am_brG, am_brL, am_st1, am_no2, am_st2, am_clr]
  refine am_wp_br (fun b13 => ?_) (fun b13 => ?_)
  · refine am_wp_go rfl (by simp (disch := omega) only [s124 hw, am_bn0, am_b0, am_addE, am_subE, am_mulE, am_laddE, am_lsubE, am_upO, am_upS, am_stS, am_stO, am_tnn, am_brl, am_brg, am_bre, am_brn, am_brG, am_brL, am_st1, am_no2, am_st2, am_clr, and_self, true_and, and_true, true_or, or_true, List.length_cons, List.length_nil] <;> omega) ?_
    try simp (disch := omega) only [s124 hw, am_bn0, am_b0, am_addE, am_subE, am_mulE, am_laddE, am_lsubE, am_upO, am_upS, am_stS, am_stO, am_tnn, am_brl, am_brg, am_bre, am_brn, am_brG, am_brL, am_st1, am_no2, am_st2, am_clr]
    refine am_wp_ret rfl rfl ?_
    exact h0 (by omega) J q1
  · refine am_wp_go rfl (by simp (disch := omega) only [s124 hw, am_bn0, am_b0, am_addE, am_subE, am_mulE, am_laddE, am_lsubE, am_upO, am_upS, am_stS, am_stO, am_tnn, am_brl, am_brg, am_bre, am_brn, am_brG, am_brL, am_st1, am_no2, am_st2, am_clr, and_self, true_and, and_true, true_or, or_true, List.length_cons, List.length_nil] <;> omega) ?_
    try simp (disch := omega) only [s124 hw, am_bn0, am_b0, am_addE, am_subE, am_mulE, am_laddE, am_lsubE, am_upO, am_upS, am_stS, am_stO, am_tnn, am_brl, am_brg, am_bre, am_brn, am_brG, am_brL, am_st1, am_no2, am_st2, am_clr]
    refine am_wp_cc rfl rfl rfl (trivial) (w_M_isIn ⟨_, rfl, ?_⟩)
    refine am_wp_go rfl (by simp (disch := omega) only [s124 hw, am_bn0, am_b0, am_addE, am_subE, am_mulE, am_laddE, am_lsubE, am_upO, am_upS, am_stS, am_stO, am_tnn, am_brl, am_brg, am_bre, am_brn, am_brG, am_brL, am_st1, am_no2, am_st2, am_clr, and_self, true_and, and_true, true_or, or_true, List.length_cons, List.length_nil] <;> omega) ?_
    try simp (disch := omega) only [s124 hw, am_bn0, am_b0, am_addE, am_subE, am_mulE, am_laddE, am_lsubE, am_upO, am_upS, am_stS, am_stO, am_tnn, am_brl, am_brg, am_bre, am_brn, am_brG, am_brL, am_st1, am_no2, am_st2, am_clr]
    refine am_wp_br (fun b22 => ?_) (fun b22 => ?_)
    · have h := h1 (by omega)
      clear h0 h1
      refine am_wp_go rfl (by simp (disch := omega) only [s124 hw, am_bn0, am_b0, am_addE, am_subE, am_mulE, am_laddE, am_lsubE, am_upO, am_upS, am_stS, am_stO, am_tnn, am_brl, am_brg, am_bre, am_brn, am_brG, am_brL, am_st1, am_no2, am_st2, am_clr, and_self, true_and, and_true, true_or, or_true, List.length_cons, List.length_nil] <;> omega) ?_
      try simp (disch := omega) only [s124 hw, am_bn0, am_b0, am_addE, am_subE, am_mulE, am_laddE, am_lsubE, am_upO, am_upS, am_stS, am_stO, am_tnn, am_brl, am_brg, am_bre, am_brn, am_brG, am_brL, am_st1, am_no2, am_st2, am_clr]
      refine am_wp_cc rfl rfl rfl (congrArg Prod.fst (s124 hw)) (w_M_snap hw hr hg.1 hH hG hh (fun K k1 k2 k3 => ⟨_, rfl, ?_⟩))
      refine am_wp_go rfl (by simp (disch := omega) only [s124 hw, am_bn0, am_b0, am_addE, am_subE, am_mulE, am_laddE, am_lsubE, am_upO, am_upS, am_stS, am_stO, am_tnn, am_brl, am_brg, am_bre, am_brn, am_brG, am_brL, am_st1, am_no2, am_st2, am_clr, and_self, true_and, and_true, true_or, or_true, List.length_cons, List.length_nil] <;> omega) ?_
      try simp (disch := omega) only [s124 hw, am_bn0, am_b0, am_addE, am_subE, am_mulE, am_laddE, am_lsubE, am_upO, am_upS, am_stS, am_stO, am_tnn, am_brl, am_brg, am_bre, am_brn, am_brG, am_brL, am_st1, am_no2, am_st2, am_clr]
      refine am_wp_cc rfl rfl rfl (congrArg Prod.fst (s124 hw)) (w_M_cookAll (r := r) (W := J 126) hw hk b22 (by rw [k1 126 (by decide) (by decide)]; exact fun _ _ => rfl) (fun X x1 x2 x3 => ⟨_, rfl, ?_⟩))
      refine am_wp_ret rfl rfl ?_
      exact h X (rqp_of q1 j3 j4 (fun a ha => by rw [x1 a (by omega), k1 a (by omega) (by omega)]) (fun j h2 _ _ _ => by rw [x1 124 (by omega), k2 j h2]) x2) x3 (hsR_fr k3 (by rw [x1 124 (by omega)]) (x1 129 (by omega)))
    · refine am_wp_go rfl (by simp (disch := omega) only [s124 hw, am_bn0, am_b0, am_addE, am_subE, am_mulE, am_laddE, am_lsubE, am_upO, am_upS, am_stS, am_stO, am_tnn, am_brl, am_brg, am_bre, am_brn, am_brG, am_brL, am_st1, am_no2, am_st2, am_clr, and_self, true_and, and_true, true_or, or_true, List.length_cons, List.length_nil] <;> omega) ?_
      try simp (disch := omega) only [s124 hw, am_bn0, am_b0, am_addE, am_subE, am_mulE, am_laddE, am_lsubE, am_upO, am_upS, am_stS, am_stO, am_tnn, am_brl, am_brg, am_bre, am_brn, am_brG, am_brL, am_st1, am_no2, am_st2, am_clr]
      refine am_wp_ret rfl rfl ?_
      exact h0 (by omega) J q1
set_option maxHeartbeats 4000000 in
theorem r_best (hw : wd sh R) (hb : beg I) (hk : wk (lw I)) (h0 : nS (lw I) = 0 → ∀ J, rq I J → Q (am_yi (-1)) (m, sl, sh, J, R)) (h1 : 0 < nS (lw I) → ∀ J, rq I J → Q (am_yi (ckLe (lw I) 2).2) (m, sl, sh, J, R)) : am_wp (d + 6) 281 0 [some (.inr (.inr (124))), none, none, none, none] [] (m, sl, sh, I, R) Q := by
  refine am_wp_go rfl (by simp (disch := omega) only [s124 hw, am_addE, am_subE, am_mulE, am_laddE, am_lsubE, am_upO, am_upS, am_stS, am_stO, am_tnn, am_brl, am_brg, am_bre, am_brn, am_brG, am_brL, am_st1, am_no2, am_st2, am_clr, and_self, true_and, and_true, true_or, or_true, List.length_cons, List.length_nil] <;> omega) ?_
  have q0 := rq_thrown (I := I) (x := 0)
  generalize am_up I 124 0 0 = I0 at q0 ⊢
  refine am_wp_cc rfl rfl rfl (congrArg Prod.fst (s124 hw)) (w_M_lay hw (beg_rq q0 hb) (fun J j1 j2 j3 j4 => ⟨_, rfl, ?_⟩))
  have q1 := rq_trans q0 (rq_lay j1 j2 j3 j4)
  rw [rq_lw q0] at j4
  clear j1 j2
  rw [← j4] at hk h0 h1
  refine am_wp_go rfl (by simp (disch := omega) only [s124 hw, am_addE, am_subE, am_mulE, am_laddE, am_lsubE, am_upO, am_upS, am_stS, am_stO, am_tnn, am_brl, am_brg, am_bre, am_brn, am_brG, am_brL, am_st1, am_no2, am_st2, am_clr, and_self, true_and, and_true, true_or, or_true, List.length_cons, List.length_nil] <;> omega) ?_
  try simp (disch := omega) only [s124 hw, am_addE, am_subE, am_mulE, am_laddE, am_lsubE, am_upO, am_upS, am_stS, am_stO, am_tnn, am_brl, am_brg, am_bre, am_brn, am_brG, am_brL, am_st1, am_no2, am_st2, am_clr]
  refine am_wp_cc rfl rfl rfl (congrArg Prod.fst (s124 hw)) (w_M_slicesN hw (wk_w hk) ⟨_, rfl, ?_⟩)
  refine am_wp_go rfl (by simp (disch := omega) only [s124 hw, am_addE, am_subE, am_mulE, am_laddE, am_lsubE, am_upO, am_upS, am_stS, am_stO, am_tnn, am_brl, am_brg, am_bre, am_brn, am_brG, am_brL, am_st1, am_no2, am_st2, am_clr, and_self, true_and, and_true, true_or, or_true, List.length_cons, List.length_nil] <;> omega) ?_
  try simp (disch := omega) only [s124 hw, am_addE, am_subE, am_mulE, am_laddE, am_lsubE, am_upO, am_upS, am_stS, am_stO, am_tnn, am_brl, am_brg, am_bre, am_brn, am_brG, am_brL, am_st1, am_no2, am_st2, am_clr]
  refine am_wp_br (fun b13 => ?_) (fun b13 => ?_)
  · have h := h1 (by omega)
    clear h0 h1
    refine am_wp_go rfl (by simp (disch := omega) only [s124 hw, am_addE, am_subE, am_mulE, am_laddE, am_lsubE, am_upO, am_upS, am_stS, am_stO, am_tnn, am_brl, am_brg, am_bre, am_brn, am_brG, am_brL, am_st1, am_no2, am_st2, am_clr, and_self, true_and, and_true, true_or, or_true, List.length_cons, List.length_nil] <;> omega) ?_
    have L0 : ∀ k, k ≤ 2001 → ∀ (K : Nat → Nat → Int), (∀ a, a ≠ 151 → K a = J a) → (∀ i, i < k → K 151 i = J 126 (58 + i)) → am_wp (d + 6) 281 20 [some (.inr (.inr (124))), some (.inl ((k : Int))), none, none, none] [] (m, sl, sh, K, R) Q := by
      refine am_lp 2001 (fun k hk2 ih K k1 k2 => ?_)
      refine am_wp_go rfl (by simp (disch := omega) only [s124 hw, r124_14 hw, s126 hw, r124_46 hw, s151 hw, am_tnA, Int.reduceToNat, am_addE, am_subE, am_mulE, am_laddE, am_lsubE, am_upO, am_upS, am_stS, am_stO, am_tnn, am_brl, am_brg, am_bre, am_brn, am_brG, am_brL, am_st1, am_no2, am_st2, am_clr, and_self, true_and, and_true, true_or, or_true, List.length_cons, List.length_nil] <;> omega) ?_
      try simp (disch := omega) only [s124 hw, r124_14 hw, s126 hw, r124_46 hw, s151 hw, am_tnA, Int.reduceToNat, am_addE, am_subE, am_mulE, am_laddE, am_lsubE, am_upO, am_upS, am_stS, am_stO, am_tnn, am_brl, am_brg, am_bre, am_brn, am_brG, am_brL, am_st1, am_no2, am_st2, am_clr]
      refine am_wp_br (fun b24 => ?_) (fun b24 => ?_)
      · have e : k = 2001 := by omega
        subst e
        clear ih
        refine am_wp_go rfl (by simp (disch := omega) only [s124 hw, r124_14 hw, s126 hw, r124_46 hw, s151 hw, am_tnA, Int.reduceToNat, am_addE, am_subE, am_mulE, am_laddE, am_lsubE, am_upO, am_upS, am_stS, am_stO, am_tnn, am_brl, am_brg, am_bre, am_brn, am_brG, am_brL, am_st1, am_no2, am_st2, am_clr, and_self, true_and, and_true, true_or, or_true, List.length_cons, List.length_nil] <;> omega) ?_
        try simp (disch := omega) only [s124 hw, r124_14 hw, s126 hw, r124_46 hw, s151 hw, am_tnA, Int.reduceToNat, am_addE, am_subE, am_mulE, am_laddE, am_lsubE, am_upO, am_upS, am_stS, am_stO, am_tnn, am_brl, am_brg, am_bre, am_brn, am_brG, am_brL, am_st1, am_no2, am_st2, am_clr]
        refine am_wp_cc rfl rfl rfl (congrArg Prod.fst (s124 hw)) (w_M_cookAll (r := 0) (W := J 126) hw hk (by decide) (by rw [k1 126 (by decide)]; exact fun _ _ => rfl) (fun X x1 x2 x3 => ⟨_, rfl, ?_⟩))
        refine am_wp_go rfl (by simp (disch := omega) only [s124 hw, r124_14 hw, s126 hw, r124_46 hw, s151 hw, am_tnA, Int.reduceToNat, am_addE, am_subE, am_mulE, am_laddE, am_lsubE, am_upO, am_upS, am_stS, am_stO, am_tnn, am_brl, am_brg, am_bre, am_brn, am_brG, am_brL, am_st1, am_no2, am_st2, am_clr, and_self, true_and, and_true, true_or, or_true, List.length_cons, List.length_nil] <;> omega) ?_
        have L : ∀ c, c ≤ 2 → ∀ (z4 : Option am_V) (V : Nat → Nat → Int), (∀ a, ¬ (a = 126 ∨ 143 ≤ a ∧ a ≤ 151) → V a = J a) → (∀ i, i < 2001 → V 151 i = J 126 (58 + i)) → (∀ j, (j < 58 ∨ 2059 ≤ j) → V 126 j = J 126 j) → am_wp (d + 6) 281 58 [some (.inr (.inr (124))), some (.inl ((ckLe (J 126) c).2)), some (.inl (((ckLe (J 126) c).1 : Int))), some (.inl (((c + 1 : Nat) : Int))), z4] [] (m, sl, sh, V, R) Q := by
          refine am_lp 2 (fun c hc ih z4 V v1 v2 v3 => ?_)
          refine am_wp_go rfl (by simp (disch := omega) only [s124 hw, r124_14 hw, s126 hw, r124_46 hw, s151 hw, am_tnA, Int.reduceToNat, am_addE, am_subE, am_mulE, am_laddE, am_lsubE, am_upO, am_upS, am_stS, am_stO, am_tnn, am_brl, am_brg, am_bre, am_brn, am_brG, am_brL, am_st1, am_no2, am_st2, am_clr, and_self, true_and, and_true, true_or, or_true, List.length_cons, List.length_nil] <;> omega) ?_
          try simp (disch := omega) only [s124 hw, r124_14 hw, s126 hw, r124_46 hw, s151 hw, am_tnA, Int.reduceToNat, am_addE, am_subE, am_mulE, am_laddE, am_lsubE, am_upO, am_upS, am_stS, am_stO, am_tnn, am_brl, am_brg, am_bre, am_brn, am_brG, am_brL, am_st1, am_no2, am_st2, am_clr]
          refine am_wp_br (fun b60 => ?_) (fun b60 => ?_)
          · have e : c = 2 := by omega
            subst e
            clear ih
            refine am_wp_go rfl (by simp (disch := omega) only [s124 hw, r124_14 hw, s126 hw, r124_46 hw, s151 hw, am_tnA, Int.reduceToNat, am_addE, am_subE, am_mulE, am_laddE, am_lsubE, am_upO, am_upS, am_stS, am_stO, am_tnn, am_brl, am_brg, am_bre, am_brn, am_brG, am_brL, am_st1, am_no2, am_st2, am_clr, and_self, true_and, and_true, true_or, or_true, List.length_cons, List.length_nil] <;> omega) ?_
            have L2 : ∀ k, k ≤ 2001 → ∀ (Y : Nat → Nat → Int), (∀ a, a ≠ 126 → Y a = V a) → (∀ i, i < k → Y 126 (58 + i) = J 126 (58 + i)) → (∀ j, (j < 58 ∨ 2059 ≤ j) → Y 126 j = J 126 j) → am_wp (d + 6) 281 92 [some (.inr (.inr (124))), some (.inl ((ckLe (J 126) 2).2)), some (.inl (((ckLe (J 126) 2).1 : Int))), some (.inl ((k : Int))), z4] [] (m, sl, sh, Y, R) Q := by
              refine am_lp 2001 (fun k hk2 ih Y y1 y2 y3 => ?_)
              refine am_wp_go rfl (by simp (disch := omega) only [s124 hw, r124_14 hw, s126 hw, r124_46 hw, s151 hw, am_tnA, Int.reduceToNat, am_addE, am_subE, am_mulE, am_laddE, am_lsubE, am_upO, am_upS, am_stS, am_stO, am_tnn, am_brl, am_brg, am_bre, am_brn, am_brG, am_brL, am_st1, am_no2, am_st2, am_clr, and_self, true_and, and_true, true_or, or_true, List.length_cons, List.length_nil] <;> omega) ?_
              try simp (disch := omega) only [s124 hw, r124_14 hw, s126 hw, r124_46 hw, s151 hw, am_tnA, Int.reduceToNat, am_addE, am_subE, am_mulE, am_laddE, am_lsubE, am_upO, am_upS, am_stS, am_stO, am_tnn, am_brl, am_brg, am_bre, am_brn, am_brG, am_brL, am_st1, am_no2, am_st2, am_clr]
              refine am_wp_br (fun b96 => ?_) (fun b96 => ?_)
              · refine am_wp_go rfl (by simp (disch := omega) only [s124 hw, r124_14 hw, s126 hw, r124_46 hw, s151 hw, am_tnA, Int.reduceToNat, am_addE, am_subE, am_mulE, am_laddE, am_lsubE, am_upO, am_upS, am_stS, am_stO, am_tnn, am_brl, am_brg, am_bre, am_brn, am_brG, am_brL, am_st1, am_no2, am_st2, am_clr, and_self, true_and, and_true, true_or, or_true, List.length_cons, List.length_nil] <;> omega) ?_
                try simp (disch := omega) only [s124 hw, r124_14 hw, s126 hw, r124_46 hw, s151 hw, am_tnA, Int.reduceToNat, am_addE, am_subE, am_mulE, am_laddE, am_lsubE, am_upO, am_upS, am_stS, am_stO, am_tnn, am_brl, am_brg, am_bre, am_brn, am_brG, am_brL, am_st1, am_no2, am_st2, am_clr]
                refine am_wp_ret rfl rfl ?_
                have eY : Y 126 = J 126 := by
                  funext j
                  by_cases hj : j < 58 ∨ 2059 ≤ j
                  · exact y3 j hj
                  · have := y2 (j - 58) (by omega)
                    rwa [show 58 + (j - 58) = j by omega] at this
                have e124 : Y 124 = J 124 := by rw [y1 124 (by decide), v1 124 (by omega)]
                refine h Y (rq_trans q1 ⟨fun a ha => by rw [y1 a (by omega), v1 a (by omega)], ⟨by rw [e124], by rw [e124], by rw [e124], by rw [e124], by rw [e124], by rw [e124], by rw [e124]⟩, Or.inl ⟨by rw [e124], eY⟩⟩)
              · have e151 : Y 151 k = J 126 (58 + k) := by rw [y1 151 (by decide)]; exact v2 k (by omega)
                refine am_wp_go rfl (by simp (disch := omega) only [s124 hw, r124_14 hw, s126 hw, r124_46 hw, s151 hw, e151, am_tnA, Int.reduceToNat, am_addE, am_subE, am_mulE, am_laddE, am_lsubE, am_upO, am_upS, am_stS, am_stO, am_tnn, am_brl, am_brg, am_bre, am_brn, am_brG, am_brL, am_st1, am_no2, am_st2, am_clr, and_self, true_and, and_true, true_or, or_true, List.length_cons, List.length_nil] <;> omega) ?_
                try simp (disch := omega) only [s124 hw, r124_14 hw, s126 hw, r124_46 hw, s151 hw, e151, am_tnA, Int.reduceToNat, am_addE, am_subE, am_mulE, am_laddE, am_lsubE, am_upO, am_upS, am_stS, am_stO, am_tnn, am_brl, am_brg, am_bre, am_brn, am_brG, am_brL, am_st1, am_no2, am_st2, am_clr]
                refine am_wp_ls (ih (by omega) _ (fun a ha => by rw [am_upO ha, y1 a ha]) (fun i hi => ?_) (fun j hj => by rw [am_upS, am_stO (by omega), y3 j hj])) rfl
                rw [am_upS]
                by_cases hik : i = k
                · rw [am_stS (by omega), hik]
                · rw [am_stO (by omega)]; exact y2 i (by omega)
            exact am_wp_ls (L2 0 (by omega) V (fun _ _ => rfl) (fun i hi => absurd hi (Nat.not_lt_zero i)) v3) rfl
          · have ih := ih (by omega)
            unfold ckLe at ih
            clear h
            refine am_wp_go rfl (by simp (disch := omega) only [s124 hw, r124_14 hw, s126 hw, r124_46 hw, s151 hw, am_tnA, Int.reduceToNat, am_addE, am_subE, am_mulE, am_laddE, am_lsubE, am_upO, am_upS, am_stS, am_stO, am_tnn, am_brl, am_brg, am_bre, am_brn, am_brG, am_brL, am_st1, am_no2, am_st2, am_clr, and_self, true_and, and_true, true_or, or_true, List.length_cons, List.length_nil] <;> omega) ?_
            try simp (disch := omega) only [s124 hw, r124_14 hw, s126 hw, r124_46 hw, s151 hw, am_tnA, Int.reduceToNat, am_addE, am_subE, am_mulE, am_laddE, am_lsubE, am_upO, am_upS, am_stS, am_stO, am_tnn, am_brl, am_brg, am_bre, am_brn, am_brG, am_brL, am_st1, am_no2, am_st2, am_clr]
            refine am_wp_cc rfl rfl rfl (congrArg Prod.fst (s124 hw)) (w_M_cookAll (r := ((c + 1 : Nat) : Int)) (W := J 126) hw hk (by omega) v3 (fun Y y1 y2 y3 => ⟨_, rfl, ?_⟩))
            rw [show ((c + 1 : Nat) : Int) = (c : Int) + 1 by omega]
            refine am_wp_go rfl (by simp (disch := omega) only [s124 hw, r124_14 hw, s126 hw, r124_46 hw, s151 hw, am_tnA, Int.reduceToNat, am_addE, am_subE, am_mulE, am_laddE, am_lsubE, am_upO, am_upS, am_stS, am_stO, am_tnn, am_brl, am_brg, am_bre, am_brn, am_brG, am_brL, am_st1, am_no2, am_st2, am_clr, and_self, true_and, and_true, true_or, or_true, List.length_cons, List.length_nil] <;> omega) ?_
            try simp (disch := omega) only [s124 hw, r124_14 hw, s126 hw, r124_46 hw, s151 hw, am_tnA, Int.reduceToNat, am_addE, am_subE, am_mulE, am_laddE, am_lsubE, am_upO, am_upS, am_stS, am_stO, am_tnn, am_brl, am_brg, am_bre, am_brn, am_brG, am_brL, am_st1, am_no2, am_st2, am_clr]
            refine am_wp_br (fun b73 => ?_) (fun b73 => ?_)
            · rw [if_pos (by omega)] at ih
              refine am_wp_go rfl (by simp (disch := omega) only [s124 hw, r124_14 hw, s126 hw, r124_46 hw, s151 hw, am_tnA, Int.reduceToNat, am_addE, am_subE, am_mulE, am_laddE, am_lsubE, am_upO, am_upS, am_stS, am_stO, am_tnn, am_brl, am_brg, am_bre, am_brn, am_brG, am_brL, am_st1, am_no2, am_st2, am_clr, and_self, true_and, and_true, true_or, or_true, List.length_cons, List.length_nil] <;> omega) ?_
              try simp (disch := omega) only [s124 hw, r124_14 hw, s126 hw, r124_46 hw, s151 hw, am_tnA, Int.reduceToNat, am_addE, am_subE, am_mulE, am_laddE, am_lsubE, am_upO, am_upS, am_stS, am_stO, am_tnn, am_brl, am_brg, am_bre, am_brn, am_brG, am_brL, am_st1, am_no2, am_st2, am_clr]
              refine am_wp_ls (ih (some (.inl ((ckV (J 126) ((c : Int) + 1)).1 : Int))) Y (fun a ha => by rw [y1 a (by omega), v1 a ha]) (by rw [y1 151 (by omega)]; exact v2) y2) ?_
              simp only [List.cons.injEq, Option.some.injEq, Sum.inl.injEq, and_true, true_and]
              omega
            · rw [if_neg (by omega)] at ih
              refine am_wp_go rfl (by simp (disch := omega) only [s124 hw, r124_14 hw, s126 hw, r124_46 hw, s151 hw, am_tnA, Int.reduceToNat, am_addE, am_subE, am_mulE, am_laddE, am_lsubE, am_upO, am_upS, am_stS, am_stO, am_tnn, am_brl, am_brg, am_bre, am_brn, am_brG, am_brL, am_st1, am_no2, am_st2, am_clr, and_self, true_and, and_true, true_or, or_true, List.length_cons, List.length_nil] <;> omega) ?_
              try simp (disch := omega) only [s124 hw, r124_14 hw, s126 hw, r124_46 hw, s151 hw, am_tnA, Int.reduceToNat, am_addE, am_subE, am_mulE, am_laddE, am_lsubE, am_upO, am_upS, am_stS, am_stO, am_tnn, am_brl, am_brg, am_bre, am_brn, am_brG, am_brL, am_st1, am_no2, am_st2, am_clr]
              refine am_wp_ls (ih (some (.inl ((ckV (J 126) ((c : Int) + 1)).1 : Int))) Y (fun a ha => by rw [y1 a (by omega), v1 a ha]) (by rw [y1 151 (by omega)]; exact v2) y2) ?_
              simp only [List.cons.injEq, Option.some.injEq, Sum.inl.injEq, and_true, true_and]
              omega
        exact am_wp_ls (L 0 (by omega) none X (fun a ha => by rw [x1 a (by omega), k1 a (by omega)]) (by rw [x1 151 (by omega)]; exact k2) x2) rfl
      · have e126 : K 126 = J 126 := k1 126 (by decide)
        refine am_wp_go rfl (by simp (disch := omega) only [s124 hw, r124_14 hw, s126 hw, r124_46 hw, s151 hw, am_tnA, Int.reduceToNat, am_addE, am_subE, am_mulE, am_laddE, am_lsubE, am_upO, am_upS, am_stS, am_stO, am_tnn, am_brl, am_brg, am_bre, am_brn, am_brG, am_brL, am_st1, am_no2, am_st2, am_clr, and_self, true_and, and_true, true_or, or_true, List.length_cons, List.length_nil] <;> omega) ?_
        try simp (disch := omega) only [s124 hw, r124_14 hw, s126 hw, r124_46 hw, s151 hw, am_tnA, Int.reduceToNat, am_addE, am_subE, am_mulE, am_laddE, am_lsubE, am_upO, am_upS, am_stS, am_stO, am_tnn, am_brl, am_brg, am_bre, am_brn, am_brG, am_brL, am_st1, am_no2, am_st2, am_clr]
        refine am_wp_ls (ih (by omega) _ (fun a ha => by rw [am_upO ha, k1 a ha]) (fun i hi => ?_)) rfl
        rw [am_upS, e126]
        by_cases hik : i = k
        · rw [am_stS hik, hik]
        · rw [am_stO hik]; exact k2 i (by omega)
    exact am_wp_ls (L0 0 (by omega) J (fun _ _ => rfl) (fun i hi => absurd hi (Nat.not_lt_zero i))) rfl
  · refine am_wp_go rfl (by simp (disch := omega) only [s124 hw, am_addE, am_subE, am_mulE, am_laddE, am_lsubE, am_upO, am_upS, am_stS, am_stO, am_tnn, am_brl, am_brg, am_bre, am_brn, am_brG, am_brL, am_st1, am_no2, am_st2, am_clr, and_self, true_and, and_true, true_or, or_true, List.length_cons, List.length_nil] <;> omega) ?_
    try simp (disch := omega) only [s124 hw, am_addE, am_subE, am_mulE, am_laddE, am_lsubE, am_upO, am_upS, am_stS, am_stO, am_tnn, am_brl, am_brg, am_bre, am_brn, am_brG, am_brL, am_st1, am_no2, am_st2, am_clr]
    refine am_wp_ret rfl rfl ?_
    exact h0 (by omega) J q1
end COOK
