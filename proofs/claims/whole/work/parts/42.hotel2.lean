/-! HOTEL: buy, hotel() on both sides -/
section HOTEL
variable {m sl : Nat} {sh : Nat → Nat × Nat} {I : Nat → Nat → Int} {R : Nat → Nat → Nat} {Q : am_R → am_M → Prop} {d w : Nat} {W N : Nat → Int}
theorem fewN_le {n u a : Int} (h1 : 1 ≤ n ∧ n ≤ 200 ∧ 1 ≤ u ∧ u ≤ 20 ∧ 1 ≤ a ∧ a ≤ 400) (h : fewN n u a ≠ -1) : 1 ≤ fewN n u a ∧ fewN n u a ≤ 200 := by
  unfold fewN at h ⊢
  by_cases h2 : a / u < 2
  · rw [if_pos h2] at h; exact absurd rfl h
  · rw [if_neg h2]
    generalize a / u = q at h2 ⊢
    have h3 : 0 < q := by omega
    refine ⟨?_, ?_⟩
    · refine (Int.le_ediv_iff_mul_le h3).mpr ?_
      omega
    · refine Int.le_of_lt_add_one ((Int.ediv_lt_iff_lt_mul h3).mpr ?_)
      have : 2 * n ≤ n * q := by rw [Int.mul_comm 2 n]; exact Int.mul_le_mul_of_nonneg_left (by omega) (by omega)
      have h5 : n * q ≤ 200 * q := Int.mul_le_mul_of_nonneg_right (by omega) (by omega)
      have h6 : (200 + 1) * q = 200 * q + q := by rw [Int.add_mul, Int.one_mul]
      omega
theorem w_buy (hw : wd sh R) (hk : kit I 6 W N) (hw1 : 1 ≤ w) (hw2 : w ≤ 200) (hn : 0 < nK W) (h : ∀ J D, (∀ a, a ≠ 86 → a ≠ 87 → a ≠ 88 → J a = I a) → hTab W w 1000000 D → J 86 2 = (nK W : Int) → (∀ k, k < nK W → J 88 k = (hbt D W w k : Int)) → Q (am_yi (D w)) (m, sl, sh, J, R)) : am_wp (d + 1) 16 0 [some (.inr (.inr (86))), some (.inr (.inr (6))), some (.inl ((w : Int))), none, none, none] [] (m, sl, sh, I, R) Q := by
  have n3 := wk_nK hk.1
  obtain ⟨k1, k2, k3, k4, k5, k6, k7, k8, k9⟩ := hk.2.1
  rw [n3.1] at k8
  refine am_wp_go rfl (by simp (disch := omega) only [s86 hw, r86_0 hw, s87 hw, s6 hw, k8, am_tnA, am_tnM, Int.reduceToNat, am_addE, am_subE, am_mulE, am_laddE, am_lsubE, am_upO, am_upS, am_stS, am_stO, am_tnn, am_brl, am_brg, am_bre, am_brn, am_brG, am_brL, am_st1, am_no2, am_st2, am_clr, and_self, true_and, and_true, true_or, or_true, List.length_cons, List.length_nil] <;> omega) ?_
  try simp (disch := omega) only [s86 hw, r86_0 hw, s87 hw, s6 hw, k8, am_tnA, am_tnM, Int.reduceToNat, am_addE, am_subE, am_mulE, am_laddE, am_lsubE, am_upO, am_upS, am_stS, am_stO, am_tnn, am_brl, am_brg, am_bre, am_brn, am_brG, am_brL, am_st1, am_no2, am_st2, am_clr]
  refine am_wp_br (fun b2 => ?_) (fun b2 => ?_)
  · omega
  · refine am_wp_go rfl (by simp (disch := omega) only [s86 hw, r86_0 hw, s87 hw, s6 hw, k8, am_tnA, am_tnM, Int.reduceToNat, am_addE, am_subE, am_mulE, am_laddE, am_lsubE, am_upO, am_upS, am_stS, am_stO, am_tnn, am_brl, am_brg, am_bre, am_brn, am_brG, am_brL, am_st1, am_no2, am_st2, am_clr, and_self, true_and, and_true, true_or, or_true, List.length_cons, List.length_nil] <;> omega) ?_
    try simp (disch := omega) only [s86 hw, r86_0 hw, s87 hw, s6 hw, k8, am_tnA, am_tnM, Int.reduceToNat, am_addE, am_subE, am_mulE, am_laddE, am_lsubE, am_upO, am_upS, am_stS, am_stO, am_tnn, am_brl, am_brg, am_bre, am_brn, am_brG, am_brL, am_st1, am_no2, am_st2, am_clr]
    refine am_wp_br (fun b9 => ?_) (fun b9 => ?_)
    · refine am_wp_go rfl (by simp (disch := omega) only [s86 hw, r86_0 hw, s87 hw, s6 hw, k8, am_tnA, am_tnM, Int.reduceToNat, am_addE, am_subE, am_mulE, am_laddE, am_lsubE, am_upO, am_upS, am_stS, am_stO, am_tnn, am_brl, am_brg, am_bre, am_brn, am_brG, am_brL, am_st1, am_no2, am_st2, am_clr, and_self, true_and, and_true, true_or, or_true, List.length_cons, List.length_nil] <;> omega) ?_
      try simp (disch := omega) only [s86 hw, r86_0 hw, s87 hw, s6 hw, k8, am_tnA, am_tnM, Int.reduceToNat, am_addE, am_subE, am_mulE, am_laddE, am_lsubE, am_upO, am_upS, am_stS, am_stO, am_tnn, am_brl, am_brg, am_bre, am_brn, am_brG, am_brL, am_st1, am_no2, am_st2, am_clr]
      refine am_wp_ls (am_lp (P := fun p => 1 ≤ p → ∀ J, (∀ a, a ≠ 86 → a ≠ 87 → J a = I a) → J 86 2 = (nK W : Int) → J 87 (201 * nK W) = 0 → (∀ q, 1 ≤ q → q < p → J 87 (201 * nK W + q) = 1000000) → am_wp (d + 1) 16 38 [some (.inr (.inr (86))), some (.inr (.inr (6))), some (.inl ((w : Int))), some (.inl ((p : Int))), none, none] [] (m, sl, sh, J, R) Q) (w + 1) (fun p hp ih hp1 J j1 j2 j3 j4 => ?_) 1 (by omega) (Nat.le_refl 1) _ (fun a h1 h2 => by rw [am_upO h2, am_upO h1]) (by rw [am_upO (by decide), am_upS, am_stS rfl]) (by rw [am_upS, Nat.mul_comm, am_stS rfl]) (fun q h1 h2 => by omega)) rfl
      refine am_wp_go rfl (by simp (disch := omega) only [s86 hw, r86_0 hw, s87 hw, s6 hw, j2, am_tnA, am_tnM, Int.reduceToNat, am_addE, am_subE, am_mulE, am_laddE, am_lsubE, am_upO, am_upS, am_stS, am_stO, am_tnn, am_brl, am_brg, am_bre, am_brn, am_brG, am_brL, am_st1, am_no2, am_st2, am_clr, and_self, true_and, and_true, true_or, or_true, List.length_cons, List.length_nil] <;> omega) ?_
      try simp (disch := omega) only [s86 hw, r86_0 hw, s87 hw, s6 hw, j2, am_tnA, am_tnM, Int.reduceToNat, am_addE, am_subE, am_mulE, am_laddE, am_lsubE, am_upO, am_upS, am_stS, am_stO, am_tnn, am_brl, am_brg, am_bre, am_brn, am_brG, am_brL, am_st1, am_no2, am_st2, am_clr]
      refine am_wp_br (fun b40 => ?_) (fun b40 => ?_)
      · refine am_wp_go rfl (by simp (disch := omega) only [s86 hw, r86_0 hw, s87 hw, s6 hw, j2, am_tnA, am_tnM, Int.reduceToNat, am_addE, am_subE, am_mulE, am_laddE, am_lsubE, am_upO, am_upS, am_stS, am_stO, am_tnn, am_brl, am_brg, am_bre, am_brn, am_brG, am_brL, am_st1, am_no2, am_st2, am_clr, and_self, true_and, and_true, true_or, or_true, List.length_cons, List.length_nil] <;> omega) ?_
        try simp (disch := omega) only [s86 hw, r86_0 hw, s87 hw, s6 hw, j2, am_tnA, am_tnM, Int.reduceToNat, am_addE, am_subE, am_mulE, am_laddE, am_lsubE, am_upO, am_upS, am_stS, am_stO, am_tnn, am_brl, am_brg, am_bre, am_brn, am_brG, am_brL, am_st1, am_no2, am_st2, am_clr]
        -- rows from the last SORT to the first
        have L : ∀ j, j ≤ nK W → ∀ (z4 z5 : Option am_V) (K : Nat → Nat → Int), (∀ a, a ≠ 86 → a ≠ 87 → K a = I a) → K 86 2 = (nK W : Int) → hBase w 1000000 (K 87) (nK W) → (∀ k, nK W - j ≤ k → k < nK W → hRow W w (K 87) k) → am_wp (d + 1) 16 73 [some (.inr (.inr (86))), some (.inr (.inr (6))), some (.inl ((w : Int))), some (.inl (((nK W - j : Nat) : Int) - 1)), z4, z5] [] (m, sl, sh, K, R) Q := by
          refine am_lp (nK W) (fun j hj ih2 z4 z5 K k1 k2 k3 k4 => ?_)
          refine am_wp_go rfl (by simp (disch := omega) only [s86 hw, r86_0 hw, s87 hw, s6 hw, k2, am_tnA, am_tnM, Int.reduceToNat, am_addE, am_subE, am_mulE, am_laddE, am_lsubE, am_upO, am_upS, am_stS, am_stO, am_tnn, am_brl, am_brg, am_bre, am_brn, am_brG, am_brL, am_st1, am_no2, am_st2, am_clr, and_self, true_and, and_true, true_or, or_true, List.length_cons, List.length_nil] <;> omega) ?_
          try simp (disch := omega) only [s86 hw, r86_0 hw, s87 hw, s6 hw, k2, am_tnA, am_tnM, Int.reduceToNat, am_addE, am_subE, am_mulE, am_laddE, am_lsubE, am_upO, am_upS, am_stS, am_stO, am_tnn, am_brl, am_brg, am_bre, am_brn, am_brG, am_brL, am_st1, am_no2, am_st2, am_clr]
          refine am_wp_br (fun b74 => ?_) (fun b74 => ?_)
          · have hj0 : j = nK W := by omega
            subst hj0
            have kk : kit K 6 W N := kit_fr hk (fun a h1 h2 => k1 a (by omega) (by omega))
            refine am_wp_go rfl (by simp (disch := omega) only [s86 hw, r86_0 hw, s87 hw, s6 hw, k2, am_tnA, am_tnM, Int.reduceToNat, am_addE, am_subE, am_mulE, am_laddE, am_lsubE, am_upO, am_upS, am_stS, am_stO, am_tnn, am_brl, am_brg, am_bre, am_brn, am_brG, am_brL, am_st1, am_no2, am_st2, am_clr, and_self, true_and, and_true, true_or, or_true, List.length_cons, List.length_nil] <;> omega) ?_
            try simp (disch := omega) only [s86 hw, r86_0 hw, s87 hw, s6 hw, k2, am_tnA, am_tnM, Int.reduceToNat, am_addE, am_subE, am_mulE, am_laddE, am_lsubE, am_upO, am_upS, am_stS, am_stO, am_tnn, am_brl, am_brg, am_bre, am_brn, am_brG, am_brL, am_st1, am_no2, am_st2, am_clr]
            refine am_wp_cc rfl rfl rfl (congrArg Prod.fst (s86 hw)) (w_htrace (w := w) hw kk k2 hw2 (fun L l1 l2 => ⟨_, rfl, ?_⟩))
            have e87 : L 87 = K 87 := l1 87 (by decide)
            refine am_wp_go rfl (by simp (disch := omega) only [s86 hw, r86_0 hw, s87 hw, e87, am_tnA, am_tnM, Int.reduceToNat, am_addE, am_subE, am_mulE, am_laddE, am_lsubE, am_upO, am_upS, am_stS, am_stO, am_tnn, am_brl, am_brg, am_bre, am_brn, am_brG, am_brL, am_st1, am_no2, am_st2, am_clr, and_self, true_and, and_true, true_or, or_true, List.length_cons, List.length_nil] <;> omega) ?_
            try simp (disch := omega) only [s86 hw, r86_0 hw, s87 hw, e87, am_tnA, am_tnM, Int.reduceToNat, am_addE, am_subE, am_mulE, am_laddE, am_lsubE, am_upO, am_upS, am_stS, am_stO, am_tnn, am_brl, am_brg, am_bre, am_brn, am_brG, am_brL, am_st1, am_no2, am_st2, am_clr]
            refine am_wp_ret rfl rfl ?_
            exact h L (K 87) (fun a h1 h2 h3 => by rw [l1 a h3, k1 a h1 h2]) ⟨k3, fun k hk => k4 k (by omega) hk⟩ (by rw [l1 86 (by decide)]; exact k2) l2
          · obtain ⟨k, hk0⟩ : ∃ k, nK W - j = k + 1 := ⟨nK W - j - 1, by omega⟩
            have hkn : k < nK W := by omega
            have hb := hk.1.2.2.2 k hkn
            have hb2 := hk.2.2.2.2.2 k hkn
            have e0 : ((nK W - j : Nat) : Int) - 1 = (k : Int) := by omega
            rw [hk0] at k4
            refine am_wp_go rfl (by simp (disch := omega) only [s86 hw, r86_0 hw, s87 hw, s6 hw, k2, am_tnA, am_tnM, Int.reduceToNat, e0, am_addE, am_subE, am_mulE, am_laddE, am_lsubE, am_upO, am_upS, am_stS, am_stO, am_tnn, am_brl, am_brg, am_bre, am_brn, am_brG, am_brL, am_st1, am_no2, am_st2, am_clr, and_self, true_and, and_true, true_or, or_true, List.length_cons, List.length_nil] <;> omega) ?_
            try simp (disch := omega) only [s86 hw, r86_0 hw, s87 hw, s6 hw, k2, am_tnA, am_tnM, Int.reduceToNat, e0, am_addE, am_subE, am_mulE, am_laddE, am_lsubE, am_upO, am_upS, am_stS, am_stO, am_tnn, am_brl, am_brg, am_bre, am_brn, am_brG, am_brL, am_st1, am_no2, am_st2, am_clr]
            refine am_wp_ls (am_lp (P := fun p => 1 ≤ p → ∀ (z5 : Option am_V) (L : Nat → Nat → Int), (∀ a, a ≠ 87 → L a = K a) → (∀ x, ¬ (201 * k ≤ x ∧ x ≤ 201 * k + w) → L 87 x = K 87 x) → L 87 (201 * k) = 0 → (∀ q, 1 ≤ q → q < p → L 87 (201 * k + q) = min2 (W (48 + 2 * k + 1) + L 87 (201 * k + (q - hpl W k))) (L 87 (201 * (k + 1) + q))) → (∀ q, q < p → 0 ≤ L 87 (201 * k + q) ∧ L 87 (201 * k + q) ≤ 99 * q) → am_wp (d + 1) 16 91 [some (.inr (.inr (86))), some (.inr (.inr (6))), some (.inl ((w : Int))), some (.inl ((k : Int))), some (.inl ((p : Int))), z5] [] (m, sl, sh, L, R) Q) (w + 1) (fun p hp ih3 hp1 z5 L l1 l2 l3 l4 l5 => ?_) 1 (by omega) (Nat.le_refl 1) z5 _ (fun a h1 => by rw [am_upO h1]) (fun x hx => by rw [am_upS, am_stO (by omega)]) (by rw [am_upS, Nat.mul_comm, am_stS rfl]) (fun q h1 h2 => by omega) (fun q hq => by rw [show q = 0 by omega, am_upS, Nat.add_zero, Nat.mul_comm, am_stS rfl]; decide)) rfl
            have e10 : L 10 k = W (48 + 2 * k) := by rw [l1 10 (by decide), k1 10 (by decide) (by decide)]; exact hb2.1
            have e11 : L 11 k = W (48 + 2 * k + 1) := by rw [l1 11 (by decide), k1 11 (by decide) (by decide)]; exact hb2.2
            refine am_wp_go rfl (by simp (disch := omega) only [s86 hw, r86_0 hw, s87 hw, s6 hw, r6_14 hw, r6_15 hw, s10 hw, s11 hw, e10, e11, am_tnA, am_tnM, Int.reduceToNat, am_addE, am_subE, am_mulE, am_laddE, am_lsubE, am_upO, am_upS, am_stS, am_stO, am_tnn, am_brl, am_brg, am_bre, am_brn, am_brG, am_brL, am_st1, am_no2, am_st2, am_clr, and_self, true_and, and_true, true_or, or_true, List.length_cons, List.length_nil] <;> omega) ?_
            try simp (disch := omega) only [s86 hw, r86_0 hw, s87 hw, s6 hw, r6_14 hw, r6_15 hw, s10 hw, s11 hw, e10, e11, am_tnA, am_tnM, Int.reduceToNat, am_addE, am_subE, am_mulE, am_laddE, am_lsubE, am_upO, am_upS, am_stS, am_stO, am_tnn, am_brl, am_brg, am_bre, am_brn, am_brG, am_brL, am_st1, am_no2, am_st2, am_clr]
            refine am_wp_br (fun b94 => ?_) (fun b94 => ?_)
            · have hp0 : p = w + 1 := by omega
              subst hp0
              refine am_wp_go rfl (by simp (disch := omega) only [s86 hw, r86_0 hw, s87 hw, s6 hw, r6_14 hw, r6_15 hw, s10 hw, s11 hw, e10, e11, am_tnA, am_tnM, Int.reduceToNat, am_addE, am_subE, am_mulE, am_laddE, am_lsubE, am_upO, am_upS, am_stS, am_stO, am_tnn, am_brl, am_brg, am_bre, am_brn, am_brG, am_brL, am_st1, am_no2, am_st2, am_clr, and_self, true_and, and_true, true_or, or_true, List.length_cons, List.length_nil] <;> omega) ?_
              try simp (disch := omega) only [s86 hw, r86_0 hw, s87 hw, s6 hw, r6_14 hw, r6_15 hw, s10 hw, s11 hw, e10, e11, am_tnA, am_tnM, Int.reduceToNat, am_addE, am_subE, am_mulE, am_laddE, am_lsubE, am_upO, am_upS, am_stS, am_stO, am_tnn, am_brl, am_brg, am_bre, am_brn, am_brG, am_brL, am_st1, am_no2, am_st2, am_clr]
              refine am_wp_ls (ih2 (by omega) (some (.inl ((w + 1 : Nat) : Int))) z5 L (fun a h1 h2 => by rw [l1 a h2, k1 a h1 h2]) (by rw [l1 86 (by decide)]; exact k2) ⟨?_, fun q h1 h2 => ?_⟩ (fun i h1 h2 => ?_)) (by simp only [List.cons.injEq, Option.some.injEq, Sum.inl.injEq, and_true, true_and]; omega)
              · rw [l2 _ (by omega)]; exact k3.1
              · rw [l2 _ (by omega)]; exact k3.2 q h1 h2
              · by_cases hik : i = k
                · subst hik
                  exact ⟨l3, fun q h1 h2 => l4 q h1 (by omega)⟩
                · have r := k4 i (by omega) h2
                  refine ⟨by rw [l2 _ (by omega)]; exact r.1, fun q h1 h2 => ?_⟩
                  rw [l2 _ (by omega), l2 _ (by omega), l2 _ (by omega)]
                  exact r.2 q h1 h2
            · have hx : (if 0 < (p : Int) - W (48 + 2 * k) then (p : Int) - W (48 + 2 * k) else 0) = ((p - hpl W k : Nat) : Int) := by
                unfold hpl
                split <;> omega
              have l6 := l5 (p - hpl W k) (by unfold hpl; omega)
              have l7 : ((p - hpl W k : Nat) : Int) + 1 ≤ p := by unfold hpl; omega
              have l8 : L 87 (201 * k + (p - hpl W k)) = L 87 (k * 201 + (p - hpl W k)) := by rw [Nat.mul_comm]
              have l9 : L 87 (201 * (k + 1) + p) = L 87 ((k + 1) * 201 + p) := by rw [Nat.mul_comm]
              -- what stands behind this row is not below 0
              have l10 : 0 ≤ L 87 ((k + 1) * 201 + p) := by
                rw [← l9, l2 _ (by omega)]
                by_cases hkl : k + 1 = nK W
                · rw [hkl, k3.2 p (by omega) (by omega)]; decide
                · have hT : hTab (fun i => W i) w 1000000 (K 87) → True := fun _ => trivial
                  have r0 : ∀ i, i ≤ nK W - (k + 1) → ∀ q, q ≤ w → 0 ≤ K 87 (201 * (nK W - i) + q) := by
                    intro i
                    induction i with
                    | zero =>
                      intro _ q hq
                      by_cases h0 : q = 0
                      · subst h0; rw [show 201 * (nK W - 0) + 0 = 201 * nK W by omega, k3.1]; decide
                      · rw [Nat.sub_zero, k3.2 q (by omega) hq]; decide
                    | succ i ihi =>
                      intro hi q
                      have hr := k4 (nK W - (i + 1)) (by omega) (by omega)
                      have hkb := hk.1.2.2.2 (nK W - (i + 1)) (by omega)
                      induction q using Nat.strongRecOn with
                      | ind q ihq =>
                        intro hq
                        by_cases h0 : q = 0
                        · subst h0; rw [Nat.add_zero, hr.1]; decide
                        · rw [hr.2 q (by omega) hq]
                          have h1 := ihi (by omega) q hq
                          rw [show nK W - i = nK W - (i + 1) + 1 by omega] at h1
                          have h2 := ihq (q - hpl W (nK W - (i + 1))) (by unfold hpl; omega) (by omega)
                          unfold min2
                          split <;> omega
                  have := r0 (nK W - (k + 1)) (by omega) p (by omega)
                  rwa [show nK W - (nK W - (k + 1)) = k + 1 by omega] at this
              rw [l8] at l6
              refine am_wp_go rfl (by simp (disch := omega) only [s86 hw, r86_0 hw, s87 hw, s6 hw, r6_14 hw, r6_15 hw, s10 hw, s11 hw, e10, e11, am_tnA, am_tnM, Int.reduceToNat, hx, am_addE, am_subE, am_mulE, am_laddE, am_lsubE, am_upO, am_upS, am_stS, am_stO, am_tnn, am_brl, am_brg, am_bre, am_brn, am_brG, am_brL, am_st1, am_no2, am_st2, am_clr, and_self, true_and, and_true, true_or, or_true, List.length_cons, List.length_nil] <;> omega) ?_
              try simp (disch := omega) only [s86 hw, r86_0 hw, s87 hw, s6 hw, r6_14 hw, r6_15 hw, s10 hw, s11 hw, e10, e11, am_tnA, am_tnM, Int.reduceToNat, hx, am_addE, am_subE, am_mulE, am_laddE, am_lsubE, am_upO, am_upS, am_stS, am_stO, am_tnn, am_brl, am_brg, am_bre, am_brn, am_brG, am_brL, am_st1, am_no2, am_st2, am_clr]
              refine am_wp_ls (ih3 (by omega) (by omega) _ _ (fun a h1 => by rw [am_upO h1, l1 a h1]) (fun x hx => by rw [am_upS, am_stO (by omega), l2 x hx]) (by rw [am_upS, am_stO (by omega), l3]) (fun q h1 h2 => ?_) (fun q hq => ?_)) rfl
              · rw [am_upS]
                by_cases hq : q = p
                · subst hq
                  rw [am_stS (by omega), am_stO (by unfold hpl; omega), am_stO (by omega), l8, l9]
                  rfl
                · rw [am_stO (by omega), am_stO (by omega), am_stO (by omega)]
                  exact l4 q h1 (by omega)
              · rw [am_upS]
                by_cases hq2 : q = p
                · subst hq2
                  rw [am_stS (by omega)]
                  split <;> omega
                · rw [am_stO (by omega)]
                  exact l5 q (by omega)
        refine am_wp_ls (L 0 (by omega) none none J j1 j2 ⟨j3, fun q h1 h2 => j4 q h1 (by omega)⟩ (fun k h1 h2 => by omega)) rfl
      · refine am_wp_go rfl (by simp (disch := omega) only [s86 hw, r86_0 hw, s87 hw, s6 hw, j2, am_tnA, am_tnM, Int.reduceToNat, am_addE, am_subE, am_mulE, am_laddE, am_lsubE, am_upO, am_upS, am_stS, am_stO, am_tnn, am_brl, am_brg, am_bre, am_brn, am_brG, am_brL, am_st1, am_no2, am_st2, am_clr, and_self, true_and, and_true, true_or, or_true, List.length_cons, List.length_nil] <;> omega) ?_
        try simp (disch := omega) only [s86 hw, r86_0 hw, s87 hw, s6 hw, j2, am_tnA, am_tnM, Int.reduceToNat, am_addE, am_subE, am_mulE, am_laddE, am_lsubE, am_upO, am_upS, am_stS, am_stO, am_tnn, am_brl, am_brg, am_bre, am_brn, am_brG, am_brL, am_st1, am_no2, am_st2, am_clr]
        refine am_wp_ls (ih (by omega) (by omega) _ (fun a h1 h2 => by rw [am_upO h2, j1 a h1 h2]) (by rw [am_upO (by decide)]; exact j2) (by rw [am_upS, am_stO (by omega)]; exact j3) (fun q h1 h2 => ?_)) rfl
        rw [am_upS]
        by_cases hq : q = p
        · subst hq; rw [am_stS (by omega)]
        · rw [am_stO (by omega)]; exact j4 q h1 (by omega)
    · omega
end HOTEL
