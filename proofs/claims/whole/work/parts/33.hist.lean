/-! PLANS THAT CAN COME BACK -/
/-- a PLAN is kept; the oldest makes way for a ninth -/
def hpush (H : List (List Go)) (G : List Go) : List (List Go) := (if H.length < 8 then H else H.drop 1) ++ [G]
theorem hpush_len {H : List (List Go)} {G : List Go} (h : H.length ≤ 8) : (hpush H G).length = if H.length < 8 then H.length + 1 else 8 := by
  unfold hpush
  split <;> simp <;> omega
theorem hpush_at {H : List (List Go)} {G : List Go} (h : H.length ≤ 8) {j : Nat} (hj : j < (hpush H G).length) : (hpush H G).getD j [] = if j + 1 = (hpush H G).length then G else if H.length < 8 then H.getD j [] else H.getD (j + 1) [] := by
  have h1 := hpush_len (G := G) h
  rw [h1] at hj ⊢
  unfold hpush
  split at hj
  · rename_i h2
    rw [if_pos h2, if_pos h2]
    by_cases h3 : j + 1 = H.length + 1
    · rw [if_pos h3, show j = H.length by omega]; simp
    · rw [if_neg h3, if_pos h2]
      simp only [List.getD_eq_getElem?_getD]
      rw [List.getElem?_append_left (by omega)]
  · rename_i h2
    have h5 : (H.drop 1).length = 7 := by rw [List.length_drop]; omega
    rw [if_neg h2, if_neg h2]
    by_cases h3 : j + 1 = 8
    · rw [if_pos h3, show j = (H.drop 1).length by omega]; simp
    · rw [if_neg h3, if_neg h2]
      simp only [List.getD_eq_getElem?_getD]
      rw [List.getElem?_append_left (by omega), List.getElem?_drop, Nat.add_comm]
theorem rf_cg {T V : Nat → Int} {G : List Go} (h : rf T G) (e : ∀ i, i ≤ 5 * G.length → V i = T i) : rf V G := by
  refine ⟨(e 0 (by omega)).trans h.1, fun k hk => ?_⟩
  have t := h.2 k hk
  rw [e _ (by omega), e _ (by omega), e _ (by omega), e _ (by omega), e _ (by omega)]
  exact t
section HIST
variable {m sl : Nat} {sh : Nat → Nat × Nat} {I : Nat → Nat → Int} {R : Nat → Nat → Nat} {Q : am_R → am_M → Prop} {d p : Nat} {G : List Go} {H : List (List Go)}
theorem r23 (hw : wd sh R) {i : Nat} (h : i < 8) : R 23 i = 24 + 2 * i := by
  have : i = 0 ∨ i = 1 ∨ i = 2 ∨ i = 3 ∨ i = 4 ∨ i = 5 ∨ i = 6 ∨ i = 7 := by omega
  rcases this with rfl | rfl | rfl | rfl | rfl | rfl | rfl | rfl <;> exact hw.2 23 _ (by decide) (by decide)
theorem w_hclear (hw : wd sh R) (h : ∀ J, (∀ a, a ≠ 22 → J a = I a) → J 22 1 = I 22 1 → J 22 2 = 0 → Q am_yv (m, sl, sh, J, R)) : am_wp (d) 12 0 [some (.inr (.inr (22)))] [] (m, sl, sh, I, R) Q := by
  refine am_wp_go rfl (by simp (disch := omega) only [s22 hw, am_addE, am_subE, am_mulE, am_laddE, am_lsubE, am_upO, am_upS, am_stS, am_stO, am_tnn, am_brl, am_brg, am_bre, am_brn, am_brG, am_brL, am_st1, am_no2, am_st2, am_clr, and_self, true_and, and_true, true_or, or_true] <;> omega) ?_
  refine am_wp_ret rfl rfl ?_
  exact h _ (fun a ha => am_upO ha) (by rw [am_upS]; rfl) (by rw [am_upS]; rfl)
theorem w_keep (hw : wd sh R) (hp : pl_is sh R p) (hp1 : p < 23 ∨ 40 ≤ p) (hp2 : p ≠ 22) (ho : pl I p G) (hh : hsC I H) (h : ∀ J, (∀ a, ¬ (a = 22 ∨ 24 ≤ a ∧ a ≤ 39) → J a = I a) → hsC J (hpush H G) → Q am_yv (m, sl, sh, J, R)) : am_wp (d + 1) 13 0 [some (.inr (.inr (22))), some (.inr (.inr (p)))] [] (m, sl, sh, I, R) Q := by
  obtain ⟨o, h1, h2, h3, h4, h5⟩ := id hh
  have e : ((o : Int) + H.length) % 8 = (((o + H.length) % 8 : Nat) : Int) := by omega
  have hi : (o + H.length) % 8 < 8 := by omega
  have h6 := r23 hw hi
  have h7 := hpush_len (G := G) h2
  refine am_wp_go rfl (by simp (disch := omega) only [s22 hw, r22_0 hw, s23 hw, h3, h4, h6, am_remE, e, am_addE, am_subE, am_mulE, am_laddE, am_lsubE, am_upO, am_upS, am_stS, am_stO, am_tnn, am_brl, am_brg, am_bre, am_brn, am_brG, am_brL, am_st1, am_no2, am_st2, am_clr, and_self, true_and, and_true, true_or, or_true] <;> omega) ?_
  try simp (disch := omega) only [s22 hw, r22_0 hw, s23 hw, h3, h4, h6, am_remE, e, am_addE, am_subE, am_mulE, am_laddE, am_lsubE, am_upO, am_upS, am_stS, am_stO, am_tnn, am_brl, am_brg, am_bre, am_brn, am_brG, am_brL, am_st1, am_no2, am_st2, am_clr]
  refine am_wp_cc rfl rfl rfl (congrArg Prod.fst ((pl_wh hw hi).1)) (w_plcopy (pl_wh hw hi) hp (by omega) (by omega) (by omega) ho (fun J j1 j2 => ⟨_, rfl, ?_⟩))
  have e22 : J 22 = I 22 := j1 22 (by omega) (by omega)
  refine am_wp_go rfl (by simp (disch := omega) only [s22 hw, e22, h3, h4, am_remE, am_addE, am_subE, am_mulE, am_laddE, am_lsubE, am_upO, am_upS, am_stS, am_stO, am_tnn, am_brl, am_brg, am_bre, am_brn, am_brG, am_brL, am_st1, am_no2, am_st2, am_clr, and_self, true_and, and_true, true_or, or_true] <;> omega) ?_
  try simp (disch := omega) only [s22 hw, e22, h3, h4, am_remE, am_addE, am_subE, am_mulE, am_laddE, am_lsubE, am_upO, am_upS, am_stS, am_stO, am_tnn, am_brl, am_brg, am_bre, am_brn, am_brG, am_brL, am_st1, am_no2, am_st2, am_clr]
  refine am_wp_br (fun h27 => ?_) (fun h27 => ?_)
  · refine am_wp_go rfl (by simp (disch := omega) only [s22 hw, e22, h3, h4, am_remE, am_addE, am_subE, am_mulE, am_laddE, am_lsubE, am_upO, am_upS, am_stS, am_stO, am_tnn, am_brl, am_brg, am_bre, am_brn, am_brG, am_brL, am_st1, am_no2, am_st2, am_clr, and_self, true_and, and_true, true_or, or_true] <;> omega) ?_
    refine am_wp_ret rfl rfl ?_
    rw [if_neg (by omega)] at h7
    refine h _ (fun a ha => by rw [am_upO (by omega), j1 a (by omega) (by omega)]) ⟨(o + 1) % 8, by omega, by omega, ?_, ?_, fun j hj => ?_⟩
    · rw [am_upS, am_stS rfl, e22, h3, am_addE (by omega), am_remE (by omega)]; omega
    · rw [am_upS, am_stO (by decide), e22, h4]; omega
    · rw [hpush_at h2 hj, h7]
      by_cases hj8 : j + 1 = 8
      · rw [if_pos hj8, show ((o + 1) % 8 + j) % 8 = (o + H.length) % 8 by omega]
        exact pl_fr j2 (am_upO (by omega)) (am_upO (by omega))
      · rw [if_neg hj8, if_neg (by omega), show ((o + 1) % 8 + j) % 8 = (o + (j + 1)) % 8 by omega]
        refine pl_fr (h5 (j + 1) (by omega)) ?_ ?_
        · rw [am_upO (by omega), j1 _ (by omega) (by omega)]
        · rw [am_upO (by omega), j1 _ (by omega) (by omega)]
  · refine am_wp_go rfl (by simp (disch := omega) only [s22 hw, e22, h3, h4, am_remE, am_addE, am_subE, am_mulE, am_laddE, am_lsubE, am_upO, am_upS, am_stS, am_stO, am_tnn, am_brl, am_brg, am_bre, am_brn, am_brG, am_brL, am_st1, am_no2, am_st2, am_clr, and_self, true_and, and_true, true_or, or_true] <;> omega) ?_
    refine am_wp_ret rfl rfl ?_
    rw [if_pos (by omega)] at h7
    refine h _ (fun a ha => by rw [am_upO (by omega), j1 a (by omega) (by omega)]) ⟨o, by omega, by omega, ?_, ?_, fun j hj => ?_⟩
    · rw [am_upS, am_stO (by decide), e22, h3]
    · rw [am_upS, am_stS rfl, e22, h4, am_addE (by omega), h7]; omega
    · rw [hpush_at h2 hj, h7]
      by_cases hj8 : j + 1 = H.length + 1
      · rw [if_pos hj8, show j = H.length by omega]
        exact pl_fr j2 (am_upO (by omega)) (am_upO (by omega))
      · rw [if_neg hj8, if_pos (by omega)]
        refine pl_fr (h5 j (by omega)) ?_ ?_
        · rw [am_upO (by omega), j1 _ (by omega) (by omega)]
        · rw [am_upO (by omega), j1 _ (by omega) (by omega)]
theorem w_adopt {G2 : List Go} (hw : wd sh R) (ho : pl I 14 G) (ho2 : pl I 48 G2) (hh : hsC I H) (h : ∀ J, (∀ a, ¬ (a = 14 ∨ a = 15 ∨ a = 22 ∨ 24 ≤ a ∧ a ≤ 39) → J a = I a) → pl J 14 G2 → hsC J (hpush H G) → Q am_yv (m, sl, sh, J, R)) : am_wp (d + 2) 164 0 [some (.inr (.inr (4)))] [] (m, sl, sh, I, R) Q := by
  refine am_wp_go rfl (by simp (disch := omega) only [s4 hw, r4_2 hw, r4_0 hw, s5 hw, r5_1 hw, r4_4 hw, am_addE, am_subE, am_mulE, am_laddE, am_lsubE, am_upO, am_upS, am_stS, am_stO, am_tnn, am_brl, am_brg, am_bre, am_brn, am_brG, am_brL, am_st1, am_no2, am_st2, am_clr, and_self, true_and, and_true, true_or, or_true] <;> omega) ?_
  try simp (disch := omega) only [s4 hw, r4_2 hw, r4_0 hw, s5 hw, r5_1 hw, r4_4 hw, am_addE, am_subE, am_mulE, am_laddE, am_lsubE, am_upO, am_upS, am_stS, am_stO, am_tnn, am_brl, am_brg, am_bre, am_brn, am_brG, am_brL, am_st1, am_no2, am_st2, am_clr]
  refine am_wp_cc rfl rfl rfl (congrArg Prod.fst (s22 hw)) (w_keep hw (pl_w hw (by decide)) (by decide) (by decide) ho hh (fun J j1 j2 => ⟨_, rfl, ?_⟩))
  refine am_wp_go rfl (by simp (disch := omega) only [s4 hw, r4_2 hw, r4_0 hw, s5 hw, r5_1 hw, r4_4 hw, am_addE, am_subE, am_mulE, am_laddE, am_lsubE, am_upO, am_upS, am_stS, am_stO, am_tnn, am_brl, am_brg, am_bre, am_brn, am_brG, am_brL, am_st1, am_no2, am_st2, am_clr, and_self, true_and, and_true, true_or, or_true] <;> omega) ?_
  try simp (disch := omega) only [s4 hw, r4_2 hw, r4_0 hw, s5 hw, r5_1 hw, r4_4 hw, am_addE, am_subE, am_mulE, am_laddE, am_lsubE, am_upO, am_upS, am_stS, am_stO, am_tnn, am_brl, am_brg, am_bre, am_brn, am_brG, am_brL, am_st1, am_no2, am_st2, am_clr]
  refine am_wp_cc rfl rfl rfl (congrArg Prod.fst (s14 hw)) (w_plcopy (pl_w hw (by decide)) (pl_w hw (by decide)) (by decide) (by decide) (by decide) (pl_fr ho2 (j1 48 (by decide)) (j1 49 (by decide))) (fun K k1 k2 => ⟨_, rfl, ?_⟩))
  refine am_wp_ret rfl rfl ?_
  exact h K (fun a ha => by rw [k1 a (by omega) (by omega), j1 a (by omega)]) k2 (hsC_fr j2 (fun a ha => k1 a (by omega) (by omega)))
/-- snap(): the PLAN now is kept -/
theorem w_M_snap (hw : wd sh R) (hr : rf (pw (I 126)) G) (hg : G.length ≤ 400) (hH : H.length ≤ 8) (hG : ∀ j, j < H.length → (H.getD j []).length ≤ 400) (hh : hsR I H) (h : ∀ J, (∀ a, a ≠ 124 → a ≠ 129 → J a = I a) → (∀ j, j ≠ 22 → J 124 j = I 124 j) → hsR J (hpush H G) → Q am_yv (m, sl, sh, J, R)) : am_wp (d) 240 0 [some (.inr (.inr (124))), none] [] (m, sl, sh, I, R) Q := by
  obtain ⟨h1, h2⟩ := id hh
  have h7 := hpush_len (G := G) hH
  -- the second loop, from any state with n rows kept
  have L : ∀ (n : Nat) (J : Nat → Nat → Int), n ≤ 7 → n + 1 = (hpush H G).length → (∀ a, a ≠ 124 → a ≠ 129 → J a = I a) → (∀ j, j ≠ 22 → J 124 j = I 124 j) → J 124 22 = (n : Int) → (∀ j, j < n → rf (fun i => J 129 (2001 * j + i)) ((hpush H G).getD j [])) → am_wp (d) 240 54 [some (.inr (.inr (124))), some (.inl (0))] [] (m, sl, sh, J, R) Q := by
    intro n J hn hn2 a1 a2 a3 a4
    refine am_lp0 (P := fun k => ∀ K, (∀ a, a ≠ 129 → K a = J a) → (K 129 = fun i => if 2001 * n ≤ i ∧ i < 2001 * n + k then J 126 (58 + (i - 2001 * n)) else J 129 i) → am_wp (d) 240 54 [some (.inr (.inr (124))), some (.inl ((k : Int)))] [] (m, sl, sh, K, R) Q) 2001 (fun k hk ih K k1 k2 => ?_) J (fun _ _ => rfl) (by funext i; rw [if_neg (by omega)])
    have k3 : K 124 22 = (n : Int) := by rw [k1 124 (by decide)]; exact a3
    refine am_wp_go rfl (by simp (disch := omega) only [s124 hw, r124_14 hw, s126 hw, r124_17 hw, s129 hw, k3, am_tnA, am_tnM, Int.reduceToNat, am_addE, am_subE, am_mulE, am_laddE, am_lsubE, am_upO, am_upS, am_stS, am_stO, am_tnn, am_brl, am_brg, am_bre, am_brn, am_brG, am_brL, am_st1, am_no2, am_st2, am_clr, and_self, true_and, and_true, true_or, or_true] <;> omega) ?_
    try simp (disch := omega) only [s124 hw, r124_14 hw, s126 hw, r124_17 hw, s129 hw, k3, am_tnA, am_tnM, Int.reduceToNat, am_addE, am_subE, am_mulE, am_laddE, am_lsubE, am_upO, am_upS, am_stS, am_stO, am_tnn, am_brl, am_brg, am_bre, am_brn, am_brG, am_brL, am_st1, am_no2, am_st2, am_clr]
    refine am_wp_br (fun h58 => ?_) (fun h58 => ?_)
    · refine am_wp_go rfl (by simp (disch := omega) only [s124 hw, r124_14 hw, s126 hw, r124_17 hw, s129 hw, k3, am_tnA, am_tnM, Int.reduceToNat, am_addE, am_subE, am_mulE, am_laddE, am_lsubE, am_upO, am_upS, am_stS, am_stO, am_tnn, am_brl, am_brg, am_bre, am_brn, am_brG, am_brL, am_st1, am_no2, am_st2, am_clr, and_self, true_and, and_true, true_or, or_true] <;> omega) ?_
      refine am_wp_ret rfl rfl ?_
      refine h _ (fun a h1 h2 => by rw [am_upO h1, k1 a h2, a1 a h1 h2]) (fun j hj => by rw [am_upS, am_stO hj, k1 124 (by decide), a2 j hj]) ⟨?_, fun j hj => ?_⟩
      · rw [am_upS, am_stS rfl, k3, am_addE (by omega)]; omega
      · rw [am_upO (by decide), k2, show k = 2001 by omega]
        by_cases hj2 : j < n
        · have hb : ((hpush H G).getD j []).length ≤ 400 := by
            rw [hpush_at hH hj]
            by_cases e1 : j + 1 = (hpush H G).length
            · rw [if_pos e1]; exact hg
            · rw [if_neg e1]
              by_cases e2 : H.length < 8
              · rw [if_pos e2]
                rw [if_pos e2] at h7
                exact hG _ (by omega)
              · rw [if_neg e2]
                rw [if_neg e2] at h7
                exact hG _ (by omega)
          refine rf_cg (a4 j hj2) (fun i hi => ?_)
          dsimp only
          rw [if_neg (by omega)]
        · have hjn : j = n := by omega
          subst hjn
          rw [hpush_at hH hj, if_pos hn2]
          refine rf_cg hr (fun i hi => ?_)
          dsimp only
          unfold pw
          rw [if_pos (by omega), a1 126 (by decide) (by decide), show 58 + (2001 * j + i - 2001 * j) = 58 + i by omega]
    · refine am_wp_go rfl (by simp (disch := omega) only [s124 hw, r124_14 hw, s126 hw, r124_17 hw, s129 hw, k3, am_tnA, am_tnM, Int.reduceToNat, am_addE, am_subE, am_mulE, am_laddE, am_lsubE, am_upO, am_upS, am_stS, am_stO, am_tnn, am_brl, am_brg, am_bre, am_brn, am_brG, am_brL, am_st1, am_no2, am_st2, am_clr, and_self, true_and, and_true, true_or, or_true] <;> omega) ?_
      simp (disch := omega) only [s124 hw, r124_14 hw, s126 hw, r124_17 hw, s129 hw, k3, am_tnA, am_tnM, Int.reduceToNat, am_addE, am_subE, am_mulE, am_laddE, am_lsubE, am_upO, am_upS, am_stS, am_stO, am_tnn, am_brl, am_brg, am_bre, am_brn, am_brG, am_brL, am_st1, am_no2, am_st2, am_clr]
      refine am_wp_ls (ih (by omega) _ (fun a ha => by rw [am_upO ha, k1 a ha]) ?_) rfl
      rw [am_upS, k2, k1 126 (by decide)]
      funext i
      simp only [am_set]
      by_cases hi : i = 2001 * n + k
      · rw [if_pos hi, if_pos (by omega), show 58 + (i - 2001 * n) = 58 + k by omega]
      · rw [if_neg hi]
        by_cases hi2 : 2001 * n ≤ i ∧ i < 2001 * n + k
        · rw [if_pos hi2, if_pos (by omega)]
        · rw [if_neg hi2, if_neg (by omega)]
  refine am_wp_go rfl (by simp (disch := omega) only [s124 hw, r124_14 hw, s126 hw, r124_17 hw, s129 hw, h1, am_tnA, am_tnM, Int.reduceToNat, am_addE, am_subE, am_mulE, am_laddE, am_lsubE, am_upO, am_upS, am_stS, am_stO, am_tnn, am_brl, am_brg, am_bre, am_brn, am_brG, am_brL, am_st1, am_no2, am_st2, am_clr, and_self, true_and, and_true, true_or, or_true] <;> omega) ?_
  try simp (disch := omega) only [s124 hw, r124_14 hw, s126 hw, r124_17 hw, s129 hw, h1, am_tnA, am_tnM, Int.reduceToNat, am_addE, am_subE, am_mulE, am_laddE, am_lsubE, am_upO, am_upS, am_stS, am_stO, am_tnn, am_brl, am_brg, am_bre, am_brn, am_brG, am_brL, am_st1, am_no2, am_st2, am_clr]
  refine am_wp_br (fun h6 => ?_) (fun h6 => ?_)
  · rw [if_pos (by omega)] at h7
    refine am_wp_go rfl (by simp (disch := omega) only [s124 hw, r124_14 hw, s126 hw, r124_17 hw, s129 hw, h1, am_tnA, am_tnM, Int.reduceToNat, am_addE, am_subE, am_mulE, am_laddE, am_lsubE, am_upO, am_upS, am_stS, am_stO, am_tnn, am_brl, am_brg, am_bre, am_brn, am_brG, am_brL, am_st1, am_no2, am_st2, am_clr, and_self, true_and, and_true, true_or, or_true] <;> omega) ?_
    try simp (disch := omega) only [s124 hw, r124_14 hw, s126 hw, r124_17 hw, s129 hw, h1, am_tnA, am_tnM, Int.reduceToNat, am_addE, am_subE, am_mulE, am_laddE, am_lsubE, am_upO, am_upS, am_stS, am_stO, am_tnn, am_brl, am_brg, am_bre, am_brn, am_brG, am_brL, am_st1, am_no2, am_st2, am_clr]
    refine L H.length I (by omega) (by omega) (fun _ _ _ => rfl) (fun _ _ => rfl) h1 (fun j hj => ?_)
    rw [hpush_at hH (by omega), if_neg (by omega), if_pos (by omega)]
    exact h2 j hj
  · rw [if_neg (by omega)] at h7
    refine am_wp_go rfl (by simp (disch := omega) only [s124 hw, r124_14 hw, s126 hw, r124_17 hw, s129 hw, h1, am_tnA, am_tnM, Int.reduceToNat, am_addE, am_subE, am_mulE, am_laddE, am_lsubE, am_upO, am_upS, am_stS, am_stO, am_tnn, am_brl, am_brg, am_bre, am_brn, am_brG, am_brL, am_st1, am_no2, am_st2, am_clr, and_self, true_and, and_true, true_or, or_true] <;> omega) ?_
    try simp (disch := omega) only [s124 hw, r124_14 hw, s126 hw, r124_17 hw, s129 hw, h1, am_tnA, am_tnM, Int.reduceToNat, am_addE, am_subE, am_mulE, am_laddE, am_lsubE, am_upO, am_upS, am_stS, am_stO, am_tnn, am_brl, am_brg, am_bre, am_brn, am_brG, am_brL, am_st1, am_no2, am_st2, am_clr]
    have E : ∀ k : Nat, k ≤ 16008 → 2001 ≤ k → ∀ K, (∀ a, a ≠ 129 → K a = I a) → (K 129 = fun i => if i + 2001 < k then I 129 (i + 2001) else I 129 i) → am_wp (d) 240 13 [some (.inr (.inr (124))), some (.inl ((k : Int)))] [] (m, sl, sh, K, R) Q := by
      refine am_lp (P := fun k => 2001 ≤ k → ∀ K, (∀ a, a ≠ 129 → K a = I a) → (K 129 = fun i => if i + 2001 < k then I 129 (i + 2001) else I 129 i) → am_wp (d) 240 13 [some (.inr (.inr (124))), some (.inl ((k : Int)))] [] (m, sl, sh, K, R) Q) 16008 (fun k hk ih hk2 K k1 k2 => ?_)
      have k3 : K 124 22 = (H.length : Int) := by rw [k1 124 (by decide)]; exact h1
      refine am_wp_go rfl (by simp (disch := omega) only [s124 hw, r124_17 hw, s129 hw, k3, am_addE, am_subE, am_mulE, am_laddE, am_lsubE, am_upO, am_upS, am_stS, am_stO, am_tnn, am_brl, am_brg, am_bre, am_brn, am_brG, am_brL, am_st1, am_no2, am_st2, am_clr, and_self, true_and, and_true, true_or, or_true] <;> omega) ?_
      try simp (disch := omega) only [s124 hw, r124_17 hw, s129 hw, k3, am_addE, am_subE, am_mulE, am_laddE, am_lsubE, am_upO, am_upS, am_stS, am_stO, am_tnn, am_brl, am_brg, am_bre, am_brn, am_brG, am_brL, am_st1, am_no2, am_st2, am_clr]
      refine am_wp_br (fun h17 => ?_) (fun h17 => ?_)
      · refine am_wp_go rfl (by simp (disch := omega) only [s124 hw, r124_17 hw, s129 hw, k3, am_addE, am_subE, am_mulE, am_laddE, am_lsubE, am_upO, am_upS, am_stS, am_stO, am_tnn, am_brl, am_brg, am_bre, am_brn, am_brG, am_brL, am_st1, am_no2, am_st2, am_clr, and_self, true_and, and_true, true_or, or_true] <;> omega) ?_
        try simp (disch := omega) only [s124 hw, r124_17 hw, s129 hw, k3, am_addE, am_subE, am_mulE, am_laddE, am_lsubE, am_upO, am_upS, am_stS, am_stO, am_tnn, am_brl, am_brg, am_bre, am_brn, am_brG, am_brL, am_st1, am_no2, am_st2, am_clr]
        refine L 7 _ (by omega) (by omega) (fun a a1 a2 => by rw [am_upO a1, k1 a a2]) (fun j hj => by rw [am_upS, am_stO hj, k1 124 (by decide)]) (by rw [am_upS, am_stS rfl]; omega) (fun j hj => ?_)
        rw [am_upO (by decide), k2, hpush_at hH (by omega), if_neg (by omega), if_neg (by omega)]
        have t3 := hG (j + 1) (by omega)
        refine rf_cg (h2 (j + 1) (by omega)) (fun i hi => ?_)
        dsimp only
        rw [if_pos (by omega), show 2001 * j + i + 2001 = 2001 * (j + 1) + i by omega]
      · refine am_wp_go rfl (by simp (disch := omega) only [s124 hw, r124_17 hw, s129 hw, k3, am_addE, am_subE, am_mulE, am_laddE, am_lsubE, am_upO, am_upS, am_stS, am_stO, am_tnn, am_brl, am_brg, am_bre, am_brn, am_brG, am_brL, am_st1, am_no2, am_st2, am_clr, and_self, true_and, and_true, true_or, or_true] <;> omega) ?_
        rw [r124_17 hw, am_subE (by omega), am_addE (by omega)]
        refine am_wp_ls (ih (by omega) (by omega) _ (fun a ha => by rw [am_upO ha, k1 a ha]) ?_) rfl
        rw [am_upS, k2]
        funext i
        simp only [am_set]
        by_cases hi : i = ((k : Int) - 2001).toNat
        · rw [if_pos hi, if_neg (by omega), if_pos (by omega), show i + 2001 = (k : Int).toNat by omega]
        · rw [if_neg hi]
          by_cases hi2 : i + 2001 < k
          · rw [if_pos hi2, if_pos (by omega)]
          · rw [if_neg hi2, if_neg (by omega)]
    exact E 2001 (by decide) (by decide) I (fun _ _ => rfl) (by funext i; rw [if_neg (by omega)])
end HIST
