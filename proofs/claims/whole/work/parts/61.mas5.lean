/-! masters() on both sides -/
section MAS
variable {m sl : Nat} {sh : Nat → Nat × Nat} {I : Nat → Nat → Int} {R : Nat → Nat → Nat} {Q : am_R → am_M → Prop} {d : Nat} {W N : Nat → Int} {G : List Go} {H : List (List Go)}
theorem c_masters (o : Nat → Int) (hw : wd sh R) (hk : kit I 6 W N) (hp : pl I 14 G) (hh : hsC I H) (h0 : nS W = 0 → Q (am_yi (-1)) (m, sl, sh, I, R)) (h1 : 0 < nS W → ∀ J, cqp I J → pl J 14 (msF W o).2.2.2 → hsC J (hpush H G) → Q (am_yi (lastG (msF W o).2.2.2)) (m, sl, sh, J, R)) : am_wp (d + 3) 161 0 [some (.inr (.inr (4)))] [] (m, sl, sh, I, R) Q := by
  have n1 := wk_nS hk.1
  have o1 : I 6 6 = (nS W : Int) := by rw [hk.2.1.2.2.2.2.2.1]; exact n1.1
  refine am_wp_go rfl (by simp (disch := omega) only [s4 hw, r4_0 hw, s5 hw, r5_0 hw, s6 hw, r4_9 hw, r4_4 hw, r5_1 hw, o1, am_addE, am_subE, am_mulE, am_laddE, am_lsubE, am_upO, am_upS, am_stS, am_stO, am_tnn, am_brl, am_brg, am_bre, am_brn, am_brG, am_brL, am_st1, am_no2, am_st2, am_clr, and_self, true_and, and_true, true_or, or_true, List.length_cons, List.length_nil] <;> omega) ?_
  try simp (disch := omega) only [s4 hw, r4_0 hw, s5 hw, r5_0 hw, s6 hw, r4_9 hw, r4_4 hw, r5_1 hw, o1, am_addE, am_subE, am_mulE, am_laddE, am_lsubE, am_upO, am_upS, am_stS, am_stO, am_tnn, am_brl, am_brg, am_bre, am_brn, am_brG, am_brL, am_st1, am_no2, am_st2, am_clr]
  refine am_wp_br (fun b10 => ?_) (fun b10 => ?_)
  · refine am_wp_go rfl (by simp (disch := omega) only [s4 hw, r4_0 hw, s5 hw, r5_0 hw, s6 hw, r4_9 hw, r4_4 hw, r5_1 hw, o1, am_addE, am_subE, am_mulE, am_laddE, am_lsubE, am_upO, am_upS, am_stS, am_stO, am_tnn, am_brl, am_brg, am_bre, am_brn, am_brG, am_brL, am_st1, am_no2, am_st2, am_clr, and_self, true_and, and_true, true_or, or_true, List.length_cons, List.length_nil] <;> omega) ?_
    try simp (disch := omega) only [s4 hw, r4_0 hw, s5 hw, r5_0 hw, s6 hw, r4_9 hw, r4_4 hw, r5_1 hw, o1, am_addE, am_subE, am_mulE, am_laddE, am_lsubE, am_upO, am_upS, am_stS, am_stO, am_tnn, am_brl, am_brg, am_bre, am_brn, am_brG, am_brL, am_st1, am_no2, am_st2, am_clr]
    refine am_wp_cc rfl rfl rfl (congrArg Prod.fst (s73 hw)) (w_twoMasters o hw hk (fun J j1 j2 => ⟨_, rfl, ?_⟩))
    refine am_wp_go rfl (by simp (disch := omega) only [s4 hw, r4_0 hw, s5 hw, r5_0 hw, s6 hw, r4_9 hw, r4_4 hw, r5_1 hw, o1, am_addE, am_subE, am_mulE, am_laddE, am_lsubE, am_upO, am_upS, am_stS, am_stO, am_tnn, am_brl, am_brg, am_bre, am_brn, am_brG, am_brL, am_st1, am_no2, am_st2, am_clr, and_self, true_and, and_true, true_or, or_true, List.length_cons, List.length_nil] <;> omega) ?_
    try simp (disch := omega) only [s4 hw, r4_0 hw, s5 hw, r5_0 hw, s6 hw, r4_9 hw, r4_4 hw, r5_1 hw, o1, am_addE, am_subE, am_mulE, am_laddE, am_lsubE, am_upO, am_upS, am_stS, am_stO, am_tnn, am_brl, am_brg, am_bre, am_brn, am_brG, am_brL, am_st1, am_no2, am_st2, am_clr]
    refine am_wp_cc rfl rfl rfl (congrArg Prod.fst (s4 hw)) (w_adopt hw (pl_fr hp (j1 14 (by omega)) (j1 15 (by omega))) j2 (hsC_fr hh (fun a ha => j1 a (by omega))) (fun K k1 k2 k3 => ⟨_, rfl, ?_⟩))
    refine am_wp_go rfl (by simp (disch := omega) only [s4 hw, r4_0 hw, s5 hw, r5_0 hw, s6 hw, r4_9 hw, r4_4 hw, r5_1 hw, o1, am_addE, am_subE, am_mulE, am_laddE, am_lsubE, am_upO, am_upS, am_stS, am_stO, am_tnn, am_brl, am_brg, am_bre, am_brn, am_brG, am_brL, am_st1, am_no2, am_st2, am_clr, and_self, true_and, and_true, true_or, or_true, List.length_cons, List.length_nil] <;> omega) ?_
    try simp (disch := omega) only [s4 hw, r4_0 hw, s5 hw, r5_0 hw, s6 hw, r4_9 hw, r4_4 hw, r5_1 hw, o1, am_addE, am_subE, am_mulE, am_laddE, am_lsubE, am_upO, am_upS, am_stS, am_stO, am_tnn, am_brl, am_brg, am_bre, am_brn, am_brG, am_brL, am_st1, am_no2, am_st2, am_clr]
    refine am_wp_cc rfl rfl rfl (congrArg Prod.fst (s14 hw)) (w_lastEnd (pl_w hw (by decide)) k2 ⟨_, rfl, ?_⟩)
    refine am_wp_ret rfl rfl ?_
    exact h1 (by omega) K (cqp_of (fun a ha => by rw [k1 a (by omega), j1 a (by omega)])) k2 k3
  · refine am_wp_go rfl (by simp (disch := omega) only [s4 hw, r4_0 hw, s5 hw, r5_0 hw, s6 hw, r4_9 hw, r4_4 hw, r5_1 hw, o1, am_addE, am_subE, am_mulE, am_laddE, am_lsubE, am_upO, am_upS, am_stS, am_stO, am_tnn, am_brl, am_brg, am_bre, am_brn, am_brG, am_brL, am_st1, am_no2, am_st2, am_clr, and_self, true_and, and_true, true_or, or_true, List.length_cons, List.length_nil] <;> omega) ?_
    try simp (disch := omega) only [s4 hw, r4_0 hw, s5 hw, r5_0 hw, s6 hw, r4_9 hw, r4_4 hw, r5_1 hw, o1, am_addE, am_subE, am_mulE, am_laddE, am_lsubE, am_upO, am_upS, am_stS, am_stO, am_tnn, am_brl, am_brg, am_bre, am_brn, am_brG, am_brL, am_st1, am_no2, am_st2, am_clr]
    refine am_wp_ret rfl rfl ?_
    exact h0 (by omega)
set_option maxHeartbeats 8000000 in
theorem r_masters (hw : wd sh R) (hb : beg I) (hk : wk (lw I)) (hr : rf (pw (lw I)) G) (hg : gok G) (hH : H.length ≤ 8) (hG : ∀ j, j < H.length → (H.getD j []).length ≤ 400) (hh : hsR I H) (h0 : nS (lw I) = 0 → ∀ J, rq I J → Q (am_yi (-1)) (m, sl, sh, J, R)) (h1 : 0 < nS (lw I) → ∀ J, rqp I J → rf (pw (J 126)) (msF (lw I) (I 143)).2.2.2 → hsR J (hpush H G) → Q (am_yi (lastG (msF (lw I) (I 143)).2.2.2)) (m, sl, sh, J, R)) : am_wp (d + 4) 269 0 [some (.inr (.inr (124))), none, none, none, none, none] [] (m, sl, sh, I, R) Q := by
  refine am_wp_go rfl (by simp (disch := omega) only [s124 hw, am_upO, am_upS, and_self, true_and, and_true] <;> omega) ?_
  have q0 := rq_thrown (I := I) (x := 0)
  have z0 : ∀ a, a ≠ 124 → am_up I 124 0 0 a = I a := fun a ha => am_upO ha
  generalize am_up I 124 0 0 = I0 at q0 z0 ⊢
  refine am_wp_cc rfl rfl rfl (congrArg Prod.fst (s124 hw)) (w_M_lay hw (beg_rq q0 hb) (fun J j1 j2 j3 j4 => ⟨_, rfl, ?_⟩))
  have q1 := rq_trans q0 (rq_lay j1 j2 j3 j4)
  rw [rq_lw q0] at j4
  have e143 : I 143 = J 143 := by rw [j1 143 (by decide) (by decide), z0 143 (by decide)]
  rw [← j4] at hk hr h0 h1
  rw [e143] at h1
  have hh := hsR_rq hh q1
  have n1 := wk_nS hk
  clear j1 j2 z0
  refine am_wp_go rfl (by simp (disch := omega) only [s124 hw, r124_14 hw, s126 hw, Int.reduceToNat, am_addE, am_subE, am_mulE, am_laddE, am_lsubE, am_upO, am_upS, am_stS, am_stO, am_tnn, am_brl, am_brg, am_bre, am_brn, am_brG, am_brL, am_st1, am_no2, am_st2, am_clr, and_self, true_and, and_true, true_or, or_true, List.length_cons, List.length_nil] <;> omega) ?_
  try simp (disch := omega) only [s124 hw, r124_14 hw, s126 hw, Int.reduceToNat, am_addE, am_subE, am_mulE, am_laddE, am_lsubE, am_upO, am_upS, am_stS, am_stO, am_tnn, am_brl, am_brg, am_bre, am_brn, am_brG, am_brL, am_st1, am_no2, am_st2, am_clr]
  refine am_wp_cc rfl rfl rfl (congrArg Prod.fst (s124 hw)) (w_M_slicesN hw (wk_w hk) ⟨_, rfl, ?_⟩)
  refine am_wp_go rfl (by simp (disch := omega) only [s124 hw, r124_14 hw, s126 hw, Int.reduceToNat, am_addE, am_subE, am_mulE, am_laddE, am_lsubE, am_upO, am_upS, am_stS, am_stO, am_tnn, am_brl, am_brg, am_bre, am_brn, am_brG, am_brL, am_st1, am_no2, am_st2, am_clr, and_self, true_and, and_true, true_or, or_true, List.length_cons, List.length_nil] <;> omega) ?_
  try simp (disch := omega) only [s124 hw, r124_14 hw, s126 hw, Int.reduceToNat, am_addE, am_subE, am_mulE, am_laddE, am_lsubE, am_upO, am_upS, am_stS, am_stO, am_tnn, am_brl, am_brg, am_bre, am_brn, am_brG, am_brL, am_st1, am_no2, am_st2, am_clr]
  refine am_wp_br (fun b13 => ?_) (fun b13 => ?_)
  · have h := h1 (by omega)
    clear h0 h1
    refine am_wp_go rfl (by simp (disch := omega) only [s124 hw, r124_14 hw, s126 hw, Int.reduceToNat, am_addE, am_subE, am_mulE, am_laddE, am_lsubE, am_upO, am_upS, am_stS, am_stO, am_tnn, am_brl, am_brg, am_bre, am_brn, am_brG, am_brL, am_st1, am_no2, am_st2, am_clr, and_self, true_and, and_true, true_or, or_true, List.length_cons, List.length_nil] <;> omega) ?_
    try simp (disch := omega) only [s124 hw, r124_14 hw, s126 hw, Int.reduceToNat, am_addE, am_subE, am_mulE, am_laddE, am_lsubE, am_upO, am_upS, am_stS, am_stO, am_tnn, am_brl, am_brg, am_bre, am_brn, am_brG, am_brL, am_st1, am_no2, am_st2, am_clr]
    refine am_wp_cc rfl rfl rfl (congrArg Prod.fst (s124 hw)) (w_M_snap hw hr hg.1 hH hG hh (fun K k1 k2 k3 => ⟨_, rfl, ?_⟩))
    have e126 : K 126 = J 126 := k1 126 (by decide) (by decide)
    refine am_wp_go rfl (by simp (disch := omega) only [s124 hw, r124_14 hw, s126 hw, Int.reduceToNat, am_addE, am_subE, am_mulE, am_laddE, am_lsubE, am_upO, am_upS, am_stS, am_stO, am_tnn, am_brl, am_brg, am_bre, am_brn, am_brG, am_brL, am_st1, am_no2, am_st2, am_clr, and_self, true_and, and_true, true_or, or_true, List.length_cons, List.length_nil] <;> omega) ?_
    try simp (disch := omega) only [s124 hw, r124_14 hw, s126 hw, Int.reduceToNat, am_addE, am_subE, am_mulE, am_laddE, am_lsubE, am_upO, am_upS, am_stS, am_stO, am_tnn, am_brl, am_brg, am_bre, am_brn, am_brG, am_brL, am_st1, am_no2, am_st2, am_clr]
    have y1 : ∀ j, j ≠ 58 → am_up K 126 58 0 126 j = J 126 j := fun j hj => by rw [am_upS, am_stO hj, e126]
    have y2 : ∀ a, a ≠ 126 → am_up K 126 58 0 a = K a := fun a ha => am_upO ha
    have y3 : rf (pw (am_up K 126 58 0 126)) [] := ⟨by unfold pw; rw [am_upS, am_stS rfl]; rfl, fun k hk => absurd hk (Nat.not_lt_zero k)⟩
    generalize am_up K 126 58 0 = L at y1 y2 y3 ⊢
    have wkL : ∀ V : Nat → Nat → Int, (∀ j, j < 58 → V 126 j = J 126 j) → wk (V 126) ∧ nS (V 126) = nS (J 126) ∧ (∀ g f o p x, msC (V 126) g f o p x = msC (J 126) g f o p x) := fun V hv => by
      have hn := (nS_row hv).1
      refine ⟨wk_row hk hv, hn, fun g f o p x => ?_⟩
      have nd : ∀ i, i < 2 * nS (J 126) + 1 → p < 2 → i < 16 → ndW (V 126) i = ndW (J 126) i := fun i _ _ hi => by unfold ndW; rw [hv _ (by omega)]
      have mb : ∀ k, k ≤ nS (J 126) → msB (V 126) g p k = msB (J 126) g p k := by
        intro k
        induction k with
        | zero => intro _; rfl
        | succ k ih =>
          intro hk2
          have e := ih (by omega)
          unfold msB
          rw [e]
          have e2 : ndW (V 126) (2 * k + 1 - p) = ndW (J 126) (2 * k + 1 - p) := by unfold ndW; rw [hv _ (by omega)]
          rcases msB_v (W := J 126) (g := g) (p := p) k with h | ⟨j, h1, h2, -⟩
          · simp only [h, e2, true_or]
          · have e3 : ndW (V 126) (2 * j + 1 - p) = ndW (J 126) (2 * j + 1 - p) := by unfold ndW; rw [hv _ (by omega)]
            rw [h1, am_tnn, e2, e3]
      unfold msC
      rw [hn, mb _ (Nat.le_refl _)]
    obtain ⟨kL, nL, -⟩ := wkL L (fun j hj => y1 j (by omega))
    have e2n : (2 : Int) * (nS (J 126) : Int) = ((2 * nS (J 126) : Nat) : Int) := by omega
    have hpw : 2 ^ (2 * nS (J 126)) ≤ 2 ^ 16 := Nat.pow_le_pow_right (by decide) (by omega)
    have hpw : 2 ^ (2 * nS (J 126)) ≤ 65536 := hpw
    have hpp := Nat.two_pow_pos (2 * nS (J 126))
    have eall : ((2 ^ (2 * nS (J 126)) : Nat) : Int) - 1 = ((2 ^ (2 * nS (J 126)) - 1 : Nat) : Int) := by omega
    refine am_wp_cc rfl rfl rfl (congrArg Prod.fst (s124 hw)) (w_M_slicesN hw (wk_w kL) ⟨_, rfl, ?_⟩)
    rw [nL]
    refine am_wp_go rfl (by simp (disch := omega) only [s124 hw, r124_36 hw, s142 hw, am_shl1, e2n, eall, Int.reduceToNat, am_addE, am_subE, am_mulE, am_laddE, am_lsubE, am_upO, am_upS, am_stS, am_stO, am_tnn, am_brl, am_brg, am_bre, am_brn, am_brG, am_brL, am_st1, am_no2, am_st2, am_clr, and_self, true_and, and_true, true_or, or_true, List.length_cons, List.length_nil] <;> omega) ?_
    try simp (disch := omega) only [s124 hw, r124_36 hw, s142 hw, am_shl1, e2n, eall, Int.reduceToNat, am_addE, am_subE, am_mulE, am_laddE, am_lsubE, am_upO, am_upS, am_stS, am_stO, am_tnn, am_brl, am_brg, am_bre, am_brn, am_brG, am_brL, am_st1, am_no2, am_st2, am_clr]
    have OUT : ∀ x : Nat, x ≤ 1000 → ∀ (z4 z5 : Option am_V) (b : Nat) (V : Nat → Nat → Int) (S : MS), (∀ a, ¬ (a = 124 ∨ a = 126 ∨ a = 142 ∨ a = 143) → V a = K a) → (∀ j, j ≠ 41 → V 124 j = K 124 j) → V 124 41 = (x : Int) → (∀ j, (j < 58 ∨ 2059 ≤ j) → V 126 j = J 126 j) → rf (pw (V 126)) S.2.2.2 → (∀ p, p < 2 → V 142 p = (S.2.1 p : Int) ∧ V 143 p = S.2.2.1 p) → (∀ s, s < nS (J 126) → b.testBit s = (S.1.testBit (2 * s) || S.1.testBit (2 * s + 1))) → b < 256 → msK (J 126) x S → msR (J 126) (1000 - x) x S = msF (J 126) (J 143) → am_wp (d + 4) 269 64 [some (.inr (.inr (124))), some (.inl ((b : Int))), some (.inl ((S.1 : Int))), some (.inl (((2 ^ (2 * nS (J 126)) - 1 : Nat) : Int))), z4, z5] [] (m, sl, sh, V, R) Q := by
      refine am_lp 1000 (fun x hx ih z4 z5 b V S v1 v2 v3 v4 v5 v6 v7 v8 v9 v10 => ?_)
      have mx := ms_x v9
      have gS : gok S.2.2.2 := by
        have l1 := v9.2.1
        have l2 := msCt_le (g := S.1) (n := 2 * nS (J 126))
        exact ⟨by omega, fun k hk => (gs_all v9.2.2.2 hk).1⟩
      refine am_wp_go rfl (by simp (disch := omega) only [s124 hw, am_shl1, e2n, eall, Int.reduceToNat, am_addE, am_subE, am_mulE, am_laddE, am_lsubE, am_upO, am_upS, am_stS, am_stO, am_tnn, am_brl, am_brg, am_bre, am_brn, am_brG, am_brL, am_st1, am_no2, am_st2, am_clr, and_self, true_and, and_true, true_or, or_true, List.length_cons, List.length_nil] <;> omega) ?_
      try simp (disch := omega) only [s124 hw, am_shl1, e2n, eall, Int.reduceToNat, am_addE, am_subE, am_mulE, am_laddE, am_lsubE, am_upO, am_upS, am_stS, am_stO, am_tnn, am_brl, am_brg, am_bre, am_brn, am_brG, am_brL, am_st1, am_no2, am_st2, am_clr]
      refine am_wp_br (fun b66 => ?_) (fun b66 => ?_)
      · have ea : S.1 = 2 ^ (2 * nS (J 126)) - 1 := by omega
        rw [show 1000 - x = (999 - x) + 1 by omega] at v10
        unfold msR at v10
        rw [if_pos ea] at v10
        rw [v10] at v5 gS
        refine am_wp_go rfl (by simp (disch := omega) only [s124 hw, am_shl1, e2n, eall, Int.reduceToNat, am_addE, am_subE, am_mulE, am_laddE, am_lsubE, am_upO, am_upS, am_stS, am_stO, am_tnn, am_brl, am_brg, am_bre, am_brn, am_brG, am_brL, am_st1, am_no2, am_st2, am_clr, and_self, true_and, and_true, true_or, or_true, List.length_cons, List.length_nil] <;> omega) ?_
        try simp (disch := omega) only [s124 hw, am_shl1, e2n, eall, Int.reduceToNat, am_addE, am_subE, am_mulE, am_laddE, am_lsubE, am_upO, am_upS, am_stS, am_stO, am_tnn, am_brl, am_brg, am_bre, am_brn, am_brG, am_brL, am_st1, am_no2, am_st2, am_clr]
        refine am_wp_cc rfl rfl rfl (congrArg Prod.fst (s124 hw)) (w_M_endsAt hw v5 gS ⟨_, rfl, ?_⟩)
        refine am_wp_ret rfl rfl ?_
        exact h V (rqp_of q1 j3 j4 (fun a ha => by rw [v1 a (by omega), k1 a (by omega) (by omega)]) (fun j h2 _ h3 _ => by rw [v2 j h3, k2 j h2]) (fun j hj => by rw [v4 j hj])) v5 (hsR_fr k3 (by rw [v2 22 (by decide)]) (v1 129 (by omega)))
      · have en : S.1 ≠ 2 ^ (2 * nS (J 126)) - 1 := fun hc => b66 (by rw [hc])
        rw [show 1000 - x = (1000 - (x + 1)) + 1 by omega] at v10
        unfold msR at v10
        rw [if_neg en] at v10
        have k6 := ms_min hk v9 en
        have ih := ih (by omega)
        clear h
        refine am_wp_go rfl (by simp (disch := omega) only [s124 hw, am_shl1, e2n, eall, Int.reduceToNat, am_addE, am_subE, am_mulE, am_laddE, am_lsubE, am_upO, am_upS, am_stS, am_stO, am_tnn, am_brl, am_brg, am_bre, am_brn, am_brG, am_brL, am_st1, am_no2, am_st2, am_clr, and_self, true_and, and_true, true_or, or_true, List.length_cons, List.length_nil] <;> omega) ?_
        try simp (disch := omega) only [s124 hw, am_shl1, e2n, eall, Int.reduceToNat, am_addE, am_subE, am_mulE, am_laddE, am_lsubE, am_upO, am_upS, am_stS, am_stO, am_tnn, am_brl, am_brg, am_bre, am_brn, am_brG, am_brL, am_st1, am_no2, am_st2, am_clr]
        have M : ∀ p : Nat, p ≤ 2 → ∀ (z5 : Option am_V) (b : Nat) (X : Nat → Nat → Int) (T : MS), (∀ a, ¬ (a = 124 ∨ a = 126 ∨ a = 142 ∨ a = 143) → X a = K a) → (∀ j, j ≠ 41 → X 124 j = K 124 j) → X 124 41 = (x : Int) → (∀ j, (j < 58 ∨ 2059 ≤ j) → X 126 j = J 126 j) → rf (pw (X 126)) T.2.2.2 → (∀ p, p < 2 → X 142 p = (T.2.1 p : Int) ∧ X 143 p = T.2.2.1 p) → (∀ s, s < nS (J 126) → b.testBit s = (T.1.testBit (2 * s) || T.1.testBit (2 * s + 1))) → b < 256 → msK (J 126) x T → msP (J 126) x p T = msS (J 126) 1 x (msS (J 126) 0 x S) → am_wp (d + 4) 269 72 [some (.inr (.inr (124))), some (.inl ((b : Int))), some (.inl ((T.1 : Int))), some (.inl (((2 ^ (2 * nS (J 126)) - 1 : Nat) : Int))), some (.inl ((p : Int))), z5] [] (m, sl, sh, X, R) Q := by
          refine am_lp 2 (fun p hp ih2 z5 b X T x1 x2 x3 x4 x5 x6 x7 x8 x9 x10 => ?_)
          by_cases hp2 : p = 2
          · subst hp2
            have x10 : T = msS (J 126) 1 x (msS (J 126) 0 x S) := x10
            subst x10
            refine am_wp_go rfl (by simp (disch := omega) only [s124 hw, x3, am_shl1, e2n, eall, Int.reduceToNat, am_addE, am_subE, am_mulE, am_laddE, am_lsubE, am_upO, am_upS, am_stS, am_stO, am_tnn, am_brl, am_brg, am_bre, am_brn, am_brG, am_brL, am_st1, am_no2, am_st2, am_clr, and_self, true_and, and_true, true_or, or_true, List.length_cons, List.length_nil] <;> omega) ?_
            refine am_wp_pc (pc' := 190) rfl ?_
            refine am_wp_go rfl (by simp (disch := omega) only [s124 hw, x3, am_shl1, e2n, eall, Int.reduceToNat, am_addE, am_subE, am_mulE, am_laddE, am_lsubE, am_upO, am_upS, am_stS, am_stO, am_tnn, am_brl, am_brg, am_bre, am_brn, am_brG, am_brL, am_st1, am_no2, am_st2, am_clr, and_self, true_and, and_true, true_or, or_true, List.length_cons, List.length_nil] <;> omega) ?_
            try simp (disch := omega) only [s124 hw, x3, am_shl1, e2n, eall, Int.reduceToNat, am_addE, am_subE, am_mulE, am_laddE, am_lsubE, am_upO, am_upS, am_stS, am_stO, am_tnn, am_brl, am_brg, am_bre, am_brn, am_brG, am_brL, am_st1, am_no2, am_st2, am_clr]
            refine am_wp_ls (ih _ _ b _ _ (fun a ha => by rw [am_upO (by omega), x1 a ha]) (fun j hj => by rw [am_upS, am_stO hj, x2 j hj]) (by rw [am_upS, am_stS rfl]; omega) (fun j hj => by rw [am_upO (by decide), x4 j hj]) (by rw [am_upO (by decide)]; exact x5) (fun p hp => by rw [am_upO (by decide), am_upO (by decide)]; exact x6 p hp) x7 x8 k6 v10) rfl
          · have hp3 : p < 2 := by omega
            have ih2 := ih2 (by omega)
            rw [msP_s hp3] at x10
            have vx := ms_x x9
            have e142 := (x6 p hp3).1
            have x11 := msS_ok hk hp3 x9
            obtain ⟨kX, nX, mX⟩ := wkL X (fun j hj => x4 j (by omega))
            have tg := x9.1
            refine am_wp_go rfl (by simp (disch := omega) only [s124 hw, r124_36 hw, s142 hw, e142, x3, am_shl1, e2n, eall, Int.reduceToNat, am_addE, am_subE, am_mulE, am_laddE, am_lsubE, am_upO, am_upS, am_stS, am_stO, am_tnn, am_brl, am_brg, am_bre, am_brn, am_brG, am_brL, am_st1, am_no2, am_st2, am_clr, and_self, true_and, and_true, true_or, or_true, List.length_cons, List.length_nil] <;> omega) ?_
            try simp (disch := omega) only [s124 hw, r124_36 hw, s142 hw, e142, x3, am_shl1, e2n, eall, Int.reduceToNat, am_addE, am_subE, am_mulE, am_laddE, am_lsubE, am_upO, am_upS, am_stS, am_stO, am_tnn, am_brl, am_brg, am_bre, am_brn, am_brG, am_brL, am_st1, am_no2, am_st2, am_clr]
            refine am_wp_br (fun b75 => ?_) (fun b75 => ?_)
            · omega
            · refine am_wp_go rfl (by simp (disch := omega) only [s124 hw, r124_36 hw, s142 hw, e142, x3, am_shl1, e2n, eall, Int.reduceToNat, am_addE, am_subE, am_mulE, am_laddE, am_lsubE, am_upO, am_upS, am_stS, am_stO, am_tnn, am_brl, am_brg, am_bre, am_brn, am_brG, am_brL, am_st1, am_no2, am_st2, am_clr, and_self, true_and, and_true, true_or, or_true, List.length_cons, List.length_nil] <;> omega) ?_
              try simp (disch := omega) only [s124 hw, r124_36 hw, s142 hw, e142, x3, am_shl1, e2n, eall, Int.reduceToNat, am_addE, am_subE, am_mulE, am_laddE, am_lsubE, am_upO, am_upS, am_stS, am_stO, am_tnn, am_brl, am_brg, am_bre, am_brn, am_brG, am_brL, am_st1, am_no2, am_st2, am_clr]
              refine am_wp_br (fun b89 => ?_) (fun b89 => ?_)
              · refine am_wp_go rfl (by simp (disch := omega) only [s124 hw, r124_36 hw, s142 hw, e142, x3, am_shl1, e2n, eall, Int.reduceToNat, am_addE, am_subE, am_mulE, am_laddE, am_lsubE, am_upO, am_upS, am_stS, am_stO, am_tnn, am_brl, am_brg, am_bre, am_brn, am_brG, am_brL, am_st1, am_no2, am_st2, am_clr, and_self, true_and, and_true, true_or, or_true, List.length_cons, List.length_nil] <;> omega) ?_
                try simp (disch := omega) only [s124 hw, r124_36 hw, s142 hw, e142, x3, am_shl1, e2n, eall, Int.reduceToNat, am_addE, am_subE, am_mulE, am_laddE, am_lsubE, am_upO, am_upS, am_stS, am_stO, am_tnn, am_brl, am_brg, am_bre, am_brn, am_brG, am_brL, am_st1, am_no2, am_st2, am_clr]
                refine am_wp_cc rfl rfl rfl (congrArg Prod.fst (s124 hw)) (w_M_takes (g := T.1) (b := b) (f := T.2.1) (o := T.2.2.1) (p := p) (x := x) hw kX (by rw [nX]; exact x7) x8 (by omega) (x6 (1 - p) (by omega)).1 (x6 (1 - p) (by omega)).2 x3 hp3 ⟨_, rfl, ?_⟩)
                rw [mX]
                refine am_wp_go rfl (by simp (disch := omega) only [s124 hw, r124_36 hw, s142 hw, e142, x3, am_shl1, e2n, eall, Int.reduceToNat, am_addE, am_subE, am_mulE, am_laddE, am_lsubE, am_upO, am_upS, am_stS, am_stO, am_tnn, am_brl, am_brg, am_bre, am_brn, am_brG, am_brL, am_st1, am_no2, am_st2, am_clr, and_self, true_and, and_true, true_or, or_true, List.length_cons, List.length_nil] <;> omega) ?_
                try simp (disch := omega) only [s124 hw, r124_36 hw, s142 hw, e142, x3, am_shl1, e2n, eall, Int.reduceToNat, am_addE, am_subE, am_mulE, am_laddE, am_lsubE, am_upO, am_upS, am_stS, am_stO, am_tnn, am_brl, am_brg, am_bre, am_brn, am_brG, am_brL, am_st1, am_no2, am_st2, am_clr]
                refine am_wp_br (fun b108 => ?_) (fun b108 => ?_)
                · obtain ⟨c, e, hc2, hc3⟩ := (ms_v (W := J 126) (g := T.1) (f := T.2.1) (o := T.2.2.1) (x := x) hp3).resolve_left b108
                  have eS : msS (J 126) p x T = (T.1 ||| 2 ^ (2 * c + p), am_set T.2.1 p (x + ndW (J 126) (2 * c + p)), am_set T.2.2.1 p (c : Int), T.2.2.2 ++ [((c : Int), (p : Int), (x : Int), (p : Int), (ndW (J 126) (2 * c + p) : Int))]) := by
                    unfold msS
                    rw [if_pos ⟨by omega, b108⟩, e, am_tnn]
                  rw [eS] at x10 x11
                  rw [e]
                  have p2 := ax_p8 (s := c) (by omega)
                  have e2c : (2 : Int) * (c : Int) + (p : Int) = ((2 * c + p : Nat) : Int) := by omega
                  have pw2 : 2 ^ (2 * c + p) ≤ 65536 := Nat.le_trans (Nat.pow_le_pow_right (by decide) (show 2 * c + p ≤ 16 by omega)) (by decide)
                  have nd := nd_pos hk (i := 2 * c + p) (by omega)
                  have ndX : ∀ Y : Nat → Nat → Int, Y 126 = X 126 → Y 126 (8 + 3 * c + p) = (ndW (J 126) (2 * c + p) : Int) := fun Y hY => by
                    have := wkS_at hk.2.1 (s := c) (u := p) hc2 hp3
                    rw [hY, x4 _ (by omega)]
                    unfold ndW
                    rw [show (2 * c + p) / 2 = c by omega, show (2 * c + p) % 2 = p by omega]
                    omega
                  have tl := x9.2.1
                  have tc := msCt_le (g := T.1) (n := 2 * nS (J 126))
                  clear ih
                  refine am_wp_go rfl (by simp (disch := omega) only [s124 hw, r124_36 hw, s142 hw, r124_37 hw, s143 hw, x3, am_shl1, e2c, am_orN, am_addE, am_subE, am_mulE, am_laddE, am_lsubE, am_upO, am_upS, am_stS, am_stO, am_tnn, am_brl, am_brg, am_bre, am_brn, am_brG, am_brL, am_st1, am_no2, am_st2, am_clr, and_self, true_and, and_true, true_or, or_true, List.length_cons, List.length_nil] <;> omega) ?_
                  try simp (disch := omega) only [s124 hw, r124_36 hw, s142 hw, r124_37 hw, s143 hw, x3, am_shl1, e2c, am_orN, am_addE, am_subE, am_mulE, am_laddE, am_lsubE, am_upO, am_upS, am_stS, am_stO, am_tnn, am_brl, am_brg, am_bre, am_brn, am_brG, am_brL, am_st1, am_no2, am_st2, am_clr]
                  refine am_wp_cc rfl rfl rfl (congrArg Prod.fst (s124 hw)) (w_M_needs (s := c) (u := p) hw (by omega) (by omega) ⟨_, rfl, ?_⟩)
                  rw [ndX _ (am_upO (by decide))]
                  refine am_wp_go rfl (by simp (disch := omega) only [s124 hw, r124_36 hw, s142 hw, r124_37 hw, s143 hw, x3, am_shl1, e2c, am_orN, am_addE, am_subE, am_mulE, am_laddE, am_lsubE, am_upO, am_upS, am_stS, am_stO, am_tnn, am_brl, am_brg, am_bre, am_brn, am_brG, am_brL, am_st1, am_no2, am_st2, am_clr, and_self, true_and, and_true, true_or, or_true, List.length_cons, List.length_nil] <;> omega) ?_
                  try simp (disch := omega) only [s124 hw, r124_36 hw, s142 hw, r124_37 hw, s143 hw, x3, am_shl1, e2c, am_orN, am_addE, am_subE, am_mulE, am_laddE, am_lsubE, am_upO, am_upS, am_stS, am_stO, am_tnn, am_brl, am_brg, am_bre, am_brn, am_brG, am_brL, am_st1, am_no2, am_st2, am_clr]
                  refine am_wp_cc rfl rfl rfl (congrArg Prod.fst (s124 hw)) (w_M_needs (s := c) (u := p) hw (by omega) (by omega) ⟨_, rfl, ?_⟩)
                  rw [am_upO (show (126 : Nat) ≠ 142 by decide), am_upO (show (126 : Nat) ≠ 143 by decide), ndX X rfl]
                  refine am_wp_cc rfl rfl rfl (congrArg Prod.fst (s124 hw)) (w_M_lays (g := ((c : Int), (p : Int), (x : Int), (p : Int), (ndW (J 126) (2 * c + p) : Int))) (G := T.2.2.2) hw (by rw [am_upO (by decide), am_upO (by decide)]; exact x5) (by omega) rfl rfl rfl rfl rfl (fun Y y1 y2 y3 => ⟨_, rfl, ?_⟩))
                  refine am_wp_go rfl (by simp (disch := omega) only [s124 hw, r124_36 hw, s142 hw, r124_37 hw, s143 hw, x3, am_shl1, e2c, am_orN, am_addE, am_subE, am_mulE, am_laddE, am_lsubE, am_upO, am_upS, am_stS, am_stO, am_tnn, am_brl, am_brg, am_bre, am_brn, am_brG, am_brL, am_st1, am_no2, am_st2, am_clr, and_self, true_and, and_true, true_or, or_true, List.length_cons, List.length_nil] <;> omega) ?_
                  try simp (disch := omega) only [s124 hw, r124_36 hw, s142 hw, r124_37 hw, s143 hw, x3, am_shl1, e2c, am_orN, am_addE, am_subE, am_mulE, am_laddE, am_lsubE, am_upO, am_upS, am_stS, am_stO, am_tnn, am_brl, am_brg, am_bre, am_brn, am_brG, am_brL, am_st1, am_no2, am_st2, am_clr]
                  refine am_wp_ls (ih2 _ (b ||| 2 ^ c) Y _ (fun a ha => by rw [y1 a (by omega), am_upO (by omega), am_upO (by omega), x1 a ha]) (fun j hj => by rw [y1 124 (by decide), am_upO (by decide), am_upO (by decide), x2 j hj]) (by rw [y1 124 (by decide), am_upO (by decide), am_upO (by decide)]; exact x3) (fun j hj => by rw [y2 j hj, am_upO (by decide), am_upO (by decide), x4 j hj]) y3 (fun q hq => ?_) (fun s hs => ?_) (ax_or8 x8 p2) x11 x10) rfl
                  · rw [y1 142 (by decide), y1 143 (by decide), am_upS, am_upO (by decide), am_upO (by decide), am_upS]
                    dsimp only
                    by_cases hqp : q = p
                    · subst hqp
                      rw [am_stS rfl, am_stS rfl, am_stS rfl, am_stS rfl]
                      exact ⟨by omega, rfl⟩
                    · rw [am_stO hqp, am_stO hqp, am_stO hqp, am_stO hqp]
                      exact x6 q hq
                  · rw [or_tb, or_tb, or_tb, x7 s hs]
                    by_cases hsc : c = s
                    · subst hsc
                      rw [decide_eq_true rfl, Bool.or_true]
                      rcases (show p = 0 ∨ p = 1 by omega) with rfl | rfl
                      · rw [decide_eq_true (show 2 * c + 0 = 2 * c by omega), Bool.or_true, Bool.true_or]
                      · rw [decide_eq_true (show 2 * c + 1 = 2 * c + 1 by omega), Bool.or_true, Bool.or_true]
                    · rw [decide_eq_false hsc, decide_eq_false (show ¬ 2 * c + p = 2 * s by omega), decide_eq_false (show ¬ 2 * c + p = 2 * s + 1 by omega), Bool.or_false, Bool.or_false, Bool.or_false]
                · have eS : msS (J 126) p x T = T := by unfold msS; rw [if_neg (fun hc => hc.2 (by omega))]
                  rw [eS] at x10
                  refine am_wp_go rfl (by simp (disch := omega) only [s124 hw, r124_36 hw, s142 hw, e142, x3, am_shl1, e2n, eall, Int.reduceToNat, am_addE, am_subE, am_mulE, am_laddE, am_lsubE, am_upO, am_upS, am_stS, am_stO, am_tnn, am_brl, am_brg, am_bre, am_brn, am_brG, am_brL, am_st1, am_no2, am_st2, am_clr, and_self, true_and, and_true, true_or, or_true, List.length_cons, List.length_nil] <;> omega) ?_
                  try simp (disch := omega) only [s124 hw, r124_36 hw, s142 hw, e142, x3, am_shl1, e2n, eall, Int.reduceToNat, am_addE, am_subE, am_mulE, am_laddE, am_lsubE, am_upO, am_upS, am_stS, am_stO, am_tnn, am_brl, am_brg, am_bre, am_brn, am_brG, am_brL, am_st1, am_no2, am_st2, am_clr]
                  exact am_wp_ls (ih2 _ b X T x1 x2 x3 x4 x5 x6 x7 x8 x9 x10) rfl
              · have eS : msS (J 126) p x T = T := by unfold msS; rw [if_neg (fun hc => by omega)]
                rw [eS] at x10
                refine am_wp_go rfl (by simp (disch := omega) only [s124 hw, r124_36 hw, s142 hw, e142, x3, am_shl1, e2n, eall, Int.reduceToNat, am_addE, am_subE, am_mulE, am_laddE, am_lsubE, am_upO, am_upS, am_stS, am_stO, am_tnn, am_brl, am_brg, am_bre, am_brn, am_brG, am_brL, am_st1, am_no2, am_st2, am_clr, and_self, true_and, and_true, true_or, or_true, List.length_cons, List.length_nil] <;> omega) ?_
                try simp (disch := omega) only [s124 hw, r124_36 hw, s142 hw, e142, x3, am_shl1, e2n, eall, Int.reduceToNat, am_addE, am_subE, am_mulE, am_laddE, am_lsubE, am_upO, am_upS, am_stS, am_stO, am_tnn, am_brl, am_brg, am_bre, am_brn, am_brG, am_brL, am_st1, am_no2, am_st2, am_clr]
                exact am_wp_ls (ih2 _ b X T x1 x2 x3 x4 x5 x6 x7 x8 x9 x10) rfl
        exact am_wp_ls (M 0 (by decide) _ b V S v1 v2 v3 v4 v5 v6 v7 v8 v9 rfl) rfl
    have t0 : preS (ndW (J 126)) (2 * nS (J 126)) ≤ 320 := by
      have a2 := preS_fsum hk (nS (J 126)) (Nat.le_refl _)
      have a3 : am_fsum (fun s => J 126 (8 + 3 * s) + J 126 (8 + 3 * s + 1)) (nS (J 126)) = totW (J 126) 0 + totW (J 126) 1 := allW_eq
      have a4 := totW_le hk (u := 0) (by decide)
      have a5 := totW_le hk (u := 1) (by decide)
      omega
    refine am_wp_ls (OUT 0 (by decide) none none 0 _ (0, fun _ => 0, J 143, []) (fun a ha => by rw [am_upO (by omega), am_upO (by omega), am_upO (by omega), y2 a (by omega)]) (fun j hj => by rw [am_upS, am_stO hj, am_upO (by decide), am_upO (by decide), y2 124 (by decide)]) (by rw [am_upS, am_stS rfl]; rfl) (fun j hj => by rw [am_upO (by decide), am_upO (by decide), am_upO (by decide), y1 j (by omega)]) (by rw [am_upO (by decide), am_upO (by decide), am_upO (by decide)]; exact y3) (fun p hp => ⟨?_, ?_⟩) (fun s hs => by rw [Nat.zero_testBit, Nat.zero_testBit, Nat.zero_testBit]; rfl) (by decide) ⟨Nat.two_pow_pos _, ?_, ?_, fun g hg => absurd hg (by simp)⟩ rfl) rfl
    · rw [am_upO (by decide), am_upS, am_upS]
      rcases (show p = 0 ∨ p = 1 by omega) with rfl | rfl
      · rw [am_stO (by decide), am_stS rfl]; rfl
      · rw [am_stS rfl]; rfl
    · rw [am_upO (by decide), am_upO (by decide), am_upO (by decide), y2 143 (by decide), k1 143 (by decide) (by decide)]
    · show 0 = msCt 0 (2 * nS (J 126))
      unfold msCt
      rw [preS_cg (k := fun _ => 0) (fun i hi => by rw [Nat.zero_testBit, if_neg (by decide)])]
      generalize 2 * nS (J 126) = n
      induction n with
      | zero => rfl
      | succ n ih => unfold preS; omega
    · show 0 + msRm (J 126) 0 (2 * nS (J 126)) + (0 - 0) + (0 - 0) ≤ 320
      unfold msRm
      rw [preS_cg (k := ndW (J 126)) (fun i hi => by rw [Nat.zero_testBit, if_neg (by decide)])]
      omega
  · refine am_wp_go rfl (by simp (disch := omega) only [s124 hw, r124_14 hw, s126 hw, Int.reduceToNat, am_addE, am_subE, am_mulE, am_laddE, am_lsubE, am_upO, am_upS, am_stS, am_stO, am_tnn, am_brl, am_brg, am_bre, am_brn, am_brG, am_brL, am_st1, am_no2, am_st2, am_clr, and_self, true_and, and_true, true_or, or_true, List.length_cons, List.length_nil] <;> omega) ?_
    try simp (disch := omega) only [s124 hw, r124_14 hw, s126 hw, Int.reduceToNat, am_addE, am_subE, am_mulE, am_laddE, am_lsubE, am_upO, am_upS, am_stS, am_stO, am_tnn, am_brl, am_brg, am_bre, am_brn, am_brG, am_brL, am_st1, am_no2, am_st2, am_clr]
    refine am_wp_ret rfl rfl ?_
    exact h0 (by omega) _ q1
end MAS
