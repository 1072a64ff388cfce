/-! one() by the reference, whole; its GOES are of the KITCHEN -/
section RO
variable {m sl : Nat} {sh : Nat → Nat × Nat} {I : Nat → Nat → Int} {R : Nat → Nat → Nat} {Q : am_R → am_M → Prop} {d P : Nat} {G : List Go} {H : List (List Go)}
set_option maxRecDepth 8000 in
set_option maxHeartbeats 4000000 in
theorem r_one (hw : wd sh R) (hb : beg I) (hk : wk (lw I)) (hP : lw I 0 = (P : Int)) (hr : rf (pw (lw I)) G) (hg : gok G) (hH : H.length ≤ 8) (hG : ∀ j, j < H.length → (H.getD j []).length ≤ 400) (hh : hsR I H) (h0 : ¬ (1 ≤ nS (lw I) ∧ nS (lw I) ≤ 4) → ∀ J, rq I J → Q (am_yi (-1)) (m, sl, sh, J, R)) (h1 : 1 ≤ nS (lw I) → nS (lw I) ≤ 4 → ∀ J p F Gn, rqp I J → rf (pw (J 126)) Gn → hsR J (hpush H G) → ozG (2 * nS (lw I)) P (ozq (lw I)) (fun i => (ozZ (lw I) P 9999).2.1.getD i 0) (ozZ (lw I) P 9999).2.2 (2 * nS (lw I)) p F Gn → Q (am_yi (ozZ (lw I) P 9999).1) (m, sl, sh, J, R)) : am_wp (d + 13) 267 0 [some (.inr (.inr (124))), none, none, none, none, none, none] [] (m, sl, sh, I, R) Q := by
  refine am_wp_go rfl (by simp (disch := omega) only [s124 hw, am_upO, am_upS, and_self, true_and, and_true] <;> omega) ?_
  have q0 := rq_thrown (I := I) (x := 0)
  have z0 : ∀ a, a ≠ 124 → am_up I 124 0 0 a = I a := fun a ha => am_upO ha
  generalize am_up I 124 0 0 = I0 at q0 z0 ⊢
  refine am_wp_cc rfl rfl rfl (congrArg Prod.fst (s124 hw)) (w_M_lay hw (beg_rq q0 hb) (fun J j1 j2 j3 j4 => ⟨_, rfl, ?_⟩))
  have q1 := rq_trans q0 (rq_lay j1 j2 j3 j4)
  rw [rq_lw q0] at j4
  rw [← j4] at hk hr h0 h1 hP
  have hh := hsR_rq hh q1
  have n1 := wk_nS hk
  clear j1 j2 z0
  refine am_wp_go rfl (by simp (disch := omega) only [s124 hw, r124_14 hw, s126 hw, Int.reduceToNat, am_addE, am_subE, am_mulE, am_laddE, am_lsubE, am_upO, am_upS, am_stS, am_stO, am_tnn, am_brl, am_brg, am_bre, am_brn, am_brG, am_brL, am_st1, am_no2, am_st2, am_clr, and_self, true_and, and_true, true_or, or_true, List.length_cons, List.length_nil] <;> omega) ?_
  try simp (disch := omega) only [s124 hw, r124_14 hw, s126 hw, Int.reduceToNat, am_addE, am_subE, am_mulE, am_laddE, am_lsubE, am_upO, am_upS, am_stS, am_stO, am_tnn, am_brl, am_brg, am_bre, am_brn, am_brG, am_brL, am_st1, am_no2, am_st2, am_clr]
  refine am_wp_cc rfl rfl rfl (congrArg Prod.fst (s124 hw)) (w_M_slicesN hw (wk_w hk) ⟨_, rfl, ?_⟩)
  refine am_wp_go rfl (by simp (disch := omega) only [s124 hw, r124_14 hw, s126 hw, Int.reduceToNat, am_addE, am_subE, am_mulE, am_laddE, am_lsubE, am_upO, am_upS, am_stS, am_stO, am_tnn, am_brl, am_brg, am_bre, am_brn, am_brG, am_brL, am_st1, am_no2, am_st2, am_clr, and_self, true_and, and_true, true_or, or_true, List.length_cons, List.length_nil] <;> omega) ?_
  try simp (disch := omega) only [s124 hw, r124_14 hw, s126 hw, Int.reduceToNat, am_addE, am_subE, am_mulE, am_laddE, am_lsubE, am_upO, am_upS, am_stS, am_stO, am_tnn, am_brl, am_brg, am_bre, am_brn, am_brG, am_brL, am_st1, am_no2, am_st2, am_clr]
  refine am_wp_cc rfl rfl rfl (trivial) (w_M_isIn ⟨_, rfl, ?_⟩)
  refine am_wp_go rfl (by simp (disch := omega) only [s124 hw, r124_14 hw, s126 hw, am_b0, am_bn0, am_addE, am_subE, am_mulE, am_laddE, am_lsubE, am_upO, am_upS, am_stS, am_stO, am_tnn, am_brl, am_brg, am_bre, am_brn, am_brG, am_brL, am_st1, am_no2, am_st2, am_clr, and_self, true_and, and_true, true_or, or_true, List.length_cons, List.length_nil] <;> omega) ?_
  try simp (disch := omega) only [s124 hw, r124_14 hw, s126 hw, am_b0, am_bn0, am_addE, am_subE, am_mulE, am_laddE, am_lsubE, am_upO, am_upS, am_stS, am_stO, am_tnn, am_brl, am_brg, am_bre, am_brn, am_brG, am_brL, am_st1, am_no2, am_st2, am_clr]
  refine am_wp_br (fun b23 => ?_) (fun b23 => ?_)
  · have hN : 1 ≤ nS (J 126) ∧ nS (J 126) ≤ 4 := by omega
    have h := h1 hN.1 hN.2
    have hQ := ozQ_W hk hP hN.2
    have hgd := ozZ_gd (x := 9999) hk hP hN.2 (by decide)
    clear h0 h1
    have e2n : (2 : Int) * (nS (J 126) : Int) = ((2 * nS (J 126) : Nat) : Int) := by omega
    refine am_wp_go rfl (by simp (disch := omega) only [s124 hw, r124_34 hw, s141 hw, e2n, Int.reduceToNat, am_addE, am_subE, am_mulE, am_laddE, am_lsubE, am_upO, am_upS, am_stS, am_stO, am_tnn, am_brl, am_brg, am_bre, am_brn, am_brG, am_brL, am_st1, am_no2, am_st2, am_clr, and_self, true_and, and_true, true_or, or_true, List.length_cons, List.length_nil] <;> omega) ?_
    try simp (disch := omega) only [s124 hw, r124_34 hw, s141 hw, e2n, Int.reduceToNat, am_addE, am_subE, am_mulE, am_laddE, am_lsubE, am_upO, am_upS, am_stS, am_stO, am_tnn, am_brl, am_brg, am_bre, am_brn, am_brG, am_brL, am_st1, am_no2, am_st2, am_clr]
    refine am_wp_ls (am_lp0 (P := fun x => ∀ V : Nat → Nat → Int, (∀ a, a ≠ 124 → a ≠ 141 → V a = J a) → (∀ j, j ≠ 35 → V 124 j = J 124 j) → V 124 35 = 9999 → (∀ t, t < x → V 141 t = 0) → am_wp (d + 13) 267 37 [some (.inr (.inr (124))), some (.inl (((2 * nS (J 126) : Nat) : Int))), some (.inl ((x : Int))), none, none, none, none] [] (m, sl, sh, V, R) Q) 400 (fun x hx ih V v1 v2 v3 v4 => ?_) _ (fun a a1 a2 => by rw [am_upO a1]) (fun j hj => by rw [am_upS, am_stO hj]) (by rw [am_upS, am_stS rfl]) (fun t ht => absurd ht (Nat.not_lt_zero t))) rfl
    refine am_wp_go rfl (by simp (disch := omega) only [s124 hw, r124_34 hw, s141 hw, e2n, Int.reduceToNat, am_addE, am_subE, am_mulE, am_laddE, am_lsubE, am_upO, am_upS, am_stS, am_stO, am_tnn, am_brl, am_brg, am_bre, am_brn, am_brG, am_brL, am_st1, am_no2, am_st2, am_clr, and_self, true_and, and_true, true_or, or_true, List.length_cons, List.length_nil] <;> omega) ?_
    try simp (disch := omega) only [s124 hw, r124_34 hw, s141 hw, e2n, Int.reduceToNat, am_addE, am_subE, am_mulE, am_laddE, am_lsubE, am_upO, am_upS, am_stS, am_stO, am_tnn, am_brl, am_brg, am_bre, am_brn, am_brG, am_brL, am_st1, am_no2, am_st2, am_clr]
    refine am_wp_br (fun b41 => ?_) (fun b41 => ?_)
    · have m0 := oz0_M (n := 2 * nS (J 126)) (q := ozq (J 126))
      have V126 : V 126 = J 126 := v1 126 (by decide) (by decide)
      have goal := w_M_trySides (sl := sl) (m := m) (n := 2 * nS (J 126)) (P := P) (ρ := J 126 1) hw (2 * nS (J 126)) (d + 12) V oz0 0 [] (9999, [], fun _ => 0) (fun r M' => ∃ v, r = .inl v ∧ am_wp (d + 13) 267 64 [some (.inr (.inr 124)), some (.inl ((2 * nS (J 126) : Nat) : Int)), some (.inl (x : Int)), none, none, none, none] (v.toList ++ []) M' Q) (by omega) (by simp) ⟨by rw [V126]; exact hk, by rw [V126], by rw [V126]; exact hP, by rw [V126], by decide, fun s _ => by rw [Nat.zero_testBit]; rfl, fun s _ hc => absurd rfl hc, fun t ht => by rw [v4 t (by omega), oz0_B]; rfl⟩ (by rw [V126]; exact hQ) (by rw [V126]; exact oz0_V) oz0_O (by rw [V126, m0]; omega) ⟨v3, fun hc => absurd hc (by decide)⟩ (fun j hj => absurd hj (Nat.not_lt_zero j)) (fun j hj => absurd hj (Nat.not_lt_zero j)) (fun s _ hc => absurd rfl hc) (fun X x1 x2 _ x4 _ _ => ⟨none, rfl, ?_⟩)
      · rw [V126, m0] at goal
        refine am_wp_go rfl (by simp (disch := omega) only [s124 hw, r124_34 hw, s141 hw, e2n, Int.reduceToNat, am_addE, am_subE, am_mulE, am_laddE, am_lsubE, am_upO, am_upS, am_stS, am_stO, am_tnn, am_brl, am_brg, am_bre, am_brn, am_brG, am_brL, am_st1, am_no2, am_st2, am_clr, and_self, true_and, and_true, true_or, or_true, List.length_cons, List.length_nil] <;> omega) ?_
        try simp (disch := omega) only [s124 hw, r124_34 hw, s141 hw, e2n, Int.reduceToNat, am_addE, am_subE, am_mulE, am_laddE, am_lsubE, am_upO, am_upS, am_stS, am_stO, am_tnn, am_brl, am_brg, am_bre, am_brn, am_brG, am_brL, am_st1, am_no2, am_st2, am_clr]
        exact am_wp_cc rfl rfl rfl (congrArg Prod.fst (s124 hw)) goal
      · rw [V126] at x4
        have x4 : ozBr X (2 * nS (J 126)) (ozZ (J 126) P 9999) := x4
        have X126 : X 126 = J 126 := by rw [x1 126 (by decide), V126]
        have hhX : hsR X H := hsR_fr hh (by rw [x2 22 (by decide), v2 22 (by decide)]) (by rw [x1 129 (by decide), v1 129 (by decide) (by decide)])
        refine am_wp_go rfl (by simp (disch := omega) only [s124 hw, r124_14 hw, s126 hw, r124_36 hw, s142 hw, Int.reduceToNat, am_addE, am_subE, am_mulE, am_laddE, am_lsubE, am_upO, am_upS, am_stS, am_stO, am_tnn, am_brl, am_brg, am_bre, am_brn, am_brG, am_brL, am_st1, am_no2, am_st2, am_clr, and_self, true_and, and_true, true_or, or_true, List.length_cons, List.length_nil] <;> omega) ?_
        try simp (disch := omega) only [s124 hw, r124_14 hw, s126 hw, r124_36 hw, s142 hw, Int.reduceToNat, am_addE, am_subE, am_mulE, am_laddE, am_lsubE, am_upO, am_upS, am_stS, am_stO, am_tnn, am_brl, am_brg, am_bre, am_brn, am_brG, am_brL, am_st1, am_no2, am_st2, am_clr]
        refine am_wp_cc rfl rfl rfl (congrArg Prod.fst (s124 hw)) (w_M_snap hw (by rw [X126]; exact hr) hg.1 hH hG hhX (fun K k1 k2 k3 => ⟨_, rfl, ?_⟩))
        have e126 : K 126 = J 126 := by rw [k1 126 (by decide) (by decide), X126]
        have xK : ozBr K (2 * nS (J 126)) (ozZ (J 126) P 9999) := ⟨by rw [k2 35 (by decide)]; exact x4.1, fun hc => ⟨fun j hj => by rw [k1 138 (by decide) (by decide)]; exact (x4.2 hc).1 j hj, fun s hs => by rw [k1 140 (by decide) (by decide)]; exact (x4.2 hc).2 s hs⟩⟩
        refine am_wp_go rfl (by simp (disch := omega) only [s124 hw, r124_14 hw, s126 hw, r124_36 hw, s142 hw, Int.reduceToNat, am_addE, am_subE, am_mulE, am_laddE, am_lsubE, am_upO, am_upS, am_stS, am_stO, am_tnn, am_brl, am_brg, am_bre, am_brn, am_brG, am_brL, am_st1, am_no2, am_st2, am_clr, and_self, true_and, and_true, true_or, or_true, List.length_cons, List.length_nil] <;> omega) ?_
        try simp (disch := omega) only [s124 hw, r124_14 hw, s126 hw, r124_36 hw, s142 hw, Int.reduceToNat, am_addE, am_subE, am_mulE, am_laddE, am_lsubE, am_upO, am_upS, am_stS, am_stO, am_tnn, am_brl, am_brg, am_bre, am_brn, am_brG, am_brL, am_st1, am_no2, am_st2, am_clr]
        refine am_wp_ls (am_lp0 (P := fun x => ∀ Y : Nat → Nat → Int, (∀ a, a ≠ 126 → a ≠ 142 → Y a = K a) → (∀ j, j ≠ 58 → Y 126 j = J 126 j) → Y 126 58 = 0 → (∀ t, t < x → Y 142 t = 0) → am_wp (d + 13) 267 78 [some (.inr (.inr (124))), some (.inl (((2 * nS (J 126) : Nat) : Int))), some (.inl ((x : Int))), none, none, none, none] [] (m, sl, sh, Y, R) Q) 4 (fun x hx ih Y y1 y2 y3 y4 => ?_) _ (fun a a1 a2 => by rw [am_upO a1]) (fun j hj => by rw [am_upS, am_stO hj, e126]) (by rw [am_upS, am_stS rfl]) (fun t ht => absurd ht (Nat.not_lt_zero t))) rfl
        refine am_wp_go rfl (by simp (disch := omega) only [s124 hw, r124_14 hw, s126 hw, r124_36 hw, s142 hw, Int.reduceToNat, am_addE, am_subE, am_mulE, am_laddE, am_lsubE, am_upO, am_upS, am_stS, am_stO, am_tnn, am_brl, am_brg, am_bre, am_brn, am_brG, am_brL, am_st1, am_no2, am_st2, am_clr, and_self, true_and, and_true, true_or, or_true, List.length_cons, List.length_nil] <;> omega) ?_
        try simp (disch := omega) only [s124 hw, r124_14 hw, s126 hw, r124_36 hw, s142 hw, Int.reduceToNat, am_addE, am_subE, am_mulE, am_laddE, am_lsubE, am_upO, am_upS, am_stS, am_stO, am_tnn, am_brl, am_brg, am_bre, am_brn, am_brG, am_brL, am_st1, am_no2, am_st2, am_clr]
        refine am_wp_br (fun b80 => ?_) (fun b80 => ?_)
        · have xY : ozBr Y (2 * nS (J 126)) (ozZ (J 126) P 9999) := ⟨by rw [y1 124 (by decide) (by decide)]; exact xK.1, fun hc => ⟨fun j hj => by rw [y1 138 (by decide) (by decide)]; exact (xK.2 hc).1 j hj, fun s hs => by rw [y1 140 (by decide) (by decide)]; exact (xK.2 hc).2 s hs⟩⟩
          refine am_wp_go rfl (by simp (disch := omega) only [s124 hw, r124_14 hw, s126 hw, r124_36 hw, s142 hw, Int.reduceToNat, am_addE, am_subE, am_mulE, am_laddE, am_lsubE, am_upO, am_upS, am_stS, am_stO, am_tnn, am_brl, am_brg, am_bre, am_brn, am_brG, am_brL, am_st1, am_no2, am_st2, am_clr, and_self, true_and, and_true, true_or, or_true, List.length_cons, List.length_nil] <;> omega) ?_
          try simp (disch := omega) only [s124 hw, r124_14 hw, s126 hw, r124_36 hw, s142 hw, Int.reduceToNat, am_addE, am_subE, am_mulE, am_laddE, am_lsubE, am_upO, am_upS, am_stS, am_stO, am_tnn, am_brl, am_brg, am_bre, am_brn, am_brG, am_brL, am_st1, am_no2, am_st2, am_clr]
          refine am_wp_ls (w_M_onePut (z3 := none) (d := d + 11) (n := 2 * nS (J 126)) (P := P) (ρ := J 126 1) (W := J 126) (B := ozZ (J 126) P 9999) hw hQ hgd (fun j hj => y2 j (by omega)) xY ⟨by unfold pw; rw [y3]; rfl, fun k hk => absurd hk (Nat.not_lt_zero k)⟩ (fun t ht => y4 t (by omega)) (fun Z p F Gn z1 z2 z3 z4 => h Z p F Gn (rqp_of q1 j3 j4 (fun a ha => by rw [z1 a (by omega) (by omega), y1 a (by omega) (by omega), k1 a (by omega) (by omega), x1 a (by omega), v1 a (by omega) (by omega)]) (fun j h2 h3 _ _ => by rw [z1 124 (by decide) (by decide), y1 124 (by decide) (by decide), k2 j h2, x2 j h3, v2 j h3]) (fun j hj => by rw [z2 j hj, y2 j (by omega)])) z3 (hsR_fr k3 (by rw [z1 124 (by decide) (by decide), y1 124 (by decide) (by decide)]) (by rw [z1 129 (by decide) (by decide), y1 129 (by decide) (by decide)])) z4)) rfl
        · refine am_wp_go rfl (by simp (disch := omega) only [s124 hw, r124_14 hw, s126 hw, r124_36 hw, s142 hw, Int.reduceToNat, am_addE, am_subE, am_mulE, am_laddE, am_lsubE, am_upO, am_upS, am_stS, am_stO, am_tnn, am_brl, am_brg, am_bre, am_brn, am_brG, am_brL, am_st1, am_no2, am_st2, am_clr, and_self, true_and, and_true, true_or, or_true, List.length_cons, List.length_nil] <;> omega) ?_
          try simp (disch := omega) only [s124 hw, r124_14 hw, s126 hw, r124_36 hw, s142 hw, Int.reduceToNat, am_addE, am_subE, am_mulE, am_laddE, am_lsubE, am_upO, am_upS, am_stS, am_stO, am_tnn, am_brl, am_brg, am_bre, am_brn, am_brG, am_brL, am_st1, am_no2, am_st2, am_clr]
          refine am_wp_ls (ih (by omega) _ (fun a a1 a2 => by rw [am_upO a2, y1 a a1 a2]) (fun j hj => by rw [am_upO (by decide), y2 j hj]) (by rw [am_upO (by decide), y3]) (fun t ht => ?_)) rfl
          rw [am_upS]
          by_cases e : t = x
          · rw [am_stS e]
          · rw [am_stO e]; exact y4 t (by omega)
    · refine am_wp_go rfl (by simp (disch := omega) only [s124 hw, r124_34 hw, s141 hw, e2n, Int.reduceToNat, am_addE, am_subE, am_mulE, am_laddE, am_lsubE, am_upO, am_upS, am_stS, am_stO, am_tnn, am_brl, am_brg, am_bre, am_brn, am_brG, am_brL, am_st1, am_no2, am_st2, am_clr, and_self, true_and, and_true, true_or, or_true, List.length_cons, List.length_nil] <;> omega) ?_
      try simp (disch := omega) only [s124 hw, r124_34 hw, s141 hw, e2n, Int.reduceToNat, am_addE, am_subE, am_mulE, am_laddE, am_lsubE, am_upO, am_upS, am_stS, am_stO, am_tnn, am_brl, am_brg, am_bre, am_brn, am_brG, am_brL, am_st1, am_no2, am_st2, am_clr]
      refine am_wp_ls (ih (by omega) _ (fun a a1 a2 => by rw [am_upO a2, v1 a a1 a2]) (fun j hj => by rw [am_upO (by decide), v2 j hj]) (by rw [am_upO (by decide), v3]) (fun t ht => ?_)) rfl
      rw [am_upS]
      by_cases e : t = x
      · rw [am_stS e]
      · rw [am_stO e]; exact v4 t (by omega)
  · refine am_wp_go rfl (by simp (disch := omega) only [s124 hw, r124_14 hw, s126 hw, am_b0, am_bn0, am_addE, am_subE, am_mulE, am_laddE, am_lsubE, am_upO, am_upS, am_stS, am_stO, am_tnn, am_brl, am_brg, am_bre, am_brn, am_brG, am_brL, am_st1, am_no2, am_st2, am_clr, and_self, true_and, and_true, true_or, or_true, List.length_cons, List.length_nil] <;> omega) ?_
    try simp (disch := omega) only [s124 hw, r124_14 hw, s126 hw, am_b0, am_bn0, am_addE, am_subE, am_mulE, am_laddE, am_lsubE, am_upO, am_upS, am_stS, am_stO, am_tnn, am_brl, am_brg, am_bre, am_brn, am_brG, am_brL, am_st1, am_no2, am_st2, am_clr]
    refine am_wp_ret rfl rfl ?_
    exact h0 (by omega) _ q1
end RO
/-- its GOES are of the KITCHEN -/
theorem ozG_kt {n P : Nat} {q b : Nat → Int} {o : Nat → Nat} (hP : P ≤ 4) (ho : ∀ i, i < n → o i < n) : ∀ (j : Nat) (p : Nat → Bool) (F : Nat → Int) (G : List Go), ozG n P q o b j p F G → ∀ k, k < G.length → ∃ s x, s < n ∧ x < P ∧ gS G k = ((s / 2 : Nat) : Int) ∧ gL G k = (x : Int)
  | 0, p, F, G, h => fun k hk => by rw [h.2.2] at hk; exact absurd hk (Nat.not_lt_zero k)
  | j + 1, p, F, G, h => fun k hk => by
    obtain ⟨a1, a2, a3, i, x, a4, a5, a6, a7, a8, a9, a10, a11⟩ := h
    have ih := ozG_kt hP ho j _ _ _ a4
    subst a11
    rw [List.length_append] at hk
    have hk : k < a3.length + 1 := hk
    by_cases e : k < a3.length
    · obtain ⟨s, y, s1, s2, s3, s4'⟩ := ih k e
      refine ⟨s, y, s1, s2, ?_, ?_⟩
      · rw [← s3]; unfold gS; rw [gs_app e]
      · rw [← s4']; unfold gL; rw [gs_app e]
    · refine ⟨o i, x, ho i a5.1, a6, ?_, ?_⟩
      · unfold gS; rw [show k = a3.length by omega, gs_app2]; rfl
      · unfold gL; rw [show k = a3.length by omega, gs_app2]; rfl
theorem oz_kt {W : Nat → Int} {P : Nat} {p : Nat → Bool} {F : Nat → Int} {G : List Go} (hk : wk W) (hP : W 0 = (P : Int)) (h4 : nS W ≤ 4) (h : ozG (2 * nS W) P (ozq W) (fun i => (ozZ W P 256).2.1.getD i 0) (ozZ W P 256).2.2 (2 * nS W) p F G) : gkt W G := by
  have hQ := ozQ_W hk hP h4
  have P4 := hQ.2.2.2.1
  have gd := ozZ_gd (x := 256) hk hP h4 (Int.le_refl _)
  have n1 := wk_nS hk
  intro k hk2
  obtain ⟨s, x, s1, s2, s3, s4'⟩ := ozG_kt P4 (fun i hi => gd.2.2.2.2.2.1 i hi) _ _ _ _ h k hk2
  rw [s3, s4', n1.1]
  omega
