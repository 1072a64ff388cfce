/-! several() on both sides -/
section SEV
variable {m sl : Nat} {sh : Nat → Nat × Nat} {I : Nat → Nat → Int} {R : Nat → Nat → Nat} {Q : am_R → am_M → Prop} {d : Nat} {W N : Nat → Int} {G : List Go} {H : List (List Go)}
theorem ndW_kit {c : Nat} (hk : kit I c W N) {i : Nat} (hi : i < 2 * nS W) : I (c + 1) i = (ndW W i : Int) := by
  have h1 := hk.2.2.1 (i / 2) (by omega)
  have h2 := hk.1.2.1 (i / 2) (by omega)
  unfold ndW
  rcases (show i % 2 = 0 ∨ i % 2 = 1 by omega) with h | h
  · rw [show i = 2 * (i / 2) by omega, h1.1, show 2 * (i / 2) / 2 = i / 2 by omega, show 2 * (i / 2) % 2 = 0 by omega, Nat.add_zero]; omega
  · rw [show i = 2 * (i / 2) + 1 by omega, h1.2, show (2 * (i / 2) + 1) / 2 = i / 2 by omega, show (2 * (i / 2) + 1) % 2 = 1 by omega]; omega
theorem w_cutRow (hw : wd sh R) (hk : kit I 6 W N) (hn : 0 < nS W) (h : ∀ J, (∀ a, a ≠ 48 → a ≠ 49 → J a = I a) → pl J 48 (sevG W) → Q (am_yi (cutW W)) (m, sl, sh, J, R)) : am_wp (d + 2) 39 0 [some (.inr (.inr (73))), some (.inr (.inr (6))), some (.inr (.inr (48))), none, none, none, none, none, none] [] (m, sl, sh, I, R) Q := by
  obtain ⟨c1, c2, c3, c4, c5⟩ := cut_ok hk.1 hn
  have n1 := wk_nS hk.1
  obtain ⟨⟨w0⟩, -⟩ := id hk.1
  have hok := sv_ok (n := 2 * nS W) (fun i hi => ⟨(c4 i hi).1, (c4 i hi).2.1⟩) (show 0 < cutN W by omega)
  have hgo := sv_go (s := nS W) (pl := (W 0).toNat) c4 (by omega) (by omega) (Nat.le_refl _) n1.2 c5 (by omega)
  refine am_wp_go rfl (by simp (disch := omega) only [am_addE, am_subE, am_mulE, am_laddE, am_lsubE, am_upO, am_upS, am_stS, am_stO, am_tnn, am_brl, am_brg, am_bre, am_brn, am_brG, am_brL, am_st1, am_no2, am_st2, am_clr, and_self, true_and, and_true, true_or, or_true, List.length_cons, List.length_nil] <;> omega) ?_
  try simp (disch := omega) only [am_addE, am_subE, am_mulE, am_laddE, am_lsubE, am_upO, am_upS, am_stS, am_stO, am_tnn, am_brl, am_brg, am_bre, am_brn, am_brG, am_brL, am_st1, am_no2, am_st2, am_clr]
  refine am_wp_cc rfl rfl rfl (congrArg Prod.fst (s48 hw)) (w_plclear (pl_w hw (by decide)) (fun J0 j1 j2 => ⟨_, rfl, ?_⟩))
  have hk0 : kit J0 6 W N := kit_fr hk (fun a h1 h2 => j1 a (by omega))
  refine am_wp_go rfl (by simp (disch := omega) only [am_addE, am_subE, am_mulE, am_laddE, am_lsubE, am_upO, am_upS, am_stS, am_stO, am_tnn, am_brl, am_brg, am_bre, am_brn, am_brG, am_brL, am_st1, am_no2, am_st2, am_clr, and_self, true_and, and_true, true_or, or_true, List.length_cons, List.length_nil] <;> omega) ?_
  try simp (disch := omega) only [am_addE, am_subE, am_mulE, am_laddE, am_lsubE, am_upO, am_upS, am_stS, am_stO, am_tnn, am_brl, am_brg, am_bre, am_brn, am_brG, am_brL, am_st1, am_no2, am_st2, am_clr]
  refine am_wp_cc rfl rfl rfl (congrArg Prod.fst (s6 hw)) (w_longest (kt_w hw (by decide)) hk0 ⟨_, rfl, ?_⟩)
  refine am_wp_go rfl (by simp (disch := omega) only [am_addE, am_subE, am_mulE, am_laddE, am_lsubE, am_upO, am_upS, am_stS, am_stO, am_tnn, am_brl, am_brg, am_bre, am_brn, am_brG, am_brL, am_st1, am_no2, am_st2, am_clr, and_self, true_and, and_true, true_or, or_true, List.length_cons, List.length_nil] <;> omega) ?_
  try simp (disch := omega) only [am_addE, am_subE, am_mulE, am_laddE, am_lsubE, am_upO, am_upS, am_stS, am_stO, am_tnn, am_brl, am_brg, am_bre, am_brn, am_brG, am_brL, am_st1, am_no2, am_st2, am_clr]
  refine am_wp_cc rfl rfl rfl (congrArg Prod.fst (s6 hw)) (w_byPlaces (kt_w hw (by decide)) hk0 ⟨_, rfl, ?_⟩)
  have e0 : (if lonW W < bypW W then bypW W else lonW W) = (cutN W : Int) := c1
  rw [c1] at h
  refine am_wp_go rfl (by simp (disch := omega) only [e0, am_addE, am_subE, am_mulE, am_laddE, am_lsubE, am_upO, am_upS, am_stS, am_stO, am_tnn, am_brl, am_brg, am_bre, am_brn, am_brG, am_brL, am_st1, am_no2, am_st2, am_clr, and_self, true_and, and_true, true_or, or_true, List.length_cons, List.length_nil] <;> omega) ?_
  try simp (disch := omega) only [e0, am_addE, am_subE, am_mulE, am_laddE, am_lsubE, am_upO, am_upS, am_stS, am_stO, am_tnn, am_brl, am_brg, am_bre, am_brn, am_brG, am_brL, am_st1, am_no2, am_st2, am_clr]
  refine am_lp0 (P := fun i => ∀ (z7 z8 : Option am_V) (J : Nat → Nat → Int), (∀ a, a ≠ 48 → a ≠ 49 → J a = I a) → pl J 48 (sv (ndW W) (cutN W) i).2.2 → am_wp (d + 2) 39 25 [some (.inr (.inr (73))), some (.inr (.inr (6))), some (.inr (.inr (48))), some (.inl ((cutN W : Int))), some (.inl (((sv (ndW W) (cutN W) i).2.1 : Int))), some (.inl (((sv (ndW W) (cutN W) i).1 : Int))), some (.inl ((i : Int))), z7, z8] [] (m, sl, sh, J, R) Q) (2 * nS W) (fun i hi ih z7 z8 J k1 k2 => ?_) none none J0 (fun a h1 h2 => j1 a h1) j2
  have hkj : kit J 6 W N := kit_fr hk (fun a h1 h2 => k1 a (by omega) (by omega))
  have o1 : J 6 6 = (nS W : Int) := by rw [hkj.2.1.2.2.2.2.2.1]; exact n1.1
  refine am_wp_go rfl (by simp (disch := omega) only [s6 hw, r6_11 hw, s7 hw, o1, am_addE, am_subE, am_mulE, am_laddE, am_lsubE, am_upO, am_upS, am_stS, am_stO, am_tnn, am_brl, am_brg, am_bre, am_brn, am_brG, am_brL, am_st1, am_no2, am_st2, am_clr, and_self, true_and, and_true, true_or, or_true, List.length_cons, List.length_nil] <;> omega) ?_
  try simp (disch := omega) only [s6 hw, r6_11 hw, s7 hw, o1, am_addE, am_subE, am_mulE, am_laddE, am_lsubE, am_upO, am_upS, am_stS, am_stO, am_tnn, am_brl, am_brg, am_bre, am_brn, am_brG, am_brL, am_st1, am_no2, am_st2, am_clr]
  refine am_wp_br (fun b33 => ?_) (fun b33 => ?_)
  · have h0 : i = 2 * nS W := by omega
    subst h0
    refine am_wp_go rfl (by simp (disch := omega) only [s6 hw, r6_11 hw, s7 hw, o1, am_addE, am_subE, am_mulE, am_laddE, am_lsubE, am_upO, am_upS, am_stS, am_stO, am_tnn, am_brl, am_brg, am_bre, am_brn, am_brG, am_brL, am_st1, am_no2, am_st2, am_clr, and_self, true_and, and_true, true_or, or_true, List.length_cons, List.length_nil] <;> omega) ?_
    try simp (disch := omega) only [s6 hw, r6_11 hw, s7 hw, o1, am_addE, am_subE, am_mulE, am_laddE, am_lsubE, am_upO, am_upS, am_stS, am_stO, am_tnn, am_brl, am_brg, am_bre, am_brn, am_brG, am_brL, am_st1, am_no2, am_st2, am_clr]
    refine am_wp_ret rfl rfl ?_
    exact h J k1 k2
  · have q1 := c4 i (by omega)
    obtain ⟨q2, q3⟩ := hok i (by omega)
    obtain ⟨q4, q5⟩ := hgo i (by omega)
    obtain ⟨q6, q7⟩ := hgo (i + 1) (by omega)
    have q8 := ndW_kit hkj (i := i) (by omega)
    have ih := ih (by omega)
    unfold sv at ih q6 q7
    generalize sv (ndW W) (cutN W) i = S at *
    obtain ⟨p, b, T⟩ := S
    dsimp only at *
    generalize ndW W i = nd at *
    generalize cutN W = c at *
    by_cases hlt : b + nd < c
    · rw [if_pos hlt] at ih q6 q7
      dsimp only at ih q6 q7
      have e1 : (if (c : Int) - b < (nd : Int) then (c : Int) - b else (nd : Int)) = (nd : Int) := by split <;> omega
      have g1 := q7 _ (List.mem_append_right T (List.mem_singleton_self _))
      refine am_wp_go rfl (by simp (disch := omega) only [s6 hw, r6_11 hw, s7 hw, o1, q8, e1, am_addE, am_subE, am_mulE, am_laddE, am_lsubE, am_upO, am_upS, am_stS, am_stO, am_tnn, am_brl, am_brg, am_bre, am_brn, am_brG, am_brL, am_st1, am_no2, am_st2, am_clr, and_self, true_and, and_true, true_or, or_true, List.length_cons, List.length_nil] <;> omega) ?_
      try simp (disch := omega) only [s6 hw, r6_11 hw, s7 hw, o1, q8, e1, am_addE, am_subE, am_mulE, am_laddE, am_lsubE, am_upO, am_upS, am_stS, am_stO, am_tnn, am_brl, am_brg, am_bre, am_brn, am_brG, am_brL, am_st1, am_no2, am_st2, am_clr]
      refine am_wp_br (fun b54 => ?_) (fun b54 => ?_)
      · omega
      · refine am_wp_go rfl (by simp (disch := omega) only [s6 hw, r6_11 hw, s7 hw, o1, q8, e1, am_addE, am_subE, am_mulE, am_laddE, am_lsubE, am_upO, am_upS, am_stS, am_stO, am_tnn, am_brl, am_brg, am_bre, am_brn, am_brG, am_brL, am_st1, am_no2, am_st2, am_clr, and_self, true_and, and_true, true_or, or_true, List.length_cons, List.length_nil] <;> omega) ?_
        try simp (disch := omega) only [s6 hw, r6_11 hw, s7 hw, o1, q8, e1, am_addE, am_subE, am_mulE, am_laddE, am_lsubE, am_upO, am_upS, am_stS, am_stO, am_tnn, am_brl, am_brg, am_bre, am_brn, am_brG, am_brL, am_st1, am_no2, am_st2, am_clr]
        refine am_wp_cc rfl rfl rfl (congrArg Prod.fst (s48 hw)) (w_append (g := (((i / 2 : Nat) : Int), ((i % 2 : Nat) : Int), (b : Int), (p : Int), (nd : Int))) (pl_w hw (by decide)) k2 (by omega) g1.1 (by dsimp only; omega) rfl rfl rfl (fun K g2 g3 => ⟨_, rfl, ?_⟩))
        refine am_wp_go rfl (by simp (disch := omega) only [s6 hw, r6_11 hw, s7 hw, o1, q8, e1, am_addE, am_subE, am_mulE, am_laddE, am_lsubE, am_upO, am_upS, am_stS, am_stO, am_tnn, am_brl, am_brg, am_bre, am_brn, am_brG, am_brL, am_st1, am_no2, am_st2, am_clr, and_self, true_and, and_true, true_or, or_true, List.length_cons, List.length_nil] <;> omega) ?_
        try simp (disch := omega) only [s6 hw, r6_11 hw, s7 hw, o1, q8, e1, am_addE, am_subE, am_mulE, am_laddE, am_lsubE, am_upO, am_upS, am_stS, am_stO, am_tnn, am_brl, am_brg, am_bre, am_brn, am_brG, am_brL, am_st1, am_no2, am_st2, am_clr]
        refine am_wp_br (fun b92 => ?_) (fun b92 => ?_)
        · refine am_wp_go rfl (by simp (disch := omega) only [s6 hw, r6_11 hw, s7 hw, o1, q8, e1, am_addE, am_subE, am_mulE, am_laddE, am_lsubE, am_upO, am_upS, am_stS, am_stO, am_tnn, am_brl, am_brg, am_bre, am_brn, am_brG, am_brL, am_st1, am_no2, am_st2, am_clr, and_self, true_and, and_true, true_or, or_true, List.length_cons, List.length_nil] <;> omega) ?_
          try simp (disch := omega) only [s6 hw, r6_11 hw, s7 hw, o1, q8, e1, am_addE, am_subE, am_mulE, am_laddE, am_lsubE, am_upO, am_upS, am_stS, am_stO, am_tnn, am_brl, am_brg, am_bre, am_brn, am_brG, am_brL, am_st1, am_no2, am_st2, am_clr]
          refine am_wp_ls (ih _ _ K (fun a h1 h2 => by rw [g2 a h1 h2, k1 a h1 h2]) g3) rfl
        · omega
    · rw [if_neg hlt] at ih q6 q7
      dsimp only at ih q6 q7
      have e1 : (if (c : Int) - b < (nd : Int) then (c : Int) - b else (nd : Int)) = ((c - b : Nat) : Int) := by split <;> omega
      have g1 := q7 _ (List.mem_append_left _ (List.mem_append_right T (List.mem_singleton_self _)))
      have e2 : (b : Int) + ((c - b : Nat) : Int) = (c : Int) := by omega
      have e3 : (nd : Int) - ((c - b : Nat) : Int) = ((nd - (c - b) : Nat) : Int) := by omega
      have e4 : b + nd - c = nd - (c - b) := by omega
      rw [e4] at ih
      refine am_wp_go rfl (by simp (disch := omega) only [s6 hw, r6_11 hw, s7 hw, o1, q8, e1, e2, e3, am_addE, am_subE, am_mulE, am_laddE, am_lsubE, am_upO, am_upS, am_stS, am_stO, am_tnn, am_brl, am_brg, am_bre, am_brn, am_brG, am_brL, am_st1, am_no2, am_st2, am_clr, and_self, true_and, and_true, true_or, or_true, List.length_cons, List.length_nil] <;> omega) ?_
      try simp (disch := omega) only [s6 hw, r6_11 hw, s7 hw, o1, q8, e1, e2, e3, am_addE, am_subE, am_mulE, am_laddE, am_lsubE, am_upO, am_upS, am_stS, am_stO, am_tnn, am_brl, am_brg, am_bre, am_brn, am_brG, am_brL, am_st1, am_no2, am_st2, am_clr]
      refine am_wp_br (fun b54 => ?_) (fun b54 => ?_)
      · omega
      · refine am_wp_go rfl (by simp (disch := omega) only [s6 hw, r6_11 hw, s7 hw, o1, q8, e1, e2, e3, am_addE, am_subE, am_mulE, am_laddE, am_lsubE, am_upO, am_upS, am_stS, am_stO, am_tnn, am_brl, am_brg, am_bre, am_brn, am_brG, am_brL, am_st1, am_no2, am_st2, am_clr, and_self, true_and, and_true, true_or, or_true, List.length_cons, List.length_nil] <;> omega) ?_
        try simp (disch := omega) only [s6 hw, r6_11 hw, s7 hw, o1, q8, e1, e2, e3, am_addE, am_subE, am_mulE, am_laddE, am_lsubE, am_upO, am_upS, am_stS, am_stO, am_tnn, am_brl, am_brg, am_bre, am_brn, am_brG, am_brL, am_st1, am_no2, am_st2, am_clr]
        refine am_wp_cc rfl rfl rfl (congrArg Prod.fst (s48 hw)) (w_append (g := (((i / 2 : Nat) : Int), ((i % 2 : Nat) : Int), (b : Int), (p : Int), ((c - b : Nat) : Int))) (pl_w hw (by decide)) k2 (by omega) g1.1 (by dsimp only; omega) rfl rfl rfl (fun K g2 g3 => ⟨_, rfl, ?_⟩))
        have q9 : K 7 i = (nd : Int) := by rw [g2 7 (by decide) (by decide)]; exact q8
        have hp4 : (p : Int) < 4 := g1.1.2.2.2.2.2.2.2.1
        refine am_wp_go rfl (by simp (disch := omega) only [s6 hw, r6_11 hw, s7 hw, o1, q8, q9, e1, e2, e3, am_addE, am_subE, am_mulE, am_laddE, am_lsubE, am_upO, am_upS, am_stS, am_stO, am_tnn, am_brl, am_brg, am_bre, am_brn, am_brG, am_brL, am_st1, am_no2, am_st2, am_clr, and_self, true_and, and_true, true_or, or_true, List.length_cons, List.length_nil] <;> omega) ?_
        try simp (disch := omega) only [s6 hw, r6_11 hw, s7 hw, o1, q8, q9, e1, e2, e3, am_addE, am_subE, am_mulE, am_laddE, am_lsubE, am_upO, am_upS, am_stS, am_stO, am_tnn, am_brl, am_brg, am_bre, am_brn, am_brG, am_brL, am_st1, am_no2, am_st2, am_clr]
        refine am_wp_br (fun b92 => ?_) (fun b92 => ?_)
        · exact absurd rfl b92
        · refine am_wp_go rfl (by simp (disch := omega) only [s6 hw, r6_11 hw, s7 hw, o1, q8, q9, e1, e2, e3, am_addE, am_subE, am_mulE, am_laddE, am_lsubE, am_upO, am_upS, am_stS, am_stO, am_tnn, am_brl, am_brg, am_bre, am_brn, am_brG, am_brL, am_st1, am_no2, am_st2, am_clr, and_self, true_and, and_true, true_or, or_true, List.length_cons, List.length_nil] <;> omega) ?_
          try simp (disch := omega) only [s6 hw, r6_11 hw, s7 hw, o1, q8, q9, e1, e2, e3, am_addE, am_subE, am_mulE, am_laddE, am_lsubE, am_upO, am_upS, am_stS, am_stO, am_tnn, am_brl, am_brg, am_bre, am_brn, am_brG, am_brL, am_st1, am_no2, am_st2, am_clr]
          refine am_wp_br (fun b104 => ?_) (fun b104 => ?_)
          · rw [if_neg (by omega), List.append_nil] at ih
            refine am_wp_go rfl (by simp (disch := omega) only [s6 hw, r6_11 hw, s7 hw, o1, q8, q9, e1, e2, e3, am_addE, am_subE, am_mulE, am_laddE, am_lsubE, am_upO, am_upS, am_stS, am_stO, am_tnn, am_brl, am_brg, am_bre, am_brn, am_brG, am_brL, am_st1, am_no2, am_st2, am_clr, and_self, true_and, and_true, true_or, or_true, List.length_cons, List.length_nil] <;> omega) ?_
            try simp (disch := omega) only [s6 hw, r6_11 hw, s7 hw, o1, q8, q9, e1, e2, e3, am_addE, am_subE, am_mulE, am_laddE, am_lsubE, am_upO, am_upS, am_stS, am_stO, am_tnn, am_brl, am_brg, am_bre, am_brn, am_brG, am_brL, am_st1, am_no2, am_st2, am_clr]
            refine am_wp_ls (ih _ _ K (fun a h1 h2 => by rw [g2 a h1 h2, k1 a h1 h2]) g3) rfl
          · rw [if_pos (by omega)] at ih q7
            have g4 := q7 _ (List.mem_append_right _ (List.mem_singleton_self _))
            refine am_wp_go rfl (by simp (disch := omega) only [s6 hw, r6_11 hw, s7 hw, o1, q8, q9, e1, e2, e3, am_addE, am_subE, am_mulE, am_laddE, am_lsubE, am_upO, am_upS, am_stS, am_stO, am_tnn, am_brl, am_brg, am_bre, am_brn, am_brG, am_brL, am_st1, am_no2, am_st2, am_clr, and_self, true_and, and_true, true_or, or_true, List.length_cons, List.length_nil] <;> omega) ?_
            try simp (disch := omega) only [s6 hw, r6_11 hw, s7 hw, o1, q8, q9, e1, e2, e3, am_addE, am_subE, am_mulE, am_laddE, am_lsubE, am_upO, am_upS, am_stS, am_stO, am_tnn, am_brl, am_brg, am_bre, am_brn, am_brG, am_brL, am_st1, am_no2, am_st2, am_clr]
            refine am_wp_cc rfl rfl rfl (congrArg Prod.fst (s48 hw)) (w_append (g := (((i / 2 : Nat) : Int), ((i % 2 : Nat) : Int), 0, ((p + 1 : Nat) : Int), ((nd - (c - b) : Nat) : Int))) (pl_w hw (by decide)) g3 (by rw [List.length_append, List.length_singleton]; omega) g4.1 (by dsimp only; omega) rfl rfl rfl (fun L g5 g6 => ⟨_, rfl, ?_⟩))
            refine am_wp_go rfl (by simp (disch := omega) only [s6 hw, r6_11 hw, s7 hw, o1, q8, q9, e1, e2, e3, am_addE, am_subE, am_mulE, am_laddE, am_lsubE, am_upO, am_upS, am_stS, am_stO, am_tnn, am_brl, am_brg, am_bre, am_brn, am_brG, am_brL, am_st1, am_no2, am_st2, am_clr, and_self, true_and, and_true, true_or, or_true, List.length_cons, List.length_nil] <;> omega) ?_
            try simp (disch := omega) only [s6 hw, r6_11 hw, s7 hw, o1, q8, q9, e1, e2, e3, am_addE, am_subE, am_mulE, am_laddE, am_lsubE, am_upO, am_upS, am_stS, am_stO, am_tnn, am_brl, am_brg, am_bre, am_brn, am_brG, am_brL, am_st1, am_no2, am_st2, am_clr]
            refine am_wp_ls (ih _ _ L (fun a h1 h2 => by rw [g5 a h1 h2, g2 a h1 h2, k1 a h1 h2]) g6) rfl
theorem c_several (hw : wd sh R) (hk : kit I 6 W N) (hp : pl I 14 G) (hh : hsC I H) (h0 : nS W = 0 → Q (am_yi (-1)) (m, sl, sh, I, R)) (h1 : 0 < nS W → ∀ J, cqp I J → pl J 14 (sevG W) → hsC J (hpush H G) → Q (am_yi (cutW W)) (m, sl, sh, J, R)) : am_wp (d + 3) 159 0 [some (.inr (.inr (4))), none] [] (m, sl, sh, I, R) Q := by
  have n1 := wk_nS hk.1
  have o1 : I 6 6 = (nS W : Int) := by rw [hk.2.1.2.2.2.2.2.1]; exact n1.1
  refine am_wp_go rfl (by simp (disch := omega) only [s4 hw, r4_0 hw, s5 hw, r5_0 hw, s6 hw, r4_9 hw, r4_4 hw, o1, am_addE, am_subE, am_mulE, am_laddE, am_lsubE, am_upO, am_upS, am_stS, am_stO, am_tnn, am_brl, am_brg, am_bre, am_brn, am_brG, am_brL, am_st1, am_no2, am_st2, am_clr, and_self, true_and, and_true, true_or, or_true, List.length_cons, List.length_nil] <;> omega) ?_
  try simp (disch := omega) only [s4 hw, r4_0 hw, s5 hw, r5_0 hw, s6 hw, r4_9 hw, r4_4 hw, o1, am_addE, am_subE, am_mulE, am_laddE, am_lsubE, am_upO, am_upS, am_stS, am_stO, am_tnn, am_brl, am_brg, am_bre, am_brn, am_brG, am_brL, am_st1, am_no2, am_st2, am_clr]
  refine am_wp_br (fun b10 => ?_) (fun b10 => ?_)
  · refine am_wp_go rfl (by simp (disch := omega) only [s4 hw, r4_0 hw, s5 hw, r5_0 hw, s6 hw, r4_9 hw, r4_4 hw, o1, am_addE, am_subE, am_mulE, am_laddE, am_lsubE, am_upO, am_upS, am_stS, am_stO, am_tnn, am_brl, am_brg, am_bre, am_brn, am_brG, am_brL, am_st1, am_no2, am_st2, am_clr, and_self, true_and, and_true, true_or, or_true, List.length_cons, List.length_nil] <;> omega) ?_
    try simp (disch := omega) only [s4 hw, r4_0 hw, s5 hw, r5_0 hw, s6 hw, r4_9 hw, r4_4 hw, o1, am_addE, am_subE, am_mulE, am_laddE, am_lsubE, am_upO, am_upS, am_stS, am_stO, am_tnn, am_brl, am_brg, am_bre, am_brn, am_brG, am_brL, am_st1, am_no2, am_st2, am_clr]
    refine am_wp_cc rfl rfl rfl (congrArg Prod.fst (s73 hw)) (w_cutRow hw hk (by omega) (fun J j1 j2 => ⟨_, rfl, ?_⟩))
    refine am_wp_go rfl (by simp (disch := omega) only [s4 hw, r4_0 hw, s5 hw, r5_0 hw, s6 hw, r4_9 hw, r4_4 hw, o1, am_addE, am_subE, am_mulE, am_laddE, am_lsubE, am_upO, am_upS, am_stS, am_stO, am_tnn, am_brl, am_brg, am_bre, am_brn, am_brG, am_brL, am_st1, am_no2, am_st2, am_clr, and_self, true_and, and_true, true_or, or_true, List.length_cons, List.length_nil] <;> omega) ?_
    try simp (disch := omega) only [s4 hw, r4_0 hw, s5 hw, r5_0 hw, s6 hw, r4_9 hw, r4_4 hw, o1, am_addE, am_subE, am_mulE, am_laddE, am_lsubE, am_upO, am_upS, am_stS, am_stO, am_tnn, am_brl, am_brg, am_bre, am_brn, am_brG, am_brL, am_st1, am_no2, am_st2, am_clr]
    refine am_wp_cc rfl rfl rfl (congrArg Prod.fst (s4 hw)) (w_adopt hw (pl_fr hp (j1 14 (by decide) (by decide)) (j1 15 (by decide) (by decide))) j2 (hsC_fr hh (fun a ha => j1 a (by omega) (by omega))) (fun K k1 k2 k3 => ⟨_, rfl, ?_⟩))
    refine am_wp_go rfl (by simp (disch := omega) only [s4 hw, r4_0 hw, s5 hw, r5_0 hw, s6 hw, r4_9 hw, r4_4 hw, o1, am_addE, am_subE, am_mulE, am_laddE, am_lsubE, am_upO, am_upS, am_stS, am_stO, am_tnn, am_brl, am_brg, am_bre, am_brn, am_brG, am_brL, am_st1, am_no2, am_st2, am_clr, and_self, true_and, and_true, true_or, or_true, List.length_cons, List.length_nil] <;> omega) ?_
    try simp (disch := omega) only [s4 hw, r4_0 hw, s5 hw, r5_0 hw, s6 hw, r4_9 hw, r4_4 hw, o1, am_addE, am_subE, am_mulE, am_laddE, am_lsubE, am_upO, am_upS, am_stS, am_stO, am_tnn, am_brl, am_brg, am_bre, am_brn, am_brG, am_brL, am_st1, am_no2, am_st2, am_clr]
    refine am_wp_ret rfl rfl ?_
    exact h1 (by omega) K (cqp_of (fun a ha => by rw [k1 a (by omega), j1 a (by omega) (by omega)])) k2 k3
  · refine am_wp_go rfl (by simp (disch := omega) only [s4 hw, r4_0 hw, s5 hw, r5_0 hw, s6 hw, r4_9 hw, r4_4 hw, o1, am_addE, am_subE, am_mulE, am_laddE, am_lsubE, am_upO, am_upS, am_stS, am_stO, am_tnn, am_brl, am_brg, am_bre, am_brn, am_brG, am_brL, am_st1, am_no2, am_st2, am_clr, and_self, true_and, and_true, true_or, or_true, List.length_cons, List.length_nil] <;> omega) ?_
    try simp (disch := omega) only [s4 hw, r4_0 hw, s5 hw, r5_0 hw, s6 hw, r4_9 hw, r4_4 hw, o1, am_addE, am_subE, am_mulE, am_laddE, am_lsubE, am_upO, am_upS, am_stS, am_stO, am_tnn, am_brl, am_brg, am_bre, am_brn, am_brG, am_brL, am_st1, am_no2, am_st2, am_clr]
    refine am_wp_ret rfl rfl ?_
    exact h0 (by omega)
theorem r_several (hw : wd sh R) (hb : beg I) (hk : wk (lw I)) (hr : rf (pw (lw I)) G) (hg : gok G) (hH : H.length ≤ 8) (hG : ∀ j, j < H.length → (H.getD j []).length ≤ 400) (hh : hsR I H) (h0 : nS (lw I) = 0 → ∀ J, rq I J → Q (am_yi (-1)) (m, sl, sh, J, R)) (h1 : 0 < nS (lw I) → ∀ J, rqp I J → rf (pw (J 126)) (sevG (lw I)) → hsR J (hpush H G) → Q (am_yi (cutW (lw I))) (m, sl, sh, J, R)) : am_wp (d + 3) 263 0 [some (.inr (.inr (124))), none, none, none, none, none, none] [] (m, sl, sh, I, R) Q := by
  refine am_wp_go rfl (by simp (disch := omega) only [s124 hw, r124_14 hw, s126 hw, Int.reduceToNat, am_addE, am_subE, am_mulE, am_laddE, am_lsubE, am_upO, am_upS, am_stS, am_stO, am_tnn, am_brl, am_brg, am_bre, am_brn, am_brG, am_brL, am_st1, am_no2, am_st2, am_clr, and_self, true_and, and_true, true_or, or_true, List.length_cons, List.length_nil] <;> omega) ?_
  have q0 := rq_thrown (I := I) (x := 0)
  generalize am_up I 124 0 0 = I0 at q0 ⊢
  refine am_wp_cc rfl rfl rfl (congrArg Prod.fst (s124 hw)) (w_M_lay hw (beg_rq q0 hb) (fun J j1 j2 j3 j4 => ⟨_, rfl, ?_⟩))
  have q1 := rq_trans q0 (rq_lay j1 j2 j3 j4)
  rw [rq_lw q0] at j4
  clear j1 j2
  rw [← j4] at hk hr h0 h1
  have hh := hsR_rq hh q1
  have n1 := wk_nS hk
  obtain ⟨⟨w0⟩, -⟩ := id hk
  refine am_wp_go rfl (by simp (disch := omega) only [s124 hw, r124_14 hw, s126 hw, Int.reduceToNat, am_addE, am_subE, am_mulE, am_laddE, am_lsubE, am_upO, am_upS, am_stS, am_stO, am_tnn, am_brl, am_brg, am_bre, am_brn, am_brG, am_brL, am_st1, am_no2, am_st2, am_clr, and_self, true_and, and_true, true_or, or_true, List.length_cons, List.length_nil] <;> omega) ?_
  try simp (disch := omega) only [s124 hw, r124_14 hw, s126 hw, Int.reduceToNat, am_addE, am_subE, am_mulE, am_laddE, am_lsubE, am_upO, am_upS, am_stS, am_stO, am_tnn, am_brl, am_brg, am_bre, am_brn, am_brG, am_brL, am_st1, am_no2, am_st2, am_clr]
  refine am_wp_cc rfl rfl rfl (congrArg Prod.fst (s124 hw)) (w_M_slicesN hw (wk_w hk) ⟨_, rfl, ?_⟩)
  refine am_wp_go rfl (by simp (disch := omega) only [s124 hw, r124_14 hw, s126 hw, Int.reduceToNat, am_addE, am_subE, am_mulE, am_laddE, am_lsubE, am_upO, am_upS, am_stS, am_stO, am_tnn, am_brl, am_brg, am_bre, am_brn, am_brG, am_brL, am_st1, am_no2, am_st2, am_clr, and_self, true_and, and_true, true_or, or_true, List.length_cons, List.length_nil] <;> omega) ?_
  try simp (disch := omega) only [s124 hw, r124_14 hw, s126 hw, Int.reduceToNat, am_addE, am_subE, am_mulE, am_laddE, am_lsubE, am_upO, am_upS, am_stS, am_stO, am_tnn, am_brl, am_brg, am_bre, am_brn, am_brG, am_brL, am_st1, am_no2, am_st2, am_clr]
  refine am_wp_br (fun b13 => ?_) (fun b13 => ?_)
  · have h := h1 (by omega)
    clear h0 h1
    obtain ⟨c1, c2, c3, c4, c5⟩ := cut_ok hk (by omega)
    have hok := sv_ok (n := 2 * nS (J 126)) (fun i hi => ⟨(c4 i hi).1, (c4 i hi).2.1⟩) (show 0 < cutN (J 126) by omega)
    have hgo := sv_go (s := nS (J 126)) (pl := (J 126 0).toNat) c4 (by omega) (by omega) (Nat.le_refl _) n1.2 c5 (by omega)
    have t0 := totW_le hk (u := 0) (by decide)
    have t1 := totW_le hk (u := 1) (by decide)
    have t2 := allW_eq (W := J 126)
    refine am_wp_go rfl (by simp (disch := omega) only [s124 hw, r124_14 hw, s126 hw, Int.reduceToNat, am_addE, am_subE, am_mulE, am_laddE, am_lsubE, am_upO, am_upS, am_stS, am_stO, am_tnn, am_brl, am_brg, am_bre, am_brn, am_brG, am_brL, am_st1, am_no2, am_st2, am_clr, and_self, true_and, and_true, true_or, or_true, List.length_cons, List.length_nil] <;> omega) ?_
    try simp (disch := omega) only [s124 hw, r124_14 hw, s126 hw, Int.reduceToNat, am_addE, am_subE, am_mulE, am_laddE, am_lsubE, am_upO, am_upS, am_stS, am_stO, am_tnn, am_brl, am_brg, am_bre, am_brn, am_brG, am_brL, am_st1, am_no2, am_st2, am_clr]
    refine am_wp_cc rfl rfl rfl (congrArg Prod.fst (s124 hw)) (w_M_snap hw hr hg.1 hH hG hh (fun K k1 k2 k3 => ⟨_, rfl, ?_⟩))
    have e126 : K 126 = J 126 := k1 126 (by decide) (by decide)
    refine am_wp_go rfl (by simp (disch := omega) only [s124 hw, r124_14 hw, s126 hw, Int.reduceToNat, am_addE, am_subE, am_mulE, am_laddE, am_lsubE, am_upO, am_upS, am_stS, am_stO, am_tnn, am_brl, am_brg, am_bre, am_brn, am_brG, am_brL, am_st1, am_no2, am_st2, am_clr, and_self, true_and, and_true, true_or, or_true, List.length_cons, List.length_nil] <;> omega) ?_
    try simp (disch := omega) only [s124 hw, r124_14 hw, s126 hw, Int.reduceToNat, am_addE, am_subE, am_mulE, am_laddE, am_lsubE, am_upO, am_upS, am_stS, am_stO, am_tnn, am_brl, am_brg, am_bre, am_brn, am_brG, am_brL, am_st1, am_no2, am_st2, am_clr]
    -- the row with no GOES
    have z1 : ∀ j, j ≠ 58 → am_up K 126 58 0 126 j = J 126 j := fun j hj => by rw [am_upS, am_stO hj, e126]
    have z2 : ∀ a, a ≠ 126 → am_up K 126 58 0 a = K a := fun a ha => am_upO ha
    have z3 : rf (pw (am_up K 126 58 0 126)) [] := ⟨by unfold pw; rw [am_upS, am_stS rfl]; rfl, fun k hk => absurd hk (Nat.not_lt_zero k)⟩
    generalize am_up K 126 58 0 = L at z1 z2 z3 ⊢
    have wkL : ∀ V : Nat → Nat → Int, (∀ j, j < 58 → V 126 j = J 126 j) → wk (V 126) ∧ nS (V 126) = nS (J 126) := fun V hv => ⟨wk_row hk hv, (nS_row hv).1⟩
    have z4 : ∀ j, j < 58 → L 126 j = J 126 j := fun j hj => z1 j (by omega)
    obtain ⟨kL, nL⟩ := wkL L z4
    have eL1 : lonW (L 126) = lonW (J 126) := by unfold lonW; rw [nL]; exact am_fmax_cg (fun s hs => by rw [z4 _ (by omega), z4 _ (by omega)])
    have eL2 : allW (L 126) = allW (J 126) := by unfold allW; rw [nL]; exact am_fsum_cg (fun s hs => by rw [z4 _ (by omega), z4 _ (by omega)])
    have eL3 : L 126 0 = J 126 0 := z4 0 (by decide)
    refine am_wp_cc rfl rfl rfl (congrArg Prod.fst (s124 hw)) (w_M_longest hw kL ⟨_, rfl, ?_⟩)
    refine am_wp_go rfl (by simp (disch := omega) only [s124 hw, r124_14 hw, s126 hw, Int.reduceToNat, am_addE, am_subE, am_mulE, am_laddE, am_lsubE, am_upO, am_upS, am_stS, am_stO, am_tnn, am_brl, am_brg, am_bre, am_brn, am_brG, am_brL, am_st1, am_no2, am_st2, am_clr, and_self, true_and, and_true, true_or, or_true, List.length_cons, List.length_nil] <;> omega) ?_
    try simp (disch := omega) only [s124 hw, r124_14 hw, s126 hw, Int.reduceToNat, am_addE, am_subE, am_mulE, am_laddE, am_lsubE, am_upO, am_upS, am_stS, am_stO, am_tnn, am_brl, am_brg, am_bre, am_brn, am_brG, am_brL, am_st1, am_no2, am_st2, am_clr]
    refine am_wp_cc rfl rfl rfl (congrArg Prod.fst (s124 hw)) (w_M_allMinutes hw kL ⟨_, rfl, ?_⟩)
    rw [eL1, eL2]
    refine am_wp_go rfl (by simp (disch := omega) only [s124 hw, r124_14 hw, s126 hw, eL3, Int.reduceToNat, am_addE, am_subE, am_mulE, am_laddE, am_lsubE, am_upO, am_upS, am_stS, am_stO, am_tnn, am_brl, am_brg, am_bre, am_brn, am_brG, am_brL, am_st1, am_no2, am_st2, am_clr, and_self, true_and, and_true, true_or, or_true, List.length_cons, List.length_nil] <;> omega) ?_
    try simp (disch := omega) only [s124 hw, r124_14 hw, s126 hw, eL3, Int.reduceToNat, am_addE, am_subE, am_mulE, am_laddE, am_lsubE, am_upO, am_upS, am_stS, am_stO, am_tnn, am_brl, am_brg, am_bre, am_brn, am_brG, am_brL, am_st1, am_no2, am_st2, am_clr]
    refine am_wp_cc rfl rfl rfl (trivial) (w_M_up (by omega) (by omega) (by omega) (by omega) ⟨_, rfl, ?_⟩)
    refine am_wp_cc rfl rfl rfl (trivial) (w_M_most ⟨_, rfl, ?_⟩)
    have e0 : (if lonW (J 126) < (allW (J 126) + J 126 0 - 1) / J 126 0 then (allW (J 126) + J 126 0 - 1) / J 126 0 else lonW (J 126)) = (cutN (J 126) : Int) := by
      rw [← c1, allW_eq]; rfl
    rw [e0]
    rw [c1] at h
    refine am_wp_go rfl (by simp (disch := omega) only [s124 hw, r124_14 hw, s126 hw, eL3, Int.reduceToNat, am_addE, am_subE, am_mulE, am_laddE, am_lsubE, am_upO, am_upS, am_stS, am_stO, am_tnn, am_brl, am_brg, am_bre, am_brn, am_brG, am_brL, am_st1, am_no2, am_st2, am_clr, and_self, true_and, and_true, true_or, or_true, List.length_cons, List.length_nil] <;> omega) ?_
    try simp (disch := omega) only [s124 hw, r124_14 hw, s126 hw, eL3, Int.reduceToNat, am_addE, am_subE, am_mulE, am_laddE, am_lsubE, am_upO, am_upS, am_stS, am_stO, am_tnn, am_brl, am_brg, am_bre, am_brn, am_brG, am_brL, am_st1, am_no2, am_st2, am_clr]
    refine am_lp0 (P := fun i => ∀ (z4 z5 z6 : Option am_V) (V : Nat → Nat → Int), (∀ a, a ≠ 126 → V a = K a) → (∀ j, (j < 58 ∨ 2059 ≤ j) → V 126 j = J 126 j) → rf (pw (V 126)) (sv (ndW (J 126)) (cutN (J 126)) i).2.2 → am_wp (d + 3) 263 55 [some (.inr (.inr (124))), some (.inl ((cutN (J 126) : Int))), some (.inl ((preS (ndW (J 126)) i : Int))), some (.inl ((i : Int))), z4, z5, z6] [] (m, sl, sh, V, R) Q) (2 * nS (J 126)) (fun i hi ih y4 y5 y6 V v1 v2 v3 => ?_) none none none L z2 (fun j hj => z1 j (by omega)) z3
    obtain ⟨kV, nV⟩ := wkL V (fun j hj => v2 j (by omega))
    refine am_wp_go rfl (by simp (disch := omega) only [s124 hw, r124_14 hw, s126 hw, eL3, Int.reduceToNat, am_addE, am_subE, am_mulE, am_laddE, am_lsubE, am_upO, am_upS, am_stS, am_stO, am_tnn, am_brl, am_brg, am_bre, am_brn, am_brG, am_brL, am_st1, am_no2, am_st2, am_clr, and_self, true_and, and_true, true_or, or_true, List.length_cons, List.length_nil] <;> omega) ?_
    try simp (disch := omega) only [s124 hw, r124_14 hw, s126 hw, eL3, Int.reduceToNat, am_addE, am_subE, am_mulE, am_laddE, am_lsubE, am_upO, am_upS, am_stS, am_stO, am_tnn, am_brl, am_brg, am_bre, am_brn, am_brG, am_brL, am_st1, am_no2, am_st2, am_clr]
    refine am_wp_cc rfl rfl rfl (congrArg Prod.fst (s124 hw)) (w_M_slicesN hw (wk_w kV) ⟨_, rfl, ?_⟩)
    rw [nV]
    refine am_wp_go rfl (by simp (disch := omega) only [s124 hw, r124_14 hw, s126 hw, eL3, Int.reduceToNat, am_addE, am_subE, am_mulE, am_laddE, am_lsubE, am_upO, am_upS, am_stS, am_stO, am_tnn, am_brl, am_brg, am_bre, am_brn, am_brG, am_brL, am_st1, am_no2, am_st2, am_clr, and_self, true_and, and_true, true_or, or_true, List.length_cons, List.length_nil] <;> omega) ?_
    try simp (disch := omega) only [s124 hw, r124_14 hw, s126 hw, eL3, Int.reduceToNat, am_addE, am_subE, am_mulE, am_laddE, am_lsubE, am_upO, am_upS, am_stS, am_stO, am_tnn, am_brl, am_brg, am_bre, am_brn, am_brG, am_brL, am_st1, am_no2, am_st2, am_clr]
    refine am_wp_br (fun b62 => ?_) (fun b62 => ?_)
    · have hi0 : i = 2 * nS (J 126) := by omega
      subst hi0
      refine am_wp_go rfl (by simp (disch := omega) only [s124 hw, r124_14 hw, s126 hw, eL3, Int.reduceToNat, am_addE, am_subE, am_mulE, am_laddE, am_lsubE, am_upO, am_upS, am_stS, am_stO, am_tnn, am_brl, am_brg, am_bre, am_brn, am_brG, am_brL, am_st1, am_no2, am_st2, am_clr, and_self, true_and, and_true, true_or, or_true, List.length_cons, List.length_nil] <;> omega) ?_
      try simp (disch := omega) only [s124 hw, r124_14 hw, s126 hw, eL3, Int.reduceToNat, am_addE, am_subE, am_mulE, am_laddE, am_lsubE, am_upO, am_upS, am_stS, am_stO, am_tnn, am_brl, am_brg, am_bre, am_brn, am_brG, am_brL, am_st1, am_no2, am_st2, am_clr]
      refine am_wp_ret rfl rfl ?_
      exact h V (rqp_of q1 j3 j4 (fun a ha => by rw [v1 a (by omega), k1 a (by omega) (by omega)]) (fun j h2 _ _ _ => by rw [v1 124 (by decide), k2 j h2]) (fun j hj => by rw [v2 j hj])) v3 (hsR_fr k3 (by rw [v1 124 (by decide)]) (v1 129 (by decide)))
    · have q1 := c4 i (by omega)
      obtain ⟨q2, q3⟩ := hok i (by omega)
      obtain ⟨q4, q5⟩ := hgo i (by omega)
      obtain ⟨q6, q7⟩ := hgo (i + 1) (by omega)
      have ih := ih (by omega)
      have e1 : (i : Int) / 2 = ((i / 2 : Nat) : Int) := by omega
      have e2 : (i : Int) % 2 = ((i % 2 : Nat) : Int) := by omega
      have e3 : V 126 (8 + 3 * (i / 2) + i % 2) = (ndW (J 126) i : Int) := by
        rw [v2 _ (by omega)]
        have := wkS_at hk.2.1 (s := i / 2) (u := i % 2) (by omega) (by omega)
        unfold ndW
        omega
      refine am_wp_go rfl (by simp (disch := omega) only [s124 hw, r124_14 hw, s126 hw, eL3, am_divE, am_remE, e1, e2, am_addE, am_subE, am_mulE, am_laddE, am_lsubE, am_upO, am_upS, am_stS, am_stO, am_tnn, am_brl, am_brg, am_bre, am_brn, am_brG, am_brL, am_st1, am_no2, am_st2, am_clr, and_self, true_and, and_true, true_or, or_true, List.length_cons, List.length_nil] <;> omega) ?_
      try simp (disch := omega) only [s124 hw, r124_14 hw, s126 hw, eL3, am_divE, am_remE, e1, e2, am_addE, am_subE, am_mulE, am_laddE, am_lsubE, am_upO, am_upS, am_stS, am_stO, am_tnn, am_brl, am_brg, am_bre, am_brn, am_brG, am_brL, am_st1, am_no2, am_st2, am_clr]
      refine am_wp_cc rfl rfl rfl (congrArg Prod.fst (s124 hw)) (w_M_needs hw (by omega) (by omega) ⟨_, rfl, ?_⟩)
      rw [e3]
      refine am_wp_go rfl (by simp (disch := omega) only [s124 hw, r124_14 hw, s126 hw, eL3, am_divE, am_remE, e1, e2, am_addE, am_subE, am_mulE, am_laddE, am_lsubE, am_upO, am_upS, am_stS, am_stO, am_tnn, am_brl, am_brg, am_bre, am_brn, am_brG, am_brL, am_st1, am_no2, am_st2, am_clr, and_self, true_and, and_true, true_or, or_true, List.length_cons, List.length_nil] <;> omega) ?_
      try simp (disch := omega) only [s124 hw, r124_14 hw, s126 hw, eL3, am_divE, am_remE, e1, e2, am_addE, am_subE, am_mulE, am_laddE, am_lsubE, am_upO, am_upS, am_stS, am_stO, am_tnn, am_brl, am_brg, am_bre, am_brn, am_brG, am_brL, am_st1, am_no2, am_st2, am_clr]
      -- behind the last piece
      have EX : ∀ (y5 y6 : Option am_V) (U : Nat → Nat → Int), (∀ a, a ≠ 126 → U a = K a) → (∀ j, (j < 58 ∨ 2059 ≤ j) → U 126 j = J 126 j) → rf (pw (U 126)) (sv (ndW (J 126)) (cutN (J 126)) (i + 1)).2.2 → am_wp (d + 3) 263 77 [some (.inr (.inr (124))), some (.inl ((cutN (J 126) : Int))), some (.inl ((preS (ndW (J 126)) (i + 1) : Int))), some (.inl ((i : Int))), some (.inl (0)), y5, y6] [] (m, sl, sh, U, R) Q := by
        intro y5 y6 U u1 u2 u3
        refine am_wp_go rfl (by simp (disch := omega) only [s124 hw, r124_14 hw, s126 hw, eL3, am_addE, am_subE, am_mulE, am_laddE, am_lsubE, am_upO, am_upS, am_stS, am_stO, am_tnn, am_brl, am_brg, am_bre, am_brn, am_brG, am_brL, am_st1, am_no2, am_st2, am_clr, and_self, true_and, and_true, true_or, or_true, List.length_cons, List.length_nil] <;> omega) ?_
        refine am_wp_pc (pc' := 138) rfl ?_
        refine am_wp_go rfl (by simp (disch := omega) only [s124 hw, r124_14 hw, s126 hw, eL3, am_addE, am_subE, am_mulE, am_laddE, am_lsubE, am_upO, am_upS, am_stS, am_stO, am_tnn, am_brl, am_brg, am_bre, am_brn, am_brG, am_brL, am_st1, am_no2, am_st2, am_clr, and_self, true_and, and_true, true_or, or_true, List.length_cons, List.length_nil] <;> omega) ?_
        try simp (disch := omega) only [s124 hw, r124_14 hw, s126 hw, eL3, am_addE, am_subE, am_mulE, am_laddE, am_lsubE, am_upO, am_upS, am_stS, am_stO, am_tnn, am_brl, am_brg, am_bre, am_brn, am_brG, am_brL, am_st1, am_no2, am_st2, am_clr]
        exact am_wp_ls (ih _ _ _ U u1 u2 u3) rfl
      clear ih
      have e5 : preS (ndW (J 126)) (i + 1) = preS (ndW (J 126)) i + ndW (J 126) i := rfl
      rw [e5] at EX
      unfold sv at EX q6 q7
      obtain ⟨m1, m2⟩ := ax_dm q3 q2
      have m0 : preS (ndW (J 126)) i ≤ 320 := by
        have a1 := preS_mono (nd := ndW (J 126)) i (2 * nS (J 126)) (by omega)
        have a2 := preS_fsum hk (nS (J 126)) (Nat.le_refl _)
        have a3 : am_fsum (fun s => J 126 (8 + 3 * s) + J 126 (8 + 3 * s + 1)) (nS (J 126)) = totW (J 126) 0 + totW (J 126) 1 := allW_eq
        omega
      generalize sv (ndW (J 126)) (cutN (J 126)) i = S at *
      obtain ⟨p, b, T⟩ := S
      dsimp only at *
      generalize preS (ndW (J 126)) i = row at *
      generalize ndW (J 126) i = nd at *
      generalize cutN (J 126) = c at *
      have r1 : (row : Int) % (c : Int) = (b : Int) := by rw [← m1]; simp
      have r2 : (row : Int) / (c : Int) = (p : Int) := by rw [← m2]; simp
      by_cases hlt : b + nd < c
      · rw [if_pos hlt] at EX q6 q7
        dsimp only at EX q6 q7
        have e6 : (nd : Int) - (nd : Int) = 0 := by omega
        refine am_wp_go rfl (by simp (disch := omega) only [s124 hw, r124_14 hw, s126 hw, eL3, am_divE, am_remE, e1, e2, r1, r2, e6, am_addE, am_subE, am_mulE, am_laddE, am_lsubE, am_upO, am_upS, am_stS, am_stO, am_tnn, am_brl, am_brg, am_bre, am_brn, am_brG, am_brL, am_st1, am_no2, am_st2, am_clr, and_self, true_and, and_true, true_or, or_true, List.length_cons, List.length_nil] <;> omega) ?_
        try simp (disch := omega) only [s124 hw, r124_14 hw, s126 hw, eL3, am_divE, am_remE, e1, e2, r1, r2, e6, am_addE, am_subE, am_mulE, am_laddE, am_lsubE, am_upO, am_upS, am_stS, am_stO, am_tnn, am_brl, am_brg, am_bre, am_brn, am_brG, am_brL, am_st1, am_no2, am_st2, am_clr]
        refine am_wp_br (fun b79 => ?_) (fun b79 => ?_)
        · omega
        · refine am_wp_go rfl (by simp (disch := omega) only [s124 hw, r124_14 hw, s126 hw, eL3, am_divE, am_remE, e1, e2, r1, r2, e6, am_addE, am_subE, am_mulE, am_laddE, am_lsubE, am_upO, am_upS, am_stS, am_stO, am_tnn, am_brl, am_brg, am_bre, am_brn, am_brG, am_brL, am_st1, am_no2, am_st2, am_clr, and_self, true_and, and_true, true_or, or_true, List.length_cons, List.length_nil] <;> omega) ?_
          try simp (disch := omega) only [s124 hw, r124_14 hw, s126 hw, eL3, am_divE, am_remE, e1, e2, r1, r2, e6, am_addE, am_subE, am_mulE, am_laddE, am_lsubE, am_upO, am_upS, am_stS, am_stO, am_tnn, am_brl, am_brg, am_bre, am_brn, am_brG, am_brL, am_st1, am_no2, am_st2, am_clr]
          refine am_wp_br (fun b93 => ?_) (fun b93 => ?_)
          · omega
          · refine am_wp_go rfl (by simp (disch := omega) only [s124 hw, r124_14 hw, s126 hw, eL3, am_divE, am_remE, e1, e2, r1, r2, e6, am_addE, am_subE, am_mulE, am_laddE, am_lsubE, am_upO, am_upS, am_stS, am_stO, am_tnn, am_brl, am_brg, am_bre, am_brn, am_brG, am_brL, am_st1, am_no2, am_st2, am_clr, and_self, true_and, and_true, true_or, or_true, List.length_cons, List.length_nil] <;> omega) ?_
            try simp (disch := omega) only [s124 hw, r124_14 hw, s126 hw, eL3, am_divE, am_remE, e1, e2, r1, r2, e6, am_addE, am_subE, am_mulE, am_laddE, am_lsubE, am_upO, am_upS, am_stS, am_stO, am_tnn, am_brl, am_brg, am_bre, am_brn, am_brG, am_brL, am_st1, am_no2, am_st2, am_clr]
            refine am_wp_cc rfl rfl rfl (congrArg Prod.fst (s124 hw)) (w_M_lays (g := (((i / 2 : Nat) : Int), ((i % 2 : Nat) : Int), (b : Int), (p : Int), (nd : Int))) hw v3 (by omega) rfl rfl rfl rfl rfl (fun U u1 u2 u3 => ⟨_, rfl, ?_⟩))
            refine am_wp_go rfl (by simp (disch := omega) only [s124 hw, r124_14 hw, s126 hw, eL3, am_divE, am_remE, e1, e2, r1, r2, e6, am_addE, am_subE, am_mulE, am_laddE, am_lsubE, am_upO, am_upS, am_stS, am_stO, am_tnn, am_brl, am_brg, am_bre, am_brn, am_brG, am_brL, am_st1, am_no2, am_st2, am_clr, and_self, true_and, and_true, true_or, or_true, List.length_cons, List.length_nil] <;> omega) ?_
            try simp (disch := omega) only [s124 hw, r124_14 hw, s126 hw, eL3, am_divE, am_remE, e1, e2, r1, r2, e6, am_addE, am_subE, am_mulE, am_laddE, am_lsubE, am_upO, am_upS, am_stS, am_stO, am_tnn, am_brl, am_brg, am_bre, am_brn, am_brG, am_brL, am_st1, am_no2, am_st2, am_clr]
            exact am_wp_ls (EX _ _ U (fun a ha => by rw [u1 a ha, v1 a ha]) (fun j hj => by rw [u2 j hj, v2 j hj]) u3) rfl
      · rw [if_neg hlt] at EX q6 q7
        dsimp only at EX q6 q7
        have e6 : (c : Int) - (b : Int) = ((c - b : Nat) : Int) := by omega
        have e7 : (row : Int) + ((c - b : Nat) : Int) = ((c * (p + 1) : Nat) : Int) := by rw [Nat.mul_add, Nat.mul_one]; omega
        have hcp : c * (p + 1) ≤ 700 := by rw [Nat.mul_add, Nat.mul_one]; omega
        refine am_wp_go rfl (by simp (disch := omega) only [s124 hw, r124_14 hw, s126 hw, eL3, am_divE, am_remE, e1, e2, r1, r2, e6, e7, am_addE, am_subE, am_mulE, am_laddE, am_lsubE, am_upO, am_upS, am_stS, am_stO, am_tnn, am_brl, am_brg, am_bre, am_brn, am_brG, am_brL, am_st1, am_no2, am_st2, am_clr, and_self, true_and, and_true, true_or, or_true, List.length_cons, List.length_nil] <;> omega) ?_
        try simp (disch := omega) only [s124 hw, r124_14 hw, s126 hw, eL3, am_divE, am_remE, e1, e2, r1, r2, e6, e7, am_addE, am_subE, am_mulE, am_laddE, am_lsubE, am_upO, am_upS, am_stS, am_stO, am_tnn, am_brl, am_brg, am_bre, am_brn, am_brG, am_brL, am_st1, am_no2, am_st2, am_clr]
        refine am_wp_br (fun b79 => ?_) (fun b79 => ?_)
        · omega
        · refine am_wp_go rfl (by simp (disch := omega) only [s124 hw, r124_14 hw, s126 hw, eL3, am_divE, am_remE, e1, e2, r1, r2, e6, e7, am_addE, am_subE, am_mulE, am_laddE, am_lsubE, am_upO, am_upS, am_stS, am_stO, am_tnn, am_brl, am_brg, am_bre, am_brn, am_brG, am_brL, am_st1, am_no2, am_st2, am_clr, and_self, true_and, and_true, true_or, or_true, List.length_cons, List.length_nil] <;> omega) ?_
          try simp (disch := omega) only [s124 hw, r124_14 hw, s126 hw, eL3, am_divE, am_remE, e1, e2, r1, r2, e6, e7, am_addE, am_subE, am_mulE, am_laddE, am_lsubE, am_upO, am_upS, am_stS, am_stO, am_tnn, am_brl, am_brg, am_bre, am_brn, am_brG, am_brL, am_st1, am_no2, am_st2, am_clr]
          refine am_wp_br (fun b93 => ?_) (fun b93 => ?_)
          · refine am_wp_go rfl (by simp (disch := omega) only [s124 hw, r124_14 hw, s126 hw, eL3, am_divE, am_remE, e1, e2, r1, r2, e6, e7, am_addE, am_subE, am_mulE, am_laddE, am_lsubE, am_upO, am_upS, am_stS, am_stO, am_tnn, am_brl, am_brg, am_bre, am_brn, am_brG, am_brL, am_st1, am_no2, am_st2, am_clr, and_self, true_and, and_true, true_or, or_true, List.length_cons, List.length_nil] <;> omega) ?_
            try simp (disch := omega) only [s124 hw, r124_14 hw, s126 hw, eL3, am_divE, am_remE, e1, e2, r1, r2, e6, e7, am_addE, am_subE, am_mulE, am_laddE, am_lsubE, am_upO, am_upS, am_stS, am_stO, am_tnn, am_brl, am_brg, am_bre, am_brn, am_brG, am_brL, am_st1, am_no2, am_st2, am_clr]
            refine am_wp_cc rfl rfl rfl (congrArg Prod.fst (s124 hw)) (w_M_lays (g := (((i / 2 : Nat) : Int), ((i % 2 : Nat) : Int), (b : Int), (p : Int), ((c - b : Nat) : Int))) hw v3 (by omega) rfl rfl rfl rfl rfl (fun U u1 u2 u3 => ⟨_, rfl, ?_⟩))
            by_cases hov : c - b < nd
            · rw [if_pos hov] at EX q6
              have s1 : ((c * (p + 1) : Nat) : Int) % (c : Int) = 0 := by rw [Int.natCast_mul]; exact Int.mul_emod_right _ _
              have s2 : ((c * (p + 1) : Nat) : Int) / (c : Int) = ((p + 1 : Nat) : Int) := by rw [Int.natCast_mul]; exact Int.mul_ediv_cancel_left _ (by omega)
              have s3 : (nd : Int) - ((c - b : Nat) : Int) = ((nd - (c - b) : Nat) : Int) := by omega
              have s4 : ((nd - (c - b) : Nat) : Int) - ((nd - (c - b) : Nat) : Int) = 0 := by omega
              have s5 : ((c * (p + 1) : Nat) : Int) + ((nd - (c - b) : Nat) : Int) = ((row + nd : Nat) : Int) := by omega
              have s6 : (c : Int) - 0 = (c : Int) := by omega
              refine am_wp_go rfl (by simp (disch := omega) only [s124 hw, r124_14 hw, s126 hw, eL3, am_divE, am_remE, e1, e2, e7, s1, s2, s3, s4, s5, s6, am_addE, am_subE, am_mulE, am_laddE, am_lsubE, am_upO, am_upS, am_stS, am_stO, am_tnn, am_brl, am_brg, am_bre, am_brn, am_brG, am_brL, am_st1, am_no2, am_st2, am_clr, and_self, true_and, and_true, true_or, or_true, List.length_cons, List.length_nil] <;> omega) ?_
              try simp (disch := omega) only [s124 hw, r124_14 hw, s126 hw, eL3, am_divE, am_remE, e1, e2, e7, s1, s2, s3, s4, s5, s6, am_addE, am_subE, am_mulE, am_laddE, am_lsubE, am_upO, am_upS, am_stS, am_stO, am_tnn, am_brl, am_brg, am_bre, am_brn, am_brG, am_brL, am_st1, am_no2, am_st2, am_clr]
              refine am_wp_go rfl (by simp (disch := omega) only [s124 hw, r124_14 hw, s126 hw, eL3, am_divE, am_remE, e1, e2, e7, s1, s2, s3, s4, s5, s6, am_addE, am_subE, am_mulE, am_laddE, am_lsubE, am_upO, am_upS, am_stS, am_stO, am_tnn, am_brl, am_brg, am_bre, am_brn, am_brG, am_brL, am_st1, am_no2, am_st2, am_clr, and_self, true_and, and_true, true_or, or_true, List.length_cons, List.length_nil] <;> omega) ?_
              try simp (disch := omega) only [s124 hw, r124_14 hw, s126 hw, eL3, am_divE, am_remE, e1, e2, e7, s1, s2, s3, s4, s5, s6, am_addE, am_subE, am_mulE, am_laddE, am_lsubE, am_upO, am_upS, am_stS, am_stO, am_tnn, am_brl, am_brg, am_bre, am_brn, am_brG, am_brL, am_st1, am_no2, am_st2, am_clr]
              refine am_wp_br (fun c79 => ?_) (fun c79 => ?_)
              · omega
              · refine am_wp_go rfl (by simp (disch := omega) only [s124 hw, r124_14 hw, s126 hw, eL3, am_divE, am_remE, e1, e2, e7, s1, s2, s3, s4, s5, s6, am_addE, am_subE, am_mulE, am_laddE, am_lsubE, am_upO, am_upS, am_stS, am_stO, am_tnn, am_brl, am_brg, am_bre, am_brn, am_brG, am_brL, am_st1, am_no2, am_st2, am_clr, and_self, true_and, and_true, true_or, or_true, List.length_cons, List.length_nil] <;> omega) ?_
                try simp (disch := omega) only [s124 hw, r124_14 hw, s126 hw, eL3, am_divE, am_remE, e1, e2, e7, s1, s2, s3, s4, s5, s6, am_addE, am_subE, am_mulE, am_laddE, am_lsubE, am_upO, am_upS, am_stS, am_stO, am_tnn, am_brl, am_brg, am_bre, am_brn, am_brG, am_brL, am_st1, am_no2, am_st2, am_clr]
                refine am_wp_br (fun c93 => ?_) (fun c93 => ?_)
                · omega
                · refine am_wp_go rfl (by simp (disch := omega) only [s124 hw, r124_14 hw, s126 hw, eL3, am_divE, am_remE, e1, e2, e7, s1, s2, s3, s4, s5, s6, am_addE, am_subE, am_mulE, am_laddE, am_lsubE, am_upO, am_upS, am_stS, am_stO, am_tnn, am_brl, am_brg, am_bre, am_brn, am_brG, am_brL, am_st1, am_no2, am_st2, am_clr, and_self, true_and, and_true, true_or, or_true, List.length_cons, List.length_nil] <;> omega) ?_
                  try simp (disch := omega) only [s124 hw, r124_14 hw, s126 hw, eL3, am_divE, am_remE, e1, e2, e7, s1, s2, s3, s4, s5, s6, am_addE, am_subE, am_mulE, am_laddE, am_lsubE, am_upO, am_upS, am_stS, am_stO, am_tnn, am_brl, am_brg, am_bre, am_brn, am_brG, am_brL, am_st1, am_no2, am_st2, am_clr]
                  refine am_wp_cc rfl rfl rfl (congrArg Prod.fst (s124 hw)) (w_M_lays (g := (((i / 2 : Nat) : Int), ((i % 2 : Nat) : Int), 0, ((p + 1 : Nat) : Int), ((nd - (c - b) : Nat) : Int))) hw u3 (by rw [List.length_append, List.length_singleton]; omega) rfl rfl rfl rfl rfl (fun X x1 x2 x3 => ⟨_, rfl, ?_⟩))
                  refine am_wp_go rfl (by simp (disch := omega) only [s124 hw, r124_14 hw, s126 hw, eL3, am_divE, am_remE, e1, e2, e7, s1, s2, s3, s4, s5, s6, am_addE, am_subE, am_mulE, am_laddE, am_lsubE, am_upO, am_upS, am_stS, am_stO, am_tnn, am_brl, am_brg, am_bre, am_brn, am_brG, am_brL, am_st1, am_no2, am_st2, am_clr, and_self, true_and, and_true, true_or, or_true, List.length_cons, List.length_nil] <;> omega) ?_
                  try simp (disch := omega) only [s124 hw, r124_14 hw, s126 hw, eL3, am_divE, am_remE, e1, e2, e7, s1, s2, s3, s4, s5, s6, am_addE, am_subE, am_mulE, am_laddE, am_lsubE, am_upO, am_upS, am_stS, am_stO, am_tnn, am_brl, am_brg, am_bre, am_brn, am_brG, am_brL, am_st1, am_no2, am_st2, am_clr]
                  exact am_wp_ls (EX _ _ X (fun a ha => by rw [x1 a ha, u1 a ha, v1 a ha]) (fun j hj => by rw [x2 j hj, u2 j hj, v2 j hj]) x3) rfl
            · rw [if_neg hov, List.append_nil] at EX
              have s3 : (nd : Int) - ((c - b : Nat) : Int) = 0 := by omega
              have s5 : ((c * (p + 1) : Nat) : Int) = ((row + nd : Nat) : Int) := by omega
              refine am_wp_go rfl (by simp (disch := omega) only [s124 hw, r124_14 hw, s126 hw, eL3, s3, e7, am_addE, am_subE, am_mulE, am_laddE, am_lsubE, am_upO, am_upS, am_stS, am_stO, am_tnn, am_brl, am_brg, am_bre, am_brn, am_brG, am_brL, am_st1, am_no2, am_st2, am_clr, and_self, true_and, and_true, true_or, or_true, List.length_cons, List.length_nil] <;> omega) ?_
              try simp (disch := omega) only [s124 hw, r124_14 hw, s126 hw, eL3, s3, e7, am_addE, am_subE, am_mulE, am_laddE, am_lsubE, am_upO, am_upS, am_stS, am_stO, am_tnn, am_brl, am_brg, am_bre, am_brn, am_brG, am_brL, am_st1, am_no2, am_st2, am_clr]
              rw [s5]
              exact am_wp_ls (EX _ _ U (fun a ha => by rw [u1 a ha, v1 a ha]) (fun j hj => by rw [u2 j hj, v2 j hj]) u3) rfl
          · omega
  · refine am_wp_go rfl (by simp (disch := omega) only [s124 hw, r124_14 hw, s126 hw, Int.reduceToNat, am_addE, am_subE, am_mulE, am_laddE, am_lsubE, am_upO, am_upS, am_stS, am_stO, am_tnn, am_brl, am_brg, am_bre, am_brn, am_brG, am_brL, am_st1, am_no2, am_st2, am_clr, and_self, true_and, and_true, true_or, or_true, List.length_cons, List.length_nil] <;> omega) ?_
    try simp (disch := omega) only [s124 hw, r124_14 hw, s126 hw, Int.reduceToNat, am_addE, am_subE, am_mulE, am_laddE, am_lsubE, am_upO, am_upS, am_stS, am_stO, am_tnn, am_brl, am_brg, am_bre, am_brn, am_brG, am_brL, am_st1, am_no2, am_st2, am_clr]
    refine am_wp_ret rfl rfl ?_
    exact h0 (by omega) _ q1
end SEV
