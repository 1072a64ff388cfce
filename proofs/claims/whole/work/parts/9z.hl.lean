/-! said(): a node and a SLICE, by the reference -/
theorem ct_en {G : List Go} {x : Int} (hg : gok G) : 0 < ax_ct (fun k => decide (gS G k = x)) G.length ↔ 0 < enF G x := by
  have L : ∀ n, n ≤ G.length → ((0 < ax_ct (fun k => decide (gS G k = x)) n ↔ 0 < am_fmax (fun k => if gS G k = x then gB G k + gN G k else 0) n) ∧ 0 ≤ am_fmax (fun k => if gS G k = x then gB G k + gN G k else 0) n) := by
    intro n
    induction n with
    | zero => intro _; exact ⟨⟨fun h => absurd h (Nat.lt_irrefl 0), fun h => absurd h (Int.lt_irrefl 0)⟩, Int.le_refl 0⟩
    | succ n ih =>
      intro hn
      have i1 := ih (by omega)
      have g := hg.2 n (by omega)
      by_cases e : gS G n = x
      · have c1 : ax_ct (fun k => decide (gS G k = x)) (n + 1) = ax_ct (fun k => decide (gS G k = x)) n + 1 := by
          conv => lhs; unfold ax_ct
          rw [decide_eq_true e]; rfl
        have c2 : 0 < am_fmax (fun k => if gS G k = x then gB G k + gN G k else 0) (n + 1) := by
          unfold am_fmax
          rw [if_pos e]
          split <;> omega
        exact ⟨⟨fun _ => c2, fun _ => by omega⟩, by omega⟩
      · have c1 : ax_ct (fun k => decide (gS G k = x)) (n + 1) = ax_ct (fun k => decide (gS G k = x)) n := by
          conv => lhs; unfold ax_ct
          rw [decide_eq_false e]; rfl
        have c2 : am_fmax (fun k => if gS G k = x then gB G k + gN G k else 0) (n + 1) = am_fmax (fun k => if gS G k = x then gB G k + gN G k else 0) n := by
          conv => lhs; unfold am_fmax
          rw [if_neg e, if_neg (by omega)]
        rw [c1, c2]
        exact i1
  exact (L G.length (Nat.le_refl _)).1
section HL
variable {m sl : Nat} {sh : Nat → Nat × Nat} {I : Nat → Nat → Int} {R : Nat → Nat → Nat} {Q : am_R → am_M → Prop} {d : Nat} {G : List Go} {n : Nat} {c g x : Nat → Int}
/-- the compare at a node's end -/
theorem w_M_cmp {i s : Nat} {v : Int} {z4 z6 : Option am_V} (hw : wd sh R) (hi : i < 40) (h : Q (am_yi (am_b (cmpB (I 126 (2061 + 4 * i + 3)) (I 126 (2061 + 4 * i + 2)) v = true))) (m, sl, sh, I, R)) : am_wp (d) 321 266 [some (.inr (.inr (124))), some (.inl ((i : Int))), some (.inl ((s : Int))), some (.inl ((2061 + 4 * (i : Int)))), z4, some (.inl (I 126 (2061 + 4 * i + 2))), z6, some (.inl (v))] [] (m, sl, sh, I, R) Q := by
  unfold cmpB at h
  refine am_wp_go rfl (by simp (disch := omega) only [s124 hw, r124_14 hw, s126 hw, am_tnA, am_tnM, Int.reduceToNat, am_addE, am_subE, am_mulE, am_laddE, am_lsubE, am_upO, am_upS, am_stS, am_stO, am_tnn, am_brl, am_brg, am_bre, am_brn, am_brG, am_brL, am_st1, am_no2, am_st2, am_clr, and_self, true_and, and_true, true_or, or_true, List.length_cons, List.length_nil] <;> omega) ?_
  try simp (disch := omega) only [s124 hw, r124_14 hw, s126 hw, am_tnA, am_tnM, Int.reduceToNat, am_addE, am_subE, am_mulE, am_laddE, am_lsubE, am_upO, am_upS, am_stS, am_stO, am_tnn, am_brl, am_brg, am_bre, am_brn, am_brG, am_brL, am_st1, am_no2, am_st2, am_clr]
  refine am_wp_br (fun b276 => ?_) (fun b276 => ?_)
  · refine am_wp_go rfl (by simp (disch := omega) only [s124 hw, r124_14 hw, s126 hw, am_tnA, am_tnM, Int.reduceToNat, am_addE, am_subE, am_mulE, am_laddE, am_lsubE, am_upO, am_upS, am_stS, am_stO, am_tnn, am_brl, am_brg, am_bre, am_brn, am_brG, am_brL, am_st1, am_no2, am_st2, am_clr, and_self, true_and, and_true, true_or, or_true, List.length_cons, List.length_nil] <;> omega) ?_
    try simp (disch := omega) only [s124 hw, r124_14 hw, s126 hw, am_tnA, am_tnM, Int.reduceToNat, am_addE, am_subE, am_mulE, am_laddE, am_lsubE, am_upO, am_upS, am_stS, am_stO, am_tnn, am_brl, am_brg, am_bre, am_brn, am_brG, am_brL, am_st1, am_no2, am_st2, am_clr]
    refine am_wp_br (fun b304 => ?_) (fun b304 => ?_)
    · rw [if_neg (by omega), if_neg (by omega)] at h
      refine am_wp_go rfl (by simp (disch := omega) only [s124 hw, r124_14 hw, s126 hw, am_tnA, am_tnM, Int.reduceToNat, am_addE, am_subE, am_mulE, am_laddE, am_lsubE, am_upO, am_upS, am_stS, am_stO, am_tnn, am_brl, am_brg, am_bre, am_brn, am_brG, am_brL, am_st1, am_no2, am_st2, am_clr, and_self, true_and, and_true, true_or, or_true, List.length_cons, List.length_nil] <;> omega) ?_
      try simp (disch := omega) only [s124 hw, r124_14 hw, s126 hw, am_tnA, am_tnM, Int.reduceToNat, am_addE, am_subE, am_mulE, am_laddE, am_lsubE, am_upO, am_upS, am_stS, am_stO, am_tnn, am_brl, am_brg, am_bre, am_brn, am_brG, am_brL, am_st1, am_no2, am_st2, am_clr]
      refine am_wp_br (fun b326 => ?_) (fun b326 => ?_)
      · refine am_wp_go rfl (by simp (disch := omega) only [s124 hw, r124_14 hw, s126 hw, am_tnA, am_tnM, Int.reduceToNat, am_addE, am_subE, am_mulE, am_laddE, am_lsubE, am_upO, am_upS, am_stS, am_stO, am_tnn, am_brl, am_brg, am_bre, am_brn, am_brG, am_brL, am_st1, am_no2, am_st2, am_clr, and_self, true_and, and_true, true_or, or_true, List.length_cons, List.length_nil] <;> omega) ?_
        try simp (disch := omega) only [s124 hw, r124_14 hw, s126 hw, am_tnA, am_tnM, Int.reduceToNat, am_addE, am_subE, am_mulE, am_laddE, am_lsubE, am_upO, am_upS, am_stS, am_stO, am_tnn, am_brl, am_brg, am_bre, am_brn, am_brG, am_brL, am_st1, am_no2, am_st2, am_clr]
        refine am_wp_ret rfl rfl ?_
        rwa [am_bF (by simp only [decide_eq_true_eq]; omega)] at h
      · refine am_wp_go rfl (by simp (disch := omega) only [s124 hw, r124_14 hw, s126 hw, am_tnA, am_tnM, Int.reduceToNat, am_addE, am_subE, am_mulE, am_laddE, am_lsubE, am_upO, am_upS, am_stS, am_stO, am_tnn, am_brl, am_brg, am_bre, am_brn, am_brG, am_brL, am_st1, am_no2, am_st2, am_clr, and_self, true_and, and_true, true_or, or_true, List.length_cons, List.length_nil] <;> omega) ?_
        try simp (disch := omega) only [s124 hw, r124_14 hw, s126 hw, am_tnA, am_tnM, Int.reduceToNat, am_addE, am_subE, am_mulE, am_laddE, am_lsubE, am_upO, am_upS, am_stS, am_stO, am_tnn, am_brl, am_brg, am_bre, am_brn, am_brG, am_brL, am_st1, am_no2, am_st2, am_clr]
        refine am_wp_ret rfl rfl ?_
        rwa [am_bT (by simp only [decide_eq_true_eq]; omega)] at h
    · rw [if_neg (by omega), if_pos (by omega)] at h
      refine am_wp_go rfl (by simp (disch := omega) only [s124 hw, r124_14 hw, s126 hw, am_tnA, am_tnM, Int.reduceToNat, am_addE, am_subE, am_mulE, am_laddE, am_lsubE, am_upO, am_upS, am_stS, am_stO, am_tnn, am_brl, am_brg, am_bre, am_brn, am_brG, am_brL, am_st1, am_no2, am_st2, am_clr, and_self, true_and, and_true, true_or, or_true, List.length_cons, List.length_nil] <;> omega) ?_
      try simp (disch := omega) only [s124 hw, r124_14 hw, s126 hw, am_tnA, am_tnM, Int.reduceToNat, am_addE, am_subE, am_mulE, am_laddE, am_lsubE, am_upO, am_upS, am_stS, am_stO, am_tnn, am_brl, am_brg, am_bre, am_brn, am_brG, am_brL, am_st1, am_no2, am_st2, am_clr]
      refine am_wp_br (fun b311 => ?_) (fun b311 => ?_)
      · refine am_wp_go rfl (by simp (disch := omega) only [s124 hw, r124_14 hw, s126 hw, am_tnA, am_tnM, Int.reduceToNat, am_addE, am_subE, am_mulE, am_laddE, am_lsubE, am_upO, am_upS, am_stS, am_stO, am_tnn, am_brl, am_brg, am_bre, am_brn, am_brG, am_brL, am_st1, am_no2, am_st2, am_clr, and_self, true_and, and_true, true_or, or_true, List.length_cons, List.length_nil] <;> omega) ?_
        try simp (disch := omega) only [s124 hw, r124_14 hw, s126 hw, am_tnA, am_tnM, Int.reduceToNat, am_addE, am_subE, am_mulE, am_laddE, am_lsubE, am_upO, am_upS, am_stS, am_stO, am_tnn, am_brl, am_brg, am_bre, am_brn, am_brG, am_brL, am_st1, am_no2, am_st2, am_clr]
        refine am_wp_ret rfl rfl ?_
        rwa [am_bF (by simp only [decide_eq_true_eq]; omega)] at h
      · refine am_wp_go rfl (by simp (disch := omega) only [s124 hw, r124_14 hw, s126 hw, am_tnA, am_tnM, Int.reduceToNat, am_addE, am_subE, am_mulE, am_laddE, am_lsubE, am_upO, am_upS, am_stS, am_stO, am_tnn, am_brl, am_brg, am_bre, am_brn, am_brG, am_brL, am_st1, am_no2, am_st2, am_clr, and_self, true_and, and_true, true_or, or_true, List.length_cons, List.length_nil] <;> omega) ?_
        try simp (disch := omega) only [s124 hw, r124_14 hw, s126 hw, am_tnA, am_tnM, Int.reduceToNat, am_addE, am_subE, am_mulE, am_laddE, am_lsubE, am_upO, am_upS, am_stS, am_stO, am_tnn, am_brl, am_brg, am_bre, am_brn, am_brG, am_brL, am_st1, am_no2, am_st2, am_clr]
        refine am_wp_ret rfl rfl ?_
        rwa [am_bT (by simp only [decide_eq_true_eq]; omega)] at h
  · rw [if_pos (by omega)] at h
    refine am_wp_go rfl (by simp (disch := omega) only [s124 hw, r124_14 hw, s126 hw, am_tnA, am_tnM, Int.reduceToNat, am_addE, am_subE, am_mulE, am_laddE, am_lsubE, am_upO, am_upS, am_stS, am_stO, am_tnn, am_brl, am_brg, am_bre, am_brn, am_brG, am_brL, am_st1, am_no2, am_st2, am_clr, and_self, true_and, and_true, true_or, or_true, List.length_cons, List.length_nil] <;> omega) ?_
    try simp (disch := omega) only [s124 hw, r124_14 hw, s126 hw, am_tnA, am_tnM, Int.reduceToNat, am_addE, am_subE, am_mulE, am_laddE, am_lsubE, am_upO, am_upS, am_stS, am_stO, am_tnn, am_brl, am_brg, am_bre, am_brn, am_brG, am_brL, am_st1, am_no2, am_st2, am_clr]
    refine am_wp_br (fun b283 => ?_) (fun b283 => ?_)
    · refine am_wp_go rfl (by simp (disch := omega) only [s124 hw, r124_14 hw, s126 hw, am_tnA, am_tnM, Int.reduceToNat, am_addE, am_subE, am_mulE, am_laddE, am_lsubE, am_upO, am_upS, am_stS, am_stO, am_tnn, am_brl, am_brg, am_bre, am_brn, am_brG, am_brL, am_st1, am_no2, am_st2, am_clr, and_self, true_and, and_true, true_or, or_true, List.length_cons, List.length_nil] <;> omega) ?_
      try simp (disch := omega) only [s124 hw, r124_14 hw, s126 hw, am_tnA, am_tnM, Int.reduceToNat, am_addE, am_subE, am_mulE, am_laddE, am_lsubE, am_upO, am_upS, am_stS, am_stO, am_tnn, am_brl, am_brg, am_bre, am_brn, am_brG, am_brL, am_st1, am_no2, am_st2, am_clr]
      refine am_wp_ret rfl rfl ?_
      rwa [am_bF (by simp only [decide_eq_true_eq]; omega)] at h
    · refine am_wp_go rfl (by simp (disch := omega) only [s124 hw, r124_14 hw, s126 hw, am_tnA, am_tnM, Int.reduceToNat, am_addE, am_subE, am_mulE, am_laddE, am_lsubE, am_upO, am_upS, am_stS, am_stO, am_tnn, am_brl, am_brg, am_bre, am_brn, am_brG, am_brL, am_st1, am_no2, am_st2, am_clr, and_self, true_and, and_true, true_or, or_true, List.length_cons, List.length_nil] <;> omega) ?_
      try simp (disch := omega) only [s124 hw, r124_14 hw, s126 hw, am_tnA, am_tnM, Int.reduceToNat, am_addE, am_subE, am_mulE, am_laddE, am_lsubE, am_upO, am_upS, am_stS, am_stO, am_tnn, am_brl, am_brg, am_bre, am_brn, am_brG, am_brL, am_st1, am_no2, am_st2, am_clr]
      refine am_wp_ret rfl rfl ?_
      rwa [am_bT (by simp only [decide_eq_true_eq]; omega)] at h
theorem w_M_holds {s : Nat} (hw : wd sh R) (hr : rf (pw (I 126)) G) (hg : gok G) (hk : wkw (I 126)) (hs : s < nS (I 126)) (hn : n ≤ 40) (nd : ∀ i, i < n → sx_node c g x (I 126 5) (fun j => I 126 (2061 + j)) i) : ∀ i, i < n → ∀ (D : Nat) (Q : am_R → am_M → Prop), i + 4 ≤ D → Q (am_yi (am_b (evN c (fun k => svA (I 126) G (c k) (g k) (x k) s) i = true))) (m, sl, sh, I, R) → am_wp (D) 321 0 [some (.inr (.inr (124))), some (.inl ((i : Int))), some (.inl ((s : Int))), none, none, none, none, none] [] (m, sl, sh, I, R) Q := by
  intro i
  induction i using Nat.strongRecOn with
  | ind i ih =>
    intro hi D Q hD h
    obtain ⟨d, rfl⟩ : ∃ d, D = d + 4 := ⟨D - 4, by omega⟩
    have h5 := wkw_nS hk
    have h6 := hk.2 s hs
    have nd := nd i hi
    unfold sx_node at nd
    dsimp only at nd
    rw [show 2061 + (4 * i + 1) = 2061 + 4 * i + 1 by omega, show 2061 + (4 * i + 2) = 2061 + 4 * i + 2 by omega, show 2061 + (4 * i + 3) = 2061 + 4 * i + 3 by omega] at nd
    have V : ∀ {v : Bool}, (c i ≠ 12 ∧ c i ≠ 15 ∧ c i ≠ 16) → svA (I 126) G (c i) (g i) (x i) s = v → Q (am_yi (am_b (v = true))) (m, sl, sh, I, R) := by
      intro v hc hv
      rw [evN_v hc, hv] at h
      exact h
    rcases nd with ⟨c1, e0, a, r, hx, e1⟩ | ⟨c1, b, a, r, hx, e1, e2⟩ | ⟨c1, e0⟩ | ⟨c1, e0⟩ | ⟨c1, e0, e1, e2⟩ | ⟨c1, e2, e3, e4⟩
    · clear V
      rw [evN_12 c1 hx] at h
      have la := sx_lt i a (by rw [hx]; exact List.mem_cons_self)
      refine am_wp_go rfl (by simp (disch := omega) only [s124 hw, r124_14 hw, s126 hw, e1, am_tnA, am_tnM, Int.reduceToNat, am_addE, am_subE, am_mulE, am_laddE, am_lsubE, am_upO, am_upS, am_stS, am_stO, am_tnn, am_brl, am_brg, am_bre, am_brn, am_brG, am_brL, am_st1, am_no2, am_st2, am_clr, and_self, true_and, and_true, true_or, or_true, List.length_cons, List.length_nil] <;> omega) ?_
      try simp (disch := omega) only [s124 hw, r124_14 hw, s126 hw, e1, am_tnA, am_tnM, Int.reduceToNat, am_addE, am_subE, am_mulE, am_laddE, am_lsubE, am_upO, am_upS, am_stS, am_stO, am_tnn, am_brl, am_brg, am_bre, am_brn, am_brG, am_brL, am_st1, am_no2, am_st2, am_clr]
      refine am_wp_lsw (fun q => absurd e0 (by exact q.1)) ⟨fun q => ?_, fun q => absurd q (by omega), fun q => absurd q (by omega), fun q => absurd q (by omega), fun q => absurd q (by omega), fun q => absurd q (by omega), trivial⟩
      refine am_wp_pc (pc' := 92) rfl ?_
      refine am_wp_go rfl (by simp (disch := omega) only [s124 hw, r124_14 hw, s126 hw, e1, am_tnA, am_tnM, Int.reduceToNat, am_addE, am_subE, am_mulE, am_laddE, am_lsubE, am_upO, am_upS, am_stS, am_stO, am_tnn, am_brl, am_brg, am_bre, am_brn, am_brG, am_brL, am_st1, am_no2, am_st2, am_clr, and_self, true_and, and_true, true_or, or_true, List.length_cons, List.length_nil] <;> omega) ?_
      try simp (disch := omega) only [s124 hw, r124_14 hw, s126 hw, e1, am_tnA, am_tnM, Int.reduceToNat, am_addE, am_subE, am_mulE, am_laddE, am_lsubE, am_upO, am_upS, am_stS, am_stO, am_tnn, am_brl, am_brg, am_bre, am_brn, am_brG, am_brL, am_st1, am_no2, am_st2, am_clr]
      refine am_wp_cc rfl rfl rfl (congrArg Prod.fst (s124 hw)) (ih a la (by omega) _ _ (by omega) ⟨_, rfl, ?_⟩)
      refine am_wp_go rfl (by simp (disch := omega) only [s124 hw, r124_14 hw, s126 hw, e1, am_b0, am_bn0, am_addE, am_subE, am_mulE, am_laddE, am_lsubE, am_upO, am_upS, am_stS, am_stO, am_tnn, am_brl, am_brg, am_bre, am_brn, am_brG, am_brL, am_st1, am_no2, am_st2, am_clr, and_self, true_and, and_true, true_or, or_true, List.length_cons, List.length_nil] <;> omega) ?_
      try simp (disch := omega) only [s124 hw, r124_14 hw, s126 hw, e1, am_b0, am_bn0, am_addE, am_subE, am_mulE, am_laddE, am_lsubE, am_upO, am_upS, am_stS, am_stO, am_tnn, am_brl, am_brg, am_bre, am_brn, am_brG, am_brL, am_st1, am_no2, am_st2, am_clr]
      refine am_wp_br (fun b99 => ?_) (fun b99 => ?_)
      · refine am_wp_go rfl (by simp (disch := omega) only [s124 hw, r124_14 hw, s126 hw, e1, am_b0, am_bn0, am_addE, am_subE, am_mulE, am_laddE, am_lsubE, am_upO, am_upS, am_stS, am_stO, am_tnn, am_brl, am_brg, am_bre, am_brn, am_brG, am_brL, am_st1, am_no2, am_st2, am_clr, and_self, true_and, and_true, true_or, or_true, List.length_cons, List.length_nil] <;> omega) ?_
        try simp (disch := omega) only [s124 hw, r124_14 hw, s126 hw, e1, am_b0, am_bn0, am_addE, am_subE, am_mulE, am_laddE, am_lsubE, am_upO, am_upS, am_stS, am_stO, am_tnn, am_brl, am_brg, am_bre, am_brn, am_brG, am_brL, am_st1, am_no2, am_st2, am_clr]
        refine am_wp_ret rfl rfl ?_
        rwa [am_bF (by rw [b99]; decide)] at h
      · refine am_wp_go rfl (by simp (disch := omega) only [s124 hw, r124_14 hw, s126 hw, e1, am_b0, am_bn0, am_addE, am_subE, am_mulE, am_laddE, am_lsubE, am_upO, am_upS, am_stS, am_stO, am_tnn, am_brl, am_brg, am_bre, am_brn, am_brG, am_brL, am_st1, am_no2, am_st2, am_clr, and_self, true_and, and_true, true_or, or_true, List.length_cons, List.length_nil] <;> omega) ?_
        try simp (disch := omega) only [s124 hw, r124_14 hw, s126 hw, e1, am_b0, am_bn0, am_addE, am_subE, am_mulE, am_laddE, am_lsubE, am_upO, am_upS, am_stS, am_stO, am_tnn, am_brl, am_brg, am_bre, am_brn, am_brG, am_brL, am_st1, am_no2, am_st2, am_clr]
        refine am_wp_ret rfl rfl ?_
        rwa [am_bT (by rw [Bool.eq_false_iff.mpr b99]; rfl)] at h
    · clear V
      have la := sx_lt i a (by rw [hx]; exact List.mem_cons_of_mem _ List.mem_cons_self)
      have lb := sx_lt i b (by rw [hx]; exact List.mem_cons_self)
      rcases c1 with ⟨c1, e0⟩ | ⟨c1, e0⟩
      · rw [evN_15 c1 hx] at h
        refine am_wp_go rfl (by simp (disch := omega) only [s124 hw, r124_14 hw, s126 hw, e1, e2, am_tnA, am_tnM, Int.reduceToNat, am_addE, am_subE, am_mulE, am_laddE, am_lsubE, am_upO, am_upS, am_stS, am_stO, am_tnn, am_brl, am_brg, am_bre, am_brn, am_brG, am_brL, am_st1, am_no2, am_st2, am_clr, and_self, true_and, and_true, true_or, or_true, List.length_cons, List.length_nil] <;> omega) ?_
        try simp (disch := omega) only [s124 hw, r124_14 hw, s126 hw, e1, e2, am_tnA, am_tnM, Int.reduceToNat, am_addE, am_subE, am_mulE, am_laddE, am_lsubE, am_upO, am_upS, am_stS, am_stO, am_tnn, am_brl, am_brg, am_bre, am_brn, am_brG, am_brL, am_st1, am_no2, am_st2, am_clr]
        refine am_wp_lsw (fun q => absurd e0 (by exact q.2.1)) ⟨fun q => absurd q (by omega), fun q => ?_, fun q => absurd q (by omega), fun q => absurd q (by omega), fun q => absurd q (by omega), fun q => absurd q (by omega), trivial⟩
        refine am_wp_pc (pc' := 108) rfl ?_
        refine am_wp_go rfl (by simp (disch := omega) only [s124 hw, r124_14 hw, s126 hw, e1, e2, am_tnA, am_tnM, Int.reduceToNat, am_addE, am_subE, am_mulE, am_laddE, am_lsubE, am_upO, am_upS, am_stS, am_stO, am_tnn, am_brl, am_brg, am_bre, am_brn, am_brG, am_brL, am_st1, am_no2, am_st2, am_clr, and_self, true_and, and_true, true_or, or_true, List.length_cons, List.length_nil] <;> omega) ?_
        try simp (disch := omega) only [s124 hw, r124_14 hw, s126 hw, e1, e2, am_tnA, am_tnM, Int.reduceToNat, am_addE, am_subE, am_mulE, am_laddE, am_lsubE, am_upO, am_upS, am_stS, am_stO, am_tnn, am_brl, am_brg, am_bre, am_brn, am_brG, am_brL, am_st1, am_no2, am_st2, am_clr]
        refine am_wp_cc rfl rfl rfl (congrArg Prod.fst (s124 hw)) (ih a la (by omega) _ _ (by omega) ⟨_, rfl, ?_⟩)
        refine am_wp_go rfl (by simp (disch := omega) only [s124 hw, r124_14 hw, s126 hw, e1, e2, am_b0, am_bn0, am_addE, am_subE, am_mulE, am_laddE, am_lsubE, am_upO, am_upS, am_stS, am_stO, am_tnn, am_brl, am_brg, am_bre, am_brn, am_brG, am_brL, am_st1, am_no2, am_st2, am_clr, and_self, true_and, and_true, true_or, or_true, List.length_cons, List.length_nil] <;> omega) ?_
        try simp (disch := omega) only [s124 hw, r124_14 hw, s126 hw, e1, e2, am_b0, am_bn0, am_addE, am_subE, am_mulE, am_laddE, am_lsubE, am_upO, am_upS, am_stS, am_stO, am_tnn, am_brl, am_brg, am_bre, am_brn, am_brG, am_brL, am_st1, am_no2, am_st2, am_clr]
        refine am_wp_br (fun b115 => ?_) (fun b115 => ?_)
        · refine am_wp_go rfl (by simp (disch := omega) only [s124 hw, r124_14 hw, s126 hw, e1, e2, am_b0, am_bn0, am_addE, am_subE, am_mulE, am_laddE, am_lsubE, am_upO, am_upS, am_stS, am_stO, am_tnn, am_brl, am_brg, am_bre, am_brn, am_brG, am_brL, am_st1, am_no2, am_st2, am_clr, and_self, true_and, and_true, true_or, or_true, List.length_cons, List.length_nil] <;> omega) ?_
          try simp (disch := omega) only [s124 hw, r124_14 hw, s126 hw, e1, e2, am_b0, am_bn0, am_addE, am_subE, am_mulE, am_laddE, am_lsubE, am_upO, am_upS, am_stS, am_stO, am_tnn, am_brl, am_brg, am_bre, am_brn, am_brG, am_brL, am_st1, am_no2, am_st2, am_clr]
          refine am_wp_ret rfl rfl ?_
          rwa [am_bF (by rw [Bool.eq_false_iff.mpr b115, Bool.false_and]; decide)] at h
        · refine am_wp_go rfl (by simp (disch := omega) only [s124 hw, r124_14 hw, s126 hw, e1, e2, am_b0, am_bn0, am_addE, am_subE, am_mulE, am_laddE, am_lsubE, am_upO, am_upS, am_stS, am_stO, am_tnn, am_brl, am_brg, am_bre, am_brn, am_brG, am_brL, am_st1, am_no2, am_st2, am_clr, and_self, true_and, and_true, true_or, or_true, List.length_cons, List.length_nil] <;> omega) ?_
          try simp (disch := omega) only [s124 hw, r124_14 hw, s126 hw, e1, e2, am_b0, am_bn0, am_addE, am_subE, am_mulE, am_laddE, am_lsubE, am_upO, am_upS, am_stS, am_stO, am_tnn, am_brl, am_brg, am_bre, am_brn, am_brG, am_brL, am_st1, am_no2, am_st2, am_clr]
          refine am_wp_cc rfl rfl rfl (congrArg Prod.fst (s124 hw)) (ih b lb (by omega) _ _ (by omega) ⟨_, rfl, ?_⟩)
          refine am_wp_go rfl (by simp (disch := omega) only [s124 hw, r124_14 hw, s126 hw, e1, e2, am_b0, am_bn0, am_addE, am_subE, am_mulE, am_laddE, am_lsubE, am_upO, am_upS, am_stS, am_stO, am_tnn, am_brl, am_brg, am_bre, am_brn, am_brG, am_brL, am_st1, am_no2, am_st2, am_clr, and_self, true_and, and_true, true_or, or_true, List.length_cons, List.length_nil] <;> omega) ?_
          try simp (disch := omega) only [s124 hw, r124_14 hw, s126 hw, e1, e2, am_b0, am_bn0, am_addE, am_subE, am_mulE, am_laddE, am_lsubE, am_upO, am_upS, am_stS, am_stO, am_tnn, am_brl, am_brg, am_bre, am_brn, am_brG, am_brL, am_st1, am_no2, am_st2, am_clr]
          refine am_wp_br (fun b125 => ?_) (fun b125 => ?_)
          · refine am_wp_go rfl (by simp (disch := omega) only [s124 hw, r124_14 hw, s126 hw, e1, e2, am_b0, am_bn0, am_addE, am_subE, am_mulE, am_laddE, am_lsubE, am_upO, am_upS, am_stS, am_stO, am_tnn, am_brl, am_brg, am_bre, am_brn, am_brG, am_brL, am_st1, am_no2, am_st2, am_clr, and_self, true_and, and_true, true_or, or_true, List.length_cons, List.length_nil] <;> omega) ?_
            try simp (disch := omega) only [s124 hw, r124_14 hw, s126 hw, e1, e2, am_b0, am_bn0, am_addE, am_subE, am_mulE, am_laddE, am_lsubE, am_upO, am_upS, am_stS, am_stO, am_tnn, am_brl, am_brg, am_bre, am_brn, am_brG, am_brL, am_st1, am_no2, am_st2, am_clr]
            refine am_wp_ret rfl rfl ?_
            rwa [am_bF (by rw [Bool.eq_false_iff.mpr b125, Bool.and_false]; decide)] at h
          · refine am_wp_go rfl (by simp (disch := omega) only [s124 hw, r124_14 hw, s126 hw, e1, e2, am_b0, am_bn0, am_addE, am_subE, am_mulE, am_laddE, am_lsubE, am_upO, am_upS, am_stS, am_stO, am_tnn, am_brl, am_brg, am_bre, am_brn, am_brG, am_brL, am_st1, am_no2, am_st2, am_clr, and_self, true_and, and_true, true_or, or_true, List.length_cons, List.length_nil] <;> omega) ?_
            try simp (disch := omega) only [s124 hw, r124_14 hw, s126 hw, e1, e2, am_b0, am_bn0, am_addE, am_subE, am_mulE, am_laddE, am_lsubE, am_upO, am_upS, am_stS, am_stO, am_tnn, am_brl, am_brg, am_bre, am_brn, am_brG, am_brL, am_st1, am_no2, am_st2, am_clr]
            refine am_wp_ret rfl rfl ?_
            rwa [am_bT (by rw [Classical.not_not.mp b115, Classical.not_not.mp b125]; rfl)] at h
      · rw [evN_16 c1 hx] at h
        refine am_wp_go rfl (by simp (disch := omega) only [s124 hw, r124_14 hw, s126 hw, e1, e2, am_tnA, am_tnM, Int.reduceToNat, am_addE, am_subE, am_mulE, am_laddE, am_lsubE, am_upO, am_upS, am_stS, am_stO, am_tnn, am_brl, am_brg, am_bre, am_brn, am_brG, am_brL, am_st1, am_no2, am_st2, am_clr, and_self, true_and, and_true, true_or, or_true, List.length_cons, List.length_nil] <;> omega) ?_
        try simp (disch := omega) only [s124 hw, r124_14 hw, s126 hw, e1, e2, am_tnA, am_tnM, Int.reduceToNat, am_addE, am_subE, am_mulE, am_laddE, am_lsubE, am_upO, am_upS, am_stS, am_stO, am_tnn, am_brl, am_brg, am_bre, am_brn, am_brG, am_brL, am_st1, am_no2, am_st2, am_clr]
        refine am_wp_lsw (fun q => absurd e0 (by exact q.2.2.1)) ⟨fun q => absurd q (by omega), fun q => absurd q (by omega), fun q => ?_, fun q => absurd q (by omega), fun q => absurd q (by omega), fun q => absurd q (by omega), trivial⟩
        refine am_wp_pc (pc' := 134) rfl ?_
        refine am_wp_go rfl (by simp (disch := omega) only [s124 hw, r124_14 hw, s126 hw, e1, e2, am_tnA, am_tnM, Int.reduceToNat, am_addE, am_subE, am_mulE, am_laddE, am_lsubE, am_upO, am_upS, am_stS, am_stO, am_tnn, am_brl, am_brg, am_bre, am_brn, am_brG, am_brL, am_st1, am_no2, am_st2, am_clr, and_self, true_and, and_true, true_or, or_true, List.length_cons, List.length_nil] <;> omega) ?_
        try simp (disch := omega) only [s124 hw, r124_14 hw, s126 hw, e1, e2, am_tnA, am_tnM, Int.reduceToNat, am_addE, am_subE, am_mulE, am_laddE, am_lsubE, am_upO, am_upS, am_stS, am_stO, am_tnn, am_brl, am_brg, am_bre, am_brn, am_brG, am_brL, am_st1, am_no2, am_st2, am_clr]
        refine am_wp_cc rfl rfl rfl (congrArg Prod.fst (s124 hw)) (ih a la (by omega) _ _ (by omega) ⟨_, rfl, ?_⟩)
        refine am_wp_go rfl (by simp (disch := omega) only [s124 hw, r124_14 hw, s126 hw, e1, e2, am_b0, am_bn0, am_addE, am_subE, am_mulE, am_laddE, am_lsubE, am_upO, am_upS, am_stS, am_stO, am_tnn, am_brl, am_brg, am_bre, am_brn, am_brG, am_brL, am_st1, am_no2, am_st2, am_clr, and_self, true_and, and_true, true_or, or_true, List.length_cons, List.length_nil] <;> omega) ?_
        try simp (disch := omega) only [s124 hw, r124_14 hw, s126 hw, e1, e2, am_b0, am_bn0, am_addE, am_subE, am_mulE, am_laddE, am_lsubE, am_upO, am_upS, am_stS, am_stO, am_tnn, am_brl, am_brg, am_bre, am_brn, am_brG, am_brL, am_st1, am_no2, am_st2, am_clr]
        refine am_wp_br (fun b141 => ?_) (fun b141 => ?_)
        · refine am_wp_go rfl (by simp (disch := omega) only [s124 hw, r124_14 hw, s126 hw, e1, e2, am_b0, am_bn0, am_addE, am_subE, am_mulE, am_laddE, am_lsubE, am_upO, am_upS, am_stS, am_stO, am_tnn, am_brl, am_brg, am_bre, am_brn, am_brG, am_brL, am_st1, am_no2, am_st2, am_clr, and_self, true_and, and_true, true_or, or_true, List.length_cons, List.length_nil] <;> omega) ?_
          try simp (disch := omega) only [s124 hw, r124_14 hw, s126 hw, e1, e2, am_b0, am_bn0, am_addE, am_subE, am_mulE, am_laddE, am_lsubE, am_upO, am_upS, am_stS, am_stO, am_tnn, am_brl, am_brg, am_bre, am_brn, am_brG, am_brL, am_st1, am_no2, am_st2, am_clr]
          refine am_wp_ret rfl rfl ?_
          rwa [am_bT (by rw [b141]; rfl)] at h
        · refine am_wp_go rfl (by simp (disch := omega) only [s124 hw, r124_14 hw, s126 hw, e1, e2, am_b0, am_bn0, am_addE, am_subE, am_mulE, am_laddE, am_lsubE, am_upO, am_upS, am_stS, am_stO, am_tnn, am_brl, am_brg, am_bre, am_brn, am_brG, am_brL, am_st1, am_no2, am_st2, am_clr, and_self, true_and, and_true, true_or, or_true, List.length_cons, List.length_nil] <;> omega) ?_
          try simp (disch := omega) only [s124 hw, r124_14 hw, s126 hw, e1, e2, am_b0, am_bn0, am_addE, am_subE, am_mulE, am_laddE, am_lsubE, am_upO, am_upS, am_stS, am_stO, am_tnn, am_brl, am_brg, am_bre, am_brn, am_brG, am_brL, am_st1, am_no2, am_st2, am_clr]
          refine am_wp_cc rfl rfl rfl (congrArg Prod.fst (s124 hw)) (ih b lb (by omega) _ _ (by omega) ⟨_, rfl, ?_⟩)
          refine am_wp_go rfl (by simp (disch := omega) only [s124 hw, r124_14 hw, s126 hw, e1, e2, am_b0, am_bn0, am_addE, am_subE, am_mulE, am_laddE, am_lsubE, am_upO, am_upS, am_stS, am_stO, am_tnn, am_brl, am_brg, am_bre, am_brn, am_brG, am_brL, am_st1, am_no2, am_st2, am_clr, and_self, true_and, and_true, true_or, or_true, List.length_cons, List.length_nil] <;> omega) ?_
          try simp (disch := omega) only [s124 hw, r124_14 hw, s126 hw, e1, e2, am_b0, am_bn0, am_addE, am_subE, am_mulE, am_laddE, am_lsubE, am_upO, am_upS, am_stS, am_stO, am_tnn, am_brl, am_brg, am_bre, am_brn, am_brG, am_brL, am_st1, am_no2, am_st2, am_clr]
          refine am_wp_br (fun b151 => ?_) (fun b151 => ?_)
          · refine am_wp_go rfl (by simp (disch := omega) only [s124 hw, r124_14 hw, s126 hw, e1, e2, am_b0, am_bn0, am_addE, am_subE, am_mulE, am_laddE, am_lsubE, am_upO, am_upS, am_stS, am_stO, am_tnn, am_brl, am_brg, am_bre, am_brn, am_brG, am_brL, am_st1, am_no2, am_st2, am_clr, and_self, true_and, and_true, true_or, or_true, List.length_cons, List.length_nil] <;> omega) ?_
            try simp (disch := omega) only [s124 hw, r124_14 hw, s126 hw, e1, e2, am_b0, am_bn0, am_addE, am_subE, am_mulE, am_laddE, am_lsubE, am_upO, am_upS, am_stS, am_stO, am_tnn, am_brl, am_brg, am_bre, am_brn, am_brG, am_brL, am_st1, am_no2, am_st2, am_clr]
            refine am_wp_ret rfl rfl ?_
            rwa [am_bF (by rw [Bool.eq_false_iff.mpr b141, Bool.eq_false_iff.mpr b151]; decide)] at h
          · refine am_wp_go rfl (by simp (disch := omega) only [s124 hw, r124_14 hw, s126 hw, e1, e2, am_b0, am_bn0, am_addE, am_subE, am_mulE, am_laddE, am_lsubE, am_upO, am_upS, am_stS, am_stO, am_tnn, am_brl, am_brg, am_bre, am_brn, am_brG, am_brL, am_st1, am_no2, am_st2, am_clr, and_self, true_and, and_true, true_or, or_true, List.length_cons, List.length_nil] <;> omega) ?_
            try simp (disch := omega) only [s124 hw, r124_14 hw, s126 hw, e1, e2, am_b0, am_bn0, am_addE, am_subE, am_mulE, am_laddE, am_lsubE, am_upO, am_upS, am_stS, am_stO, am_tnn, am_brl, am_brg, am_bre, am_brn, am_brG, am_brL, am_st1, am_no2, am_st2, am_clr]
            refine am_wp_ret rfl rfl ?_
            rwa [am_bT (by rw [Classical.not_not.mp b151, Bool.or_true])] at h
    · have h := V (by omega) rfl
      unfold svA svL at h
      rw [if_neg (by omega), if_pos c1] at h
      simp only [decide_eq_true_eq] at h
      refine am_wp_go rfl (by simp (disch := omega) only [s124 hw, r124_14 hw, s126 hw, am_tnA, am_tnM, Int.reduceToNat, am_addE, am_subE, am_mulE, am_laddE, am_lsubE, am_upO, am_upS, am_stS, am_stO, am_tnn, am_brl, am_brg, am_bre, am_brn, am_brG, am_brL, am_st1, am_no2, am_st2, am_clr, and_self, true_and, and_true, true_or, or_true, List.length_cons, List.length_nil] <;> omega) ?_
      try simp (disch := omega) only [s124 hw, r124_14 hw, s126 hw, am_tnA, am_tnM, Int.reduceToNat, am_addE, am_subE, am_mulE, am_laddE, am_lsubE, am_upO, am_upS, am_stS, am_stO, am_tnn, am_brl, am_brg, am_bre, am_brn, am_brG, am_brL, am_st1, am_no2, am_st2, am_clr]
      refine am_wp_lsw (fun q => absurd e0 (by exact q.2.2.2.1)) ⟨fun q => absurd q (by omega), fun q => absurd q (by omega), fun q => absurd q (by omega), fun q => ?_, fun q => absurd q (by omega), fun q => absurd q (by omega), trivial⟩
      refine am_wp_pc (pc' := 160) rfl ?_
      refine am_wp_go rfl (by simp (disch := omega) only [s124 hw, r124_14 hw, s126 hw, am_tnA, am_tnM, Int.reduceToNat, am_addE, am_subE, am_mulE, am_laddE, am_lsubE, am_upO, am_upS, am_stS, am_stO, am_tnn, am_brl, am_brg, am_bre, am_brn, am_brG, am_brL, am_st1, am_no2, am_st2, am_clr, and_self, true_and, and_true, true_or, or_true, List.length_cons, List.length_nil] <;> omega) ?_
      try simp (disch := omega) only [s124 hw, r124_14 hw, s126 hw, am_tnA, am_tnM, Int.reduceToNat, am_addE, am_subE, am_mulE, am_laddE, am_lsubE, am_upO, am_upS, am_stS, am_stO, am_tnn, am_brl, am_brg, am_bre, am_brn, am_brG, am_brL, am_st1, am_no2, am_st2, am_clr]
      refine am_wp_cc rfl rfl rfl (congrArg Prod.fst (s124 hw)) (w_M_isOnce (s := s) hw (by omega) ⟨_, rfl, ?_⟩)
      refine am_wp_retb rfl ?_
      rwa [am_b_iff (e := I 126 (8 + 3 * s + 2) = 1) (by omega)]
    · have h := V (by omega) rfl
      unfold svA at h
      rw [if_pos c1] at h
      simp only [decide_eq_true_eq] at h
      refine am_wp_go rfl (by simp (disch := omega) only [s124 hw, r124_14 hw, s126 hw, am_tnA, am_tnM, Int.reduceToNat, am_addE, am_subE, am_mulE, am_laddE, am_lsubE, am_upO, am_upS, am_stS, am_stO, am_tnn, am_brl, am_brg, am_bre, am_brn, am_brG, am_brL, am_st1, am_no2, am_st2, am_clr, and_self, true_and, and_true, true_or, or_true, List.length_cons, List.length_nil] <;> omega) ?_
      try simp (disch := omega) only [s124 hw, r124_14 hw, s126 hw, am_tnA, am_tnM, Int.reduceToNat, am_addE, am_subE, am_mulE, am_laddE, am_lsubE, am_upO, am_upS, am_stS, am_stO, am_tnn, am_brl, am_brg, am_bre, am_brn, am_brG, am_brL, am_st1, am_no2, am_st2, am_clr]
      refine am_wp_lsw (fun q => absurd e0 (by exact q.2.2.2.2.1)) ⟨fun q => absurd q (by omega), fun q => absurd q (by omega), fun q => absurd q (by omega), fun q => absurd q (by omega), fun q => ?_, fun q => absurd q (by omega), trivial⟩
      refine am_wp_pc (pc' := 166) rfl ?_
      refine am_wp_go rfl (by simp (disch := omega) only [s124 hw, r124_14 hw, s126 hw, am_tnA, am_tnM, Int.reduceToNat, am_addE, am_subE, am_mulE, am_laddE, am_lsubE, am_upO, am_upS, am_stS, am_stO, am_tnn, am_brl, am_brg, am_bre, am_brn, am_brG, am_brL, am_st1, am_no2, am_st2, am_clr, and_self, true_and, and_true, true_or, or_true, List.length_cons, List.length_nil] <;> omega) ?_
      try simp (disch := omega) only [s124 hw, r124_14 hw, s126 hw, am_tnA, am_tnM, Int.reduceToNat, am_addE, am_subE, am_mulE, am_laddE, am_lsubE, am_upO, am_upS, am_stS, am_stO, am_tnn, am_brl, am_brg, am_bre, am_brn, am_brG, am_brL, am_st1, am_no2, am_st2, am_clr]
      refine am_wp_cc rfl rfl rfl (congrArg Prod.fst (s124 hw)) (w_M_isDone (s := s) hw hr hg hk hs ⟨_, rfl, ?_⟩)
      refine am_wp_retb rfl ?_
      exact h
    · have h := V (by omega) rfl
      unfold svA svL at h
      rw [if_neg (by omega), if_neg (by omega), if_pos c1] at h
      simp only [decide_eq_true_eq] at h
      have ce := ct_en (x := x i) hg
      refine am_wp_go rfl (by simp (disch := omega) only [s124 hw, r124_14 hw, s126 hw, e1, am_tnA, am_tnM, Int.reduceToNat, am_addE, am_subE, am_mulE, am_laddE, am_lsubE, am_upO, am_upS, am_stS, am_stO, am_tnn, am_brl, am_brg, am_bre, am_brn, am_brG, am_brL, am_st1, am_no2, am_st2, am_clr, and_self, true_and, and_true, true_or, or_true, List.length_cons, List.length_nil] <;> omega) ?_
      try simp (disch := omega) only [s124 hw, r124_14 hw, s126 hw, e1, am_tnA, am_tnM, Int.reduceToNat, am_addE, am_subE, am_mulE, am_laddE, am_lsubE, am_upO, am_upS, am_stS, am_stO, am_tnn, am_brl, am_brg, am_bre, am_brn, am_brG, am_brL, am_st1, am_no2, am_st2, am_clr]
      refine am_wp_lsw (fun q => absurd e0 (by exact q.2.2.2.2.2.1)) ⟨fun q => absurd q (by omega), fun q => absurd q (by omega), fun q => absurd q (by omega), fun q => absurd q (by omega), fun q => absurd q (by omega), fun q => ?_, trivial⟩
      refine am_wp_pc (pc' := 172) rfl ?_
      refine am_wp_go rfl (by simp (disch := omega) only [s124 hw, r124_14 hw, s126 hw, e1, am_tnA, am_tnM, Int.reduceToNat, am_addE, am_subE, am_mulE, am_laddE, am_lsubE, am_upO, am_upS, am_stS, am_stO, am_tnn, am_brl, am_brg, am_bre, am_brn, am_brG, am_brL, am_st1, am_no2, am_st2, am_clr, and_self, true_and, and_true, true_or, or_true, List.length_cons, List.length_nil] <;> omega) ?_
      try simp (disch := omega) only [s124 hw, r124_14 hw, s126 hw, e1, am_tnA, am_tnM, Int.reduceToNat, am_addE, am_subE, am_mulE, am_laddE, am_lsubE, am_upO, am_upS, am_stS, am_stO, am_tnn, am_brl, am_brg, am_bre, am_brn, am_brG, am_brL, am_st1, am_no2, am_st2, am_clr]
      refine am_wp_cc rfl rfl rfl (congrArg Prod.fst (s124 hw)) (w_M_goesOf (s := x i) hw hr hg ⟨_, rfl, ?_⟩)
      refine am_wp_go rfl (by simp (disch := omega) only [s124 hw, r124_14 hw, s126 hw, e1, am_tnA, am_tnM, Int.reduceToNat, am_addE, am_subE, am_mulE, am_laddE, am_lsubE, am_upO, am_upS, am_stS, am_stO, am_tnn, am_brl, am_brg, am_bre, am_brn, am_brG, am_brL, am_st1, am_no2, am_st2, am_clr, and_self, true_and, and_true, true_or, or_true, List.length_cons, List.length_nil] <;> omega) ?_
      try simp (disch := omega) only [s124 hw, r124_14 hw, s126 hw, e1, am_tnA, am_tnM, Int.reduceToNat, am_addE, am_subE, am_mulE, am_laddE, am_lsubE, am_upO, am_upS, am_stS, am_stO, am_tnn, am_brl, am_brg, am_bre, am_brn, am_brG, am_brL, am_st1, am_no2, am_st2, am_clr]
      refine am_wp_br (fun b178 => ?_) (fun b178 => ?_)
      · refine am_wp_go rfl (by simp (disch := omega) only [s124 hw, r124_14 hw, s126 hw, e1, am_tnA, am_tnM, Int.reduceToNat, am_addE, am_subE, am_mulE, am_laddE, am_lsubE, am_upO, am_upS, am_stS, am_stO, am_tnn, am_brl, am_brg, am_bre, am_brn, am_brG, am_brL, am_st1, am_no2, am_st2, am_clr, and_self, true_and, and_true, true_or, or_true, List.length_cons, List.length_nil] <;> omega) ?_
        try simp (disch := omega) only [s124 hw, r124_14 hw, s126 hw, e1, am_tnA, am_tnM, Int.reduceToNat, am_addE, am_subE, am_mulE, am_laddE, am_lsubE, am_upO, am_upS, am_stS, am_stO, am_tnn, am_brl, am_brg, am_bre, am_brn, am_brG, am_brL, am_st1, am_no2, am_st2, am_clr]
        refine am_wp_ret rfl rfl ?_
        rwa [am_bF (by omega)] at h
      · refine am_wp_go rfl (by simp (disch := omega) only [s124 hw, r124_14 hw, s126 hw, e1, am_tnA, am_tnM, Int.reduceToNat, am_addE, am_subE, am_mulE, am_laddE, am_lsubE, am_upO, am_upS, am_stS, am_stO, am_tnn, am_brl, am_brg, am_bre, am_brn, am_brG, am_brL, am_st1, am_no2, am_st2, am_clr, and_self, true_and, and_true, true_or, or_true, List.length_cons, List.length_nil] <;> omega) ?_
        try simp (disch := omega) only [s124 hw, r124_14 hw, s126 hw, e1, am_tnA, am_tnM, Int.reduceToNat, am_addE, am_subE, am_mulE, am_laddE, am_lsubE, am_upO, am_upS, am_stS, am_stO, am_tnn, am_brl, am_brg, am_bre, am_brn, am_brG, am_brL, am_st1, am_no2, am_st2, am_clr]
        refine am_wp_cc rfl rfl rfl (congrArg Prod.fst (s124 hw)) (w_M_endOf (s := (s : Int)) hw hr hg ⟨_, rfl, ?_⟩)
        refine am_wp_go rfl (by simp (disch := omega) only [s124 hw, r124_14 hw, s126 hw, e1, am_tnA, am_tnM, Int.reduceToNat, am_addE, am_subE, am_mulE, am_laddE, am_lsubE, am_upO, am_upS, am_stS, am_stO, am_tnn, am_brl, am_brg, am_bre, am_brn, am_brG, am_brL, am_st1, am_no2, am_st2, am_clr, and_self, true_and, and_true, true_or, or_true, List.length_cons, List.length_nil] <;> omega) ?_
        try simp (disch := omega) only [s124 hw, r124_14 hw, s126 hw, e1, am_tnA, am_tnM, Int.reduceToNat, am_addE, am_subE, am_mulE, am_laddE, am_lsubE, am_upO, am_upS, am_stS, am_stO, am_tnn, am_brl, am_brg, am_bre, am_brn, am_brG, am_brL, am_st1, am_no2, am_st2, am_clr]
        refine am_wp_cc rfl rfl rfl (congrArg Prod.fst (s124 hw)) (w_M_endOf (s := x i) hw hr hg ⟨_, rfl, ?_⟩)
        refine am_wp_go rfl (by simp (disch := omega) only [s124 hw, r124_14 hw, s126 hw, e1, am_tnA, am_tnM, Int.reduceToNat, am_addE, am_subE, am_mulE, am_laddE, am_lsubE, am_upO, am_upS, am_stS, am_stO, am_tnn, am_brl, am_brg, am_bre, am_brn, am_brG, am_brL, am_st1, am_no2, am_st2, am_clr, and_self, true_and, and_true, true_or, or_true, List.length_cons, List.length_nil] <;> omega) ?_
        try simp (disch := omega) only [s124 hw, r124_14 hw, s126 hw, e1, am_tnA, am_tnM, Int.reduceToNat, am_addE, am_subE, am_mulE, am_laddE, am_lsubE, am_upO, am_upS, am_stS, am_stO, am_tnn, am_brl, am_brg, am_bre, am_brn, am_brG, am_brL, am_st1, am_no2, am_st2, am_clr]
        refine am_wp_br (fun b192 => ?_) (fun b192 => ?_)
        · have b192 : enF G (s : Int) ≤ enF G (x i) := b192
          refine am_wp_go rfl (by simp (disch := omega) only [s124 hw, r124_14 hw, s126 hw, e1, am_tnA, am_tnM, Int.reduceToNat, am_addE, am_subE, am_mulE, am_laddE, am_lsubE, am_upO, am_upS, am_stS, am_stO, am_tnn, am_brl, am_brg, am_bre, am_brn, am_brG, am_brL, am_st1, am_no2, am_st2, am_clr, and_self, true_and, and_true, true_or, or_true, List.length_cons, List.length_nil] <;> omega) ?_
          try simp (disch := omega) only [s124 hw, r124_14 hw, s126 hw, e1, am_tnA, am_tnM, Int.reduceToNat, am_addE, am_subE, am_mulE, am_laddE, am_lsubE, am_upO, am_upS, am_stS, am_stO, am_tnn, am_brl, am_brg, am_bre, am_brn, am_brG, am_brL, am_st1, am_no2, am_st2, am_clr]
          refine am_wp_ret rfl rfl ?_
          rwa [am_bF (by omega)] at h
        · have b192 : ¬ enF G (s : Int) ≤ enF G (x i) := b192
          refine am_wp_go rfl (by simp (disch := omega) only [s124 hw, r124_14 hw, s126 hw, e1, am_tnA, am_tnM, Int.reduceToNat, am_addE, am_subE, am_mulE, am_laddE, am_lsubE, am_upO, am_upS, am_stS, am_stO, am_tnn, am_brl, am_brg, am_bre, am_brn, am_brG, am_brL, am_st1, am_no2, am_st2, am_clr, and_self, true_and, and_true, true_or, or_true, List.length_cons, List.length_nil] <;> omega) ?_
          try simp (disch := omega) only [s124 hw, r124_14 hw, s126 hw, e1, am_tnA, am_tnM, Int.reduceToNat, am_addE, am_subE, am_mulE, am_laddE, am_lsubE, am_upO, am_upS, am_stS, am_stO, am_tnn, am_brl, am_brg, am_bre, am_brn, am_brG, am_brL, am_st1, am_no2, am_st2, am_clr]
          refine am_wp_ret rfl rfl ?_
          rwa [am_bT (by omega)] at h
    · have h := V (by omega) rfl
      unfold svA svL at h
      rw [if_neg (by omega), if_neg (by omega), if_neg (by omega)] at h
      refine am_wp_go rfl (by simp (disch := omega) only [s124 hw, r124_14 hw, s126 hw, am_tnA, am_tnM, Int.reduceToNat, am_addE, am_subE, am_mulE, am_laddE, am_lsubE, am_upO, am_upS, am_stS, am_stO, am_tnn, am_brl, am_brg, am_bre, am_brn, am_brG, am_brL, am_st1, am_no2, am_st2, am_clr, and_self, true_and, and_true, true_or, or_true, List.length_cons, List.length_nil] <;> omega) ?_
      try simp (disch := omega) only [s124 hw, r124_14 hw, s126 hw, am_tnA, am_tnM, Int.reduceToNat, am_addE, am_subE, am_mulE, am_laddE, am_lsubE, am_upO, am_upS, am_stS, am_stO, am_tnn, am_brl, am_brg, am_bre, am_brn, am_brG, am_brL, am_st1, am_no2, am_st2, am_clr]
      refine am_wp_lsw (fun q => ?_) ⟨fun q => absurd q (by omega), fun q => absurd q (by omega), fun q => absurd q (by omega), fun q => absurd q (by omega), fun q => absurd q (by omega), fun q => absurd q (by omega), trivial⟩
      refine am_wp_pc (pc' := 201) rfl ?_
      clear q
      refine am_wp_go rfl (by simp (disch := omega) only [s124 hw, r124_14 hw, s126 hw, am_tnA, am_tnM, Int.reduceToNat, am_addE, am_subE, am_mulE, am_laddE, am_lsubE, am_upO, am_upS, am_stS, am_stO, am_tnn, am_brl, am_brg, am_bre, am_brn, am_brG, am_brL, am_st1, am_no2, am_st2, am_clr, and_self, true_and, and_true, true_or, or_true, List.length_cons, List.length_nil] <;> omega) ?_
      try simp (disch := omega) only [s124 hw, r124_14 hw, s126 hw, am_tnA, am_tnM, Int.reduceToNat, am_addE, am_subE, am_mulE, am_laddE, am_lsubE, am_upO, am_upS, am_stS, am_stO, am_tnn, am_brl, am_brg, am_bre, am_brn, am_brG, am_brL, am_st1, am_no2, am_st2, am_clr]
      refine am_wp_br (fun b216 => ?_) (fun b216 => ?_)
      · refine am_wp_go rfl (by simp (disch := omega) only [s124 hw, r124_14 hw, s126 hw, am_tnA, am_tnM, Int.reduceToNat, am_addE, am_subE, am_mulE, am_laddE, am_lsubE, am_upO, am_upS, am_stS, am_stO, am_tnn, am_brl, am_brg, am_bre, am_brn, am_brG, am_brL, am_st1, am_no2, am_st2, am_clr, and_self, true_and, and_true, true_or, or_true, List.length_cons, List.length_nil] <;> omega) ?_
        try simp (disch := omega) only [s124 hw, r124_14 hw, s126 hw, am_tnA, am_tnM, Int.reduceToNat, am_addE, am_subE, am_mulE, am_laddE, am_lsubE, am_upO, am_upS, am_stS, am_stO, am_tnn, am_brl, am_brg, am_bre, am_brn, am_brG, am_brL, am_st1, am_no2, am_st2, am_clr]
        refine am_wp_br (fun b232 => ?_) (fun b232 => ?_)
        · refine am_wp_go rfl (by simp (disch := omega) only [s124 hw, r124_14 hw, s126 hw, am_tnA, am_tnM, Int.reduceToNat, am_addE, am_subE, am_mulE, am_laddE, am_lsubE, am_upO, am_upS, am_stS, am_stO, am_tnn, am_brl, am_brg, am_bre, am_brn, am_brG, am_brL, am_st1, am_no2, am_st2, am_clr, and_self, true_and, and_true, true_or, or_true, List.length_cons, List.length_nil] <;> omega) ?_
          try simp (disch := omega) only [s124 hw, r124_14 hw, s126 hw, am_tnA, am_tnM, Int.reduceToNat, am_addE, am_subE, am_mulE, am_laddE, am_lsubE, am_upO, am_upS, am_stS, am_stO, am_tnn, am_brl, am_brg, am_bre, am_brn, am_brG, am_brL, am_st1, am_no2, am_st2, am_clr]
          refine am_wp_br (fun b248 => ?_) (fun b248 => ?_)
          · rw [if_neg (by omega), if_neg (by omega), if_neg (by omega), ← e2, ← e3] at h
            refine am_wp_go rfl (by simp (disch := omega) only [s124 hw, r124_14 hw, s126 hw, am_tnA, am_tnM, Int.reduceToNat, am_addE, am_subE, am_mulE, am_laddE, am_lsubE, am_upO, am_upS, am_stS, am_stO, am_tnn, am_brl, am_brg, am_bre, am_brn, am_brG, am_brL, am_st1, am_no2, am_st2, am_clr, and_self, true_and, and_true, true_or, or_true, List.length_cons, List.length_nil] <;> omega) ?_
            try simp (disch := omega) only [s124 hw, r124_14 hw, s126 hw, am_tnA, am_tnM, Int.reduceToNat, am_addE, am_subE, am_mulE, am_laddE, am_lsubE, am_upO, am_upS, am_stS, am_stO, am_tnn, am_brl, am_brg, am_bre, am_brn, am_brG, am_brL, am_st1, am_no2, am_st2, am_clr]
            refine am_wp_cc rfl rfl rfl (congrArg Prod.fst (s124 hw)) (w_M_endOf (s := (s : Int)) hw hr hg ⟨_, rfl, ?_⟩)
            refine am_wp_goc [266] rfl (by simp (disch := omega) only [s124 hw, r124_14 hw, s126 hw, am_tnA, am_tnM, Int.reduceToNat, am_addE, am_subE, am_mulE, am_laddE, am_lsubE, am_upO, am_upS, am_stS, am_stO, am_tnn, am_brl, am_brg, am_bre, am_brn, am_brG, am_brL, am_st1, am_no2, am_st2, am_clr, and_self, true_and, and_true, true_or, or_true, List.length_cons, List.length_nil] <;> omega) ?_
            try simp (disch := omega) only [s124 hw, r124_14 hw, s126 hw, am_tnA, am_tnM, Int.reduceToNat, am_addE, am_subE, am_mulE, am_laddE, am_lsubE, am_upO, am_upS, am_stS, am_stO, am_tnn, am_brl, am_brg, am_bre, am_brn, am_brG, am_brL, am_st1, am_no2, am_st2, am_clr]
            exact am_wp_ls (w_M_cmp hw (by omega) h) rfl
          · rw [if_neg (by omega), if_neg (by omega), if_pos (by omega), ← e2, ← e3] at h
            refine am_wp_go rfl (by simp (disch := omega) only [s124 hw, r124_14 hw, s126 hw, am_tnA, am_tnM, Int.reduceToNat, am_addE, am_subE, am_mulE, am_laddE, am_lsubE, am_upO, am_upS, am_stS, am_stO, am_tnn, am_brl, am_brg, am_bre, am_brn, am_brG, am_brL, am_st1, am_no2, am_st2, am_clr, and_self, true_and, and_true, true_or, or_true, List.length_cons, List.length_nil] <;> omega) ?_
            try simp (disch := omega) only [s124 hw, r124_14 hw, s126 hw, am_tnA, am_tnM, Int.reduceToNat, am_addE, am_subE, am_mulE, am_laddE, am_lsubE, am_upO, am_upS, am_stS, am_stO, am_tnn, am_brl, am_brg, am_bre, am_brn, am_brG, am_brL, am_st1, am_no2, am_st2, am_clr]
            refine am_wp_cc rfl rfl rfl (congrArg Prod.fst (s124 hw)) (w_M_goesOf (s := (s : Int)) hw hr hg ⟨_, rfl, ?_⟩)
            refine am_wp_goc [266] rfl (by simp (disch := omega) only [s124 hw, r124_14 hw, s126 hw, am_tnA, am_tnM, Int.reduceToNat, am_addE, am_subE, am_mulE, am_laddE, am_lsubE, am_upO, am_upS, am_stS, am_stO, am_tnn, am_brl, am_brg, am_bre, am_brn, am_brG, am_brL, am_st1, am_no2, am_st2, am_clr, and_self, true_and, and_true, true_or, or_true, List.length_cons, List.length_nil] <;> omega) ?_
            try simp (disch := omega) only [s124 hw, r124_14 hw, s126 hw, am_tnA, am_tnM, Int.reduceToNat, am_addE, am_subE, am_mulE, am_laddE, am_lsubE, am_upO, am_upS, am_stS, am_stO, am_tnn, am_brl, am_brg, am_bre, am_brn, am_brG, am_brL, am_st1, am_no2, am_st2, am_clr]
            exact am_wp_ls (w_M_cmp hw (by omega) h) rfl
        · rw [if_neg (by omega), if_pos (by omega), ← e2, ← e3] at h
          refine am_wp_go rfl (by simp (disch := omega) only [s124 hw, r124_14 hw, s126 hw, am_tnA, am_tnM, Int.reduceToNat, am_addE, am_subE, am_mulE, am_laddE, am_lsubE, am_upO, am_upS, am_stS, am_stO, am_tnn, am_brl, am_brg, am_bre, am_brn, am_brG, am_brL, am_st1, am_no2, am_st2, am_clr, and_self, true_and, and_true, true_or, or_true, List.length_cons, List.length_nil] <;> omega) ?_
          try simp (disch := omega) only [s124 hw, r124_14 hw, s126 hw, am_tnA, am_tnM, Int.reduceToNat, am_addE, am_subE, am_mulE, am_laddE, am_lsubE, am_upO, am_upS, am_stS, am_stO, am_tnn, am_brl, am_brg, am_bre, am_brn, am_brG, am_brL, am_st1, am_no2, am_st2, am_clr]
          refine am_wp_cc rfl rfl rfl (congrArg Prod.fst (s124 hw)) (w_M_needs1 hw (by omega) ⟨_, rfl, ?_⟩)
          refine am_wp_goc [266] rfl (by simp (disch := omega) only [s124 hw, r124_14 hw, s126 hw, am_tnA, am_tnM, Int.reduceToNat, am_addE, am_subE, am_mulE, am_laddE, am_lsubE, am_upO, am_upS, am_stS, am_stO, am_tnn, am_brl, am_brg, am_bre, am_brn, am_brG, am_brL, am_st1, am_no2, am_st2, am_clr, and_self, true_and, and_true, true_or, or_true, List.length_cons, List.length_nil] <;> omega) ?_
          try simp (disch := omega) only [s124 hw, r124_14 hw, s126 hw, am_tnA, am_tnM, Int.reduceToNat, am_addE, am_subE, am_mulE, am_laddE, am_lsubE, am_upO, am_upS, am_stS, am_stO, am_tnn, am_brl, am_brg, am_bre, am_brn, am_brG, am_brL, am_st1, am_no2, am_st2, am_clr]
          exact am_wp_ls (w_M_cmp hw (by omega) h) rfl
      · rw [if_pos (by omega), ← e2, ← e3] at h
        refine am_wp_go rfl (by simp (disch := omega) only [s124 hw, r124_14 hw, s126 hw, am_tnA, am_tnM, Int.reduceToNat, am_addE, am_subE, am_mulE, am_laddE, am_lsubE, am_upO, am_upS, am_stS, am_stO, am_tnn, am_brl, am_brg, am_bre, am_brn, am_brG, am_brL, am_st1, am_no2, am_st2, am_clr, and_self, true_and, and_true, true_or, or_true, List.length_cons, List.length_nil] <;> omega) ?_
        try simp (disch := omega) only [s124 hw, r124_14 hw, s126 hw, am_tnA, am_tnM, Int.reduceToNat, am_addE, am_subE, am_mulE, am_laddE, am_lsubE, am_upO, am_upS, am_stS, am_stO, am_tnn, am_brl, am_brg, am_bre, am_brn, am_brG, am_brL, am_st1, am_no2, am_st2, am_clr]
        refine am_wp_cc rfl rfl rfl (congrArg Prod.fst (s124 hw)) (w_M_needs0 hw (by omega) ⟨_, rfl, ?_⟩)
        refine am_wp_goc [266] rfl (by simp (disch := omega) only [s124 hw, r124_14 hw, s126 hw, am_tnA, am_tnM, Int.reduceToNat, am_addE, am_subE, am_mulE, am_laddE, am_lsubE, am_upO, am_upS, am_stS, am_stO, am_tnn, am_brl, am_brg, am_bre, am_brn, am_brG, am_brL, am_st1, am_no2, am_st2, am_clr, and_self, true_and, and_true, true_or, or_true, List.length_cons, List.length_nil] <;> omega) ?_
        try simp (disch := omega) only [s124 hw, r124_14 hw, s126 hw, am_tnA, am_tnM, Int.reduceToNat, am_addE, am_subE, am_mulE, am_laddE, am_lsubE, am_upO, am_upS, am_stS, am_stO, am_tnn, am_brl, am_brg, am_bre, am_brn, am_brG, am_brL, am_st1, am_no2, am_st2, am_clr]
        exact am_wp_ls (w_M_cmp hw (by omega) h) rfl
end HL
