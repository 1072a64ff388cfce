/-! plan() by the class -/
def ptC (I J : Nat → Nat → Int) (G : List Go) (H : List (List Go)) : Prop := (∀ a, ¬ (a = 4 ∨ a = 14 ∨ a = 15 ∨ a = 22 ∨ 24 ≤ a ∧ a ≤ 39 ∨ a = 48 ∨ a = 49 ∨ a = 55 ∨ 58 ≤ a ∧ a ≤ 60) → J a = I a) ∧ (∀ j, j ≠ 16 → J 4 j = I 4 j) ∧ J 4 16 = 0 ∧ J 55 1 = 0 ∧ pl J 14 G ∧ hsC J H
section PP
variable {m sl : Nat} {sh : Nat → Nat × Nat} {I : Nat → Nat → Int} {R : Nat → Nat → Nat} {Q : am_R → am_M → Prop} {d : Nat} {N j : Nat} {T : Nat → Tk} {NM : Nat → List Nat} {q P : Nat}
theorem pGo_30 {S S' : PLS} {n : Nat} (h : pGo T NM n P S = .inr S') : S.2.length ≠ 30 := fun hx => by
  unfold pGo at h
  split at h
  · cases h
  · split at h
    · cases h
    · first | cases h | (rw [if_pos hx] at h; cases h)
theorem w_pread (hw : wd sh R) (hc : tpC I T N 0) (hT : tkOk T) (hm : nmC I NM q) (hP : I 6 1 = (P : Int) + 1) (hP4 : P < 4)
    (h0 : ∀ e, pAll T NM q P 32 (0, []) = .inl e → ∀ J, frP I J → J 55 11 = (e.1 : Int) → J 55 12 = (e.2 : Int) → Q (am_yi 0) (m, sl, sh, J, R))
    (h1 : ∀ S', pAll T NM q P 32 (0, []) = .inr S' → S'.2.length ≤ 30 → ∀ J, frP I J → pl J 48 S'.2 → Q (am_yi 1) (m, sl, sh, J, R)) : am_wp (d + 3) 76 0 [some (.inr (.inr (48))), some (.inr (.inr (55))), some (.inr (.inr (6))), none] [] (m, sl, sh, I, R) Q := by
  refine am_wp_go rfl (by simp (disch := omega) only [am_addE, am_subE, am_mulE, am_laddE, am_lsubE, am_upO, am_upS, am_stS, am_stO, am_tnn, am_brl, am_brg, am_bre, am_brn, am_brG, am_brL, am_st1, am_no2, am_st2, am_clr, and_self, true_and, and_true, true_or, or_true, List.length_cons, List.length_nil] <;> omega) ?_
  try simp (disch := omega) only [am_addE, am_subE, am_mulE, am_laddE, am_lsubE, am_upO, am_upS, am_stS, am_stO, am_tnn, am_brl, am_brg, am_bre, am_brn, am_brG, am_brL, am_st1, am_no2, am_st2, am_clr]
  refine am_wp_cc rfl rfl rfl (congrArg Prod.fst (s48 hw)) (w_plclear (pl_w hw (by decide)) (fun J j0 j1 => ⟨_, rfl, ?_⟩))
  refine am_wp_go rfl (by simp (disch := omega) only [am_addE, am_subE, am_mulE, am_laddE, am_lsubE, am_upO, am_upS, am_stS, am_stO, am_tnn, am_brl, am_brg, am_bre, am_brn, am_brG, am_brL, am_st1, am_no2, am_st2, am_clr, and_self, true_and, and_true, true_or, or_true, List.length_cons, List.length_nil] <;> omega) ?_
  try simp (disch := omega) only [am_addE, am_subE, am_mulE, am_laddE, am_lsubE, am_upO, am_upS, am_stS, am_stO, am_tnn, am_brl, am_brg, am_bre, am_brn, am_brG, am_brL, am_st1, am_no2, am_st2, am_clr]
  have LP : ∀ i : Nat, i ≤ 31 → ∀ (S : PLS) (K : Nat → Nat → Int), frP I K → pl K 48 S.2 → S.2.length = i → (i = 31 → False) → tpC K T N S.1 → pAll T NM q P (32 - i) S = pAll T NM q P 32 (0, []) → am_wp (d + 3) 76 6 [some (.inr (.inr (48))), some (.inr (.inr (55))), some (.inr (.inr (6))), some (.inl ((i : Int)))] [] (m, sl, sh, K, R) Q := by
    refine am_lp 31 (fun i hi ih S K f0 f1 f2 fx f3 f5 => ?_)
    obtain ⟨g1, g2, g3, g4, g5, g6, g7, g8⟩ := id f3
    have k0 := cK_0 (t := T S.1)
    have hm' := nmC_fr hm f0
    have hP' : K 6 1 = (P : Int) + 1 := by rw [f0.1 6 (by decide) (by decide) (by decide)]; exact hP
    have hi31 : i ≤ 30 := by
      rcases Nat.lt_or_ge i 31 with hl | hl
      · omega
      · exact (fx (by omega)).elim
    clear fx
    refine am_wp_go rfl (by simp (disch := omega) only [s55 hw, g6, am_addE, am_subE, am_mulE, am_laddE, am_lsubE, am_upO, am_upS, am_stS, am_stO, am_tnn, am_brl, am_brg, am_bre, am_brn, am_brG, am_brL, am_st1, am_no2, am_st2, am_clr, and_self, true_and, and_true, true_or, or_true, List.length_cons, List.length_nil] <;> omega) ?_
    try simp (disch := omega) only [s55 hw, g6, am_addE, am_subE, am_mulE, am_laddE, am_lsubE, am_upO, am_upS, am_stS, am_stO, am_tnn, am_brl, am_brg, am_bre, am_brn, am_brG, am_brL, am_st1, am_no2, am_st2, am_clr]
    refine am_wp_br (fun b9 => ?_) (fun b9 => ?_)
    · omega
    · refine am_wp_go rfl (by simp (disch := omega) only [s55 hw, g6, am_addE, am_subE, am_mulE, am_laddE, am_lsubE, am_upO, am_upS, am_stS, am_stO, am_tnn, am_brl, am_brg, am_bre, am_brn, am_brG, am_brL, am_st1, am_no2, am_st2, am_clr, and_self, true_and, and_true, true_or, or_true, List.length_cons, List.length_nil] <;> omega) ?_
      try simp (disch := omega) only [s55 hw, g6, am_addE, am_subE, am_mulE, am_laddE, am_lsubE, am_upO, am_upS, am_stS, am_stO, am_tnn, am_brl, am_brg, am_bre, am_brn, am_brG, am_brL, am_st1, am_no2, am_st2, am_clr]
      refine am_wp_br (fun b16 => ?_) (fun b16 => ?_)
      · rw [show 32 - i = (31 - i) + 1 by omega, pAll_0 (k0.mp b16)] at f5
        refine am_wp_go rfl (by simp (disch := omega) only [s55 hw, g6, am_addE, am_subE, am_mulE, am_laddE, am_lsubE, am_upO, am_upS, am_stS, am_stO, am_tnn, am_brl, am_brg, am_bre, am_brn, am_brG, am_brL, am_st1, am_no2, am_st2, am_clr, and_self, true_and, and_true, true_or, or_true, List.length_cons, List.length_nil] <;> omega) ?_
        try simp (disch := omega) only [s55 hw, g6, am_addE, am_subE, am_mulE, am_laddE, am_lsubE, am_upO, am_upS, am_stS, am_stO, am_tnn, am_brl, am_brg, am_bre, am_brn, am_brG, am_brL, am_st1, am_no2, am_st2, am_clr]
        refine am_wp_ret rfl rfl ?_
        exact h1 S f5.symm (by omega) K f0 f1
      · rw [show 32 - i = (32 - (i + 1)) + 1 by omega, pAll_s (fun hx => b16 (k0.mpr hx))] at f5
        have ih := ih (by omega)
        clear k0
        refine am_wp_go rfl (by simp (disch := omega) only [s55 hw, am_b0, am_bn0, am_addE, am_subE, am_mulE, am_laddE, am_lsubE, am_upO, am_upS, am_stS, am_stO, am_tnn, am_brl, am_brg, am_bre, am_brn, am_brG, am_brL, am_st1, am_no2, am_st2, am_clr, and_self, true_and, and_true, true_or, or_true, List.length_cons, List.length_nil] <;> omega) ?_
        try simp (disch := omega) only [s55 hw, am_b0, am_bn0, am_addE, am_subE, am_mulE, am_laddE, am_lsubE, am_upO, am_upS, am_stS, am_stO, am_tnn, am_brl, am_brg, am_bre, am_brn, am_brG, am_brL, am_st1, am_no2, am_st2, am_clr]
        refine am_wp_cc rfl rfl rfl (congrArg Prod.fst (s48 hw)) (w_pReadLine hw f3 hT hm' hP' hP4 f1 (by omega) (fun e he V v0 v1 v2 => ⟨_, rfl, ?_⟩) (fun S' he hl V v0 v1 v2 => ⟨_, rfl, ?_⟩))
        · rw [he] at f5
          refine am_wp_go rfl (by simp (disch := omega) only [s55 hw, am_b0, am_bn0, am_addE, am_subE, am_mulE, am_laddE, am_lsubE, am_upO, am_upS, am_stS, am_stO, am_tnn, am_brl, am_brg, am_bre, am_brn, am_brG, am_brL, am_st1, am_no2, am_st2, am_clr, and_self, true_and, and_true, true_or, or_true, List.length_cons, List.length_nil] <;> omega) ?_
          refine am_wp_pc (pc' := 37) rfl ?_
          refine am_wp_go rfl (by simp (disch := omega) only [s55 hw, am_b0, am_bn0, am_addE, am_subE, am_mulE, am_laddE, am_lsubE, am_upO, am_upS, am_stS, am_stO, am_tnn, am_brl, am_brg, am_bre, am_brn, am_brG, am_brL, am_st1, am_no2, am_st2, am_clr, and_self, true_and, and_true, true_or, or_true, List.length_cons, List.length_nil] <;> omega) ?_
          try simp (disch := omega) only [s55 hw, am_b0, am_bn0, am_addE, am_subE, am_mulE, am_laddE, am_lsubE, am_upO, am_upS, am_stS, am_stO, am_tnn, am_brl, am_brg, am_bre, am_brn, am_brG, am_brL, am_st1, am_no2, am_st2, am_clr]
          refine am_wp_ret rfl rfl ?_
          exact h0 e f5.symm V (frP_tr f0 v0) v1 v2
        · have n30 := pGo_30 he
          rw [he] at f5
          refine am_wp_go rfl (by simp (disch := omega) only [s55 hw, am_b0, am_bn0, am_addE, am_subE, am_mulE, am_laddE, am_lsubE, am_upO, am_upS, am_stS, am_stO, am_tnn, am_brl, am_brg, am_bre, am_brn, am_brG, am_brL, am_st1, am_no2, am_st2, am_clr, and_self, true_and, and_true, true_or, or_true, List.length_cons, List.length_nil] <;> omega) ?_
          refine am_wp_pc (pc' := 28) rfl ?_
          refine am_wp_go rfl (by simp (disch := omega) only [s55 hw, am_b0, am_bn0, am_addE, am_subE, am_mulE, am_laddE, am_lsubE, am_upO, am_upS, am_stS, am_stO, am_tnn, am_brl, am_brg, am_bre, am_brn, am_brG, am_brL, am_st1, am_no2, am_st2, am_clr, and_self, true_and, and_true, true_or, or_true, List.length_cons, List.length_nil] <;> omega) ?_
          try simp (disch := omega) only [s55 hw, am_b0, am_bn0, am_addE, am_subE, am_mulE, am_laddE, am_lsubE, am_upO, am_upS, am_stS, am_stO, am_tnn, am_brl, am_brg, am_bre, am_brn, am_brG, am_brL, am_st1, am_no2, am_st2, am_clr]
          refine am_wp_cc rfl rfl rfl (congrArg Prod.fst (s55 hw)) (w_takeSign (c := 59) hw v2 (fun ns X x0 x1 x2 => ⟨_, rfl, ?_⟩) (fun ys X x0 x1 x2 x3 => ⟨_, rfl, ?_⟩))
          · have e2 : pEnd T (.inr S') = .inl (1, plT T S'.1) := by unfold pEnd; dsimp only; rw [if_neg ns]
            rw [e2] at f5
            refine am_wp_go rfl (by simp (disch := omega) only [s55 hw, am_b0, am_bn0, am_addE, am_subE, am_mulE, am_laddE, am_lsubE, am_upO, am_upS, am_stS, am_stO, am_tnn, am_brl, am_brg, am_bre, am_brn, am_brG, am_brL, am_st1, am_no2, am_st2, am_clr, and_self, true_and, and_true, true_or, or_true, List.length_cons, List.length_nil] <;> omega) ?_
            refine am_wp_pc (pc' := 37) rfl ?_
            refine am_wp_go rfl (by simp (disch := omega) only [s55 hw, am_b0, am_bn0, am_addE, am_subE, am_mulE, am_laddE, am_lsubE, am_upO, am_upS, am_stS, am_stO, am_tnn, am_brl, am_brg, am_bre, am_brn, am_brG, am_brL, am_st1, am_no2, am_st2, am_clr, and_self, true_and, and_true, true_or, or_true, List.length_cons, List.length_nil] <;> omega) ?_
            try simp (disch := omega) only [s55 hw, am_b0, am_bn0, am_addE, am_subE, am_mulE, am_laddE, am_lsubE, am_upO, am_upS, am_stS, am_stO, am_tnn, am_brl, am_brg, am_bre, am_brn, am_brG, am_brL, am_st1, am_no2, am_st2, am_clr]
            refine am_wp_ret rfl rfl ?_
            exact h0 _ f5.symm X (frP_tr (frP_tr f0 v0) (frP_A x0)) x1 x2
          · have e2 : pEnd T (.inr S') = .inr (S'.1 + 1, S'.2) := by unfold pEnd; dsimp only; rw [if_pos ys]
            rw [e2] at f5
            refine am_wp_go rfl (by simp (disch := omega) only [s55 hw, am_b0, am_bn0, am_addE, am_subE, am_mulE, am_laddE, am_lsubE, am_upO, am_upS, am_stS, am_stO, am_tnn, am_brl, am_brg, am_bre, am_brn, am_brG, am_brL, am_st1, am_no2, am_st2, am_clr, and_self, true_and, and_true, true_or, or_true, List.length_cons, List.length_nil] <;> omega) ?_
            refine am_wp_pc (pc' := 39) rfl ?_
            refine am_wp_go rfl (by simp (disch := omega) only [am_b0, am_bn0, am_addE, am_subE, am_mulE, am_laddE, am_lsubE, am_upO, am_upS, am_stS, am_stO, am_tnn, am_brl, am_brg, am_bre, am_brn, am_brG, am_brL, am_st1, am_no2, am_st2, am_clr, and_self, true_and, and_true, true_or, or_true, List.length_cons, List.length_nil] <;> omega) ?_
            try simp (disch := omega) only [am_b0, am_bn0, am_addE, am_subE, am_mulE, am_laddE, am_lsubE, am_upO, am_upS, am_stS, am_stO, am_tnn, am_brl, am_brg, am_bre, am_brn, am_brG, am_brL, am_st1, am_no2, am_st2, am_clr]
            exact am_wp_ls (ih (S'.1 + 1, S'.2) X (frP_tr (frP_tr f0 v0) (frP_A x0)) (pl_frA v1 x0) (by dsimp only; omega) (fun hx => by omega) x3 f5) rfl
  exact am_wp_ls (LP 0 (by decide) (0, []) J ⟨fun a a1 a2 a3 => j0 a a1, by rw [j0 55 (by decide)]⟩ j1 rfl (fun hx => by cases hx) (tpC_fr hc (fun k _ _ _ => by rw [j0 55 (by decide)]) (j0 58 (by decide)) (j0 59 (by decide)) (j0 60 (by decide))) rfl) rfl
theorem c_plan {n : Nat} {b : Nat → Nat} {G : List Go} {H : List (List Go)} (hw : wd sh R) (hn : n ≤ 640) (h1 : I 55 1 = (n : Int)) (h57 : I 57 = ownR) (hb : ∀ k, k < n → I 56 k = sbyte (b k : Int) ∧ b k ≤ 255) (hm : nmC I NM q) (hP : I 6 1 = (P : Int) + 1) (hP4 : P < 4) (ho : pl I 14 G) (hh : hsC I H)
    (h0 : ∀ e, pAll (lxJ b n 600) NM q P 32 (0, []) = .inl e → ∀ J, txF I J (e.1 : Int) → Q (am_yi (-1 - (e.2 : Int))) (m, sl, sh, J, R))
    (hk : ∀ S', pAll (lxJ b n 600) NM q P 32 (0, []) = .inr S' → S'.2.length ≤ 30 → ∀ J, ptC I J S'.2 (hpush H G) → Q (am_yi (S'.2.length : Int)) (m, sl, sh, J, R)) : am_wp (d + 4) 137 0 [some (.inr (.inr (4)))] [] (m, sl, sh, I, R) Q := by
  refine am_wp_go rfl (by simp (disch := omega) only [s4 hw, r4_6 hw, r4_4 hw, r4_0 hw, s5 hw, r5_0 hw, am_addE, am_subE, am_mulE, am_laddE, am_lsubE, am_upO, am_upS, am_stS, am_stO, am_tnn, am_brl, am_brg, am_bre, am_brn, am_brG, am_brL, am_st1, am_no2, am_st2, am_clr, and_self, true_and, and_true, true_or, or_true, List.length_cons, List.length_nil] <;> omega) ?_
  try simp (disch := omega) only [s4 hw, r4_6 hw, r4_4 hw, r4_0 hw, s5 hw, r5_0 hw, am_addE, am_subE, am_mulE, am_laddE, am_lsubE, am_upO, am_upS, am_stS, am_stO, am_tnn, am_brl, am_brg, am_bre, am_brn, am_brG, am_brL, am_st1, am_no2, am_st2, am_clr]
  refine am_wp_cc rfl rfl rfl (congrArg Prod.fst (s55 hw)) (w_open (lim := 600) (b := b) hw hn (by decide) h1 h57 hb (fun J N j0 j1 j2 => ⟨_, rfl, ?_⟩))
  have hm' : nmC J NM q := by
    unfold nmC at hm ⊢
    rw [j0 6 (by decide) (by decide) (by decide) (by decide), j0 12 (by decide) (by decide) (by decide) (by decide)]; exact hm
  have hP' : J 6 1 = (P : Int) + 1 := by rw [j0 6 (by decide) (by decide) (by decide) (by decide)]; exact hP
  refine am_wp_go rfl (by simp (disch := omega) only [s4 hw, r4_6 hw, r4_4 hw, r4_0 hw, s5 hw, r5_0 hw, am_addE, am_subE, am_mulE, am_laddE, am_lsubE, am_upO, am_upS, am_stS, am_stO, am_tnn, am_brl, am_brg, am_bre, am_brn, am_brG, am_brL, am_st1, am_no2, am_st2, am_clr, and_self, true_and, and_true, true_or, or_true, List.length_cons, List.length_nil] <;> omega) ?_
  try simp (disch := omega) only [s4 hw, r4_6 hw, r4_4 hw, r4_0 hw, s5 hw, r5_0 hw, am_addE, am_subE, am_mulE, am_laddE, am_lsubE, am_upO, am_upS, am_stS, am_stO, am_tnn, am_brl, am_brg, am_bre, am_brn, am_brG, am_brL, am_st1, am_no2, am_st2, am_clr]
  refine am_wp_cc rfl rfl rfl (congrArg Prod.fst (s48 hw)) (w_pread hw j2 lxJ_ok hm' hP' hP4 (fun e he K k0 k1 k2 => ⟨_, rfl, ?_⟩) (fun S' he hl K k0 k1 => ⟨_, rfl, ?_⟩))
  · have hp : e.2 ≤ 640 := by
      obtain ⟨i, hi⟩ := pAll_pl _ _ he
      rw [hi]; exact lx_pl hn (by decide)
    refine am_wp_go rfl (by simp (disch := omega) only [s4 hw, r4_6 hw, r4_4 hw, r4_0 hw, s5 hw, r5_0 hw, am_addE, am_subE, am_mulE, am_laddE, am_lsubE, am_upO, am_upS, am_stS, am_stO, am_tnn, am_brl, am_brg, am_bre, am_brn, am_brG, am_brL, am_st1, am_no2, am_st2, am_clr, and_self, true_and, and_true, true_or, or_true, List.length_cons, List.length_nil] <;> omega) ?_
    refine am_wp_pc (pc' := 31) rfl ?_
    refine am_wp_go rfl (by simp (disch := omega) only [s4 hw, r4_6 hw, r4_4 hw, r4_0 hw, s5 hw, r5_0 hw, am_addE, am_subE, am_mulE, am_laddE, am_lsubE, am_upO, am_upS, am_stS, am_stO, am_tnn, am_brl, am_brg, am_bre, am_brn, am_brG, am_brL, am_st1, am_no2, am_st2, am_clr, and_self, true_and, and_true, true_or, or_true, List.length_cons, List.length_nil] <;> omega) ?_
    try simp (disch := omega) only [s4 hw, r4_6 hw, r4_4 hw, r4_0 hw, s5 hw, r5_0 hw, am_addE, am_subE, am_mulE, am_laddE, am_lsubE, am_upO, am_upS, am_stS, am_stO, am_tnn, am_brl, am_brg, am_bre, am_brn, am_brG, am_brL, am_st1, am_no2, am_st2, am_clr]
    refine am_wp_cc rfl rfl rfl (congrArg Prod.fst (s4 hw)) (w_tellFault (k := e.1) (p := e.2) hw k1 k2 (by omega) ⟨_, rfl, ?_⟩)
    refine am_wp_ret rfl rfl ?_
    refine h0 e he _ ⟨fun a ha => ?_, fun i hi => ?_, by rw [am_upS, am_stS rfl], ?_⟩
    · rw [am_upO (by omega), k0.1 a (by omega) (by omega) (by omega), j0 a (by omega) (by omega) (by omega) (by omega)]
    · rw [am_upS, am_stO hi, k0.1 4 (by decide) (by decide) (by decide), j0 4 (by decide) (by decide) (by decide) (by decide)]
    · rw [am_upO (by decide), k0.2, j1]
  · have hK := hk S' he hl
    clear h0 hk
    refine am_wp_go rfl (by simp (disch := omega) only [s4 hw, r4_6 hw, r4_4 hw, r4_0 hw, s5 hw, r5_0 hw, am_addE, am_subE, am_mulE, am_laddE, am_lsubE, am_upO, am_upS, am_stS, am_stO, am_tnn, am_brl, am_brg, am_bre, am_brn, am_brG, am_brL, am_st1, am_no2, am_st2, am_clr, and_self, true_and, and_true, true_or, or_true, List.length_cons, List.length_nil] <;> omega) ?_
    refine am_wp_pc (pc' := 36) rfl ?_
    refine am_wp_go rfl (by simp (disch := omega) only [s4 hw, am_addE, am_subE, am_mulE, am_laddE, am_lsubE, am_upO, am_upS, am_stS, am_stO, am_tnn, am_brl, am_brg, am_bre, am_brn, am_brG, am_brL, am_st1, am_no2, am_st2, am_clr, and_self, true_and, and_true, true_or, or_true, List.length_cons, List.length_nil] <;> omega) ?_
    try simp (disch := omega) only [s4 hw, am_addE, am_subE, am_mulE, am_laddE, am_lsubE, am_upO, am_upS, am_stS, am_stO, am_tnn, am_brl, am_brg, am_bre, am_brn, am_brG, am_brL, am_st1, am_no2, am_st2, am_clr]
    have base : ∀ a, ¬ (a = 4 ∨ a = 48 ∨ a = 49 ∨ a = 55 ∨ 58 ≤ a ∧ a ≤ 60) → am_up K 4 16 0 a = I a := fun a ha => by rw [am_upO (by omega), k0.1 a (by omega) (by omega) (by omega), j0 a (by omega) (by omega) (by omega) (by omega)]
    refine am_wp_cc rfl rfl rfl (congrArg Prod.fst (s4 hw)) (w_adopt (G := G) (G2 := S'.2) (H := H) hw (pl_fr ho (base 14 (by decide)) (base 15 (by decide))) (pl_fr k1 (am_upO (by decide)) (am_upO (by decide))) (hsC_fr hh (fun a ha => base a (by omega))) (fun V v0 v1 v2 => ⟨_, rfl, ?_⟩))
    have V48 : V 48 1 = (S'.2.length : Int) := by rw [v0 48 (by decide), am_upO (by decide)]; exact k1.1
    refine am_wp_go rfl (by simp (disch := omega) only [s4 hw, r4_4 hw, s48 hw, V48, am_addE, am_subE, am_mulE, am_laddE, am_lsubE, am_upO, am_upS, am_stS, am_stO, am_tnn, am_brl, am_brg, am_bre, am_brn, am_brG, am_brL, am_st1, am_no2, am_st2, am_clr, and_self, true_and, and_true, true_or, or_true, List.length_cons, List.length_nil] <;> omega) ?_
    try simp (disch := omega) only [s4 hw, r4_4 hw, s48 hw, V48, am_addE, am_subE, am_mulE, am_laddE, am_lsubE, am_upO, am_upS, am_stS, am_stO, am_tnn, am_brl, am_brg, am_bre, am_brn, am_brG, am_brL, am_st1, am_no2, am_st2, am_clr]
    refine am_wp_ret rfl rfl ?_
    refine hK V ⟨fun a ha => ?_, fun i hi => ?_, ?_, ?_, v1, v2⟩
    · rw [v0 a (by omega), base a (by omega)]
    · rw [v0 4 (by decide), am_upS, am_stO hi, k0.1 4 (by decide) (by decide) (by decide), j0 4 (by decide) (by decide) (by decide) (by decide)]
    · rw [v0 4 (by decide), am_upS, am_stS rfl]
    · rw [v0 55 (by decide), am_upO (by decide), k0.2, j1]
end PP
