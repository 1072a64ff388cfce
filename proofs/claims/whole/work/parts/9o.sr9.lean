/-! sentence() by the reference -/
/-- as txR2, but for what was made meanwhile -/
def txR3 (I J : Nat → Nat → Int) (k : Int) : Prop := (∀ a, a < 161 → a ≠ 124 → a ≠ 126 → a ≠ 127 → a ≠ 131 → a ≠ 134 → a ≠ 159 → J a = I a) ∧ (∀ j, ¬ (j = 0 ∨ 2 ≤ j ∧ j ≤ 13 ∨ 23 ≤ j ∧ j ≤ 24 ∨ 58 ≤ j) → J 124 j = I 124 j) ∧ J 124 2 = 0 ∧ J 124 10 = k ∧ J 124 23 = 1 ∧ J 126 = lw I
def snR (I J : Nat → Nat → Int) (q : Nat) (S : SNS) : Prop := (∀ a, a < 161 → a ≠ 124 → a ≠ 126 → a ≠ 159 → J a = I a) ∧ (∀ j, ¬ (j = 0 ∨ 2 ≤ j ∧ j ≤ 13 ∨ j = 23 ∨ 58 ≤ j) → J 124 j = I 124 j) ∧ J 124 2 = 0 ∧ J 124 10 = 0 ∧ J 124 23 = 1 ∧ (∀ j, j < 2059 → J 126 j = lw I j) ∧ J 126 2059 = 1 ∧ J 126 2060 = (S.2.2.length : Int) - 1 ∧ ∀ i, i < S.2.2.length → sx_node (stf S.2.2) (stg S.2.2) (stx S.2.2) (q : Int) (fun j => J 126 (2061 + j)) i
section SR
variable {d : Nat} {b : Nat → Nat} {n lim : Nat} {NM : Nat → List Nat} {q : Nat}
theorem w_M_sOneA : ∀ (e d k : Nat), k + e = 8 → cRn b n lim NM q (sOne (lxJ b n lim) NM q e) k (fun m sl sh I R Q => am_wp (d + 4 * e + 5) 313 0 [some (.inr (.inr (124))), none, none, none] [] (m, sl, sh, I, R) Q)
  | 0, d, k, hk => by
    have e8 : k = 8 := by omega
    subst e8
    exact w_M_sOne0 (d := d)
  | e + 1, d, k, hk => by
    have a1 := w_M_sOneA e d (k + 1) (by omega)
    have a2 := w_M_sOneA e (d + 2) (k + 1) (by omega)
    rw [show d + 2 + 4 * e + 5 = d + 4 * e + 2 + 5 by omega] at a2
    have hB := w_M_sBracket (w_M_sOr (w_M_sAnd a1 (sOne_K e) (sOne_P e)) (sSeq_K (sOne_K e)) (sSeq_P (Or.inl rfl) (sOne_P e))) (sSeq_K (sSeq_K (sOne_K e)))
    have hN := w_M_sNot a2 (sOne_K e) (sOne_P e)
    have a4 := w_M_sOneS (d := d + 4 * e) (by omega) hB hN
    rw [sOne_s, show d + 4 * (e + 1) + 5 = d + 4 * e + 9 by omega]
    exact a4
variable {m sl : Nat} {sh : Nat → Nat × Nat} {I : Nat → Nat → Int} {R : Nat → Nat → Nat} {Q : am_R → am_M → Prop}
set_option maxHeartbeats 4000000 in
theorem r_sentence (hw : wd sh R) (hm : 161 ≤ m) (hb : beg I) (hn : n ≤ 640) (h2 : I 124 2 = (n : Int)) (ht : ∀ k, k < n → I 125 k = (b k : Int) ∧ b k ≤ 255) (hm1 : lw I 5 = (q : Int)) (hm2 : q ≤ 8) (hm3 : ∀ s, s < q → letOk (NM (0 + s)) ∧ I 130 (0 + s) = (nm27 (NM (0 + s)) : Int))
    (h0 : ∀ e, sTxt (lxJ b n 200) NM q = .inl e → ∀ m' sl' sh' J R', mo sh R sh' R' → m ≤ m' → m' ≤ m + 21 → sl' ≤ sl + 168 → txR3 I J (e.1 : Int) → Q (am_yi (-1 - (e.2 : Int))) (m', sl', sh', J, R'))
    (hk : ∀ S, sTxt (lxJ b n 200) NM q = .inr S → ∀ m' sl' sh' J R', mo sh R sh' R' → m ≤ m' → m' ≤ m + 21 → sl' ≤ sl + 168 → snR I J q S → Q (am_yi (S.2.1 : Int)) (m', sl', sh', J, R')) : am_wp (d + 40) 318 0 [some (.inr (.inr (124))), none] [] (m, sl, sh, I, R) Q := by
  have a1 := w_M_sOneA (b := b) (n := n) (lim := 200) (NM := NM) (q := q) 8 d 0 rfl
  have a2 := w_M_sOr (w_M_sAnd a1 (sOne_K 8) (sOne_P 8)) (sSeq_K (sOne_K 8)) (sSeq_P (Or.inl rfl) (sOne_P 8))
  rw [show d + 4 * 8 + 7 = d + 39 by omega] at a2
  have hpl := fun e => sTxt_pl (T := lxJ b n 200) (NM := NM) (n := q) (e := e)
  have hKK := fun S => sTxt_K (T := lxJ b n 200) (NM := NM) (n := q) (S := S)
  have hqt : ∀ r, sSeq (sSeq (sOne (lxJ b n 200) NM q 8) 15 (lxJ b n 200)) 16 (lxJ b n 200) (0, 0, []) = r → sTxt (lxJ b n 200) NM q = match r with
    | .inl e => .inl e
    | .inr S => if (lxJ b n 200 S.1).1 = 0 then .inr S else .inl (1, plT (lxJ b n 200) S.1) := fun r hr => by unfold sTxt; rw [hr]; cases r <;> rfl
  refine am_wp_go rfl (by simp (disch := omega) only [am_addE, am_subE, am_mulE, am_laddE, am_lsubE, am_upO, am_upS, am_stS, am_stO, am_tnn, am_brl, am_brg, am_bre, am_brn, am_brG, am_brL, am_st1, am_no2, am_st2, am_clr, and_self, true_and, and_true, true_or, or_true, List.length_cons, List.length_nil] <;> omega) ?_
  try simp (disch := omega) only [am_addE, am_subE, am_mulE, am_laddE, am_lsubE, am_upO, am_upS, am_stS, am_stO, am_tnn, am_brl, am_brg, am_bre, am_brn, am_brG, am_brL, am_st1, am_no2, am_st2, am_clr]
  refine am_wp_cc rfl rfl rfl (congrArg Prod.fst (s124 hw)) (w_M_begin (L := 200) (b := b) (n := n) rfl hw hb hn h2 ht (fun V v1 v2 v3 v4 v5 v6 v7 => ⟨_, rfl, ?_⟩))
  refine am_wp_go rfl (by simp (disch := omega) only [s124 hw, am_addE, am_subE, am_mulE, am_laddE, am_lsubE, am_upO, am_upS, am_stS, am_stO, am_tnn, am_brl, am_brg, am_bre, am_brn, am_brG, am_brL, am_st1, am_no2, am_st2, am_clr, and_self, true_and, and_true, true_or, or_true, List.length_cons, List.length_nil] <;> omega) ?_
  try simp (disch := omega) only [s124 hw, am_addE, am_subE, am_mulE, am_laddE, am_lsubE, am_upO, am_upS, am_stS, am_stO, am_tnn, am_brl, am_brg, am_bre, am_brn, am_brG, am_brL, am_st1, am_no2, am_st2, am_clr]
  have f0 : ∀ a, a ≠ 124 → a ≠ 126 → am_up (am_up (am_up V 124 58 0) 124 59 0) 124 60 0 a = I a := fun a a1 a2 => by rw [am_upO a1, am_upO a1, am_upO a1, v1 a a1 a2]
  have f1 : ∀ j, j < 58 → am_up (am_up (am_up V 124 58 0) 124 59 0) 124 60 0 124 j = V 124 j := fun j hj => by rw [am_upS, am_stO (by omega), am_upS, am_stO (by omega), am_upS, am_stO (by omega)]
  have f2 : am_up (am_up (am_up V 124 58 0) 124 59 0) 124 60 0 126 = lw I := by rw [am_upO (by decide), am_upO (by decide), am_upO (by decide), v6]
  have f3 : ndR (am_up (am_up (am_up V 124 58 0) 124 59 0) 124 60 0) q (0, 0, []) := ⟨by rw [am_upS, am_stO (by decide), am_upS, am_stO (by decide), am_upS, am_stS rfl]; rfl, by rw [am_upS, am_stO (by decide), am_upS, am_stS rfl]; rfl, fun i hi => absurd hi (Nat.not_lt_zero i)⟩
  have f4 : am_up (am_up (am_up V 124 58 0) 124 59 0) 124 60 0 124 60 = ((0 : Nat) : Int) := by rw [am_upS, am_stS rfl]; rfl
  have f5 : rpR (am_up (am_up (am_up V 124 58 0) 124 59 0) 124 60 0) b n 200 0 := rpR_up (rpR_up (rpR_up v7 (Or.inr ⟨rfl, by decide⟩)) (Or.inr ⟨rfl, by decide⟩)) (Or.inr ⟨rfl, by decide⟩)
  generalize am_up (am_up (am_up V 124 58 0) 124 59 0) 124 60 0 = X at f0 f1 f2 f3 f4 f5 ⊢
  have hnm : nmR X NM q := ⟨by rw [f2]; exact hm1, hm2, by rw [f0 130 (by decide) (by decide)]; exact hm3⟩
  refine am_wp_cc rfl rfl rfl (congrArg Prod.fst (s124 hw)) (a2 _ m sl sh X R (0, 0, []) hw hm f5 hnm f3 f4 (by decide) (by decide) (fun e he m1 sl1 sh1 J R1 j0 j1 j2 j3 j4 j5 j6 => ⟨_, rfl, ?_⟩) (fun S' he m1 sl1 sh1 J R1 j0 j1 j2 j3 j4 j5 j6 j7 j8 j9 => ⟨_, rfl, ?_⟩))
  · have hx := hqt _ he
    dsimp only at hx j2 j3
    have hp : e.2 ≤ 640 := by
      obtain ⟨i, hi⟩ := hpl e hx
      rw [hi]; exact lx_pl hn (by decide)
    have hw1 := mo_wd j0 hw
    have hw := hw1
    clear hqt hpl hKK a2 a1
    refine am_wp_go rfl (by simp (disch := omega) only [am_addE, am_subE, am_mulE, am_laddE, am_lsubE, am_upO, am_upS, am_stS, am_stO, am_tnn, am_brl, am_brg, am_bre, am_brn, am_brG, am_brL, am_st1, am_no2, am_st2, am_clr, and_self, true_and, and_true, true_or, or_true, List.length_cons, List.length_nil] <;> omega) ?_
    refine am_wp_pc (pc' := 29) rfl ?_
    refine am_wp_go rfl (by simp (disch := omega) only [s124 hw, j6, am_addE, am_subE, am_mulE, am_laddE, am_lsubE, am_upO, am_upS, am_stS, am_stO, am_tnn, am_brl, am_brg, am_bre, am_brn, am_brG, am_brL, am_st1, am_no2, am_st2, am_clr, and_self, true_and, and_true, true_or, or_true, List.length_cons, List.length_nil] <;> omega) ?_
    try simp (disch := omega) only [s124 hw, j6, am_addE, am_subE, am_mulE, am_laddE, am_lsubE, am_upO, am_upS, am_stS, am_stO, am_tnn, am_brl, am_brg, am_bre, am_brn, am_brG, am_brL, am_st1, am_no2, am_st2, am_clr]
    refine am_wp_ret rfl rfl ?_
    refine h0 e hx m1 sl1 sh1 J R1 j0 j1 (by omega) (by omega) ⟨fun a c0 c1 c2 c3 c4 c5 c6 => ?_, fun j hj => ?_, ?_, j5, ?_, ?_⟩
    · rw [j4.1 a c0 c1 c6, f0 a c1 c2]
    · rw [j4.2 j (by omega), f1 j (by omega), v2 j (by omega)]
    · rw [j4.2 2 (by decide), f1 2 (by decide), v3]
    · rw [j4.2 23 (by decide), f1 23 (by decide), v4]
    · rw [j4.1 126 (by decide) (by decide) (by decide), f2]
  · have hx := hqt _ he
    dsimp only at hx j2 j3
    have hw1 := mo_wd j0 hw
    have hw := hw1
    have g5 := j9.2.2.2.2.1.1
    have k0 := (rK_2 (lxJ_3 (b := b) (n := n) (lim := 200) (j := S'.1))).2.2.2.2
    have so : S'.2.1 ≤ 20 := (sSeq_K (sSeq_K (sOne_K 8)) (0, 0, []) S' (by decide) he).2.2
    have sn : S'.2.2.length ≤ 40 := by
      have := sSeq_K (sSeq_K (sOne_K 8)) (0, 0, []) S' (by decide) he
      unfold sK at this
      dsimp only [List.length_nil] at this
      omega
    clear hqt hpl hKK a2 a1
    refine am_wp_go rfl (by simp (disch := omega) only [am_addE, am_subE, am_mulE, am_laddE, am_lsubE, am_upO, am_upS, am_stS, am_stO, am_tnn, am_brl, am_brg, am_bre, am_brn, am_brG, am_brL, am_st1, am_no2, am_st2, am_clr, and_self, true_and, and_true, true_or, or_true, List.length_cons, List.length_nil] <;> omega) ?_
    refine am_wp_pc (pc' := 36) rfl ?_
    refine am_wp_go rfl (by simp (disch := omega) only [s124 hw, g5, am_addE, am_subE, am_mulE, am_laddE, am_lsubE, am_upO, am_upS, am_stS, am_stO, am_tnn, am_brl, am_brg, am_bre, am_brn, am_brG, am_brL, am_st1, am_no2, am_st2, am_clr, and_self, true_and, and_true, true_or, or_true, List.length_cons, List.length_nil] <;> omega) ?_
    try simp (disch := omega) only [s124 hw, g5, am_addE, am_subE, am_mulE, am_laddE, am_lsubE, am_upO, am_upS, am_stS, am_stO, am_tnn, am_brl, am_brg, am_bre, am_brn, am_brG, am_brL, am_st1, am_no2, am_st2, am_clr]
    refine am_wp_br (fun b40 => ?_) (fun b40 => ?_)
    · rw [if_pos (k0.mp b40)] at hx
      have h := hk S' hx
      clear h0 hk k0
      have l2 : ∀ j, j < 2059 → am_up (am_up J 126 2059 1) 126 2060 ((S'.2.2.length : Int) - 1) 126 j = lw I j := fun j hj => by rw [am_upS, am_stO (by omega), am_upS, am_stO (by omega), j4.1 126 (by decide) (by decide) (by decide), f2]
      have J61 : am_up J 126 2059 1 124 61 = (S'.2.2.length : Int) - 1 := by rw [am_upO (by decide)]; exact j7
      refine am_wp_go rfl (by simp (disch := omega) only [s124 hw, r124_14 hw, s126 hw, J61, Int.reduceToNat, am_addE, am_subE, am_mulE, am_laddE, am_lsubE, am_upO, am_upS, am_stS, am_stO, am_tnn, am_brl, am_brg, am_bre, am_brn, am_brG, am_brL, am_st1, am_no2, am_st2, am_clr, and_self, true_and, and_true, true_or, or_true, List.length_cons, List.length_nil] <;> omega) ?_
      try simp (disch := omega) only [s124 hw, r124_14 hw, s126 hw, J61, Int.reduceToNat, am_addE, am_subE, am_mulE, am_laddE, am_lsubE, am_upO, am_upS, am_stS, am_stO, am_tnn, am_brl, am_brg, am_bre, am_brn, am_brG, am_brL, am_st1, am_no2, am_st2, am_clr]
      have LP : ∀ k : Nat, k ≤ 240 → ∀ (Y : Nat → Nat → Int), (∀ a, a ≠ 126 → Y a = J a) → (∀ j, j < 2059 → Y 126 j = lw I j) → Y 126 2059 = 1 → Y 126 2060 = (S'.2.2.length : Int) - 1 → (∀ j, j < k → Y 126 (2061 + j) = J 159 j) → am_wp (d + 40) 318 79 [some (Sum.inr (Sum.inr 124)), some (Sum.inl (k : Int))] [] (m1, sl1, sh1, Y, R1) Q := by
        refine am_lp 240 (fun k hk ih Y y1 y2 y3 y4 y5 => ?_)
        have Y59 : Y 124 59 = (S'.2.1 : Int) := by rw [y1 124 (by decide)]; exact j8.2.1
        refine am_wp_go rfl (by simp (disch := omega) only [s124 hw, r124_14 hw, s126 hw, r124_57 hw, s159 hw, Y59, am_tnA, Int.reduceToNat, am_addE, am_subE, am_mulE, am_laddE, am_lsubE, am_upO, am_upS, am_stS, am_stO, am_tnn, am_brl, am_brg, am_bre, am_brn, am_brG, am_brL, am_st1, am_no2, am_st2, am_clr, and_self, true_and, and_true, true_or, or_true, List.length_cons, List.length_nil] <;> omega) ?_
        try simp (disch := omega) only [s124 hw, r124_14 hw, s126 hw, r124_57 hw, s159 hw, Y59, am_tnA, Int.reduceToNat, am_addE, am_subE, am_mulE, am_laddE, am_lsubE, am_upO, am_upS, am_stS, am_stO, am_tnn, am_brl, am_brg, am_bre, am_brn, am_brG, am_brL, am_st1, am_no2, am_st2, am_clr]
        refine am_wp_br (fun b83 => ?_) (fun b83 => ?_)
        · have e : k = 240 := by omega
          subst e
          refine am_wp_go rfl (by simp (disch := omega) only [s124 hw, r124_14 hw, s126 hw, r124_57 hw, s159 hw, Y59, am_tnA, Int.reduceToNat, am_addE, am_subE, am_mulE, am_laddE, am_lsubE, am_upO, am_upS, am_stS, am_stO, am_tnn, am_brl, am_brg, am_bre, am_brn, am_brG, am_brL, am_st1, am_no2, am_st2, am_clr, and_self, true_and, and_true, true_or, or_true, List.length_cons, List.length_nil] <;> omega) ?_
          try simp (disch := omega) only [s124 hw, r124_14 hw, s126 hw, r124_57 hw, s159 hw, Y59, am_tnA, Int.reduceToNat, am_addE, am_subE, am_mulE, am_laddE, am_lsubE, am_upO, am_upS, am_stS, am_stO, am_tnn, am_brl, am_brg, am_bre, am_brn, am_brG, am_brL, am_st1, am_no2, am_st2, am_clr]
          refine am_wp_ret rfl rfl ?_
          have b124 : Y 124 = J 124 := y1 124 (by decide)
          refine h m1 sl1 sh1 Y R1 j0 j1 (by omega) (by omega) ⟨fun a c0 c1 c2 c3 => ?_, fun j hj => ?_, ?_, ?_, ?_, y2, y3, y4, fun i hi => ?_⟩
          · rw [y1 a c2, j4.1 a c0 c1 c3, f0 a c1 c2]
          · rw [b124, j4.2 j (by omega), f1 j (by omega), v2 j (by omega)]
          · rw [b124, j4.2 2 (by decide), f1 2 (by decide), v3]
          · rw [b124, j5, f1 10 (by decide), v5]
          · rw [b124, j4.2 23 (by decide), f1 23 (by decide), v4]
          · exact sx_node_D (j8.2.2 i hi) (fun j hj => y5 j (by omega))
        · have Y159 : Y 159 k = J 159 k := by rw [y1 159 (by decide)]
          refine am_wp_go rfl (by simp (disch := omega) only [s124 hw, r124_14 hw, s126 hw, r124_57 hw, s159 hw, Y59, Y159, am_tnA, Int.reduceToNat, am_addE, am_subE, am_mulE, am_laddE, am_lsubE, am_upO, am_upS, am_stS, am_stO, am_tnn, am_brl, am_brg, am_bre, am_brn, am_brG, am_brL, am_st1, am_no2, am_st2, am_clr, and_self, true_and, and_true, true_or, or_true, List.length_cons, List.length_nil] <;> omega) ?_
          try simp (disch := omega) only [s124 hw, r124_14 hw, s126 hw, r124_57 hw, s159 hw, Y59, Y159, am_tnA, Int.reduceToNat, am_addE, am_subE, am_mulE, am_laddE, am_lsubE, am_upO, am_upS, am_stS, am_stO, am_tnn, am_brl, am_brg, am_bre, am_brn, am_brG, am_brL, am_st1, am_no2, am_st2, am_clr]
          refine am_wp_ls (ih (by omega) _ (fun a ha => by rw [am_upO ha, y1 a ha]) (fun j hj => by rw [am_upS, am_stO (by omega)]; exact y2 j hj) (by rw [am_upS, am_stO (by omega)]; exact y3) (by rw [am_upS, am_stO (by omega)]; exact y4) (fun j hj => ?_)) rfl
          rw [am_upS]
          by_cases hjk : j = k
          · rw [am_stS (by omega), hjk]
          · rw [am_stO (by omega)]; exact y5 j (by omega)
      exact am_wp_ls (LP 0 (by decide) _ (fun a ha => by rw [am_upO ha, am_upO ha]) l2 (by rw [am_upS, am_stO (by decide), am_upS, am_stS rfl]) (by rw [am_upS, am_stS rfl]) (fun j hj => absurd hj (Nat.not_lt_zero j))) rfl
    · rw [if_neg (fun hx => b40 (k0.mpr hx))] at hx
      have hp := lx_pl (b := b) (n := n) (lim := 200) (j := S'.1) hn (by decide)
      have h := h0 _ hx
      clear h0 hk k0
      refine am_wp_go rfl (by simp (disch := omega) only [am_addE, am_subE, am_mulE, am_laddE, am_lsubE, am_upO, am_upS, am_stS, am_stO, am_tnn, am_brl, am_brg, am_bre, am_brn, am_brG, am_brL, am_st1, am_no2, am_st2, am_clr, and_self, true_and, and_true, true_or, or_true, List.length_cons, List.length_nil] <;> omega) ?_
      try simp (disch := omega) only [am_addE, am_subE, am_mulE, am_laddE, am_lsubE, am_upO, am_upS, am_stS, am_stO, am_tnn, am_brl, am_brg, am_bre, am_brn, am_brG, am_brL, am_st1, am_no2, am_st2, am_clr]
      refine am_wp_cc rfl rfl rfl (congrArg Prod.fst (s124 hw)) (w_M_bad' (k := 1) rfl hw j9 (Or.inl rfl) (fun A c0 c1 c2 => ⟨_, rfl, ?_⟩))
      refine am_wp_go rfl (by simp (disch := omega) only [s124 hw, c2, am_addE, am_subE, am_mulE, am_laddE, am_lsubE, am_upO, am_upS, am_stS, am_stO, am_tnn, am_brl, am_brg, am_bre, am_brn, am_brG, am_brL, am_st1, am_no2, am_st2, am_clr, and_self, true_and, and_true, true_or, or_true, List.length_cons, List.length_nil] <;> omega) ?_
      try simp (disch := omega) only [s124 hw, c2, am_addE, am_subE, am_mulE, am_laddE, am_lsubE, am_upO, am_upS, am_stS, am_stO, am_tnn, am_brl, am_brg, am_bre, am_brn, am_brG, am_brL, am_st1, am_no2, am_st2, am_clr]
      refine am_wp_ret rfl rfl ?_
      refine h m1 sl1 sh1 A R1 j0 j1 (by omega) (by omega) ⟨fun a e0 e1 e2 e3 e4 e5 e6 => ?_, fun j hj => ?_, ?_, c1, ?_, ?_⟩
      · rw [c0.1 a e1, j4.1 a e0 e1 e6, f0 a e1 e2]
      · rw [c0.2 j (by omega), j4.2 j (by omega), f1 j (by omega), v2 j (by omega)]
      · rw [c0.2 2 (by decide), j4.2 2 (by decide), f1 2 (by decide), v3]
      · rw [c0.2 23 (by decide), j4.2 23 (by decide), f1 23 (by decide), v4]
      · rw [c0.1 126 (by decide), j4.1 126 (by decide) (by decide) (by decide), f2]
end SR
