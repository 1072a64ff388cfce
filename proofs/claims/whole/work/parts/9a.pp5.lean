/-! plan() by the reference; the two together -/
theorem take_gs {G : List Go} {k : Nat} (h : k < G.length) : G.take k ++ [gs G k] = G.take (k + 1) := by
  unfold gs
  rw [List.getD_eq_getElem?_getD, List.getElem?_eq_getElem h]
  exact List.take_append_getElem h
def ptR (I J : Nat → Nat → Int) (G : List Go) (H : List (List Go)) : Prop := (∀ a, a ≠ 124 → a ≠ 126 → a ≠ 129 → a ≠ 134 → J a = I a) ∧ (∀ j, ¬ (j = 0 ∨ 2 ≤ j ∧ j ≤ 13 ∨ 22 ≤ j ∧ j ≤ 23) → J 124 j = I 124 j) ∧ J 124 2 = 0 ∧ J 124 10 = 0 ∧ J 124 23 = 1 ∧ (∀ j, (j < 58 ∨ 2059 ≤ j) → J 126 j = lw I j) ∧ rf (pw (J 126)) G ∧ hsR J H
section RP
variable {m sl : Nat} {sh : Nat → Nat × Nat} {I : Nat → Nat → Int} {R : Nat → Nat → Nat} {Q : am_R → am_M → Prop} {d : Nat} {b : Nat → Nat} {n : Nat} {NM : Nat → List Nat} {q P : Nat}
set_option maxHeartbeats 4000000 in
theorem r_plan {G : List Go} {H : List (List Go)} (hw : wd sh R) (hb : beg I) (hn : n ≤ 640) (h2 : I 124 2 = (n : Int)) (ht : ∀ k, k < n → I 125 k = (b k : Int) ∧ b k ≤ 255) (hm1 : lw I 5 = (q : Int)) (hm2 : q ≤ 8) (hm3 : ∀ s, s < q → letOk (NM (0 + s)) ∧ I 130 (0 + s) = (nm27 (NM (0 + s)) : Int)) (hP : lw I 0 = (P : Int) + 1) (hP4 : P < 4)
    (hr : rf (pw (lw I)) G) (hg : G.length ≤ 400) (hH : H.length ≤ 8) (hG : ∀ j, j < H.length → (H.getD j []).length ≤ 400) (hh : hsR I H)
    (h0 : ∀ e, pAll (lxJ b n 600) NM q P 32 (0, []) = .inl e → ∀ J, txR2 I J (e.1 : Int) → Q (am_yi (-1 - (e.2 : Int))) (m, sl, sh, J, R))
    (hk : ∀ S', pAll (lxJ b n 600) NM q P 32 (0, []) = .inr S' → S'.2.length ≤ 30 → ∀ J, ptR I J S'.2 (hpush H G) → Q (am_yi (S'.2.length : Int)) (m, sl, sh, J, R)) : am_wp (d + 5) 243 0 [some (.inr (.inr (124))), none, none] [] (m, sl, sh, I, R) Q := by
  refine am_wp_go rfl (by simp (disch := omega) only [am_addE, am_subE, am_mulE, am_laddE, am_lsubE, am_upO, am_upS, am_stS, am_stO, am_tnn, am_brl, am_brg, am_bre, am_brn, am_brG, am_brL, am_st1, am_no2, am_st2, am_clr, and_self, true_and, and_true, true_or, or_true, List.length_cons, List.length_nil] <;> omega) ?_
  try simp (disch := omega) only [am_addE, am_subE, am_mulE, am_laddE, am_lsubE, am_upO, am_upS, am_stS, am_stO, am_tnn, am_brl, am_brg, am_bre, am_brn, am_brG, am_brL, am_st1, am_no2, am_st2, am_clr]
  refine am_wp_cc rfl rfl rfl (congrArg Prod.fst (s124 hw)) (w_M_begin (L := 600) (b := b) (n := n) rfl hw hb hn h2 ht (fun V v1 v2 v3 v4 v5 v6 v7 => ⟨_, rfl, ?_⟩))
  have hm : nmR V NM q := ⟨by rw [v6]; exact hm1, hm2, by rw [v1 130 (by decide) (by decide)]; exact hm3⟩
  have hP' : V 126 0 = (P : Int) + 1 := by rw [v6]; exact hP
  refine am_wp_go rfl (by simp (disch := omega) only [am_addE, am_subE, am_mulE, am_laddE, am_lsubE, am_upO, am_upS, am_stS, am_stO, am_tnn, am_brl, am_brg, am_bre, am_brn, am_brG, am_brL, am_st1, am_no2, am_st2, am_clr, and_self, true_and, and_true, true_or, or_true, List.length_cons, List.length_nil] <;> omega) ?_
  try simp (disch := omega) only [am_addE, am_subE, am_mulE, am_laddE, am_lsubE, am_upO, am_upS, am_stS, am_stO, am_tnn, am_brl, am_brg, am_bre, am_brn, am_brG, am_brL, am_st1, am_no2, am_st2, am_clr]
  have LP : ∀ i : Nat, i ≤ 31 → ∀ (S : PLS) (X : Nat → Nat → Int), frL V X → X 124 10 = 0 → ln (X 134) S.2 → S.2.length = i → (i = 31 → False) → rpR X b n 600 S.1 → pAll (lxJ b n 600) NM q P (32 - i) S = pAll (lxJ b n 600) NM q P 32 (0, []) → am_wp (d + 5) 243 9 [some (.inr (.inr (124))), some (.inl ((i : Int))), none] [] (m, sl, sh, X, R) Q := by
    refine am_lp 31 (fun i hi ih S X f0 f1 f2 fl fx f3 f6 => ?_)
    have g5 := f3.2.2.2.2.1.1
    have k0 := (rK_2 (lxJ_3 (b := b) (n := n) (lim := 600) (j := S.1))).2.2.2.2
    have hi31 : i ≤ 30 := by
      rcases Nat.lt_or_ge i 31 with hl | hl
      · omega
      · exact (fx (by omega)).elim
    clear fx
    refine am_wp_go rfl (by simp (disch := omega) only [s124 hw, g5, am_addE, am_subE, am_mulE, am_laddE, am_lsubE, am_upO, am_upS, am_stS, am_stO, am_tnn, am_brl, am_brg, am_bre, am_brn, am_brG, am_brL, am_st1, am_no2, am_st2, am_clr, and_self, true_and, and_true, true_or, or_true, List.length_cons, List.length_nil] <;> omega) ?_
    try simp (disch := omega) only [s124 hw, g5, am_addE, am_subE, am_mulE, am_laddE, am_lsubE, am_upO, am_upS, am_stS, am_stO, am_tnn, am_brl, am_brg, am_bre, am_brn, am_brG, am_brL, am_st1, am_no2, am_st2, am_clr]
    refine am_wp_br (fun b13 => ?_) (fun b13 => ?_)
    · rw [show 32 - i = (31 - i) + 1 by omega, pAll_0 (k0.mp b13)] at f6
      have h := hk S f6.symm (by omega)
      clear hk h0 ih k0
      have X126 : X 126 = lw I := by rw [f0.1 126 (by decide) (by decide), v6]
      have hX : hsR X H := hsR_fr hh (by rw [f0.2 22 (by decide), v2 22 (by decide)]) (by rw [f0.1 129 (by decide) (by decide), v1 129 (by decide) (by decide)])
      refine am_wp_go rfl (by simp (disch := omega) only [am_addE, am_subE, am_mulE, am_laddE, am_lsubE, am_upO, am_upS, am_stS, am_stO, am_tnn, am_brl, am_brg, am_bre, am_brn, am_brG, am_brL, am_st1, am_no2, am_st2, am_clr, and_self, true_and, and_true, true_or, or_true, List.length_cons, List.length_nil] <;> omega) ?_
      try simp (disch := omega) only [am_addE, am_subE, am_mulE, am_laddE, am_lsubE, am_upO, am_upS, am_stS, am_stO, am_tnn, am_brl, am_brg, am_bre, am_brn, am_brG, am_brL, am_st1, am_no2, am_st2, am_clr]
      refine am_wp_cc rfl rfl rfl (congrArg Prod.fst (s124 hw)) (w_M_snap hw (by rw [X126]; exact hr) hg hH hG hX (fun Y y1 y2 y3 => ⟨_, rfl, ?_⟩))
      refine am_wp_go rfl (by simp (disch := omega) only [s124 hw, r124_14 hw, s126 hw, Int.reduceToNat, am_addE, am_subE, am_mulE, am_laddE, am_lsubE, am_upO, am_upS, am_stS, am_stO, am_tnn, am_brl, am_brg, am_bre, am_brn, am_brG, am_brL, am_st1, am_no2, am_st2, am_clr, and_self, true_and, and_true, true_or, or_true, List.length_cons, List.length_nil] <;> omega) ?_
      try simp (disch := omega) only [s124 hw, r124_14 hw, s126 hw, Int.reduceToNat, am_addE, am_subE, am_mulE, am_laddE, am_lsubE, am_upO, am_upS, am_stS, am_stO, am_tnn, am_brl, am_brg, am_bre, am_brn, am_brG, am_brL, am_st1, am_no2, am_st2, am_clr]
      subst fl
      have L2 : ∀ k : Nat, k ≤ S.2.length → ∀ (Z : Nat → Nat → Int), (∀ a, a ≠ 126 → Z a = Y a) → (∀ j, (j < 58 ∨ 2059 ≤ j) → Z 126 j = lw I j) → rf (pw (Z 126)) (S.2.take k) → am_wp (d + 5) 243 51 [some (.inr (.inr (124))), some (.inl ((S.2.length : Int))), some (.inl ((k : Int)))] [] (m, sl, sh, Z, R) Q := by
        refine am_lp S.2.length (fun k hk ih Z z1 z2 z3 => ?_)
        refine am_wp_go rfl (by simp (disch := omega) only [Int.reduceToNat, am_addE, am_subE, am_mulE, am_laddE, am_lsubE, am_upO, am_upS, am_stS, am_stO, am_tnn, am_brl, am_brg, am_bre, am_brn, am_brG, am_brL, am_st1, am_no2, am_st2, am_clr, and_self, true_and, and_true, true_or, or_true, List.length_cons, List.length_nil] <;> omega) ?_
        try simp (disch := omega) only [Int.reduceToNat, am_addE, am_subE, am_mulE, am_laddE, am_lsubE, am_upO, am_upS, am_stS, am_stO, am_tnn, am_brl, am_brg, am_bre, am_brn, am_brG, am_brL, am_st1, am_no2, am_st2, am_clr]
        refine am_wp_br (fun b53 => ?_) (fun b53 => ?_)
        · have e : k = S.2.length := by omega
          rw [e, List.take_length] at z3
          refine am_wp_go rfl (by simp (disch := omega) only [Int.reduceToNat, am_addE, am_subE, am_mulE, am_laddE, am_lsubE, am_upO, am_upS, am_stS, am_stO, am_tnn, am_brl, am_brg, am_bre, am_brn, am_brG, am_brL, am_st1, am_no2, am_st2, am_clr, and_self, true_and, and_true, true_or, or_true, List.length_cons, List.length_nil] <;> omega) ?_
          try simp (disch := omega) only [Int.reduceToNat, am_addE, am_subE, am_mulE, am_laddE, am_lsubE, am_upO, am_upS, am_stS, am_stO, am_tnn, am_brl, am_brg, am_bre, am_brn, am_brG, am_brL, am_st1, am_no2, am_st2, am_clr]
          refine am_wp_ret rfl rfl ?_
          have b124 : Z 124 = Y 124 := z1 124 (by decide)
          refine h Z ⟨fun a a1 a2 a3 a4 => ?_, fun j hj => ?_, ?_, ?_, ?_, z2, z3, hsR_fr y3 (by rw [b124]) (z1 129 (by decide))⟩
          · rw [z1 a a2, y1 a a1 a3, f0.1 a a1 a4, v1 a a1 a2]
          · rw [b124, y2 j (by omega), f0.2 j (by omega), v2 j (by omega)]
          · rw [b124, y2 2 (by decide), f0.2 2 (by decide), v3]
          · rw [b124, y2 10 (by decide), f1]
          · rw [b124, y2 23 (by decide), f0.2 23 (by decide), v4]
        · have hk2 : k < S.2.length := by omega
          have Z134 : Z 134 = X 134 := by rw [z1 134 (by decide), y1 134 (by decide) (by decide)]
          obtain ⟨a0, a1, a2, a3, a4⟩ := f2 k hk2
          rw [← Z134] at a0 a1 a2 a3 a4
          have tl : (S.2.take k).length = k := by rw [List.length_take]; omega
          refine am_wp_go rfl (by simp (disch := omega) only [s124 hw, r124_25 hw, s134 hw, a0, a1, a2, a3, a4, am_tnA, am_tnM, Int.reduceToNat, am_addE, am_subE, am_mulE, am_laddE, am_lsubE, am_upO, am_upS, am_stS, am_stO, am_tnn, am_brl, am_brg, am_bre, am_brn, am_brG, am_brL, am_st1, am_no2, am_st2, am_clr, and_self, true_and, and_true, true_or, or_true, List.length_cons, List.length_nil] <;> omega) ?_
          try simp (disch := omega) only [s124 hw, r124_25 hw, s134 hw, a0, a1, a2, a3, a4, am_tnA, am_tnM, Int.reduceToNat, am_addE, am_subE, am_mulE, am_laddE, am_lsubE, am_upO, am_upS, am_stS, am_stO, am_tnn, am_brl, am_brg, am_bre, am_brn, am_brG, am_brL, am_st1, am_no2, am_st2, am_clr]
          refine am_wp_cc rfl rfl rfl (congrArg Prod.fst (s124 hw)) (w_M_lays (g := gs S.2 k) hw z3 (by omega) rfl rfl rfl rfl rfl (fun A c1 c2 c3 => ⟨_, rfl, ?_⟩))
          refine am_wp_go rfl (by simp (disch := omega) only [am_tnA, am_tnM, Int.reduceToNat, am_addE, am_subE, am_mulE, am_laddE, am_lsubE, am_upO, am_upS, am_stS, am_stO, am_tnn, am_brl, am_brg, am_bre, am_brn, am_brG, am_brL, am_st1, am_no2, am_st2, am_clr, and_self, true_and, and_true, true_or, or_true, List.length_cons, List.length_nil] <;> omega) ?_
          try simp (disch := omega) only [am_tnA, am_tnM, Int.reduceToNat, am_addE, am_subE, am_mulE, am_laddE, am_lsubE, am_upO, am_upS, am_stS, am_stO, am_tnn, am_brl, am_brg, am_bre, am_brn, am_brG, am_brL, am_st1, am_no2, am_st2, am_clr]
          rw [take_gs hk2] at c3
          exact am_wp_ls (ih (by omega) A (fun a ha => by rw [c1 a ha, z1 a ha]) (fun j hj => by rw [c2 j hj, z2 j hj]) c3) rfl
      refine am_wp_ls (L2 0 (Nat.zero_le _) _ (fun a ha => am_upO ha) (fun j hj => by rw [am_upS, am_stO (by omega), y1 126 (by decide) (by decide), X126]) ⟨by unfold pw; rw [am_upS, am_stS rfl]; rfl, fun k hk => absurd hk (Nat.not_lt_zero k)⟩) rfl
    · rw [show 32 - i = (32 - (i + 1)) + 1 by omega, pAll_s (fun hx => b13 (k0.mpr hx))] at f6
      have ih := ih (by omega)
      clear k0
      have hm' := nmR_fr hm f0
      have hPX : X 126 0 = (P : Int) + 1 := by rw [f0.1 126 (by decide) (by decide)]; exact hP'
      subst fl
      refine am_wp_go rfl (by simp (disch := omega) only [am_addE, am_subE, am_mulE, am_laddE, am_lsubE, am_upO, am_upS, am_stS, am_stO, am_tnn, am_brl, am_brg, am_bre, am_brn, am_brG, am_brL, am_st1, am_no2, am_st2, am_clr, and_self, true_and, and_true, true_or, or_true, List.length_cons, List.length_nil] <;> omega) ?_
      try simp (disch := omega) only [am_addE, am_subE, am_mulE, am_laddE, am_lsubE, am_upO, am_upS, am_stS, am_stO, am_tnn, am_brl, am_brg, am_bre, am_brn, am_brG, am_brL, am_st1, am_no2, am_st2, am_clr]
      refine am_wp_cc rfl rfl rfl (congrArg Prod.fst (s124 hw)) (w_M_readGo hw f3 hm' hPX hP4 hi31 f2 (fun e he Y y0 y1 y2 => ⟨_, rfl, ?_⟩) (fun S' he hl Y y0 y1 y2 y3 => ⟨_, rfl, ?_⟩))
      · rw [he] at f6
        have h := h0 e f6.symm
        have hp : e.2 ≤ 640 := by
          obtain ⟨q, hq⟩ := pAll_pl _ _ f6.symm
          rw [hq]; exact lx_pl hn (by decide)
        clear h0 hk ih
        have fY := frL_tr f0 y0
        refine am_wp_go rfl (by simp (disch := omega) only [am_addE, am_subE, am_mulE, am_laddE, am_lsubE, am_upO, am_upS, am_stS, am_stO, am_tnn, am_brl, am_brg, am_bre, am_brn, am_brG, am_brL, am_st1, am_no2, am_st2, am_clr, and_self, true_and, and_true, true_or, or_true, List.length_cons, List.length_nil] <;> omega) ?_
        refine am_wp_pc (pc' := 24) rfl ?_
        refine am_wp_go rfl (by simp (disch := omega) only [s124 hw, y2, am_addE, am_subE, am_mulE, am_laddE, am_lsubE, am_upO, am_upS, am_stS, am_stO, am_tnn, am_brl, am_brg, am_bre, am_brn, am_brG, am_brL, am_st1, am_no2, am_st2, am_clr, and_self, true_and, and_true, true_or, or_true, List.length_cons, List.length_nil] <;> omega) ?_
        try simp (disch := omega) only [s124 hw, y2, am_addE, am_subE, am_mulE, am_laddE, am_lsubE, am_upO, am_upS, am_stS, am_stO, am_tnn, am_brl, am_brg, am_bre, am_brn, am_brG, am_brL, am_st1, am_no2, am_st2, am_clr]
        refine am_wp_ret rfl rfl ?_
        refine h Y ⟨fun a a1 a2 a3 a4 a5 a6 => ?_, fun j hj => ?_, ?_, y1, ?_, ?_⟩
        · rw [fY.1 a a1 a5, v1 a a1 a2]
        · rw [fY.2 j (by omega), v2 j (by omega)]
        · rw [fY.2 2 (by decide), v3]
        · rw [fY.2 23 (by decide), v4]
        · rw [fY.1 126 (by decide) (by decide), v6]
      · have n30 : S.2.length ≠ 30 := by
          cases hg : pGo (lxJ b n 600) NM q P S with
          | inl e => rw [hg] at he; cases he
          | inr S2 => exact pGo_30 hg
        rw [he] at f6
        clear h0 hk
        refine am_wp_go rfl (by simp (disch := omega) only [am_addE, am_subE, am_mulE, am_laddE, am_lsubE, am_upO, am_upS, am_stS, am_stO, am_tnn, am_brl, am_brg, am_bre, am_brn, am_brG, am_brL, am_st1, am_no2, am_st2, am_clr, and_self, true_and, and_true, true_or, or_true, List.length_cons, List.length_nil] <;> omega) ?_
        refine am_wp_pc (pc' := 31) rfl ?_
        refine am_wp_go rfl (by simp (disch := omega) only [am_addE, am_subE, am_mulE, am_laddE, am_lsubE, am_upO, am_upS, am_stS, am_stO, am_tnn, am_brl, am_brg, am_bre, am_brn, am_brG, am_brL, am_st1, am_no2, am_st2, am_clr, and_self, true_and, and_true, true_or, or_true, List.length_cons, List.length_nil] <;> omega) ?_
        try simp (disch := omega) only [am_addE, am_subE, am_mulE, am_laddE, am_lsubE, am_upO, am_upS, am_stS, am_stO, am_tnn, am_brl, am_brg, am_bre, am_brn, am_brG, am_brL, am_st1, am_no2, am_st2, am_clr]
        exact am_wp_ls (ih S' Y (frL_tr f0 y0) (by rw [y1, f1]) y2 hl (fun hx => by omega) y3 f6) rfl
  exact am_wp_ls (LP 0 (by decide) (0, []) V ⟨fun _ _ _ => rfl, fun _ _ => rfl⟩ v5 (fun k hk => absurd hk (Nat.not_lt_zero k)) rfl (fun hx => by cases hx) v7 rfl) rfl
end RP
theorem cp_ptext {X : Nat → Int} {I J K : Nat → Nat → Int} {G : List Go} {H : List (List Go)} (h : cp X I) (c : ptC I J G H) (r : ptR J K G H) (g1 : gkt (lw I) G) (g2 : ∀ j, j < H.length → gkt (lw I) (H.getD j [])) : cp X K := by
  obtain ⟨c1, c2, c3, c4, c5, c6⟩ := c
  obtain ⟨r1, r2, r3, r4, r5, r6, r7, r8⟩ := r
  obtain ⟨cc, ⟨k1, k2⟩, g, s, hh, ⟨i0, i1⟩, t, x, f, v, p⟩ := h
  have e124 : J 124 = I 124 := c1 124 (by omega)
  have e126 : J 126 = I 126 := c1 126 (by omega)
  have el : lw J = lw I := by unfold lw; rw [e124, e126]
  rw [el] at r6
  have elk : lw K = K 126 := by unfold lw; rw [r5]; rfl
  have eq : ∀ a, ¬ (a = 4 ∨ a = 14 ∨ a = 15 ∨ a = 22 ∨ 24 ≤ a ∧ a ≤ 39 ∨ a = 48 ∨ a = 49 ∨ a = 55 ∨ 58 ≤ a ∧ a ≤ 60 ∨ a = 124 ∨ a = 126 ∨ a = 129 ∨ a = 134) → K a = I a := fun a ha => by rw [r1 a (by omega) (by omega) (by omega) (by omega), c1 a (by omega)]
  have cl : ∀ a, a < 124 → K a = J a := fun a ha => r1 a (by omega) (by omega) (by omega) (by omega)
  have im : ∀ k, k < 2 → cpI I k → cpI K k := by
    intro k hk ⟨a, b, d⟩
    unfold cpI kpW kpN
    rw [eq 133 (by omega), eq 128 (by omega), eq 132 (by omega)]
    refine ⟨by rw [eq _ (by omega)]; exact a, b, fun hk => ?_⟩
    obtain ⟨d1, d2, d3⟩ := d hk
    exact ⟨kit_fr d1 (fun a h1 h2 => eq a (by omega)), cpG_fr d2 (eq _ (by omega)) (eq _ (by omega)), sen_fr d3 (eq _ (by omega)) (eq _ (by omega)) (eq _ (by omega)) (eq _ (by omega))⟩
  refine ⟨?_, ⟨?_, Or.inr r5⟩, ⟨G, pl_fr c5 (cl 14 (by decide)) (cl 15 (by decide)), r7, ?_⟩, ?_, ⟨H, hsC_fr c6 (fun a ha => cl a (by omega)), r8, fun j hj => ?_⟩, ⟨im 0 (by decide) i0, im 1 (by decide) i1⟩, ?_, ?_, ?_, ?_, ?_⟩
  · unfold cpC at cc ⊢; rw [eq 1 (by omega), eq 2 (by omega), eq 57 (by omega)]; exact cc
  · rw [elk, eq 130 (by omega)]
    exact kit_row (kit_fr k1 (fun a h1 h2 => eq a (by omega))) (fun j hj => r6 j (by omega))
  · rw [elk]; exact gkt_row g1 (r6 0 (by omega)) (r6 5 (by omega))
  · rw [elk]; exact sen_row (sen_fr s (eq 16 (by omega)) (eq 17 (by omega)) (eq 18 (by omega)) (eq 19 (by omega))) (r6 5 (by omega)) (fun j hj => r6 j (by omega))
  · rw [elk]; exact gkt_row (g2 j hj) (r6 0 (by omega)) (r6 5 (by omega))
  · exact ⟨0, by decide, by rw [cl 55 (by decide), c4]; rfl, by rw [r3]; rfl, fun i hi => absurd hi (Nat.not_lt_zero i)⟩
  · unfold cpX at x ⊢
    rw [cl 4 (by decide), c2 15 (by decide), r2 29 (by omega), e124, eq 135 (by omega), eq 89 (by omega)]
    exact x
  · unfold cpF at f ⊢
    rw [cl 4 (by decide), c3, r4, c2 17 (by decide), r2 26 (by omega), e124]
    exact ⟨rfl, f.2⟩
  · unfold cpV at v ⊢
    rw [eq 80 (by omega), r2 49 (by omega), e124, eq 85 (by omega), eq 153 (by omega)]
    exact v
  · unfold cpP at p ⊢
    rw [eq 86 (by omega), r2 53 (by omega), e124, eq 88 (by omega), eq 156 (by omega)]
    exact p
/-- what a PLAN's text gives are GOES of the KITCHEN -/
theorem pN_i {T : Nat → Tk} {j a b : Nat} {k : Nat → PLR} {S : PLS} {C : Prop} (h : pN T j a b k = .inr S) (hk : ∀ v, a ≤ v → v ≤ b → k v = .inr S → C) : C := by
  unfold pN at h
  split at h
  · cases h
  · rename_i hx
    have hx : nmF (T j) a b = 0 := Classical.not_not.mp hx
    unfold nmF at hx
    split at hx
    · cases hx
    · split at hx
      · cases hx
      · exact hk _ (by omega) (by omega) h
theorem pGo_i {T : Nat → Tk} {NM : Nat → List Nat} {n P : Nat} {S S' : PLS} (h : pGo T NM n P S = .inr S') : ∃ g : Go, S'.2 = S.2 ++ [g] ∧ 0 ≤ g.1 ∧ g.1 < n ∧ g.2.2.2.1 ≤ P := by
  unfold pGo at h
  split at h
  · cases h
  · split at h
    · cases h
    · rename_i hn
      have kv := kFd_v hn
      split at h
      · cases h
      · split at h
        · cases h
        · exact pN_i h (fun v v1 v2 hv => pN_i hv (fun u u1 u2 hu => pN_i hu (fun x x1 x2 hx => by
            cases hx
            exact ⟨_, rfl, kv.1, kv.2, by dsimp only; omega⟩)))
theorem pAll_i {T : Nat → Tk} {NM : Nat → List Nat} {n P : Nat} {Z : PLS} {W : Nat → Int} (hW : W 5 = (n : Int)) (hP : P < 4) : ∀ (c : Nat) (S : PLS), gkt W S.2 → pAll T NM n P c S = .inr Z → gkt W Z.2
  | 0, S, hs, h => by cases h; exact hs
  | c + 1, S, hs, h => by
    by_cases h0 : (T S.1).1 = 0
    · rw [pAll_0 h0] at h; cases h; exact hs
    · rw [pAll_s h0] at h
      cases hg : pGo T NM n P S with
      | inl e' => rw [hg] at h; cases h
      | inr S' =>
        obtain ⟨g, g0, g1, g2, g3⟩ := pGo_i hg
        have hs' : gkt W S'.2 := fun k hk => by
          rw [g0] at hk ⊢
          rw [List.length_append, List.length_singleton] at hk
          unfold gS gL
          by_cases hk2 : k < S.2.length
          · rw [gs_app hk2]; exact hs k hk2
          · have e : k = S.2.length := by omega
            rw [e, gs_app2]
            omega
        rw [hg] at h
        by_cases ys : isSg (T S'.1) 59
        · have e2 : pEnd T (.inr S') = .inr (S'.1 + 1, S'.2) := by unfold pEnd; dsimp only; rw [if_pos ys]
          rw [e2] at h
          exact pAll_i hW hP c (S'.1 + 1, S'.2) hs' h
        · have e2 : pEnd T (.inr S') = .inl (1, plT T S'.1) := by unfold pEnd; dsimp only; rw [if_neg ys]
          rw [e2] at h
          cases h
