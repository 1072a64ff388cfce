/-! A SENTENCE's text by the reference: one part, deeper -/
section SR
variable {d : Nat} {b : Nat → Nat} {n lim : Nat} {NM : Nat → List Nat} {q k : Nat} {f : SNS → SNR}
theorem oneW_c {t : Tk} (h : 7 ≤ owC t ∧ owC t ≤ 14) : owC t = 12 ∧ oneW t = 12 ∨ owC t = 7 ∧ oneW t = 5 ∨ owC t = 13 ∧ oneW t = 13 ∨ owC t = 14 ∧ oneW t = 14 ∨ cmpW (owC t) (oneW t) := by
  unfold oneW cmpW
  rw [if_pos h]
  rcases (show owC t = 7 ∨ owC t = 8 ∨ owC t = 9 ∨ owC t = 10 ∨ owC t = 11 ∨ owC t = 12 ∨ owC t = 13 ∨ owC t = 14 by omega) with e | e | e | e | e | e | e | e <;> rw [e] <;> decide
set_option maxHeartbeats 4000000 in
theorem w_M_sOneS (hk : k < 8) (hB : cRn b n lim NM q (fun S => sCls (lxJ b n lim) (sSeq (sSeq f 15 (lxJ b n lim)) 16 (lxJ b n lim) S)) (k + 1) (fun m sl sh I R Q => am_wp (d + 8) 315 0 [some (.inr (.inr (124)))] [] (m, sl, sh, I, R) Q)) (hN : cRn b n lim NM q (fun S => sNot (f S)) (k + 1) (fun m sl sh I R Q => am_wp (d + 8) 314 0 [some (.inr (.inr (124)))] [] (m, sl, sh, I, R) Q)) : cRn b n lim NM q (sOneB (lxJ b n lim) NM q f) k (fun m sl sh I R Q => am_wp (d + 9) 313 0 [some (.inr (.inr (124))), none, none, none] [] (m, sl, sh, I, R) Q) := by
  intro Q m0 sl0 sh0 I R0 S hw hm0 hc hnm hs h60 hl ho h0 h1
  unfold sOneB at h0 h1
  refine am_wp_go rfl (by simp (disch := omega) only [am_addE, am_subE, am_mulE, am_laddE, am_lsubE, am_upO, am_upS, am_stS, am_stO, am_tnn, am_brl, am_brg, am_bre, am_brn, am_brG, am_brL, am_st1, am_no2, am_st2, am_clr, and_self, true_and, and_true, true_or, or_true, List.length_cons, List.length_nil] <;> omega) ?_
  try simp (disch := omega) only [am_addE, am_subE, am_mulE, am_laddE, am_lsubE, am_upO, am_upS, am_stS, am_stO, am_tnn, am_brl, am_brg, am_bre, am_brn, am_brG, am_brL, am_st1, am_no2, am_st2, am_clr]
  refine am_wp_cc rfl rfl rfl (congrArg Prod.fst (s124 hw)) (w_M_isSignR (c := 40) hw hc ⟨_, rfl, ?_⟩)
  refine am_wp_go rfl (by simp (disch := omega) only [am_addE, am_subE, am_mulE, am_laddE, am_lsubE, am_upO, am_upS, am_stS, am_stO, am_tnn, am_brl, am_brg, am_bre, am_brn, am_brG, am_brL, am_st1, am_no2, am_st2, am_clr, and_self, true_and, and_true, true_or, or_true, List.length_cons, List.length_nil] <;> omega) ?_
  try simp (disch := omega) only [am_addE, am_subE, am_mulE, am_laddE, am_lsubE, am_upO, am_upS, am_stS, am_stO, am_tnn, am_brl, am_brg, am_bre, am_brn, am_brG, am_brL, am_st1, am_no2, am_st2, am_clr]
  refine am_wp_cc rfl rfl rfl (congrArg Prod.fst (s124 hw)) (w_M_oneAtHand hw hm0 hc (fun sh1 R1 J j0 j1 => ⟨_, rfl, ?_⟩))
  have hw1 := mo_wd j0 hw
  have hw := hw1
  have cJ := rpR_m hm0 j1 hc
  have fJ := frN_m hm0 j1
  have nJ : ndR J q S := ndR_N hs (j1 159 (by omega)) (by rw [j1 124 (by omega)]) (by rw [j1 124 (by omega)])
  have J59 : J 124 59 = (S.2.1 : Int) := nJ.2.1
  have J60 : J 124 60 = (k : Int) := by rw [j1 124 (by omega)]; exact h60
  have J10 : J 124 10 = I 124 10 := by rw [j1 124 (by omega)]
  have ow := oneW_0 (t := lxJ b n lim S.1)
  have oc := oneW_c (t := lxJ b n lim S.1)
  have hnJ := nmR_N hnm fJ
  clear hs hc hnm h60 j1
  generalize oneW (lxJ b n lim S.1) = w at *
  have U : sBgn (lxJ b n lim) S.1 → am_wp (d + 9) 313 27 [some (Sum.inr (Sum.inr 124)), some (Sum.inl (am_b (isSg (lxJ b n lim S.1) 40))), some (Sum.inl w), none] [] (m0 + 1, sl0 + 8, sh1, J, R1) Q := by
    intro hbg
    have t2 := sBgn_2 hbg
    rw [if_neg (fun hx => hx hbg)] at h0 h1
    refine am_wp_go rfl (by simp (disch := omega) only [s124 hw, J59, J60, am_addE, am_subE, am_mulE, am_laddE, am_lsubE, am_upO, am_upS, am_stS, am_stO, am_tnn, am_brl, am_brg, am_bre, am_brn, am_brG, am_brL, am_st1, am_no2, am_st2, am_clr, and_self, true_and, and_true, true_or, or_true, List.length_cons, List.length_nil] <;> omega) ?_
    try simp (disch := omega) only [s124 hw, J59, J60, am_addE, am_subE, am_mulE, am_laddE, am_lsubE, am_upO, am_upS, am_stS, am_stO, am_tnn, am_brl, am_brg, am_bre, am_brn, am_brG, am_brL, am_st1, am_no2, am_st2, am_clr]
    refine am_wp_br (fun b33 => ?_) (fun b33 => ?_)
    · rw [if_pos (by omega)] at h0
      refine am_wp_go rfl (by simp (disch := omega) only [s124 hw, J59, J60, am_addE, am_subE, am_mulE, am_laddE, am_lsubE, am_upO, am_upS, am_stS, am_stO, am_tnn, am_brl, am_brg, am_bre, am_brn, am_brG, am_brL, am_st1, am_no2, am_st2, am_clr, and_self, true_and, and_true, true_or, or_true, List.length_cons, List.length_nil] <;> omega) ?_
      try simp (disch := omega) only [s124 hw, J59, J60, am_addE, am_subE, am_mulE, am_laddE, am_lsubE, am_upO, am_upS, am_stS, am_stO, am_tnn, am_brl, am_brg, am_bre, am_brn, am_brG, am_brL, am_st1, am_no2, am_st2, am_clr]
      refine am_wp_cc rfl rfl rfl (congrArg Prod.fst (s124 hw)) (w_M_bad' (k := 4) rfl hw cJ (Or.inr (by omega)) (fun A a0 a1 a2 => ⟨_, rfl, ?_⟩))
      refine am_wp_ret rfl rfl ?_
      exact h0 _ rfl _ _ sh1 A R1 j0 (by omega) (by omega) (by omega) (frN_tr fJ (frN_Q a0)) a1 a2
    · rw [if_neg (by omega)] at h0 h1
      refine am_wp_go rfl (by simp (disch := omega) only [s124 hw, J59, J60, am_addE, am_subE, am_mulE, am_laddE, am_lsubE, am_upO, am_upS, am_stS, am_stO, am_tnn, am_brl, am_brg, am_bre, am_brn, am_brG, am_brL, am_st1, am_no2, am_st2, am_clr, and_self, true_and, and_true, true_or, or_true, List.length_cons, List.length_nil] <;> omega) ?_
      try simp (disch := omega) only [s124 hw, J59, J60, am_addE, am_subE, am_mulE, am_laddE, am_lsubE, am_upO, am_upS, am_stS, am_stO, am_tnn, am_brl, am_brg, am_bre, am_brn, am_brG, am_brL, am_st1, am_no2, am_st2, am_clr]
      refine am_wp_br (fun b42 => ?_) (fun b42 => ?_)
      · have cK1 : rpR (am_up (am_up J 124 59 ((S.2.1 : Int) + 1)) 124 60 ((k : Int) + 1)) b n lim S.1 := rpR_up (rpR_up cJ (Or.inr ⟨rfl, by decide⟩)) (Or.inr ⟨rfl, by decide⟩)
        have J60' : am_up J 124 59 ((S.2.1 : Int) + 1) 124 60 = (k : Int) := by rw [am_upS, am_stO (by decide)]; exact J60
        refine am_wp_go rfl (by simp (disch := omega) only [s124 hw, J59, J60', am_addE, am_subE, am_mulE, am_laddE, am_lsubE, am_upO, am_upS, am_stS, am_stO, am_tnn, am_brl, am_brg, am_bre, am_brn, am_brG, am_brL, am_st1, am_no2, am_st2, am_clr, and_self, true_and, and_true, true_or, or_true, List.length_cons, List.length_nil] <;> omega) ?_
        try simp (disch := omega) only [s124 hw, J59, J60', am_addE, am_subE, am_mulE, am_laddE, am_lsubE, am_upO, am_upS, am_stS, am_stO, am_tnn, am_brl, am_brg, am_bre, am_brn, am_brG, am_brL, am_st1, am_no2, am_st2, am_clr]
        refine am_wp_cc rfl rfl rfl (congrArg Prod.fst (s124 hw)) (w_M_nx hw cK1 t2 (fun K k0 k1 => ⟨_, rfl, ?_⟩))
        have fK : frN J K := frN_tr (frN_up (frN_up frN_rf (by decide)) (by decide)) (frN_Q (frQ_6 k0))
        have K60 : K 124 60 = ((k + 1 : Nat) : Int) := by rw [(frQ_6 k0).2 60 (by decide), am_upS, am_stS rfl]; omega
        have K10 : K 124 10 = I 124 10 := by rw [fr6_10 k0, am_upS, am_stO (by decide), am_upS, am_stO (by decide)]; exact J10
        have nK : ndR K q (S.1 + 1, S.2.1 + 1, S.2.2) := by
          obtain ⟨n1, n2, n3⟩ := nJ
          refine ⟨?_, ?_, ?_⟩
          · rw [(frQ_6 k0).2 58 (by decide), am_upS, am_stO (by decide), am_upS, am_stO (by decide)]; exact n1
          · rw [(frQ_6 k0).2 59 (by decide), am_upS, am_stO (by decide), am_upS, am_stS rfl]; dsimp only; omega
          · rw [k0.1 159 (by decide), am_upO (by decide), am_upO (by decide)]; exact n3
        have hnK := nmR_N hnJ fK
        have fIK := frN_tr fJ fK
        clear cK1 J60' k0 fJ fK nJ hnJ J59 J60 J10 cJ
        have T0 : ∀ (x : Int) (e : Nat × Nat) (m2 sl2 : Nat) (sh2 : Nat → Nat × Nat) (A : Nat → Nat → Int) (R2 : Nat → Nat → Nat), frN I A → A 124 10 = (e.1 : Int) → A 124 11 = (e.2 : Int) → (∀ J, frN I J → J 124 10 = (e.1 : Int) → J 124 11 = (e.2 : Int) → Q (am_yi 0) (m2, sl2, sh2, J, R2)) → Q (am_yi 0) (m2, sl2, sh2, am_up A 124 60 x, R2) := by
          intro x e m2 sl2 sh2 A R2 a0 a1 a2 hq
          exact hq _ (frN_up a0 (by decide)) (by rw [am_upS, am_stO (by decide)]; exact a1) (by rw [am_upS, am_stO (by decide)]; exact a2)
        have T1 : ∀ (x : Int) (S' : SNS) (m2 sl2 : Nat) (sh2 : Nat → Nat × Nat) (A : Nat → Nat → Int) (R2 : Nat → Nat → Nat), x = (k : Int) → frN I A → A 124 10 = I 124 10 → A 124 61 = (S'.2.2.length : Int) - 1 → ndR A q S' → rpR A b n lim S'.1 → (∀ J, frN I J → J 124 10 = I 124 10 → J 124 60 = (k : Int) → J 124 61 = (S'.2.2.length : Int) - 1 → ndR J q S' → rpR J b n lim S'.1 → Q (am_yi 1) (m2, sl2, sh2, J, R2)) → Q (am_yi 1) (m2, sl2, sh2, am_up A 124 60 x, R2) := by
          intro x S' m2 sl2 sh2 A R2 hx a0 a1 a3 a4 a5 hq
          exact hq _ (frN_up a0 (by decide)) (by rw [am_upS, am_stO (by decide)]; exact a1) (by rw [am_upS, am_stS rfl]; exact hx) (by rw [am_upS, am_stO (by decide)]; exact a3) (ndR_u (S := S') a4 (by decide)) (rpR_up a5 (Or.inr ⟨rfl, by decide⟩))
        refine am_wp_go rfl (by simp (disch := omega) only [am_b0, am_addE, am_subE, am_mulE, am_laddE, am_lsubE, am_upO, am_upS, am_stS, am_stO, am_tnn, am_brl, am_brg, am_bre, am_brn, am_brG, am_brL, am_st1, am_no2, am_st2, am_clr, and_self, true_and, and_true, true_or, or_true, List.length_cons, List.length_nil] <;> omega) ?_
        try simp (disch := omega) only [am_b0, am_addE, am_subE, am_mulE, am_laddE, am_lsubE, am_upO, am_upS, am_stS, am_stO, am_tnn, am_brl, am_brg, am_bre, am_brn, am_brG, am_brL, am_st1, am_no2, am_st2, am_clr]
        refine am_wp_br (fun b78 => ?_) (fun b78 => ?_)
        · rw [if_neg b78] at h0 h1
          have wb : 7 ≤ owC (lxJ b n lim S.1) ∧ owC (lxJ b n lim S.1) ≤ 14 := by
            rcases hbg with hx | hx
            · exact absurd hx b78
            · exact hx
          replace oc := oc wb
          clear ow
          generalize owC (lxJ b n lim S.1) = c at *
          refine am_wp_go rfl (by simp (disch := omega) only [am_b0, am_addE, am_subE, am_mulE, am_laddE, am_lsubE, am_upO, am_upS, am_stS, am_stO, am_tnn, am_brl, am_brg, am_bre, am_brn, am_brG, am_brL, am_st1, am_no2, am_st2, am_clr, and_self, true_and, and_true, true_or, or_true, List.length_cons, List.length_nil] <;> omega) ?_
          try simp (disch := omega) only [am_b0, am_addE, am_subE, am_mulE, am_laddE, am_lsubE, am_upO, am_upS, am_stS, am_stO, am_tnn, am_brl, am_brg, am_bre, am_brn, am_brG, am_brL, am_st1, am_no2, am_st2, am_clr]
          refine am_wp_br (fun b92 => ?_) (fun b92 => ?_)
          · have c12 : c ≠ 12 := by unfold cmpW at oc; omega
            rw [if_neg c12] at h0 h1
            have B114 : (c = 7 ∧ w = 5 ∨ c = 13 ∧ w = 13) → am_wp (d + 9) 313 114 [some (Sum.inr (Sum.inr 124)), some (Sum.inl (am_b (isSg (lxJ b n lim S.1) 40))), some (Sum.inl w), some (Sum.inl 1)] [] (m0 + 1, sl0 + 8, sh1, K, R1) Q := by
              intro hcw
              unfold sLeaf at h1
              rw [if_pos (by omega)] at h1
              have h := h1 _ rfl (m0 + 1) (sl0 + 8) sh1
              clear h0 h1
              refine am_wp_go rfl (by simp (disch := omega) only [s124 hw, am_b0, am_addE, am_subE, am_mulE, am_laddE, am_lsubE, am_upO, am_upS, am_stS, am_stO, am_tnn, am_brl, am_brg, am_bre, am_brn, am_brG, am_brL, am_st1, am_no2, am_st2, am_clr, and_self, true_and, and_true, true_or, or_true, List.length_cons, List.length_nil] <;> omega) ?_
              try simp (disch := omega) only [s124 hw, am_b0, am_addE, am_subE, am_mulE, am_laddE, am_lsubE, am_upO, am_upS, am_stS, am_stO, am_tnn, am_brl, am_brg, am_bre, am_brn, am_brG, am_brL, am_st1, am_no2, am_st2, am_clr]
              refine am_wp_cc rfl rfl rfl (congrArg Prod.fst (s124 hw)) (w_M_saysOne (k := S.2.2.length) hw nK.1 (by omega) (fun B b0 => ⟨_, rfl, ?_⟩))
              obtain ⟨v0, v1, v2, v3⟩ := frD_v b0
              have nd : ndR B q (S.1 + 1, S.2.1 + 1, S.2.2 ++ [(c, 0, 0)]) := nd_say (S := (S.1 + 1, S.2.1 + 1, S.2.2)) nK b0 (by
                rcases hcw with hx | hx
                · exact Or.inr (Or.inr (Or.inl ⟨by rw [st_last.1]; exact hx.1, by rw [v0]; omega⟩))
                · exact Or.inr (Or.inr (Or.inr (Or.inl ⟨by rw [st_last.1]; exact hx.1, by rw [v0]; omega⟩))))
              have B60 : am_up B 124 61 (S.2.2.length : Int) 124 60 = ((k + 1 : Nat) : Int) := by rw [am_upS, am_stO (by decide), b0.2.1 60 (by decide), K60]
              refine am_wp_go rfl (by simp (disch := omega) only [s124 hw, B60, am_b0, am_addE, am_subE, am_mulE, am_laddE, am_lsubE, am_upO, am_upS, am_stS, am_stO, am_tnn, am_brl, am_brg, am_bre, am_brn, am_brG, am_brL, am_st1, am_no2, am_st2, am_clr, and_self, true_and, and_true, true_or, or_true, List.length_cons, List.length_nil] <;> omega) ?_
              try simp (disch := omega) only [s124 hw, B60, am_b0, am_addE, am_subE, am_mulE, am_laddE, am_lsubE, am_upO, am_upS, am_stS, am_stO, am_tnn, am_brl, am_brg, am_bre, am_brn, am_brG, am_brL, am_st1, am_no2, am_st2, am_clr]
              refine am_wp_ret rfl rfl ?_
              refine T1 _ (S.1 + 1, S.2.1 + 1, S.2.2 ++ [(c, 0, 0)]) _ _ sh1 _ R1 (by omega) (frN_up (frN_tr fIK (frD_N b0)) (by decide)) ?_ ?_ (ndR_u (S := (0, S.2.1 + 1, S.2.2 ++ [(c, 0, 0)])) nd (by decide)) (rpR_up (frD_rp b0 k1) (Or.inr ⟨rfl, by decide⟩)) (fun J q0 q1 q2 q3 q4 q5 => h J R1 j0 (by omega) (by dsimp only; omega) (by dsimp only; omega) q0 q1 q2 q3 q4 q5)
              · rw [am_upS, am_stO (by decide), b0.2.1 10 (by decide), K10]
              · rw [am_upS, am_stS rfl]
                dsimp only
                rw [List.length_append, List.length_singleton]
                omega
            refine am_wp_go rfl (by simp (disch := omega) only [am_b0, am_addE, am_subE, am_mulE, am_laddE, am_lsubE, am_upO, am_upS, am_stS, am_stO, am_tnn, am_brl, am_brg, am_bre, am_brn, am_brG, am_brL, am_st1, am_no2, am_st2, am_clr, and_self, true_and, and_true, true_or, or_true, List.length_cons, List.length_nil] <;> omega) ?_
            try simp (disch := omega) only [am_b0, am_addE, am_subE, am_mulE, am_laddE, am_lsubE, am_upO, am_upS, am_stS, am_stO, am_tnn, am_brl, am_brg, am_bre, am_brn, am_brG, am_brL, am_st1, am_no2, am_st2, am_clr]
            refine am_wp_br (fun b105 => ?_) (fun b105 => ?_)
            · exact am_wp_ls (B114 (by unfold cmpW at oc; omega)) rfl
            · refine am_wp_go rfl (by simp (disch := omega) only [am_b0, am_addE, am_subE, am_mulE, am_laddE, am_lsubE, am_upO, am_upS, am_stS, am_stO, am_tnn, am_brl, am_brg, am_bre, am_brn, am_brG, am_brL, am_st1, am_no2, am_st2, am_clr, and_self, true_and, and_true, true_or, or_true, List.length_cons, List.length_nil] <;> omega) ?_
              try simp (disch := omega) only [am_b0, am_addE, am_subE, am_mulE, am_laddE, am_lsubE, am_upO, am_upS, am_stS, am_stO, am_tnn, am_brl, am_brg, am_bre, am_brn, am_brG, am_brL, am_st1, am_no2, am_st2, am_clr]
              refine am_wp_br (fun b111 => ?_) (fun b111 => ?_)
              · refine am_wp_go rfl (by simp (disch := omega) only [am_b0, am_addE, am_subE, am_mulE, am_laddE, am_lsubE, am_upO, am_upS, am_stS, am_stO, am_tnn, am_brl, am_brg, am_bre, am_brn, am_brG, am_brL, am_st1, am_no2, am_st2, am_clr, and_self, true_and, and_true, true_or, or_true, List.length_cons, List.length_nil] <;> omega) ?_
                try simp (disch := omega) only [am_b0, am_addE, am_subE, am_mulE, am_laddE, am_lsubE, am_upO, am_upS, am_stS, am_stO, am_tnn, am_brl, am_brg, am_bre, am_brn, am_brG, am_brL, am_st1, am_no2, am_st2, am_clr]
                refine am_wp_br (fun b135 => ?_) (fun b135 => ?_)
                · have hcv : cmpW c w := by unfold cmpW at oc ⊢; omega
                  clear B114 oc
                  refine am_wp_go rfl (by simp (disch := omega) only [am_b0, am_addE, am_subE, am_mulE, am_laddE, am_lsubE, am_upO, am_upS, am_stS, am_stO, am_tnn, am_brl, am_brg, am_bre, am_brn, am_brG, am_brL, am_st1, am_no2, am_st2, am_clr, and_self, true_and, and_true, true_or, or_true, List.length_cons, List.length_nil] <;> omega) ?_
                  try simp (disch := omega) only [am_b0, am_addE, am_subE, am_mulE, am_laddE, am_lsubE, am_upO, am_upS, am_stS, am_stO, am_tnn, am_brl, am_brg, am_bre, am_brn, am_brG, am_brL, am_st1, am_no2, am_st2, am_clr]
                  refine am_wp_cc rfl rfl rfl (congrArg Prod.fst (s124 hw)) (w_M_sCompare (NM := NM) (q := q) (S := (S.1 + 1, S.2.1 + 1, S.2.2)) hcv hw k1 nK (by dsimp only; omega) (fun e he A a0 a1 a2 => ⟨_, rfl, ?_⟩) (fun S' he A a0 a1 a2 a3 a4 a5 => ⟨_, rfl, ?_⟩))
                  · skip
                    refine am_wp_go rfl (by simp (disch := omega) only [s124 hw, am_b0, am_addE, am_subE, am_mulE, am_laddE, am_lsubE, am_upO, am_upS, am_stS, am_stO, am_tnn, am_brl, am_brg, am_bre, am_brn, am_brG, am_brL, am_st1, am_no2, am_st2, am_clr, and_self, true_and, and_true, true_or, or_true, List.length_cons, List.length_nil] <;> omega) ?_
                    try simp (disch := omega) only [s124 hw, am_b0, am_addE, am_subE, am_mulE, am_laddE, am_lsubE, am_upO, am_upS, am_stS, am_stO, am_tnn, am_brl, am_brg, am_bre, am_brn, am_brG, am_brL, am_st1, am_no2, am_st2, am_clr]
                    refine am_wp_ret rfl rfl ?_
                    exact T0 _ e _ _ sh1 A R1 (frN_tr fIK a0) a1 a2 (fun J q0 q1 q2 => h0 e he _ _ sh1 J R1 j0 (by omega) (by omega) (by omega) q0 q1 q2)
                  · have lk := (sLeaf_K he).2
                    dsimp only at lk
                    have a2 : A 124 60 = ((k + 1 : Nat) : Int) := by rw [a2, K60]
                    refine am_wp_go rfl (by simp (disch := omega) only [s124 hw, a2, am_b0, am_addE, am_subE, am_mulE, am_laddE, am_lsubE, am_upO, am_upS, am_stS, am_stO, am_tnn, am_brl, am_brg, am_bre, am_brn, am_brG, am_brL, am_st1, am_no2, am_st2, am_clr, and_self, true_and, and_true, true_or, or_true, List.length_cons, List.length_nil] <;> omega) ?_
                    try simp (disch := omega) only [s124 hw, a2, am_b0, am_addE, am_subE, am_mulE, am_laddE, am_lsubE, am_upO, am_upS, am_stS, am_stO, am_tnn, am_brl, am_brg, am_bre, am_brn, am_brG, am_brL, am_st1, am_no2, am_st2, am_clr]
                    refine am_wp_ret rfl rfl ?_
                    exact T1 _ S' _ _ sh1 A R1 (by omega) (frN_tr fIK a0) (by rw [a1, K10]) a3 a4 a5 (fun J q0 q1 q2 q3 q4 q5 => h1 S' he _ _ sh1 J R1 j0 (by omega) (by omega) (by omega) q0 q1 q2 q3 q4 q5)
                · have hcv : c = 14 := by unfold cmpW at oc; omega
                  clear B114 oc
                  subst hcv
                  refine am_wp_go rfl (by simp (disch := omega) only [am_b0, am_addE, am_subE, am_mulE, am_laddE, am_lsubE, am_upO, am_upS, am_stS, am_stO, am_tnn, am_brl, am_brg, am_bre, am_brn, am_brG, am_brL, am_st1, am_no2, am_st2, am_clr, and_self, true_and, and_true, true_or, or_true, List.length_cons, List.length_nil] <;> omega) ?_
                  try simp (disch := omega) only [am_b0, am_addE, am_subE, am_mulE, am_laddE, am_lsubE, am_upO, am_upS, am_stS, am_stO, am_tnn, am_brl, am_brg, am_bre, am_brn, am_brG, am_brL, am_st1, am_no2, am_st2, am_clr]
                  refine am_wp_cc rfl rfl rfl (congrArg Prod.fst (s124 hw)) (w_M_sAfter (NM := NM) (q := q) (S := (S.1 + 1, S.2.1 + 1, S.2.2)) hw k1 hnK nK (by dsimp only; omega) (fun e he A a0 a1 a2 => ⟨_, rfl, ?_⟩) (fun S' he A a0 a1 a2 a3 a4 a5 => ⟨_, rfl, ?_⟩))
                  · skip
                    refine am_wp_go rfl (by simp (disch := omega) only [s124 hw, am_b0, am_addE, am_subE, am_mulE, am_laddE, am_lsubE, am_upO, am_upS, am_stS, am_stO, am_tnn, am_brl, am_brg, am_bre, am_brn, am_brG, am_brL, am_st1, am_no2, am_st2, am_clr, and_self, true_and, and_true, true_or, or_true, List.length_cons, List.length_nil] <;> omega) ?_
                    try simp (disch := omega) only [s124 hw, am_b0, am_addE, am_subE, am_mulE, am_laddE, am_lsubE, am_upO, am_upS, am_stS, am_stO, am_tnn, am_brl, am_brg, am_bre, am_brn, am_brG, am_brL, am_st1, am_no2, am_st2, am_clr]
                    refine am_wp_ret rfl rfl ?_
                    exact T0 _ e _ _ sh1 A R1 (frN_tr fIK a0) a1 a2 (fun J q0 q1 q2 => h0 e he _ _ sh1 J R1 j0 (by omega) (by omega) (by omega) q0 q1 q2)
                  · have lk := (sLeaf_K he).2
                    dsimp only at lk
                    have a2 : A 124 60 = ((k + 1 : Nat) : Int) := by rw [a2, K60]
                    refine am_wp_go rfl (by simp (disch := omega) only [s124 hw, a2, am_b0, am_addE, am_subE, am_mulE, am_laddE, am_lsubE, am_upO, am_upS, am_stS, am_stO, am_tnn, am_brl, am_brg, am_bre, am_brn, am_brG, am_brL, am_st1, am_no2, am_st2, am_clr, and_self, true_and, and_true, true_or, or_true, List.length_cons, List.length_nil] <;> omega) ?_
                    try simp (disch := omega) only [s124 hw, a2, am_b0, am_addE, am_subE, am_mulE, am_laddE, am_lsubE, am_upO, am_upS, am_stS, am_stO, am_tnn, am_brl, am_brg, am_bre, am_brn, am_brG, am_brL, am_st1, am_no2, am_st2, am_clr]
                    refine am_wp_ret rfl rfl ?_
                    exact T1 _ S' _ _ sh1 A R1 (by omega) (frN_tr fIK a0) (by rw [a1, K10]) a3 a4 a5 (fun J q0 q1 q2 q3 q4 q5 => h1 S' he _ _ sh1 J R1 j0 (by omega) (by omega) (by omega) q0 q1 q2 q3 q4 q5)
              · exact am_wp_ls (B114 (by unfold cmpW at oc; omega)) rfl
          · have c12 : c = 12 := by unfold cmpW at oc; omega
            rw [if_pos c12] at h0 h1
            refine am_wp_go rfl (by simp (disch := omega) only [am_b0, am_addE, am_subE, am_mulE, am_laddE, am_lsubE, am_upO, am_upS, am_stS, am_stO, am_tnn, am_brl, am_brg, am_bre, am_brn, am_brG, am_brL, am_st1, am_no2, am_st2, am_clr, and_self, true_and, and_true, true_or, or_true, List.length_cons, List.length_nil] <;> omega) ?_
            try simp (disch := omega) only [am_b0, am_addE, am_subE, am_mulE, am_laddE, am_lsubE, am_upO, am_upS, am_stS, am_stO, am_tnn, am_brl, am_brg, am_bre, am_brn, am_brG, am_brL, am_st1, am_no2, am_st2, am_clr]
            refine am_wp_cc rfl rfl rfl (congrArg Prod.fst (s124 hw)) (hN _ (m0 + 1) (sl0 + 8) sh1 K R1 (S.1 + 1, S.2.1 + 1, S.2.2) hw (by omega) k1 hnK nK K60 (by dsimp only; omega) (by dsimp only; omega) (fun e he m2 sl2 sh2 A R2 a0 a1 a2 a3 a4 a5 a6 => ⟨_, rfl, ?_⟩) (fun S' he m2 sl2 sh2 A R2 a0 a1 a2 a3 a4 a5 a6 a7 a8 a9 => ⟨_, rfl, ?_⟩))
            · dsimp only at a2 a3
              have hw2 := mo_wd a0 hw
              have hw := hw2
              refine am_wp_go rfl (by simp (disch := omega) only [s124 hw, am_b0, am_addE, am_subE, am_mulE, am_laddE, am_lsubE, am_upO, am_upS, am_stS, am_stO, am_tnn, am_brl, am_brg, am_bre, am_brn, am_brG, am_brL, am_st1, am_no2, am_st2, am_clr, and_self, true_and, and_true, true_or, or_true, List.length_cons, List.length_nil] <;> omega) ?_
              try simp (disch := omega) only [s124 hw, am_b0, am_addE, am_subE, am_mulE, am_laddE, am_lsubE, am_upO, am_upS, am_stS, am_stO, am_tnn, am_brl, am_brg, am_bre, am_brn, am_brG, am_brL, am_st1, am_no2, am_st2, am_clr]
              refine am_wp_ret rfl rfl ?_
              exact T0 _ e m2 sl2 sh2 A R2 (frN_tr fIK a4) a5 a6 (fun J q0 q1 q2 => h0 e he m2 sl2 sh2 J R2 (mo_tr j0 a0) (by omega) (by omega) (by omega) q0 q1 q2)
            · dsimp only at a2 a3
              have hw2 := mo_wd a0 hw
              have hw := hw2
              refine am_wp_go rfl (by simp (disch := omega) only [s124 hw, a6, am_b0, am_addE, am_subE, am_mulE, am_laddE, am_lsubE, am_upO, am_upS, am_stS, am_stO, am_tnn, am_brl, am_brg, am_bre, am_brn, am_brG, am_brL, am_st1, am_no2, am_st2, am_clr, and_self, true_and, and_true, true_or, or_true, List.length_cons, List.length_nil] <;> omega) ?_
              try simp (disch := omega) only [s124 hw, a6, am_b0, am_addE, am_subE, am_mulE, am_laddE, am_lsubE, am_upO, am_upS, am_stS, am_stO, am_tnn, am_brl, am_brg, am_bre, am_brn, am_brG, am_brL, am_st1, am_no2, am_st2, am_clr]
              refine am_wp_ret rfl rfl ?_
              exact T1 _ S' m2 sl2 sh2 A R2 (by omega) (frN_tr fIK a4) (by rw [a5, K10]) a7 a8 a9 (fun J q0 q1 q2 q3 q4 q5 => h1 S' he m2 sl2 sh2 J R2 (mo_tr j0 a0) (by omega) (by omega) (by omega) q0 q1 q2 q3 q4 q5)
        · have b78 : isSg (lxJ b n lim S.1) 40 := Classical.not_not.mp b78
          rw [if_pos b78] at h0 h1
          refine am_wp_go rfl (by simp (disch := omega) only [am_b0, am_addE, am_subE, am_mulE, am_laddE, am_lsubE, am_upO, am_upS, am_stS, am_stO, am_tnn, am_brl, am_brg, am_bre, am_brn, am_brG, am_brL, am_st1, am_no2, am_st2, am_clr, and_self, true_and, and_true, true_or, or_true, List.length_cons, List.length_nil] <;> omega) ?_
          try simp (disch := omega) only [am_b0, am_addE, am_subE, am_mulE, am_laddE, am_lsubE, am_upO, am_upS, am_stS, am_stO, am_tnn, am_brl, am_brg, am_bre, am_brn, am_brG, am_brL, am_st1, am_no2, am_st2, am_clr]
          refine am_wp_cc rfl rfl rfl (congrArg Prod.fst (s124 hw)) (hB _ (m0 + 1) (sl0 + 8) sh1 K R1 (S.1 + 1, S.2.1 + 1, S.2.2) hw (by omega) k1 hnK nK K60 (by dsimp only; omega) (by dsimp only; omega) (fun e he m2 sl2 sh2 A R2 a0 a1 a2 a3 a4 a5 a6 => ⟨_, rfl, ?_⟩) (fun S' he m2 sl2 sh2 A R2 a0 a1 a2 a3 a4 a5 a6 a7 a8 a9 => ⟨_, rfl, ?_⟩))
          · dsimp only at a2 a3
            have hw2 := mo_wd a0 hw
            have hw := hw2
            refine am_wp_go rfl (by simp (disch := omega) only [s124 hw, am_b0, am_addE, am_subE, am_mulE, am_laddE, am_lsubE, am_upO, am_upS, am_stS, am_stO, am_tnn, am_brl, am_brg, am_bre, am_brn, am_brG, am_brL, am_st1, am_no2, am_st2, am_clr, and_self, true_and, and_true, true_or, or_true, List.length_cons, List.length_nil] <;> omega) ?_
            try simp (disch := omega) only [s124 hw, am_b0, am_addE, am_subE, am_mulE, am_laddE, am_lsubE, am_upO, am_upS, am_stS, am_stO, am_tnn, am_brl, am_brg, am_bre, am_brn, am_brG, am_brL, am_st1, am_no2, am_st2, am_clr]
            refine am_wp_ret rfl rfl ?_
            exact T0 _ e m2 sl2 sh2 A R2 (frN_tr fIK a4) a5 a6 (fun J q0 q1 q2 => h0 e he m2 sl2 sh2 J R2 (mo_tr j0 a0) (by omega) (by omega) (by omega) q0 q1 q2)
          · dsimp only at a2 a3
            have hw2 := mo_wd a0 hw
            have hw := hw2
            refine am_wp_go rfl (by simp (disch := omega) only [s124 hw, a6, am_b0, am_addE, am_subE, am_mulE, am_laddE, am_lsubE, am_upO, am_upS, am_stS, am_stO, am_tnn, am_brl, am_brg, am_bre, am_brn, am_brG, am_brL, am_st1, am_no2, am_st2, am_clr, and_self, true_and, and_true, true_or, or_true, List.length_cons, List.length_nil] <;> omega) ?_
            try simp (disch := omega) only [s124 hw, a6, am_b0, am_addE, am_subE, am_mulE, am_laddE, am_lsubE, am_upO, am_upS, am_stS, am_stO, am_tnn, am_brl, am_brg, am_bre, am_brn, am_brG, am_brL, am_st1, am_no2, am_st2, am_clr]
            refine am_wp_ret rfl rfl ?_
            exact T1 _ S' m2 sl2 sh2 A R2 (by omega) (frN_tr fIK a4) (by rw [a5, K10]) a7 a8 a9 (fun J q0 q1 q2 q3 q4 q5 => h1 S' he m2 sl2 sh2 J R2 (mo_tr j0 a0) (by omega) (by omega) (by omega) q0 q1 q2 q3 q4 q5)
      · omega
  refine am_wp_go rfl (by simp (disch := omega) only [s124 hw, am_bn0, am_addE, am_subE, am_mulE, am_laddE, am_lsubE, am_upO, am_upS, am_stS, am_stO, am_tnn, am_brl, am_brg, am_bre, am_brn, am_brG, am_brL, am_st1, am_no2, am_st2, am_clr, and_self, true_and, and_true, true_or, or_true, List.length_cons, List.length_nil] <;> omega) ?_
  try simp (disch := omega) only [s124 hw, am_bn0, am_addE, am_subE, am_mulE, am_laddE, am_lsubE, am_upO, am_upS, am_stS, am_stO, am_tnn, am_brl, am_brg, am_bre, am_brn, am_brG, am_brL, am_st1, am_no2, am_st2, am_clr]
  refine am_wp_br (fun b13 => ?_) (fun b13 => ?_)
  · exact am_wp_ls (U (Or.inl b13)) rfl
  · refine am_wp_go rfl (by simp (disch := omega) only [s124 hw, am_bn0, am_addE, am_subE, am_mulE, am_laddE, am_lsubE, am_upO, am_upS, am_stS, am_stO, am_tnn, am_brl, am_brg, am_bre, am_brn, am_brG, am_brL, am_st1, am_no2, am_st2, am_clr, and_self, true_and, and_true, true_or, or_true, List.length_cons, List.length_nil] <;> omega) ?_
    try simp (disch := omega) only [s124 hw, am_bn0, am_addE, am_subE, am_mulE, am_laddE, am_lsubE, am_upO, am_upS, am_stS, am_stO, am_tnn, am_brl, am_brg, am_bre, am_brn, am_brG, am_brL, am_st1, am_no2, am_st2, am_clr]
    refine am_wp_br (fun b18 => ?_) (fun b18 => ?_)
    · exact am_wp_ls (U (Or.inr (Classical.not_not.mp (fun hx => b18 (ow.mpr hx))))) rfl
    · have nb : ¬ (7 ≤ owC (lxJ b n lim S.1) ∧ owC (lxJ b n lim S.1) ≤ 14) := ow.mp (Classical.not_not.mp b18)
      rw [if_pos (fun hx => by rcases hx with hx | hx; exact b13 hx; exact nb hx)] at h0
      refine am_wp_go rfl (by simp (disch := omega) only [s124 hw, am_bn0, am_addE, am_subE, am_mulE, am_laddE, am_lsubE, am_upO, am_upS, am_stS, am_stO, am_tnn, am_brl, am_brg, am_bre, am_brn, am_brG, am_brL, am_st1, am_no2, am_st2, am_clr, and_self, true_and, and_true, true_or, or_true, List.length_cons, List.length_nil] <;> omega) ?_
      try simp (disch := omega) only [s124 hw, am_bn0, am_addE, am_subE, am_mulE, am_laddE, am_lsubE, am_upO, am_upS, am_stS, am_stO, am_tnn, am_brl, am_brg, am_bre, am_brn, am_brG, am_brL, am_st1, am_no2, am_st2, am_clr]
      refine am_wp_cc rfl rfl rfl (congrArg Prod.fst (s124 hw)) (w_M_bad' (k := 1) rfl hw cJ (Or.inl rfl) (fun A a0 a1 a2 => ⟨_, rfl, ?_⟩))
      refine am_wp_ret rfl rfl ?_
      exact h0 _ rfl _ _ sh1 A R1 j0 (by omega) (by omega) (by omega) (frN_tr fJ (frN_Q a0)) a1 a2
end SR
