/-! MORNINGS: the reference's leaves -/
theorem w_M_hasLeft {m sl : Nat} {sh : Nat → Nat × Nat} {I : Nat → Nat → Int} {R : Nat → Nat → Nat} {Q : am_R → am_M → Prop} {d : Nat} {l : Nat → Nat} {s n : Nat} (hw : wd sh R) (hl : lfR I l n) (hs : s < n) (hn : n ≤ 8) (h : Q (am_yi (am_b (0 < l (2 * s) + l (2 * s + 1)))) (m, sl, sh, I, R)) : am_wp (d) 270 0 [some (.inr (.inr (124))), some (.inl ((s : Int)))] [] (m, sl, sh, I, R) Q := by
  have e1 := hl (2 * s) (by omega)
  have e2 := hl (2 * s + 1) (by omega)
  refine am_wp_go rfl (by simp (disch := omega) only [s124 hw, r124_39 hw, s145 hw, e1.1, e2.1, am_tnA, am_tnM, Int.reduceToNat, am_addE, am_subE, am_mulE, am_laddE, am_lsubE, am_upO, am_upS, am_stS, am_stO, am_tnn, am_brl, am_brg, am_bre, am_brn, am_brG, am_brL, am_st1, am_no2, am_st2, am_clr, and_self, true_and, and_true, true_or, or_true, List.length_cons, List.length_nil] <;> omega) ?_
  try simp (disch := omega) only [s124 hw, r124_39 hw, s145 hw, e1.1, e2.1, am_tnA, am_tnM, Int.reduceToNat, am_addE, am_subE, am_mulE, am_laddE, am_lsubE, am_upO, am_upS, am_stS, am_stO, am_tnn, am_brl, am_brg, am_bre, am_brn, am_brG, am_brL, am_st1, am_no2, am_st2, am_clr]
  refine am_wp_br (fun b19 => ?_) (fun b19 => ?_)
  · refine am_wp_go rfl (by simp (disch := omega) only [s124 hw, r124_39 hw, s145 hw, e1.1, e2.1, am_tnA, am_tnM, Int.reduceToNat, am_addE, am_subE, am_mulE, am_laddE, am_lsubE, am_upO, am_upS, am_stS, am_stO, am_tnn, am_brl, am_brg, am_bre, am_brn, am_brG, am_brL, am_st1, am_no2, am_st2, am_clr, and_self, true_and, and_true, true_or, or_true, List.length_cons, List.length_nil] <;> omega) ?_
    try simp (disch := omega) only [s124 hw, r124_39 hw, s145 hw, e1.1, e2.1, am_tnA, am_tnM, Int.reduceToNat, am_addE, am_subE, am_mulE, am_laddE, am_lsubE, am_upO, am_upS, am_stS, am_stO, am_tnn, am_brl, am_brg, am_bre, am_brn, am_brG, am_brL, am_st1, am_no2, am_st2, am_clr]
    refine am_wp_ret rfl rfl ?_
    rwa [am_bF (by omega)] at h
  · refine am_wp_go rfl (by simp (disch := omega) only [s124 hw, r124_39 hw, s145 hw, e1.1, e2.1, am_tnA, am_tnM, Int.reduceToNat, am_addE, am_subE, am_mulE, am_laddE, am_lsubE, am_upO, am_upS, am_stS, am_stO, am_tnn, am_brl, am_brg, am_bre, am_brn, am_brG, am_brL, am_st1, am_no2, am_st2, am_clr, and_self, true_and, and_true, true_or, or_true, List.length_cons, List.length_nil] <;> omega) ?_
    try simp (disch := omega) only [s124 hw, r124_39 hw, s145 hw, e1.1, e2.1, am_tnA, am_tnM, Int.reduceToNat, am_addE, am_subE, am_mulE, am_laddE, am_lsubE, am_upO, am_upS, am_stS, am_stO, am_tnn, am_brl, am_brg, am_bre, am_brn, am_brG, am_brL, am_st1, am_no2, am_st2, am_clr]
    refine am_wp_ret rfl rfl ?_
    rwa [am_bT (by omega)] at h
section MORN
variable {m sl : Nat} {sh : Nat → Nat × Nat} {I : Nat → Nat → Int} {R : Nat → Nat → Nat} {Q : am_R → am_M → Prop} {d : Nat} {l : Nat → Nat} {on : Nat}
theorem w_M_draw {k : Nat} (hw : wd sh R) (hk : 1 ≤ k) (hk2 : k ≤ 100) (h : Q (am_yi ((am_ushr (nxt (I 124 56)) 8).toNat % k : Nat)) (m, sl, sh, am_up I 124 56 (nxt (I 124 56)), R)) : am_wp (d) 304 0 [some (.inr (.inr (124))), some (.inl ((k : Int)))] [] (m, sl, sh, I, R) Q := by
  refine am_wp_go rfl (by simp only [s124 hw, and_self, true_and, and_true] <;> omega) ?_
  refine am_wp_ret rfl rfl ?_
  have e : am_up I 124 56 (nxt (I 124 56)) 124 56 = nxt (I 124 56) := by rw [am_upS, am_stS rfl]
  have b := am_ushr8 (nxt (I 124 56))
  have e2 : am_rem (am_ushr (am_up I 124 56 (nxt (I 124 56)) 124 56) 8) (k : Int) = (((am_ushr (nxt (I 124 56)) 8).toNat % k : Nat) : Int) := by
    rw [e]
    rw [am_remE (by omega), Int.natCast_emod, show (((am_ushr (nxt (I 124 56)) 8).toNat : Nat) : Int) = am_ushr (nxt (I 124 56)) 8 by omega]
  rw [← e2] at h
  exact h
theorem w_M_drawn {k : Nat} (hw : wd sh R) (hkk : wk (I 126)) (hl : lfR I l (nS (I 126))) (ho2 : on < 256) (hk : 1 ≤ k) (hk2 : k ≤ 8) (h : Q (am_yi (kth (cdr l on) (nS (I 126)) ((am_ushr (nxt (I 124 56)) 8).toNat % k))) (m, sl, sh, am_up I 124 56 (nxt (I 124 56)), R)) : am_wp (d + 1) 305 0 [some (.inr (.inr (124))), some (.inl ((k : Int))), some (.inl ((on : Int))), none, none] [] (m, sl, sh, I, R) Q := by
  have n1 := wk_nS hkk
  unfold kth at h
  refine am_wp_go rfl (by simp (disch := omega) only [am_addE, am_subE, am_mulE, am_laddE, am_lsubE, am_upO, am_upS, am_stS, am_stO, am_tnn, am_brl, am_brg, am_bre, am_brn, am_brG, am_brL, am_st1, am_no2, am_st2, am_clr, and_self, true_and, and_true, true_or, or_true, List.length_cons, List.length_nil] <;> omega) ?_
  try simp (disch := omega) only [am_addE, am_subE, am_mulE, am_laddE, am_lsubE, am_upO, am_upS, am_stS, am_stO, am_tnn, am_brl, am_brg, am_bre, am_brn, am_brG, am_brL, am_st1, am_no2, am_st2, am_clr]
  refine am_wp_cc rfl rfl rfl (congrArg Prod.fst (s124 hw)) (w_M_draw hw hk (by omega) ⟨_, rfl, ?_⟩)
  have z1 : am_up I 124 56 (nxt (I 124 56)) 126 = I 126 := am_upO (by decide)
  have z2 : am_up I 124 56 (nxt (I 124 56)) 145 = I 145 := am_upO (by decide)
  have hq : (am_ushr (nxt (I 124 56)) 8).toNat % k < k := Nat.mod_lt _ (by omega)
  generalize am_up I 124 56 (nxt (I 124 56)) = J at *
  generalize (am_ushr (nxt (I 124 56)) 8).toNat % k = q at *
  have hlJ : lfR J l (nS (I 126)) := by unfold lfR; rw [z2]; exact hl
  have hkJ : wk (J 126) := by rw [z1]; exact hkk
  refine am_wp_go rfl (by simp (disch := omega) only [am_addE, am_subE, am_mulE, am_laddE, am_lsubE, am_upO, am_upS, am_stS, am_stO, am_tnn, am_brl, am_brg, am_bre, am_brn, am_brG, am_brL, am_st1, am_no2, am_st2, am_clr, and_self, true_and, and_true, true_or, or_true, List.length_cons, List.length_nil] <;> omega) ?_
  have L : ∀ s, s ≤ nS (I 126) → ∀ r, ax_ct (cdr l on) s + r = q → Q (am_yi (am_ff (fun s => cdr l on s && decide (ax_ct (cdr l on) s = q)) (nS (I 126)) s)) (m, sl, sh, J, R) → am_wp (d + 1) 305 9 [some (.inr (.inr (124))), some (.inl ((k : Int))), some (.inl ((on : Int))), some (.inl ((r : Int))), some (.inl ((s : Int)))] [] (m, sl, sh, J, R) Q := by
    refine am_lp (nS (I 126)) (fun s hs ih r hr h => ?_)
    refine am_wp_go rfl (by simp (disch := omega) only [am_b0, am_bn0, am_addE, am_subE, am_mulE, am_laddE, am_lsubE, am_upO, am_upS, am_stS, am_stO, am_tnn, am_brl, am_brg, am_bre, am_brn, am_brG, am_brL, am_st1, am_no2, am_st2, am_clr, and_self, true_and, and_true, true_or, or_true, List.length_cons, List.length_nil] <;> omega) ?_
    try simp (disch := omega) only [am_b0, am_bn0, am_addE, am_subE, am_mulE, am_laddE, am_lsubE, am_upO, am_upS, am_stS, am_stO, am_tnn, am_brl, am_brg, am_bre, am_brn, am_brG, am_brL, am_st1, am_no2, am_st2, am_clr]
    refine am_wp_cc rfl rfl rfl (congrArg Prod.fst (s124 hw)) (w_M_slicesN hw (wk_w hkJ) ⟨_, rfl, ?_⟩)
    rw [z1]
    refine am_wp_go rfl (by simp (disch := omega) only [am_b0, am_bn0, am_addE, am_subE, am_mulE, am_laddE, am_lsubE, am_upO, am_upS, am_stS, am_stO, am_tnn, am_brl, am_brg, am_bre, am_brn, am_brG, am_brL, am_st1, am_no2, am_st2, am_clr, and_self, true_and, and_true, true_or, or_true, List.length_cons, List.length_nil] <;> omega) ?_
    try simp (disch := omega) only [am_b0, am_bn0, am_addE, am_subE, am_mulE, am_laddE, am_lsubE, am_upO, am_upS, am_stS, am_stO, am_tnn, am_brl, am_brg, am_bre, am_brn, am_brG, am_brL, am_st1, am_no2, am_st2, am_clr]
    refine am_wp_br (fun b15 => ?_) (fun b15 => ?_)
    · refine am_wp_go rfl (by simp (disch := omega) only [am_b0, am_bn0, am_addE, am_subE, am_mulE, am_laddE, am_lsubE, am_upO, am_upS, am_stS, am_stO, am_tnn, am_brl, am_brg, am_bre, am_brn, am_brG, am_brL, am_st1, am_no2, am_st2, am_clr, and_self, true_and, and_true, true_or, or_true, List.length_cons, List.length_nil] <;> omega) ?_
      try simp (disch := omega) only [am_b0, am_bn0, am_addE, am_subE, am_mulE, am_laddE, am_lsubE, am_upO, am_upS, am_stS, am_stO, am_tnn, am_brl, am_brg, am_bre, am_brn, am_brG, am_brL, am_st1, am_no2, am_st2, am_clr]
      refine am_wp_ret rfl rfl ?_
      rwa [am_ff_end (by omega)] at h
    · have ih := ih (by omega)
      refine am_wp_go rfl (by simp (disch := omega) only [am_b0, am_bn0, am_addE, am_subE, am_mulE, am_laddE, am_lsubE, am_upO, am_upS, am_stS, am_stO, am_tnn, am_brl, am_brg, am_bre, am_brn, am_brG, am_brL, am_st1, am_no2, am_st2, am_clr, and_self, true_and, and_true, true_or, or_true, List.length_cons, List.length_nil] <;> omega) ?_
      try simp (disch := omega) only [am_b0, am_bn0, am_addE, am_subE, am_mulE, am_laddE, am_lsubE, am_upO, am_upS, am_stS, am_stO, am_tnn, am_brl, am_brg, am_bre, am_brn, am_brG, am_brL, am_st1, am_no2, am_st2, am_clr]
      refine am_wp_cc rfl rfl rfl (trivial) (w_M_has (s := on) (k := s) (by omega) (by omega) ⟨_, rfl, ?_⟩)
      refine am_wp_go rfl (by simp (disch := omega) only [am_b0, am_bn0, am_addE, am_subE, am_mulE, am_laddE, am_lsubE, am_upO, am_upS, am_stS, am_stO, am_tnn, am_brl, am_brg, am_bre, am_brn, am_brG, am_brL, am_st1, am_no2, am_st2, am_clr, and_self, true_and, and_true, true_or, or_true, List.length_cons, List.length_nil] <;> omega) ?_
      try simp (disch := omega) only [am_b0, am_bn0, am_addE, am_subE, am_mulE, am_laddE, am_lsubE, am_upO, am_upS, am_stS, am_stO, am_tnn, am_brl, am_brg, am_bre, am_brn, am_brG, am_brL, am_st1, am_no2, am_st2, am_clr]
      refine am_wp_br (fun b24 => ?_) (fun b24 => ?_)
      · have h21 : cdr l on s = false := by unfold cdr; rw [b24]; rfl
        rw [am_ff_on (by rw [h21]; rfl)] at h
        refine am_wp_go rfl (by simp (disch := omega) only [am_b0, am_bn0, am_addE, am_subE, am_mulE, am_laddE, am_lsubE, am_upO, am_upS, am_stS, am_stO, am_tnn, am_brl, am_brg, am_bre, am_brn, am_brG, am_brL, am_st1, am_no2, am_st2, am_clr, and_self, true_and, and_true, true_or, or_true, List.length_cons, List.length_nil] <;> omega) ?_
        try simp (disch := omega) only [am_b0, am_bn0, am_addE, am_subE, am_mulE, am_laddE, am_lsubE, am_upO, am_upS, am_stS, am_stO, am_tnn, am_brl, am_brg, am_bre, am_brn, am_brG, am_brL, am_st1, am_no2, am_st2, am_clr]
        exact am_wp_ls (ih r (by simp only [ax_ct, h21, cond_false]; exact hr) h) rfl
      · have hf : on.testBit s = false := by cases hc : on.testBit s with | true => exact absurd hc b24 | false => rfl
        refine am_wp_go rfl (by simp (disch := omega) only [am_b0, am_bn0, am_addE, am_subE, am_mulE, am_laddE, am_lsubE, am_upO, am_upS, am_stS, am_stO, am_tnn, am_brl, am_brg, am_bre, am_brn, am_brG, am_brL, am_st1, am_no2, am_st2, am_clr, and_self, true_and, and_true, true_or, or_true, List.length_cons, List.length_nil] <;> omega) ?_
        try simp (disch := omega) only [am_b0, am_bn0, am_addE, am_subE, am_mulE, am_laddE, am_lsubE, am_upO, am_upS, am_stS, am_stO, am_tnn, am_brl, am_brg, am_bre, am_brn, am_brG, am_brL, am_st1, am_no2, am_st2, am_clr]
        refine am_wp_cc rfl rfl rfl (congrArg Prod.fst (s124 hw)) (w_M_hasLeft hw hlJ (by omega) n1.2 ⟨_, rfl, ?_⟩)
        refine am_wp_go rfl (by simp (disch := omega) only [am_b0, am_bn0, am_addE, am_subE, am_mulE, am_laddE, am_lsubE, am_upO, am_upS, am_stS, am_stO, am_tnn, am_brl, am_brg, am_bre, am_brn, am_brG, am_brL, am_st1, am_no2, am_st2, am_clr, and_self, true_and, and_true, true_or, or_true, List.length_cons, List.length_nil] <;> omega) ?_
        try simp (disch := omega) only [am_b0, am_bn0, am_addE, am_subE, am_mulE, am_laddE, am_lsubE, am_upO, am_upS, am_stS, am_stO, am_tnn, am_brl, am_brg, am_bre, am_brn, am_brG, am_brL, am_st1, am_no2, am_st2, am_clr]
        refine am_wp_br (fun b33 => ?_) (fun b33 => ?_)
        · have h21 : cdr l on s = true := by unfold cdr; rw [hf, decide_eq_true b33]; rfl
          refine am_wp_go rfl (by simp (disch := omega) only [am_b0, am_bn0, am_addE, am_subE, am_mulE, am_laddE, am_lsubE, am_upO, am_upS, am_stS, am_stO, am_tnn, am_brl, am_brg, am_bre, am_brn, am_brG, am_brL, am_st1, am_no2, am_st2, am_clr, and_self, true_and, and_true, true_or, or_true, List.length_cons, List.length_nil] <;> omega) ?_
          try simp (disch := omega) only [am_b0, am_bn0, am_addE, am_subE, am_mulE, am_laddE, am_lsubE, am_upO, am_upS, am_stS, am_stO, am_tnn, am_brl, am_brg, am_bre, am_brn, am_brG, am_brL, am_st1, am_no2, am_st2, am_clr]
          refine am_wp_br (fun b40 => ?_) (fun b40 => ?_)
          · rw [am_ff_on (by rw [h21, decide_eq_false (by omega)]; rfl)] at h
            refine am_wp_go rfl (by simp (disch := omega) only [am_b0, am_bn0, am_addE, am_subE, am_mulE, am_laddE, am_lsubE, am_upO, am_upS, am_stS, am_stO, am_tnn, am_brl, am_brg, am_bre, am_brn, am_brG, am_brL, am_st1, am_no2, am_st2, am_clr, and_self, true_and, and_true, true_or, or_true, List.length_cons, List.length_nil] <;> omega) ?_
            try simp (disch := omega) only [am_b0, am_bn0, am_addE, am_subE, am_mulE, am_laddE, am_lsubE, am_upO, am_upS, am_stS, am_stO, am_tnn, am_brl, am_brg, am_bre, am_brn, am_brG, am_brL, am_st1, am_no2, am_st2, am_clr]
            refine am_wp_ls (ih (r - 1) (by simp only [ax_ct, h21, cond_true]; omega) h) ?_
            simp only [List.cons.injEq, Option.some.injEq, Sum.inl.injEq, and_true, true_and]
            omega
          · rw [am_ff_hit (by omega) (by rw [h21, decide_eq_true (by omega)]; rfl)] at h
            refine am_wp_go rfl (by simp (disch := omega) only [am_b0, am_bn0, am_addE, am_subE, am_mulE, am_laddE, am_lsubE, am_upO, am_upS, am_stS, am_stO, am_tnn, am_brl, am_brg, am_bre, am_brn, am_brG, am_brL, am_st1, am_no2, am_st2, am_clr, and_self, true_and, and_true, true_or, or_true, List.length_cons, List.length_nil] <;> omega) ?_
            try simp (disch := omega) only [am_b0, am_bn0, am_addE, am_subE, am_mulE, am_laddE, am_lsubE, am_upO, am_upS, am_stS, am_stO, am_tnn, am_brl, am_brg, am_bre, am_brn, am_brG, am_brL, am_st1, am_no2, am_st2, am_clr]
            refine am_wp_ret rfl rfl ?_
            exact h
        · have h21 : cdr l on s = false := by unfold cdr; rw [decide_eq_false b33, Bool.and_false]
          rw [am_ff_on (by rw [h21]; rfl)] at h
          refine am_wp_go rfl (by simp (disch := omega) only [am_b0, am_bn0, am_addE, am_subE, am_mulE, am_laddE, am_lsubE, am_upO, am_upS, am_stS, am_stO, am_tnn, am_brl, am_brg, am_bre, am_brn, am_brG, am_brL, am_st1, am_no2, am_st2, am_clr, and_self, true_and, and_true, true_or, or_true, List.length_cons, List.length_nil] <;> omega) ?_
          try simp (disch := omega) only [am_b0, am_bn0, am_addE, am_subE, am_mulE, am_laddE, am_lsubE, am_upO, am_upS, am_stS, am_stO, am_tnn, am_brl, am_brg, am_bre, am_brn, am_brG, am_brL, am_st1, am_no2, am_st2, am_clr]
          exact am_wp_ls (ih r (by simp only [ax_ct, h21, cond_false]; exact hr) h) rfl
  exact am_wp_ls (L 0 (by omega) q (by unfold ax_ct; omega) h) rfl
end MORN
