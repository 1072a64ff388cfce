/-! said(): slicesMeant of the class, its run -/
section SD
variable {m sl : Nat} {sh : Nat → Nat × Nat} {I : Nat → Nat → Int} {R : Nat → Nat → Nat} {Q : am_R → am_M → Prop} {d : Nat} {W N : Nat → Int} {G : List Go} {n : Nat}
/-- the steps are in order -/
def smW (c : Nat → Int) (n : Nat) : Prop := (∀ i, i < n → (c i = 12 → ∃ x r, sx_stk c i = x :: r) ∧ (c i = 15 ∨ c i = 16 → ∃ y x r, sx_stk c i = y :: x :: r)) ∧ sx_stk c n = [n - 1]
set_option maxHeartbeats 4000000 in
theorem w_slicesMeant (hw : wd sh R) (hk : kit I 6 W N) (hp : pl I 14 G) (hn : I 16 4 = (n : Int)) (hn40 : n ≤ 40) (hwf : smW (I 17) n) (h : ∀ J, (∀ a, a ≠ 20 → J a = I a) → Q (am_yi (smM I W G (n - 1))) (m, sl, sh, J, R)) : am_wp (d + 6) 89 0 [some (.inr (.inr (16))), some (.inr (.inr (5))), none, none, none, none] [] (m, sl, sh, I, R) Q := by
  have m1 := wk_nS hk.1
  have o1 : I 6 6 = (nS W : Int) := by rw [hk.2.1.2.2.2.2.2.1]; exact m1.1
  have a8 : 2 ^ nS W ≤ 256 := Nat.pow_le_pow_right (by decide) m1.2
  have a1 : 1 ≤ 2 ^ nS W := Nat.one_le_two_pow
  have eA : ((2 ^ nS W : Nat) : Int) - 1 = ((2 ^ nS W - 1 : Nat) : Int) := by omega
  refine am_wp_go rfl (by simp (disch := omega) only [s5 hw, r5_0 hw, s6 hw, o1, am_shl1, am_addE, am_subE, am_mulE, am_laddE, am_lsubE, am_upO, am_upS, am_stS, am_stO, am_tnn, am_brl, am_brg, am_bre, am_brn, am_brG, am_brL, am_st1, am_no2, am_st2, am_clr, and_self, true_and, and_true, true_or, or_true, List.length_cons, List.length_nil] <;> omega) ?_
  try simp (disch := omega) only [s5 hw, r5_0 hw, s6 hw, o1, am_shl1, am_addE, am_subE, am_mulE, am_laddE, am_lsubE, am_upO, am_upS, am_stS, am_stO, am_tnn, am_brl, am_brg, am_bre, am_brn, am_brG, am_brL, am_st1, am_no2, am_st2, am_clr]
  have LP : ∀ i : Nat, i ≤ n → ∀ (z5 : Option am_V) (X : Nat → Nat → Int), smI I X W G (sx_stk (I 17) i) → am_wp (d + 6) 89 17 [some (.inr (.inr (16))), some (.inr (.inr (5))), some (.inl (((2 ^ nS W - 1 : Nat) : Int))), some (.inl (((sx_stk (I 17) i).length : Int))), some (.inl ((i : Int))), z5] [] (m, sl, sh, X, R) Q := by
    refine am_lp n (fun i hi ih z5 X f => ?_)
    have X16 : X 16 4 = (n : Int) := by rw [f.1 16 (by decide)]; exact hn
    have X17 : X 17 i = I 17 i := by rw [f.1 17 (by decide)]
    have ll := sx_len (c := I 17) i
    refine am_wp_go rfl (by simp (disch := omega) only [s16 hw, X16, am_shl1, am_addE, am_subE, am_mulE, am_laddE, am_lsubE, am_upO, am_upS, am_stS, am_stO, am_tnn, am_brl, am_brg, am_bre, am_brn, am_brG, am_brL, am_st1, am_no2, am_st2, am_clr, and_self, true_and, and_true, true_or, or_true, List.length_cons, List.length_nil] <;> omega) ?_
    try simp (disch := omega) only [s16 hw, X16, am_shl1, am_addE, am_subE, am_mulE, am_laddE, am_lsubE, am_upO, am_upS, am_stS, am_stO, am_tnn, am_brl, am_brg, am_bre, am_brn, am_brG, am_brL, am_st1, am_no2, am_st2, am_clr]
    refine am_wp_br (fun b23 => ?_) (fun b23 => ?_)
    · have e : i = n := by omega
      have f2 := f
      rw [e, hwf.2] at f2
      have v0 := f2.2 0 Nat.zero_lt_one
      rw [e, hwf.2]
      refine am_wp_go rfl (by simp (disch := omega) only [s16 hw, r16_3 hw, s20 hw, am_shl1, am_addE, am_subE, am_mulE, am_laddE, am_lsubE, am_upO, am_upS, am_stS, am_stO, am_tnn, am_brl, am_brg, am_bre, am_brn, am_brG, am_brL, am_st1, am_no2, am_st2, am_clr, and_self, true_and, and_true, true_or, or_true, List.length_cons, List.length_nil] <;> omega) ?_
      try simp (disch := omega) only [s16 hw, r16_3 hw, s20 hw, am_shl1, am_addE, am_subE, am_mulE, am_laddE, am_lsubE, am_upO, am_upS, am_stS, am_stO, am_tnn, am_brl, am_brg, am_bre, am_brn, am_brG, am_brL, am_st1, am_no2, am_st2, am_clr]
      refine am_wp_pc (pc' := 176) rfl ?_
      have v0 : X 20 0 = (smM I W G (n - 1) : Int) := v0
      refine am_wp_go rfl (by simp (disch := omega) only [s16 hw, r16_3 hw, s20 hw, v0, Int.reduceToNat, am_addE, am_subE, am_mulE, am_laddE, am_lsubE, am_upO, am_upS, am_stS, am_stO, am_tnn, am_brl, am_brg, am_bre, am_brn, am_brG, am_brL, am_st1, am_no2, am_st2, am_clr, and_self, true_and, and_true, true_or, or_true, List.length_cons, List.length_nil] <;> omega) ?_
      try simp (disch := omega) only [s16 hw, r16_3 hw, s20 hw, v0, Int.reduceToNat, am_addE, am_subE, am_mulE, am_laddE, am_lsubE, am_upO, am_upS, am_stS, am_stO, am_tnn, am_brl, am_brg, am_bre, am_brn, am_brG, am_brL, am_st1, am_no2, am_st2, am_clr]
      refine am_wp_ret rfl rfl ?_
      exact h X f.1
    · have hin : i < n := by omega
      have ih := ih hin
      have V : ∀ s, svA W G (X 17 i) (X 18 i) (X 19 i) s = svA W G (I 17 i) (I 18 i) (I 19 i) s := fun s => by rw [f.1 17 (by decide), f.1 18 (by decide), f.1 19 (by decide)]
      have LF : (I 17 i ≠ 12 ∧ I 17 i ≠ 15 ∧ I 17 i ≠ 16) → ∀ z5, am_wp (d + 6) 89 140 [some (.inr (.inr (16))), some (.inr (.inr (5))), some (.inl (((2 ^ nS W - 1 : Nat) : Int))), some (.inl (((sx_stk (I 17) i).length : Int))), some (.inl ((i : Int))), z5] [] (m, sl, sh, X, R) Q := by
        intro hx z5
        have e1 : sx_stk (I 17) (i + 1) = i :: sx_stk (I 17) i := by
          conv => lhs; unfold sx_stk
          rw [if_neg hx.1, if_neg (by omega)]
        rw [e1, List.length_cons] at ih
        refine am_wp_go rfl (by simp (disch := omega) only [am_shl1, am_addE, am_subE, am_mulE, am_laddE, am_lsubE, am_upO, am_upS, am_stS, am_stO, am_tnn, am_brl, am_brg, am_bre, am_brn, am_brG, am_brL, am_st1, am_no2, am_st2, am_clr, and_self, true_and, and_true, true_or, or_true, List.length_cons, List.length_nil] <;> omega) ?_
        try simp (disch := omega) only [am_shl1, am_addE, am_subE, am_mulE, am_laddE, am_lsubE, am_upO, am_upS, am_stS, am_stO, am_tnn, am_brl, am_brg, am_bre, am_brn, am_brG, am_brL, am_st1, am_no2, am_st2, am_clr]
        refine am_wp_br (fun b143 => ?_) (fun b143 => ?_)
        · omega
        · skip
          refine am_wp_go rfl (by simp (disch := omega) only [s16 hw, r16_3 hw, s20 hw, am_shl1, am_addE, am_subE, am_mulE, am_laddE, am_lsubE, am_upO, am_upS, am_stS, am_stO, am_tnn, am_brl, am_brg, am_bre, am_brn, am_brG, am_brL, am_st1, am_no2, am_st2, am_clr, and_self, true_and, and_true, true_or, or_true, List.length_cons, List.length_nil] <;> omega) ?_
          try simp (disch := omega) only [s16 hw, r16_3 hw, s20 hw, am_shl1, am_addE, am_subE, am_mulE, am_laddE, am_lsubE, am_upO, am_upS, am_stS, am_stO, am_tnn, am_brl, am_brg, am_bre, am_brn, am_brG, am_brL, am_st1, am_no2, am_st2, am_clr]
          refine am_wp_cc rfl rfl rfl (congrArg Prod.fst (s16 hw)) (w_slicesOfStep (W := W) (N := N) (G := G) (i := i) hw (st_w hw (by decide)) (kit_fr hk (fun a a1 a2 => f.1 a (by omega))) (pl_fr hp (f.1 14 (by decide)) (f.1 15 (by decide))) (by omega) ⟨_, rfl, ?_⟩)
          refine am_wp_go rfl (by simp (disch := omega) only [s16 hw, r16_3 hw, s20 hw, am_shl1, am_addE, am_subE, am_mulE, am_laddE, am_lsubE, am_upO, am_upS, am_stS, am_stO, am_tnn, am_brl, am_brg, am_bre, am_brn, am_brG, am_brL, am_st1, am_no2, am_st2, am_clr, and_self, true_and, and_true, true_or, or_true, List.length_cons, List.length_nil] <;> omega) ?_
          try simp (disch := omega) only [s16 hw, r16_3 hw, s20 hw, am_shl1, am_addE, am_subE, am_mulE, am_laddE, am_lsubE, am_upO, am_upS, am_stS, am_stO, am_tnn, am_brl, am_brg, am_bre, am_brn, am_brG, am_brL, am_st1, am_no2, am_st2, am_clr]
          refine am_wp_ls (ih _ _ (smI_push f ?_)) rfl
          unfold smM
          congr 2
          funext s
          rw [V s]
          unfold smE
          rw [evN_v hx]
      refine am_wp_go rfl (by simp (disch := omega) only [s16 hw, r16_0 hw, s17 hw, X17, am_shl1, am_addE, am_subE, am_mulE, am_laddE, am_lsubE, am_upO, am_upS, am_stS, am_stO, am_tnn, am_brl, am_brg, am_bre, am_brn, am_brG, am_brL, am_st1, am_no2, am_st2, am_clr, and_self, true_and, and_true, true_or, or_true, List.length_cons, List.length_nil] <;> omega) ?_
      try simp (disch := omega) only [s16 hw, r16_0 hw, s17 hw, X17, am_shl1, am_addE, am_subE, am_mulE, am_laddE, am_lsubE, am_upO, am_upS, am_stS, am_stO, am_tnn, am_brl, am_brg, am_bre, am_brn, am_brG, am_brL, am_st1, am_no2, am_st2, am_clr]
      refine am_wp_br (fun b39 => ?_) (fun b39 => ?_)
      · refine am_wp_go rfl (by simp (disch := omega) only [s16 hw, r16_0 hw, s17 hw, X17, am_shl1, am_addE, am_subE, am_mulE, am_laddE, am_lsubE, am_upO, am_upS, am_stS, am_stO, am_tnn, am_brl, am_brg, am_bre, am_brn, am_brG, am_brL, am_st1, am_no2, am_st2, am_clr, and_self, true_and, and_true, true_or, or_true, List.length_cons, List.length_nil] <;> omega) ?_
        try simp (disch := omega) only [s16 hw, r16_0 hw, s17 hw, X17, am_shl1, am_addE, am_subE, am_mulE, am_laddE, am_lsubE, am_upO, am_upS, am_stS, am_stO, am_tnn, am_brl, am_brg, am_bre, am_brn, am_brG, am_brL, am_st1, am_no2, am_st2, am_clr]
        refine am_wp_br (fun b74 => ?_) (fun b74 => ?_)
        · refine am_wp_go rfl (by simp (disch := omega) only [s16 hw, r16_0 hw, s17 hw, X17, am_shl1, am_addE, am_subE, am_mulE, am_laddE, am_lsubE, am_upO, am_upS, am_stS, am_stO, am_tnn, am_brl, am_brg, am_bre, am_brn, am_brG, am_brL, am_st1, am_no2, am_st2, am_clr, and_self, true_and, and_true, true_or, or_true, List.length_cons, List.length_nil] <;> omega) ?_
          try simp (disch := omega) only [s16 hw, r16_0 hw, s17 hw, X17, am_shl1, am_addE, am_subE, am_mulE, am_laddE, am_lsubE, am_upO, am_upS, am_stS, am_stO, am_tnn, am_brl, am_brg, am_bre, am_brn, am_brG, am_brL, am_st1, am_no2, am_st2, am_clr]
          refine am_wp_br (fun b109 => ?_) (fun b109 => ?_)
          · exact am_wp_ls (LF (by omega) _) rfl
          · have c16 : I 17 i = 16 := by omega
            obtain ⟨y, x, r, hx⟩ := (hwf.1 i hin).2 (Or.inr c16)
            have e1 : sx_stk (I 17) (i + 1) = i :: r := by
              conv => lhs; unfold sx_stk
              rw [if_neg b39, if_pos (Or.inr c16), hx]; rfl
            rw [e1, List.length_cons] at ih
            rw [hx, List.length_cons, List.length_cons] at ll
            rw [hx] at f
            have v0 : X 20 (r.length + 1) = (smM I W G y : Int) := f.2 0 (by rw [List.length_cons]; omega)
            have v1 : X 20 r.length = (smM I W G x : Int) := f.2 1 (by rw [List.length_cons, List.length_cons]; omega)
            have g0 := smM_lt (I := I) (W := W) (G := G) (j := y) m1.2
            have g1 := smM_lt (I := I) (W := W) (G := G) (j := x) m1.2
            have hh1 : ((r.length + 1 + 1 : Nat) : Int) + -1 = ((r.length + 1 : Nat) : Int) := by omega
            have hh2 : ((r.length + 1 : Nat) : Int) - 1 = ((r.length : Nat) : Int) := by omega
            rw [hx, List.length_cons, List.length_cons]
            refine am_wp_go rfl (by simp (disch := omega) only [s16 hw, r16_0 hw, s17 hw, X17, am_shl1, am_addE, am_subE, am_mulE, am_laddE, am_lsubE, am_upO, am_upS, am_stS, am_stO, am_tnn, am_brl, am_brg, am_bre, am_brn, am_brG, am_brL, am_st1, am_no2, am_st2, am_clr, and_self, true_and, and_true, true_or, or_true, List.length_cons, List.length_nil] <;> omega) ?_
            try simp (disch := omega) only [s16 hw, r16_0 hw, s17 hw, X17, am_shl1, am_addE, am_subE, am_mulE, am_laddE, am_lsubE, am_upO, am_upS, am_stS, am_stO, am_tnn, am_brl, am_brg, am_bre, am_brn, am_brG, am_brL, am_st1, am_no2, am_st2, am_clr]
            refine am_wp_br (fun b114 => ?_) (fun b114 => ?_)
            · omega
            · skip
              refine am_wp_go rfl (by simp (disch := omega) only [s16 hw, r16_3 hw, s20 hw, v0, v1, am_orN, hh1, hh2, Int.toNat_natCast, am_addE, am_subE, am_mulE, am_laddE, am_lsubE, am_upO, am_upS, am_stS, am_stO, am_tnn, am_brl, am_brg, am_bre, am_brn, am_brG, am_brL, am_st1, am_no2, am_st2, am_clr, and_self, true_and, and_true, true_or, or_true, List.length_cons, List.length_nil] <;> omega) ?_
              try simp (disch := omega) only [s16 hw, r16_3 hw, s20 hw, v0, v1, am_orN, hh1, hh2, Int.toNat_natCast, am_addE, am_subE, am_mulE, am_laddE, am_lsubE, am_upO, am_upS, am_stS, am_stO, am_tnn, am_brl, am_brg, am_bre, am_brn, am_brG, am_brL, am_st1, am_no2, am_st2, am_clr]
              refine am_wp_ls (ih _ _ (smI_push (smI_drop (smI_drop f)) ?_)) rfl
              unfold smM
              rw [bs_or]
              congr 2
              funext s
              unfold smE
              rw [evN_16 c16 hx]
        · have c15 : I 17 i = 15 := by omega
          obtain ⟨y, x, r, hx⟩ := (hwf.1 i hin).2 (Or.inl c15)
          have e1 : sx_stk (I 17) (i + 1) = i :: r := by
            conv => lhs; unfold sx_stk
            rw [if_neg b39, if_pos (Or.inl c15), hx]; rfl
          rw [e1, List.length_cons] at ih
          rw [hx, List.length_cons, List.length_cons] at ll
          rw [hx] at f
          have v0 : X 20 (r.length + 1) = (smM I W G y : Int) := f.2 0 (by rw [List.length_cons]; omega)
          have v1 : X 20 r.length = (smM I W G x : Int) := f.2 1 (by rw [List.length_cons, List.length_cons]; omega)
          have g0 := smM_lt (I := I) (W := W) (G := G) (j := y) m1.2
          have g1 := smM_lt (I := I) (W := W) (G := G) (j := x) m1.2
          have hh1 : ((r.length + 1 + 1 : Nat) : Int) + -1 = ((r.length + 1 : Nat) : Int) := by omega
          have hh2 : ((r.length + 1 : Nat) : Int) - 1 = ((r.length : Nat) : Int) := by omega
          rw [hx, List.length_cons, List.length_cons]
          refine am_wp_go rfl (by simp (disch := omega) only [s16 hw, r16_0 hw, s17 hw, X17, am_shl1, am_addE, am_subE, am_mulE, am_laddE, am_lsubE, am_upO, am_upS, am_stS, am_stO, am_tnn, am_brl, am_brg, am_bre, am_brn, am_brG, am_brL, am_st1, am_no2, am_st2, am_clr, and_self, true_and, and_true, true_or, or_true, List.length_cons, List.length_nil] <;> omega) ?_
          try simp (disch := omega) only [s16 hw, r16_0 hw, s17 hw, X17, am_shl1, am_addE, am_subE, am_mulE, am_laddE, am_lsubE, am_upO, am_upS, am_stS, am_stO, am_tnn, am_brl, am_brg, am_bre, am_brn, am_brG, am_brL, am_st1, am_no2, am_st2, am_clr]
          refine am_wp_br (fun b79 => ?_) (fun b79 => ?_)
          · omega
          · skip
            refine am_wp_go rfl (by simp (disch := omega) only [s16 hw, r16_3 hw, s20 hw, v0, v1, am_andN, hh1, hh2, Int.toNat_natCast, am_addE, am_subE, am_mulE, am_laddE, am_lsubE, am_upO, am_upS, am_stS, am_stO, am_tnn, am_brl, am_brg, am_bre, am_brn, am_brG, am_brL, am_st1, am_no2, am_st2, am_clr, and_self, true_and, and_true, true_or, or_true, List.length_cons, List.length_nil] <;> omega) ?_
            try simp (disch := omega) only [s16 hw, r16_3 hw, s20 hw, v0, v1, am_andN, hh1, hh2, Int.toNat_natCast, am_addE, am_subE, am_mulE, am_laddE, am_lsubE, am_upO, am_upS, am_stS, am_stO, am_tnn, am_brl, am_brg, am_bre, am_brn, am_brG, am_brL, am_st1, am_no2, am_st2, am_clr]
            refine am_wp_ls (ih _ _ (smI_push (smI_drop (smI_drop f)) ?_)) rfl
            unfold smM
            rw [bs_and]
            congr 2
            funext s
            unfold smE
            rw [evN_15 c15 hx]
      · have c12 : I 17 i = 12 := by omega
        obtain ⟨x, r, hx⟩ := (hwf.1 i hin).1 c12
        have e1 : sx_stk (I 17) (i + 1) = i :: r := by
          conv => lhs; unfold sx_stk
          rw [if_pos c12, hx]; rfl
        rw [e1, List.length_cons] at ih
        rw [hx, List.length_cons] at ll
        rw [hx] at f
        have v1 : X 20 r.length = (smM I W G x : Int) := f.2 0 (by rw [List.length_cons]; omega)
        have g1 := smM_lt (I := I) (W := W) (G := G) (j := x) m1.2
        have hh1 : ((r.length + 1 + 1 : Nat) : Int) + -1 = ((r.length + 1 : Nat) : Int) := by omega
        have hh2 : ((r.length + 1 : Nat) : Int) - 1 = ((r.length : Nat) : Int) := by omega
        rw [hx, List.length_cons]
        refine am_wp_go rfl (by simp (disch := omega) only [s16 hw, r16_0 hw, s17 hw, X17, am_shl1, am_addE, am_subE, am_mulE, am_laddE, am_lsubE, am_upO, am_upS, am_stS, am_stO, am_tnn, am_brl, am_brg, am_bre, am_brn, am_brG, am_brL, am_st1, am_no2, am_st2, am_clr, and_self, true_and, and_true, true_or, or_true, List.length_cons, List.length_nil] <;> omega) ?_
        try simp (disch := omega) only [s16 hw, r16_0 hw, s17 hw, X17, am_shl1, am_addE, am_subE, am_mulE, am_laddE, am_lsubE, am_upO, am_upS, am_stS, am_stO, am_tnn, am_brl, am_brg, am_bre, am_brn, am_brG, am_brL, am_st1, am_no2, am_st2, am_clr]
        refine am_wp_br (fun b44 => ?_) (fun b44 => ?_)
        · omega
        · skip
          refine am_wp_go rfl (by simp (disch := omega) only [s16 hw, r16_3 hw, s20 hw, v1, am_dnN, hh2, Int.toNat_natCast, am_addE, am_subE, am_mulE, am_laddE, am_lsubE, am_upO, am_upS, am_stS, am_stO, am_tnn, am_brl, am_brg, am_bre, am_brn, am_brG, am_brL, am_st1, am_no2, am_st2, am_clr, and_self, true_and, and_true, true_or, or_true, List.length_cons, List.length_nil] <;> omega) ?_
          try simp (disch := omega) only [s16 hw, r16_3 hw, s20 hw, v1, am_dnN, hh2, Int.toNat_natCast, am_addE, am_subE, am_mulE, am_laddE, am_lsubE, am_upO, am_upS, am_stS, am_stO, am_tnn, am_brl, am_brg, am_bre, am_brn, am_brG, am_brL, am_st1, am_no2, am_st2, am_clr]
          refine am_wp_ls (ih _ _ (smI_push (smI_drop f) ?_)) rfl
          unfold smM
          rw [bs_dn]
          congr 2
          funext s
          unfold smE
          rw [evN_12 c12 hx]
  rw [eA]
  exact am_wp_ls (LP 0 (Nat.zero_le n) none I ⟨fun _ _ => rfl, fun p hp => absurd hp (Nat.not_lt_zero p)⟩) rfl
end SD
