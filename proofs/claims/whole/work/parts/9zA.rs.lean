/-! said() by the reference; the two together -/
theorem bc_pow : ∀ k : Fin 8, ∀ x : Fin 256, x.val < 2 ^ k.val → bcN (x.val + 2 ^ k.val) = bcN x.val + 1 := by decide +kernel
theorem bc_bs {p : Nat → Bool} : ∀ n, n ≤ 8 → bcN (ax_bs p n) = ax_ct p n
  | 0, _ => by show bcN 0 = 0; decide
  | n + 1, h => by
    have ih := bc_bs (p := p) n (by omega)
    have l1 := ax_bs8 (p := p) (n := n) (by omega)
    have l2 := ax_bs_lt p n
    unfold ax_bs ax_ct
    cases p n with
    | false => exact ih
    | true => rw [cond_true, cond_true, bc_pow ⟨n, by omega⟩ ⟨ax_bs p n, l1⟩ l2, ih]
theorem ff_cg {p q : Nat → Bool} {m n : Nat} (hm : n ≤ m) (h1 : ∀ s, s < n → p s = q s) (h2 : ∀ s, n ≤ s → p s = false) : am_ff p m 0 = am_ff q n 0 := by
  have A : ∀ j, j ≤ m → n ≤ m - j → am_ff p m (m - j) = -1 := by
    intro j
    induction j with
    | zero => intro _ _; exact am_ff_end (by omega)
    | succ j ih =>
      intro hj hn
      rw [am_ff_on (h2 _ hn), show m - (j + 1) + 1 = m - j by omega]
      exact ih (by omega) (by omega)
  have B : ∀ j, j ≤ n → am_ff p m (n - j) = am_ff q n (n - j) := by
    intro j
    induction j with
    | zero =>
      intro _
      rw [Nat.sub_zero, am_ff_end (p := q) (Nat.le_refl n)]
      have := A (m - n) (by omega) (by omega)
      rwa [show m - (m - n) = n by omega] at this
    | succ j ih =>
      intro hj
      have e := h1 (n - (j + 1)) (by omega)
      have i1 := ih (by omega)
      cases hq : q (n - (j + 1)) with
      | false =>
        rw [am_ff_on (p := q) hq, am_ff_on (by rw [e]; exact hq), show n - (j + 1) + 1 = n - j by omega]
        exact i1
      | true => rw [am_ff_hit (p := q) (by omega) hq, am_ff_hit (by omega) (by rw [e]; exact hq)]
  have := B n (Nat.le_refl n)
  rwa [Nat.sub_self] at this
theorem ct_cg {p q : Nat → Bool} : ∀ n, (∀ s, s < n → p s = q s) → ax_ct p n = ax_ct q n
  | 0, _ => rfl
  | n + 1, h => by
    unfold ax_ct
    rw [ct_cg n (fun s hs => h s (by omega)), h n (by omega)]
theorem kthB_bs {p : Nat → Bool} {n : Nat} {k : Int} (hn : n ≤ 8) : kthB (fun s => (ax_bs p n).testBit s) 8 k = kthB p n k := by
  unfold kthB
  refine ff_cg hn (fun s hs => ?_) (fun s hs => ?_)
  · dsimp only
    rw [ct_cg s (fun t ht => ax_bs_tb (p := p) (n := n) (s := t) (by omega)), ax_bs_tb hs]
  · dsimp only
    rw [bs_tb, decide_eq_false (by omega)]; rfl
/-- what said(k) answers -/
def saidV (p : Nat → Bool) (n : Nat) (k : Int) : Int := if k = -1 then (ax_ct p n : Int) else kthB p n k
theorem saidV_c {p : Nat → Bool} {n : Nat} {k : Int} (hn : n ≤ 8) : (if k = -1 then (bcN (ax_bs p n) : Int) else kthB (fun s => (ax_bs p n).testBit s) 8 k) = saidV p n k := by
  unfold saidV
  rw [bc_bs n hn, kthB_bs hn]
section HL
variable {m sl : Nat} {sh : Nat → Nat × Nat} {I : Nat → Nat → Int} {R : Nat → Nat → Nat} {Q : am_R → am_M → Prop} {d : Nat} {G : List Go} {n : Nat} {c g x : Nat → Int}
theorem r_said0 {k : Int} (hw : wd sh R) (h0 : I 126 2059 = 0) (h : Q (am_yi (-1)) (m, sl, sh, am_up I 124 0 0, R)) : am_wp (d) 322 0 [some (.inr (.inr (124))), some (.inl (k)), none, none] [] (m, sl, sh, I, R) Q := by
  refine am_wp_go rfl (by simp (disch := omega) only [s124 hw, r124_14 hw, s126 hw, h0, Int.reduceToNat, am_addE, am_subE, am_mulE, am_laddE, am_lsubE, am_upO, am_upS, am_stS, am_stO, am_tnn, am_brl, am_brg, am_bre, am_brn, am_brG, am_brL, am_st1, am_no2, am_st2, am_clr, and_self, true_and, and_true, true_or, or_true, List.length_cons, List.length_nil] <;> omega) ?_
  try simp (disch := omega) only [s124 hw, r124_14 hw, s126 hw, h0, Int.reduceToNat, am_addE, am_subE, am_mulE, am_laddE, am_lsubE, am_upO, am_upS, am_stS, am_stO, am_tnn, am_brl, am_brg, am_bre, am_brn, am_brG, am_brL, am_st1, am_no2, am_st2, am_clr]
  refine am_wp_br (fun b13 => ?_) (fun b13 => ?_)
  · exact absurd rfl b13
  · refine am_wp_go rfl (by simp (disch := omega) only [s124 hw, r124_14 hw, s126 hw, h0, Int.reduceToNat, am_addE, am_subE, am_mulE, am_laddE, am_lsubE, am_upO, am_upS, am_stS, am_stO, am_tnn, am_brl, am_brg, am_bre, am_brn, am_brG, am_brL, am_st1, am_no2, am_st2, am_clr, and_self, true_and, and_true, true_or, or_true, List.length_cons, List.length_nil] <;> omega) ?_
    try simp (disch := omega) only [s124 hw, r124_14 hw, s126 hw, h0, Int.reduceToNat, am_addE, am_subE, am_mulE, am_laddE, am_lsubE, am_upO, am_upS, am_stS, am_stO, am_tnn, am_brl, am_brg, am_bre, am_brn, am_brG, am_brL, am_st1, am_no2, am_st2, am_clr]
    refine am_wp_ret rfl rfl ?_
    exact h
theorem r_said {k : Int} (hw : wd sh R) (hr : rf (pw (I 126)) G) (hg : gok G) (hk : wkw (I 126)) (hn1 : 1 ≤ n) (hn : n ≤ 40) (nd : ∀ i, i < n → sx_node c g x (I 126 5) (fun j => I 126 (2061 + j)) i) (h1 : I 126 2059 = 1) (ht : I 126 2060 = (n : Int) - 1) (h : Q (am_yi (saidV (fun s => evN c (fun k => svA (I 126) G (c k) (g k) (x k) s) (n - 1)) (nS (I 126)) k)) (m, sl, sh, am_up I 124 0 0, R)) : am_wp (d + 45) 322 0 [some (.inr (.inr (124))), some (.inl (k)), none, none] [] (m, sl, sh, I, R) Q := by
  have h5 := wkw_nS hk
  have e126 : am_up I 124 0 0 126 = I 126 := am_upO (by decide)
  refine am_wp_go rfl (by simp (disch := omega) only [s124 hw, r124_14 hw, s126 hw, h1, Int.reduceToNat, am_addE, am_subE, am_mulE, am_laddE, am_lsubE, am_upO, am_upS, am_stS, am_stO, am_tnn, am_brl, am_brg, am_bre, am_brn, am_brG, am_brL, am_st1, am_no2, am_st2, am_clr, and_self, true_and, and_true, true_or, or_true, List.length_cons, List.length_nil] <;> omega) ?_
  simp (disch := omega) only [s124 hw, r124_14 hw, s126 hw, h1, Int.reduceToNat, am_addE, am_subE, am_mulE, am_laddE, am_lsubE, am_upO, am_upS, am_stS, am_stO, am_tnn, am_brl, am_brg, am_bre, am_brn, am_brG, am_brL, am_st1, am_no2, am_st2, am_clr]
  generalize hJ : am_up I 124 0 0 = J at *
  refine am_wp_br (fun b13 => ?_) (fun b13 => ?_)
  · unfold saidV kthB at h
    generalize hp : (fun s => evN c (fun k => svA (I 126) G (c k) (g k) (x k) s) (n - 1)) = p at h
    have LP : ∀ s : Nat, s ≤ nS (I 126) → am_ff (fun s => p s && decide ((ax_ct p s : Int) = k)) (nS (I 126)) 0 = am_ff (fun s => p s && decide ((ax_ct p s : Int) = k)) (nS (I 126)) s → am_wp (d + 45) 322 22 [some (.inr (.inr (124))), some (.inl (k)), some (.inl ((ax_ct p s : Int))), some (.inl ((s : Int)))] [] (m, sl, sh, J, R) Q := by
      refine am_lp (nS (I 126)) (fun s hs ih hf => ?_)
      have ctl : ax_ct p s ≤ s := ax_ct_le _ _
      have hd : ax_ct p (s + 1) = (bif p s then ax_ct p s + 1 else ax_ct p s) := rfl
      have e5 : J 126 5 = (nS (I 126) : Int) := by rw [e126]; exact h5.1
      have e2060 : J 126 2060 = ((n - 1 : Nat) : Int) := by rw [e126, ht]; omega
      refine am_wp_go rfl (by simp (disch := omega) only [s124 hw, r124_14 hw, s126 hw, e5, e2060, Int.reduceToNat, am_addE, am_subE, am_mulE, am_laddE, am_lsubE, am_upO, am_upS, am_stS, am_stO, am_tnn, am_brl, am_brg, am_bre, am_brn, am_brG, am_brL, am_st1, am_no2, am_st2, am_clr, and_self, true_and, and_true, true_or, or_true, List.length_cons, List.length_nil] <;> omega) ?_
      try simp (disch := omega) only [s124 hw, r124_14 hw, s126 hw, e5, e2060, Int.reduceToNat, am_addE, am_subE, am_mulE, am_laddE, am_lsubE, am_upO, am_upS, am_stS, am_stO, am_tnn, am_brl, am_brg, am_bre, am_brn, am_brG, am_brL, am_st1, am_no2, am_st2, am_clr]
      refine am_wp_cc rfl rfl rfl (congrArg Prod.fst (s124 hw)) (w_M_slices hw ⟨_, rfl, ?_⟩)
      simp (disch := omega) only [s124 hw, r124_14 hw, s126 hw, e5, e2060, Int.reduceToNat, am_addE, am_subE, am_mulE, am_laddE, am_lsubE, am_upO, am_upS, am_stS, am_stO, am_tnn, am_brl, am_brg, am_bre, am_brn, am_brG, am_brL, am_st1, am_no2, am_st2, am_clr]
      refine am_wp_go rfl (by simp (disch := omega) only [s124 hw, r124_14 hw, s126 hw, e5, e2060, Int.reduceToNat, am_addE, am_subE, am_mulE, am_laddE, am_lsubE, am_upO, am_upS, am_stS, am_stO, am_tnn, am_brl, am_brg, am_bre, am_brn, am_brG, am_brL, am_st1, am_no2, am_st2, am_clr, and_self, true_and, and_true, true_or, or_true, List.length_cons, List.length_nil] <;> omega) ?_
      try simp (disch := omega) only [s124 hw, r124_14 hw, s126 hw, e5, e2060, Int.reduceToNat, am_addE, am_subE, am_mulE, am_laddE, am_lsubE, am_upO, am_upS, am_stS, am_stO, am_tnn, am_brl, am_brg, am_bre, am_brn, am_brG, am_brL, am_st1, am_no2, am_st2, am_clr]
      refine am_wp_br (fun b27 => ?_) (fun b27 => ?_)
      · rw [hf, am_ff_end (by omega)] at h
        refine am_wp_go rfl (by simp (disch := omega) only [s124 hw, r124_14 hw, s126 hw, e5, e2060, Int.reduceToNat, am_addE, am_subE, am_mulE, am_laddE, am_lsubE, am_upO, am_upS, am_stS, am_stO, am_tnn, am_brl, am_brg, am_bre, am_brn, am_brG, am_brL, am_st1, am_no2, am_st2, am_clr, and_self, true_and, and_true, true_or, or_true, List.length_cons, List.length_nil] <;> omega) ?_
        try simp (disch := omega) only [s124 hw, r124_14 hw, s126 hw, e5, e2060, Int.reduceToNat, am_addE, am_subE, am_mulE, am_laddE, am_lsubE, am_upO, am_upS, am_stS, am_stO, am_tnn, am_brl, am_brg, am_bre, am_brn, am_brG, am_brL, am_st1, am_no2, am_st2, am_clr]
        refine am_wp_br (fun b67 => ?_) (fun b67 => ?_)
        · rw [if_neg b67] at h
          refine am_wp_go rfl (by simp (disch := omega) only [s124 hw, r124_14 hw, s126 hw, e5, e2060, Int.reduceToNat, am_addE, am_subE, am_mulE, am_laddE, am_lsubE, am_upO, am_upS, am_stS, am_stO, am_tnn, am_brl, am_brg, am_bre, am_brn, am_brG, am_brL, am_st1, am_no2, am_st2, am_clr, and_self, true_and, and_true, true_or, or_true, List.length_cons, List.length_nil] <;> omega) ?_
          try simp (disch := omega) only [s124 hw, r124_14 hw, s126 hw, e5, e2060, Int.reduceToNat, am_addE, am_subE, am_mulE, am_laddE, am_lsubE, am_upO, am_upS, am_stS, am_stO, am_tnn, am_brl, am_brg, am_bre, am_brn, am_brG, am_brL, am_st1, am_no2, am_st2, am_clr]
          refine am_wp_ret rfl rfl ?_
          exact h
        · rw [if_pos (by omega), show nS (I 126) = s by omega] at h
          refine am_wp_go rfl (by simp (disch := omega) only [s124 hw, r124_14 hw, s126 hw, e5, e2060, Int.reduceToNat, am_addE, am_subE, am_mulE, am_laddE, am_lsubE, am_upO, am_upS, am_stS, am_stO, am_tnn, am_brl, am_brg, am_bre, am_brn, am_brG, am_brL, am_st1, am_no2, am_st2, am_clr, and_self, true_and, and_true, true_or, or_true, List.length_cons, List.length_nil] <;> omega) ?_
          try simp (disch := omega) only [s124 hw, r124_14 hw, s126 hw, e5, e2060, Int.reduceToNat, am_addE, am_subE, am_mulE, am_laddE, am_lsubE, am_upO, am_upS, am_stS, am_stO, am_tnn, am_brl, am_brg, am_bre, am_brn, am_brG, am_brL, am_st1, am_no2, am_st2, am_clr]
          refine am_wp_ret rfl rfl ?_
          exact h
      · have ih := ih (by omega)
        refine am_wp_go rfl (by simp (disch := omega) only [s124 hw, r124_14 hw, s126 hw, e5, e2060, Int.reduceToNat, am_addE, am_subE, am_mulE, am_laddE, am_lsubE, am_upO, am_upS, am_stS, am_stO, am_tnn, am_brl, am_brg, am_bre, am_brn, am_brG, am_brL, am_st1, am_no2, am_st2, am_clr, and_self, true_and, and_true, true_or, or_true, List.length_cons, List.length_nil] <;> omega) ?_
        try simp (disch := omega) only [s124 hw, r124_14 hw, s126 hw, e5, e2060, Int.reduceToNat, am_addE, am_subE, am_mulE, am_laddE, am_lsubE, am_upO, am_upS, am_stS, am_stO, am_tnn, am_brl, am_brg, am_bre, am_brn, am_brG, am_brL, am_st1, am_no2, am_st2, am_clr]
        refine am_wp_cc rfl rfl rfl (congrArg Prod.fst (s124 hw)) (w_M_holds (G := G) (n := n) (c := c) (g := g) (x := x) (s := s) hw (by rw [e126]; exact hr) hg (by rw [e126]; exact hk) (by rw [e126]; omega) hn (by rw [e126]; exact nd) (n - 1) (by omega) _ _ (by omega) ⟨_, rfl, ?_⟩)
        rw [e126]
        have hpe : evN c (fun k => svA (I 126) G (c k) (g k) (x k) s) (n - 1) = p s := congrFun hp s
        rw [hpe]
        refine am_wp_go rfl (by simp (disch := omega) only [s124 hw, r124_14 hw, s126 hw, e5, e2060, am_b0, am_bn0, am_addE, am_subE, am_mulE, am_laddE, am_lsubE, am_upO, am_upS, am_stS, am_stO, am_tnn, am_brl, am_brg, am_bre, am_brn, am_brG, am_brL, am_st1, am_no2, am_st2, am_clr, and_self, true_and, and_true, true_or, or_true, List.length_cons, List.length_nil] <;> omega) ?_
        try simp (disch := omega) only [s124 hw, r124_14 hw, s126 hw, e5, e2060, am_b0, am_bn0, am_addE, am_subE, am_mulE, am_laddE, am_lsubE, am_upO, am_upS, am_stS, am_stO, am_tnn, am_brl, am_brg, am_bre, am_brn, am_brG, am_brL, am_st1, am_no2, am_st2, am_clr]
        refine am_wp_br (fun b43 => ?_) (fun b43 => ?_)
        · rw [b43, cond_true] at hd
          refine am_wp_go rfl (by simp (disch := omega) only [s124 hw, r124_14 hw, s126 hw, e5, e2060, am_b0, am_bn0, am_addE, am_subE, am_mulE, am_laddE, am_lsubE, am_upO, am_upS, am_stS, am_stO, am_tnn, am_brl, am_brg, am_bre, am_brn, am_brG, am_brL, am_st1, am_no2, am_st2, am_clr, and_self, true_and, and_true, true_or, or_true, List.length_cons, List.length_nil] <;> omega) ?_
          try simp (disch := omega) only [s124 hw, r124_14 hw, s126 hw, e5, e2060, am_b0, am_bn0, am_addE, am_subE, am_mulE, am_laddE, am_lsubE, am_upO, am_upS, am_stS, am_stO, am_tnn, am_brl, am_brg, am_bre, am_brn, am_brG, am_brL, am_st1, am_no2, am_st2, am_clr]
          refine am_wp_br (fun b51 => ?_) (fun b51 => ?_)
          · have ih := ih (by rw [hf]; exact am_ff_on (by rw [b43, decide_eq_false b51]; rfl))
            rw [hd] at ih
            refine am_wp_go rfl (by simp (disch := omega) only [s124 hw, r124_14 hw, s126 hw, e5, e2060, am_b0, am_bn0, am_addE, am_subE, am_mulE, am_laddE, am_lsubE, am_upO, am_upS, am_stS, am_stO, am_tnn, am_brl, am_brg, am_bre, am_brn, am_brG, am_brL, am_st1, am_no2, am_st2, am_clr, and_self, true_and, and_true, true_or, or_true, List.length_cons, List.length_nil] <;> omega) ?_
            try simp (disch := omega) only [s124 hw, r124_14 hw, s126 hw, e5, e2060, am_b0, am_bn0, am_addE, am_subE, am_mulE, am_laddE, am_lsubE, am_upO, am_upS, am_stS, am_stO, am_tnn, am_brl, am_brg, am_bre, am_brn, am_brG, am_brL, am_st1, am_no2, am_st2, am_clr]
            exact am_wp_ls ih rfl
          · have b51 : (ax_ct p s : Int) = k := by omega
            rw [if_neg (by omega), hf, am_ff_hit (by omega) (by rw [b43, decide_eq_true b51]; rfl)] at h
            refine am_wp_go rfl (by simp (disch := omega) only [s124 hw, r124_14 hw, s126 hw, e5, e2060, am_b0, am_bn0, am_addE, am_subE, am_mulE, am_laddE, am_lsubE, am_upO, am_upS, am_stS, am_stO, am_tnn, am_brl, am_brg, am_bre, am_brn, am_brG, am_brL, am_st1, am_no2, am_st2, am_clr, and_self, true_and, and_true, true_or, or_true, List.length_cons, List.length_nil] <;> omega) ?_
            try simp (disch := omega) only [s124 hw, r124_14 hw, s126 hw, e5, e2060, am_b0, am_bn0, am_addE, am_subE, am_mulE, am_laddE, am_lsubE, am_upO, am_upS, am_stS, am_stO, am_tnn, am_brl, am_brg, am_bre, am_brn, am_brG, am_brL, am_st1, am_no2, am_st2, am_clr]
            refine am_wp_ret rfl rfl ?_
            exact h
        · have b43 := Bool.eq_false_iff.mpr b43
          rw [b43, cond_false] at hd
          have ih := ih (by rw [hf]; exact am_ff_on (by rw [b43]; rfl))
          rw [hd] at ih
          refine am_wp_go rfl (by simp (disch := omega) only [s124 hw, r124_14 hw, s126 hw, e5, e2060, am_b0, am_bn0, am_addE, am_subE, am_mulE, am_laddE, am_lsubE, am_upO, am_upS, am_stS, am_stO, am_tnn, am_brl, am_brg, am_bre, am_brn, am_brG, am_brL, am_st1, am_no2, am_st2, am_clr, and_self, true_and, and_true, true_or, or_true, List.length_cons, List.length_nil] <;> omega) ?_
          try simp (disch := omega) only [s124 hw, r124_14 hw, s126 hw, e5, e2060, am_b0, am_bn0, am_addE, am_subE, am_mulE, am_laddE, am_lsubE, am_upO, am_upS, am_stS, am_stO, am_tnn, am_brl, am_brg, am_bre, am_brn, am_brG, am_brL, am_st1, am_no2, am_st2, am_clr]
          exact am_wp_ls ih rfl
    refine am_wp_go rfl (by simp (disch := omega) only [Int.reduceToNat, am_addE, am_subE, am_mulE, am_laddE, am_lsubE, am_upO, am_upS, am_stS, am_stO, am_tnn, am_brl, am_brg, am_bre, am_brn, am_brG, am_brL, am_st1, am_no2, am_st2, am_clr, and_self, true_and, and_true, true_or, or_true, List.length_cons, List.length_nil] <;> omega) ?_
    try simp (disch := omega) only [Int.reduceToNat, am_addE, am_subE, am_mulE, am_laddE, am_lsubE, am_upO, am_upS, am_stS, am_stO, am_tnn, am_brl, am_brg, am_bre, am_brn, am_brG, am_brL, am_st1, am_no2, am_st2, am_clr]
    exact am_wp_ls (LP 0 (by omega) rfl) rfl
  · exact absurd (by decide) b13
end HL
