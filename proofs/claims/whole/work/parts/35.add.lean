/-! add, drop, later, undo -/
section ADD
variable {m sl : Nat} {sh : Nat → Nat × Nat} {I : Nat → Nat → Int} {R : Nat → Nat → Nat} {Q : am_R → am_M → Prop} {d : Nat} {G : List Go} {H : List (List Go)} {W N : Nat → Int}
def addOk (W : Nat → Int) (G : List Go) (s u b l n : Int) : Prop := 0 ≤ s ∧ s < W 5 ∧ 0 ≤ u ∧ u ≤ 1 ∧ 0 ≤ b ∧ b ≤ 240 ∧ 0 ≤ l ∧ l < W 0 ∧ 1 ≤ n ∧ n ≤ 20 ∧ G.length < 400
theorem c_add {s u b l n : Int} (hw : wd sh R) (hk : kit I 6 W N) (hp : pl I 14 G) (hh : hsC I H) (h0 : ¬ addOk W G s u b l n → Q (am_yi (-1)) (m, sl, sh, I, R)) (h1 : addOk W G s u b l n → ∀ J, cqp I J → pl J 14 (G ++ [(s, u, b, l, n)]) → hsC J (hpush H G) → Q (am_yi G.length) (m, sl, sh, J, R)) : am_wp (d + 3) 165 0 [some (.inr (.inr (4))), some (.inl (s)), some (.inl (u)), some (.inl (b)), some (.inl (l)), some (.inl (n)), none, none] [] (m, sl, sh, I, R) Q := by
  obtain ⟨k1, k2, k3, k4, k5, k6, k7, k8, k9⟩ := hk.2.1
  have n1 := wk_nS hk.1
  have p1 := hp.1
  obtain ⟨⟨w0⟩, -⟩ := id hk.1
  by_cases hv : addOk W G s u b l n
  · have h := h1 hv
    unfold addOk at hv
    refine am_wp_go rfl (by simp (disch := omega) only [s4 hw, r4_0 hw, s5 hw, r5_0 hw, s6 hw, r5_1 hw, s14 hw, r4_2 hw, k1, p1, am_b0, am_addE, am_subE, am_mulE, am_laddE, am_lsubE, am_upO, am_upS, am_stS, am_stO, am_tnn, am_brl, am_brg, am_bre, am_brn, am_brG, am_brL, am_st1, am_no2, am_st2, am_clr, and_self, true_and, and_true, true_or, or_true, List.length_cons, List.length_nil] <;> omega) ?_
    try simp (disch := omega) only [s4 hw, r4_0 hw, s5 hw, r5_0 hw, s6 hw, r5_1 hw, s14 hw, r4_2 hw, k1, p1, am_b0, am_addE, am_subE, am_mulE, am_laddE, am_lsubE, am_upO, am_upS, am_stS, am_stO, am_tnn, am_brl, am_brg, am_bre, am_brn, am_brG, am_brL, am_st1, am_no2, am_st2, am_clr]
    refine am_wp_cc rfl rfl rfl (congrArg Prod.fst (s6 hw)) (w_hasSlice (kt_w hw (by decide)) hk ⟨_, rfl, ?_⟩)
    refine am_wp_go rfl (by simp (disch := omega) only [s4 hw, r4_0 hw, s5 hw, r5_0 hw, s6 hw, r5_1 hw, s14 hw, r4_2 hw, k1, p1, am_b0, am_addE, am_subE, am_mulE, am_laddE, am_lsubE, am_upO, am_upS, am_stS, am_stO, am_tnn, am_brl, am_brg, am_bre, am_brn, am_brG, am_brL, am_st1, am_no2, am_st2, am_clr, and_self, true_and, and_true, true_or, or_true, List.length_cons, List.length_nil] <;> omega) ?_
    try simp (disch := omega) only [s4 hw, r4_0 hw, s5 hw, r5_0 hw, s6 hw, r5_1 hw, s14 hw, r4_2 hw, k1, p1, am_b0, am_addE, am_subE, am_mulE, am_laddE, am_lsubE, am_upO, am_upS, am_stS, am_stO, am_tnn, am_brl, am_brg, am_bre, am_brn, am_brG, am_brL, am_st1, am_no2, am_st2, am_clr]
    refine am_wp_br (fun b15 => ?_) (fun b15 => ?_)
    · omega
    · refine am_wp_go rfl (by simp (disch := omega) only [s4 hw, r4_0 hw, s5 hw, r5_0 hw, s6 hw, r5_1 hw, s14 hw, r4_2 hw, k1, p1, am_b0, am_addE, am_subE, am_mulE, am_laddE, am_lsubE, am_upO, am_upS, am_stS, am_stO, am_tnn, am_brl, am_brg, am_bre, am_brn, am_brG, am_brL, am_st1, am_no2, am_st2, am_clr, and_self, true_and, and_true, true_or, or_true, List.length_cons, List.length_nil] <;> omega) ?_
      try simp (disch := omega) only [s4 hw, r4_0 hw, s5 hw, r5_0 hw, s6 hw, r5_1 hw, s14 hw, r4_2 hw, k1, p1, am_b0, am_addE, am_subE, am_mulE, am_laddE, am_lsubE, am_upO, am_upS, am_stS, am_stO, am_tnn, am_brl, am_brg, am_bre, am_brn, am_brG, am_brL, am_st1, am_no2, am_st2, am_clr]
      refine am_wp_br (fun b19 => ?_) (fun b19 => ?_)
      · omega
      · refine am_wp_go rfl (by simp (disch := omega) only [s4 hw, r4_0 hw, s5 hw, r5_0 hw, s6 hw, r5_1 hw, s14 hw, r4_2 hw, k1, p1, am_b0, am_addE, am_subE, am_mulE, am_laddE, am_lsubE, am_upO, am_upS, am_stS, am_stO, am_tnn, am_brl, am_brg, am_bre, am_brn, am_brG, am_brL, am_st1, am_no2, am_st2, am_clr, and_self, true_and, and_true, true_or, or_true, List.length_cons, List.length_nil] <;> omega) ?_
        try simp (disch := omega) only [s4 hw, r4_0 hw, s5 hw, r5_0 hw, s6 hw, r5_1 hw, s14 hw, r4_2 hw, k1, p1, am_b0, am_addE, am_subE, am_mulE, am_laddE, am_lsubE, am_upO, am_upS, am_stS, am_stO, am_tnn, am_brl, am_brg, am_bre, am_brn, am_brG, am_brL, am_st1, am_no2, am_st2, am_clr]
        refine am_wp_br (fun b24 => ?_) (fun b24 => ?_)
        · omega
        · refine am_wp_go rfl (by simp (disch := omega) only [s4 hw, r4_0 hw, s5 hw, r5_0 hw, s6 hw, r5_1 hw, s14 hw, r4_2 hw, k1, p1, am_b0, am_addE, am_subE, am_mulE, am_laddE, am_lsubE, am_upO, am_upS, am_stS, am_stO, am_tnn, am_brl, am_brg, am_bre, am_brn, am_brG, am_brL, am_st1, am_no2, am_st2, am_clr, and_self, true_and, and_true, true_or, or_true, List.length_cons, List.length_nil] <;> omega) ?_
          try simp (disch := omega) only [s4 hw, r4_0 hw, s5 hw, r5_0 hw, s6 hw, r5_1 hw, s14 hw, r4_2 hw, k1, p1, am_b0, am_addE, am_subE, am_mulE, am_laddE, am_lsubE, am_upO, am_upS, am_stS, am_stO, am_tnn, am_brl, am_brg, am_bre, am_brn, am_brG, am_brL, am_st1, am_no2, am_st2, am_clr]
          refine am_wp_br (fun b28 => ?_) (fun b28 => ?_)
          · omega
          · refine am_wp_go rfl (by simp (disch := omega) only [s4 hw, r4_0 hw, s5 hw, r5_0 hw, s6 hw, r5_1 hw, s14 hw, r4_2 hw, k1, p1, am_b0, am_addE, am_subE, am_mulE, am_laddE, am_lsubE, am_upO, am_upS, am_stS, am_stO, am_tnn, am_brl, am_brg, am_bre, am_brn, am_brG, am_brL, am_st1, am_no2, am_st2, am_clr, and_self, true_and, and_true, true_or, or_true, List.length_cons, List.length_nil] <;> omega) ?_
            try simp (disch := omega) only [s4 hw, r4_0 hw, s5 hw, r5_0 hw, s6 hw, r5_1 hw, s14 hw, r4_2 hw, k1, p1, am_b0, am_addE, am_subE, am_mulE, am_laddE, am_lsubE, am_upO, am_upS, am_stS, am_stO, am_tnn, am_brl, am_brg, am_bre, am_brn, am_brG, am_brL, am_st1, am_no2, am_st2, am_clr]
            refine am_wp_br (fun b35 => ?_) (fun b35 => ?_)
            · omega
            · refine am_wp_go rfl (by simp (disch := omega) only [s4 hw, r4_0 hw, s5 hw, r5_0 hw, s6 hw, r5_1 hw, s14 hw, r4_2 hw, k1, p1, am_b0, am_addE, am_subE, am_mulE, am_laddE, am_lsubE, am_upO, am_upS, am_stS, am_stO, am_tnn, am_brl, am_brg, am_bre, am_brn, am_brG, am_brL, am_st1, am_no2, am_st2, am_clr, and_self, true_and, and_true, true_or, or_true, List.length_cons, List.length_nil] <;> omega) ?_
              try simp (disch := omega) only [s4 hw, r4_0 hw, s5 hw, r5_0 hw, s6 hw, r5_1 hw, s14 hw, r4_2 hw, k1, p1, am_b0, am_addE, am_subE, am_mulE, am_laddE, am_lsubE, am_upO, am_upS, am_stS, am_stO, am_tnn, am_brl, am_brg, am_bre, am_brn, am_brG, am_brL, am_st1, am_no2, am_st2, am_clr]
              refine am_wp_br (fun b40 => ?_) (fun b40 => ?_)
              · omega
              · refine am_wp_go rfl (by simp (disch := omega) only [s4 hw, r4_0 hw, s5 hw, r5_0 hw, s6 hw, r5_1 hw, s14 hw, r4_2 hw, k1, p1, am_b0, am_addE, am_subE, am_mulE, am_laddE, am_lsubE, am_upO, am_upS, am_stS, am_stO, am_tnn, am_brl, am_brg, am_bre, am_brn, am_brG, am_brL, am_st1, am_no2, am_st2, am_clr, and_self, true_and, and_true, true_or, or_true, List.length_cons, List.length_nil] <;> omega) ?_
                try simp (disch := omega) only [s4 hw, r4_0 hw, s5 hw, r5_0 hw, s6 hw, r5_1 hw, s14 hw, r4_2 hw, k1, p1, am_b0, am_addE, am_subE, am_mulE, am_laddE, am_lsubE, am_upO, am_upS, am_stS, am_stO, am_tnn, am_brl, am_brg, am_bre, am_brn, am_brG, am_brL, am_st1, am_no2, am_st2, am_clr]
                refine am_wp_br (fun b50 => ?_) (fun b50 => ?_)
                · omega
                · refine am_wp_go rfl (by simp (disch := omega) only [s4 hw, r4_0 hw, s5 hw, r5_0 hw, s6 hw, r5_1 hw, s14 hw, r4_2 hw, k1, p1, am_b0, am_addE, am_subE, am_mulE, am_laddE, am_lsubE, am_upO, am_upS, am_stS, am_stO, am_tnn, am_brl, am_brg, am_bre, am_brn, am_brG, am_brL, am_st1, am_no2, am_st2, am_clr, and_self, true_and, and_true, true_or, or_true, List.length_cons, List.length_nil] <;> omega) ?_
                  try simp (disch := omega) only [s4 hw, r4_0 hw, s5 hw, r5_0 hw, s6 hw, r5_1 hw, s14 hw, r4_2 hw, k1, p1, am_b0, am_addE, am_subE, am_mulE, am_laddE, am_lsubE, am_upO, am_upS, am_stS, am_stO, am_tnn, am_brl, am_brg, am_bre, am_brn, am_brG, am_brL, am_st1, am_no2, am_st2, am_clr]
                  refine am_wp_br (fun b56 => ?_) (fun b56 => ?_)
                  · omega
                  · refine am_wp_go rfl (by simp (disch := omega) only [s4 hw, r4_0 hw, s5 hw, r5_0 hw, s6 hw, r5_1 hw, s14 hw, r4_2 hw, k1, p1, am_b0, am_addE, am_subE, am_mulE, am_laddE, am_lsubE, am_upO, am_upS, am_stS, am_stO, am_tnn, am_brl, am_brg, am_bre, am_brn, am_brG, am_brL, am_st1, am_no2, am_st2, am_clr, and_self, true_and, and_true, true_or, or_true, List.length_cons, List.length_nil] <;> omega) ?_
                    try simp (disch := omega) only [s4 hw, r4_0 hw, s5 hw, r5_0 hw, s6 hw, r5_1 hw, s14 hw, r4_2 hw, k1, p1, am_b0, am_addE, am_subE, am_mulE, am_laddE, am_lsubE, am_upO, am_upS, am_stS, am_stO, am_tnn, am_brl, am_brg, am_bre, am_brn, am_brG, am_brL, am_st1, am_no2, am_st2, am_clr]
                    refine am_wp_br (fun b63 => ?_) (fun b63 => ?_)
                    · omega
                    · refine am_wp_go rfl (by simp (disch := omega) only [s4 hw, r4_0 hw, s5 hw, r5_0 hw, s6 hw, r5_1 hw, s14 hw, r4_2 hw, k1, p1, am_b0, am_addE, am_subE, am_mulE, am_laddE, am_lsubE, am_upO, am_upS, am_stS, am_stO, am_tnn, am_brl, am_brg, am_bre, am_brn, am_brG, am_brL, am_st1, am_no2, am_st2, am_clr, and_self, true_and, and_true, true_or, or_true, List.length_cons, List.length_nil] <;> omega) ?_
                      refine am_wp_pc (pc' := 78) rfl ?_
                      refine am_wp_go rfl (by simp (disch := omega) only [s4 hw, r4_0 hw, s5 hw, r5_0 hw, s6 hw, r5_1 hw, s14 hw, r4_2 hw, k1, p1, am_b0, am_addE, am_subE, am_mulE, am_laddE, am_lsubE, am_upO, am_upS, am_stS, am_stO, am_tnn, am_brl, am_brg, am_bre, am_brn, am_brG, am_brL, am_st1, am_no2, am_st2, am_clr, and_self, true_and, and_true, true_or, or_true, List.length_cons, List.length_nil] <;> omega) ?_
                      try simp (disch := omega) only [s4 hw, r4_0 hw, s5 hw, r5_0 hw, s6 hw, r5_1 hw, s14 hw, r4_2 hw, k1, p1, am_b0, am_addE, am_subE, am_mulE, am_laddE, am_lsubE, am_upO, am_upS, am_stS, am_stO, am_tnn, am_brl, am_brg, am_bre, am_brn, am_brG, am_brL, am_st1, am_no2, am_st2, am_clr]
                      refine am_wp_br (fun b91 => ?_) (fun b91 => ?_)
                      · refine am_wp_go rfl (by simp (disch := omega) only [s4 hw, r4_0 hw, s5 hw, r5_0 hw, s6 hw, r5_1 hw, s14 hw, r4_2 hw, k1, p1, am_b0, am_addE, am_subE, am_mulE, am_laddE, am_lsubE, am_upO, am_upS, am_stS, am_stO, am_tnn, am_brl, am_brg, am_bre, am_brn, am_brG, am_brL, am_st1, am_no2, am_st2, am_clr, and_self, true_and, and_true, true_or, or_true, List.length_cons, List.length_nil] <;> omega) ?_
                        try simp (disch := omega) only [s4 hw, r4_0 hw, s5 hw, r5_0 hw, s6 hw, r5_1 hw, s14 hw, r4_2 hw, k1, p1, am_b0, am_addE, am_subE, am_mulE, am_laddE, am_lsubE, am_upO, am_upS, am_stS, am_stO, am_tnn, am_brl, am_brg, am_bre, am_brn, am_brG, am_brL, am_st1, am_no2, am_st2, am_clr]
                        refine am_wp_cc rfl rfl rfl (congrArg Prod.fst (s22 hw)) (w_keep hw (pl_w hw (by decide)) (by decide) (by decide) hp hh (fun J j1 j2 => ⟨_, rfl, ?_⟩))
                        refine am_wp_go rfl (by simp (disch := omega) only [s4 hw, r4_0 hw, s5 hw, r5_0 hw, s6 hw, r5_1 hw, s14 hw, r4_2 hw, k1, p1, am_b0, am_addE, am_subE, am_mulE, am_laddE, am_lsubE, am_upO, am_upS, am_stS, am_stO, am_tnn, am_brl, am_brg, am_bre, am_brn, am_brG, am_brL, am_st1, am_no2, am_st2, am_clr, and_self, true_and, and_true, true_or, or_true, List.length_cons, List.length_nil] <;> omega) ?_
                        try simp (disch := omega) only [s4 hw, r4_0 hw, s5 hw, r5_0 hw, s6 hw, r5_1 hw, s14 hw, r4_2 hw, k1, p1, am_b0, am_addE, am_subE, am_mulE, am_laddE, am_lsubE, am_upO, am_upS, am_stS, am_stO, am_tnn, am_brl, am_brg, am_bre, am_brn, am_brG, am_brL, am_st1, am_no2, am_st2, am_clr]
                        refine am_wp_cc rfl rfl rfl (congrArg Prod.fst (s14 hw)) (w_append (g := (s, u, b, l, n)) (pl_w hw (by decide)) (pl_fr hp (j1 14 (by omega)) (j1 15 (by omega))) (by omega) (by unfold go_ok; dsimp only; omega) rfl rfl rfl rfl (fun K g1 g2 => ⟨_, rfl, ?_⟩))
                        refine am_wp_ret rfl rfl ?_
                        exact h K (cqp_of (fun a ha => by rw [g1 a (by omega) (by omega), j1 a (by omega)])) g2 (hsC_fr j2 (fun a ha => g1 a (by omega) (by omega)))
                      · omega
  · have h := h0 hv
    unfold addOk at hv
    refine am_wp_go rfl (by simp (disch := omega) only [s4 hw, r4_0 hw, s5 hw, r5_0 hw, s6 hw, r5_1 hw, s14 hw, r4_2 hw, k1, p1, am_b0, am_addE, am_subE, am_mulE, am_laddE, am_lsubE, am_upO, am_upS, am_stS, am_stO, am_tnn, am_brl, am_brg, am_bre, am_brn, am_brG, am_brL, am_st1, am_no2, am_st2, am_clr, and_self, true_and, and_true, true_or, or_true, List.length_cons, List.length_nil] <;> omega) ?_
    try simp (disch := omega) only [s4 hw, r4_0 hw, s5 hw, r5_0 hw, s6 hw, r5_1 hw, s14 hw, r4_2 hw, k1, p1, am_b0, am_addE, am_subE, am_mulE, am_laddE, am_lsubE, am_upO, am_upS, am_stS, am_stO, am_tnn, am_brl, am_brg, am_bre, am_brn, am_brG, am_brL, am_st1, am_no2, am_st2, am_clr]
    refine am_wp_cc rfl rfl rfl (congrArg Prod.fst (s6 hw)) (w_hasSlice (kt_w hw (by decide)) hk ⟨_, rfl, ?_⟩)
    refine am_wp_go rfl (by simp (disch := omega) only [s4 hw, r4_0 hw, s5 hw, r5_0 hw, s6 hw, r5_1 hw, s14 hw, r4_2 hw, k1, p1, am_b0, am_addE, am_subE, am_mulE, am_laddE, am_lsubE, am_upO, am_upS, am_stS, am_stO, am_tnn, am_brl, am_brg, am_bre, am_brn, am_brG, am_brL, am_st1, am_no2, am_st2, am_clr, and_self, true_and, and_true, true_or, or_true, List.length_cons, List.length_nil] <;> omega) ?_
    try simp (disch := omega) only [s4 hw, r4_0 hw, s5 hw, r5_0 hw, s6 hw, r5_1 hw, s14 hw, r4_2 hw, k1, p1, am_b0, am_addE, am_subE, am_mulE, am_laddE, am_lsubE, am_upO, am_upS, am_stS, am_stO, am_tnn, am_brl, am_brg, am_bre, am_brn, am_brG, am_brL, am_st1, am_no2, am_st2, am_clr]
    refine am_wp_br (fun b15 => ?_) (fun b15 => ?_)
    · refine am_wp_go rfl (by simp (disch := omega) only [s4 hw, r4_0 hw, s5 hw, r5_0 hw, s6 hw, r5_1 hw, s14 hw, r4_2 hw, k1, p1, am_b0, am_addE, am_subE, am_mulE, am_laddE, am_lsubE, am_upO, am_upS, am_stS, am_stO, am_tnn, am_brl, am_brg, am_bre, am_brn, am_brG, am_brL, am_st1, am_no2, am_st2, am_clr, and_self, true_and, and_true, true_or, or_true, List.length_cons, List.length_nil] <;> omega) ?_
      refine am_wp_pc (pc' := 94) rfl ?_
      refine am_wp_go rfl (by simp (disch := omega) only [s4 hw, r4_0 hw, s5 hw, r5_0 hw, s6 hw, r5_1 hw, s14 hw, r4_2 hw, k1, p1, am_b0, am_addE, am_subE, am_mulE, am_laddE, am_lsubE, am_upO, am_upS, am_stS, am_stO, am_tnn, am_brl, am_brg, am_bre, am_brn, am_brG, am_brL, am_st1, am_no2, am_st2, am_clr, and_self, true_and, and_true, true_or, or_true, List.length_cons, List.length_nil] <;> omega) ?_
      try simp (disch := omega) only [s4 hw, r4_0 hw, s5 hw, r5_0 hw, s6 hw, r5_1 hw, s14 hw, r4_2 hw, k1, p1, am_b0, am_addE, am_subE, am_mulE, am_laddE, am_lsubE, am_upO, am_upS, am_stS, am_stO, am_tnn, am_brl, am_brg, am_bre, am_brn, am_brG, am_brL, am_st1, am_no2, am_st2, am_clr]
      refine am_wp_ret rfl rfl ?_
      exact h
    · refine am_wp_go rfl (by simp (disch := omega) only [s4 hw, r4_0 hw, s5 hw, r5_0 hw, s6 hw, r5_1 hw, s14 hw, r4_2 hw, k1, p1, am_b0, am_addE, am_subE, am_mulE, am_laddE, am_lsubE, am_upO, am_upS, am_stS, am_stO, am_tnn, am_brl, am_brg, am_bre, am_brn, am_brG, am_brL, am_st1, am_no2, am_st2, am_clr, and_self, true_and, and_true, true_or, or_true, List.length_cons, List.length_nil] <;> omega) ?_
      try simp (disch := omega) only [s4 hw, r4_0 hw, s5 hw, r5_0 hw, s6 hw, r5_1 hw, s14 hw, r4_2 hw, k1, p1, am_b0, am_addE, am_subE, am_mulE, am_laddE, am_lsubE, am_upO, am_upS, am_stS, am_stO, am_tnn, am_brl, am_brg, am_bre, am_brn, am_brG, am_brL, am_st1, am_no2, am_st2, am_clr]
      refine am_wp_br (fun b19 => ?_) (fun b19 => ?_)
      · refine am_wp_go rfl (by simp (disch := omega) only [s4 hw, r4_0 hw, s5 hw, r5_0 hw, s6 hw, r5_1 hw, s14 hw, r4_2 hw, k1, p1, am_b0, am_addE, am_subE, am_mulE, am_laddE, am_lsubE, am_upO, am_upS, am_stS, am_stO, am_tnn, am_brl, am_brg, am_bre, am_brn, am_brG, am_brL, am_st1, am_no2, am_st2, am_clr, and_self, true_and, and_true, true_or, or_true, List.length_cons, List.length_nil] <;> omega) ?_
        refine am_wp_pc (pc' := 94) rfl ?_
        refine am_wp_go rfl (by simp (disch := omega) only [s4 hw, r4_0 hw, s5 hw, r5_0 hw, s6 hw, r5_1 hw, s14 hw, r4_2 hw, k1, p1, am_b0, am_addE, am_subE, am_mulE, am_laddE, am_lsubE, am_upO, am_upS, am_stS, am_stO, am_tnn, am_brl, am_brg, am_bre, am_brn, am_brG, am_brL, am_st1, am_no2, am_st2, am_clr, and_self, true_and, and_true, true_or, or_true, List.length_cons, List.length_nil] <;> omega) ?_
        try simp (disch := omega) only [s4 hw, r4_0 hw, s5 hw, r5_0 hw, s6 hw, r5_1 hw, s14 hw, r4_2 hw, k1, p1, am_b0, am_addE, am_subE, am_mulE, am_laddE, am_lsubE, am_upO, am_upS, am_stS, am_stO, am_tnn, am_brl, am_brg, am_bre, am_brn, am_brG, am_brL, am_st1, am_no2, am_st2, am_clr]
        refine am_wp_ret rfl rfl ?_
        exact h
      · refine am_wp_go rfl (by simp (disch := omega) only [s4 hw, r4_0 hw, s5 hw, r5_0 hw, s6 hw, r5_1 hw, s14 hw, r4_2 hw, k1, p1, am_b0, am_addE, am_subE, am_mulE, am_laddE, am_lsubE, am_upO, am_upS, am_stS, am_stO, am_tnn, am_brl, am_brg, am_bre, am_brn, am_brG, am_brL, am_st1, am_no2, am_st2, am_clr, and_self, true_and, and_true, true_or, or_true, List.length_cons, List.length_nil] <;> omega) ?_
        try simp (disch := omega) only [s4 hw, r4_0 hw, s5 hw, r5_0 hw, s6 hw, r5_1 hw, s14 hw, r4_2 hw, k1, p1, am_b0, am_addE, am_subE, am_mulE, am_laddE, am_lsubE, am_upO, am_upS, am_stS, am_stO, am_tnn, am_brl, am_brg, am_bre, am_brn, am_brG, am_brL, am_st1, am_no2, am_st2, am_clr]
        refine am_wp_br (fun b24 => ?_) (fun b24 => ?_)
        · refine am_wp_go rfl (by simp (disch := omega) only [s4 hw, r4_0 hw, s5 hw, r5_0 hw, s6 hw, r5_1 hw, s14 hw, r4_2 hw, k1, p1, am_b0, am_addE, am_subE, am_mulE, am_laddE, am_lsubE, am_upO, am_upS, am_stS, am_stO, am_tnn, am_brl, am_brg, am_bre, am_brn, am_brG, am_brL, am_st1, am_no2, am_st2, am_clr, and_self, true_and, and_true, true_or, or_true, List.length_cons, List.length_nil] <;> omega) ?_
          refine am_wp_pc (pc' := 94) rfl ?_
          refine am_wp_go rfl (by simp (disch := omega) only [s4 hw, r4_0 hw, s5 hw, r5_0 hw, s6 hw, r5_1 hw, s14 hw, r4_2 hw, k1, p1, am_b0, am_addE, am_subE, am_mulE, am_laddE, am_lsubE, am_upO, am_upS, am_stS, am_stO, am_tnn, am_brl, am_brg, am_bre, am_brn, am_brG, am_brL, am_st1, am_no2, am_st2, am_clr, and_self, true_and, and_true, true_or, or_true, List.length_cons, List.length_nil] <;> omega) ?_
          try simp (disch := omega) only [s4 hw, r4_0 hw, s5 hw, r5_0 hw, s6 hw, r5_1 hw, s14 hw, r4_2 hw, k1, p1, am_b0, am_addE, am_subE, am_mulE, am_laddE, am_lsubE, am_upO, am_upS, am_stS, am_stO, am_tnn, am_brl, am_brg, am_bre, am_brn, am_brG, am_brL, am_st1, am_no2, am_st2, am_clr]
          refine am_wp_ret rfl rfl ?_
          exact h
        · refine am_wp_go rfl (by simp (disch := omega) only [s4 hw, r4_0 hw, s5 hw, r5_0 hw, s6 hw, r5_1 hw, s14 hw, r4_2 hw, k1, p1, am_b0, am_addE, am_subE, am_mulE, am_laddE, am_lsubE, am_upO, am_upS, am_stS, am_stO, am_tnn, am_brl, am_brg, am_bre, am_brn, am_brG, am_brL, am_st1, am_no2, am_st2, am_clr, and_self, true_and, and_true, true_or, or_true, List.length_cons, List.length_nil] <;> omega) ?_
          try simp (disch := omega) only [s4 hw, r4_0 hw, s5 hw, r5_0 hw, s6 hw, r5_1 hw, s14 hw, r4_2 hw, k1, p1, am_b0, am_addE, am_subE, am_mulE, am_laddE, am_lsubE, am_upO, am_upS, am_stS, am_stO, am_tnn, am_brl, am_brg, am_bre, am_brn, am_brG, am_brL, am_st1, am_no2, am_st2, am_clr]
          refine am_wp_br (fun b28 => ?_) (fun b28 => ?_)
          · refine am_wp_go rfl (by simp (disch := omega) only [s4 hw, r4_0 hw, s5 hw, r5_0 hw, s6 hw, r5_1 hw, s14 hw, r4_2 hw, k1, p1, am_b0, am_addE, am_subE, am_mulE, am_laddE, am_lsubE, am_upO, am_upS, am_stS, am_stO, am_tnn, am_brl, am_brg, am_bre, am_brn, am_brG, am_brL, am_st1, am_no2, am_st2, am_clr, and_self, true_and, and_true, true_or, or_true, List.length_cons, List.length_nil] <;> omega) ?_
            refine am_wp_pc (pc' := 94) rfl ?_
            refine am_wp_go rfl (by simp (disch := omega) only [s4 hw, r4_0 hw, s5 hw, r5_0 hw, s6 hw, r5_1 hw, s14 hw, r4_2 hw, k1, p1, am_b0, am_addE, am_subE, am_mulE, am_laddE, am_lsubE, am_upO, am_upS, am_stS, am_stO, am_tnn, am_brl, am_brg, am_bre, am_brn, am_brG, am_brL, am_st1, am_no2, am_st2, am_clr, and_self, true_and, and_true, true_or, or_true, List.length_cons, List.length_nil] <;> omega) ?_
            try simp (disch := omega) only [s4 hw, r4_0 hw, s5 hw, r5_0 hw, s6 hw, r5_1 hw, s14 hw, r4_2 hw, k1, p1, am_b0, am_addE, am_subE, am_mulE, am_laddE, am_lsubE, am_upO, am_upS, am_stS, am_stO, am_tnn, am_brl, am_brg, am_bre, am_brn, am_brG, am_brL, am_st1, am_no2, am_st2, am_clr]
            refine am_wp_ret rfl rfl ?_
            exact h
          · refine am_wp_go rfl (by simp (disch := omega) only [s4 hw, r4_0 hw, s5 hw, r5_0 hw, s6 hw, r5_1 hw, s14 hw, r4_2 hw, k1, p1, am_b0, am_addE, am_subE, am_mulE, am_laddE, am_lsubE, am_upO, am_upS, am_stS, am_stO, am_tnn, am_brl, am_brg, am_bre, am_brn, am_brG, am_brL, am_st1, am_no2, am_st2, am_clr, and_self, true_and, and_true, true_or, or_true, List.length_cons, List.length_nil] <;> omega) ?_
            try simp (disch := omega) only [s4 hw, r4_0 hw, s5 hw, r5_0 hw, s6 hw, r5_1 hw, s14 hw, r4_2 hw, k1, p1, am_b0, am_addE, am_subE, am_mulE, am_laddE, am_lsubE, am_upO, am_upS, am_stS, am_stO, am_tnn, am_brl, am_brg, am_bre, am_brn, am_brG, am_brL, am_st1, am_no2, am_st2, am_clr]
            refine am_wp_br (fun b35 => ?_) (fun b35 => ?_)
            · refine am_wp_go rfl (by simp (disch := omega) only [s4 hw, r4_0 hw, s5 hw, r5_0 hw, s6 hw, r5_1 hw, s14 hw, r4_2 hw, k1, p1, am_b0, am_addE, am_subE, am_mulE, am_laddE, am_lsubE, am_upO, am_upS, am_stS, am_stO, am_tnn, am_brl, am_brg, am_bre, am_brn, am_brG, am_brL, am_st1, am_no2, am_st2, am_clr, and_self, true_and, and_true, true_or, or_true, List.length_cons, List.length_nil] <;> omega) ?_
              refine am_wp_pc (pc' := 94) rfl ?_
              refine am_wp_go rfl (by simp (disch := omega) only [s4 hw, r4_0 hw, s5 hw, r5_0 hw, s6 hw, r5_1 hw, s14 hw, r4_2 hw, k1, p1, am_b0, am_addE, am_subE, am_mulE, am_laddE, am_lsubE, am_upO, am_upS, am_stS, am_stO, am_tnn, am_brl, am_brg, am_bre, am_brn, am_brG, am_brL, am_st1, am_no2, am_st2, am_clr, and_self, true_and, and_true, true_or, or_true, List.length_cons, List.length_nil] <;> omega) ?_
              try simp (disch := omega) only [s4 hw, r4_0 hw, s5 hw, r5_0 hw, s6 hw, r5_1 hw, s14 hw, r4_2 hw, k1, p1, am_b0, am_addE, am_subE, am_mulE, am_laddE, am_lsubE, am_upO, am_upS, am_stS, am_stO, am_tnn, am_brl, am_brg, am_bre, am_brn, am_brG, am_brL, am_st1, am_no2, am_st2, am_clr]
              refine am_wp_ret rfl rfl ?_
              exact h
            · refine am_wp_go rfl (by simp (disch := omega) only [s4 hw, r4_0 hw, s5 hw, r5_0 hw, s6 hw, r5_1 hw, s14 hw, r4_2 hw, k1, p1, am_b0, am_addE, am_subE, am_mulE, am_laddE, am_lsubE, am_upO, am_upS, am_stS, am_stO, am_tnn, am_brl, am_brg, am_bre, am_brn, am_brG, am_brL, am_st1, am_no2, am_st2, am_clr, and_self, true_and, and_true, true_or, or_true, List.length_cons, List.length_nil] <;> omega) ?_
              try simp (disch := omega) only [s4 hw, r4_0 hw, s5 hw, r5_0 hw, s6 hw, r5_1 hw, s14 hw, r4_2 hw, k1, p1, am_b0, am_addE, am_subE, am_mulE, am_laddE, am_lsubE, am_upO, am_upS, am_stS, am_stO, am_tnn, am_brl, am_brg, am_bre, am_brn, am_brG, am_brL, am_st1, am_no2, am_st2, am_clr]
              refine am_wp_br (fun b40 => ?_) (fun b40 => ?_)
              · refine am_wp_go rfl (by simp (disch := omega) only [s4 hw, r4_0 hw, s5 hw, r5_0 hw, s6 hw, r5_1 hw, s14 hw, r4_2 hw, k1, p1, am_b0, am_addE, am_subE, am_mulE, am_laddE, am_lsubE, am_upO, am_upS, am_stS, am_stO, am_tnn, am_brl, am_brg, am_bre, am_brn, am_brG, am_brL, am_st1, am_no2, am_st2, am_clr, and_self, true_and, and_true, true_or, or_true, List.length_cons, List.length_nil] <;> omega) ?_
                refine am_wp_pc (pc' := 94) rfl ?_
                refine am_wp_go rfl (by simp (disch := omega) only [s4 hw, r4_0 hw, s5 hw, r5_0 hw, s6 hw, r5_1 hw, s14 hw, r4_2 hw, k1, p1, am_b0, am_addE, am_subE, am_mulE, am_laddE, am_lsubE, am_upO, am_upS, am_stS, am_stO, am_tnn, am_brl, am_brg, am_bre, am_brn, am_brG, am_brL, am_st1, am_no2, am_st2, am_clr, and_self, true_and, and_true, true_or, or_true, List.length_cons, List.length_nil] <;> omega) ?_
                try simp (disch := omega) only [s4 hw, r4_0 hw, s5 hw, r5_0 hw, s6 hw, r5_1 hw, s14 hw, r4_2 hw, k1, p1, am_b0, am_addE, am_subE, am_mulE, am_laddE, am_lsubE, am_upO, am_upS, am_stS, am_stO, am_tnn, am_brl, am_brg, am_bre, am_brn, am_brG, am_brL, am_st1, am_no2, am_st2, am_clr]
                refine am_wp_ret rfl rfl ?_
                exact h
              · refine am_wp_go rfl (by simp (disch := omega) only [s4 hw, r4_0 hw, s5 hw, r5_0 hw, s6 hw, r5_1 hw, s14 hw, r4_2 hw, k1, p1, am_b0, am_addE, am_subE, am_mulE, am_laddE, am_lsubE, am_upO, am_upS, am_stS, am_stO, am_tnn, am_brl, am_brg, am_bre, am_brn, am_brG, am_brL, am_st1, am_no2, am_st2, am_clr, and_self, true_and, and_true, true_or, or_true, List.length_cons, List.length_nil] <;> omega) ?_
                try simp (disch := omega) only [s4 hw, r4_0 hw, s5 hw, r5_0 hw, s6 hw, r5_1 hw, s14 hw, r4_2 hw, k1, p1, am_b0, am_addE, am_subE, am_mulE, am_laddE, am_lsubE, am_upO, am_upS, am_stS, am_stO, am_tnn, am_brl, am_brg, am_bre, am_brn, am_brG, am_brL, am_st1, am_no2, am_st2, am_clr]
                refine am_wp_br (fun b50 => ?_) (fun b50 => ?_)
                · refine am_wp_go rfl (by simp (disch := omega) only [s4 hw, r4_0 hw, s5 hw, r5_0 hw, s6 hw, r5_1 hw, s14 hw, r4_2 hw, k1, p1, am_b0, am_addE, am_subE, am_mulE, am_laddE, am_lsubE, am_upO, am_upS, am_stS, am_stO, am_tnn, am_brl, am_brg, am_bre, am_brn, am_brG, am_brL, am_st1, am_no2, am_st2, am_clr, and_self, true_and, and_true, true_or, or_true, List.length_cons, List.length_nil] <;> omega) ?_
                  refine am_wp_pc (pc' := 94) rfl ?_
                  refine am_wp_go rfl (by simp (disch := omega) only [s4 hw, r4_0 hw, s5 hw, r5_0 hw, s6 hw, r5_1 hw, s14 hw, r4_2 hw, k1, p1, am_b0, am_addE, am_subE, am_mulE, am_laddE, am_lsubE, am_upO, am_upS, am_stS, am_stO, am_tnn, am_brl, am_brg, am_bre, am_brn, am_brG, am_brL, am_st1, am_no2, am_st2, am_clr, and_self, true_and, and_true, true_or, or_true, List.length_cons, List.length_nil] <;> omega) ?_
                  try simp (disch := omega) only [s4 hw, r4_0 hw, s5 hw, r5_0 hw, s6 hw, r5_1 hw, s14 hw, r4_2 hw, k1, p1, am_b0, am_addE, am_subE, am_mulE, am_laddE, am_lsubE, am_upO, am_upS, am_stS, am_stO, am_tnn, am_brl, am_brg, am_bre, am_brn, am_brG, am_brL, am_st1, am_no2, am_st2, am_clr]
                  refine am_wp_ret rfl rfl ?_
                  exact h
                · refine am_wp_go rfl (by simp (disch := omega) only [s4 hw, r4_0 hw, s5 hw, r5_0 hw, s6 hw, r5_1 hw, s14 hw, r4_2 hw, k1, p1, am_b0, am_addE, am_subE, am_mulE, am_laddE, am_lsubE, am_upO, am_upS, am_stS, am_stO, am_tnn, am_brl, am_brg, am_bre, am_brn, am_brG, am_brL, am_st1, am_no2, am_st2, am_clr, and_self, true_and, and_true, true_or, or_true, List.length_cons, List.length_nil] <;> omega) ?_
                  try simp (disch := omega) only [s4 hw, r4_0 hw, s5 hw, r5_0 hw, s6 hw, r5_1 hw, s14 hw, r4_2 hw, k1, p1, am_b0, am_addE, am_subE, am_mulE, am_laddE, am_lsubE, am_upO, am_upS, am_stS, am_stO, am_tnn, am_brl, am_brg, am_bre, am_brn, am_brG, am_brL, am_st1, am_no2, am_st2, am_clr]
                  refine am_wp_br (fun b56 => ?_) (fun b56 => ?_)
                  · refine am_wp_go rfl (by simp (disch := omega) only [s4 hw, r4_0 hw, s5 hw, r5_0 hw, s6 hw, r5_1 hw, s14 hw, r4_2 hw, k1, p1, am_b0, am_addE, am_subE, am_mulE, am_laddE, am_lsubE, am_upO, am_upS, am_stS, am_stO, am_tnn, am_brl, am_brg, am_bre, am_brn, am_brG, am_brL, am_st1, am_no2, am_st2, am_clr, and_self, true_and, and_true, true_or, or_true, List.length_cons, List.length_nil] <;> omega) ?_
                    refine am_wp_pc (pc' := 94) rfl ?_
                    refine am_wp_go rfl (by simp (disch := omega) only [s4 hw, r4_0 hw, s5 hw, r5_0 hw, s6 hw, r5_1 hw, s14 hw, r4_2 hw, k1, p1, am_b0, am_addE, am_subE, am_mulE, am_laddE, am_lsubE, am_upO, am_upS, am_stS, am_stO, am_tnn, am_brl, am_brg, am_bre, am_brn, am_brG, am_brL, am_st1, am_no2, am_st2, am_clr, and_self, true_and, and_true, true_or, or_true, List.length_cons, List.length_nil] <;> omega) ?_
                    try simp (disch := omega) only [s4 hw, r4_0 hw, s5 hw, r5_0 hw, s6 hw, r5_1 hw, s14 hw, r4_2 hw, k1, p1, am_b0, am_addE, am_subE, am_mulE, am_laddE, am_lsubE, am_upO, am_upS, am_stS, am_stO, am_tnn, am_brl, am_brg, am_bre, am_brn, am_brG, am_brL, am_st1, am_no2, am_st2, am_clr]
                    refine am_wp_ret rfl rfl ?_
                    exact h
                  · refine am_wp_go rfl (by simp (disch := omega) only [s4 hw, r4_0 hw, s5 hw, r5_0 hw, s6 hw, r5_1 hw, s14 hw, r4_2 hw, k1, p1, am_b0, am_addE, am_subE, am_mulE, am_laddE, am_lsubE, am_upO, am_upS, am_stS, am_stO, am_tnn, am_brl, am_brg, am_bre, am_brn, am_brG, am_brL, am_st1, am_no2, am_st2, am_clr, and_self, true_and, and_true, true_or, or_true, List.length_cons, List.length_nil] <;> omega) ?_
                    try simp (disch := omega) only [s4 hw, r4_0 hw, s5 hw, r5_0 hw, s6 hw, r5_1 hw, s14 hw, r4_2 hw, k1, p1, am_b0, am_addE, am_subE, am_mulE, am_laddE, am_lsubE, am_upO, am_upS, am_stS, am_stO, am_tnn, am_brl, am_brg, am_bre, am_brn, am_brG, am_brL, am_st1, am_no2, am_st2, am_clr]
                    refine am_wp_br (fun b63 => ?_) (fun b63 => ?_)
                    · refine am_wp_go rfl (by simp (disch := omega) only [s4 hw, r4_0 hw, s5 hw, r5_0 hw, s6 hw, r5_1 hw, s14 hw, r4_2 hw, k1, p1, am_b0, am_addE, am_subE, am_mulE, am_laddE, am_lsubE, am_upO, am_upS, am_stS, am_stO, am_tnn, am_brl, am_brg, am_bre, am_brn, am_brG, am_brL, am_st1, am_no2, am_st2, am_clr, and_self, true_and, and_true, true_or, or_true, List.length_cons, List.length_nil] <;> omega) ?_
                      refine am_wp_pc (pc' := 94) rfl ?_
                      refine am_wp_go rfl (by simp (disch := omega) only [s4 hw, r4_0 hw, s5 hw, r5_0 hw, s6 hw, r5_1 hw, s14 hw, r4_2 hw, k1, p1, am_b0, am_addE, am_subE, am_mulE, am_laddE, am_lsubE, am_upO, am_upS, am_stS, am_stO, am_tnn, am_brl, am_brg, am_bre, am_brn, am_brG, am_brL, am_st1, am_no2, am_st2, am_clr, and_self, true_and, and_true, true_or, or_true, List.length_cons, List.length_nil] <;> omega) ?_
                      try simp (disch := omega) only [s4 hw, r4_0 hw, s5 hw, r5_0 hw, s6 hw, r5_1 hw, s14 hw, r4_2 hw, k1, p1, am_b0, am_addE, am_subE, am_mulE, am_laddE, am_lsubE, am_upO, am_upS, am_stS, am_stO, am_tnn, am_brl, am_brg, am_bre, am_brn, am_brG, am_brL, am_st1, am_no2, am_st2, am_clr]
                      refine am_wp_ret rfl rfl ?_
                      exact h
                    · refine am_wp_go rfl (by simp (disch := omega) only [s4 hw, r4_0 hw, s5 hw, r5_0 hw, s6 hw, r5_1 hw, s14 hw, r4_2 hw, k1, p1, am_b0, am_addE, am_subE, am_mulE, am_laddE, am_lsubE, am_upO, am_upS, am_stS, am_stO, am_tnn, am_brl, am_brg, am_bre, am_brn, am_brG, am_brL, am_st1, am_no2, am_st2, am_clr, and_self, true_and, and_true, true_or, or_true, List.length_cons, List.length_nil] <;> omega) ?_
                      refine am_wp_pc (pc' := 78) rfl ?_
                      refine am_wp_go rfl (by simp (disch := omega) only [s4 hw, r4_0 hw, s5 hw, r5_0 hw, s6 hw, r5_1 hw, s14 hw, r4_2 hw, k1, p1, am_b0, am_addE, am_subE, am_mulE, am_laddE, am_lsubE, am_upO, am_upS, am_stS, am_stO, am_tnn, am_brl, am_brg, am_bre, am_brn, am_brG, am_brL, am_st1, am_no2, am_st2, am_clr, and_self, true_and, and_true, true_or, or_true, List.length_cons, List.length_nil] <;> omega) ?_
                      try simp (disch := omega) only [s4 hw, r4_0 hw, s5 hw, r5_0 hw, s6 hw, r5_1 hw, s14 hw, r4_2 hw, k1, p1, am_b0, am_addE, am_subE, am_mulE, am_laddE, am_lsubE, am_upO, am_upS, am_stS, am_stO, am_tnn, am_brl, am_brg, am_bre, am_brn, am_brG, am_brL, am_st1, am_no2, am_st2, am_clr]
                      refine am_wp_br (fun b91 => ?_) (fun b91 => ?_)
                      · omega
                      · refine am_wp_go rfl (by simp (disch := omega) only [s4 hw, r4_0 hw, s5 hw, r5_0 hw, s6 hw, r5_1 hw, s14 hw, r4_2 hw, k1, p1, am_b0, am_addE, am_subE, am_mulE, am_laddE, am_lsubE, am_upO, am_upS, am_stS, am_stO, am_tnn, am_brl, am_brg, am_bre, am_brn, am_brG, am_brL, am_st1, am_no2, am_st2, am_clr, and_self, true_and, and_true, true_or, or_true, List.length_cons, List.length_nil] <;> omega) ?_
                        try simp (disch := omega) only [s4 hw, r4_0 hw, s5 hw, r5_0 hw, s6 hw, r5_1 hw, s14 hw, r4_2 hw, k1, p1, am_b0, am_addE, am_subE, am_mulE, am_laddE, am_lsubE, am_upO, am_upS, am_stS, am_stO, am_tnn, am_brl, am_brg, am_bre, am_brn, am_brG, am_brL, am_st1, am_no2, am_st2, am_clr]
                        refine am_wp_ret rfl rfl ?_
                        exact h
theorem hsR_rq {I J : Nat → Nat → Int} (h : hsR I H) (q : rq I J) : hsR J H := hsR_fr h q.2.1.2.2.1 (q.1 129 (by omega))
theorem r_add {s u b l n : Int} (hw : wd sh R) (hb : beg I) (hk : wk (lw I)) (hr : rf (pw (lw I)) G) (hg : gok G) (hH : H.length ≤ 8) (hG : ∀ j, j < H.length → (H.getD j []).length ≤ 400) (hh : hsR I H) (h0 : ¬ addOk (lw I) G s u b l n → ∀ J, rq I J → Q (am_yi (-1)) (m, sl, sh, J, R)) (h1 : addOk (lw I) G s u b l n → ∀ J, rqp I J → rf (pw (J 126)) (G ++ [(s, u, b, l, n)]) → hsR J (hpush H G) → Q (am_yi G.length) (m, sl, sh, J, R)) : am_wp (d + 3) 282 0 [some (.inr (.inr (124))), some (.inl (s)), some (.inl (u)), some (.inl (b)), some (.inl (l)), some (.inl (n))] [] (m, sl, sh, I, R) Q := by
  refine am_wp_go rfl (by simp (disch := omega) only [s124 hw, r124_14 hw, s126 hw, am_b0, Int.reduceToNat, am_addE, am_subE, am_mulE, am_laddE, am_lsubE, am_upO, am_upS, am_stS, am_stO, am_tnn, am_brl, am_brg, am_bre, am_brn, am_brG, am_brL, am_st1, am_no2, am_st2, am_clr, and_self, true_and, and_true, true_or, or_true, List.length_cons, List.length_nil] <;> omega) ?_
  have q0 := rq_thrown (I := I) (x := 0)
  generalize am_up I 124 0 0 = I0 at q0 ⊢
  refine am_wp_cc rfl rfl rfl (congrArg Prod.fst (s124 hw)) (w_M_lay hw (beg_rq q0 hb) (fun J j1 j2 j3 j4 => ⟨_, rfl, ?_⟩))
  have q1 := rq_trans q0 (rq_lay j1 j2 j3 j4)
  rw [rq_lw q0] at j4
  clear j1 j2
  rw [← j4] at hk hr h0 h1
  have hh := hsR_rq hh q1
  have g4 := hg.1
  obtain ⟨⟨w0⟩, -⟩ := id hk
  unfold addOk at h0 h1
  refine am_wp_go rfl (by simp (disch := omega) only [s124 hw, r124_14 hw, s126 hw, am_b0, Int.reduceToNat, am_addE, am_subE, am_mulE, am_laddE, am_lsubE, am_upO, am_upS, am_stS, am_stO, am_tnn, am_brl, am_brg, am_bre, am_brn, am_brG, am_brL, am_st1, am_no2, am_st2, am_clr, and_self, true_and, and_true, true_or, or_true, List.length_cons, List.length_nil] <;> omega) ?_
  try simp (disch := omega) only [s124 hw, r124_14 hw, s126 hw, am_b0, Int.reduceToNat, am_addE, am_subE, am_mulE, am_laddE, am_lsubE, am_upO, am_upS, am_stS, am_stO, am_tnn, am_brl, am_brg, am_bre, am_brn, am_brG, am_brL, am_st1, am_no2, am_st2, am_clr]
  refine am_wp_cc rfl rfl rfl (congrArg Prod.fst (s124 hw)) (w_M_isSlice hw ⟨_, rfl, ?_⟩)
  refine am_wp_go rfl (by simp (disch := omega) only [s124 hw, r124_14 hw, s126 hw, am_b0, Int.reduceToNat, am_addE, am_subE, am_mulE, am_laddE, am_lsubE, am_upO, am_upS, am_stS, am_stO, am_tnn, am_brl, am_brg, am_bre, am_brn, am_brG, am_brL, am_st1, am_no2, am_st2, am_clr, and_self, true_and, and_true, true_or, or_true, List.length_cons, List.length_nil] <;> omega) ?_
  try simp (disch := omega) only [s124 hw, r124_14 hw, s126 hw, am_b0, Int.reduceToNat, am_addE, am_subE, am_mulE, am_laddE, am_lsubE, am_upO, am_upS, am_stS, am_stO, am_tnn, am_brl, am_brg, am_bre, am_brn, am_brG, am_brL, am_st1, am_no2, am_st2, am_clr]
  refine am_wp_br (fun b14 => ?_) (fun b14 => ?_)
  · refine am_wp_go rfl (by simp (disch := omega) only [s124 hw, r124_14 hw, s126 hw, am_b0, Int.reduceToNat, am_addE, am_subE, am_mulE, am_laddE, am_lsubE, am_upO, am_upS, am_stS, am_stO, am_tnn, am_brl, am_brg, am_bre, am_brn, am_brG, am_brL, am_st1, am_no2, am_st2, am_clr, and_self, true_and, and_true, true_or, or_true, List.length_cons, List.length_nil] <;> omega) ?_
    try simp (disch := omega) only [s124 hw, r124_14 hw, s126 hw, am_b0, Int.reduceToNat, am_addE, am_subE, am_mulE, am_laddE, am_lsubE, am_upO, am_upS, am_stS, am_stO, am_tnn, am_brl, am_brg, am_bre, am_brn, am_brG, am_brL, am_st1, am_no2, am_st2, am_clr]
    refine am_wp_ret rfl rfl ?_
    exact h0 (by omega) _ q1
  · refine am_wp_go rfl (by simp (disch := omega) only [s124 hw, r124_14 hw, s126 hw, am_b0, Int.reduceToNat, am_addE, am_subE, am_mulE, am_laddE, am_lsubE, am_upO, am_upS, am_stS, am_stO, am_tnn, am_brl, am_brg, am_bre, am_brn, am_brG, am_brL, am_st1, am_no2, am_st2, am_clr, and_self, true_and, and_true, true_or, or_true, List.length_cons, List.length_nil] <;> omega) ?_
    try simp (disch := omega) only [s124 hw, r124_14 hw, s126 hw, am_b0, Int.reduceToNat, am_addE, am_subE, am_mulE, am_laddE, am_lsubE, am_upO, am_upS, am_stS, am_stO, am_tnn, am_brl, am_brg, am_bre, am_brn, am_brG, am_brL, am_st1, am_no2, am_st2, am_clr]
    refine am_wp_cc rfl rfl rfl (trivial) (w_M_isIn ⟨_, rfl, ?_⟩)
    refine am_wp_go rfl (by simp (disch := omega) only [s124 hw, r124_14 hw, s126 hw, am_b0, Int.reduceToNat, am_addE, am_subE, am_mulE, am_laddE, am_lsubE, am_upO, am_upS, am_stS, am_stO, am_tnn, am_brl, am_brg, am_bre, am_brn, am_brG, am_brL, am_st1, am_no2, am_st2, am_clr, and_self, true_and, and_true, true_or, or_true, List.length_cons, List.length_nil] <;> omega) ?_
    try simp (disch := omega) only [s124 hw, r124_14 hw, s126 hw, am_b0, Int.reduceToNat, am_addE, am_subE, am_mulE, am_laddE, am_lsubE, am_upO, am_upS, am_stS, am_stO, am_tnn, am_brl, am_brg, am_bre, am_brn, am_brG, am_brL, am_st1, am_no2, am_st2, am_clr]
    refine am_wp_br (fun b23 => ?_) (fun b23 => ?_)
    · refine am_wp_go rfl (by simp (disch := omega) only [s124 hw, r124_14 hw, s126 hw, am_b0, Int.reduceToNat, am_addE, am_subE, am_mulE, am_laddE, am_lsubE, am_upO, am_upS, am_stS, am_stO, am_tnn, am_brl, am_brg, am_bre, am_brn, am_brG, am_brL, am_st1, am_no2, am_st2, am_clr, and_self, true_and, and_true, true_or, or_true, List.length_cons, List.length_nil] <;> omega) ?_
      try simp (disch := omega) only [s124 hw, r124_14 hw, s126 hw, am_b0, Int.reduceToNat, am_addE, am_subE, am_mulE, am_laddE, am_lsubE, am_upO, am_upS, am_stS, am_stO, am_tnn, am_brl, am_brg, am_bre, am_brn, am_brG, am_brL, am_st1, am_no2, am_st2, am_clr]
      refine am_wp_ret rfl rfl ?_
      exact h0 (by omega) _ q1
    · refine am_wp_go rfl (by simp (disch := omega) only [s124 hw, r124_14 hw, s126 hw, am_b0, Int.reduceToNat, am_addE, am_subE, am_mulE, am_laddE, am_lsubE, am_upO, am_upS, am_stS, am_stO, am_tnn, am_brl, am_brg, am_bre, am_brn, am_brG, am_brL, am_st1, am_no2, am_st2, am_clr, and_self, true_and, and_true, true_or, or_true, List.length_cons, List.length_nil] <;> omega) ?_
      try simp (disch := omega) only [s124 hw, r124_14 hw, s126 hw, am_b0, Int.reduceToNat, am_addE, am_subE, am_mulE, am_laddE, am_lsubE, am_upO, am_upS, am_stS, am_stO, am_tnn, am_brl, am_brg, am_bre, am_brn, am_brG, am_brL, am_st1, am_no2, am_st2, am_clr]
      refine am_wp_cc rfl rfl rfl (trivial) (w_M_isIn ⟨_, rfl, ?_⟩)
      refine am_wp_go rfl (by simp (disch := omega) only [s124 hw, r124_14 hw, s126 hw, am_b0, Int.reduceToNat, am_addE, am_subE, am_mulE, am_laddE, am_lsubE, am_upO, am_upS, am_stS, am_stO, am_tnn, am_brl, am_brg, am_bre, am_brn, am_brG, am_brL, am_st1, am_no2, am_st2, am_clr, and_self, true_and, and_true, true_or, or_true, List.length_cons, List.length_nil] <;> omega) ?_
      try simp (disch := omega) only [s124 hw, r124_14 hw, s126 hw, am_b0, Int.reduceToNat, am_addE, am_subE, am_mulE, am_laddE, am_lsubE, am_upO, am_upS, am_stS, am_stO, am_tnn, am_brl, am_brg, am_bre, am_brn, am_brG, am_brL, am_st1, am_no2, am_st2, am_clr]
      refine am_wp_br (fun b34 => ?_) (fun b34 => ?_)
      · refine am_wp_go rfl (by simp (disch := omega) only [s124 hw, r124_14 hw, s126 hw, am_b0, Int.reduceToNat, am_addE, am_subE, am_mulE, am_laddE, am_lsubE, am_upO, am_upS, am_stS, am_stO, am_tnn, am_brl, am_brg, am_bre, am_brn, am_brG, am_brL, am_st1, am_no2, am_st2, am_clr, and_self, true_and, and_true, true_or, or_true, List.length_cons, List.length_nil] <;> omega) ?_
        try simp (disch := omega) only [s124 hw, r124_14 hw, s126 hw, am_b0, Int.reduceToNat, am_addE, am_subE, am_mulE, am_laddE, am_lsubE, am_upO, am_upS, am_stS, am_stO, am_tnn, am_brl, am_brg, am_bre, am_brn, am_brG, am_brL, am_st1, am_no2, am_st2, am_clr]
        refine am_wp_ret rfl rfl ?_
        exact h0 (by omega) _ q1
      · refine am_wp_go rfl (by simp (disch := omega) only [s124 hw, r124_14 hw, s126 hw, am_b0, Int.reduceToNat, am_addE, am_subE, am_mulE, am_laddE, am_lsubE, am_upO, am_upS, am_stS, am_stO, am_tnn, am_brl, am_brg, am_bre, am_brn, am_brG, am_brL, am_st1, am_no2, am_st2, am_clr, and_self, true_and, and_true, true_or, or_true, List.length_cons, List.length_nil] <;> omega) ?_
        try simp (disch := omega) only [s124 hw, r124_14 hw, s126 hw, am_b0, Int.reduceToNat, am_addE, am_subE, am_mulE, am_laddE, am_lsubE, am_upO, am_upS, am_stS, am_stO, am_tnn, am_brl, am_brg, am_bre, am_brn, am_brG, am_brL, am_st1, am_no2, am_st2, am_clr]
        refine am_wp_cc rfl rfl rfl (trivial) (w_M_isIn ⟨_, rfl, ?_⟩)
        refine am_wp_go rfl (by simp (disch := omega) only [s124 hw, r124_14 hw, s126 hw, am_b0, Int.reduceToNat, am_addE, am_subE, am_mulE, am_laddE, am_lsubE, am_upO, am_upS, am_stS, am_stO, am_tnn, am_brl, am_brg, am_bre, am_brn, am_brG, am_brL, am_st1, am_no2, am_st2, am_clr, and_self, true_and, and_true, true_or, or_true, List.length_cons, List.length_nil] <;> omega) ?_
        try simp (disch := omega) only [s124 hw, r124_14 hw, s126 hw, am_b0, Int.reduceToNat, am_addE, am_subE, am_mulE, am_laddE, am_lsubE, am_upO, am_upS, am_stS, am_stO, am_tnn, am_brl, am_brg, am_bre, am_brn, am_brG, am_brL, am_st1, am_no2, am_st2, am_clr]
        refine am_wp_br (fun b51 => ?_) (fun b51 => ?_)
        · refine am_wp_go rfl (by simp (disch := omega) only [s124 hw, r124_14 hw, s126 hw, am_b0, Int.reduceToNat, am_addE, am_subE, am_mulE, am_laddE, am_lsubE, am_upO, am_upS, am_stS, am_stO, am_tnn, am_brl, am_brg, am_bre, am_brn, am_brG, am_brL, am_st1, am_no2, am_st2, am_clr, and_self, true_and, and_true, true_or, or_true, List.length_cons, List.length_nil] <;> omega) ?_
          try simp (disch := omega) only [s124 hw, r124_14 hw, s126 hw, am_b0, Int.reduceToNat, am_addE, am_subE, am_mulE, am_laddE, am_lsubE, am_upO, am_upS, am_stS, am_stO, am_tnn, am_brl, am_brg, am_bre, am_brn, am_brG, am_brL, am_st1, am_no2, am_st2, am_clr]
          refine am_wp_ret rfl rfl ?_
          exact h0 (by omega) _ q1
        · refine am_wp_go rfl (by simp (disch := omega) only [s124 hw, r124_14 hw, s126 hw, am_b0, Int.reduceToNat, am_addE, am_subE, am_mulE, am_laddE, am_lsubE, am_upO, am_upS, am_stS, am_stO, am_tnn, am_brl, am_brg, am_bre, am_brn, am_brG, am_brL, am_st1, am_no2, am_st2, am_clr, and_self, true_and, and_true, true_or, or_true, List.length_cons, List.length_nil] <;> omega) ?_
          try simp (disch := omega) only [s124 hw, r124_14 hw, s126 hw, am_b0, Int.reduceToNat, am_addE, am_subE, am_mulE, am_laddE, am_lsubE, am_upO, am_upS, am_stS, am_stO, am_tnn, am_brl, am_brg, am_bre, am_brn, am_brG, am_brL, am_st1, am_no2, am_st2, am_clr]
          refine am_wp_cc rfl rfl rfl (trivial) (w_M_isIn ⟨_, rfl, ?_⟩)
          refine am_wp_go rfl (by simp (disch := omega) only [s124 hw, r124_14 hw, s126 hw, am_b0, Int.reduceToNat, am_addE, am_subE, am_mulE, am_laddE, am_lsubE, am_upO, am_upS, am_stS, am_stO, am_tnn, am_brl, am_brg, am_bre, am_brn, am_brG, am_brL, am_st1, am_no2, am_st2, am_clr, and_self, true_and, and_true, true_or, or_true, List.length_cons, List.length_nil] <;> omega) ?_
          try simp (disch := omega) only [s124 hw, r124_14 hw, s126 hw, am_b0, Int.reduceToNat, am_addE, am_subE, am_mulE, am_laddE, am_lsubE, am_upO, am_upS, am_stS, am_stO, am_tnn, am_brl, am_brg, am_bre, am_brn, am_brG, am_brL, am_st1, am_no2, am_st2, am_clr]
          refine am_wp_br (fun b63 => ?_) (fun b63 => ?_)
          · refine am_wp_go rfl (by simp (disch := omega) only [s124 hw, r124_14 hw, s126 hw, am_b0, Int.reduceToNat, am_addE, am_subE, am_mulE, am_laddE, am_lsubE, am_upO, am_upS, am_stS, am_stO, am_tnn, am_brl, am_brg, am_bre, am_brn, am_brG, am_brL, am_st1, am_no2, am_st2, am_clr, and_self, true_and, and_true, true_or, or_true, List.length_cons, List.length_nil] <;> omega) ?_
            try simp (disch := omega) only [s124 hw, r124_14 hw, s126 hw, am_b0, Int.reduceToNat, am_addE, am_subE, am_mulE, am_laddE, am_lsubE, am_upO, am_upS, am_stS, am_stO, am_tnn, am_brl, am_brg, am_bre, am_brn, am_brG, am_brL, am_st1, am_no2, am_st2, am_clr]
            refine am_wp_ret rfl rfl ?_
            exact h0 (by omega) _ q1
          · refine am_wp_go rfl (by simp (disch := omega) only [s124 hw, r124_14 hw, s126 hw, am_b0, Int.reduceToNat, am_addE, am_subE, am_mulE, am_laddE, am_lsubE, am_upO, am_upS, am_stS, am_stO, am_tnn, am_brl, am_brg, am_bre, am_brn, am_brG, am_brL, am_st1, am_no2, am_st2, am_clr, and_self, true_and, and_true, true_or, or_true, List.length_cons, List.length_nil] <;> omega) ?_
            try simp (disch := omega) only [s124 hw, r124_14 hw, s126 hw, am_b0, Int.reduceToNat, am_addE, am_subE, am_mulE, am_laddE, am_lsubE, am_upO, am_upS, am_stS, am_stO, am_tnn, am_brl, am_brg, am_bre, am_brn, am_brG, am_brL, am_st1, am_no2, am_st2, am_clr]
            refine am_wp_cc rfl rfl rfl (congrArg Prod.fst (s124 hw)) (w_M_goesG hw hr ⟨_, rfl, ?_⟩)
            refine am_wp_go rfl (by simp (disch := omega) only [s124 hw, r124_14 hw, s126 hw, am_b0, Int.reduceToNat, am_addE, am_subE, am_mulE, am_laddE, am_lsubE, am_upO, am_upS, am_stS, am_stO, am_tnn, am_brl, am_brg, am_bre, am_brn, am_brG, am_brL, am_st1, am_no2, am_st2, am_clr, and_self, true_and, and_true, true_or, or_true, List.length_cons, List.length_nil] <;> omega) ?_
            try simp (disch := omega) only [s124 hw, r124_14 hw, s126 hw, am_b0, Int.reduceToNat, am_addE, am_subE, am_mulE, am_laddE, am_lsubE, am_upO, am_upS, am_stS, am_stO, am_tnn, am_brl, am_brg, am_bre, am_brn, am_brG, am_brL, am_st1, am_no2, am_st2, am_clr]
            refine am_wp_br (fun b73 => ?_) (fun b73 => ?_)
            · refine am_wp_go rfl (by simp (disch := omega) only [s124 hw, r124_14 hw, s126 hw, am_b0, Int.reduceToNat, am_addE, am_subE, am_mulE, am_laddE, am_lsubE, am_upO, am_upS, am_stS, am_stO, am_tnn, am_brl, am_brg, am_bre, am_brn, am_brG, am_brL, am_st1, am_no2, am_st2, am_clr, and_self, true_and, and_true, true_or, or_true, List.length_cons, List.length_nil] <;> omega) ?_
              try simp (disch := omega) only [s124 hw, r124_14 hw, s126 hw, am_b0, Int.reduceToNat, am_addE, am_subE, am_mulE, am_laddE, am_lsubE, am_upO, am_upS, am_stS, am_stO, am_tnn, am_brl, am_brg, am_bre, am_brn, am_brG, am_brL, am_st1, am_no2, am_st2, am_clr]
              refine am_wp_cc rfl rfl rfl (congrArg Prod.fst (s124 hw)) (w_M_snap hw hr g4 hH hG hh (fun K k1 k2 k3 => ⟨_, rfl, ?_⟩))
              refine am_wp_go rfl (by simp (disch := omega) only [s124 hw, r124_14 hw, s126 hw, am_b0, Int.reduceToNat, am_addE, am_subE, am_mulE, am_laddE, am_lsubE, am_upO, am_upS, am_stS, am_stO, am_tnn, am_brl, am_brg, am_bre, am_brn, am_brG, am_brL, am_st1, am_no2, am_st2, am_clr, and_self, true_and, and_true, true_or, or_true, List.length_cons, List.length_nil] <;> omega) ?_
              try simp (disch := omega) only [s124 hw, r124_14 hw, s126 hw, am_b0, Int.reduceToNat, am_addE, am_subE, am_mulE, am_laddE, am_lsubE, am_upO, am_upS, am_stS, am_stO, am_tnn, am_brl, am_brg, am_bre, am_brn, am_brG, am_brL, am_st1, am_no2, am_st2, am_clr]
              have e : K 126 = J 126 := k1 126 (by decide) (by decide)
              refine am_wp_cc rfl rfl rfl (congrArg Prod.fst (s124 hw)) (w_M_lays (g := (s, u, b, l, n)) hw (by rw [e]; exact hr) (by omega) rfl rfl rfl rfl rfl (fun L l1 l2 l3 => ⟨_, rfl, ?_⟩))
              refine am_wp_go rfl (by simp (disch := omega) only [s124 hw, r124_14 hw, s126 hw, am_b0, Int.reduceToNat, am_addE, am_subE, am_mulE, am_laddE, am_lsubE, am_upO, am_upS, am_stS, am_stO, am_tnn, am_brl, am_brg, am_bre, am_brn, am_brG, am_brL, am_st1, am_no2, am_st2, am_clr, and_self, true_and, and_true, true_or, or_true, List.length_cons, List.length_nil] <;> omega) ?_
              try simp (disch := omega) only [s124 hw, r124_14 hw, s126 hw, am_b0, Int.reduceToNat, am_addE, am_subE, am_mulE, am_laddE, am_lsubE, am_upO, am_upS, am_stS, am_stO, am_tnn, am_brl, am_brg, am_bre, am_brn, am_brG, am_brL, am_st1, am_no2, am_st2, am_clr]
              refine am_wp_cc rfl rfl rfl (congrArg Prod.fst (s124 hw)) (w_M_goesG hw l3 ⟨_, rfl, ?_⟩)
              refine am_wp_go rfl (by simp (disch := omega) only [s124 hw, r124_14 hw, s126 hw, am_b0, Int.reduceToNat, am_addE, am_subE, am_mulE, am_laddE, am_lsubE, am_upO, am_upS, am_stS, am_stO, am_tnn, am_brl, am_brg, am_bre, am_brn, am_brG, am_brL, am_st1, am_no2, am_st2, am_clr, and_self, true_and, and_true, true_or, or_true, List.length_cons, List.length_nil] <;> omega) ?_
              try simp (disch := omega) only [s124 hw, r124_14 hw, s126 hw, am_b0, Int.reduceToNat, am_addE, am_subE, am_mulE, am_laddE, am_lsubE, am_upO, am_upS, am_stS, am_stO, am_tnn, am_brl, am_brg, am_bre, am_brn, am_brG, am_brL, am_st1, am_no2, am_st2, am_clr]
              refine am_wp_ret rfl rfl ?_
              have hq : rqp I L := rqp_of q1 j3 j4 (fun a ha => by rw [l1 a (by omega), k1 a (by omega) (by omega)]) (fun j h2 _ _ _ => by rw [l1 124 (by decide), k2 j h2]) (fun j hj => by rw [l2 j hj, e])
              have h := h1 (by omega) L hq l3 (hsR_fr k3 (by rw [l1 124 (by decide)]) (l1 129 (by decide)))
              rw [List.length_append, List.length_singleton, am_subE (by omega), show (((G.length + 1 : Nat)) : Int) - 1 = G.length by omega]
              exact h
            · refine am_wp_go rfl (by simp (disch := omega) only [s124 hw, r124_14 hw, s126 hw, am_b0, Int.reduceToNat, am_addE, am_subE, am_mulE, am_laddE, am_lsubE, am_upO, am_upS, am_stS, am_stO, am_tnn, am_brl, am_brg, am_bre, am_brn, am_brG, am_brL, am_st1, am_no2, am_st2, am_clr, and_self, true_and, and_true, true_or, or_true, List.length_cons, List.length_nil] <;> omega) ?_
              try simp (disch := omega) only [s124 hw, r124_14 hw, s126 hw, am_b0, Int.reduceToNat, am_addE, am_subE, am_mulE, am_laddE, am_lsubE, am_upO, am_upS, am_stS, am_stO, am_tnn, am_brl, am_brg, am_bre, am_brn, am_brG, am_brL, am_st1, am_no2, am_st2, am_clr]
              refine am_wp_ret rfl rfl ?_
              exact h0 (by omega) _ q1
theorem c_drop {k : Int} (hw : wd sh R) (hp : pl I 14 G) (hh : hsC I H) (h0 : ¬ (0 ≤ k ∧ k < G.length) → Q (am_yi 0) (m, sl, sh, I, R)) (h1 : 0 ≤ k ∧ k < G.length → ∀ J, cqp I J → pl J 14 (G.eraseIdx k.toNat) → hsC J (hpush H G) → Q (am_yi 1) (m, sl, sh, J, R)) : am_wp (d + 3) 166 0 [some (.inr (.inr (4))), some (.inl (k))] [] (m, sl, sh, I, R) Q := by
  refine am_wp_go rfl (by simp (disch := omega) only [s4 hw, r4_0 hw, s5 hw, r5_1 hw, r4_2 hw, am_b0, am_bn0, am_addE, am_subE, am_mulE, am_laddE, am_lsubE, am_upO, am_upS, am_stS, am_stO, am_tnn, am_brl, am_brg, am_bre, am_brn, am_brG, am_brL, am_st1, am_no2, am_st2, am_clr, and_self, true_and, and_true, true_or, or_true, List.length_cons, List.length_nil] <;> omega) ?_
  try simp (disch := omega) only [s4 hw, r4_0 hw, s5 hw, r5_1 hw, r4_2 hw, am_b0, am_bn0, am_addE, am_subE, am_mulE, am_laddE, am_lsubE, am_upO, am_upS, am_stS, am_stO, am_tnn, am_brl, am_brg, am_bre, am_brn, am_brG, am_brL, am_st1, am_no2, am_st2, am_clr]
  refine am_wp_cc rfl rfl rfl (congrArg Prod.fst (s14 hw)) (w_plhas (pl_w hw (by decide)) hp ⟨_, rfl, ?_⟩)
  refine am_wp_go rfl (by simp (disch := omega) only [s4 hw, r4_0 hw, s5 hw, r5_1 hw, r4_2 hw, am_b0, am_bn0, am_addE, am_subE, am_mulE, am_laddE, am_lsubE, am_upO, am_upS, am_stS, am_stO, am_tnn, am_brl, am_brg, am_bre, am_brn, am_brG, am_brL, am_st1, am_no2, am_st2, am_clr, and_self, true_and, and_true, true_or, or_true, List.length_cons, List.length_nil] <;> omega) ?_
  try simp (disch := omega) only [s4 hw, r4_0 hw, s5 hw, r5_1 hw, r4_2 hw, am_b0, am_bn0, am_addE, am_subE, am_mulE, am_laddE, am_lsubE, am_upO, am_upS, am_stS, am_stO, am_tnn, am_brl, am_brg, am_bre, am_brn, am_brG, am_brL, am_st1, am_no2, am_st2, am_clr]
  refine am_wp_br (fun b11 => ?_) (fun b11 => ?_)
  · obtain ⟨j, rfl⟩ : ∃ j : Nat, k = (j : Int) := ⟨k.toNat, by omega⟩
    rw [am_tnn] at h1
    refine am_wp_go rfl (by simp (disch := omega) only [s4 hw, r4_0 hw, s5 hw, r5_1 hw, r4_2 hw, am_b0, am_bn0, am_addE, am_subE, am_mulE, am_laddE, am_lsubE, am_upO, am_upS, am_stS, am_stO, am_tnn, am_brl, am_brg, am_bre, am_brn, am_brG, am_brL, am_st1, am_no2, am_st2, am_clr, and_self, true_and, and_true, true_or, or_true, List.length_cons, List.length_nil] <;> omega) ?_
    try simp (disch := omega) only [s4 hw, r4_0 hw, s5 hw, r5_1 hw, r4_2 hw, am_b0, am_bn0, am_addE, am_subE, am_mulE, am_laddE, am_lsubE, am_upO, am_upS, am_stS, am_stO, am_tnn, am_brl, am_brg, am_bre, am_brn, am_brG, am_brL, am_st1, am_no2, am_st2, am_clr]
    refine am_wp_cc rfl rfl rfl (congrArg Prod.fst (s22 hw)) (w_keep hw (pl_w hw (by decide)) (by decide) (by decide) hp hh (fun J j1 j2 => ⟨_, rfl, ?_⟩))
    refine am_wp_go rfl (by simp (disch := omega) only [s4 hw, r4_0 hw, s5 hw, r5_1 hw, r4_2 hw, am_b0, am_bn0, am_addE, am_subE, am_mulE, am_laddE, am_lsubE, am_upO, am_upS, am_stS, am_stO, am_tnn, am_brl, am_brg, am_bre, am_brn, am_brG, am_brL, am_st1, am_no2, am_st2, am_clr, and_self, true_and, and_true, true_or, or_true, List.length_cons, List.length_nil] <;> omega) ?_
    try simp (disch := omega) only [s4 hw, r4_0 hw, s5 hw, r5_1 hw, r4_2 hw, am_b0, am_bn0, am_addE, am_subE, am_mulE, am_laddE, am_lsubE, am_upO, am_upS, am_stS, am_stO, am_tnn, am_brl, am_brg, am_bre, am_brn, am_brG, am_brL, am_st1, am_no2, am_st2, am_clr]
    refine am_wp_cc rfl rfl rfl (congrArg Prod.fst (s14 hw)) (w_takeOut (pl_w hw (by decide)) (pl_fr hp (j1 14 (by omega)) (j1 15 (by omega))) (by omega) (fun K g1 g2 => ⟨_, rfl, ?_⟩))
    refine am_wp_go rfl (by simp (disch := omega) only [s4 hw, r4_0 hw, s5 hw, r5_1 hw, r4_2 hw, am_b0, am_bn0, am_addE, am_subE, am_mulE, am_laddE, am_lsubE, am_upO, am_upS, am_stS, am_stO, am_tnn, am_brl, am_brg, am_bre, am_brn, am_brG, am_brL, am_st1, am_no2, am_st2, am_clr, and_self, true_and, and_true, true_or, or_true, List.length_cons, List.length_nil] <;> omega) ?_
    try simp (disch := omega) only [s4 hw, r4_0 hw, s5 hw, r5_1 hw, r4_2 hw, am_b0, am_bn0, am_addE, am_subE, am_mulE, am_laddE, am_lsubE, am_upO, am_upS, am_stS, am_stO, am_tnn, am_brl, am_brg, am_bre, am_brn, am_brG, am_brL, am_st1, am_no2, am_st2, am_clr]
    refine am_wp_ret rfl rfl ?_
    exact h1 b11 K (cqp_of (fun a ha => by rw [g1 a (by omega) (by omega), j1 a (by omega)])) g2 (hsC_fr j2 (fun a ha => g1 a (by omega) (by omega)))
  · refine am_wp_go rfl (by simp (disch := omega) only [s4 hw, r4_0 hw, s5 hw, r5_1 hw, r4_2 hw, am_b0, am_bn0, am_addE, am_subE, am_mulE, am_laddE, am_lsubE, am_upO, am_upS, am_stS, am_stO, am_tnn, am_brl, am_brg, am_bre, am_brn, am_brG, am_brL, am_st1, am_no2, am_st2, am_clr, and_self, true_and, and_true, true_or, or_true, List.length_cons, List.length_nil] <;> omega) ?_
    try simp (disch := omega) only [s4 hw, r4_0 hw, s5 hw, r5_1 hw, r4_2 hw, am_b0, am_bn0, am_addE, am_subE, am_mulE, am_laddE, am_lsubE, am_upO, am_upS, am_stS, am_stO, am_tnn, am_brl, am_brg, am_bre, am_brn, am_brG, am_brL, am_st1, am_no2, am_st2, am_clr]
    refine am_wp_ret rfl rfl ?_
    exact h0 b11
theorem am_lcmpL {a b : Int} : (am_lcmp a b < 0) = (a < b) := by
  unfold am_lcmp
  split
  · simp_all
  · split <;> simp_all
theorem am_lcmpG {a b : Int} : (am_lcmp a b ≤ 0) = (a ≤ b) := by
  unfold am_lcmp
  split
  · simp; omega
  · split <;> simp <;> omega
theorem am_l2iE {a : Int} (h : -2147483648 ≤ a ∧ a ≤ 2147483647) : am_i a = a := am_i_eq ⟨h.1, by omega⟩
def latOk (G : List Go) (k by_ : Int) : Prop := 0 ≤ k ∧ k < G.length ∧ by_ ≠ 0 ∧ 0 ≤ gB G k.toNat + by_ ∧ gB G k.toNat + by_ ≤ 900
def latG (G : List Go) (k : Nat) (y : Int) : List Go := G.set k (gS G k, gU G k, gB G k + y, gL G k, gN G k)
theorem c_later {k y : Int} (hy : -2147483648 ≤ y ∧ y ≤ 2147483647) (hw : wd sh R) (hp : pl I 14 G) (hh : hsC I H) (h0 : ¬ latOk G k y → Q (am_yi 0) (m, sl, sh, I, R)) (h1 : latOk G k y → ∀ J, cqp I J → pl J 14 (latG G k.toNat y) → hsC J (hpush H G) → Q (am_yi 1) (m, sl, sh, J, R)) : am_wp (d + 3) 167 0 [some (.inr (.inr (4))), some (.inl (k)), some (.inl (y)), none, none] [] (m, sl, sh, I, R) Q := by
  unfold latOk at h0 h1
  refine am_wp_go rfl (by simp (disch := omega) only [s4 hw, r4_0 hw, s5 hw, r5_1 hw, r4_2 hw, am_b0, am_bn0, am_lcmpL, am_lcmpG, am_l2iE, am_addE, am_subE, am_mulE, am_laddE, am_lsubE, am_upO, am_upS, am_stS, am_stO, am_tnn, am_brl, am_brg, am_bre, am_brn, am_brG, am_brL, am_st1, am_no2, am_st2, am_clr, and_self, true_and, and_true, true_or, or_true, List.length_cons, List.length_nil] <;> omega) ?_
  try simp (disch := omega) only [s4 hw, r4_0 hw, s5 hw, r5_1 hw, r4_2 hw, am_b0, am_bn0, am_lcmpL, am_lcmpG, am_l2iE, am_addE, am_subE, am_mulE, am_laddE, am_lsubE, am_upO, am_upS, am_stS, am_stO, am_tnn, am_brl, am_brg, am_bre, am_brn, am_brG, am_brL, am_st1, am_no2, am_st2, am_clr]
  refine am_wp_cc rfl rfl rfl (congrArg Prod.fst (s14 hw)) (w_plhas (pl_w hw (by decide)) hp ⟨_, rfl, ?_⟩)
  refine am_wp_go rfl (by simp (disch := omega) only [s4 hw, r4_0 hw, s5 hw, r5_1 hw, r4_2 hw, am_b0, am_bn0, am_lcmpL, am_lcmpG, am_l2iE, am_addE, am_subE, am_mulE, am_laddE, am_lsubE, am_upO, am_upS, am_stS, am_stO, am_tnn, am_brl, am_brg, am_bre, am_brn, am_brG, am_brL, am_st1, am_no2, am_st2, am_clr, and_self, true_and, and_true, true_or, or_true, List.length_cons, List.length_nil] <;> omega) ?_
  try simp (disch := omega) only [s4 hw, r4_0 hw, s5 hw, r5_1 hw, r4_2 hw, am_b0, am_bn0, am_lcmpL, am_lcmpG, am_l2iE, am_addE, am_subE, am_mulE, am_laddE, am_lsubE, am_upO, am_upS, am_stS, am_stO, am_tnn, am_brl, am_brg, am_bre, am_brn, am_brG, am_brL, am_st1, am_no2, am_st2, am_clr]
  refine am_wp_br (fun b11 => ?_) (fun b11 => ?_)
  · refine am_wp_go rfl (by simp (disch := omega) only [s4 hw, r4_0 hw, s5 hw, r5_1 hw, r4_2 hw, am_b0, am_bn0, am_lcmpL, am_lcmpG, am_l2iE, am_addE, am_subE, am_mulE, am_laddE, am_lsubE, am_upO, am_upS, am_stS, am_stO, am_tnn, am_brl, am_brg, am_bre, am_brn, am_brG, am_brL, am_st1, am_no2, am_st2, am_clr, and_self, true_and, and_true, true_or, or_true, List.length_cons, List.length_nil] <;> omega) ?_
    try simp (disch := omega) only [s4 hw, r4_0 hw, s5 hw, r5_1 hw, r4_2 hw, am_b0, am_bn0, am_lcmpL, am_lcmpG, am_l2iE, am_addE, am_subE, am_mulE, am_laddE, am_lsubE, am_upO, am_upS, am_stS, am_stO, am_tnn, am_brl, am_brg, am_bre, am_brn, am_brG, am_brL, am_st1, am_no2, am_st2, am_clr]
    refine am_wp_ret rfl rfl ?_
    exact h0 (by omega)
  · obtain ⟨j, rfl⟩ : ∃ j : Nat, k = (j : Int) := ⟨k.toNat, by omega⟩
    rw [am_tnn] at h0 h1
    have hg := (pl_gok hp).2 j (by omega)
    refine am_wp_go rfl (by simp (disch := omega) only [s4 hw, r4_0 hw, s5 hw, r5_1 hw, r4_2 hw, am_b0, am_bn0, am_lcmpL, am_lcmpG, am_l2iE, am_addE, am_subE, am_mulE, am_laddE, am_lsubE, am_upO, am_upS, am_stS, am_stO, am_tnn, am_brl, am_brg, am_bre, am_brn, am_brG, am_brL, am_st1, am_no2, am_st2, am_clr, and_self, true_and, and_true, true_or, or_true, List.length_cons, List.length_nil] <;> omega) ?_
    try simp (disch := omega) only [s4 hw, r4_0 hw, s5 hw, r5_1 hw, r4_2 hw, am_b0, am_bn0, am_lcmpL, am_lcmpG, am_l2iE, am_addE, am_subE, am_mulE, am_laddE, am_lsubE, am_upO, am_upS, am_stS, am_stO, am_tnn, am_brl, am_brg, am_bre, am_brn, am_brG, am_brL, am_st1, am_no2, am_st2, am_clr]
    refine am_wp_br (fun b15 => ?_) (fun b15 => ?_)
    · refine am_wp_go rfl (by simp (disch := omega) only [s4 hw, r4_0 hw, s5 hw, r5_1 hw, r4_2 hw, am_b0, am_bn0, am_lcmpL, am_lcmpG, am_l2iE, am_addE, am_subE, am_mulE, am_laddE, am_lsubE, am_upO, am_upS, am_stS, am_stO, am_tnn, am_brl, am_brg, am_bre, am_brn, am_brG, am_brL, am_st1, am_no2, am_st2, am_clr, and_self, true_and, and_true, true_or, or_true, List.length_cons, List.length_nil] <;> omega) ?_
      try simp (disch := omega) only [s4 hw, r4_0 hw, s5 hw, r5_1 hw, r4_2 hw, am_b0, am_bn0, am_lcmpL, am_lcmpG, am_l2iE, am_addE, am_subE, am_mulE, am_laddE, am_lsubE, am_upO, am_upS, am_stS, am_stO, am_tnn, am_brl, am_brg, am_bre, am_brn, am_brG, am_brL, am_st1, am_no2, am_st2, am_clr]
      refine am_wp_cc rfl rfl rfl (congrArg Prod.fst (s14 hw)) (w_beginOf (pl_w hw (by decide)) hp (by omega) ⟨_, rfl, ?_⟩)
      refine am_wp_go rfl (by simp (disch := omega) only [s4 hw, r4_0 hw, s5 hw, r5_1 hw, r4_2 hw, am_b0, am_bn0, am_lcmpL, am_lcmpG, am_l2iE, am_addE, am_subE, am_mulE, am_laddE, am_lsubE, am_upO, am_upS, am_stS, am_stO, am_tnn, am_brl, am_brg, am_bre, am_brn, am_brG, am_brL, am_st1, am_no2, am_st2, am_clr, and_self, true_and, and_true, true_or, or_true, List.length_cons, List.length_nil] <;> omega) ?_
      try simp (disch := omega) only [s4 hw, r4_0 hw, s5 hw, r5_1 hw, r4_2 hw, am_b0, am_bn0, am_lcmpL, am_lcmpG, am_l2iE, am_addE, am_subE, am_mulE, am_laddE, am_lsubE, am_upO, am_upS, am_stS, am_stO, am_tnn, am_brl, am_brg, am_bre, am_brn, am_brG, am_brL, am_st1, am_no2, am_st2, am_clr]
      refine am_wp_br (fun b39 => ?_) (fun b39 => ?_)
      · refine am_wp_go rfl (by simp (disch := omega) only [s4 hw, r4_0 hw, s5 hw, r5_1 hw, r4_2 hw, am_b0, am_bn0, am_lcmpL, am_lcmpG, am_l2iE, am_addE, am_subE, am_mulE, am_laddE, am_lsubE, am_upO, am_upS, am_stS, am_stO, am_tnn, am_brl, am_brg, am_bre, am_brn, am_brG, am_brL, am_st1, am_no2, am_st2, am_clr, and_self, true_and, and_true, true_or, or_true, List.length_cons, List.length_nil] <;> omega) ?_
        try simp (disch := omega) only [s4 hw, r4_0 hw, s5 hw, r5_1 hw, r4_2 hw, am_b0, am_bn0, am_lcmpL, am_lcmpG, am_l2iE, am_addE, am_subE, am_mulE, am_laddE, am_lsubE, am_upO, am_upS, am_stS, am_stO, am_tnn, am_brl, am_brg, am_bre, am_brn, am_brG, am_brL, am_st1, am_no2, am_st2, am_clr]
        refine am_wp_ret rfl rfl ?_
        exact h0 (by omega)
      · refine am_wp_go rfl (by simp (disch := omega) only [s4 hw, r4_0 hw, s5 hw, r5_1 hw, r4_2 hw, am_b0, am_bn0, am_lcmpL, am_lcmpG, am_l2iE, am_addE, am_subE, am_mulE, am_laddE, am_lsubE, am_upO, am_upS, am_stS, am_stO, am_tnn, am_brl, am_brg, am_bre, am_brn, am_brG, am_brL, am_st1, am_no2, am_st2, am_clr, and_self, true_and, and_true, true_or, or_true, List.length_cons, List.length_nil] <;> omega) ?_
        try simp (disch := omega) only [s4 hw, r4_0 hw, s5 hw, r5_1 hw, r4_2 hw, am_b0, am_bn0, am_lcmpL, am_lcmpG, am_l2iE, am_addE, am_subE, am_mulE, am_laddE, am_lsubE, am_upO, am_upS, am_stS, am_stO, am_tnn, am_brl, am_brg, am_bre, am_brn, am_brG, am_brL, am_st1, am_no2, am_st2, am_clr]
        refine am_wp_br (fun b47 => ?_) (fun b47 => ?_)
        · refine am_wp_go rfl (by simp (disch := omega) only [s4 hw, r4_0 hw, s5 hw, r5_1 hw, r4_2 hw, am_b0, am_bn0, am_lcmpL, am_lcmpG, am_l2iE, am_addE, am_subE, am_mulE, am_laddE, am_lsubE, am_upO, am_upS, am_stS, am_stO, am_tnn, am_brl, am_brg, am_bre, am_brn, am_brG, am_brL, am_st1, am_no2, am_st2, am_clr, and_self, true_and, and_true, true_or, or_true, List.length_cons, List.length_nil] <;> omega) ?_
          try simp (disch := omega) only [s4 hw, r4_0 hw, s5 hw, r5_1 hw, r4_2 hw, am_b0, am_bn0, am_lcmpL, am_lcmpG, am_l2iE, am_addE, am_subE, am_mulE, am_laddE, am_lsubE, am_upO, am_upS, am_stS, am_stO, am_tnn, am_brl, am_brg, am_bre, am_brn, am_brG, am_brL, am_st1, am_no2, am_st2, am_clr]
          refine am_wp_cc rfl rfl rfl (congrArg Prod.fst (s22 hw)) (w_keep hw (pl_w hw (by decide)) (by decide) (by decide) hp hh (fun J j1 j2 => ⟨_, rfl, ?_⟩))
          refine am_wp_go rfl (by simp (disch := omega) only [s4 hw, r4_0 hw, s5 hw, r5_1 hw, r4_2 hw, am_b0, am_bn0, am_lcmpL, am_lcmpG, am_l2iE, am_addE, am_subE, am_mulE, am_laddE, am_lsubE, am_upO, am_upS, am_stS, am_stO, am_tnn, am_brl, am_brg, am_bre, am_brn, am_brG, am_brL, am_st1, am_no2, am_st2, am_clr, and_self, true_and, and_true, true_or, or_true, List.length_cons, List.length_nil] <;> omega) ?_
          try simp (disch := omega) only [s4 hw, r4_0 hw, s5 hw, r5_1 hw, r4_2 hw, am_b0, am_bn0, am_lcmpL, am_lcmpG, am_l2iE, am_addE, am_subE, am_mulE, am_laddE, am_lsubE, am_upO, am_upS, am_stS, am_stO, am_tnn, am_brl, am_brg, am_bre, am_brn, am_brG, am_brL, am_st1, am_no2, am_st2, am_clr]
          refine am_wp_cc rfl rfl rfl (congrArg Prod.fst (s14 hw)) (w_moveTo (pl_w hw (by decide)) (pl_fr hp (j1 14 (by omega)) (j1 15 (by omega))) (by omega) (by omega) (fun K g1 g2 => ⟨_, rfl, ?_⟩))
          refine am_wp_go rfl (by simp (disch := omega) only [s4 hw, r4_0 hw, s5 hw, r5_1 hw, r4_2 hw, am_b0, am_bn0, am_lcmpL, am_lcmpG, am_l2iE, am_addE, am_subE, am_mulE, am_laddE, am_lsubE, am_upO, am_upS, am_stS, am_stO, am_tnn, am_brl, am_brg, am_bre, am_brn, am_brG, am_brL, am_st1, am_no2, am_st2, am_clr, and_self, true_and, and_true, true_or, or_true, List.length_cons, List.length_nil] <;> omega) ?_
          try simp (disch := omega) only [s4 hw, r4_0 hw, s5 hw, r5_1 hw, r4_2 hw, am_b0, am_bn0, am_lcmpL, am_lcmpG, am_l2iE, am_addE, am_subE, am_mulE, am_laddE, am_lsubE, am_upO, am_upS, am_stS, am_stO, am_tnn, am_brl, am_brg, am_bre, am_brn, am_brG, am_brL, am_st1, am_no2, am_st2, am_clr]
          refine am_wp_ret rfl rfl ?_
          exact h1 (by omega) K (cqp_of (fun a ha => by rw [g1 a (by omega), j1 a (by omega)])) g2 (hsC_fr j2 (fun a ha => g1 a (by omega)))
        · refine am_wp_go rfl (by simp (disch := omega) only [s4 hw, r4_0 hw, s5 hw, r5_1 hw, r4_2 hw, am_b0, am_bn0, am_lcmpL, am_lcmpG, am_l2iE, am_addE, am_subE, am_mulE, am_laddE, am_lsubE, am_upO, am_upS, am_stS, am_stO, am_tnn, am_brl, am_brg, am_bre, am_brn, am_brG, am_brL, am_st1, am_no2, am_st2, am_clr, and_self, true_and, and_true, true_or, or_true, List.length_cons, List.length_nil] <;> omega) ?_
          try simp (disch := omega) only [s4 hw, r4_0 hw, s5 hw, r5_1 hw, r4_2 hw, am_b0, am_bn0, am_lcmpL, am_lcmpG, am_l2iE, am_addE, am_subE, am_mulE, am_laddE, am_lsubE, am_upO, am_upS, am_stS, am_stO, am_tnn, am_brl, am_brg, am_bre, am_brn, am_brG, am_brL, am_st1, am_no2, am_st2, am_clr]
          refine am_wp_ret rfl rfl ?_
          exact h0 (by omega)
    · refine am_wp_go rfl (by simp (disch := omega) only [s4 hw, r4_0 hw, s5 hw, r5_1 hw, r4_2 hw, am_b0, am_bn0, am_lcmpL, am_lcmpG, am_l2iE, am_addE, am_subE, am_mulE, am_laddE, am_lsubE, am_upO, am_upS, am_stS, am_stO, am_tnn, am_brl, am_brg, am_bre, am_brn, am_brG, am_brL, am_st1, am_no2, am_st2, am_clr, and_self, true_and, and_true, true_or, or_true, List.length_cons, List.length_nil] <;> omega) ?_
      try simp (disch := omega) only [s4 hw, r4_0 hw, s5 hw, r5_1 hw, r4_2 hw, am_b0, am_bn0, am_lcmpL, am_lcmpG, am_l2iE, am_addE, am_subE, am_mulE, am_laddE, am_lsubE, am_upO, am_upS, am_stS, am_stO, am_tnn, am_brl, am_brg, am_bre, am_brn, am_brG, am_brL, am_st1, am_no2, am_st2, am_clr]
      refine am_wp_ret rfl rfl ?_
      exact h0 (by omega)
theorem rf_set {T V : Nat → Int} {G : List Go} {j : Nat} {y : Int} (h : rf T G) (hj : j < G.length) (e : V = am_set T (5 * j + 3) (gB G j + y)) : rf V (latG G j y) := by
  subst e
  refine ⟨?_, fun k hk => ?_⟩
  · unfold latG; rw [List.length_set, am_stO (by omega)]; exact h.1
  · unfold latG at hk ⊢
    rw [List.length_set] at hk
    have t := h.2 k hk
    unfold gS gU gB gL gN at t ⊢
    by_cases hkj : k = j
    · subst hkj
      rw [gs_set hj, am_stO (by omega), am_stO (by omega), am_stS rfl, am_stO (by omega), am_stO (by omega)]
      exact ⟨t.1, t.2.1, rfl, t.2.2.2.1, t.2.2.2.2⟩
    · rw [gs_set2 hkj, am_stO (by omega), am_stO (by omega), am_stO (by omega), am_stO (by omega), am_stO (by omega)]
      exact t
theorem r_later {k y : Int} (hw : wd sh R) (hb : beg I) (hr : rf (pw (I 126)) G) (hg : gok G) (hH : H.length ≤ 8) (hG : ∀ j, j < H.length → (H.getD j []).length ≤ 400) (hh : hsR I H) (h0 : ¬ latOk G k y → ∀ J, rq I J → Q (am_yi 0) (m, sl, sh, J, R)) (h1 : latOk G k y → ∀ J, rqp I J → rf (pw (J 126)) (latG G k.toNat y) → hsR J (hpush H G) → Q (am_yi 1) (m, sl, sh, J, R)) : am_wp (d + 2) 284 0 [some (.inr (.inr (124))), some (.inl (k)), some (.inl (y))] [] (m, sl, sh, I, R) Q := by
  unfold latOk at h0 h1
  have g4 := hg.1
  have q := rq_thrown (I := I) (x := 0)
  have hr1 : rf (pw (am_up I 124 0 0 126)) G := by rw [am_upO (by decide)]; exact hr
  have hh1 := hsR_rq hh q
  refine am_wp_go rfl (by simp (disch := omega) only [s124 hw, r124_14 hw, s126 hw, am_b0, am_bn0, am_addE, am_subE, am_mulE, am_laddE, am_lsubE, am_upO, am_upS, am_stS, am_stO, am_tnn, am_brl, am_brg, am_bre, am_brn, am_brG, am_brL, am_st1, am_no2, am_st2, am_clr, and_self, true_and, and_true, true_or, or_true, List.length_cons, List.length_nil] <;> omega) ?_
  try simp (disch := omega) only [s124 hw, r124_14 hw, s126 hw, am_b0, am_bn0, am_addE, am_subE, am_mulE, am_laddE, am_lsubE, am_upO, am_upS, am_stS, am_stO, am_tnn, am_brl, am_brg, am_bre, am_brn, am_brG, am_brL, am_st1, am_no2, am_st2, am_clr]
  refine am_wp_br (fun b6 => ?_) (fun b6 => ?_)
  · refine am_wp_go rfl (by simp (disch := omega) only [s124 hw, r124_14 hw, s126 hw, am_b0, am_bn0, am_addE, am_subE, am_mulE, am_laddE, am_lsubE, am_upO, am_upS, am_stS, am_stO, am_tnn, am_brl, am_brg, am_bre, am_brn, am_brG, am_brL, am_st1, am_no2, am_st2, am_clr, and_self, true_and, and_true, true_or, or_true, List.length_cons, List.length_nil] <;> omega) ?_
    try simp (disch := omega) only [s124 hw, r124_14 hw, s126 hw, am_b0, am_bn0, am_addE, am_subE, am_mulE, am_laddE, am_lsubE, am_upO, am_upS, am_stS, am_stO, am_tnn, am_brl, am_brg, am_bre, am_brn, am_brG, am_brL, am_st1, am_no2, am_st2, am_clr]
    refine am_wp_ret rfl rfl ?_
    exact h0 (by omega) _ q
  · refine am_wp_go rfl (by simp (disch := omega) only [s124 hw, r124_14 hw, s126 hw, am_b0, am_bn0, am_addE, am_subE, am_mulE, am_laddE, am_lsubE, am_upO, am_upS, am_stS, am_stO, am_tnn, am_brl, am_brg, am_bre, am_brn, am_brG, am_brL, am_st1, am_no2, am_st2, am_clr, and_self, true_and, and_true, true_or, or_true, List.length_cons, List.length_nil] <;> omega) ?_
    try simp (disch := omega) only [s124 hw, r124_14 hw, s126 hw, am_b0, am_bn0, am_addE, am_subE, am_mulE, am_laddE, am_lsubE, am_upO, am_upS, am_stS, am_stO, am_tnn, am_brl, am_brg, am_bre, am_brn, am_brG, am_brL, am_st1, am_no2, am_st2, am_clr]
    refine am_wp_cc rfl rfl rfl (congrArg Prod.fst (s124 hw)) (w_M_goesG hw hr1 ⟨_, rfl, ?_⟩)
    refine am_wp_go rfl (by simp (disch := omega) only [s124 hw, r124_14 hw, s126 hw, am_b0, am_bn0, am_addE, am_subE, am_mulE, am_laddE, am_lsubE, am_upO, am_upS, am_stS, am_stO, am_tnn, am_brl, am_brg, am_bre, am_brn, am_brG, am_brL, am_st1, am_no2, am_st2, am_clr, and_self, true_and, and_true, true_or, or_true, List.length_cons, List.length_nil] <;> omega) ?_
    try simp (disch := omega) only [s124 hw, r124_14 hw, s126 hw, am_b0, am_bn0, am_addE, am_subE, am_mulE, am_laddE, am_lsubE, am_upO, am_upS, am_stS, am_stO, am_tnn, am_brl, am_brg, am_bre, am_brn, am_brG, am_brL, am_st1, am_no2, am_st2, am_clr]
    refine am_wp_br (fun b14 => ?_) (fun b14 => ?_)
    · refine am_wp_go rfl (by simp (disch := omega) only [s124 hw, r124_14 hw, s126 hw, am_b0, am_bn0, am_addE, am_subE, am_mulE, am_laddE, am_lsubE, am_upO, am_upS, am_stS, am_stO, am_tnn, am_brl, am_brg, am_bre, am_brn, am_brG, am_brL, am_st1, am_no2, am_st2, am_clr, and_self, true_and, and_true, true_or, or_true, List.length_cons, List.length_nil] <;> omega) ?_
      try simp (disch := omega) only [s124 hw, r124_14 hw, s126 hw, am_b0, am_bn0, am_addE, am_subE, am_mulE, am_laddE, am_lsubE, am_upO, am_upS, am_stS, am_stO, am_tnn, am_brl, am_brg, am_bre, am_brn, am_brG, am_brL, am_st1, am_no2, am_st2, am_clr]
      refine am_wp_ret rfl rfl ?_
      exact h0 (by omega) _ q
    · obtain ⟨j, rfl⟩ : ∃ j : Nat, k = (j : Int) := ⟨k.toNat, by omega⟩
      rw [am_tnn] at h0 h1
      have hgj := hg.2 j (by omega)
      refine am_wp_go rfl (by simp (disch := omega) only [s124 hw, r124_14 hw, s126 hw, am_b0, am_bn0, am_addE, am_subE, am_mulE, am_laddE, am_lsubE, am_upO, am_upS, am_stS, am_stO, am_tnn, am_brl, am_brg, am_bre, am_brn, am_brG, am_brL, am_st1, am_no2, am_st2, am_clr, and_self, true_and, and_true, true_or, or_true, List.length_cons, List.length_nil] <;> omega) ?_
      try simp (disch := omega) only [s124 hw, r124_14 hw, s126 hw, am_b0, am_bn0, am_addE, am_subE, am_mulE, am_laddE, am_lsubE, am_upO, am_upS, am_stS, am_stO, am_tnn, am_brl, am_brg, am_bre, am_brn, am_brG, am_brL, am_st1, am_no2, am_st2, am_clr]
      refine am_wp_br (fun b18 => ?_) (fun b18 => ?_)
      · refine am_wp_go rfl (by simp (disch := omega) only [s124 hw, r124_14 hw, s126 hw, am_b0, am_bn0, am_addE, am_subE, am_mulE, am_laddE, am_lsubE, am_upO, am_upS, am_stS, am_stO, am_tnn, am_brl, am_brg, am_bre, am_brn, am_brG, am_brL, am_st1, am_no2, am_st2, am_clr, and_self, true_and, and_true, true_or, or_true, List.length_cons, List.length_nil] <;> omega) ?_
        try simp (disch := omega) only [s124 hw, r124_14 hw, s126 hw, am_b0, am_bn0, am_addE, am_subE, am_mulE, am_laddE, am_lsubE, am_upO, am_upS, am_stS, am_stO, am_tnn, am_brl, am_brg, am_bre, am_brn, am_brG, am_brL, am_st1, am_no2, am_st2, am_clr]
        refine am_wp_ret rfl rfl ?_
        exact h0 (by omega) _ q
      · refine am_wp_go rfl (by simp (disch := omega) only [s124 hw, r124_14 hw, s126 hw, am_b0, am_bn0, am_addE, am_subE, am_mulE, am_laddE, am_lsubE, am_upO, am_upS, am_stS, am_stO, am_tnn, am_brl, am_brg, am_bre, am_brn, am_brG, am_brL, am_st1, am_no2, am_st2, am_clr, and_self, true_and, and_true, true_or, or_true, List.length_cons, List.length_nil] <;> omega) ?_
        try simp (disch := omega) only [s124 hw, r124_14 hw, s126 hw, am_b0, am_bn0, am_addE, am_subE, am_mulE, am_laddE, am_lsubE, am_upO, am_upS, am_stS, am_stO, am_tnn, am_brl, am_brg, am_bre, am_brn, am_brG, am_brL, am_st1, am_no2, am_st2, am_clr]
        refine am_wp_cc rfl rfl rfl (trivial) (w_M_isIn ⟨_, rfl, ?_⟩)
        refine am_wp_go rfl (by simp (disch := omega) only [s124 hw, r124_14 hw, s126 hw, am_b0, am_bn0, am_addE, am_subE, am_mulE, am_laddE, am_lsubE, am_upO, am_upS, am_stS, am_stO, am_tnn, am_brl, am_brg, am_bre, am_brn, am_brG, am_brL, am_st1, am_no2, am_st2, am_clr, and_self, true_and, and_true, true_or, or_true, List.length_cons, List.length_nil] <;> omega) ?_
        try simp (disch := omega) only [s124 hw, r124_14 hw, s126 hw, am_b0, am_bn0, am_addE, am_subE, am_mulE, am_laddE, am_lsubE, am_upO, am_upS, am_stS, am_stO, am_tnn, am_brl, am_brg, am_bre, am_brn, am_brG, am_brL, am_st1, am_no2, am_st2, am_clr]
        refine am_wp_br (fun b29 => ?_) (fun b29 => ?_)
        · refine am_wp_go rfl (by simp (disch := omega) only [s124 hw, r124_14 hw, s126 hw, am_b0, am_bn0, am_addE, am_subE, am_mulE, am_laddE, am_lsubE, am_upO, am_upS, am_stS, am_stO, am_tnn, am_brl, am_brg, am_bre, am_brn, am_brG, am_brL, am_st1, am_no2, am_st2, am_clr, and_self, true_and, and_true, true_or, or_true, List.length_cons, List.length_nil] <;> omega) ?_
          try simp (disch := omega) only [s124 hw, r124_14 hw, s126 hw, am_b0, am_bn0, am_addE, am_subE, am_mulE, am_laddE, am_lsubE, am_upO, am_upS, am_stS, am_stO, am_tnn, am_brl, am_brg, am_bre, am_brn, am_brG, am_brL, am_st1, am_no2, am_st2, am_clr]
          refine am_wp_ret rfl rfl ?_
          exact h0 (by omega) _ q
        · refine am_wp_go rfl (by simp (disch := omega) only [s124 hw, r124_14 hw, s126 hw, am_b0, am_bn0, am_addE, am_subE, am_mulE, am_laddE, am_lsubE, am_upO, am_upS, am_stS, am_stO, am_tnn, am_brl, am_brg, am_bre, am_brn, am_brG, am_brL, am_st1, am_no2, am_st2, am_clr, and_self, true_and, and_true, true_or, or_true, List.length_cons, List.length_nil] <;> omega) ?_
          try simp (disch := omega) only [s124 hw, r124_14 hw, s126 hw, am_b0, am_bn0, am_addE, am_subE, am_mulE, am_laddE, am_lsubE, am_upO, am_upS, am_stS, am_stO, am_tnn, am_brl, am_brg, am_bre, am_brn, am_brG, am_brL, am_st1, am_no2, am_st2, am_clr]
          refine am_wp_cc rfl rfl rfl (congrArg Prod.fst (s124 hw)) (w_M_from hw hr1 g4 (by omega) ⟨_, rfl, ?_⟩)
          refine am_wp_go rfl (by simp (disch := omega) only [s124 hw, r124_14 hw, s126 hw, am_b0, am_bn0, am_addE, am_subE, am_mulE, am_laddE, am_lsubE, am_upO, am_upS, am_stS, am_stO, am_tnn, am_brl, am_brg, am_bre, am_brn, am_brG, am_brL, am_st1, am_no2, am_st2, am_clr, and_self, true_and, and_true, true_or, or_true, List.length_cons, List.length_nil] <;> omega) ?_
          try simp (disch := omega) only [s124 hw, r124_14 hw, s126 hw, am_b0, am_bn0, am_addE, am_subE, am_mulE, am_laddE, am_lsubE, am_upO, am_upS, am_stS, am_stO, am_tnn, am_brl, am_brg, am_bre, am_brn, am_brG, am_brL, am_st1, am_no2, am_st2, am_clr]
          refine am_wp_cc rfl rfl rfl (trivial) (w_M_isIn ⟨_, rfl, ?_⟩)
          refine am_wp_go rfl (by simp (disch := omega) only [s124 hw, r124_14 hw, s126 hw, am_b0, am_bn0, am_addE, am_subE, am_mulE, am_laddE, am_lsubE, am_upO, am_upS, am_stS, am_stO, am_tnn, am_brl, am_brg, am_bre, am_brn, am_brG, am_brL, am_st1, am_no2, am_st2, am_clr, and_self, true_and, and_true, true_or, or_true, List.length_cons, List.length_nil] <;> omega) ?_
          try simp (disch := omega) only [s124 hw, r124_14 hw, s126 hw, am_b0, am_bn0, am_addE, am_subE, am_mulE, am_laddE, am_lsubE, am_upO, am_upS, am_stS, am_stO, am_tnn, am_brl, am_brg, am_bre, am_brn, am_brG, am_brL, am_st1, am_no2, am_st2, am_clr]
          refine am_wp_br (fun b46 => ?_) (fun b46 => ?_)
          · obtain ⟨b1, b2⟩ := beg_len hb hr (by omega)
            refine am_wp_go rfl (by simp (disch := omega) only [s124 hw, r124_14 hw, s126 hw, am_b0, am_bn0, am_addE, am_subE, am_mulE, am_laddE, am_lsubE, am_upO, am_upS, am_stS, am_stO, am_tnn, am_brl, am_brg, am_bre, am_brn, am_brG, am_brL, am_st1, am_no2, am_st2, am_clr, and_self, true_and, and_true, true_or, or_true, List.length_cons, List.length_nil] <;> omega) ?_
            try simp (disch := omega) only [s124 hw, r124_14 hw, s126 hw, am_b0, am_bn0, am_addE, am_subE, am_mulE, am_laddE, am_lsubE, am_upO, am_upS, am_stS, am_stO, am_tnn, am_brl, am_brg, am_bre, am_brn, am_brG, am_brL, am_st1, am_no2, am_st2, am_clr]
            refine am_wp_cc rfl rfl rfl (congrArg Prod.fst (s124 hw)) (w_M_snap hw hr1 g4 hH hG hh1 (fun K k1 k2 k3 => ⟨_, rfl, ?_⟩))
            have e : K 126 = I 126 := (k1 126 (by decide) (by decide)).trans (am_upO (by decide))
            obtain ⟨f0, f1, f2, f3, f4⟩ := rf_at hr (show j < G.length by omega)
            refine am_wp_go rfl (by simp (disch := omega) only [s124 hw, r124_14 hw, s126 hw, e, f2, am_tnA, am_tnM, Int.reduceToNat, am_addE, am_subE, am_mulE, am_laddE, am_lsubE, am_upO, am_upS, am_stS, am_stO, am_tnn, am_brl, am_brg, am_bre, am_brn, am_brG, am_brL, am_st1, am_no2, am_st2, am_clr, and_self, true_and, and_true, true_or, or_true, List.length_cons, List.length_nil] <;> omega) ?_
            try simp (disch := omega) only [s124 hw, r124_14 hw, s126 hw, e, f2, am_tnA, am_tnM, Int.reduceToNat, am_addE, am_subE, am_mulE, am_laddE, am_lsubE, am_upO, am_upS, am_stS, am_stO, am_tnn, am_brl, am_brg, am_bre, am_brn, am_brG, am_brL, am_st1, am_no2, am_st2, am_clr]
            refine am_wp_ret rfl rfl ?_
            refine h1 (by omega) _ (rqp_of q (by rw [am_upS, am_stO (by decide)]; exact b1) (by rw [am_upO (by decide)]; exact b2) (fun a ha => ?_) (fun i h2 _ _ _ => ?_) (fun i hi => ?_)) (rf_set hr (by omega) ?_) (hsR_fr k3 (by rw [am_upO (by decide)]) (am_upO (by decide)))
            · rw [am_upO (by omega), k1 a (by omega) (by omega)]
            · rw [am_upO (by decide), k2 i h2]
            · rw [am_upS, am_stO (by omega), e, am_upO (by decide)]
            · rw [am_upS, e]
              funext i
              unfold pw am_set
              by_cases hi : i = 5 * j + 3
              · rw [if_pos (by omega), if_pos hi]
              · rw [if_neg (by omega), if_neg hi]
          · refine am_wp_go rfl (by simp (disch := omega) only [s124 hw, r124_14 hw, s126 hw, am_b0, am_bn0, am_addE, am_subE, am_mulE, am_laddE, am_lsubE, am_upO, am_upS, am_stS, am_stO, am_tnn, am_brl, am_brg, am_bre, am_brn, am_brG, am_brL, am_st1, am_no2, am_st2, am_clr, and_self, true_and, and_true, true_or, or_true, List.length_cons, List.length_nil] <;> omega) ?_
            try simp (disch := omega) only [s124 hw, r124_14 hw, s126 hw, am_b0, am_bn0, am_addE, am_subE, am_mulE, am_laddE, am_lsubE, am_upO, am_upS, am_stS, am_stO, am_tnn, am_brl, am_brg, am_bre, am_brn, am_brG, am_brL, am_st1, am_no2, am_st2, am_clr]
            refine am_wp_ret rfl rfl ?_
            exact h0 (by omega) _ q
theorem r_drop {k : Int} (hw : wd sh R) (hb : beg I) (hr : rf (pw (I 126)) G) (hg : gok G) (hH : H.length ≤ 8) (hG : ∀ j, j < H.length → (H.getD j []).length ≤ 400) (hh : hsR I H) (h0 : ¬ (0 ≤ k ∧ k < G.length) → ∀ J, rq I J → Q (am_yi 0) (m, sl, sh, J, R)) (h1 : 0 ≤ k ∧ k < G.length → ∀ J, rqp I J → rf (pw (J 126)) (G.eraseIdx k.toNat) → hsR J (hpush H G) → Q (am_yi 1) (m, sl, sh, J, R)) : am_wp (d + 2) 283 0 [some (.inr (.inr (124))), some (.inl (k)), none] [] (m, sl, sh, I, R) Q := by
  have g4 := hg.1
  have q := rq_thrown (I := I) (x := 0)
  have hr1 : rf (pw (am_up I 124 0 0 126)) G := by rw [am_upO (by decide)]; exact hr
  have hh1 := hsR_rq hh q
  refine am_wp_go rfl (by simp (disch := omega) only [s124 hw, r124_14 hw, s126 hw, am_b0, am_bn0, am_addE, am_subE, am_mulE, am_laddE, am_lsubE, am_upO, am_upS, am_stS, am_stO, am_tnn, am_brl, am_brg, am_bre, am_brn, am_brG, am_brL, am_st1, am_no2, am_st2, am_clr, and_self, true_and, and_true, true_or, or_true, List.length_cons, List.length_nil] <;> omega) ?_
  try simp (disch := omega) only [s124 hw, r124_14 hw, s126 hw, am_b0, am_bn0, am_addE, am_subE, am_mulE, am_laddE, am_lsubE, am_upO, am_upS, am_stS, am_stO, am_tnn, am_brl, am_brg, am_bre, am_brn, am_brG, am_brL, am_st1, am_no2, am_st2, am_clr]
  refine am_wp_br (fun b6 => ?_) (fun b6 => ?_)
  · refine am_wp_go rfl (by simp (disch := omega) only [s124 hw, r124_14 hw, s126 hw, am_b0, am_bn0, am_addE, am_subE, am_mulE, am_laddE, am_lsubE, am_upO, am_upS, am_stS, am_stO, am_tnn, am_brl, am_brg, am_bre, am_brn, am_brG, am_brL, am_st1, am_no2, am_st2, am_clr, and_self, true_and, and_true, true_or, or_true, List.length_cons, List.length_nil] <;> omega) ?_
    try simp (disch := omega) only [s124 hw, r124_14 hw, s126 hw, am_b0, am_bn0, am_addE, am_subE, am_mulE, am_laddE, am_lsubE, am_upO, am_upS, am_stS, am_stO, am_tnn, am_brl, am_brg, am_bre, am_brn, am_brG, am_brL, am_st1, am_no2, am_st2, am_clr]
    refine am_wp_ret rfl rfl ?_
    exact h0 (by omega) _ q
  · refine am_wp_go rfl (by simp (disch := omega) only [s124 hw, r124_14 hw, s126 hw, am_b0, am_bn0, am_addE, am_subE, am_mulE, am_laddE, am_lsubE, am_upO, am_upS, am_stS, am_stO, am_tnn, am_brl, am_brg, am_bre, am_brn, am_brG, am_brL, am_st1, am_no2, am_st2, am_clr, and_self, true_and, and_true, true_or, or_true, List.length_cons, List.length_nil] <;> omega) ?_
    try simp (disch := omega) only [s124 hw, r124_14 hw, s126 hw, am_b0, am_bn0, am_addE, am_subE, am_mulE, am_laddE, am_lsubE, am_upO, am_upS, am_stS, am_stO, am_tnn, am_brl, am_brg, am_bre, am_brn, am_brG, am_brL, am_st1, am_no2, am_st2, am_clr]
    refine am_wp_cc rfl rfl rfl (congrArg Prod.fst (s124 hw)) (w_M_goesG hw hr1 ⟨_, rfl, ?_⟩)
    refine am_wp_go rfl (by simp (disch := omega) only [s124 hw, r124_14 hw, s126 hw, am_b0, am_bn0, am_addE, am_subE, am_mulE, am_laddE, am_lsubE, am_upO, am_upS, am_stS, am_stO, am_tnn, am_brl, am_brg, am_bre, am_brn, am_brG, am_brL, am_st1, am_no2, am_st2, am_clr, and_self, true_and, and_true, true_or, or_true, List.length_cons, List.length_nil] <;> omega) ?_
    try simp (disch := omega) only [s124 hw, r124_14 hw, s126 hw, am_b0, am_bn0, am_addE, am_subE, am_mulE, am_laddE, am_lsubE, am_upO, am_upS, am_stS, am_stO, am_tnn, am_brl, am_brg, am_bre, am_brn, am_brG, am_brL, am_st1, am_no2, am_st2, am_clr]
    refine am_wp_br (fun b14 => ?_) (fun b14 => ?_)
    · obtain ⟨j, rfl⟩ : ∃ j : Nat, k = (j : Int) := ⟨k.toNat, by omega⟩
      rw [am_tnn] at h1
      obtain ⟨b1, b2⟩ := beg_len hb hr (by omega)
      refine am_wp_go rfl (by simp (disch := omega) only [s124 hw, r124_14 hw, s126 hw, am_b0, am_bn0, am_addE, am_subE, am_mulE, am_laddE, am_lsubE, am_upO, am_upS, am_stS, am_stO, am_tnn, am_brl, am_brg, am_bre, am_brn, am_brG, am_brL, am_st1, am_no2, am_st2, am_clr, and_self, true_and, and_true, true_or, or_true, List.length_cons, List.length_nil] <;> omega) ?_
      try simp (disch := omega) only [s124 hw, r124_14 hw, s126 hw, am_b0, am_bn0, am_addE, am_subE, am_mulE, am_laddE, am_lsubE, am_upO, am_upS, am_stS, am_stO, am_tnn, am_brl, am_brg, am_bre, am_brn, am_brG, am_brL, am_st1, am_no2, am_st2, am_clr]
      refine am_wp_cc rfl rfl rfl (congrArg Prod.fst (s124 hw)) (w_M_snap hw hr1 g4 hH hG hh1 (fun K k1 k2 k3 => ⟨_, rfl, ?_⟩))
      have e : K 126 = I 126 := (k1 126 (by decide) (by decide)).trans (am_upO (by decide))
      refine am_wp_go rfl (by simp (disch := omega) only [s124 hw, r124_14 hw, s126 hw, am_b0, am_bn0, am_addE, am_subE, am_mulE, am_laddE, am_lsubE, am_upO, am_upS, am_stS, am_stO, am_tnn, am_brl, am_brg, am_bre, am_brn, am_brG, am_brL, am_st1, am_no2, am_st2, am_clr, and_self, true_and, and_true, true_or, or_true, List.length_cons, List.length_nil] <;> omega) ?_
      try simp (disch := omega) only [s124 hw, r124_14 hw, s126 hw, am_b0, am_bn0, am_addE, am_subE, am_mulE, am_laddE, am_lsubE, am_upO, am_upS, am_stS, am_stO, am_tnn, am_brl, am_brg, am_bre, am_brn, am_brG, am_brL, am_st1, am_no2, am_st2, am_clr]
      refine am_wp_ls (am_lp (P := fun i => 5 * j ≤ i → ∀ L, (∀ a, a ≠ 126 → L a = K a) → (L 126 = fun x => if 59 + 5 * j ≤ x ∧ x < 59 + i then I 126 (x + 5) else I 126 x) → am_wp (d + 2) 283 27 [some (.inr (.inr (124))), some (.inl ((j : Int))), some (.inl ((i : Int)))] [] (m, sl, sh, L, R) Q) (5 * G.length - 5) (fun i hi ih hij L l1 l2 => ?_) (5 * j) (by omega) (Nat.le_refl _) K (fun _ _ => rfl) (by rw [e]; funext x; rw [if_neg (by omega)])) rfl
      have hrL : L 126 58 = (G.length : Int) := by rw [l2]; dsimp only; rw [if_neg (by omega)]; exact hr.1
      refine am_wp_go rfl (by simp (disch := omega) only [s124 hw, r124_14 hw, s126 hw, hrL, am_tnA, am_tnM, Int.reduceToNat, am_addE, am_subE, am_mulE, am_laddE, am_lsubE, am_upO, am_upS, am_stS, am_stO, am_tnn, am_brl, am_brg, am_bre, am_brn, am_brG, am_brL, am_st1, am_no2, am_st2, am_clr, and_self, true_and, and_true, true_or, or_true, List.length_cons, List.length_nil] <;> omega) ?_
      try simp (disch := omega) only [s124 hw, r124_14 hw, s126 hw, hrL, am_tnA, am_tnM, Int.reduceToNat, am_addE, am_subE, am_mulE, am_laddE, am_lsubE, am_upO, am_upS, am_stS, am_stO, am_tnn, am_brl, am_brg, am_bre, am_brn, am_brG, am_brL, am_st1, am_no2, am_st2, am_clr]
      refine am_wp_cc rfl rfl rfl (congrArg Prod.fst (s124 hw)) (w_M_goes hw ⟨_, rfl, ?_⟩)
      refine am_wp_go rfl (by simp (disch := omega) only [s124 hw, r124_14 hw, s126 hw, hrL, am_tnA, am_tnM, Int.reduceToNat, am_addE, am_subE, am_mulE, am_laddE, am_lsubE, am_upO, am_upS, am_stS, am_stO, am_tnn, am_brl, am_brg, am_bre, am_brn, am_brG, am_brL, am_st1, am_no2, am_st2, am_clr, and_self, true_and, and_true, true_or, or_true, List.length_cons, List.length_nil] <;> omega) ?_
      try simp (disch := omega) only [s124 hw, r124_14 hw, s126 hw, hrL, am_tnA, am_tnM, Int.reduceToNat, am_addE, am_subE, am_mulE, am_laddE, am_lsubE, am_upO, am_upS, am_stS, am_stO, am_tnn, am_brl, am_brg, am_bre, am_brn, am_brG, am_brL, am_st1, am_no2, am_st2, am_clr]
      refine am_wp_br (fun b40 => ?_) (fun b40 => ?_)
      · refine am_wp_go rfl (by simp (disch := omega) only [s124 hw, r124_14 hw, s126 hw, hrL, am_tnA, am_tnM, Int.reduceToNat, am_addE, am_subE, am_mulE, am_laddE, am_lsubE, am_upO, am_upS, am_stS, am_stO, am_tnn, am_brl, am_brg, am_bre, am_brn, am_brG, am_brL, am_st1, am_no2, am_st2, am_clr, and_self, true_and, and_true, true_or, or_true, List.length_cons, List.length_nil] <;> omega) ?_
        try simp (disch := omega) only [s124 hw, r124_14 hw, s126 hw, hrL, am_tnA, am_tnM, Int.reduceToNat, am_addE, am_subE, am_mulE, am_laddE, am_lsubE, am_upO, am_upS, am_stS, am_stO, am_tnn, am_brl, am_brg, am_bre, am_brn, am_brG, am_brL, am_st1, am_no2, am_st2, am_clr]
        refine am_wp_ret rfl rfl ?_
        have hl : (G.eraseIdx j).length = G.length - 1 := List.length_eraseIdx_of_lt (by omega)
        refine h1 (by omega) _ (rqp_of q (by rw [am_upS, am_stO (by decide)]; exact b1) (by rw [am_upO (by decide)]; exact b2) (fun a ha => ?_) (fun i h2 _ _ _ => ?_) (fun i hi => ?_)) ⟨?_, fun i hi => ?_⟩ (hsR_fr k3 (by rw [am_upO (by decide), l1 124 (by decide)]) (by rw [am_upO (by decide), l1 129 (by decide)]))
        · rw [am_upO (by omega), l1 a (by omega), k1 a (by omega) (by omega)]
        · rw [am_upO (by decide), l1 124 (by decide), k2 i h2]
        · rw [am_upS, am_stO (by omega), l2, am_upO (by decide)]
          dsimp only
          rw [if_neg (by omega)]
        · unfold pw
          rw [am_upS, am_stS rfl, hl]
          omega
        · rw [hl] at hi
          unfold pw gS gU gB gL gN
          rw [am_upS, am_stO (by omega), am_stO (by omega), am_stO (by omega), am_stO (by omega), am_stO (by omega), l2, gs_del]
          dsimp only
          by_cases hij : i < j
          · have t := hr.2 i (by omega)
            unfold pw gS gU gB gL gN at t
            rw [if_pos hij, if_neg (by omega), if_neg (by omega), if_neg (by omega), if_neg (by omega), if_neg (by omega)]
            exact t
          · have t := hr.2 (i + 1) (by omega)
            unfold pw gS gU gB gL gN at t
            rw [if_neg hij, if_pos (by omega), if_pos (by omega), if_pos (by omega), if_pos (by omega), if_pos (by omega)]
            exact t
      · refine am_wp_go rfl (by simp (disch := omega) only [s124 hw, r124_14 hw, s126 hw, hrL, am_tnA, am_tnM, Int.reduceToNat, am_addE, am_subE, am_mulE, am_laddE, am_lsubE, am_upO, am_upS, am_stS, am_stO, am_tnn, am_brl, am_brg, am_bre, am_brn, am_brG, am_brL, am_st1, am_no2, am_st2, am_clr, and_self, true_and, and_true, true_or, or_true, List.length_cons, List.length_nil] <;> omega) ?_
        rw [r124_14 hw]
        simp (disch := omega) only [s124 hw, r124_14 hw, s126 hw, hrL, am_tnA, am_tnM, Int.reduceToNat, am_addE, am_subE, am_mulE, am_laddE, am_lsubE, am_upO, am_upS, am_stS, am_stO, am_tnn, am_brl, am_brg, am_bre, am_brn, am_brG, am_brL, am_st1, am_no2, am_st2, am_clr]
        refine am_wp_ls (ih (by omega) (by omega) _ (fun a ha => by rw [am_upO ha, l1 a ha]) ?_) rfl
        rw [am_upS, l2]
        funext x
        simp only [am_set]
        by_cases hx : x = 59 + i
        · rw [if_pos hx, if_neg (by omega), if_pos (by omega), show x + 5 = 59 + i + 5 by omega]
        · rw [if_neg hx]
          by_cases hx2 : 59 + 5 * j ≤ x ∧ x < 59 + i
          · rw [if_pos hx2, if_pos (by omega)]
          · rw [if_neg hx2, if_neg (by omega)]
    · refine am_wp_go rfl (by simp (disch := omega) only [s124 hw, r124_14 hw, s126 hw, am_b0, am_bn0, am_addE, am_subE, am_mulE, am_laddE, am_lsubE, am_upO, am_upS, am_stS, am_stO, am_tnn, am_brl, am_brg, am_bre, am_brn, am_brG, am_brL, am_st1, am_no2, am_st2, am_clr, and_self, true_and, and_true, true_or, or_true, List.length_cons, List.length_nil] <;> omega) ?_
      try simp (disch := omega) only [s124 hw, r124_14 hw, s126 hw, am_b0, am_bn0, am_addE, am_subE, am_mulE, am_laddE, am_lsubE, am_upO, am_upS, am_stS, am_stO, am_tnn, am_brl, am_brg, am_bre, am_brn, am_brG, am_brL, am_st1, am_no2, am_st2, am_clr]
      refine am_wp_ret rfl rfl ?_
      exact h0 (by omega) _ q
end ADD
