/-! hotel() on both sides; the core of the coupling -/
def core (X : Nat → Int) (I : Nat → Nat → Int) : Prop := cpC X I ∧ cpK I ∧ cpG I 14 (pw (I 126)) (lw I) ∧ sen I 16 (lw I) ∧ cpH I ∧ cpI I 0 ∧ cpI I 1
theorem cp_core {X : Nat → Int} {I : Nat → Nat → Int} (h : cp X I) : core X I := by
  obtain ⟨c, k, g, s, hh, ⟨i0, i1⟩, -⟩ := h
  exact ⟨c, k, g, s, hh, i0, i1⟩
theorem core_cp {X : Nat → Int} {I : Nat → Nat → Int} (h : core X I) (t : cpT I) (x : cpX I) (f : cpF I) (v : cpV I) (p : cpP I) : cp X I := by
  obtain ⟨c, k, g, s, hh, i0, i1⟩ := h
  exact ⟨c, k, g, s, hh, ⟨i0, i1⟩, t, x, f, v, p⟩
def now_same (I K : Nat → Nat → Int) : Prop := K 124 23 = I 124 23 ∧ K 126 = I 126 ∨ K 124 23 = 1 ∧ K 126 = lw I
theorem core_fr {X : Nat → Int} {I K : Nat → Nat → Int} (h : core X I) (q : ∀ a, (1 ≤ a ∧ a ≤ 2 ∨ 6 ≤ a ∧ a ≤ 19 ∨ a = 22 ∨ 24 ≤ a ∧ a ≤ 39 ∨ a = 57 ∨ 93 ≤ a ∧ a ≤ 106 ∨ 109 ≤ a ∧ a ≤ 122 ∨ 128 ≤ a ∧ a ≤ 130 ∨ 132 ≤ a ∧ a ≤ 133) → K a = I a) (f92 : K 92 3 = I 92 3) (f108 : K 108 3 = I 108 3) (e22 : K 124 22 = I 124 22) (w : now_same I K) : core X K := by
  obtain ⟨c, ⟨k1, k2⟩, g, s, hh, i0, i1⟩ := h
  have el : lw K = lw I := by
    rcases w with ⟨a, b⟩ | ⟨a, b⟩
    · unfold lw; rw [a, b]
    · conv => lhs; unfold lw
      rw [a, b]; rfl
  have im : ∀ k, k < 2 → K (92 + 16 * k) 3 = I (92 + 16 * k) 3 → cpI I k → cpI K k := by
    intro k hk e3 ⟨a, b, d⟩
    unfold cpI kpW kpN
    rw [q 133 (by omega), q 128 (by omega), q 132 (by omega)]
    refine ⟨e3.trans a, b, fun hk => ?_⟩
    obtain ⟨d1, d2, d3⟩ := d hk
    exact ⟨kit_fr d1 (fun a h1 h2 => q a (by omega)), cpG_fr d2 (q _ (by omega)) (q _ (by omega)), sen_fr d3 (q _ (by omega)) (q _ (by omega)) (q _ (by omega)) (q _ (by omega))⟩
  refine ⟨?_, ⟨?_, ?_⟩, ?_, ?_, ?_, im 0 (by decide) f92 i0, im 1 (by decide) f108 i1⟩
  · unfold cpC; rw [q 1 (by omega), q 2 (by omega), q 57 (by omega)]; exact c
  · rw [el, q 130 (by omega)]; exact kit_fr k1 (fun a h1 h2 => q a (by omega))
  · unfold beg
    rcases w with ⟨a, b⟩ | ⟨a, b⟩
    · rw [a, b]; exact k2
    · exact Or.inr a
  · rw [el]
    obtain ⟨G, a, b, e⟩ := g
    refine ⟨G, pl_fr a (q 14 (by omega)) (q 15 (by omega)), ?_, e⟩
    rcases w with ⟨-, b2⟩ | ⟨-, b2⟩
    · rw [b2]; exact b
    · rw [b2]; exact rf_lw k2 b
  · rw [el]; exact sen_fr s (q 16 (by omega)) (q 17 (by omega)) (q 18 (by omega)) (q 19 (by omega))
  · obtain ⟨H, h1, h2, h3⟩ := hh
    exact ⟨H, hsC_fr h1 (fun a ha => q a (by omega)), hsR_fr h2 e22 (q 129 (by omega)), by rw [el]; exact h3⟩
section HOTEL
variable {m sl : Nat} {sh : Nat → Nat × Nat} {I : Nat → Nat → Int} {R : Nat → Nat → Nat} {Q : am_R → am_M → Prop} {d w : Nat} {W N : Nat → Int}
def hotOk (W : Nat → Int) (n u a : Int) : Prop := 1 ≤ n ∧ n ≤ 200 ∧ 1 ≤ u ∧ u ≤ 20 ∧ 1 ≤ a ∧ a ≤ 400 ∧ fewN n u a ≠ -1 ∧ 0 < nK W
theorem c_hotel {n u a : Int} (hw : wd sh R) (hk : kit I 6 W N) (h0 : ¬ hotOk W n u a → Q (am_yi (-1)) (m, sl, sh, I, R)) (h1 : hotOk W n u a → ∀ J D, (∀ a, a ≠ 86 → a ≠ 87 → a ≠ 88 → J a = I a) → hTab W (fewN n u a).toNat 1000000 D → J 86 2 = (nK W : Int) → (∀ k, k < nK W → J 88 k = (hbt D W (fewN n u a).toNat k : Int)) → Q (am_yi (D (fewN n u a).toNat)) (m, sl, sh, J, R)) : am_wp (d + 2) 174 0 [some (.inr (.inr (4))), some (.inl (n)), some (.inl (u)), some (.inl (a)), none, none] [] (m, sl, sh, I, R) Q := by
  have n3 := wk_nK hk.1
  obtain ⟨k1, k2, k3, k4, k5, k6, k7, k8, k9⟩ := hk.2.1
  rw [n3.1] at k8
  unfold hotOk at h0 h1
  by_cases hv : 1 ≤ n ∧ n ≤ 200 ∧ 1 ≤ u ∧ u ≤ 20 ∧ 1 ≤ a ∧ a ≤ 400 ∧ fewN n u a ≠ -1 ∧ 0 < nK W
  · have hf := fewN_le (by omega) hv.2.2.2.2.2.2.1
    have h := h1 hv
    clear h0 h1
    obtain ⟨w, hfw⟩ : ∃ w : Nat, fewN n u a = (w : Int) := ⟨(fewN n u a).toNat, by omega⟩
    rw [hfw, am_tnn] at h
    rw [hfw] at hf
    refine am_wp_go rfl (by simp (disch := omega) only [s4 hw, r4_0 hw, s5 hw, r5_0 hw, s6 hw, r4_11 hw, k8, am_addE, am_subE, am_mulE, am_laddE, am_lsubE, am_upO, am_upS, am_stS, am_stO, am_tnn, am_brl, am_brg, am_bre, am_brn, am_brG, am_brL, am_st1, am_no2, am_st2, am_clr, and_self, true_and, and_true, true_or, or_true, List.length_cons, List.length_nil] <;> omega) ?_
    try simp (disch := omega) only [s4 hw, r4_0 hw, s5 hw, r5_0 hw, s6 hw, r4_11 hw, k8, am_addE, am_subE, am_mulE, am_laddE, am_lsubE, am_upO, am_upS, am_stS, am_stO, am_tnn, am_brl, am_brg, am_bre, am_brn, am_brG, am_brL, am_st1, am_no2, am_st2, am_clr]
    refine am_wp_br (fun b2 => ?_) (fun b2 => ?_)
    · omega
    · refine am_wp_go rfl (by simp (disch := omega) only [s4 hw, r4_0 hw, s5 hw, r5_0 hw, s6 hw, r4_11 hw, k8, am_addE, am_subE, am_mulE, am_laddE, am_lsubE, am_upO, am_upS, am_stS, am_stO, am_tnn, am_brl, am_brg, am_bre, am_brn, am_brG, am_brL, am_st1, am_no2, am_st2, am_clr, and_self, true_and, and_true, true_or, or_true, List.length_cons, List.length_nil] <;> omega) ?_
      try simp (disch := omega) only [s4 hw, r4_0 hw, s5 hw, r5_0 hw, s6 hw, r4_11 hw, k8, am_addE, am_subE, am_mulE, am_laddE, am_lsubE, am_upO, am_upS, am_stS, am_stO, am_tnn, am_brl, am_brg, am_bre, am_brn, am_brG, am_brL, am_st1, am_no2, am_st2, am_clr]
      refine am_wp_br (fun b9 => ?_) (fun b9 => ?_)
      · omega
      · refine am_wp_go rfl (by simp (disch := omega) only [s4 hw, r4_0 hw, s5 hw, r5_0 hw, s6 hw, r4_11 hw, k8, am_addE, am_subE, am_mulE, am_laddE, am_lsubE, am_upO, am_upS, am_stS, am_stO, am_tnn, am_brl, am_brg, am_bre, am_brn, am_brG, am_brL, am_st1, am_no2, am_st2, am_clr, and_self, true_and, and_true, true_or, or_true, List.length_cons, List.length_nil] <;> omega) ?_
        try simp (disch := omega) only [s4 hw, r4_0 hw, s5 hw, r5_0 hw, s6 hw, r4_11 hw, k8, am_addE, am_subE, am_mulE, am_laddE, am_lsubE, am_upO, am_upS, am_stS, am_stO, am_tnn, am_brl, am_brg, am_bre, am_brn, am_brG, am_brL, am_st1, am_no2, am_st2, am_clr]
        refine am_wp_br (fun b14 => ?_) (fun b14 => ?_)
        · omega
        · refine am_wp_go rfl (by simp (disch := omega) only [s4 hw, r4_0 hw, s5 hw, r5_0 hw, s6 hw, r4_11 hw, k8, am_addE, am_subE, am_mulE, am_laddE, am_lsubE, am_upO, am_upS, am_stS, am_stO, am_tnn, am_brl, am_brg, am_bre, am_brn, am_brG, am_brL, am_st1, am_no2, am_st2, am_clr, and_self, true_and, and_true, true_or, or_true, List.length_cons, List.length_nil] <;> omega) ?_
          try simp (disch := omega) only [s4 hw, r4_0 hw, s5 hw, r5_0 hw, s6 hw, r4_11 hw, k8, am_addE, am_subE, am_mulE, am_laddE, am_lsubE, am_upO, am_upS, am_stS, am_stO, am_tnn, am_brl, am_brg, am_bre, am_brn, am_brG, am_brL, am_st1, am_no2, am_st2, am_clr]
          refine am_wp_br (fun b20 => ?_) (fun b20 => ?_)
          · omega
          · refine am_wp_go rfl (by simp (disch := omega) only [s4 hw, r4_0 hw, s5 hw, r5_0 hw, s6 hw, r4_11 hw, k8, am_addE, am_subE, am_mulE, am_laddE, am_lsubE, am_upO, am_upS, am_stS, am_stO, am_tnn, am_brl, am_brg, am_bre, am_brn, am_brG, am_brL, am_st1, am_no2, am_st2, am_clr, and_self, true_and, and_true, true_or, or_true, List.length_cons, List.length_nil] <;> omega) ?_
            try simp (disch := omega) only [s4 hw, r4_0 hw, s5 hw, r5_0 hw, s6 hw, r4_11 hw, k8, am_addE, am_subE, am_mulE, am_laddE, am_lsubE, am_upO, am_upS, am_stS, am_stO, am_tnn, am_brl, am_brg, am_bre, am_brn, am_brG, am_brL, am_st1, am_no2, am_st2, am_clr]
            refine am_wp_br (fun b25 => ?_) (fun b25 => ?_)
            · omega
            · refine am_wp_go rfl (by simp (disch := omega) only [s4 hw, r4_0 hw, s5 hw, r5_0 hw, s6 hw, r4_11 hw, k8, am_addE, am_subE, am_mulE, am_laddE, am_lsubE, am_upO, am_upS, am_stS, am_stO, am_tnn, am_brl, am_brg, am_bre, am_brn, am_brG, am_brL, am_st1, am_no2, am_st2, am_clr, and_self, true_and, and_true, true_or, or_true, List.length_cons, List.length_nil] <;> omega) ?_
              try simp (disch := omega) only [s4 hw, r4_0 hw, s5 hw, r5_0 hw, s6 hw, r4_11 hw, k8, am_addE, am_subE, am_mulE, am_laddE, am_lsubE, am_upO, am_upS, am_stS, am_stO, am_tnn, am_brl, am_brg, am_bre, am_brn, am_brG, am_brL, am_st1, am_no2, am_st2, am_clr]
              refine am_wp_br (fun b32 => ?_) (fun b32 => ?_)
              · omega
              · refine am_wp_go rfl (by simp (disch := omega) only [s4 hw, r4_0 hw, s5 hw, r5_0 hw, s6 hw, r4_11 hw, k8, am_addE, am_subE, am_mulE, am_laddE, am_lsubE, am_upO, am_upS, am_stS, am_stO, am_tnn, am_brl, am_brg, am_bre, am_brn, am_brG, am_brL, am_st1, am_no2, am_st2, am_clr, and_self, true_and, and_true, true_or, or_true, List.length_cons, List.length_nil] <;> omega) ?_
                refine am_wp_pc (pc' := 47) rfl ?_
                refine am_wp_go rfl (by simp (disch := omega) only [s4 hw, r4_0 hw, s5 hw, r5_0 hw, s6 hw, r4_11 hw, k8, am_addE, am_subE, am_mulE, am_laddE, am_lsubE, am_upO, am_upS, am_stS, am_stO, am_tnn, am_brl, am_brg, am_bre, am_brn, am_brG, am_brL, am_st1, am_no2, am_st2, am_clr, and_self, true_and, and_true, true_or, or_true, List.length_cons, List.length_nil] <;> omega) ?_
                try simp (disch := omega) only [s4 hw, r4_0 hw, s5 hw, r5_0 hw, s6 hw, r4_11 hw, k8, am_addE, am_subE, am_mulE, am_laddE, am_lsubE, am_upO, am_upS, am_stS, am_stO, am_tnn, am_brl, am_brg, am_bre, am_brn, am_brG, am_brL, am_st1, am_no2, am_st2, am_clr]
                refine am_wp_cc rfl rfl rfl (trivial) (w_fewestPlaces (by omega) ⟨_, rfl, ?_⟩)
                rw [hfw]
                refine am_wp_go rfl (by simp (disch := omega) only [s4 hw, r4_0 hw, s5 hw, r5_0 hw, s6 hw, r4_11 hw, k8, am_addE, am_subE, am_mulE, am_laddE, am_lsubE, am_upO, am_upS, am_stS, am_stO, am_tnn, am_brl, am_brg, am_bre, am_brn, am_brG, am_brL, am_st1, am_no2, am_st2, am_clr, and_self, true_and, and_true, true_or, or_true, List.length_cons, List.length_nil] <;> omega) ?_
                try simp (disch := omega) only [s4 hw, r4_0 hw, s5 hw, r5_0 hw, s6 hw, r4_11 hw, k8, am_addE, am_subE, am_mulE, am_laddE, am_lsubE, am_upO, am_upS, am_stS, am_stO, am_tnn, am_brl, am_brg, am_bre, am_brn, am_brG, am_brL, am_st1, am_no2, am_st2, am_clr]
                refine am_wp_br (fun b62 => ?_) (fun b62 => ?_)
                · omega
                · refine am_wp_go rfl (by simp (disch := omega) only [s4 hw, r4_0 hw, s5 hw, r5_0 hw, s6 hw, r4_11 hw, k8, am_addE, am_subE, am_mulE, am_laddE, am_lsubE, am_upO, am_upS, am_stS, am_stO, am_tnn, am_brl, am_brg, am_bre, am_brn, am_brG, am_brL, am_st1, am_no2, am_st2, am_clr, and_self, true_and, and_true, true_or, or_true, List.length_cons, List.length_nil] <;> omega) ?_
                  try simp (disch := omega) only [s4 hw, r4_0 hw, s5 hw, r5_0 hw, s6 hw, r4_11 hw, k8, am_addE, am_subE, am_mulE, am_laddE, am_lsubE, am_upO, am_upS, am_stS, am_stO, am_tnn, am_brl, am_brg, am_bre, am_brn, am_brG, am_brL, am_st1, am_no2, am_st2, am_clr]
                  refine am_wp_br (fun b75 => ?_) (fun b75 => ?_)
                  · refine am_wp_go rfl (by simp (disch := omega) only [s4 hw, r4_0 hw, s5 hw, r5_0 hw, s6 hw, r4_11 hw, k8, am_addE, am_subE, am_mulE, am_laddE, am_lsubE, am_upO, am_upS, am_stS, am_stO, am_tnn, am_brl, am_brg, am_bre, am_brn, am_brG, am_brL, am_st1, am_no2, am_st2, am_clr, and_self, true_and, and_true, true_or, or_true, List.length_cons, List.length_nil] <;> omega) ?_
                    try simp (disch := omega) only [s4 hw, r4_0 hw, s5 hw, r5_0 hw, s6 hw, r4_11 hw, k8, am_addE, am_subE, am_mulE, am_laddE, am_lsubE, am_upO, am_upS, am_stS, am_stO, am_tnn, am_brl, am_brg, am_bre, am_brn, am_brG, am_brL, am_st1, am_no2, am_st2, am_clr]
                    refine am_wp_cc rfl rfl rfl (congrArg Prod.fst (s86 hw)) (w_buy hw hk (by omega) (by omega) (by omega) (fun J D j1 j2 j3 j4 => ⟨_, rfl, ?_⟩))
                    refine am_wp_ret rfl rfl ?_
                    exact h J D j1 j2 j3 j4
                  · omega
  · have h := h0 hv
    refine am_wp_go rfl (by simp (disch := omega) only [s4 hw, r4_0 hw, s5 hw, r5_0 hw, s6 hw, r4_11 hw, k8, am_addE, am_subE, am_mulE, am_laddE, am_lsubE, am_upO, am_upS, am_stS, am_stO, am_tnn, am_brl, am_brg, am_bre, am_brn, am_brG, am_brL, am_st1, am_no2, am_st2, am_clr, and_self, true_and, and_true, true_or, or_true, List.length_cons, List.length_nil] <;> omega) ?_
    try simp (disch := omega) only [s4 hw, r4_0 hw, s5 hw, r5_0 hw, s6 hw, r4_11 hw, k8, am_addE, am_subE, am_mulE, am_laddE, am_lsubE, am_upO, am_upS, am_stS, am_stO, am_tnn, am_brl, am_brg, am_bre, am_brn, am_brG, am_brL, am_st1, am_no2, am_st2, am_clr]
    refine am_wp_br (fun b2 => ?_) (fun b2 => ?_)
    · refine am_wp_go rfl (by simp (disch := omega) only [s4 hw, r4_0 hw, s5 hw, r5_0 hw, s6 hw, r4_11 hw, k8, am_addE, am_subE, am_mulE, am_laddE, am_lsubE, am_upO, am_upS, am_stS, am_stO, am_tnn, am_brl, am_brg, am_bre, am_brn, am_brG, am_brL, am_st1, am_no2, am_st2, am_clr, and_self, true_and, and_true, true_or, or_true, List.length_cons, List.length_nil] <;> omega) ?_
      refine am_wp_pc (pc' := 56) rfl ?_
      refine am_wp_go rfl (by simp (disch := omega) only [s4 hw, r4_0 hw, s5 hw, r5_0 hw, s6 hw, r4_11 hw, k8, am_addE, am_subE, am_mulE, am_laddE, am_lsubE, am_upO, am_upS, am_stS, am_stO, am_tnn, am_brl, am_brg, am_bre, am_brn, am_brG, am_brL, am_st1, am_no2, am_st2, am_clr, and_self, true_and, and_true, true_or, or_true, List.length_cons, List.length_nil] <;> omega) ?_
      refine am_wp_pc (pc' := 78) rfl ?_
      refine am_wp_go rfl (by simp (disch := omega) only [s4 hw, r4_0 hw, s5 hw, r5_0 hw, s6 hw, r4_11 hw, k8, am_addE, am_subE, am_mulE, am_laddE, am_lsubE, am_upO, am_upS, am_stS, am_stO, am_tnn, am_brl, am_brg, am_bre, am_brn, am_brG, am_brL, am_st1, am_no2, am_st2, am_clr, and_self, true_and, and_true, true_or, or_true, List.length_cons, List.length_nil] <;> omega) ?_
      try simp (disch := omega) only [s4 hw, r4_0 hw, s5 hw, r5_0 hw, s6 hw, r4_11 hw, k8, am_addE, am_subE, am_mulE, am_laddE, am_lsubE, am_upO, am_upS, am_stS, am_stO, am_tnn, am_brl, am_brg, am_bre, am_brn, am_brG, am_brL, am_st1, am_no2, am_st2, am_clr]
      refine am_wp_ret rfl rfl ?_
      exact h
    · refine am_wp_go rfl (by simp (disch := omega) only [s4 hw, r4_0 hw, s5 hw, r5_0 hw, s6 hw, r4_11 hw, k8, am_addE, am_subE, am_mulE, am_laddE, am_lsubE, am_upO, am_upS, am_stS, am_stO, am_tnn, am_brl, am_brg, am_bre, am_brn, am_brG, am_brL, am_st1, am_no2, am_st2, am_clr, and_self, true_and, and_true, true_or, or_true, List.length_cons, List.length_nil] <;> omega) ?_
      try simp (disch := omega) only [s4 hw, r4_0 hw, s5 hw, r5_0 hw, s6 hw, r4_11 hw, k8, am_addE, am_subE, am_mulE, am_laddE, am_lsubE, am_upO, am_upS, am_stS, am_stO, am_tnn, am_brl, am_brg, am_bre, am_brn, am_brG, am_brL, am_st1, am_no2, am_st2, am_clr]
      refine am_wp_br (fun b9 => ?_) (fun b9 => ?_)
      · refine am_wp_go rfl (by simp (disch := omega) only [s4 hw, r4_0 hw, s5 hw, r5_0 hw, s6 hw, r4_11 hw, k8, am_addE, am_subE, am_mulE, am_laddE, am_lsubE, am_upO, am_upS, am_stS, am_stO, am_tnn, am_brl, am_brg, am_bre, am_brn, am_brG, am_brL, am_st1, am_no2, am_st2, am_clr, and_self, true_and, and_true, true_or, or_true, List.length_cons, List.length_nil] <;> omega) ?_
        refine am_wp_pc (pc' := 56) rfl ?_
        refine am_wp_go rfl (by simp (disch := omega) only [s4 hw, r4_0 hw, s5 hw, r5_0 hw, s6 hw, r4_11 hw, k8, am_addE, am_subE, am_mulE, am_laddE, am_lsubE, am_upO, am_upS, am_stS, am_stO, am_tnn, am_brl, am_brg, am_bre, am_brn, am_brG, am_brL, am_st1, am_no2, am_st2, am_clr, and_self, true_and, and_true, true_or, or_true, List.length_cons, List.length_nil] <;> omega) ?_
        refine am_wp_pc (pc' := 78) rfl ?_
        refine am_wp_go rfl (by simp (disch := omega) only [s4 hw, r4_0 hw, s5 hw, r5_0 hw, s6 hw, r4_11 hw, k8, am_addE, am_subE, am_mulE, am_laddE, am_lsubE, am_upO, am_upS, am_stS, am_stO, am_tnn, am_brl, am_brg, am_bre, am_brn, am_brG, am_brL, am_st1, am_no2, am_st2, am_clr, and_self, true_and, and_true, true_or, or_true, List.length_cons, List.length_nil] <;> omega) ?_
        try simp (disch := omega) only [s4 hw, r4_0 hw, s5 hw, r5_0 hw, s6 hw, r4_11 hw, k8, am_addE, am_subE, am_mulE, am_laddE, am_lsubE, am_upO, am_upS, am_stS, am_stO, am_tnn, am_brl, am_brg, am_bre, am_brn, am_brG, am_brL, am_st1, am_no2, am_st2, am_clr]
        refine am_wp_ret rfl rfl ?_
        exact h
      · refine am_wp_go rfl (by simp (disch := omega) only [s4 hw, r4_0 hw, s5 hw, r5_0 hw, s6 hw, r4_11 hw, k8, am_addE, am_subE, am_mulE, am_laddE, am_lsubE, am_upO, am_upS, am_stS, am_stO, am_tnn, am_brl, am_brg, am_bre, am_brn, am_brG, am_brL, am_st1, am_no2, am_st2, am_clr, and_self, true_and, and_true, true_or, or_true, List.length_cons, List.length_nil] <;> omega) ?_
        try simp (disch := omega) only [s4 hw, r4_0 hw, s5 hw, r5_0 hw, s6 hw, r4_11 hw, k8, am_addE, am_subE, am_mulE, am_laddE, am_lsubE, am_upO, am_upS, am_stS, am_stO, am_tnn, am_brl, am_brg, am_bre, am_brn, am_brG, am_brL, am_st1, am_no2, am_st2, am_clr]
        refine am_wp_br (fun b14 => ?_) (fun b14 => ?_)
        · refine am_wp_go rfl (by simp (disch := omega) only [s4 hw, r4_0 hw, s5 hw, r5_0 hw, s6 hw, r4_11 hw, k8, am_addE, am_subE, am_mulE, am_laddE, am_lsubE, am_upO, am_upS, am_stS, am_stO, am_tnn, am_brl, am_brg, am_bre, am_brn, am_brG, am_brL, am_st1, am_no2, am_st2, am_clr, and_self, true_and, and_true, true_or, or_true, List.length_cons, List.length_nil] <;> omega) ?_
          refine am_wp_pc (pc' := 56) rfl ?_
          refine am_wp_go rfl (by simp (disch := omega) only [s4 hw, r4_0 hw, s5 hw, r5_0 hw, s6 hw, r4_11 hw, k8, am_addE, am_subE, am_mulE, am_laddE, am_lsubE, am_upO, am_upS, am_stS, am_stO, am_tnn, am_brl, am_brg, am_bre, am_brn, am_brG, am_brL, am_st1, am_no2, am_st2, am_clr, and_self, true_and, and_true, true_or, or_true, List.length_cons, List.length_nil] <;> omega) ?_
          refine am_wp_pc (pc' := 78) rfl ?_
          refine am_wp_go rfl (by simp (disch := omega) only [s4 hw, r4_0 hw, s5 hw, r5_0 hw, s6 hw, r4_11 hw, k8, am_addE, am_subE, am_mulE, am_laddE, am_lsubE, am_upO, am_upS, am_stS, am_stO, am_tnn, am_brl, am_brg, am_bre, am_brn, am_brG, am_brL, am_st1, am_no2, am_st2, am_clr, and_self, true_and, and_true, true_or, or_true, List.length_cons, List.length_nil] <;> omega) ?_
          try simp (disch := omega) only [s4 hw, r4_0 hw, s5 hw, r5_0 hw, s6 hw, r4_11 hw, k8, am_addE, am_subE, am_mulE, am_laddE, am_lsubE, am_upO, am_upS, am_stS, am_stO, am_tnn, am_brl, am_brg, am_bre, am_brn, am_brG, am_brL, am_st1, am_no2, am_st2, am_clr]
          refine am_wp_ret rfl rfl ?_
          exact h
        · refine am_wp_go rfl (by simp (disch := omega) only [s4 hw, r4_0 hw, s5 hw, r5_0 hw, s6 hw, r4_11 hw, k8, am_addE, am_subE, am_mulE, am_laddE, am_lsubE, am_upO, am_upS, am_stS, am_stO, am_tnn, am_brl, am_brg, am_bre, am_brn, am_brG, am_brL, am_st1, am_no2, am_st2, am_clr, and_self, true_and, and_true, true_or, or_true, List.length_cons, List.length_nil] <;> omega) ?_
          try simp (disch := omega) only [s4 hw, r4_0 hw, s5 hw, r5_0 hw, s6 hw, r4_11 hw, k8, am_addE, am_subE, am_mulE, am_laddE, am_lsubE, am_upO, am_upS, am_stS, am_stO, am_tnn, am_brl, am_brg, am_bre, am_brn, am_brG, am_brL, am_st1, am_no2, am_st2, am_clr]
          refine am_wp_br (fun b20 => ?_) (fun b20 => ?_)
          · refine am_wp_go rfl (by simp (disch := omega) only [s4 hw, r4_0 hw, s5 hw, r5_0 hw, s6 hw, r4_11 hw, k8, am_addE, am_subE, am_mulE, am_laddE, am_lsubE, am_upO, am_upS, am_stS, am_stO, am_tnn, am_brl, am_brg, am_bre, am_brn, am_brG, am_brL, am_st1, am_no2, am_st2, am_clr, and_self, true_and, and_true, true_or, or_true, List.length_cons, List.length_nil] <;> omega) ?_
            refine am_wp_pc (pc' := 56) rfl ?_
            refine am_wp_go rfl (by simp (disch := omega) only [s4 hw, r4_0 hw, s5 hw, r5_0 hw, s6 hw, r4_11 hw, k8, am_addE, am_subE, am_mulE, am_laddE, am_lsubE, am_upO, am_upS, am_stS, am_stO, am_tnn, am_brl, am_brg, am_bre, am_brn, am_brG, am_brL, am_st1, am_no2, am_st2, am_clr, and_self, true_and, and_true, true_or, or_true, List.length_cons, List.length_nil] <;> omega) ?_
            refine am_wp_pc (pc' := 78) rfl ?_
            refine am_wp_go rfl (by simp (disch := omega) only [s4 hw, r4_0 hw, s5 hw, r5_0 hw, s6 hw, r4_11 hw, k8, am_addE, am_subE, am_mulE, am_laddE, am_lsubE, am_upO, am_upS, am_stS, am_stO, am_tnn, am_brl, am_brg, am_bre, am_brn, am_brG, am_brL, am_st1, am_no2, am_st2, am_clr, and_self, true_and, and_true, true_or, or_true, List.length_cons, List.length_nil] <;> omega) ?_
            try simp (disch := omega) only [s4 hw, r4_0 hw, s5 hw, r5_0 hw, s6 hw, r4_11 hw, k8, am_addE, am_subE, am_mulE, am_laddE, am_lsubE, am_upO, am_upS, am_stS, am_stO, am_tnn, am_brl, am_brg, am_bre, am_brn, am_brG, am_brL, am_st1, am_no2, am_st2, am_clr]
            refine am_wp_ret rfl rfl ?_
            exact h
          · refine am_wp_go rfl (by simp (disch := omega) only [s4 hw, r4_0 hw, s5 hw, r5_0 hw, s6 hw, r4_11 hw, k8, am_addE, am_subE, am_mulE, am_laddE, am_lsubE, am_upO, am_upS, am_stS, am_stO, am_tnn, am_brl, am_brg, am_bre, am_brn, am_brG, am_brL, am_st1, am_no2, am_st2, am_clr, and_self, true_and, and_true, true_or, or_true, List.length_cons, List.length_nil] <;> omega) ?_
            try simp (disch := omega) only [s4 hw, r4_0 hw, s5 hw, r5_0 hw, s6 hw, r4_11 hw, k8, am_addE, am_subE, am_mulE, am_laddE, am_lsubE, am_upO, am_upS, am_stS, am_stO, am_tnn, am_brl, am_brg, am_bre, am_brn, am_brG, am_brL, am_st1, am_no2, am_st2, am_clr]
            refine am_wp_br (fun b25 => ?_) (fun b25 => ?_)
            · refine am_wp_go rfl (by simp (disch := omega) only [s4 hw, r4_0 hw, s5 hw, r5_0 hw, s6 hw, r4_11 hw, k8, am_addE, am_subE, am_mulE, am_laddE, am_lsubE, am_upO, am_upS, am_stS, am_stO, am_tnn, am_brl, am_brg, am_bre, am_brn, am_brG, am_brL, am_st1, am_no2, am_st2, am_clr, and_self, true_and, and_true, true_or, or_true, List.length_cons, List.length_nil] <;> omega) ?_
              refine am_wp_pc (pc' := 56) rfl ?_
              refine am_wp_go rfl (by simp (disch := omega) only [s4 hw, r4_0 hw, s5 hw, r5_0 hw, s6 hw, r4_11 hw, k8, am_addE, am_subE, am_mulE, am_laddE, am_lsubE, am_upO, am_upS, am_stS, am_stO, am_tnn, am_brl, am_brg, am_bre, am_brn, am_brG, am_brL, am_st1, am_no2, am_st2, am_clr, and_self, true_and, and_true, true_or, or_true, List.length_cons, List.length_nil] <;> omega) ?_
              refine am_wp_pc (pc' := 78) rfl ?_
              refine am_wp_go rfl (by simp (disch := omega) only [s4 hw, r4_0 hw, s5 hw, r5_0 hw, s6 hw, r4_11 hw, k8, am_addE, am_subE, am_mulE, am_laddE, am_lsubE, am_upO, am_upS, am_stS, am_stO, am_tnn, am_brl, am_brg, am_bre, am_brn, am_brG, am_brL, am_st1, am_no2, am_st2, am_clr, and_self, true_and, and_true, true_or, or_true, List.length_cons, List.length_nil] <;> omega) ?_
              try simp (disch := omega) only [s4 hw, r4_0 hw, s5 hw, r5_0 hw, s6 hw, r4_11 hw, k8, am_addE, am_subE, am_mulE, am_laddE, am_lsubE, am_upO, am_upS, am_stS, am_stO, am_tnn, am_brl, am_brg, am_bre, am_brn, am_brG, am_brL, am_st1, am_no2, am_st2, am_clr]
              refine am_wp_ret rfl rfl ?_
              exact h
            · refine am_wp_go rfl (by simp (disch := omega) only [s4 hw, r4_0 hw, s5 hw, r5_0 hw, s6 hw, r4_11 hw, k8, am_addE, am_subE, am_mulE, am_laddE, am_lsubE, am_upO, am_upS, am_stS, am_stO, am_tnn, am_brl, am_brg, am_bre, am_brn, am_brG, am_brL, am_st1, am_no2, am_st2, am_clr, and_self, true_and, and_true, true_or, or_true, List.length_cons, List.length_nil] <;> omega) ?_
              try simp (disch := omega) only [s4 hw, r4_0 hw, s5 hw, r5_0 hw, s6 hw, r4_11 hw, k8, am_addE, am_subE, am_mulE, am_laddE, am_lsubE, am_upO, am_upS, am_stS, am_stO, am_tnn, am_brl, am_brg, am_bre, am_brn, am_brG, am_brL, am_st1, am_no2, am_st2, am_clr]
              refine am_wp_br (fun b32 => ?_) (fun b32 => ?_)
              · refine am_wp_go rfl (by simp (disch := omega) only [s4 hw, r4_0 hw, s5 hw, r5_0 hw, s6 hw, r4_11 hw, k8, am_addE, am_subE, am_mulE, am_laddE, am_lsubE, am_upO, am_upS, am_stS, am_stO, am_tnn, am_brl, am_brg, am_bre, am_brn, am_brG, am_brL, am_st1, am_no2, am_st2, am_clr, and_self, true_and, and_true, true_or, or_true, List.length_cons, List.length_nil] <;> omega) ?_
                refine am_wp_pc (pc' := 56) rfl ?_
                refine am_wp_go rfl (by simp (disch := omega) only [s4 hw, r4_0 hw, s5 hw, r5_0 hw, s6 hw, r4_11 hw, k8, am_addE, am_subE, am_mulE, am_laddE, am_lsubE, am_upO, am_upS, am_stS, am_stO, am_tnn, am_brl, am_brg, am_bre, am_brn, am_brG, am_brL, am_st1, am_no2, am_st2, am_clr, and_self, true_and, and_true, true_or, or_true, List.length_cons, List.length_nil] <;> omega) ?_
                refine am_wp_pc (pc' := 78) rfl ?_
                refine am_wp_go rfl (by simp (disch := omega) only [s4 hw, r4_0 hw, s5 hw, r5_0 hw, s6 hw, r4_11 hw, k8, am_addE, am_subE, am_mulE, am_laddE, am_lsubE, am_upO, am_upS, am_stS, am_stO, am_tnn, am_brl, am_brg, am_bre, am_brn, am_brG, am_brL, am_st1, am_no2, am_st2, am_clr, and_self, true_and, and_true, true_or, or_true, List.length_cons, List.length_nil] <;> omega) ?_
                try simp (disch := omega) only [s4 hw, r4_0 hw, s5 hw, r5_0 hw, s6 hw, r4_11 hw, k8, am_addE, am_subE, am_mulE, am_laddE, am_lsubE, am_upO, am_upS, am_stS, am_stO, am_tnn, am_brl, am_brg, am_bre, am_brn, am_brG, am_brL, am_st1, am_no2, am_st2, am_clr]
                refine am_wp_ret rfl rfl ?_
                exact h
              · refine am_wp_go rfl (by simp (disch := omega) only [s4 hw, r4_0 hw, s5 hw, r5_0 hw, s6 hw, r4_11 hw, k8, am_addE, am_subE, am_mulE, am_laddE, am_lsubE, am_upO, am_upS, am_stS, am_stO, am_tnn, am_brl, am_brg, am_bre, am_brn, am_brG, am_brL, am_st1, am_no2, am_st2, am_clr, and_self, true_and, and_true, true_or, or_true, List.length_cons, List.length_nil] <;> omega) ?_
                refine am_wp_pc (pc' := 47) rfl ?_
                refine am_wp_go rfl (by simp (disch := omega) only [s4 hw, r4_0 hw, s5 hw, r5_0 hw, s6 hw, r4_11 hw, k8, am_addE, am_subE, am_mulE, am_laddE, am_lsubE, am_upO, am_upS, am_stS, am_stO, am_tnn, am_brl, am_brg, am_bre, am_brn, am_brG, am_brL, am_st1, am_no2, am_st2, am_clr, and_self, true_and, and_true, true_or, or_true, List.length_cons, List.length_nil] <;> omega) ?_
                try simp (disch := omega) only [s4 hw, r4_0 hw, s5 hw, r5_0 hw, s6 hw, r4_11 hw, k8, am_addE, am_subE, am_mulE, am_laddE, am_lsubE, am_upO, am_upS, am_stS, am_stO, am_tnn, am_brl, am_brg, am_bre, am_brn, am_brG, am_brL, am_st1, am_no2, am_st2, am_clr]
                refine am_wp_cc rfl rfl rfl (trivial) (w_fewestPlaces (by omega) ⟨_, rfl, ?_⟩)
                refine am_wp_go rfl (by simp (disch := omega) only [s4 hw, r4_0 hw, s5 hw, r5_0 hw, s6 hw, r4_11 hw, k8, am_addE, am_subE, am_mulE, am_laddE, am_lsubE, am_upO, am_upS, am_stS, am_stO, am_tnn, am_brl, am_brg, am_bre, am_brn, am_brG, am_brL, am_st1, am_no2, am_st2, am_clr, and_self, true_and, and_true, true_or, or_true, List.length_cons, List.length_nil] <;> omega) ?_
                try simp (disch := omega) only [s4 hw, r4_0 hw, s5 hw, r5_0 hw, s6 hw, r4_11 hw, k8, am_addE, am_subE, am_mulE, am_laddE, am_lsubE, am_upO, am_upS, am_stS, am_stO, am_tnn, am_brl, am_brg, am_bre, am_brn, am_brG, am_brL, am_st1, am_no2, am_st2, am_clr]
                refine am_wp_br (fun b62 => ?_) (fun b62 => ?_)
                · refine am_wp_go rfl (by simp (disch := omega) only [s4 hw, r4_0 hw, s5 hw, r5_0 hw, s6 hw, r4_11 hw, k8, am_addE, am_subE, am_mulE, am_laddE, am_lsubE, am_upO, am_upS, am_stS, am_stO, am_tnn, am_brl, am_brg, am_bre, am_brn, am_brG, am_brL, am_st1, am_no2, am_st2, am_clr, and_self, true_and, and_true, true_or, or_true, List.length_cons, List.length_nil] <;> omega) ?_
                  try simp (disch := omega) only [s4 hw, r4_0 hw, s5 hw, r5_0 hw, s6 hw, r4_11 hw, k8, am_addE, am_subE, am_mulE, am_laddE, am_lsubE, am_upO, am_upS, am_stS, am_stO, am_tnn, am_brl, am_brg, am_bre, am_brn, am_brG, am_brL, am_st1, am_no2, am_st2, am_clr]
                  refine am_wp_ret rfl rfl ?_
                  exact h
                · refine am_wp_go rfl (by simp (disch := omega) only [s4 hw, r4_0 hw, s5 hw, r5_0 hw, s6 hw, r4_11 hw, k8, am_addE, am_subE, am_mulE, am_laddE, am_lsubE, am_upO, am_upS, am_stS, am_stO, am_tnn, am_brl, am_brg, am_bre, am_brn, am_brG, am_brL, am_st1, am_no2, am_st2, am_clr, and_self, true_and, and_true, true_or, or_true, List.length_cons, List.length_nil] <;> omega) ?_
                  try simp (disch := omega) only [s4 hw, r4_0 hw, s5 hw, r5_0 hw, s6 hw, r4_11 hw, k8, am_addE, am_subE, am_mulE, am_laddE, am_lsubE, am_upO, am_upS, am_stS, am_stO, am_tnn, am_brl, am_brg, am_bre, am_brn, am_brG, am_brL, am_st1, am_no2, am_st2, am_clr]
                  refine am_wp_br (fun b75 => ?_) (fun b75 => ?_)
                  · refine am_wp_go rfl (by simp (disch := omega) only [s4 hw, r4_0 hw, s5 hw, r5_0 hw, s6 hw, r4_11 hw, k8, am_addE, am_subE, am_mulE, am_laddE, am_lsubE, am_upO, am_upS, am_stS, am_stO, am_tnn, am_brl, am_brg, am_bre, am_brn, am_brG, am_brL, am_st1, am_no2, am_st2, am_clr, and_self, true_and, and_true, true_or, or_true, List.length_cons, List.length_nil] <;> omega) ?_
                    try simp (disch := omega) only [s4 hw, r4_0 hw, s5 hw, r5_0 hw, s6 hw, r4_11 hw, k8, am_addE, am_subE, am_mulE, am_laddE, am_lsubE, am_upO, am_upS, am_stS, am_stO, am_tnn, am_brl, am_brg, am_bre, am_brn, am_brG, am_brL, am_st1, am_no2, am_st2, am_clr]
                    exfalso; omega
                  · refine am_wp_go rfl (by simp (disch := omega) only [s4 hw, r4_0 hw, s5 hw, r5_0 hw, s6 hw, r4_11 hw, k8, am_addE, am_subE, am_mulE, am_laddE, am_lsubE, am_upO, am_upS, am_stS, am_stO, am_tnn, am_brl, am_brg, am_bre, am_brn, am_brG, am_brL, am_st1, am_no2, am_st2, am_clr, and_self, true_and, and_true, true_or, or_true, List.length_cons, List.length_nil] <;> omega) ?_
                    try simp (disch := omega) only [s4 hw, r4_0 hw, s5 hw, r5_0 hw, s6 hw, r4_11 hw, k8, am_addE, am_subE, am_mulE, am_laddE, am_lsubE, am_upO, am_upS, am_stS, am_stO, am_tnn, am_brl, am_brg, am_bre, am_brn, am_brG, am_brL, am_st1, am_no2, am_st2, am_clr]
                    refine am_wp_ret rfl rfl ?_
                    exact h
-- the reference's half of hotel()
set_option maxRecDepth 8000 in
set_option maxHeartbeats 4000000 in
theorem r_hotel {n u a : Int} (hw : wd sh R) (hb : beg I) (hk : wk (lw I)) (h0 : ¬ hotOk (lw I) n u a → ∀ J, rq I J → Q (am_yi (-1)) (m, sl, sh, J, R)) (h1 : hotOk (lw I) n u a → ∀ J D, (∀ a, ¬ (a = 124 ∨ a = 126 ∨ a = 155 ∨ a = 156) → J a = I a) → (∀ j, j ≠ 0 → j ≠ 23 → j ≠ 53 → J 124 j = I 124 j) → now_same I J → hTab (lw I) (fewN n u a).toNat 999999 D → J 124 53 = (nK (lw I) : Int) → (∀ k, k < nK (lw I) → J 156 k = (hbt D (lw I) (fewN n u a).toNat k : Int)) → Q (am_yi (D (fewN n u a).toNat)) (m, sl, sh, J, R)) : am_wp (d + 2) 300 0 [some (.inr (.inr (124))), some (.inl (n)), some (.inl (u)), some (.inl (a)), none, none, none, none, none, none] [] (m, sl, sh, I, R) Q := by
  have n3 := wk_nK hk
  unfold hotOk at h0 h1
  refine am_wp_go rfl (by simp (disch := omega) only [s124 hw, am_upO, am_upS, and_self, true_and, and_true] <;> omega) ?_
  have q0 := rq_thrown (I := I) (x := 0)
  have z0 : ∀ a, a ≠ 124 → am_up I 124 0 0 a = I a := fun a ha => am_upO ha
  have z1 : ∀ j, j ≠ 0 → am_up I 124 0 0 124 j = I 124 j := fun j hj => by rw [am_upS, am_stO hj]
  generalize am_up I 124 0 0 = I0 at q0 z0 z1 ⊢
  refine am_wp_cc rfl rfl rfl (congrArg Prod.fst (s124 hw)) (w_M_lay hw (beg_rq q0 hb) (fun J j1 j2 j3 j4 => ⟨_, rfl, ?_⟩))
  have q1 := rq_trans q0 (rq_lay j1 j2 j3 j4)
  rw [rq_lw q0] at j4
  rw [← j4] at hk h0 h1 n3
  refine am_wp_go rfl (by simp (disch := omega) only [s124 hw, r124_14 hw, s126 hw, am_b0, am_bn0, Int.reduceToNat, am_addE, am_subE, am_mulE, am_laddE, am_lsubE, am_upO, am_upS, am_stS, am_stO, am_tnn, am_brl, am_brg, am_bre, am_brn, am_brG, am_brL, am_st1, am_no2, am_st2, am_clr, and_self, true_and, and_true, true_or, or_true, List.length_cons, List.length_nil] <;> omega) ?_
  try simp (disch := omega) only [s124 hw, r124_14 hw, s126 hw, am_b0, am_bn0, Int.reduceToNat, am_addE, am_subE, am_mulE, am_laddE, am_lsubE, am_upO, am_upS, am_stS, am_stO, am_tnn, am_brl, am_brg, am_bre, am_brn, am_brG, am_brL, am_st1, am_no2, am_st2, am_clr]
  refine am_wp_cc rfl rfl rfl (trivial) (w_M_isIn ⟨_, rfl, ?_⟩)
  refine am_wp_go rfl (by simp (disch := omega) only [s124 hw, r124_14 hw, s126 hw, am_b0, am_bn0, Int.reduceToNat, am_addE, am_subE, am_mulE, am_laddE, am_lsubE, am_upO, am_upS, am_stS, am_stO, am_tnn, am_brl, am_brg, am_bre, am_brn, am_brG, am_brL, am_st1, am_no2, am_st2, am_clr, and_self, true_and, and_true, true_or, or_true, List.length_cons, List.length_nil] <;> omega) ?_
  try simp (disch := omega) only [s124 hw, r124_14 hw, s126 hw, am_b0, am_bn0, Int.reduceToNat, am_addE, am_subE, am_mulE, am_laddE, am_lsubE, am_upO, am_upS, am_stS, am_stO, am_tnn, am_brl, am_brg, am_bre, am_brn, am_brG, am_brL, am_st1, am_no2, am_st2, am_clr]
  refine am_wp_br (fun b17 => ?_) (fun b17 => ?_)
  · refine am_wp_go rfl (by simp (disch := omega) only [s124 hw, r124_14 hw, s126 hw, am_b0, am_bn0, Int.reduceToNat, am_addE, am_subE, am_mulE, am_laddE, am_lsubE, am_upO, am_upS, am_stS, am_stO, am_tnn, am_brl, am_brg, am_bre, am_brn, am_brG, am_brL, am_st1, am_no2, am_st2, am_clr, and_self, true_and, and_true, true_or, or_true, List.length_cons, List.length_nil] <;> omega) ?_
    try simp (disch := omega) only [s124 hw, r124_14 hw, s126 hw, am_b0, am_bn0, Int.reduceToNat, am_addE, am_subE, am_mulE, am_laddE, am_lsubE, am_upO, am_upS, am_stS, am_stO, am_tnn, am_brl, am_brg, am_bre, am_brn, am_brG, am_brL, am_st1, am_no2, am_st2, am_clr]
    refine am_wp_ret rfl rfl ?_
    exact h0 (by omega) _ q1
  · refine am_wp_go rfl (by simp (disch := omega) only [s124 hw, r124_14 hw, s126 hw, am_b0, am_bn0, Int.reduceToNat, am_addE, am_subE, am_mulE, am_laddE, am_lsubE, am_upO, am_upS, am_stS, am_stO, am_tnn, am_brl, am_brg, am_bre, am_brn, am_brG, am_brL, am_st1, am_no2, am_st2, am_clr, and_self, true_and, and_true, true_or, or_true, List.length_cons, List.length_nil] <;> omega) ?_
    try simp (disch := omega) only [s124 hw, r124_14 hw, s126 hw, am_b0, am_bn0, Int.reduceToNat, am_addE, am_subE, am_mulE, am_laddE, am_lsubE, am_upO, am_upS, am_stS, am_stO, am_tnn, am_brl, am_brg, am_bre, am_brn, am_brG, am_brL, am_st1, am_no2, am_st2, am_clr]
    refine am_wp_cc rfl rfl rfl (trivial) (w_M_isIn ⟨_, rfl, ?_⟩)
    refine am_wp_go rfl (by simp (disch := omega) only [s124 hw, r124_14 hw, s126 hw, am_b0, am_bn0, Int.reduceToNat, am_addE, am_subE, am_mulE, am_laddE, am_lsubE, am_upO, am_upS, am_stS, am_stO, am_tnn, am_brl, am_brg, am_bre, am_brn, am_brG, am_brL, am_st1, am_no2, am_st2, am_clr, and_self, true_and, and_true, true_or, or_true, List.length_cons, List.length_nil] <;> omega) ?_
    try simp (disch := omega) only [s124 hw, r124_14 hw, s126 hw, am_b0, am_bn0, Int.reduceToNat, am_addE, am_subE, am_mulE, am_laddE, am_lsubE, am_upO, am_upS, am_stS, am_stO, am_tnn, am_brl, am_brg, am_bre, am_brn, am_brG, am_brL, am_st1, am_no2, am_st2, am_clr]
    refine am_wp_br (fun b27 => ?_) (fun b27 => ?_)
    · refine am_wp_go rfl (by simp (disch := omega) only [s124 hw, r124_14 hw, s126 hw, am_b0, am_bn0, Int.reduceToNat, am_addE, am_subE, am_mulE, am_laddE, am_lsubE, am_upO, am_upS, am_stS, am_stO, am_tnn, am_brl, am_brg, am_bre, am_brn, am_brG, am_brL, am_st1, am_no2, am_st2, am_clr, and_self, true_and, and_true, true_or, or_true, List.length_cons, List.length_nil] <;> omega) ?_
      try simp (disch := omega) only [s124 hw, r124_14 hw, s126 hw, am_b0, am_bn0, Int.reduceToNat, am_addE, am_subE, am_mulE, am_laddE, am_lsubE, am_upO, am_upS, am_stS, am_stO, am_tnn, am_brl, am_brg, am_bre, am_brn, am_brG, am_brL, am_st1, am_no2, am_st2, am_clr]
      refine am_wp_ret rfl rfl ?_
      exact h0 (by omega) _ q1
    · refine am_wp_go rfl (by simp (disch := omega) only [s124 hw, r124_14 hw, s126 hw, am_b0, am_bn0, Int.reduceToNat, am_addE, am_subE, am_mulE, am_laddE, am_lsubE, am_upO, am_upS, am_stS, am_stO, am_tnn, am_brl, am_brg, am_bre, am_brn, am_brG, am_brL, am_st1, am_no2, am_st2, am_clr, and_self, true_and, and_true, true_or, or_true, List.length_cons, List.length_nil] <;> omega) ?_
      try simp (disch := omega) only [s124 hw, r124_14 hw, s126 hw, am_b0, am_bn0, Int.reduceToNat, am_addE, am_subE, am_mulE, am_laddE, am_lsubE, am_upO, am_upS, am_stS, am_stO, am_tnn, am_brl, am_brg, am_bre, am_brn, am_brG, am_brL, am_st1, am_no2, am_st2, am_clr]
      refine am_wp_cc rfl rfl rfl (trivial) (w_M_isIn ⟨_, rfl, ?_⟩)
      refine am_wp_go rfl (by simp (disch := omega) only [s124 hw, r124_14 hw, s126 hw, am_b0, am_bn0, Int.reduceToNat, am_addE, am_subE, am_mulE, am_laddE, am_lsubE, am_upO, am_upS, am_stS, am_stO, am_tnn, am_brl, am_brg, am_bre, am_brn, am_brG, am_brL, am_st1, am_no2, am_st2, am_clr, and_self, true_and, and_true, true_or, or_true, List.length_cons, List.length_nil] <;> omega) ?_
      try simp (disch := omega) only [s124 hw, r124_14 hw, s126 hw, am_b0, am_bn0, Int.reduceToNat, am_addE, am_subE, am_mulE, am_laddE, am_lsubE, am_upO, am_upS, am_stS, am_stO, am_tnn, am_brl, am_brg, am_bre, am_brn, am_brG, am_brL, am_st1, am_no2, am_st2, am_clr]
      refine am_wp_br (fun b38 => ?_) (fun b38 => ?_)
      · refine am_wp_go rfl (by simp (disch := omega) only [s124 hw, r124_14 hw, s126 hw, am_b0, am_bn0, Int.reduceToNat, am_addE, am_subE, am_mulE, am_laddE, am_lsubE, am_upO, am_upS, am_stS, am_stO, am_tnn, am_brl, am_brg, am_bre, am_brn, am_brG, am_brL, am_st1, am_no2, am_st2, am_clr, and_self, true_and, and_true, true_or, or_true, List.length_cons, List.length_nil] <;> omega) ?_
        try simp (disch := omega) only [s124 hw, r124_14 hw, s126 hw, am_b0, am_bn0, Int.reduceToNat, am_addE, am_subE, am_mulE, am_laddE, am_lsubE, am_upO, am_upS, am_stS, am_stO, am_tnn, am_brl, am_brg, am_bre, am_brn, am_brG, am_brL, am_st1, am_no2, am_st2, am_clr]
        refine am_wp_cc rfl rfl rfl (trivial) (w_M_placesFor (by omega) ⟨_, rfl, ?_⟩)
        refine am_wp_go rfl (by simp (disch := omega) only [s124 hw, r124_14 hw, s126 hw, am_b0, am_bn0, Int.reduceToNat, am_addE, am_subE, am_mulE, am_laddE, am_lsubE, am_upO, am_upS, am_stS, am_stO, am_tnn, am_brl, am_brg, am_bre, am_brn, am_brG, am_brL, am_st1, am_no2, am_st2, am_clr, and_self, true_and, and_true, true_or, or_true, List.length_cons, List.length_nil] <;> omega) ?_
        try simp (disch := omega) only [s124 hw, r124_14 hw, s126 hw, am_b0, am_bn0, Int.reduceToNat, am_addE, am_subE, am_mulE, am_laddE, am_lsubE, am_upO, am_upS, am_stS, am_stO, am_tnn, am_brl, am_brg, am_bre, am_brn, am_brG, am_brL, am_st1, am_no2, am_st2, am_clr]
        refine am_wp_br (fun b63 => ?_) (fun b63 => ?_)
        · refine am_wp_go rfl (by simp (disch := omega) only [s124 hw, r124_14 hw, s126 hw, am_b0, am_bn0, Int.reduceToNat, am_addE, am_subE, am_mulE, am_laddE, am_lsubE, am_upO, am_upS, am_stS, am_stO, am_tnn, am_brl, am_brg, am_bre, am_brn, am_brG, am_brL, am_st1, am_no2, am_st2, am_clr, and_self, true_and, and_true, true_or, or_true, List.length_cons, List.length_nil] <;> omega) ?_
          try simp (disch := omega) only [s124 hw, r124_14 hw, s126 hw, am_b0, am_bn0, Int.reduceToNat, am_addE, am_subE, am_mulE, am_laddE, am_lsubE, am_upO, am_upS, am_stS, am_stO, am_tnn, am_brl, am_brg, am_bre, am_brn, am_brG, am_brL, am_st1, am_no2, am_st2, am_clr]
          refine am_wp_ret rfl rfl ?_
          exact h0 (by omega) _ q1
        · have hf := fewN_le (n := n) (u := u) (a := a) (by omega) b63
          obtain ⟨w, hfw⟩ : ∃ w : Nat, fewN n u a = (w : Int) := ⟨(fewN n u a).toNat, by omega⟩
          rw [hfw]
          rw [hfw] at b63 hf
          have n4 : J 126 7 = (nK (J 126) : Int) := n3.1
          refine am_wp_go rfl (by simp (disch := omega) only [s124 hw, r124_14 hw, s126 hw, n4, am_b0, am_bn0, Int.reduceToNat, am_addE, am_subE, am_mulE, am_laddE, am_lsubE, am_upO, am_upS, am_stS, am_stO, am_tnn, am_brl, am_brg, am_bre, am_brn, am_brG, am_brL, am_st1, am_no2, am_st2, am_clr, and_self, true_and, and_true, true_or, or_true, List.length_cons, List.length_nil] <;> omega) ?_
          try simp (disch := omega) only [s124 hw, r124_14 hw, s126 hw, n4, am_b0, am_bn0, Int.reduceToNat, am_addE, am_subE, am_mulE, am_laddE, am_lsubE, am_upO, am_upS, am_stS, am_stO, am_tnn, am_brl, am_brg, am_bre, am_brn, am_brG, am_brL, am_st1, am_no2, am_st2, am_clr]
          refine am_wp_br (fun b68 => ?_) (fun b68 => ?_)
          · have h := h1 (by omega)
            rw [hfw, am_tnn] at h
            clear h0 h1
            refine am_wp_go rfl (by simp (disch := omega) only [s124 hw, r124_14 hw, s126 hw, n4, am_b0, am_bn0, Int.reduceToNat, am_addE, am_subE, am_mulE, am_laddE, am_lsubE, am_upO, am_upS, am_stS, am_stO, am_tnn, am_brl, am_brg, am_bre, am_brn, am_brG, am_brL, am_st1, am_no2, am_st2, am_clr, and_self, true_and, and_true, true_or, or_true, List.length_cons, List.length_nil] <;> omega) ?_
            try simp (disch := omega) only [s124 hw, r124_14 hw, s126 hw, n4, am_b0, am_bn0, Int.reduceToNat, am_addE, am_subE, am_mulE, am_laddE, am_lsubE, am_upO, am_upS, am_stS, am_stO, am_tnn, am_brl, am_brg, am_bre, am_brn, am_brG, am_brL, am_st1, am_no2, am_st2, am_clr]
            refine am_lp0 (P := fun p => ∀ K, (∀ a, a ≠ 155 → K a = J a) → (∀ q, q < p → K 155 (201 * nK (J 126) + q) = if q = 0 then 0 else 999999) → am_wp (d + 2) 300 76 [some (.inr (.inr (124))), some (.inl (n)), some (.inl (u)), some (.inl (a)), some (.inl ((w : Int))), some (.inl ((nK (J 126) : Int))), some (.inl ((p : Int))), none, none, none] [] (m, sl, sh, K, R) Q) (w + 1) (fun p hp ih K k1 k2 => ?_) J (fun _ _ => rfl) (fun q hq => absurd hq (Nat.not_lt_zero q))
            refine am_wp_go rfl (by simp (disch := omega) only [s124 hw, r124_51 hw, s155 hw, am_tnA, am_tnM, Int.reduceToNat, am_addE, am_subE, am_mulE, am_laddE, am_lsubE, am_upO, am_upS, am_stS, am_stO, am_tnn, am_brl, am_brg, am_bre, am_brn, am_brG, am_brL, am_st1, am_no2, am_st2, am_clr, and_self, true_and, and_true, true_or, or_true, List.length_cons, List.length_nil] <;> omega) ?_
            try simp (disch := omega) only [s124 hw, r124_51 hw, s155 hw, am_tnA, am_tnM, Int.reduceToNat, am_addE, am_subE, am_mulE, am_laddE, am_lsubE, am_upO, am_upS, am_stS, am_stO, am_tnn, am_brl, am_brg, am_bre, am_brn, am_brG, am_brL, am_st1, am_no2, am_st2, am_clr]
            refine am_wp_br (fun b80 => ?_) (fun b80 => ?_)
            · have kb : hBase w 999999 (K 155) (nK (J 126)) := ⟨by have := k2 0 (by omega); rwa [Nat.add_zero] at this, fun q h1 h2 => by rw [k2 q (by omega), if_neg (by omega)]⟩
              refine am_wp_go rfl (by simp (disch := omega) only [s124 hw, r124_51 hw, s155 hw, am_tnA, am_tnM, Int.reduceToNat, am_addE, am_subE, am_mulE, am_laddE, am_lsubE, am_upO, am_upS, am_stS, am_stO, am_tnn, am_brl, am_brg, am_bre, am_brn, am_brG, am_brL, am_st1, am_no2, am_st2, am_clr, and_self, true_and, and_true, true_or, or_true, List.length_cons, List.length_nil] <;> omega) ?_
              try simp (disch := omega) only [s124 hw, r124_51 hw, s155 hw, am_tnA, am_tnM, Int.reduceToNat, am_addE, am_subE, am_mulE, am_laddE, am_lsubE, am_upO, am_upS, am_stS, am_stO, am_tnn, am_brl, am_brg, am_bre, am_brn, am_brG, am_brL, am_st1, am_no2, am_st2, am_clr]
              have L : ∀ j, j ≤ nK (J 126) → ∀ (z7 z8 z9 : Option am_V) (L : Nat → Nat → Int), (∀ a, a ≠ 155 → L a = J a) → hBase w 999999 (L 155) (nK (J 126)) → (∀ k, nK (J 126) - j ≤ k → k < nK (J 126) → hRow (J 126) w (L 155) k) → (∀ k, nK (J 126) - j ≤ k → k ≤ nK (J 126) → ∀ q, q ≤ w → 0 ≤ L 155 (201 * k + q) ∧ L 155 (201 * k + q) ≤ 999999) → am_wp (d + 2) 300 121 [some (.inr (.inr (124))), some (.inl (n)), some (.inl (u)), some (.inl (a)), some (.inl ((w : Int))), some (.inl ((nK (J 126) : Int))), some (.inl (((nK (J 126) - j : Nat) : Int) - 1)), z7, z8, z9] [] (m, sl, sh, L, R) Q := by
                refine am_lp (nK (J 126)) (fun j hj ih2 z7 z8 z9 L l1 l2 l3 l4 => ?_)
                refine am_wp_go rfl (by simp (disch := omega) only [s124 hw, r124_51 hw, s155 hw, am_tnA, am_tnM, Int.reduceToNat, am_addE, am_subE, am_mulE, am_laddE, am_lsubE, am_upO, am_upS, am_stS, am_stO, am_tnn, am_brl, am_brg, am_bre, am_brn, am_brG, am_brL, am_st1, am_no2, am_st2, am_clr, and_self, true_and, and_true, true_or, or_true, List.length_cons, List.length_nil] <;> omega) ?_
                try simp (disch := omega) only [s124 hw, r124_51 hw, s155 hw, am_tnA, am_tnM, Int.reduceToNat, am_addE, am_subE, am_mulE, am_laddE, am_lsubE, am_upO, am_upS, am_stS, am_stO, am_tnn, am_brl, am_brg, am_bre, am_brn, am_brG, am_brL, am_st1, am_no2, am_st2, am_clr]
                refine am_wp_br (fun b123 => ?_) (fun b123 => ?_)
                · have hj0 : j = nK (J 126) := by omega
                  subst hj0
                  have l5 : hTab (J 126) w 999999 (L 155) := ⟨l2, fun k hk => l3 k (by omega) hk⟩
                  refine am_wp_go rfl (by simp (disch := omega) only [s124 hw, r124_51 hw, s155 hw, am_tnA, am_tnM, Int.reduceToNat, am_addE, am_subE, am_mulE, am_laddE, am_lsubE, am_upO, am_upS, am_stS, am_stO, am_tnn, am_brl, am_brg, am_bre, am_brn, am_brG, am_brL, am_st1, am_no2, am_st2, am_clr, and_self, true_and, and_true, true_or, or_true, List.length_cons, List.length_nil] <;> omega) ?_
                  try simp (disch := omega) only [s124 hw, r124_51 hw, s155 hw, am_tnA, am_tnM, Int.reduceToNat, am_addE, am_subE, am_mulE, am_laddE, am_lsubE, am_upO, am_upS, am_stS, am_stO, am_tnn, am_brl, am_brg, am_bre, am_brn, am_brG, am_brL, am_st1, am_no2, am_st2, am_clr]
                  refine am_wp_ls (am_lp0 (P := fun k => ∀ (z8 z9 : Option am_V) (V : Nat → Nat → Int), (∀ a, a ≠ 124 → a ≠ 156 → V a = L a) → (∀ i, i ≠ 53 → V 124 i = L 124 i) → V 124 53 = (nK (J 126) : Int) → (∀ i, i < k → V 156 i = (hbt (L 155) (J 126) w i : Int)) → am_wp (d + 2) 300 297 [some (.inr (.inr (124))), some (.inl (n)), some (.inl (u)), some (.inl (a)), some (.inl ((w : Int))), some (.inl ((nK (J 126) : Int))), some (.inl ((hop (L 155) (J 126) w k : Int))), some (.inl ((k : Int))), z8, z9] [] (m, sl, sh, V, R) Q) (nK (J 126)) (fun k hk1 ih3 z8 z9 V v1 v2 v3 v4 => ?_) z8 z9 _ (fun a h1 h2 => by rw [am_upO h1]) (fun i hi => by rw [am_upS, am_stO hi]) (by rw [am_upS, am_stS rfl]) (fun i hi => absurd hi (Nat.not_lt_zero i))) rfl
                  have e155 : V 155 = L 155 := v1 155 (by decide) (by decide)
                  refine am_wp_go rfl (by simp (disch := omega) only [s124 hw, r124_51 hw, s155 hw, r124_52 hw, s156 hw, e155, am_tnA, am_tnM, Int.reduceToNat, am_addE, am_subE, am_mulE, am_laddE, am_lsubE, am_upO, am_upS, am_stS, am_stO, am_tnn, am_brl, am_brg, am_bre, am_brn, am_brG, am_brL, am_st1, am_no2, am_st2, am_clr, and_self, true_and, and_true, true_or, or_true, List.length_cons, List.length_nil] <;> omega) ?_
                  try simp (disch := omega) only [s124 hw, r124_51 hw, s155 hw, r124_52 hw, s156 hw, e155, am_tnA, am_tnM, Int.reduceToNat, am_addE, am_subE, am_mulE, am_laddE, am_lsubE, am_upO, am_upS, am_stS, am_stO, am_tnn, am_brl, am_brg, am_bre, am_brn, am_brG, am_brL, am_st1, am_no2, am_st2, am_clr]
                  refine am_wp_br (fun b301 => ?_) (fun b301 => ?_)
                  · refine am_wp_go rfl (by simp (disch := omega) only [s124 hw, r124_51 hw, s155 hw, r124_52 hw, s156 hw, e155, am_tnA, am_tnM, Int.reduceToNat, am_addE, am_subE, am_mulE, am_laddE, am_lsubE, am_upO, am_upS, am_stS, am_stO, am_tnn, am_brl, am_brg, am_bre, am_brn, am_brG, am_brL, am_st1, am_no2, am_st2, am_clr, and_self, true_and, and_true, true_or, or_true, List.length_cons, List.length_nil] <;> omega) ?_
                    try simp (disch := omega) only [s124 hw, r124_51 hw, s155 hw, r124_52 hw, s156 hw, e155, am_tnA, am_tnM, Int.reduceToNat, am_addE, am_subE, am_mulE, am_laddE, am_lsubE, am_upO, am_upS, am_stS, am_stO, am_tnn, am_brl, am_brg, am_bre, am_brn, am_brG, am_brL, am_st1, am_no2, am_st2, am_clr]
                    refine am_wp_ret rfl rfl ?_
                    refine h V (L 155) (fun a ha => ?_) (fun j h1 h2 h3 => ?_) (Or.inr ⟨?_, ?_⟩) l5 v3 (fun i hi => v4 i (by omega))
                    · rw [v1 a (by omega) (by omega), l1 a (by omega), j1 a (by omega) (by omega), z0 a (by omega)]
                    · rw [v2 j h3, l1 124 (by decide), j2 j h2, z1 j h1]
                    · rw [v2 23 (by decide), l1 124 (by decide)]; exact j3
                    · rw [v1 126 (by decide) (by decide), l1 126 (by decide)]; exact j4
                  · have hb := hk.2.2.2 k (by omega)
                    have ho := hop_le (D := L 155) (W := J 126) (w := w) (k := k)
                    have s0 : (L 155 (201 * k + 0) = L 155 (201 * (k + 1) + 0)) := by
                      by_cases hkn : k + 1 = nK (J 126)
                      · rw [hkn, Nat.add_zero, Nat.add_zero, l2.1]; exact (l5.2 k (by omega)).1
                      · rw [Nat.add_zero, Nat.add_zero, (l5.2 k (by omega)).1, (l5.2 (k + 1) (by omega)).1]
                    refine am_wp_go rfl (by simp (disch := omega) only [s124 hw, r124_51 hw, s155 hw, r124_52 hw, s156 hw, e155, am_tnA, am_tnM, Int.reduceToNat, am_addE, am_subE, am_mulE, am_laddE, am_lsubE, am_upO, am_upS, am_stS, am_stO, am_tnn, am_brl, am_brg, am_bre, am_brn, am_brG, am_brL, am_st1, am_no2, am_st2, am_clr, and_self, true_and, and_true, true_or, or_true, List.length_cons, List.length_nil] <;> omega) ?_
                    try simp (disch := omega) only [s124 hw, r124_51 hw, s155 hw, r124_52 hw, s156 hw, e155, am_tnA, am_tnM, Int.reduceToNat, am_addE, am_subE, am_mulE, am_laddE, am_lsubE, am_upO, am_upS, am_stS, am_stO, am_tnn, am_brl, am_brg, am_bre, am_brn, am_brG, am_brL, am_st1, am_no2, am_st2, am_clr]
                    have T : ∀ f, ∀ (o i : Nat) (U : Nat → Nat → Int), o ≤ f → f ≤ w → i + f ≤ w → (∀ a, a ≠ 156 → U a = V a) → (∀ i, i < k → U 156 i = (hbt (L 155) (J 126) w i : Int)) → U 156 k = (i : Int) → i + (htr (L 155) (hpl (J 126) k) k f o).1 = hbt (L 155) (J 126) w k → (htr (L 155) (hpl (J 126) k) k f o).2 = hop (L 155) (J 126) w (k + 1) → am_wp (d + 2) 300 312 [some (.inr (.inr (124))), some (.inl (n)), some (.inl (u)), some (.inl (a)), some (.inl ((w : Int))), some (.inl ((nK (J 126) : Int))), some (.inl ((o : Int))), some (.inl ((k : Int))), z8, z9] [] (m, sl, sh, U, R) Q := by
                      intro f
                      induction f with
                      | zero =>
                        intro o i U ho hf hif u1 u2 u3 u4 u5
                        have : o = 0 := by omega
                        subst this
                        have f155 : U 155 = L 155 := by rw [u1 155 (by decide), e155]
                        refine am_wp_go rfl (by simp (disch := omega) only [s124 hw, r124_51 hw, s155 hw, r124_52 hw, s156 hw, f155, am_tnA, am_tnM, Int.reduceToNat, am_addE, am_subE, am_mulE, am_laddE, am_lsubE, am_upO, am_upS, am_stS, am_stO, am_tnn, am_brl, am_brg, am_bre, am_brn, am_brG, am_brL, am_st1, am_no2, am_st2, am_clr, and_self, true_and, and_true, true_or, or_true, List.length_cons, List.length_nil] <;> omega) ?_
                        try simp (disch := omega) only [s124 hw, r124_51 hw, s155 hw, r124_52 hw, s156 hw, f155, am_tnA, am_tnM, Int.reduceToNat, am_addE, am_subE, am_mulE, am_laddE, am_lsubE, am_upO, am_upS, am_stS, am_stO, am_tnn, am_brl, am_brg, am_bre, am_brn, am_brG, am_brL, am_st1, am_no2, am_st2, am_clr]
                        refine am_wp_br (fun b342 => ?_) (fun b342 => ?_)
                        · refine am_wp_go rfl (by simp (disch := omega) only [s124 hw, r124_51 hw, s155 hw, r124_52 hw, s156 hw, f155, am_tnA, am_tnM, Int.reduceToNat, am_addE, am_subE, am_mulE, am_laddE, am_lsubE, am_upO, am_upS, am_stS, am_stO, am_tnn, am_brl, am_brg, am_bre, am_brn, am_brG, am_brL, am_st1, am_no2, am_st2, am_clr, and_self, true_and, and_true, true_or, or_true, List.length_cons, List.length_nil] <;> omega) ?_
                          try simp (disch := omega) only [s124 hw, r124_51 hw, s155 hw, r124_52 hw, s156 hw, f155, am_tnA, am_tnM, Int.reduceToNat, am_addE, am_subE, am_mulE, am_laddE, am_lsubE, am_upO, am_upS, am_stS, am_stO, am_tnn, am_brl, am_brg, am_bre, am_brn, am_brG, am_brL, am_st1, am_no2, am_st2, am_clr]
                          refine am_wp_ls (ih3 (by omega) z8 z9 U (fun a h1 h2 => by rw [u1 a h2, v1 a h1 h2]) (fun i hi => by rw [u1 124 (by decide), v2 i hi]) (by rw [u1 124 (by decide)]; exact v3) (fun x hx => ?_)) (by rw [← u5]; rfl)
                          by_cases hx2 : x = k
                          · subst hx2; rw [u3, ← u4]; rfl
                          · exact u2 x (by omega)
                        · exact absurd s0 b342
                      | succ f ihf =>
                        intro o i U ho hf hif u1 u2 u3 u4 u5
                        have f155 : U 155 = L 155 := by rw [u1 155 (by decide), e155]
                        have f126 : U 126 = J 126 := by rw [u1 126 (by decide), v1 126 (by decide) (by decide), l1 126 (by decide)]
                        unfold htr at u4 u5
                        refine am_wp_go rfl (by simp (disch := omega) only [s124 hw, r124_51 hw, s155 hw, r124_52 hw, s156 hw, f155, am_tnA, am_tnM, Int.reduceToNat, am_addE, am_subE, am_mulE, am_laddE, am_lsubE, am_upO, am_upS, am_stS, am_stO, am_tnn, am_brl, am_brg, am_bre, am_brn, am_brG, am_brL, am_st1, am_no2, am_st2, am_clr, and_self, true_and, and_true, true_or, or_true, List.length_cons, List.length_nil] <;> omega) ?_
                        try simp (disch := omega) only [s124 hw, r124_51 hw, s155 hw, r124_52 hw, s156 hw, f155, am_tnA, am_tnM, Int.reduceToNat, am_addE, am_subE, am_mulE, am_laddE, am_lsubE, am_upO, am_upS, am_stS, am_stO, am_tnn, am_brl, am_brg, am_bre, am_brn, am_brG, am_brL, am_st1, am_no2, am_st2, am_clr]
                        refine am_wp_br (fun b342 => ?_) (fun b342 => ?_)
                        · rw [if_pos b342] at u4 u5
                          refine am_wp_go rfl (by simp (disch := omega) only [s124 hw, r124_51 hw, s155 hw, r124_52 hw, s156 hw, f155, am_tnA, am_tnM, Int.reduceToNat, am_addE, am_subE, am_mulE, am_laddE, am_lsubE, am_upO, am_upS, am_stS, am_stO, am_tnn, am_brl, am_brg, am_bre, am_brn, am_brG, am_brL, am_st1, am_no2, am_st2, am_clr, and_self, true_and, and_true, true_or, or_true, List.length_cons, List.length_nil] <;> omega) ?_
                          try simp (disch := omega) only [s124 hw, r124_51 hw, s155 hw, r124_52 hw, s156 hw, f155, am_tnA, am_tnM, Int.reduceToNat, am_addE, am_subE, am_mulE, am_laddE, am_lsubE, am_upO, am_upS, am_stS, am_stO, am_tnn, am_brl, am_brg, am_bre, am_brn, am_brG, am_brL, am_st1, am_no2, am_st2, am_clr]
                          refine am_wp_ls (ih3 (by omega) z8 z9 U (fun a h1 h2 => by rw [u1 a h2, v1 a h1 h2]) (fun i hi => by rw [u1 124 (by decide), v2 i hi]) (by rw [u1 124 (by decide)]; exact v3) (fun x hx => ?_)) (by rw [← u5]; rfl)
                          by_cases hx2 : x = k
                          · subst hx2; rw [u3, ← u4]; rfl
                          · exact u2 x (by omega)
                        · rw [if_neg b342] at u4 u5
                          have ho0 : o ≠ 0 := fun e => by subst e; exact b342 s0
                          have next : am_wp (d + 2) 300 312 [some (.inr (.inr (124))), some (.inl (n)), some (.inl (u)), some (.inl (a)), some (.inl ((w : Int))), some (.inl ((nK (J 126) : Int))), some (.inl (((o - hpl (J 126) k : Nat) : Int))), some (.inl ((k : Int))), z8, z9] [] (m, sl, sh, am_up U 156 k ((i : Int) + 1), R) Q := ihf (o - hpl (J 126) k) (i + 1) _ (by unfold hpl; omega) (by omega) (by omega) (fun a ha => by rw [am_upO ha, u1 a ha]) (fun x hx => by rw [am_upS, am_stO (by omega), u2 x hx]) (by rw [am_upS, am_stS rfl]; omega) (by dsimp only at u4; omega) u5
                          refine am_wp_go rfl (by simp (disch := omega) only [s124 hw, r124_51 hw, s155 hw, r124_52 hw, s156 hw, r124_14 hw, s126 hw, f155, f126, u3, am_tnA, am_tnM, Int.reduceToNat, am_addE, am_subE, am_mulE, am_laddE, am_lsubE, am_upO, am_upS, am_stS, am_stO, am_tnn, am_brl, am_brg, am_bre, am_brn, am_brG, am_brL, am_st1, am_no2, am_st2, am_clr, and_self, true_and, and_true, true_or, or_true, List.length_cons, List.length_nil] <;> omega) ?_
                          try simp (disch := omega) only [s124 hw, r124_51 hw, s155 hw, r124_52 hw, s156 hw, r124_14 hw, s126 hw, f155, f126, u3, am_tnA, am_tnM, Int.reduceToNat, am_addE, am_subE, am_mulE, am_laddE, am_lsubE, am_upO, am_upS, am_stS, am_stO, am_tnn, am_brl, am_brg, am_bre, am_brn, am_brG, am_brL, am_st1, am_no2, am_st2, am_clr]
                          refine am_wp_br (fun b370 => ?_) (fun b370 => ?_)
                          · refine am_wp_go rfl (by simp (disch := omega) only [s124 hw, r124_51 hw, s155 hw, r124_52 hw, s156 hw, r124_14 hw, s126 hw, f155, f126, u3, am_tnA, am_tnM, Int.reduceToNat, am_addE, am_subE, am_mulE, am_laddE, am_lsubE, am_upO, am_upS, am_stS, am_stO, am_tnn, am_brl, am_brg, am_bre, am_brn, am_brG, am_brL, am_st1, am_no2, am_st2, am_clr, and_self, true_and, and_true, true_or, or_true, List.length_cons, List.length_nil] <;> omega) ?_
                            try simp (disch := omega) only [s124 hw, r124_51 hw, s155 hw, r124_52 hw, s156 hw, r124_14 hw, s126 hw, f155, f126, u3, am_tnA, am_tnM, Int.reduceToNat, am_addE, am_subE, am_mulE, am_laddE, am_lsubE, am_upO, am_upS, am_stS, am_stO, am_tnn, am_brl, am_brg, am_bre, am_brn, am_brG, am_brL, am_st1, am_no2, am_st2, am_clr]
                            exact am_wp_ls next (by simp only [List.cons.injEq, Option.some.injEq, Sum.inl.injEq, and_true, true_and]; unfold hpl; omega)
                          · refine am_wp_go rfl (by simp (disch := omega) only [s124 hw, r124_51 hw, s155 hw, r124_52 hw, s156 hw, r124_14 hw, s126 hw, f155, f126, u3, am_tnA, am_tnM, Int.reduceToNat, am_addE, am_subE, am_mulE, am_laddE, am_lsubE, am_upO, am_upS, am_stS, am_stO, am_tnn, am_brl, am_brg, am_bre, am_brn, am_brG, am_brL, am_st1, am_no2, am_st2, am_clr, and_self, true_and, and_true, true_or, or_true, List.length_cons, List.length_nil] <;> omega) ?_
                            try simp (disch := omega) only [s124 hw, r124_51 hw, s155 hw, r124_52 hw, s156 hw, r124_14 hw, s126 hw, f155, f126, u3, am_tnA, am_tnM, Int.reduceToNat, am_addE, am_subE, am_mulE, am_laddE, am_lsubE, am_upO, am_upS, am_stS, am_stO, am_tnn, am_brl, am_brg, am_bre, am_brn, am_brG, am_brL, am_st1, am_no2, am_st2, am_clr]
                            exact am_wp_ls next (by simp only [List.cons.injEq, Option.some.injEq, Sum.inl.injEq, and_true, true_and]; unfold hpl; omega)
                    refine am_wp_ls (T w (hop (L 155) (J 126) w k) 0 _ ho (Nat.le_refl w) (by omega) (fun a ha => by rw [am_upO ha]) (fun i hi => by rw [am_upS, am_stO (by omega), v4 i hi]) (by rw [am_upS, am_stS rfl]; rfl) (by rw [Nat.zero_add]; rfl) rfl) rfl
                · obtain ⟨k, hk0⟩ : ∃ k, nK (J 126) - j = k + 1 := ⟨nK (J 126) - j - 1, by omega⟩
                  have hkn : k < nK (J 126) := by omega
                  have hb := hk.2.2.2 k hkn
                  have e0 : ((nK (J 126) - j : Nat) : Int) - 1 = (k : Int) := by omega
                  rw [hk0] at l3 l4
                  refine am_wp_go rfl (by simp (disch := omega) only [s124 hw, r124_51 hw, s155 hw, am_tnA, am_tnM, Int.reduceToNat, e0, am_addE, am_subE, am_mulE, am_laddE, am_lsubE, am_upO, am_upS, am_stS, am_stO, am_tnn, am_brl, am_brg, am_bre, am_brn, am_brG, am_brL, am_st1, am_no2, am_st2, am_clr, and_self, true_and, and_true, true_or, or_true, List.length_cons, List.length_nil] <;> omega) ?_
                  try simp (disch := omega) only [s124 hw, r124_51 hw, s155 hw, am_tnA, am_tnM, Int.reduceToNat, e0, am_addE, am_subE, am_mulE, am_laddE, am_lsubE, am_upO, am_upS, am_stS, am_stO, am_tnn, am_brl, am_brg, am_bre, am_brn, am_brG, am_brL, am_st1, am_no2, am_st2, am_clr]
                  refine am_wp_ls (am_lp0 (P := fun p => ∀ (z8 z9 : Option am_V) (V : Nat → Nat → Int), (∀ a, a ≠ 155 → V a = L a) → (∀ x, ¬ (201 * k ≤ x ∧ x ≤ 201 * k + w) → V 155 x = L 155 x) → (0 < p → V 155 (201 * k) = 0) → (∀ q, 1 ≤ q → q < p → V 155 (201 * k + q) = min2 (J 126 (48 + 2 * k + 1) + V 155 (201 * k + (q - hpl (J 126) k))) (V 155 (201 * (k + 1) + q))) → (∀ q, q < p → 0 ≤ V 155 (201 * k + q) ∧ V 155 (201 * k + q) ≤ 999999) → am_wp (d + 2) 300 129 [some (.inr (.inr (124))), some (.inl (n)), some (.inl (u)), some (.inl (a)), some (.inl ((w : Int))), some (.inl ((nK (J 126) : Int))), some (.inl ((k : Int))), some (.inl ((p : Int))), z8, z9] [] (m, sl, sh, V, R) Q) (w + 1) (fun p hp ih3 z8 z9 V v1 v2 v3 v4 v5 => ?_) z8 z9 L (fun _ _ => rfl) (fun _ _ => rfl) (fun h => absurd h (Nat.lt_irrefl 0)) (fun q h1 h2 => by omega) (fun q hq => absurd hq (Nat.not_lt_zero q))) rfl
                  have f126 : V 126 = J 126 := by rw [v1 126 (by decide), l1 126 (by decide)]
                  refine am_wp_go rfl (by simp (disch := omega) only [s124 hw, r124_51 hw, s155 hw, r124_14 hw, s126 hw, f126, am_tnA, am_tnM, Int.reduceToNat, am_addE, am_subE, am_mulE, am_laddE, am_lsubE, am_upO, am_upS, am_stS, am_stO, am_tnn, am_brl, am_brg, am_bre, am_brn, am_brG, am_brL, am_st1, am_no2, am_st2, am_clr, and_self, true_and, and_true, true_or, or_true, List.length_cons, List.length_nil] <;> omega) ?_
                  try simp (disch := omega) only [s124 hw, r124_51 hw, s155 hw, r124_14 hw, s126 hw, f126, am_tnA, am_tnM, Int.reduceToNat, am_addE, am_subE, am_mulE, am_laddE, am_lsubE, am_upO, am_upS, am_stS, am_stO, am_tnn, am_brl, am_brg, am_bre, am_brn, am_brG, am_brL, am_st1, am_no2, am_st2, am_clr]
                  refine am_wp_br (fun b133 => ?_) (fun b133 => ?_)
                  · have hp0 : p = w + 1 := by omega
                    subst hp0
                    refine am_wp_go rfl (by simp (disch := omega) only [s124 hw, r124_51 hw, s155 hw, r124_14 hw, s126 hw, f126, am_tnA, am_tnM, Int.reduceToNat, am_addE, am_subE, am_mulE, am_laddE, am_lsubE, am_upO, am_upS, am_stS, am_stO, am_tnn, am_brl, am_brg, am_bre, am_brn, am_brG, am_brL, am_st1, am_no2, am_st2, am_clr, and_self, true_and, and_true, true_or, or_true, List.length_cons, List.length_nil] <;> omega) ?_
                    try simp (disch := omega) only [s124 hw, r124_51 hw, s155 hw, r124_14 hw, s126 hw, f126, am_tnA, am_tnM, Int.reduceToNat, am_addE, am_subE, am_mulE, am_laddE, am_lsubE, am_upO, am_upS, am_stS, am_stO, am_tnn, am_brl, am_brg, am_bre, am_brn, am_brG, am_brL, am_st1, am_no2, am_st2, am_clr]
                    refine am_wp_ls (ih2 (by omega) (some (.inl ((w + 1 : Nat) : Int))) z8 z9 V (fun a h2 => by rw [v1 a h2, l1 a h2]) ⟨?_, fun q h1 h2 => ?_⟩ (fun i h1 h2 => ?_) (fun i h1 h2 q hq => ?_)) (by simp only [List.cons.injEq, Option.some.injEq, Sum.inl.injEq, and_true, true_and]; omega)
                    · rw [v2 _ (by omega)]; exact l2.1
                    · rw [v2 _ (by omega)]; exact l2.2 q h1 h2
                    · by_cases hik : i = k
                      · subst hik
                        exact ⟨v3 (by omega), fun q h1 h2 => v4 q h1 (by omega)⟩
                      · have r := l3 i (by omega) h2
                        refine ⟨by rw [v2 _ (by omega)]; exact r.1, fun q h1 h2 => ?_⟩
                        rw [v2 _ (by omega), v2 _ (by omega), v2 _ (by omega)]
                        exact r.2 q h1 h2
                    · by_cases hik : i = k
                      · subst hik
                        exact v5 q (by omega)
                      · rw [v2 _ (by omega)]
                        exact l4 i (by omega) h2 q hq
                  · have l10 := l4 (k + 1) (by omega) (by omega) p (by omega)
                    rw [← v2 _ (by omega)] at l10
                    -- what is written at p
                    have next : ∀ (z8 z9 : Option am_V) (x : Int), (p = 0 → x = 0) → (1 ≤ p → x = min2 (J 126 (48 + 2 * k + 1) + V 155 (201 * k + (p - hpl (J 126) k))) (V 155 (201 * (k + 1) + p))) → 0 ≤ x ∧ x ≤ 999999 → am_wp (d + 2) 300 129 [some (.inr (.inr (124))), some (.inl (n)), some (.inl (u)), some (.inl (a)), some (.inl ((w : Int))), some (.inl ((nK (J 126) : Int))), some (.inl ((k : Int))), some (.inl ((p : Int) + 1)), z8, z9] [] (m, sl, sh, am_up V 155 (201 * k + p) x, R) Q := by
                      intro z8 z9 x x0 x1 x2
                      refine am_wp_ls (ih3 (by omega) z8 z9 _ (fun a h1 => by rw [am_upO h1, v1 a h1]) (fun y hy => by rw [am_upS, am_stO (by omega), v2 y hy]) (fun _ => ?_) (fun q h1 h2 => ?_) (fun q hq => ?_)) rfl
                      · rw [am_upS]
                        by_cases hp0 : p = 0
                        · rw [am_stS (by omega)]; exact x0 hp0
                        · rw [am_stO (by omega)]; exact v3 (by omega)
                      · rw [am_upS]
                        by_cases hq : q = p
                        · subst hq
                          rw [am_stS rfl, am_stO (by unfold hpl; omega), am_stO (by omega)]
                          exact x1 h1
                        · rw [am_stO (by omega), am_stO (by omega), am_stO (by omega)]
                          exact v4 q h1 (by omega)
                      · rw [am_upS]
                        by_cases hq2 : q = p
                        · subst hq2; rw [am_stS rfl]; exact x2
                        · rw [am_stO (by omega)]; exact v5 q (by omega)
                    have z : V 155 (201 * k + (p - hpl (J 126) k)) = V 155 (201 * k + (p - hpl (J 126) k)) := rfl
                    refine am_wp_go rfl (by simp (disch := omega) only [s124 hw, r124_51 hw, s155 hw, r124_14 hw, s126 hw, f126, am_tnA, am_tnM, Int.reduceToNat, am_addE, am_subE, am_mulE, am_laddE, am_lsubE, am_upO, am_upS, am_stS, am_stO, am_tnn, am_brl, am_brg, am_bre, am_brn, am_brG, am_brL, am_st1, am_no2, am_st2, am_clr, and_self, true_and, and_true, true_or, or_true, List.length_cons, List.length_nil] <;> omega) ?_
                    try simp (disch := omega) only [s124 hw, r124_51 hw, s155 hw, r124_14 hw, s126 hw, f126, am_tnA, am_tnM, Int.reduceToNat, am_addE, am_subE, am_mulE, am_laddE, am_lsubE, am_upO, am_upS, am_stS, am_stO, am_tnn, am_brl, am_brg, am_bre, am_brn, am_brG, am_brL, am_st1, am_no2, am_st2, am_clr]
                    refine am_wp_br (fun b150 => ?_) (fun b150 => ?_)
                    · have ez : p - hpl (J 126) k = 0 := by unfold hpl; omega
                      rw [ez] at next
                      refine am_wp_go rfl (by simp (disch := omega) only [s124 hw, r124_51 hw, s155 hw, r124_14 hw, s126 hw, f126, am_tnA, am_tnM, Int.reduceToNat, am_addE, am_subE, am_mulE, am_laddE, am_lsubE, am_upO, am_upS, am_stS, am_stO, am_tnn, am_brl, am_brg, am_bre, am_brn, am_brG, am_brL, am_st1, am_no2, am_st2, am_clr, and_self, true_and, and_true, true_or, or_true, List.length_cons, List.length_nil] <;> omega) ?_
                      try simp (disch := omega) only [s124 hw, r124_51 hw, s155 hw, r124_14 hw, s126 hw, f126, am_tnA, am_tnM, Int.reduceToNat, am_addE, am_subE, am_mulE, am_laddE, am_lsubE, am_upO, am_upS, am_stS, am_stO, am_tnn, am_brl, am_brg, am_bre, am_brn, am_brG, am_brL, am_st1, am_no2, am_st2, am_clr]
                      refine am_wp_br (fun b176 => ?_) (fun b176 => ?_)
                      · have v6 := v5 0 (by omega)
                        have v3' := v3 (by omega)
                        refine am_wp_go rfl (by simp (disch := omega) only [s124 hw, r124_51 hw, s155 hw, r124_14 hw, s126 hw, f126, am_tnA, am_tnM, Int.reduceToNat, am_addE, am_subE, am_mulE, am_laddE, am_lsubE, am_upO, am_upS, am_stS, am_stO, am_tnn, am_brl, am_brg, am_bre, am_brn, am_brG, am_brL, am_st1, am_no2, am_st2, am_clr, and_self, true_and, and_true, true_or, or_true, List.length_cons, List.length_nil] <;> omega) ?_
                        try simp (disch := omega) only [s124 hw, r124_51 hw, s155 hw, r124_14 hw, s126 hw, f126, am_tnA, am_tnM, Int.reduceToNat, am_addE, am_subE, am_mulE, am_laddE, am_lsubE, am_upO, am_upS, am_stS, am_stO, am_tnn, am_brl, am_brg, am_bre, am_brn, am_brG, am_brL, am_st1, am_no2, am_st2, am_clr]
                        refine am_wp_br (fun b247 => ?_) (fun b247 => ?_)
                        · refine am_wp_go rfl (by simp (disch := omega) only [s124 hw, r124_51 hw, s155 hw, r124_14 hw, s126 hw, f126, am_tnA, am_tnM, Int.reduceToNat, am_addE, am_subE, am_mulE, am_laddE, am_lsubE, am_upO, am_upS, am_stS, am_stO, am_tnn, am_brl, am_brg, am_bre, am_brn, am_brG, am_brL, am_st1, am_no2, am_st2, am_clr, and_self, true_and, and_true, true_or, or_true, List.length_cons, List.length_nil] <;> omega) ?_
                          try simp (disch := omega) only [s124 hw, r124_51 hw, s155 hw, r124_14 hw, s126 hw, f126, am_tnA, am_tnM, Int.reduceToNat, am_addE, am_subE, am_mulE, am_laddE, am_lsubE, am_upO, am_upS, am_stS, am_stO, am_tnn, am_brl, am_brg, am_bre, am_brn, am_brG, am_brL, am_st1, am_no2, am_st2, am_clr]
                          refine next _ _ _ (by omega) (fun _ => ?_) (by omega)
                          unfold min2
                          split <;> omega
                        · refine am_wp_go rfl (by simp (disch := omega) only [s124 hw, r124_51 hw, s155 hw, r124_14 hw, s126 hw, f126, am_tnA, am_tnM, Int.reduceToNat, am_addE, am_subE, am_mulE, am_laddE, am_lsubE, am_upO, am_upS, am_stS, am_stO, am_tnn, am_brl, am_brg, am_bre, am_brn, am_brG, am_brL, am_st1, am_no2, am_st2, am_clr, and_self, true_and, and_true, true_or, or_true, List.length_cons, List.length_nil] <;> omega) ?_
                          try simp (disch := omega) only [s124 hw, r124_51 hw, s155 hw, r124_14 hw, s126 hw, f126, am_tnA, am_tnM, Int.reduceToNat, am_addE, am_subE, am_mulE, am_laddE, am_lsubE, am_upO, am_upS, am_stS, am_stO, am_tnn, am_brl, am_brg, am_bre, am_brn, am_brG, am_brL, am_st1, am_no2, am_st2, am_clr]
                          refine next _ _ _ (by omega) (fun _ => ?_) (by omega)
                          unfold min2
                          split <;> omega
                      · have hp0 : p = 0 := by omega
                        subst hp0
                        have e9 : V 155 (201 * (k + 1) + 0) = 0 := by
                          rw [v2 _ (by omega), Nat.add_zero]
                          by_cases hkl : k + 1 = nK (J 126)
                          · rw [hkl]; exact l2.1
                          · exact (l3 (k + 1) (by omega) (by omega)).1
                        refine am_wp_go rfl (by simp (disch := omega) only [s124 hw, r124_51 hw, s155 hw, r124_14 hw, s126 hw, f126, am_tnA, am_tnM, Int.reduceToNat, am_addE, am_subE, am_mulE, am_laddE, am_lsubE, am_upO, am_upS, am_stS, am_stO, am_tnn, am_brl, am_brg, am_bre, am_brn, am_brG, am_brL, am_st1, am_no2, am_st2, am_clr, and_self, true_and, and_true, true_or, or_true, List.length_cons, List.length_nil] <;> omega) ?_
                        try simp (disch := omega) only [s124 hw, r124_51 hw, s155 hw, r124_14 hw, s126 hw, f126, am_tnA, am_tnM, Int.reduceToNat, am_addE, am_subE, am_mulE, am_laddE, am_lsubE, am_upO, am_upS, am_stS, am_stO, am_tnn, am_brl, am_brg, am_bre, am_brn, am_brG, am_brL, am_st1, am_no2, am_st2, am_clr]
                        refine am_wp_br (fun b247 => ?_) (fun b247 => ?_)
                        · refine am_wp_go rfl (by simp (disch := omega) only [s124 hw, r124_51 hw, s155 hw, r124_14 hw, s126 hw, f126, am_tnA, am_tnM, Int.reduceToNat, am_addE, am_subE, am_mulE, am_laddE, am_lsubE, am_upO, am_upS, am_stS, am_stO, am_tnn, am_brl, am_brg, am_bre, am_brn, am_brG, am_brL, am_st1, am_no2, am_st2, am_clr, and_self, true_and, and_true, true_or, or_true, List.length_cons, List.length_nil] <;> omega) ?_
                          try simp (disch := omega) only [s124 hw, r124_51 hw, s155 hw, r124_14 hw, s126 hw, f126, am_tnA, am_tnM, Int.reduceToNat, am_addE, am_subE, am_mulE, am_laddE, am_lsubE, am_upO, am_upS, am_stS, am_stO, am_tnn, am_brl, am_brg, am_bre, am_brn, am_brG, am_brL, am_st1, am_no2, am_st2, am_clr]
                          exact next _ _ _ (fun _ => e9) (fun h => absurd h (by decide)) (by omega)
                        · omega
                    · have v6 := v5 (p - hpl (J 126) k) (by unfold hpl; omega)
                      have e7 : (p : Int) - J 126 (48 + 2 * k) = ((p - hpl (J 126) k : Nat) : Int) := by unfold hpl; omega
                      refine am_wp_go rfl (by simp (disch := omega) only [s124 hw, r124_51 hw, s155 hw, r124_14 hw, s126 hw, f126, am_tnA, am_tnM, Int.reduceToNat, e7, am_addE, am_subE, am_mulE, am_laddE, am_lsubE, am_upO, am_upS, am_stS, am_stO, am_tnn, am_brl, am_brg, am_bre, am_brn, am_brG, am_brL, am_st1, am_no2, am_st2, am_clr, and_self, true_and, and_true, true_or, or_true, List.length_cons, List.length_nil] <;> omega) ?_
                      try simp (disch := omega) only [s124 hw, r124_51 hw, s155 hw, r124_14 hw, s126 hw, f126, am_tnA, am_tnM, Int.reduceToNat, e7, am_addE, am_subE, am_mulE, am_laddE, am_lsubE, am_upO, am_upS, am_stS, am_stO, am_tnn, am_brl, am_brg, am_bre, am_brn, am_brG, am_brL, am_st1, am_no2, am_st2, am_clr]
                      refine am_wp_br (fun b176 => ?_) (fun b176 => ?_)
                      · refine am_wp_go rfl (by simp (disch := omega) only [s124 hw, r124_51 hw, s155 hw, r124_14 hw, s126 hw, f126, am_tnA, am_tnM, Int.reduceToNat, e7, am_addE, am_subE, am_mulE, am_laddE, am_lsubE, am_upO, am_upS, am_stS, am_stO, am_tnn, am_brl, am_brg, am_bre, am_brn, am_brG, am_brL, am_st1, am_no2, am_st2, am_clr, and_self, true_and, and_true, true_or, or_true, List.length_cons, List.length_nil] <;> omega) ?_
                        try simp (disch := omega) only [s124 hw, r124_51 hw, s155 hw, r124_14 hw, s126 hw, f126, am_tnA, am_tnM, Int.reduceToNat, e7, am_addE, am_subE, am_mulE, am_laddE, am_lsubE, am_upO, am_upS, am_stS, am_stO, am_tnn, am_brl, am_brg, am_bre, am_brn, am_brG, am_brL, am_st1, am_no2, am_st2, am_clr]
                        refine am_wp_br (fun b247 => ?_) (fun b247 => ?_)
                        · refine am_wp_go rfl (by simp (disch := omega) only [s124 hw, r124_51 hw, s155 hw, r124_14 hw, s126 hw, f126, am_tnA, am_tnM, Int.reduceToNat, e7, am_addE, am_subE, am_mulE, am_laddE, am_lsubE, am_upO, am_upS, am_stS, am_stO, am_tnn, am_brl, am_brg, am_bre, am_brn, am_brG, am_brL, am_st1, am_no2, am_st2, am_clr, and_self, true_and, and_true, true_or, or_true, List.length_cons, List.length_nil] <;> omega) ?_
                          try simp (disch := omega) only [s124 hw, r124_51 hw, s155 hw, r124_14 hw, s126 hw, f126, am_tnA, am_tnM, Int.reduceToNat, e7, am_addE, am_subE, am_mulE, am_laddE, am_lsubE, am_upO, am_upS, am_stS, am_stO, am_tnn, am_brl, am_brg, am_bre, am_brn, am_brG, am_brL, am_st1, am_no2, am_st2, am_clr]
                          refine next _ _ _ (by omega) (fun _ => ?_) (by omega)
                          unfold min2
                          split <;> omega
                        · refine am_wp_go rfl (by simp (disch := omega) only [s124 hw, r124_51 hw, s155 hw, r124_14 hw, s126 hw, f126, am_tnA, am_tnM, Int.reduceToNat, e7, am_addE, am_subE, am_mulE, am_laddE, am_lsubE, am_upO, am_upS, am_stS, am_stO, am_tnn, am_brl, am_brg, am_bre, am_brn, am_brG, am_brL, am_st1, am_no2, am_st2, am_clr, and_self, true_and, and_true, true_or, or_true, List.length_cons, List.length_nil] <;> omega) ?_
                          try simp (disch := omega) only [s124 hw, r124_51 hw, s155 hw, r124_14 hw, s126 hw, f126, am_tnA, am_tnM, Int.reduceToNat, e7, am_addE, am_subE, am_mulE, am_laddE, am_lsubE, am_upO, am_upS, am_stS, am_stO, am_tnn, am_brl, am_brg, am_bre, am_brn, am_brG, am_brL, am_st1, am_no2, am_st2, am_clr]
                          refine next _ _ _ (by omega) (fun _ => ?_) (by omega)
                          unfold min2
                          split <;> omega
                      · omega
              refine am_wp_ls (L 0 (by omega) none none none K k1 kb (fun k h1 h2 => by omega) (fun k h1 h2 q hq => ?_)) rfl
              have : k = nK (J 126) := by omega
              subst this
              rw [k2 q (by omega)]
              split <;> omega
            · have next : ∀ x : Int, (x = if p = 0 then 0 else 999999) → am_wp (d + 2) 300 76 [some (.inr (.inr (124))), some (.inl (n)), some (.inl (u)), some (.inl (a)), some (.inl ((w : Int))), some (.inl ((nK (J 126) : Int))), some (.inl ((p : Int) + 1)), none, none, none] [] (m, sl, sh, am_up K 155 (201 * nK (J 126) + p) x, R) Q := by
                intro x hx
                refine am_wp_ls (ih (by omega) _ (fun a h1 => by rw [am_upO h1, k1 a h1]) (fun q hq => ?_)) rfl
                rw [am_upS]
                by_cases hq2 : q = p
                · subst hq2; rw [am_stS rfl]; exact hx
                · rw [am_stO (by omega)]; exact k2 q (by omega)
              refine am_wp_go rfl (by simp (disch := omega) only [s124 hw, r124_51 hw, s155 hw, am_tnA, am_tnM, Int.reduceToNat, am_addE, am_subE, am_mulE, am_laddE, am_lsubE, am_upO, am_upS, am_stS, am_stO, am_tnn, am_brl, am_brg, am_bre, am_brn, am_brG, am_brL, am_st1, am_no2, am_st2, am_clr, and_self, true_and, and_true, true_or, or_true, List.length_cons, List.length_nil] <;> omega) ?_
              try simp (disch := omega) only [s124 hw, r124_51 hw, s155 hw, am_tnA, am_tnM, Int.reduceToNat, am_addE, am_subE, am_mulE, am_laddE, am_lsubE, am_upO, am_upS, am_stS, am_stO, am_tnn, am_brl, am_brg, am_bre, am_brn, am_brG, am_brL, am_st1, am_no2, am_st2, am_clr]
              refine am_wp_br (fun b100 => ?_) (fun b100 => ?_)
              · refine am_wp_go rfl (by simp (disch := omega) only [s124 hw, r124_51 hw, s155 hw, am_tnA, am_tnM, Int.reduceToNat, am_addE, am_subE, am_mulE, am_laddE, am_lsubE, am_upO, am_upS, am_stS, am_stO, am_tnn, am_brl, am_brg, am_bre, am_brn, am_brG, am_brL, am_st1, am_no2, am_st2, am_clr, and_self, true_and, and_true, true_or, or_true, List.length_cons, List.length_nil] <;> omega) ?_
                try simp (disch := omega) only [s124 hw, r124_51 hw, s155 hw, am_tnA, am_tnM, Int.reduceToNat, am_addE, am_subE, am_mulE, am_laddE, am_lsubE, am_upO, am_upS, am_stS, am_stO, am_tnn, am_brl, am_brg, am_bre, am_brn, am_brG, am_brL, am_st1, am_no2, am_st2, am_clr]
                exact next _ (by rw [if_neg (by omega)])
              · refine am_wp_go rfl (by simp (disch := omega) only [s124 hw, r124_51 hw, s155 hw, am_tnA, am_tnM, Int.reduceToNat, am_addE, am_subE, am_mulE, am_laddE, am_lsubE, am_upO, am_upS, am_stS, am_stO, am_tnn, am_brl, am_brg, am_bre, am_brn, am_brG, am_brL, am_st1, am_no2, am_st2, am_clr, and_self, true_and, and_true, true_or, or_true, List.length_cons, List.length_nil] <;> omega) ?_
                try simp (disch := omega) only [s124 hw, r124_51 hw, s155 hw, am_tnA, am_tnM, Int.reduceToNat, am_addE, am_subE, am_mulE, am_laddE, am_lsubE, am_upO, am_upS, am_stS, am_stO, am_tnn, am_brl, am_brg, am_bre, am_brn, am_brG, am_brL, am_st1, am_no2, am_st2, am_clr]
                exact next _ (by rw [if_pos (by omega)])
          · refine am_wp_go rfl (by simp (disch := omega) only [s124 hw, r124_14 hw, s126 hw, n4, am_b0, am_bn0, Int.reduceToNat, am_addE, am_subE, am_mulE, am_laddE, am_lsubE, am_upO, am_upS, am_stS, am_stO, am_tnn, am_brl, am_brg, am_bre, am_brn, am_brG, am_brL, am_st1, am_no2, am_st2, am_clr, and_self, true_and, and_true, true_or, or_true, List.length_cons, List.length_nil] <;> omega) ?_
            try simp (disch := omega) only [s124 hw, r124_14 hw, s126 hw, n4, am_b0, am_bn0, Int.reduceToNat, am_addE, am_subE, am_mulE, am_laddE, am_lsubE, am_upO, am_upS, am_stS, am_stO, am_tnn, am_brl, am_brg, am_bre, am_brn, am_brG, am_brL, am_st1, am_no2, am_st2, am_clr]
            refine am_wp_ret rfl rfl ?_
            exact h0 (by omega) _ q1
      · refine am_wp_go rfl (by simp (disch := omega) only [s124 hw, r124_14 hw, s126 hw, am_b0, am_bn0, Int.reduceToNat, am_addE, am_subE, am_mulE, am_laddE, am_lsubE, am_upO, am_upS, am_stS, am_stO, am_tnn, am_brl, am_brg, am_bre, am_brn, am_brG, am_brL, am_st1, am_no2, am_st2, am_clr, and_self, true_and, and_true, true_or, or_true, List.length_cons, List.length_nil] <;> omega) ?_
        try simp (disch := omega) only [s124 hw, r124_14 hw, s126 hw, am_b0, am_bn0, Int.reduceToNat, am_addE, am_subE, am_mulE, am_laddE, am_lsubE, am_upO, am_upS, am_stS, am_stO, am_tnn, am_brl, am_brg, am_bre, am_brn, am_brG, am_brL, am_st1, am_no2, am_st2, am_clr]
        refine am_wp_ret rfl rfl ?_
        exact h0 (by omega) _ q1
end HOTEL
