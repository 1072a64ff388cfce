/-! TOKENS: the reference reads them -/
/-- the reference stands at TOKEN j -/
def rpR (I : Nat → Nat → Int) (b : Nat → Nat) (n lim j : Nat) : Prop := n ≤ 640 ∧ I 124 3 = (n : Int) ∧ I 124 4 = (lim : Int) ∧ (∀ k, k < n → I 125 k = (b k : Int) ∧ b k ≤ 255) ∧ rTk I (lxJ b n lim j) ∧ (2 ≤ (lxJ b n lim j).1 → I 124 5 = (lxP b n (j + 1) : Int))
def frQ (I J : Nat → Nat → Int) : Prop := (∀ a, a ≠ 124 → J a = I a) ∧ ∀ j, ¬ (5 ≤ j ∧ j ≤ 13) → J 124 j = I 124 j
theorem frQ_tr {I J K : Nat → Nat → Int} (h : frQ I J) (g : frQ J K) : frQ I K := ⟨fun a ha => (g.1 a ha).trans (h.1 a ha), fun j hj => (g.2 j hj).trans (h.2 j hj)⟩
theorem frQ_6 {I J : Nat → Nat → Int} (h : fr6 I J) : frQ I J := ⟨h.1, fun j hj => h.2 j (by omega) (by omega) (by omega) (by omega) (by omega) (by omega)⟩
theorem rpR_up {I : Nat → Nat → Int} {b : Nat → Nat} {n lim j a k : Nat} {x : Int} (h : rpR I b n lim j) (ha : (a ≠ 124 ∧ a ≠ 125) ∨ (a = 124 ∧ (k = 13 ∨ k = 24 ∨ k = 10 ∨ k = 11 ∨ 14 ≤ k))) : rpR (am_up I a k x) b n lim j := by
  obtain ⟨h1, h2, h3, h4, ⟨h5, h6, h7, h8, h9⟩, h10⟩ := h
  rcases ha with ⟨a1, a2⟩ | ⟨rfl, hk⟩
  · refine ⟨h1, ?_, ?_, ?_, ⟨?_, ?_, ?_, ?_, ?_⟩, ?_⟩
    · rw [am_upO (Ne.symm a1)]; exact h2
    · rw [am_upO (Ne.symm a1)]; exact h3
    · rw [am_upO (Ne.symm a2)]; exact h4
    · rw [am_upO (Ne.symm a1)]; exact h5
    · rw [am_upO (Ne.symm a1)]; exact h6
    · rw [am_upO (Ne.symm a1)]; exact h7
    · rw [am_upO (Ne.symm a1)]; exact h8
    · rw [am_upO (Ne.symm a1)]; exact h9
    · rw [am_upO (Ne.symm a1)]; exact h10
  · refine ⟨h1, ?_, ?_, ?_, ⟨?_, ?_, ?_, ?_, ?_⟩, ?_⟩
    · rw [am_upS, am_stO (by omega)]; exact h2
    · rw [am_upS, am_stO (by omega)]; exact h3
    · rw [am_upO (by decide)]; exact h4
    · rw [am_upS, am_stO (by omega)]; exact h5
    · rw [am_upS, am_stO (by omega)]; exact h6
    · rw [am_upS, am_stO (by omega)]; exact h7
    · rw [am_upS, am_stO (by omega)]; exact h8
    · rw [am_upS, am_stO (by omega)]; exact h9
    · rw [am_upS, am_stO (by omega)]; exact h10
theorem rK_2 {t : Tk} (h : t.1 ≠ 3) : (rK t = 2 ↔ t.1 = 2) ∧ (rK t = 3 ↔ t.1 = 4) ∧ (rK t = 4 ↔ t.1 = 5) ∧ (rK t = 1 ↔ t.1 = 1) ∧ (rK t = 0 ↔ t.1 = 0) := by
  unfold rK
  by_cases h4 : t.1 = 4
  · rw [if_pos h4]; omega
  · rw [if_neg h4]
    by_cases h5 : t.1 = 5
    · rw [if_pos h5]; omega
    · rw [if_neg h5]; omega
section RP
variable {m sl : Nat} {sh : Nat → Nat × Nat} {I : Nat → Nat → Int} {R : Nat → Nat → Nat} {Q : am_R → am_M → Prop} {d : Nat} {b : Nat → Nat} {n lim j : Nat}
theorem w_M_nx (hw : wd sh R) (hc : rpR I b n lim j) (hk : 2 ≤ (lxJ b n lim j).1) (h : ∀ J, fr6 I J → rpR J b n lim (j + 1) → Q am_yv (m, sl, sh, J, R)) : am_wp (d + 2) 205 0 [some (.inr (.inr (124))), none, none, none, none] [] (m, sl, sh, I, R) Q := by
  obtain ⟨h1, h2, h3, h4, h5, h6⟩ := hc
  refine w_M_next (b := b) (n := n) (lim := lim) (i := lxP b n (j + 1)) hw h1 h2 h3 (h6 hk) (lxP_le _) h4 (fun J j0 j1 j2 => h J j0 ⟨h1, ?_, ?_, ?_, j2, j1⟩)
  · rw [j0.2 3 (by decide) (by decide) (by decide) (by decide) (by decide) (by decide)]; exact h2
  · rw [j0.2 4 (by decide) (by decide) (by decide) (by decide) (by decide) (by decide)]; exact h3
  · rw [j0.1 125 (by decide)]; exact h4
theorem w_M_isWord {k : Nat} (hw : wd sh R) (hk : k < 17) (hc : rpR I b n lim j) (h : Q (am_yi (am_b (owC (lxJ b n lim j) = (rpm k : Int)))) (m, sl, sh, I, R)) : am_wp (d + 2) 208 0 [some (.inr (.inr (124))), some (.inl ((k : Int)))] [] (m, sl, sh, I, R) Q := by
  obtain ⟨h1, h2, h3, h4, ⟨h5, -, h7, -, -⟩, -⟩ := hc
  have k2 := (rK_2 (lxJ_3 (b := b) (n := n) (lim := lim) (j := j))).1
  have ok := (lxJ_ok (b := b) (n := n) (lim := lim) j).1
  generalize lxJ b n lim j = t at *
  refine am_wp_go rfl (by simp (disch := omega) only [s124 hw, h5, am_lcmpN, am_lcmpE, am_addE, am_subE, am_mulE, am_laddE, am_lsubE, am_upO, am_upS, am_stS, am_stO, am_tnn, am_brl, am_brg, am_bre, am_brn, am_brG, am_brL, am_st1, am_no2, am_st2, am_clr, and_self, true_and, and_true, true_or, or_true, List.length_cons, List.length_nil] <;> omega) ?_
  try simp (disch := omega) only [s124 hw, h5, am_lcmpN, am_lcmpE, am_addE, am_subE, am_mulE, am_laddE, am_lsubE, am_upO, am_upS, am_stS, am_stO, am_tnn, am_brl, am_brg, am_bre, am_brn, am_brG, am_brL, am_st1, am_no2, am_st2, am_clr]
  refine am_wp_br (fun b5 => ?_) (fun b5 => ?_)
  · have ht : ¬ t.1 = 2 := fun hx => b5 (k2.mpr hx)
    refine am_wp_go rfl (by simp (disch := omega) only [s124 hw, h5, am_lcmpN, am_lcmpE, am_addE, am_subE, am_mulE, am_laddE, am_lsubE, am_upO, am_upS, am_stS, am_stO, am_tnn, am_brl, am_brg, am_bre, am_brn, am_brG, am_brL, am_st1, am_no2, am_st2, am_clr, and_self, true_and, and_true, true_or, or_true, List.length_cons, List.length_nil] <;> omega) ?_
    try simp (disch := omega) only [s124 hw, h5, am_lcmpN, am_lcmpE, am_addE, am_subE, am_mulE, am_laddE, am_lsubE, am_upO, am_upS, am_stS, am_stO, am_tnn, am_brl, am_brg, am_bre, am_brn, am_brG, am_brL, am_st1, am_no2, am_st2, am_clr]
    refine am_wp_ret rfl rfl ?_
    rwa [am_bF (fun hx => by unfold owC at hx; rw [if_neg ht] at hx; omega)] at h
  · have ht := k2.mp (Classical.not_not.mp b5)
    have e12 := h7 ht
    have wi := wv_iff (ok ht) hk
    have oc : owC t = owI t.2.2.1 := by unfold owC; rw [if_pos ht]
    rw [oc] at h
    clear h7 ok
    refine am_wp_go rfl (by simp (disch := omega) only [s124 hw, e12, am_lcmpN, am_lcmpE, am_addE, am_subE, am_mulE, am_laddE, am_lsubE, am_upO, am_upS, am_stS, am_stO, am_tnn, am_brl, am_brg, am_bre, am_brn, am_brG, am_brL, am_st1, am_no2, am_st2, am_clr, and_self, true_and, and_true, true_or, or_true, List.length_cons, List.length_nil] <;> omega) ?_
    try simp (disch := omega) only [s124 hw, e12, am_lcmpN, am_lcmpE, am_addE, am_subE, am_mulE, am_laddE, am_lsubE, am_upO, am_upS, am_stS, am_stO, am_tnn, am_brl, am_brg, am_bre, am_brn, am_brG, am_brL, am_st1, am_no2, am_st2, am_clr]
    refine am_wp_cc rfl rfl rfl (trivial) (w_M_wordOf hk ⟨_, rfl, ?_⟩)
    refine am_wp_go rfl (by simp (disch := omega) only [s124 hw, e12, am_lcmpN, am_lcmpE, am_addE, am_subE, am_mulE, am_laddE, am_lsubE, am_upO, am_upS, am_stS, am_stO, am_tnn, am_brl, am_brg, am_bre, am_brn, am_brG, am_brL, am_st1, am_no2, am_st2, am_clr, and_self, true_and, and_true, true_or, or_true, List.length_cons, List.length_nil] <;> omega) ?_
    try simp (disch := omega) only [s124 hw, e12, am_lcmpN, am_lcmpE, am_addE, am_subE, am_mulE, am_laddE, am_lsubE, am_upO, am_upS, am_stS, am_stO, am_tnn, am_brl, am_brg, am_bre, am_brn, am_brG, am_brL, am_st1, am_no2, am_st2, am_clr]
    refine am_wp_br (fun b17 => ?_) (fun b17 => ?_)
    · refine am_wp_go rfl (by simp (disch := omega) only [s124 hw, e12, am_lcmpN, am_lcmpE, am_addE, am_subE, am_mulE, am_laddE, am_lsubE, am_upO, am_upS, am_stS, am_stO, am_tnn, am_brl, am_brg, am_bre, am_brn, am_brG, am_brL, am_st1, am_no2, am_st2, am_clr, and_self, true_and, and_true, true_or, or_true, List.length_cons, List.length_nil] <;> omega) ?_
      try simp (disch := omega) only [s124 hw, e12, am_lcmpN, am_lcmpE, am_addE, am_subE, am_mulE, am_laddE, am_lsubE, am_upO, am_upS, am_stS, am_stO, am_tnn, am_brl, am_brg, am_bre, am_brn, am_brG, am_brL, am_st1, am_no2, am_st2, am_clr]
      refine am_wp_ret rfl rfl ?_
      rwa [am_bF (fun hx => b17 (by rw [wi.mpr hx]))] at h
    · refine am_wp_go rfl (by simp (disch := omega) only [s124 hw, e12, am_lcmpN, am_lcmpE, am_addE, am_subE, am_mulE, am_laddE, am_lsubE, am_upO, am_upS, am_stS, am_stO, am_tnn, am_brl, am_brg, am_bre, am_brn, am_brG, am_brL, am_st1, am_no2, am_st2, am_clr, and_self, true_and, and_true, true_or, or_true, List.length_cons, List.length_nil] <;> omega) ?_
      try simp (disch := omega) only [s124 hw, e12, am_lcmpN, am_lcmpE, am_addE, am_subE, am_mulE, am_laddE, am_lsubE, am_upO, am_upS, am_stS, am_stO, am_tnn, am_brl, am_brg, am_bre, am_brn, am_brG, am_brL, am_st1, am_no2, am_st2, am_clr]
      refine am_wp_ret rfl rfl ?_
      rwa [am_bT (wi.mp (by omega))] at h
theorem w_M_isSignR {c : Nat} (hw : wd sh R) (hc : rpR I b n lim j) (h : Q (am_yi (am_b (isSg (lxJ b n lim j) c))) (m, sl, sh, I, R)) : am_wp (d) 209 0 [some (.inr (.inr (124))), some (.inl ((c : Int)))] [] (m, sl, sh, I, R) Q := by
  obtain ⟨h1, h2, h3, h4, ⟨h5, -, -, -, h9⟩, -⟩ := hc
  have k2 := (rK_2 (lxJ_3 (b := b) (n := n) (lim := lim) (j := j))).2.2.1
  generalize lxJ b n lim j = t at *
  refine am_wp_go rfl (by simp (disch := omega) only [s124 hw, h5, am_addE, am_subE, am_mulE, am_laddE, am_lsubE, am_upO, am_upS, am_stS, am_stO, am_tnn, am_brl, am_brg, am_bre, am_brn, am_brG, am_brL, am_st1, am_no2, am_st2, am_clr, and_self, true_and, and_true, true_or, or_true, List.length_cons, List.length_nil] <;> omega) ?_
  try simp (disch := omega) only [s124 hw, h5, am_addE, am_subE, am_mulE, am_laddE, am_lsubE, am_upO, am_upS, am_stS, am_stO, am_tnn, am_brl, am_brg, am_bre, am_brn, am_brG, am_brL, am_st1, am_no2, am_st2, am_clr]
  refine am_wp_br (fun b5 => ?_) (fun b5 => ?_)
  · refine am_wp_go rfl (by simp (disch := omega) only [s124 hw, h5, am_addE, am_subE, am_mulE, am_laddE, am_lsubE, am_upO, am_upS, am_stS, am_stO, am_tnn, am_brl, am_brg, am_bre, am_brn, am_brG, am_brL, am_st1, am_no2, am_st2, am_clr, and_self, true_and, and_true, true_or, or_true, List.length_cons, List.length_nil] <;> omega) ?_
    try simp (disch := omega) only [s124 hw, h5, am_addE, am_subE, am_mulE, am_laddE, am_lsubE, am_upO, am_upS, am_stS, am_stO, am_tnn, am_brl, am_brg, am_bre, am_brn, am_brG, am_brL, am_st1, am_no2, am_st2, am_clr]
    refine am_wp_ret rfl rfl ?_
    rwa [am_bF (fun hx => b5 (k2.mpr hx.1))] at h
  · have ht := k2.mp (Classical.not_not.mp b5)
    have e9 := h9 ht
    clear h9 k2
    refine am_wp_go rfl (by simp (disch := omega) only [s124 hw, e9, am_addE, am_subE, am_mulE, am_laddE, am_lsubE, am_upO, am_upS, am_stS, am_stO, am_tnn, am_brl, am_brg, am_bre, am_brn, am_brG, am_brL, am_st1, am_no2, am_st2, am_clr, and_self, true_and, and_true, true_or, or_true, List.length_cons, List.length_nil] <;> omega) ?_
    try simp (disch := omega) only [s124 hw, e9, am_addE, am_subE, am_mulE, am_laddE, am_lsubE, am_upO, am_upS, am_stS, am_stO, am_tnn, am_brl, am_brg, am_bre, am_brn, am_brG, am_brL, am_st1, am_no2, am_st2, am_clr]
    refine am_wp_br (fun b13 => ?_) (fun b13 => ?_)
    · refine am_wp_go rfl (by simp (disch := omega) only [s124 hw, e9, am_addE, am_subE, am_mulE, am_laddE, am_lsubE, am_upO, am_upS, am_stS, am_stO, am_tnn, am_brl, am_brg, am_bre, am_brn, am_brG, am_brL, am_st1, am_no2, am_st2, am_clr, and_self, true_and, and_true, true_or, or_true, List.length_cons, List.length_nil] <;> omega) ?_
      try simp (disch := omega) only [s124 hw, e9, am_addE, am_subE, am_mulE, am_laddE, am_lsubE, am_upO, am_upS, am_stS, am_stO, am_tnn, am_brl, am_brg, am_bre, am_brn, am_brG, am_brL, am_st1, am_no2, am_st2, am_clr]
      refine am_wp_ret rfl rfl ?_
      rwa [am_bF (fun hx => by have := hx.2; omega)] at h
    · refine am_wp_go rfl (by simp (disch := omega) only [s124 hw, e9, am_addE, am_subE, am_mulE, am_laddE, am_lsubE, am_upO, am_upS, am_stS, am_stO, am_tnn, am_brl, am_brg, am_bre, am_brn, am_brG, am_brL, am_st1, am_no2, am_st2, am_clr, and_self, true_and, and_true, true_or, or_true, List.length_cons, List.length_nil] <;> omega) ?_
      try simp (disch := omega) only [s124 hw, e9, am_addE, am_subE, am_mulE, am_laddE, am_lsubE, am_upO, am_upS, am_stS, am_stO, am_tnn, am_brl, am_brg, am_bre, am_brn, am_brG, am_brL, am_st1, am_no2, am_st2, am_clr]
      refine am_wp_ret rfl rfl ?_
      rwa [am_bT ⟨ht, by omega⟩] at h
theorem w_M_isName (hw : wd sh R) (hc : rpR I b n lim j) (h : Q (am_yi (am_b (cK (lxJ b n lim j) = 2))) (m, sl, sh, I, R)) : am_wp (d + 2) 210 0 [some (.inr (.inr (124))), none] [] (m, sl, sh, I, R) Q := by
  obtain ⟨h1, h2, h3, h4, ⟨h5, -, h7, -, -⟩, -⟩ := hc
  have k2 := (rK_2 (lxJ_3 (b := b) (n := n) (lim := lim) (j := j))).1
  have ok := (lxJ_ok (b := b) (n := n) (lim := lim) j).1
  generalize lxJ b n lim j = t at *
  have cn := cK_2 (t := t)
  refine am_wp_go rfl (by simp (disch := omega) only [s124 hw, h5, am_lcmpN, am_lcmpE, am_addE, am_subE, am_mulE, am_laddE, am_lsubE, am_upO, am_upS, am_stS, am_stO, am_tnn, am_brl, am_brg, am_bre, am_brn, am_brG, am_brL, am_st1, am_no2, am_st2, am_clr, and_self, true_and, and_true, true_or, or_true, List.length_cons, List.length_nil] <;> omega) ?_
  try simp (disch := omega) only [s124 hw, h5, am_lcmpN, am_lcmpE, am_addE, am_subE, am_mulE, am_laddE, am_lsubE, am_upO, am_upS, am_stS, am_stO, am_tnn, am_brl, am_brg, am_bre, am_brn, am_brG, am_brL, am_st1, am_no2, am_st2, am_clr]
  refine am_wp_br (fun b5 => ?_) (fun b5 => ?_)
  · have ht := k2.mp b5
    have e12 := h7 ht
    have lo := ok ht
    clear h7 ok
    refine am_wp_go rfl (by simp (disch := omega) only [s124 hw, h5, am_lcmpN, am_lcmpE, am_addE, am_subE, am_mulE, am_laddE, am_lsubE, am_upO, am_upS, am_stS, am_stO, am_tnn, am_brl, am_brg, am_bre, am_brn, am_brG, am_brL, am_st1, am_no2, am_st2, am_clr, and_self, true_and, and_true, true_or, or_true, List.length_cons, List.length_nil] <;> omega) ?_
    try simp (disch := omega) only [s124 hw, h5, am_lcmpN, am_lcmpE, am_addE, am_subE, am_mulE, am_laddE, am_lsubE, am_upO, am_upS, am_stS, am_stO, am_tnn, am_brl, am_brg, am_bre, am_brn, am_brG, am_brL, am_st1, am_no2, am_st2, am_clr]
    have LP : ∀ k : Nat, k ≤ 17 → (∀ i, i < k → nm27 t.2.2.1 ≠ wvR i) → am_wp (d + 2) 210 12 [some (.inr (.inr (124))), some (.inl ((k : Int)))] [] (m, sl, sh, I, R) Q := by
      refine am_lp 17 (fun k hk ih hno => ?_)
      refine am_wp_go rfl (by simp (disch := omega) only [s124 hw, e12, am_lcmpN, am_lcmpE, am_addE, am_subE, am_mulE, am_laddE, am_lsubE, am_upO, am_upS, am_stS, am_stO, am_tnn, am_brl, am_brg, am_bre, am_brn, am_brG, am_brL, am_st1, am_no2, am_st2, am_clr, and_self, true_and, and_true, true_or, or_true, List.length_cons, List.length_nil] <;> omega) ?_
      try simp (disch := omega) only [s124 hw, e12, am_lcmpN, am_lcmpE, am_addE, am_subE, am_mulE, am_laddE, am_lsubE, am_upO, am_upS, am_stS, am_stO, am_tnn, am_brl, am_brg, am_bre, am_brn, am_brG, am_brL, am_st1, am_no2, am_st2, am_clr]
      refine am_wp_br (fun b15 => ?_) (fun b15 => ?_)
      · have on : owI t.2.2.1 = -1 := by
          rcases owI_v (ws := t.2.2.1) with z | ⟨w, z1, z2⟩
          · exact z
          · have r := rpi_ok ⟨w, z2⟩
            dsimp only at r
            exact absurd ((wv_iff lo r.1).mpr (by rw [r.2]; exact z1)) (hno _ (by omega))
        refine am_wp_go rfl (by simp (disch := omega) only [s124 hw, e12, am_lcmpN, am_lcmpE, am_addE, am_subE, am_mulE, am_laddE, am_lsubE, am_upO, am_upS, am_stS, am_stO, am_tnn, am_brl, am_brg, am_bre, am_brn, am_brG, am_brL, am_st1, am_no2, am_st2, am_clr, and_self, true_and, and_true, true_or, or_true, List.length_cons, List.length_nil] <;> omega) ?_
        try simp (disch := omega) only [s124 hw, e12, am_lcmpN, am_lcmpE, am_addE, am_subE, am_mulE, am_laddE, am_lsubE, am_upO, am_upS, am_stS, am_stO, am_tnn, am_brl, am_brg, am_bre, am_brn, am_brG, am_brL, am_st1, am_no2, am_st2, am_clr]
        refine am_wp_ret rfl rfl ?_
        rwa [am_bT (cn.mpr ⟨ht, on⟩)] at h
      · refine am_wp_go rfl (by simp (disch := omega) only [s124 hw, e12, am_lcmpN, am_lcmpE, am_addE, am_subE, am_mulE, am_laddE, am_lsubE, am_upO, am_upS, am_stS, am_stO, am_tnn, am_brl, am_brg, am_bre, am_brn, am_brG, am_brL, am_st1, am_no2, am_st2, am_clr, and_self, true_and, and_true, true_or, or_true, List.length_cons, List.length_nil] <;> omega) ?_
        try simp (disch := omega) only [s124 hw, e12, am_lcmpN, am_lcmpE, am_addE, am_subE, am_mulE, am_laddE, am_lsubE, am_upO, am_upS, am_stS, am_stO, am_tnn, am_brl, am_brg, am_bre, am_brn, am_brG, am_brL, am_st1, am_no2, am_st2, am_clr]
        refine am_wp_cc rfl rfl rfl (trivial) (w_M_wordOf (k := k) (by omega) ⟨_, rfl, ?_⟩)
        refine am_wp_go rfl (by simp (disch := omega) only [s124 hw, e12, am_lcmpN, am_lcmpE, am_addE, am_subE, am_mulE, am_laddE, am_lsubE, am_upO, am_upS, am_stS, am_stO, am_tnn, am_brl, am_brg, am_bre, am_brn, am_brG, am_brL, am_st1, am_no2, am_st2, am_clr, and_self, true_and, and_true, true_or, or_true, List.length_cons, List.length_nil] <;> omega) ?_
        try simp (disch := omega) only [s124 hw, e12, am_lcmpN, am_lcmpE, am_addE, am_subE, am_mulE, am_laddE, am_lsubE, am_upO, am_upS, am_stS, am_stO, am_tnn, am_brl, am_brg, am_bre, am_brn, am_brG, am_brL, am_st1, am_no2, am_st2, am_clr]
        refine am_wp_br (fun b27 => ?_) (fun b27 => ?_)
        · refine am_wp_go rfl (by simp (disch := omega) only [s124 hw, e12, am_lcmpN, am_lcmpE, am_addE, am_subE, am_mulE, am_laddE, am_lsubE, am_upO, am_upS, am_stS, am_stO, am_tnn, am_brl, am_brg, am_bre, am_brn, am_brG, am_brL, am_st1, am_no2, am_st2, am_clr, and_self, true_and, and_true, true_or, or_true, List.length_cons, List.length_nil] <;> omega) ?_
          try simp (disch := omega) only [s124 hw, e12, am_lcmpN, am_lcmpE, am_addE, am_subE, am_mulE, am_laddE, am_lsubE, am_upO, am_upS, am_stS, am_stO, am_tnn, am_brl, am_brg, am_bre, am_brn, am_brG, am_brL, am_st1, am_no2, am_st2, am_clr]
          exact am_wp_ls (ih (by omega) (fun i hi => by by_cases hik : i = k; (rw [hik]; intro hx; exact b27 (by rw [hx])); exact hno i (by omega))) rfl
        · have e : nm27 t.2.2.1 = wvR k := by omega
          have ow := (wv_iff lo (show k < 17 by omega)).mp e
          refine am_wp_go rfl (by simp (disch := omega) only [s124 hw, e12, am_lcmpN, am_lcmpE, am_addE, am_subE, am_mulE, am_laddE, am_lsubE, am_upO, am_upS, am_stS, am_stO, am_tnn, am_brl, am_brg, am_bre, am_brn, am_brG, am_brL, am_st1, am_no2, am_st2, am_clr, and_self, true_and, and_true, true_or, or_true, List.length_cons, List.length_nil] <;> omega) ?_
          try simp (disch := omega) only [s124 hw, e12, am_lcmpN, am_lcmpE, am_addE, am_subE, am_mulE, am_laddE, am_lsubE, am_upO, am_upS, am_stS, am_stO, am_tnn, am_brl, am_brg, am_bre, am_brn, am_brG, am_brL, am_st1, am_no2, am_st2, am_clr]
          refine am_wp_ret rfl rfl ?_
          rwa [am_bF (fun hx => by have := (cn.mp hx).2; omega)] at h
    exact am_wp_ls (LP 0 (by decide) (fun i hi => absurd hi (Nat.not_lt_zero i))) rfl
  · refine am_wp_go rfl (by simp (disch := omega) only [s124 hw, h5, am_lcmpN, am_lcmpE, am_addE, am_subE, am_mulE, am_laddE, am_lsubE, am_upO, am_upS, am_stS, am_stO, am_tnn, am_brl, am_brg, am_bre, am_brn, am_brG, am_brL, am_st1, am_no2, am_st2, am_clr, and_self, true_and, and_true, true_or, or_true, List.length_cons, List.length_nil] <;> omega) ?_
    try simp (disch := omega) only [s124 hw, h5, am_lcmpN, am_lcmpE, am_addE, am_subE, am_mulE, am_laddE, am_lsubE, am_upO, am_upS, am_stS, am_stO, am_tnn, am_brl, am_brg, am_bre, am_brn, am_brG, am_brL, am_st1, am_no2, am_st2, am_clr]
    refine am_wp_ret rfl rfl ?_
    rwa [am_bF (fun hx => b5 (k2.mpr (cn.mp hx).1))] at h
theorem w_M_bad {k : Nat} (hw : wd sh R) (hc : rpR I b n lim j) (hk : k = 1 ∨ (lxJ b n lim j).1 ≠ 1) (h : ∀ J, frQ I J → J 124 10 = (k : Int) → J 124 11 = (plT (lxJ b n lim) j : Int) → Q (am_yi 0) (m, sl, sh, J, R)) : am_wp (d) 211 0 [some (.inr (.inr (124))), some (.inl ((k : Int)))] [] (m, sl, sh, I, R) Q := by
  obtain ⟨h1, h2, h3, h4, ⟨h5, h6, -, -, -⟩, -⟩ := hc
  have k2 := (rK_2 (lxJ_3 (b := b) (n := n) (lim := lim) (j := j))).2.2.2.1
  have e6 : I 124 6 = (plT (lxJ b n lim) j : Int) := h6
  refine am_wp_go rfl (by simp (disch := omega) only [s124 hw, h5, e6, am_addE, am_subE, am_mulE, am_laddE, am_lsubE, am_upO, am_upS, am_stS, am_stO, am_tnn, am_brl, am_brg, am_bre, am_brn, am_brG, am_brL, am_st1, am_no2, am_st2, am_clr, and_self, true_and, and_true, true_or, or_true, List.length_cons, List.length_nil] <;> omega) ?_
  try simp (disch := omega) only [s124 hw, h5, e6, am_addE, am_subE, am_mulE, am_laddE, am_lsubE, am_upO, am_upS, am_stS, am_stO, am_tnn, am_brl, am_brg, am_bre, am_brn, am_brG, am_brL, am_st1, am_no2, am_st2, am_clr]
  refine am_wp_br (fun b6 => ?_) (fun b6 => ?_)
  · refine am_wp_go rfl (by simp (disch := omega) only [s124 hw, h5, e6, am_addE, am_subE, am_mulE, am_laddE, am_lsubE, am_upO, am_upS, am_stS, am_stO, am_tnn, am_brl, am_brg, am_bre, am_brn, am_brG, am_brL, am_st1, am_no2, am_st2, am_clr, and_self, true_and, and_true, true_or, or_true, List.length_cons, List.length_nil] <;> omega) ?_
    try simp (disch := omega) only [s124 hw, h5, e6, am_addE, am_subE, am_mulE, am_laddE, am_lsubE, am_upO, am_upS, am_stS, am_stO, am_tnn, am_brl, am_brg, am_bre, am_brn, am_brG, am_brL, am_st1, am_no2, am_st2, am_clr]
    refine am_wp_ret rfl rfl ?_
    refine h _ ⟨fun a ha => by rw [am_upO ha, am_upO ha], fun i hi => by rw [am_upS, am_stO (by omega), am_upS, am_stO (by omega)]⟩ (by rw [am_upS, am_stO (by decide), am_upS, am_stS rfl]) (by rw [am_upS, am_stS rfl])
  · have e1 := k2.mp (Classical.not_not.mp b6)
    have ek : k = 1 := by rcases hk with hk | hk; exact hk; exact absurd e1 hk
    subst ek
    refine am_wp_go rfl (by simp (disch := omega) only [s124 hw, h5, e6, am_addE, am_subE, am_mulE, am_laddE, am_lsubE, am_upO, am_upS, am_stS, am_stO, am_tnn, am_brl, am_brg, am_bre, am_brn, am_brG, am_brL, am_st1, am_no2, am_st2, am_clr, and_self, true_and, and_true, true_or, or_true, List.length_cons, List.length_nil] <;> omega) ?_
    try simp (disch := omega) only [s124 hw, h5, e6, am_addE, am_subE, am_mulE, am_laddE, am_lsubE, am_upO, am_upS, am_stS, am_stO, am_tnn, am_brl, am_brg, am_bre, am_brn, am_brG, am_brL, am_st1, am_no2, am_st2, am_clr]
    refine am_wp_ret rfl rfl ?_
    refine h _ ⟨fun a ha => by rw [am_upO ha, am_upO ha], fun i hi => by rw [am_upS, am_stO (by omega), am_upS, am_stO (by omega)]⟩ (by rw [am_upS, am_stO (by decide), am_upS, am_stS rfl]; rfl) (by rw [am_upS, am_stS rfl])
theorem w_M_bad' {k : Nat} {x : Int} (ex : x = (k : Int)) (hw : wd sh R) (hc : rpR I b n lim j) (hk : k = 1 ∨ (lxJ b n lim j).1 ≠ 1) (h : ∀ J, frQ I J → J 124 10 = (k : Int) → J 124 11 = (plT (lxJ b n lim) j : Int) → Q (am_yi 0) (m, sl, sh, J, R)) : am_wp (d) 211 0 [some (.inr (.inr (124))), some (.inl (x))] [] (m, sl, sh, I, R) Q := by
  subst ex
  exact w_M_bad hw hc hk h
theorem w_M_readNumber {a c : Nat} {x y : Int} (ex : x = (a : Int)) (ey : y = (c : Int)) (hw : wd sh R) (hc : rpR I b n lim j) (h0 : nmF (lxJ b n lim j) a c ≠ 0 → ∀ J, frQ I J → J 124 10 = (nmF (lxJ b n lim j) a c : Int) → J 124 11 = (plT (lxJ b n lim) j : Int) → Q (am_yi 0) (m, sl, sh, J, R)) (h1 : nmF (lxJ b n lim j) a c = 0 → a ≤ (lxJ b n lim j).2.2.2 → (lxJ b n lim j).2.2.2 ≤ c → ∀ J, frQ I J → J 124 10 = I 124 10 → J 124 13 = ((lxJ b n lim j).2.2.2 : Int) → rpR J b n lim (j + 1) → Q (am_yi 1) (m, sl, sh, J, R)) : am_wp (d + 3) 212 0 [some (.inr (.inr (124))), some (.inl (x)), some (.inl (y))] [] (m, sl, sh, I, R) Q := by
  subst ex
  subst ey
  obtain ⟨g1, g2, g3, g4, ⟨h5, h6, h7, h8, h9⟩, g6⟩ := id hc
  have k2 := (rK_2 (lxJ_3 (b := b) (n := n) (lim := lim) (j := j))).2.1
  unfold nmF at h0 h1
  refine am_wp_go rfl (by simp (disch := omega) only [s124 hw, h5, am_b0, am_bn0, am_addE, am_subE, am_mulE, am_laddE, am_lsubE, am_upO, am_upS, am_stS, am_stO, am_tnn, am_brl, am_brg, am_bre, am_brn, am_brG, am_brL, am_st1, am_no2, am_st2, am_clr, and_self, true_and, and_true, true_or, or_true, List.length_cons, List.length_nil] <;> omega) ?_
  try simp (disch := omega) only [s124 hw, h5, am_b0, am_bn0, am_addE, am_subE, am_mulE, am_laddE, am_lsubE, am_upO, am_upS, am_stS, am_stO, am_tnn, am_brl, am_brg, am_bre, am_brn, am_brG, am_brL, am_st1, am_no2, am_st2, am_clr]
  refine am_wp_br (fun b5 => ?_) (fun b5 => ?_)
  · have ht := k2.mp b5
    have e8 := h8 ht
    rw [if_neg (fun hx => hx ht)] at h0 h1
    clear h7 h8 h9
    refine am_wp_go rfl (by simp (disch := omega) only [s124 hw, e8, am_b0, am_bn0, am_addE, am_subE, am_mulE, am_laddE, am_lsubE, am_upO, am_upS, am_stS, am_stO, am_tnn, am_brl, am_brg, am_bre, am_brn, am_brG, am_brL, am_st1, am_no2, am_st2, am_clr, and_self, true_and, and_true, true_or, or_true, List.length_cons, List.length_nil] <;> omega) ?_
    try simp (disch := omega) only [s124 hw, e8, am_b0, am_bn0, am_addE, am_subE, am_mulE, am_laddE, am_lsubE, am_upO, am_upS, am_stS, am_stO, am_tnn, am_brl, am_brg, am_bre, am_brn, am_brG, am_brL, am_st1, am_no2, am_st2, am_clr]
    refine am_wp_cc rfl rfl rfl (trivial) (w_M_isIn ⟨_, rfl, ?_⟩)
    refine am_wp_go rfl (by simp (disch := omega) only [s124 hw, e8, am_b0, am_bn0, am_addE, am_subE, am_mulE, am_laddE, am_lsubE, am_upO, am_upS, am_stS, am_stO, am_tnn, am_brl, am_brg, am_bre, am_brn, am_brG, am_brL, am_st1, am_no2, am_st2, am_clr, and_self, true_and, and_true, true_or, or_true, List.length_cons, List.length_nil] <;> omega) ?_
    try simp (disch := omega) only [s124 hw, e8, am_b0, am_bn0, am_addE, am_subE, am_mulE, am_laddE, am_lsubE, am_upO, am_upS, am_stS, am_stO, am_tnn, am_brl, am_brg, am_bre, am_brn, am_brG, am_brL, am_st1, am_no2, am_st2, am_clr]
    refine am_wp_br (fun b23 => ?_) (fun b23 => ?_)
    · rw [if_neg (by omega)] at h1
      have h := h1 rfl (by omega) (by omega)
      clear h0 h1
      refine am_wp_go rfl (by simp (disch := omega) only [s124 hw, e8, am_b0, am_bn0, am_addE, am_subE, am_mulE, am_laddE, am_lsubE, am_upO, am_upS, am_stS, am_stO, am_tnn, am_brl, am_brg, am_bre, am_brn, am_brG, am_brL, am_st1, am_no2, am_st2, am_clr, and_self, true_and, and_true, true_or, or_true, List.length_cons, List.length_nil] <;> omega) ?_
      try simp (disch := omega) only [s124 hw, e8, am_b0, am_bn0, am_addE, am_subE, am_mulE, am_laddE, am_lsubE, am_upO, am_upS, am_stS, am_stO, am_tnn, am_brl, am_brg, am_bre, am_brn, am_brG, am_brL, am_st1, am_no2, am_st2, am_clr]
      refine am_wp_cc rfl rfl rfl (congrArg Prod.fst (s124 hw)) (w_M_nx hw (rpR_up (k := 13) (x := ((lxJ b n lim j).2.2.2 : Int)) hc (Or.inr ⟨rfl, by decide⟩)) (by omega) (fun J j0 j1 => ⟨_, rfl, ?_⟩))
      refine am_wp_go rfl (by simp (disch := omega) only [s124 hw, e8, am_b0, am_bn0, am_addE, am_subE, am_mulE, am_laddE, am_lsubE, am_upO, am_upS, am_stS, am_stO, am_tnn, am_brl, am_brg, am_bre, am_brn, am_brG, am_brL, am_st1, am_no2, am_st2, am_clr, and_self, true_and, and_true, true_or, or_true, List.length_cons, List.length_nil] <;> omega) ?_
      try simp (disch := omega) only [s124 hw, e8, am_b0, am_bn0, am_addE, am_subE, am_mulE, am_laddE, am_lsubE, am_upO, am_upS, am_stS, am_stO, am_tnn, am_brl, am_brg, am_bre, am_brn, am_brG, am_brL, am_st1, am_no2, am_st2, am_clr]
      refine am_wp_ret rfl rfl ?_
      refine h J ⟨fun a ha => by rw [j0.1 a ha, am_upO ha], fun i hi => by rw [j0.2 i (by omega) (by omega) (by omega) (by omega) (by omega) (by omega), am_upS, am_stO (by omega)]⟩ ?_ ?_ j1
      · rw [j0.2 10 (by decide) (by decide) (by decide) (by decide) (by decide) (by decide), am_upS, am_stO (by decide)]
      · rw [j0.2 13 (by decide) (by decide) (by decide) (by decide) (by decide) (by decide), am_upS, am_stS rfl]
    · rw [if_pos (by omega)] at h0
      have h := h0 (by decide)
      clear h0 h1
      refine am_wp_go rfl (by simp (disch := omega) only [s124 hw, e8, am_b0, am_bn0, am_addE, am_subE, am_mulE, am_laddE, am_lsubE, am_upO, am_upS, am_stS, am_stO, am_tnn, am_brl, am_brg, am_bre, am_brn, am_brG, am_brL, am_st1, am_no2, am_st2, am_clr, and_self, true_and, and_true, true_or, or_true, List.length_cons, List.length_nil] <;> omega) ?_
      try simp (disch := omega) only [s124 hw, e8, am_b0, am_bn0, am_addE, am_subE, am_mulE, am_laddE, am_lsubE, am_upO, am_upS, am_stS, am_stO, am_tnn, am_brl, am_brg, am_bre, am_brn, am_brG, am_brL, am_st1, am_no2, am_st2, am_clr]
      refine am_wp_cc rfl rfl rfl (congrArg Prod.fst (s124 hw)) (w_M_bad' (k := 2) rfl hw hc (Or.inr (by omega)) (fun J j0 j1 j2 => ⟨_, rfl, ?_⟩))
      refine am_wp_ret rfl rfl ?_
      exact h J j0 j1 j2
  · have ht : (lxJ b n lim j).1 ≠ 4 := fun hx => b5 (k2.mpr hx)
    rw [if_pos ht] at h0
    have h := h0 (by decide)
    clear h0 h1 h7 h8 h9
    refine am_wp_go rfl (by simp (disch := omega) only [s124 hw, h5, am_b0, am_bn0, am_addE, am_subE, am_mulE, am_laddE, am_lsubE, am_upO, am_upS, am_stS, am_stO, am_tnn, am_brl, am_brg, am_bre, am_brn, am_brG, am_brL, am_st1, am_no2, am_st2, am_clr, and_self, true_and, and_true, true_or, or_true, List.length_cons, List.length_nil] <;> omega) ?_
    try simp (disch := omega) only [s124 hw, h5, am_b0, am_bn0, am_addE, am_subE, am_mulE, am_laddE, am_lsubE, am_upO, am_upS, am_stS, am_stO, am_tnn, am_brl, am_brg, am_bre, am_brn, am_brG, am_brL, am_st1, am_no2, am_st2, am_clr]
    refine am_wp_cc rfl rfl rfl (congrArg Prod.fst (s124 hw)) (w_M_bad' (k := 1) rfl hw hc (Or.inl rfl) (fun J j0 j1 j2 => ⟨_, rfl, ?_⟩))
    refine am_wp_ret rfl rfl ?_
    exact h J j0 j1 j2
theorem w_M_readEnd (hw : wd sh R) (hc : rpR I b n lim j) (h0 : ¬ isSg (lxJ b n lim j) 59 → ∀ J, frQ I J → J 124 10 = 1 → J 124 11 = (plT (lxJ b n lim) j : Int) → Q (am_yi 0) (m, sl, sh, J, R)) (h1 : isSg (lxJ b n lim j) 59 → ∀ J, frQ I J → J 124 10 = I 124 10 → rpR J b n lim (j + 1) → Q (am_yi 1) (m, sl, sh, J, R)) : am_wp (d + 3) 213 0 [some (.inr (.inr (124)))] [] (m, sl, sh, I, R) Q := by
  refine am_wp_go rfl (by simp (disch := omega) only [am_bn0, am_addE, am_subE, am_mulE, am_laddE, am_lsubE, am_upO, am_upS, am_stS, am_stO, am_tnn, am_brl, am_brg, am_bre, am_brn, am_brG, am_brL, am_st1, am_no2, am_st2, am_clr, and_self, true_and, and_true, true_or, or_true, List.length_cons, List.length_nil] <;> omega) ?_
  try simp (disch := omega) only [am_bn0, am_addE, am_subE, am_mulE, am_laddE, am_lsubE, am_upO, am_upS, am_stS, am_stO, am_tnn, am_brl, am_brg, am_bre, am_brn, am_brG, am_brL, am_st1, am_no2, am_st2, am_clr]
  refine am_wp_cc rfl rfl rfl (congrArg Prod.fst (s124 hw)) (w_M_isSignR (c := 59) hw hc ⟨_, rfl, ?_⟩)
  refine am_wp_go rfl (by simp (disch := omega) only [am_bn0, am_addE, am_subE, am_mulE, am_laddE, am_lsubE, am_upO, am_upS, am_stS, am_stO, am_tnn, am_brl, am_brg, am_bre, am_brn, am_brG, am_brL, am_st1, am_no2, am_st2, am_clr, and_self, true_and, and_true, true_or, or_true, List.length_cons, List.length_nil] <;> omega) ?_
  try simp (disch := omega) only [am_bn0, am_addE, am_subE, am_mulE, am_laddE, am_lsubE, am_upO, am_upS, am_stS, am_stO, am_tnn, am_brl, am_brg, am_bre, am_brn, am_brG, am_brL, am_st1, am_no2, am_st2, am_clr]
  refine am_wp_br (fun b6 => ?_) (fun b6 => ?_)
  · have h := h1 b6
    refine am_wp_go rfl (by simp (disch := omega) only [am_bn0, am_addE, am_subE, am_mulE, am_laddE, am_lsubE, am_upO, am_upS, am_stS, am_stO, am_tnn, am_brl, am_brg, am_bre, am_brn, am_brG, am_brL, am_st1, am_no2, am_st2, am_clr, and_self, true_and, and_true, true_or, or_true, List.length_cons, List.length_nil] <;> omega) ?_
    try simp (disch := omega) only [am_bn0, am_addE, am_subE, am_mulE, am_laddE, am_lsubE, am_upO, am_upS, am_stS, am_stO, am_tnn, am_brl, am_brg, am_bre, am_brn, am_brG, am_brL, am_st1, am_no2, am_st2, am_clr]
    refine am_wp_cc rfl rfl rfl (congrArg Prod.fst (s124 hw)) (w_M_nx hw hc (by have := b6.1; omega) (fun J j0 j1 => ⟨_, rfl, ?_⟩))
    refine am_wp_go rfl (by simp (disch := omega) only [am_bn0, am_addE, am_subE, am_mulE, am_laddE, am_lsubE, am_upO, am_upS, am_stS, am_stO, am_tnn, am_brl, am_brg, am_bre, am_brn, am_brG, am_brL, am_st1, am_no2, am_st2, am_clr, and_self, true_and, and_true, true_or, or_true, List.length_cons, List.length_nil] <;> omega) ?_
    try simp (disch := omega) only [am_bn0, am_addE, am_subE, am_mulE, am_laddE, am_lsubE, am_upO, am_upS, am_stS, am_stO, am_tnn, am_brl, am_brg, am_bre, am_brn, am_brG, am_brL, am_st1, am_no2, am_st2, am_clr]
    refine am_wp_ret rfl rfl ?_
    exact h J (frQ_6 j0) (j0.2 10 (by decide) (by decide) (by decide) (by decide) (by decide) (by decide)) j1
  · have h := h0 b6
    refine am_wp_go rfl (by simp (disch := omega) only [am_bn0, am_addE, am_subE, am_mulE, am_laddE, am_lsubE, am_upO, am_upS, am_stS, am_stO, am_tnn, am_brl, am_brg, am_bre, am_brn, am_brG, am_brL, am_st1, am_no2, am_st2, am_clr, and_self, true_and, and_true, true_or, or_true, List.length_cons, List.length_nil] <;> omega) ?_
    try simp (disch := omega) only [am_bn0, am_addE, am_subE, am_mulE, am_laddE, am_lsubE, am_upO, am_upS, am_stS, am_stO, am_tnn, am_brl, am_brg, am_bre, am_brn, am_brG, am_brL, am_st1, am_no2, am_st2, am_clr]
    refine am_wp_cc rfl rfl rfl (congrArg Prod.fst (s124 hw)) (w_M_bad' (k := 1) rfl hw hc (Or.inl rfl) (fun J j0 j1 j2 => ⟨_, rfl, ?_⟩))
    refine am_wp_ret rfl rfl ?_
    exact h J j0 j1 j2
theorem w_M_findIn {a o q : Nat} {NM : Nat → List Nat} {ws : List Nat} {x : Int} (ex : x = (o : Int)) (h4 : 4 ≤ a) (hs : sh a = (35, 21)) (hoq : o + q ≤ 21) (hm : ∀ s, s < q → letOk (NM (o + s)) ∧ I a (o + s) = (nm27 (NM (o + s)) : Int)) (hws : letOk ws) (h : Q (am_yi (kFd NM o q ws)) (m, sl, sh, I, R)) : am_wp (d) 217 0 [some (.inr (.inr (a))), some (.inl (x)), some (.inl ((q : Int))), some (.inr (.inl ((nm27 ws : Int)))), none, none] [] (m, sl, sh, I, R) Q := by
  subst ex
  unfold kFd at h
  refine am_wp_go rfl (by simp (disch := omega) only [hs, am_lcmpN, am_lcmpE, am_tnA, am_addE, am_subE, am_mulE, am_laddE, am_lsubE, am_upO, am_upS, am_stS, am_stO, am_tnn, am_brl, am_brg, am_bre, am_brn, am_brG, am_brL, am_st1, am_no2, am_st2, am_clr, and_self, true_and, and_true, true_or, or_true, List.length_cons, List.length_nil] <;> omega) ?_
  try simp (disch := omega) only [hs, am_lcmpN, am_lcmpE, am_tnA, am_addE, am_subE, am_mulE, am_laddE, am_lsubE, am_upO, am_upS, am_stS, am_stO, am_tnn, am_brl, am_brg, am_bre, am_brn, am_brG, am_brL, am_st1, am_no2, am_st2, am_clr]
  revert h
  refine am_lp0 (P := fun k => Q (am_yi (am_ff (fun s => decide (NM (o + s) = ws)) q k)) (m, sl, sh, I, R) → am_wp (d) 217 3 [some (.inr (.inr (a))), some (.inl ((o : Int))), some (.inl ((q : Int))), some (.inr (.inl ((nm27 ws : Int)))), none, some (.inl ((k : Int)))] [] (m, sl, sh, I, R) Q) q (fun k hk ih h => ?_)
  refine am_wp_go rfl (by simp (disch := omega) only [hs, am_lcmpN, am_lcmpE, am_tnA, am_addE, am_subE, am_mulE, am_laddE, am_lsubE, am_upO, am_upS, am_stS, am_stO, am_tnn, am_brl, am_brg, am_bre, am_brn, am_brG, am_brL, am_st1, am_no2, am_st2, am_clr, and_self, true_and, and_true, true_or, or_true, List.length_cons, List.length_nil] <;> omega) ?_
  try simp (disch := omega) only [hs, am_lcmpN, am_lcmpE, am_tnA, am_addE, am_subE, am_mulE, am_laddE, am_lsubE, am_upO, am_upS, am_stS, am_stO, am_tnn, am_brl, am_brg, am_bre, am_brn, am_brG, am_brL, am_st1, am_no2, am_st2, am_clr]
  refine am_wp_br (fun b6 => ?_) (fun b6 => ?_)
  · refine am_wp_go rfl (by simp (disch := omega) only [hs, am_lcmpN, am_lcmpE, am_tnA, am_addE, am_subE, am_mulE, am_laddE, am_lsubE, am_upO, am_upS, am_stS, am_stO, am_tnn, am_brl, am_brg, am_bre, am_brn, am_brG, am_brL, am_st1, am_no2, am_st2, am_clr, and_self, true_and, and_true, true_or, or_true, List.length_cons, List.length_nil] <;> omega) ?_
    try simp (disch := omega) only [hs, am_lcmpN, am_lcmpE, am_tnA, am_addE, am_subE, am_mulE, am_laddE, am_lsubE, am_upO, am_upS, am_stS, am_stO, am_tnn, am_brl, am_brg, am_bre, am_brn, am_brG, am_brL, am_st1, am_no2, am_st2, am_clr]
    refine am_wp_ret rfl rfl ?_
    rwa [am_ff_end (by omega)] at h
  · obtain ⟨m1, m2⟩ := hm k (by omega)
    have mi := nm27_iff m1 hws
    refine am_wp_go rfl (by simp (disch := omega) only [hs, m2, am_lcmpN, am_lcmpE, am_tnA, am_addE, am_subE, am_mulE, am_laddE, am_lsubE, am_upO, am_upS, am_stS, am_stO, am_tnn, am_brl, am_brg, am_bre, am_brn, am_brG, am_brL, am_st1, am_no2, am_st2, am_clr, and_self, true_and, and_true, true_or, or_true, List.length_cons, List.length_nil] <;> omega) ?_
    try simp (disch := omega) only [hs, m2, am_lcmpN, am_lcmpE, am_tnA, am_addE, am_subE, am_mulE, am_laddE, am_lsubE, am_upO, am_upS, am_stS, am_stO, am_tnn, am_brl, am_brg, am_bre, am_brn, am_brG, am_brL, am_st1, am_no2, am_st2, am_clr]
    refine am_wp_br (fun b17 => ?_) (fun b17 => ?_)
    · refine am_wp_go rfl (by simp (disch := omega) only [hs, m2, am_lcmpN, am_lcmpE, am_tnA, am_addE, am_subE, am_mulE, am_laddE, am_lsubE, am_upO, am_upS, am_stS, am_stO, am_tnn, am_brl, am_brg, am_bre, am_brn, am_brG, am_brL, am_st1, am_no2, am_st2, am_clr, and_self, true_and, and_true, true_or, or_true, List.length_cons, List.length_nil] <;> omega) ?_
      try simp (disch := omega) only [hs, m2, am_lcmpN, am_lcmpE, am_tnA, am_addE, am_subE, am_mulE, am_laddE, am_lsubE, am_upO, am_upS, am_stS, am_stO, am_tnn, am_brl, am_brg, am_bre, am_brn, am_brG, am_brL, am_st1, am_no2, am_st2, am_clr]
      refine am_wp_ls (ih (by omega) ?_) rfl
      rwa [am_ff_on (decide_eq_false (fun hx => b17 (by rw [hx])))] at h
    · refine am_wp_go rfl (by simp (disch := omega) only [hs, m2, am_lcmpN, am_lcmpE, am_tnA, am_addE, am_subE, am_mulE, am_laddE, am_lsubE, am_upO, am_upS, am_stS, am_stO, am_tnn, am_brl, am_brg, am_bre, am_brn, am_brG, am_brL, am_st1, am_no2, am_st2, am_clr, and_self, true_and, and_true, true_or, or_true, List.length_cons, List.length_nil] <;> omega) ?_
      try simp (disch := omega) only [hs, m2, am_lcmpN, am_lcmpE, am_tnA, am_addE, am_subE, am_mulE, am_laddE, am_lsubE, am_upO, am_upS, am_stS, am_stO, am_tnn, am_brl, am_brg, am_bre, am_brn, am_brG, am_brL, am_st1, am_no2, am_st2, am_clr]
      refine am_wp_ret rfl rfl ?_
      rwa [am_ff_hit (by omega) (decide_eq_true (mi.mp (by omega)))] at h
/-- the text is begun -/
theorem w_M_begin {L : Nat} {x : Int} (ex : x = (L : Int)) (hw : wd sh R) (hb : beg I) (hn : n ≤ 640) (h2 : I 124 2 = (n : Int)) (ht : ∀ k, k < n → I 125 k = (b k : Int) ∧ b k ≤ 255) (h : ∀ J, (∀ a, a ≠ 124 → a ≠ 126 → J a = I a) → (∀ j, ¬ (j = 0 ∨ 2 ≤ j ∧ j ≤ 13 ∨ j = 23) → J 124 j = I 124 j) → J 124 2 = 0 → J 124 23 = 1 → J 124 10 = 0 → J 126 = lw I → rpR J b n L 0 → Q am_yv (m, sl, sh, J, R)) : am_wp (d + 3) 214 0 [some (.inr (.inr (124))), some (.inl (x))] [] (m, sl, sh, I, R) Q := by
  subst ex
  refine am_wp_go rfl (by simp (disch := omega) only [s124 hw, am_addE, am_subE, am_mulE, am_laddE, am_lsubE, am_upO, am_upS, am_stS, am_stO, am_tnn, am_brl, am_brg, am_bre, am_brn, am_brG, am_brL, am_st1, am_no2, am_st2, am_clr, and_self, true_and, and_true, true_or, or_true, List.length_cons, List.length_nil] <;> omega) ?_
  try simp (disch := omega) only [s124 hw, am_addE, am_subE, am_mulE, am_laddE, am_lsubE, am_upO, am_upS, am_stS, am_stO, am_tnn, am_brl, am_brg, am_bre, am_brn, am_brG, am_brL, am_st1, am_no2, am_st2, am_clr]
  refine am_wp_cc rfl rfl rfl (congrArg Prod.fst (s124 hw)) (w_M_lay hw (beg_rq (rq_thrown (I := I) (x := 0)) hb) (fun J j1 j2 j3 j4 => ⟨_, rfl, ?_⟩))
  have J2 : J 124 2 = (n : Int) := by rw [j2 2 (by decide), am_upS, am_stO (by decide), h2]
  rw [rq_lw (rq_thrown (I := I) (x := 0))] at j4
  refine am_wp_go rfl (by simp (disch := omega) only [s124 hw, am_addE, am_subE, am_mulE, am_laddE, am_lsubE, am_upO, am_upS, am_stS, am_stO, am_tnn, am_brl, am_brg, am_bre, am_brn, am_brG, am_brL, am_st1, am_no2, am_st2, am_clr, and_self, true_and, and_true, true_or, or_true, List.length_cons, List.length_nil] <;> omega) ?_
  try simp (disch := omega) only [s124 hw, am_addE, am_subE, am_mulE, am_laddE, am_lsubE, am_upO, am_upS, am_stS, am_stO, am_tnn, am_brl, am_brg, am_bre, am_brn, am_brG, am_brL, am_st1, am_no2, am_st2, am_clr]
  refine am_wp_cc rfl rfl rfl (congrArg Prod.fst (s124 hw)) (w_M_take hw ⟨_, rfl, ?_⟩)
  rw [J2]
  refine am_wp_go rfl (by simp (disch := omega) only [s124 hw, am_addE, am_subE, am_mulE, am_laddE, am_lsubE, am_upO, am_upS, am_stS, am_stO, am_tnn, am_brl, am_brg, am_bre, am_brn, am_brG, am_brL, am_st1, am_no2, am_st2, am_clr, and_self, true_and, and_true, true_or, or_true, List.length_cons, List.length_nil] <;> omega) ?_
  try simp (disch := omega) only [s124 hw, am_addE, am_subE, am_mulE, am_laddE, am_lsubE, am_upO, am_upS, am_stS, am_stO, am_tnn, am_brl, am_brg, am_bre, am_brn, am_brG, am_brL, am_st1, am_no2, am_st2, am_clr]
  have K0 : ∀ (K : Nat → Nat → Int), K = am_up (am_up (am_up (am_up (am_up J 124 2 0) 124 3 (n : Int)) 124 4 (L : Int)) 124 10 0) 124 5 0 → (∀ a, a ≠ 124 → K a = J a) ∧ (∀ i, i ≠ 2 → i ≠ 3 → i ≠ 4 → i ≠ 5 → i ≠ 10 → K 124 i = J 124 i) ∧ K 124 2 = 0 ∧ K 124 3 = (n : Int) ∧ K 124 4 = (L : Int) ∧ K 124 10 = 0 ∧ K 124 5 = 0 := fun K hK => by
    subst hK
    refine ⟨fun a ha => ?_, fun i i2 i3 i4 i5 i10 => ?_, ?_, ?_, ?_, ?_, ?_⟩
    · rw [am_upO ha, am_upO ha, am_upO ha, am_upO ha, am_upO ha]
    · simp (disch := omega) only [am_upS, am_stO]
    · simp (disch := omega) only [am_upS, am_stO, am_stS]
    · simp (disch := omega) only [am_upS, am_stO, am_stS]
    · simp (disch := omega) only [am_upS, am_stO, am_stS]
    · simp (disch := omega) only [am_upS, am_stO, am_stS]
    · simp (disch := omega) only [am_upS, am_stO, am_stS]
  obtain ⟨k1, k2, k3, k4, k5, k6, k7⟩ := K0 _ rfl
  clear K0
  generalize am_up (am_up (am_up (am_up (am_up J 124 2 0) 124 3 (n : Int)) 124 4 (L : Int)) 124 10 0) 124 5 0 = K at *
  have K125 : ∀ k, k < n → K 125 k = (b k : Int) ∧ b k ≤ 255 := fun k hk => by rw [k1 125 (by decide), j1 125 (by decide) (by decide), am_upO (by decide)]; exact ht k hk
  refine am_wp_cc rfl rfl rfl (congrArg Prod.fst (s124 hw)) (w_M_next (b := b) (n := n) (lim := L) (i := 0) hw hn k4 k5 k7 (Nat.zero_le n) K125 (fun X x0 x1 x2 => ⟨_, rfl, ?_⟩))
  refine am_wp_ret rfl rfl ?_
  refine h X (fun a a1 a2 => by rw [x0.1 a a1, k1 a a1, j1 a a1 a2, am_upO a1]) (fun i hi => ?_) ?_ ?_ ?_ ?_ ⟨hn, ?_, ?_, ?_, x2, x1⟩
  · rw [x0.2 i (by omega) (by omega) (by omega) (by omega) (by omega) (by omega), k2 i (by omega) (by omega) (by omega) (by omega) (by omega), j2 i (by omega), am_upS, am_stO (by omega)]
  · rw [x0.2 2 (by decide) (by decide) (by decide) (by decide) (by decide) (by decide), k3]
  · rw [x0.2 23 (by decide) (by decide) (by decide) (by decide) (by decide) (by decide), k2 23 (by decide) (by decide) (by decide) (by decide) (by decide), j3]
  · rw [x0.2 10 (by decide) (by decide) (by decide) (by decide) (by decide) (by decide), k6]
  · rw [x0.1 126 (by decide), k1 126 (by decide), j4]
  · rw [x0.2 3 (by decide) (by decide) (by decide) (by decide) (by decide) (by decide), k4]
  · rw [x0.2 4 (by decide) (by decide) (by decide) (by decide) (by decide) (by decide), k5]
  · rw [x0.1 125 (by decide)]; exact K125
end RP
