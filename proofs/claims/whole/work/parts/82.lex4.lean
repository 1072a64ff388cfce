/-! TOKENS: the class's tape, opened and read -/
def tkC (I : Nat → Nat → Int) (T : Nat → Tk) (q : Nat) : Prop := I 55 6 = (q : Int) ∧ (∀ i, (T i).1 ≠ 3) ∧ ∀ i, i < q → I 58 i = cK (T i) ∧ I 59 i = ((T i).2.1 : Int) ∧ (2 ≤ (T i).1 → I 60 i = cV (T i))
theorem tkC_put {I J : Nat → Nat → Int} {T : Nat → Tk} {q : Nat} (h : tkC I T q) (p : tkP I J q (T q)) : tkC J T (q + 1) := by
  obtain ⟨p1, p2, p3, p4, v, p5, p6⟩ := p
  refine ⟨p2, h.2.1, fun i hi => ?_⟩
  rw [p3, p4, p5]
  by_cases hiq : i = q
  · subst hiq
    rw [am_stS rfl, am_stS rfl, am_stS rfl]
    exact ⟨rfl, rfl, p6⟩
  · rw [am_stO hiq, am_stO hiq, am_stO hiq]
    exact h.2.2 i (by omega)
def owC (t : Tk) : Int := if t.1 = 2 then owI t.2.2.1 else -1
/-- the class's tape stands at TOKEN j of so many -/
def tpC (J : Nat → Nat → Int) (T : Nat → Tk) (N j : Nat) : Prop := tkC J T N ∧ J 55 7 = ((j + 1 : Nat) : Int) ∧ j < N ∧ N ≤ 641 ∧ (T (N - 1)).1 ≤ 1 ∧ J 55 8 = cK (T j) ∧ (2 ≤ (T j).1 → J 55 9 = cV (T j)) ∧ J 55 10 = owC (T j)
theorem tpC_fr {I J : Nat → Nat → Int} {T : Nat → Tk} {N j : Nat} (h : tpC I T N j) (e : ∀ k, k ≠ 1 → k ≠ 11 → k ≠ 12 → J 55 k = I 55 k) (e1 : J 58 = I 58) (e2 : J 59 = I 59) (e3 : J 60 = I 60) : tpC J T N j := by
  unfold tpC tkC at h ⊢
  rw [e 6 (by decide) (by decide) (by decide), e 7 (by decide) (by decide) (by decide), e 8 (by decide) (by decide) (by decide), e 9 (by decide) (by decide) (by decide), e 10 (by decide) (by decide) (by decide), e1, e2, e3]
  exact h
/-- all of it but for where it stands, and FAULTS -/
def frA (I J : Nat → Nat → Int) : Prop := (∀ a, a ≠ 55 → J a = I a) ∧ ∀ j, j ≠ 7 → j ≠ 8 → j ≠ 9 → j ≠ 10 → j ≠ 11 → j ≠ 12 → J 55 j = I 55 j
theorem frA_tr {I J K : Nat → Nat → Int} (h : frA I J) (g : frA J K) : frA I K := ⟨fun a ha => (g.1 a ha).trans (h.1 a ha), fun j a b c e f k => (g.2 j a b c e f k).trans (h.2 j a b c e f k)⟩
theorem frA_rf {I : Nat → Nat → Int} : frA I I := ⟨fun _ _ => rfl, fun _ _ _ _ _ _ _ => rfl⟩
theorem ow_le {t : Tk} (h : owC t ≠ -1) : t.1 = 2 := by
  unfold owC at h
  by_cases h2 : t.1 = 2
  · exact h2
  · rw [if_neg h2] at h; exact absurd rfl h
theorem lxK_3 {b : Nat → Nat} {f k : Nat} : lxK b f k ≠ 3 := by
  unfold lxK
  split
  · decide
  · split <;> decide
theorem lxJ_3 {b : Nat → Nat} {n lim j : Nat} : (lxJ b n lim j).1 ≠ 3 := by
  unfold lxJ lxT
  split
  · exact (by decide : (1 : Nat) ≠ 3)
  · split
    · exact (by decide : (0 : Nat) ≠ 3)
    · split
      · exact lxK_3
      · dsimp only
        split <;> decide
section LEX
variable {m sl : Nat} {sh : Nat → Nat × Nat} {I : Nat → Nat → Int} {R : Nat → Nat → Nat} {Q : am_R → am_M → Prop} {d : Nat} {b : Nat → Nat} {n lim q N j : Nat} {T : Nat → Tk}
/-- the TOKEN at hand is taken: from index j (or from the start) to j + 1 -/
theorem w_adv (hw : wd sh R) (hc : tkC I T N) (h7 : I 55 7 = (j : Int)) (hj : j < N) (hN : N ≤ 641) (hl : (T (N - 1)).1 ≤ 1) (h : ∀ J, frA I J → J 55 11 = I 55 11 → J 55 12 = I 55 12 → tpC J T N j → Q am_yv (m, sl, sh, J, R)) : am_wp (d) 126 0 [some (.inr (.inr (55)))] [] (m, sl, sh, I, R) Q := by
  obtain ⟨e6, n3, hr⟩ := id hc
  obtain ⟨r1, r2, r3⟩ := hr j hj
  have n3j := n3 j
  have FIN : ∀ (J : Nat → Nat → Int), frA I J → J 55 11 = I 55 11 → J 55 12 = I 55 12 → J 55 7 = ((j + 1 : Nat) : Int) → J 55 8 = cK (T j) → (2 ≤ (T j).1 → J 55 9 = cV (T j)) → J 55 10 = owC (T j) → Q am_yv (m, sl, sh, J, R) := fun J f0 f1 f2 f3 f4 f5 f6 => by
    refine h J f0 f1 f2 ⟨⟨by rw [f0.2 6 (by decide) (by decide) (by decide) (by decide) (by decide) (by decide)]; exact e6, n3, ?_⟩, f3, hj, hN, hl, f4, f5, f6⟩
    rw [f0.1 58 (by decide), f0.1 59 (by decide), f0.1 60 (by decide)]
    exact hr
  clear h hr
  refine am_wp_go rfl (by simp (disch := omega) only [s55 hw, r55_3 hw, s58 hw, r55_5 hw, s60 hw, e6, h7, r1, am_addE, am_subE, am_mulE, am_laddE, am_lsubE, am_upO, am_upS, am_stS, am_stO, am_tnn, am_brl, am_brg, am_bre, am_brn, am_brG, am_brL, am_st1, am_no2, am_st2, am_clr, and_self, true_and, and_true, true_or, or_true, List.length_cons, List.length_nil] <;> omega) ?_
  try simp (disch := omega) only [s55 hw, r55_3 hw, s58 hw, r55_5 hw, s60 hw, e6, h7, r1, am_addE, am_subE, am_mulE, am_laddE, am_lsubE, am_upO, am_upS, am_stS, am_stO, am_tnn, am_brl, am_brg, am_bre, am_brn, am_brG, am_brL, am_st1, am_no2, am_st2, am_clr]
  refine am_wp_br (fun b8 => ?_) (fun b8 => ?_)
  · omega
  · refine am_wp_go rfl (by simp (disch := omega) only [s55 hw, r55_3 hw, s58 hw, r55_5 hw, s60 hw, e6, h7, r1, am_addE, am_subE, am_mulE, am_laddE, am_lsubE, am_upO, am_upS, am_stS, am_stO, am_tnn, am_brl, am_brg, am_bre, am_brn, am_brG, am_brL, am_st1, am_no2, am_st2, am_clr, and_self, true_and, and_true, true_or, or_true, List.length_cons, List.length_nil] <;> omega) ?_
    try simp (disch := omega) only [s55 hw, r55_3 hw, s58 hw, r55_5 hw, s60 hw, e6, h7, r1, am_addE, am_subE, am_mulE, am_laddE, am_lsubE, am_upO, am_upS, am_stS, am_stO, am_tnn, am_brl, am_brg, am_bre, am_brn, am_brG, am_brL, am_st1, am_no2, am_st2, am_clr]
    refine am_wp_br (fun b43 => ?_) (fun b43 => ?_)
    · have o1 : owC (T j) = -1 := by
        unfold cK at b43
        unfold owC
        by_cases h2 : (T j).1 = 2
        · rw [if_pos h2] at b43 ⊢
          by_cases ho : owI (T j).2.2.1 = -1
          · exact ho
          · rw [if_neg ho] at b43; omega
        · rw [if_neg h2]
      refine am_wp_go rfl (by simp (disch := omega) only [s55 hw, and_self, true_and, and_true] <;> omega) ?_
      refine am_wp_ret rfl rfl ?_
      refine FIN _ ⟨fun a ha => ?_, fun k k1 k2 k3 k4 k5 k6 => ?_⟩ ?_ ?_ ?_ ?_ (fun hk => ?_) ?_
      · simp (disch := omega) only [am_upO]
      · simp (disch := omega) only [am_upS, am_stO]
      · simp (disch := omega) only [am_upS, am_stO]
      · simp (disch := omega) only [am_upS, am_stO]
      · simp (disch := omega) only [am_upS, am_stO, am_stS, h7, am_addE]; omega
      · simp (disch := omega) only [am_upS, am_stO, am_stS, r1]
      · simp (disch := omega) only [am_upS, am_upO, am_stO, am_stS, h7, am_tnn, r55_5 hw]
        exact r3 hk
      · simp (disch := omega) only [am_upS, am_stO, am_stS, o1]
    · have k3 : cK (T j) = 3 := Classical.not_not.mp b43
      have h2 : (T j).1 = 2 := by
        unfold cK at k3
        by_cases h2 : (T j).1 = 2
        · exact h2
        · rw [if_neg h2] at k3
          omega
      have o1 : owC (T j) = cV (T j) := by
        unfold cK at k3
        rw [if_pos h2] at k3
        unfold owC cV
        rw [if_pos h2, if_pos h2]
        by_cases ho : owI (T j).2.2.1 = -1
        · rw [if_pos ho] at k3; omega
        · rw [if_neg ho]
      have r3 := r3 (by omega)
      refine am_wp_go rfl (by simp (disch := omega) only [s55 hw, and_self, true_and, and_true] <;> omega) ?_
      refine am_wp_ret rfl rfl ?_
      refine FIN _ ⟨fun a ha => ?_, fun k k1 k2 k3 k4 k5 k6 => ?_⟩ ?_ ?_ ?_ ?_ (fun hk => ?_) ?_
      · simp (disch := omega) only [am_upO]
      · simp (disch := omega) only [am_upS, am_stO]
      · simp (disch := omega) only [am_upS, am_stO]
      · simp (disch := omega) only [am_upS, am_stO]
      · simp (disch := omega) only [am_upS, am_stO, am_stS, h7, am_addE]; omega
      · simp (disch := omega) only [am_upS, am_stO, am_stS, r1]
      · simp (disch := omega) only [am_upS, am_upO, am_stO, am_stS, h7, am_tnn, r55_5 hw, r3]
      · simp (disch := omega) only [am_upS, am_upO, am_stO, am_stS, h7, am_tnn, r55_5 hw, r3, o1]
theorem tp_next (h : tpC I T N j) (hk : 2 ≤ (T j).1) : j + 1 < N := by
  obtain ⟨h1, h2, h3, h4, h5, h6, h7, h8⟩ := h
  refine Classical.byContradiction (fun hc => ?_)
  rw [show N - 1 = j by omega] at h5
  omega
theorem w_advance (hw : wd sh R) (hc : tpC I T N j) (hk : 2 ≤ (T j).1) (h : ∀ J, frA I J → J 55 11 = I 55 11 → J 55 12 = I 55 12 → tpC J T N (j + 1) → Q am_yv (m, sl, sh, J, R)) : am_wp (d) 126 0 [some (.inr (.inr (55)))] [] (m, sl, sh, I, R) Q :=
  w_adv hw hc.1 hc.2.1 (tp_next hc hk) hc.2.2.2.1 hc.2.2.2.2.1 h
theorem w_tfail {k : Int} (hw : wd sh R) (hc : tpC I T N j) (h : ∀ J, frA I J → J 55 11 = k → J 55 12 = ((T j).2.1 : Int) → Q (am_yi 0) (m, sl, sh, J, R)) : am_wp (d) 128 0 [some (.inr (.inr (55))), some (.inl (k))] [] (m, sl, sh, I, R) Q := by
  obtain ⟨⟨e6, -, hr⟩, h2, h3, h4, -⟩ := hc
  obtain ⟨r1, r2, r3⟩ := hr j h3
  clear hr
  have q1 : ((j + 1 : Nat) : Int) - 1 = (j : Int) := by omega
  refine am_wp_go rfl (by simp (disch := omega) only [s55 hw, r55_4 hw, s59 hw, h2, r2, q1, am_addE, am_subE, am_mulE, am_laddE, am_lsubE, am_upO, am_upS, am_stS, am_stO, am_tnn, am_brl, am_brg, am_bre, am_brn, am_brG, am_brL, am_st1, am_no2, am_st2, am_clr, and_self, true_and, and_true, true_or, or_true, List.length_cons, List.length_nil] <;> omega) ?_
  try simp (disch := omega) only [s55 hw, r55_4 hw, s59 hw, h2, r2, q1, am_addE, am_subE, am_mulE, am_laddE, am_lsubE, am_upO, am_upS, am_stS, am_stO, am_tnn, am_brl, am_brg, am_bre, am_brn, am_brG, am_brL, am_st1, am_no2, am_st2, am_clr]
  refine am_wp_br (fun b10 => ?_) (fun b10 => ?_)
  · omega
  · refine am_wp_go rfl (by simp (disch := omega) only [s55 hw, r55_4 hw, s59 hw, h2, r2, q1, am_addE, am_subE, am_mulE, am_laddE, am_lsubE, am_upO, am_upS, am_stS, am_stO, am_tnn, am_brl, am_brg, am_bre, am_brn, am_brG, am_brL, am_st1, am_no2, am_st2, am_clr, and_self, true_and, and_true, true_or, or_true, List.length_cons, List.length_nil] <;> omega) ?_
    try simp (disch := omega) only [s55 hw, r55_4 hw, s59 hw, h2, r2, q1, am_addE, am_subE, am_mulE, am_laddE, am_lsubE, am_upO, am_upS, am_stS, am_stO, am_tnn, am_brl, am_brg, am_bre, am_brn, am_brG, am_brL, am_st1, am_no2, am_st2, am_clr]
    refine am_wp_ret rfl rfl ?_
    refine h _ ⟨fun a ha => ?_, fun i i1 i2 i3 i4 i5 i6 => ?_⟩ ?_ ?_
    · rw [am_upO ha, am_upO ha]
    · rw [am_upS, am_stO i6, am_upS, am_stO i5]
    · rw [am_upS, am_stO (by decide), am_upS, am_stS rfl]
    · rw [am_upS, am_stS rfl]
abbrev isSg (t : Tk) (c : Nat) : Prop := t.1 = 5 ∧ t.2.2.2 = c
theorem cK_5 {t : Tk} : cK t = 5 ↔ t.1 = 5 := by
  unfold cK
  by_cases h2 : t.1 = 2
  · rw [if_pos h2]; split <;> omega
  · rw [if_neg h2]; omega
theorem cK_4 {t : Tk} : cK t = 4 ↔ t.1 = 4 := by
  unfold cK
  by_cases h2 : t.1 = 2
  · rw [if_pos h2]; split <;> omega
  · rw [if_neg h2]; omega
theorem cK_0 {t : Tk} : cK t = 0 ↔ t.1 = 0 := by
  unfold cK
  by_cases h2 : t.1 = 2
  · rw [if_pos h2]; split <;> omega
  · rw [if_neg h2]; omega
/-- a NAME -/
def isNm (t : Tk) : Prop := t.1 = 2 ∧ owI t.2.2.1 = -1
theorem cK_2 {t : Tk} : cK t = 2 ↔ isNm t := by
  unfold cK isNm
  by_cases h2 : t.1 = 2
  · rw [if_pos h2]
    split
    · rename_i h; exact ⟨fun _ => ⟨h2, h⟩, fun _ => rfl⟩
    · rename_i h; exact ⟨fun h => by omega, fun hx => absurd hx.2 h⟩
  · rw [if_neg h2]; exact ⟨fun h => by omega, fun hx => absurd hx.1 h2⟩
theorem w_isSign {c : Nat} (hw : wd sh R) (hc : tpC I T N j) (h : Q (am_yi (am_b (isSg (T j) c))) (m, sl, sh, I, R)) : am_wp (d) 127 0 [some (.inr (.inr (55))), some (.inl ((c : Int)))] [] (m, sl, sh, I, R) Q := by
  obtain ⟨-, -, -, -, -, h8, h9, -⟩ := hc
  have k5 := cK_5 (t := T j)
  refine am_wp_go rfl (by simp (disch := omega) only [s55 hw, h8, am_addE, am_subE, am_mulE, am_laddE, am_lsubE, am_upO, am_upS, am_stS, am_stO, am_tnn, am_brl, am_brg, am_bre, am_brn, am_brG, am_brL, am_st1, am_no2, am_st2, am_clr, and_self, true_and, and_true, true_or, or_true, List.length_cons, List.length_nil] <;> omega) ?_
  try simp (disch := omega) only [s55 hw, h8, am_addE, am_subE, am_mulE, am_laddE, am_lsubE, am_upO, am_upS, am_stS, am_stO, am_tnn, am_brl, am_brg, am_bre, am_brn, am_brG, am_brL, am_st1, am_no2, am_st2, am_clr]
  refine am_wp_br (fun b5 => ?_) (fun b5 => ?_)
  · refine am_wp_go rfl (by simp (disch := omega) only [s55 hw, h8, am_addE, am_subE, am_mulE, am_laddE, am_lsubE, am_upO, am_upS, am_stS, am_stO, am_tnn, am_brl, am_brg, am_bre, am_brn, am_brG, am_brL, am_st1, am_no2, am_st2, am_clr, and_self, true_and, and_true, true_or, or_true, List.length_cons, List.length_nil] <;> omega) ?_
    try simp (disch := omega) only [s55 hw, h8, am_addE, am_subE, am_mulE, am_laddE, am_lsubE, am_upO, am_upS, am_stS, am_stO, am_tnn, am_brl, am_brg, am_bre, am_brn, am_brG, am_brL, am_st1, am_no2, am_st2, am_clr]
    refine am_wp_ret rfl rfl ?_
    rwa [am_bF (fun hx => b5 (k5.mpr hx.1))] at h
  · have e5 := k5.mp (Classical.not_not.mp b5)
    have e9 := h9 (by omega)
    have ev : cV (T j) = ((T j).2.2.2 : Int) := by unfold cV; rw [if_neg (by omega)]
    rw [ev] at e9
    clear h9 k5
    refine am_wp_go rfl (by simp (disch := omega) only [s55 hw, e9, am_addE, am_subE, am_mulE, am_laddE, am_lsubE, am_upO, am_upS, am_stS, am_stO, am_tnn, am_brl, am_brg, am_bre, am_brn, am_brG, am_brL, am_st1, am_no2, am_st2, am_clr, and_self, true_and, and_true, true_or, or_true, List.length_cons, List.length_nil] <;> omega) ?_
    try simp (disch := omega) only [s55 hw, e9, am_addE, am_subE, am_mulE, am_laddE, am_lsubE, am_upO, am_upS, am_stS, am_stO, am_tnn, am_brl, am_brg, am_bre, am_brn, am_brG, am_brL, am_st1, am_no2, am_st2, am_clr]
    refine am_wp_br (fun b13 => ?_) (fun b13 => ?_)
    · refine am_wp_go rfl (by simp (disch := omega) only [s55 hw, e9, am_addE, am_subE, am_mulE, am_laddE, am_lsubE, am_upO, am_upS, am_stS, am_stO, am_tnn, am_brl, am_brg, am_bre, am_brn, am_brG, am_brL, am_st1, am_no2, am_st2, am_clr, and_self, true_and, and_true, true_or, or_true, List.length_cons, List.length_nil] <;> omega) ?_
      try simp (disch := omega) only [s55 hw, e9, am_addE, am_subE, am_mulE, am_laddE, am_lsubE, am_upO, am_upS, am_stS, am_stO, am_tnn, am_brl, am_brg, am_bre, am_brn, am_brG, am_brL, am_st1, am_no2, am_st2, am_clr]
      refine am_wp_ret rfl rfl ?_
      rwa [am_bF (fun hx => by have := hx.2; omega)] at h
    · refine am_wp_go rfl (by simp (disch := omega) only [s55 hw, e9, am_addE, am_subE, am_mulE, am_laddE, am_lsubE, am_upO, am_upS, am_stS, am_stO, am_tnn, am_brl, am_brg, am_bre, am_brn, am_brG, am_brL, am_st1, am_no2, am_st2, am_clr, and_self, true_and, and_true, true_or, or_true, List.length_cons, List.length_nil] <;> omega) ?_
      try simp (disch := omega) only [s55 hw, e9, am_addE, am_subE, am_mulE, am_laddE, am_lsubE, am_upO, am_upS, am_stS, am_stO, am_tnn, am_brl, am_brg, am_bre, am_brn, am_brG, am_brL, am_st1, am_no2, am_st2, am_clr]
      refine am_wp_ret rfl rfl ?_
      rwa [am_bT ⟨e5, by omega⟩] at h
/-- a NUMBER as told, or its FAULT -/
def nmF (t : Tk) (a b : Nat) : Nat := if t.1 ≠ 4 then 1 else if t.2.2.2 < a ∨ b < t.2.2.2 then 2 else 0
theorem w_takeNumber {a b : Nat} (hw : wd sh R) (hc : tpC I T N j) (h0 : nmF (T j) a b ≠ 0 → ∀ J, frA I J → J 55 11 = (nmF (T j) a b : Int) → J 55 12 = ((T j).2.1 : Int) → Q (am_yi (-1)) (m, sl, sh, J, R)) (h1 : nmF (T j) a b = 0 → a ≤ (T j).2.2.2 → (T j).2.2.2 ≤ b → ∀ J, frA I J → J 55 11 = I 55 11 → J 55 12 = I 55 12 → tpC J T N (j + 1) → Q (am_yi (T j).2.2.2) (m, sl, sh, J, R)) : am_wp (d + 1) 129 0 [some (.inr (.inr (55))), some (.inl ((a : Int))), some (.inl ((b : Int))), none] [] (m, sl, sh, I, R) Q := by
  obtain ⟨-, -, -, -, -, h8, h9, -⟩ := id hc
  have k4 := cK_4 (t := T j)
  unfold nmF at h0 h1
  refine am_wp_go rfl (by simp (disch := omega) only [s55 hw, h8, am_addE, am_subE, am_mulE, am_laddE, am_lsubE, am_upO, am_upS, am_stS, am_stO, am_tnn, am_brl, am_brg, am_bre, am_brn, am_brG, am_brL, am_st1, am_no2, am_st2, am_clr, and_self, true_and, and_true, true_or, or_true, List.length_cons, List.length_nil] <;> omega) ?_
  try simp (disch := omega) only [s55 hw, h8, am_addE, am_subE, am_mulE, am_laddE, am_lsubE, am_upO, am_upS, am_stS, am_stO, am_tnn, am_brl, am_brg, am_bre, am_brn, am_brG, am_brL, am_st1, am_no2, am_st2, am_clr]
  refine am_wp_br (fun b5 => ?_) (fun b5 => ?_)
  · have e4 := k4.mp b5
    have e9 := h9 (by omega)
    have ev : cV (T j) = ((T j).2.2.2 : Int) := by unfold cV; rw [if_neg (by omega)]
    rw [ev] at e9
    rw [if_neg (fun hx => hx e4)] at h0 h1
    clear h9 k4
    refine am_wp_go rfl (by simp (disch := omega) only [s55 hw, e9, am_addE, am_subE, am_mulE, am_laddE, am_lsubE, am_upO, am_upS, am_stS, am_stO, am_tnn, am_brl, am_brg, am_bre, am_brn, am_brG, am_brL, am_st1, am_no2, am_st2, am_clr, and_self, true_and, and_true, true_or, or_true, List.length_cons, List.length_nil] <;> omega) ?_
    try simp (disch := omega) only [s55 hw, e9, am_addE, am_subE, am_mulE, am_laddE, am_lsubE, am_upO, am_upS, am_stS, am_stO, am_tnn, am_brl, am_brg, am_bre, am_brn, am_brG, am_brL, am_st1, am_no2, am_st2, am_clr]
    refine am_wp_br (fun b21 => ?_) (fun b21 => ?_)
    · rw [if_pos (by omega)] at h0
      have h := h0 (by decide)
      clear h0 h1
      refine am_wp_go rfl (by simp (disch := omega) only [s55 hw, e9, am_addE, am_subE, am_mulE, am_laddE, am_lsubE, am_upO, am_upS, am_stS, am_stO, am_tnn, am_brl, am_brg, am_bre, am_brn, am_brG, am_brL, am_st1, am_no2, am_st2, am_clr, and_self, true_and, and_true, true_or, or_true, List.length_cons, List.length_nil] <;> omega) ?_
      try simp (disch := omega) only [s55 hw, e9, am_addE, am_subE, am_mulE, am_laddE, am_lsubE, am_upO, am_upS, am_stS, am_stO, am_tnn, am_brl, am_brg, am_bre, am_brn, am_brG, am_brL, am_st1, am_no2, am_st2, am_clr]
      refine am_wp_cc rfl rfl rfl (congrArg Prod.fst (s55 hw)) (w_tfail (k := 2) hw hc (fun J j0 j1 j2 => ⟨_, rfl, ?_⟩))
      refine am_wp_go rfl (by simp (disch := omega) only [s55 hw, e9, am_addE, am_subE, am_mulE, am_laddE, am_lsubE, am_upO, am_upS, am_stS, am_stO, am_tnn, am_brl, am_brg, am_bre, am_brn, am_brG, am_brL, am_st1, am_no2, am_st2, am_clr, and_self, true_and, and_true, true_or, or_true, List.length_cons, List.length_nil] <;> omega) ?_
      try simp (disch := omega) only [s55 hw, e9, am_addE, am_subE, am_mulE, am_laddE, am_lsubE, am_upO, am_upS, am_stS, am_stO, am_tnn, am_brl, am_brg, am_bre, am_brn, am_brG, am_brL, am_st1, am_no2, am_st2, am_clr]
      refine am_wp_ret rfl rfl ?_
      exact h J j0 j1 j2
    · refine am_wp_go rfl (by simp (disch := omega) only [s55 hw, e9, am_addE, am_subE, am_mulE, am_laddE, am_lsubE, am_upO, am_upS, am_stS, am_stO, am_tnn, am_brl, am_brg, am_bre, am_brn, am_brG, am_brL, am_st1, am_no2, am_st2, am_clr, and_self, true_and, and_true, true_or, or_true, List.length_cons, List.length_nil] <;> omega) ?_
      try simp (disch := omega) only [s55 hw, e9, am_addE, am_subE, am_mulE, am_laddE, am_lsubE, am_upO, am_upS, am_stS, am_stO, am_tnn, am_brl, am_brg, am_bre, am_brn, am_brG, am_brL, am_st1, am_no2, am_st2, am_clr]
      refine am_wp_br (fun b29 => ?_) (fun b29 => ?_)
      · rw [if_neg (by omega)] at h1
        have h := h1 rfl (by omega) (by omega)
        clear h0 h1
        refine am_wp_go rfl (by simp (disch := omega) only [s55 hw, e9, am_addE, am_subE, am_mulE, am_laddE, am_lsubE, am_upO, am_upS, am_stS, am_stO, am_tnn, am_brl, am_brg, am_bre, am_brn, am_brG, am_brL, am_st1, am_no2, am_st2, am_clr, and_self, true_and, and_true, true_or, or_true, List.length_cons, List.length_nil] <;> omega) ?_
        try simp (disch := omega) only [s55 hw, e9, am_addE, am_subE, am_mulE, am_laddE, am_lsubE, am_upO, am_upS, am_stS, am_stO, am_tnn, am_brl, am_brg, am_bre, am_brn, am_brG, am_brL, am_st1, am_no2, am_st2, am_clr]
        refine am_wp_cc rfl rfl rfl (congrArg Prod.fst (s55 hw)) (w_advance hw hc (by omega) (fun J j0 j1 j2 j3 => ⟨_, rfl, ?_⟩))
        refine am_wp_go rfl (by simp (disch := omega) only [s55 hw, e9, am_addE, am_subE, am_mulE, am_laddE, am_lsubE, am_upO, am_upS, am_stS, am_stO, am_tnn, am_brl, am_brg, am_bre, am_brn, am_brG, am_brL, am_st1, am_no2, am_st2, am_clr, and_self, true_and, and_true, true_or, or_true, List.length_cons, List.length_nil] <;> omega) ?_
        try simp (disch := omega) only [s55 hw, e9, am_addE, am_subE, am_mulE, am_laddE, am_lsubE, am_upO, am_upS, am_stS, am_stO, am_tnn, am_brl, am_brg, am_bre, am_brn, am_brG, am_brL, am_st1, am_no2, am_st2, am_clr]
        refine am_wp_ret rfl rfl ?_
        exact h J j0 j1 j2 j3
      · rw [if_pos (by omega)] at h0
        have h := h0 (by decide)
        clear h0 h1
        refine am_wp_go rfl (by simp (disch := omega) only [s55 hw, e9, am_addE, am_subE, am_mulE, am_laddE, am_lsubE, am_upO, am_upS, am_stS, am_stO, am_tnn, am_brl, am_brg, am_bre, am_brn, am_brG, am_brL, am_st1, am_no2, am_st2, am_clr, and_self, true_and, and_true, true_or, or_true, List.length_cons, List.length_nil] <;> omega) ?_
        try simp (disch := omega) only [s55 hw, e9, am_addE, am_subE, am_mulE, am_laddE, am_lsubE, am_upO, am_upS, am_stS, am_stO, am_tnn, am_brl, am_brg, am_bre, am_brn, am_brG, am_brL, am_st1, am_no2, am_st2, am_clr]
        refine am_wp_cc rfl rfl rfl (congrArg Prod.fst (s55 hw)) (w_tfail (k := 2) hw hc (fun J j0 j1 j2 => ⟨_, rfl, ?_⟩))
        refine am_wp_go rfl (by simp (disch := omega) only [s55 hw, e9, am_addE, am_subE, am_mulE, am_laddE, am_lsubE, am_upO, am_upS, am_stS, am_stO, am_tnn, am_brl, am_brg, am_bre, am_brn, am_brG, am_brL, am_st1, am_no2, am_st2, am_clr, and_self, true_and, and_true, true_or, or_true, List.length_cons, List.length_nil] <;> omega) ?_
        try simp (disch := omega) only [s55 hw, e9, am_addE, am_subE, am_mulE, am_laddE, am_lsubE, am_upO, am_upS, am_stS, am_stO, am_tnn, am_brl, am_brg, am_bre, am_brn, am_brG, am_brL, am_st1, am_no2, am_st2, am_clr]
        refine am_wp_ret rfl rfl ?_
        exact h J j0 j1 j2
  · have e4 : (T j).1 ≠ 4 := fun hx => b5 (k4.mpr hx)
    rw [if_pos e4] at h0
    have h := h0 (by decide)
    clear h0 h1 k4 h9
    refine am_wp_go rfl (by simp (disch := omega) only [s55 hw, h8, am_addE, am_subE, am_mulE, am_laddE, am_lsubE, am_upO, am_upS, am_stS, am_stO, am_tnn, am_brl, am_brg, am_bre, am_brn, am_brG, am_brL, am_st1, am_no2, am_st2, am_clr, and_self, true_and, and_true, true_or, or_true, List.length_cons, List.length_nil] <;> omega) ?_
    try simp (disch := omega) only [s55 hw, h8, am_addE, am_subE, am_mulE, am_laddE, am_lsubE, am_upO, am_upS, am_stS, am_stO, am_tnn, am_brl, am_brg, am_bre, am_brn, am_brG, am_brL, am_st1, am_no2, am_st2, am_clr]
    refine am_wp_cc rfl rfl rfl (congrArg Prod.fst (s55 hw)) (w_tfail (k := 1) hw hc (fun J j0 j1 j2 => ⟨_, rfl, ?_⟩))
    refine am_wp_go rfl (by simp (disch := omega) only [s55 hw, h8, am_addE, am_subE, am_mulE, am_laddE, am_lsubE, am_upO, am_upS, am_stS, am_stO, am_tnn, am_brl, am_brg, am_bre, am_brn, am_brG, am_brL, am_st1, am_no2, am_st2, am_clr, and_self, true_and, and_true, true_or, or_true, List.length_cons, List.length_nil] <;> omega) ?_
    try simp (disch := omega) only [s55 hw, h8, am_addE, am_subE, am_mulE, am_laddE, am_lsubE, am_upO, am_upS, am_stS, am_stO, am_tnn, am_brl, am_brg, am_bre, am_brn, am_brG, am_brL, am_st1, am_no2, am_st2, am_clr]
    refine am_wp_ret rfl rfl ?_
    exact h J j0 j1 j2
theorem w_takeSign {c : Nat} (hw : wd sh R) (hc : tpC I T N j) (h0 : ¬ isSg (T j) c → ∀ J, frA I J → J 55 11 = 1 → J 55 12 = ((T j).2.1 : Int) → Q (am_yi 0) (m, sl, sh, J, R)) (h1 : isSg (T j) c → ∀ J, frA I J → J 55 11 = I 55 11 → J 55 12 = I 55 12 → tpC J T N (j + 1) → Q (am_yi 1) (m, sl, sh, J, R)) : am_wp (d + 1) 130 0 [some (.inr (.inr (55))), some (.inl ((c : Int)))] [] (m, sl, sh, I, R) Q := by
  refine am_wp_go rfl (by simp (disch := omega) only [am_bn0, am_addE, am_subE, am_mulE, am_laddE, am_lsubE, am_upO, am_upS, am_stS, am_stO, am_tnn, am_brl, am_brg, am_bre, am_brn, am_brG, am_brL, am_st1, am_no2, am_st2, am_clr, and_self, true_and, and_true, true_or, or_true, List.length_cons, List.length_nil] <;> omega) ?_
  try simp (disch := omega) only [am_bn0, am_addE, am_subE, am_mulE, am_laddE, am_lsubE, am_upO, am_upS, am_stS, am_stO, am_tnn, am_brl, am_brg, am_bre, am_brn, am_brG, am_brL, am_st1, am_no2, am_st2, am_clr]
  refine am_wp_cc rfl rfl rfl (congrArg Prod.fst (s55 hw)) (w_isSign (c := c) hw hc ⟨_, rfl, ?_⟩)
  refine am_wp_go rfl (by simp (disch := omega) only [am_bn0, am_addE, am_subE, am_mulE, am_laddE, am_lsubE, am_upO, am_upS, am_stS, am_stO, am_tnn, am_brl, am_brg, am_bre, am_brn, am_brG, am_brL, am_st1, am_no2, am_st2, am_clr, and_self, true_and, and_true, true_or, or_true, List.length_cons, List.length_nil] <;> omega) ?_
  try simp (disch := omega) only [am_bn0, am_addE, am_subE, am_mulE, am_laddE, am_lsubE, am_upO, am_upS, am_stS, am_stO, am_tnn, am_brl, am_brg, am_bre, am_brn, am_brG, am_brL, am_st1, am_no2, am_st2, am_clr]
  refine am_wp_br (fun b5 => ?_) (fun b5 => ?_)
  · have h := h1 b5
    refine am_wp_go rfl (by simp (disch := omega) only [am_bn0, am_addE, am_subE, am_mulE, am_laddE, am_lsubE, am_upO, am_upS, am_stS, am_stO, am_tnn, am_brl, am_brg, am_bre, am_brn, am_brG, am_brL, am_st1, am_no2, am_st2, am_clr, and_self, true_and, and_true, true_or, or_true, List.length_cons, List.length_nil] <;> omega) ?_
    try simp (disch := omega) only [am_bn0, am_addE, am_subE, am_mulE, am_laddE, am_lsubE, am_upO, am_upS, am_stS, am_stO, am_tnn, am_brl, am_brg, am_bre, am_brn, am_brG, am_brL, am_st1, am_no2, am_st2, am_clr]
    refine am_wp_cc rfl rfl rfl (congrArg Prod.fst (s55 hw)) (w_advance hw hc (by have := b5.1; omega) (fun J j0 j1 j2 j3 => ⟨_, rfl, ?_⟩))
    refine am_wp_go rfl (by simp (disch := omega) only [am_bn0, am_addE, am_subE, am_mulE, am_laddE, am_lsubE, am_upO, am_upS, am_stS, am_stO, am_tnn, am_brl, am_brg, am_bre, am_brn, am_brG, am_brL, am_st1, am_no2, am_st2, am_clr, and_self, true_and, and_true, true_or, or_true, List.length_cons, List.length_nil] <;> omega) ?_
    try simp (disch := omega) only [am_bn0, am_addE, am_subE, am_mulE, am_laddE, am_lsubE, am_upO, am_upS, am_stS, am_stO, am_tnn, am_brl, am_brg, am_bre, am_brn, am_brG, am_brL, am_st1, am_no2, am_st2, am_clr]
    refine am_wp_ret rfl rfl ?_
    exact h J j0 j1 j2 j3
  · have h := h0 b5
    refine am_wp_go rfl (by simp (disch := omega) only [am_bn0, am_addE, am_subE, am_mulE, am_laddE, am_lsubE, am_upO, am_upS, am_stS, am_stO, am_tnn, am_brl, am_brg, am_bre, am_brn, am_brG, am_brL, am_st1, am_no2, am_st2, am_clr, and_self, true_and, and_true, true_or, or_true, List.length_cons, List.length_nil] <;> omega) ?_
    try simp (disch := omega) only [am_bn0, am_addE, am_subE, am_mulE, am_laddE, am_lsubE, am_upO, am_upS, am_stS, am_stO, am_tnn, am_brl, am_brg, am_bre, am_brn, am_brG, am_brL, am_st1, am_no2, am_st2, am_clr]
    refine am_wp_cc rfl rfl rfl (congrArg Prod.fst (s55 hw)) (w_tfail (k := 1) hw hc (fun J j0 j1 j2 => ⟨_, rfl, ?_⟩))
    refine am_wp_ret rfl rfl ?_
    exact h J j0 j1 j2
set_option maxHeartbeats 4000000 in
theorem w_open (hw : wd sh R) (hn : n ≤ 640) (hlim : lim ≤ 640) (h1 : I 55 1 = (n : Int)) (h57 : I 57 = ownR) (hb : ∀ k, k < n → I 56 k = sbyte (b k : Int) ∧ b k ≤ 255) (h : ∀ J N, (∀ a, a ≠ 55 → a ≠ 58 → a ≠ 59 → a ≠ 60 → J a = I a) → J 55 1 = 0 → tpC J (lxJ b n lim) N 0 → Q am_yv (m, sl, sh, J, R)) : am_wp (d + 3) 120 0 [some (.inr (.inr (55))), some (.inl ((lim : Int))), none, none, none] [] (m, sl, sh, I, R) Q := by
  refine am_wp_go rfl (by simp (disch := omega) only [s55 hw, h1, am_addE, am_subE, am_mulE, am_laddE, am_lsubE, am_upO, am_upS, am_stS, am_stO, am_tnn, am_brl, am_brg, am_bre, am_brn, am_brG, am_brL, am_st1, am_no2, am_st2, am_clr, and_self, true_and, and_true, true_or, or_true, List.length_cons, List.length_nil] <;> omega) ?_
  try simp (disch := omega) only [s55 hw, h1, am_addE, am_subE, am_mulE, am_laddE, am_lsubE, am_upO, am_upS, am_stS, am_stO, am_tnn, am_brl, am_brg, am_bre, am_brn, am_brG, am_brL, am_st1, am_no2, am_st2, am_clr]
  have LP : ∀ e : Nat, ∀ (i q s : Nat) (V : Nat → Nat → Int), n - i = e → i ≤ n → q ≤ i → s ≤ i → (∀ a, a ≠ 55 → a ≠ 58 → a ≠ 59 → a ≠ 60 → V a = I a) → V 55 1 = 0 → tkC V (lxJ b n lim) q → lxS b n i = lxS b n (lxP b n q) → am_wp (d + 3) 120 20 [some (.inr (.inr (55))), some (.inl ((lim : Int))), some (.inl ((n : Int))), some (.inl ((i : Int))), some (.inl ((s : Int)))] [] (m, sl, sh, V, R) Q := by
    refine am_lm (α := Nat) (P := fun e => ∀ (i q s : Nat) (V : Nat → Nat → Int), n - i = e → i ≤ n → q ≤ i → s ≤ i → (∀ a, a ≠ 55 → a ≠ 58 → a ≠ 59 → a ≠ 60 → V a = I a) → V 55 1 = 0 → tkC V (lxJ b n lim) q → lxS b n i = lxS b n (lxP b n q) → am_wp (d + 3) 120 20 [some (.inr (.inr (55))), some (.inl ((lim : Int))), some (.inl ((n : Int))), some (.inl ((i : Int))), some (.inl ((s : Int)))] [] (m, sl, sh, V, R) Q) id (fun e ih i q s V he hi hqi hsi v1 v2 v3 v4 => ?_)
    obtain ⟨s1, s2⟩ := fstN_le (p := fun k => !lxB (b k)) hi
    have s1 : i ≤ lxS b n i := s1
    have s2 : lxS b n i ≤ n := s2
    -- behind the last
    have ED : (n ≤ i ∨ lim ≤ i) → am_wp (d + 3) 120 79 [some (.inr (.inr (55))), some (.inl ((lim : Int))), some (.inl ((n : Int))), some (.inl ((i : Int))), some (.inl ((s : Int)))] [] (m, sl, sh, V, R) Q := fun hend => by
      have LAST : ∀ J, tkP V J q (lxJ b n lim q) → (lxJ b n lim q).1 ≤ 1 → am_wp (d + 3) 120 101 [some (.inr (.inr (55))), some (.inl ((lim : Int))), some (.inl ((n : Int))), some (.inl ((i : Int))), some (.inl ((s : Int)))] [] (m, sl, sh, J, R) Q := fun J jp jl => by
        have jc := tkC_put v3 jp
        obtain ⟨⟨f1, f2⟩, -⟩ := jp
        refine am_wp_go rfl (by simp (disch := omega) only [s55 hw, am_addE, am_subE, am_mulE, am_laddE, am_lsubE, am_upO, am_upS, am_stS, am_stO, am_tnn, am_brl, am_brg, am_bre, am_brn, am_brG, am_brL, am_st1, am_no2, am_st2, am_clr, and_self, true_and, and_true, true_or, or_true, List.length_cons, List.length_nil] <;> omega) ?_
        try simp (disch := omega) only [s55 hw, am_addE, am_subE, am_mulE, am_laddE, am_lsubE, am_upO, am_upS, am_stS, am_stO, am_tnn, am_brl, am_brg, am_bre, am_brn, am_brG, am_brL, am_st1, am_no2, am_st2, am_clr]
        have c2 : tkC (am_up (am_up (am_up J 55 11 0) 55 12 0) 55 7 0) (lxJ b n lim) (q + 1) := by
          unfold tkC at jc ⊢
          simp (disch := omega) only [am_upS, am_upO, am_stO]
          exact jc
        refine am_wp_cc rfl rfl rfl (congrArg Prod.fst (s55 hw)) (w_adv (j := 0) (N := q + 1) hw c2 (by rw [am_upS, am_stS rfl]; rfl) (by omega) (by omega) (by rw [Nat.add_sub_cancel]; exact jl) (fun X x1 x2 x3 x4 => ⟨_, rfl, ?_⟩))
        refine am_wp_ret rfl rfl ?_
        refine h X (q + 1) (fun a a1 a2 a3 a4 => by rw [x1.1 a a1, am_upO a1, am_upO a1, am_upO a1, f1 a a1 a2 a3 a4, v1 a a1 a2 a3 a4]) ?_ x4
        rw [x1.2 1 (by decide) (by decide) (by decide) (by decide) (by decide) (by decide), am_upS, am_stO (by decide), am_upS, am_stO (by decide), am_upS, am_stO (by decide), f2 1 (by decide), v2]
      clear ih h
      refine am_wp_go rfl (by simp (disch := omega) only [s55 hw, am_addE, am_subE, am_mulE, am_laddE, am_lsubE, am_upO, am_upS, am_stS, am_stO, am_tnn, am_brl, am_brg, am_bre, am_brn, am_brG, am_brL, am_st1, am_no2, am_st2, am_clr, and_self, true_and, and_true, true_or, or_true, List.length_cons, List.length_nil] <;> omega) ?_
      try simp (disch := omega) only [s55 hw, am_addE, am_subE, am_mulE, am_laddE, am_lsubE, am_upO, am_upS, am_stS, am_stO, am_tnn, am_brl, am_brg, am_bre, am_brn, am_brG, am_brL, am_st1, am_no2, am_st2, am_clr]
      refine am_wp_br (fun b81 => ?_) (fun b81 => ?_)
      · have eT : lxJ b n lim q = (0, n, [], 0) := by
          unfold lxJ lxT
          rw [← v4, if_neg (by omega), if_pos (by omega)]
        refine am_wp_go rfl (by simp (disch := omega) only [s55 hw, am_addE, am_subE, am_mulE, am_laddE, am_lsubE, am_upO, am_upS, am_stS, am_stO, am_tnn, am_brl, am_brg, am_bre, am_brn, am_brG, am_brL, am_st1, am_no2, am_st2, am_clr, and_self, true_and, and_true, true_or, or_true, List.length_cons, List.length_nil] <;> omega) ?_
        try simp (disch := omega) only [s55 hw, am_addE, am_subE, am_mulE, am_laddE, am_lsubE, am_upO, am_upS, am_stS, am_stO, am_tnn, am_brl, am_brg, am_bre, am_brn, am_brG, am_brL, am_st1, am_no2, am_st2, am_clr]
        refine am_wp_cc rfl rfl rfl (congrArg Prod.fst (s55 hw)) (w_putToken (q := q) (t := (0, n, [], 0)) hw (by omega) v3.1 rfl rfl (fun hx => by dsimp only at hx; omega) (fun J jp => ⟨_, rfl, ?_⟩))
        rw [← eT] at jp
        exact am_wp_ls (LAST J jp (by rw [eT]; exact Nat.zero_le 1)) rfl
      · have eT : lxJ b n lim q = (1, lim, [], 0) := by
          unfold lxJ lxT
          rw [← v4, if_pos ⟨by omega, by omega⟩]
        refine am_wp_go rfl (by simp (disch := omega) only [s55 hw, am_addE, am_subE, am_mulE, am_laddE, am_lsubE, am_upO, am_upS, am_stS, am_stO, am_tnn, am_brl, am_brg, am_bre, am_brn, am_brG, am_brL, am_st1, am_no2, am_st2, am_clr, and_self, true_and, and_true, true_or, or_true, List.length_cons, List.length_nil] <;> omega) ?_
        try simp (disch := omega) only [s55 hw, am_addE, am_subE, am_mulE, am_laddE, am_lsubE, am_upO, am_upS, am_stS, am_stO, am_tnn, am_brl, am_brg, am_bre, am_brn, am_brG, am_brL, am_st1, am_no2, am_st2, am_clr]
        refine am_wp_cc rfl rfl rfl (congrArg Prod.fst (s55 hw)) (w_putToken (q := q) (t := (1, lim, [], 0)) hw (by omega) v3.1 rfl rfl (fun hx => by dsimp only at hx; omega) (fun J jp => ⟨_, rfl, ?_⟩))
        rw [← eT] at jp
        refine am_wp_goc [101] rfl trivial ?_
        exact am_wp_ls (LAST J jp (by rw [eT]; exact Nat.le_refl 1)) rfl
    clear h
    refine am_wp_go rfl (by simp (disch := omega) only [s55 hw, am_addE, am_subE, am_mulE, am_laddE, am_lsubE, am_upO, am_upS, am_stS, am_stO, am_tnn, am_brl, am_brg, am_bre, am_brn, am_brG, am_brL, am_st1, am_no2, am_st2, am_clr, and_self, true_and, and_true, true_or, or_true, List.length_cons, List.length_nil] <;> omega) ?_
    try simp (disch := omega) only [s55 hw, am_addE, am_subE, am_mulE, am_laddE, am_lsubE, am_upO, am_upS, am_stS, am_stO, am_tnn, am_brl, am_brg, am_bre, am_brn, am_brG, am_brL, am_st1, am_no2, am_st2, am_clr]
    refine am_wp_br (fun b25 => ?_) (fun b25 => ?_)
    · exact ED (Or.inl (by omega))
    · refine am_wp_go rfl (by simp (disch := omega) only [s55 hw, am_addE, am_subE, am_mulE, am_laddE, am_lsubE, am_upO, am_upS, am_stS, am_stO, am_tnn, am_brl, am_brg, am_bre, am_brn, am_brG, am_brL, am_st1, am_no2, am_st2, am_clr, and_self, true_and, and_true, true_or, or_true, List.length_cons, List.length_nil] <;> omega) ?_
      try simp (disch := omega) only [s55 hw, am_addE, am_subE, am_mulE, am_laddE, am_lsubE, am_upO, am_upS, am_stS, am_stO, am_tnn, am_brl, am_brg, am_bre, am_brn, am_brG, am_brL, am_st1, am_no2, am_st2, am_clr]
      refine am_wp_br (fun b30 => ?_) (fun b30 => ?_)
      · exact ED (Or.inl (by omega))
      · refine am_wp_go rfl (by simp (disch := omega) only [s55 hw, am_addE, am_subE, am_mulE, am_laddE, am_lsubE, am_upO, am_upS, am_stS, am_stO, am_tnn, am_brl, am_brg, am_bre, am_brn, am_brG, am_brL, am_st1, am_no2, am_st2, am_clr, and_self, true_and, and_true, true_or, or_true, List.length_cons, List.length_nil] <;> omega) ?_
        try simp (disch := omega) only [s55 hw, am_addE, am_subE, am_mulE, am_laddE, am_lsubE, am_upO, am_upS, am_stS, am_stO, am_tnn, am_brl, am_brg, am_bre, am_brn, am_brG, am_brL, am_st1, am_no2, am_st2, am_clr]
        refine am_wp_br (fun b35 => ?_) (fun b35 => ?_)
        · exact ED (Or.inr (by omega))
        · clear ED
          have hin : i < n := by omega
          obtain ⟨d1, d2⟩ := hb i hin
          have sv := sb_v d2
          have Vb : V 56 i = sbyte (b i : Int) := by rw [v1 56 (by decide) (by decide) (by decide) (by decide)]; exact d1
          by_cases hbl : lxB (b i) = true
          · have gs2 : lxS b n (i + 1) = lxS b n (lxP b n q) := by rw [← v4]; unfold lxS; rw [← fstN_on (i := i) (by rw [hbl]; rfl)]
            have ih := ih (n - (i + 1)) (by show n - (i + 1) < e; omega) (i + 1) q (s + 1) V rfl (by omega) (by omega) (by omega) v1 v2 v3 gs2
            have hbl := lxB_t.mp hbl
            have es : sbyte (b i : Int) = (b i : Int) := by omega
            rw [es] at Vb
            refine am_wp_go rfl (by simp (disch := omega) only [s55 hw, r55_0 hw, s56 hw, Vb, am_addE, am_subE, am_mulE, am_laddE, am_lsubE, am_upO, am_upS, am_stS, am_stO, am_tnn, am_brl, am_brg, am_bre, am_brn, am_brG, am_brL, am_st1, am_no2, am_st2, am_clr, and_self, true_and, and_true, true_or, or_true, List.length_cons, List.length_nil] <;> omega) ?_
            try simp (disch := omega) only [s55 hw, r55_0 hw, s56 hw, Vb, am_addE, am_subE, am_mulE, am_laddE, am_lsubE, am_upO, am_upS, am_stS, am_stO, am_tnn, am_brl, am_brg, am_bre, am_brn, am_brG, am_brL, am_st1, am_no2, am_st2, am_clr]
            refine am_wp_br (fun b46 => ?_) (fun b46 => ?_)
            · refine am_wp_go rfl (by simp (disch := omega) only [s55 hw, r55_0 hw, s56 hw, Vb, am_addE, am_subE, am_mulE, am_laddE, am_lsubE, am_upO, am_upS, am_stS, am_stO, am_tnn, am_brl, am_brg, am_bre, am_brn, am_brG, am_brL, am_st1, am_no2, am_st2, am_clr, and_self, true_and, and_true, true_or, or_true, List.length_cons, List.length_nil] <;> omega) ?_
              try simp (disch := omega) only [s55 hw, r55_0 hw, s56 hw, Vb, am_addE, am_subE, am_mulE, am_laddE, am_lsubE, am_upO, am_upS, am_stS, am_stO, am_tnn, am_brl, am_brg, am_bre, am_brn, am_brG, am_brL, am_st1, am_no2, am_st2, am_clr]
              exact am_wp_ls ih rfl
            · refine am_wp_go rfl (by simp (disch := omega) only [s55 hw, r55_0 hw, s56 hw, Vb, am_addE, am_subE, am_mulE, am_laddE, am_lsubE, am_upO, am_upS, am_stS, am_stO, am_tnn, am_brl, am_brg, am_bre, am_brn, am_brG, am_brL, am_st1, am_no2, am_st2, am_clr, and_self, true_and, and_true, true_or, or_true, List.length_cons, List.length_nil] <;> omega) ?_
              try simp (disch := omega) only [s55 hw, r55_0 hw, s56 hw, Vb, am_addE, am_subE, am_mulE, am_laddE, am_lsubE, am_upO, am_upS, am_stS, am_stO, am_tnn, am_brl, am_brg, am_bre, am_brn, am_brG, am_brL, am_st1, am_no2, am_st2, am_clr]
              refine am_wp_br (fun b57 => ?_) (fun b57 => ?_)
              · omega
              · refine am_wp_go rfl (by simp (disch := omega) only [s55 hw, r55_0 hw, s56 hw, Vb, am_addE, am_subE, am_mulE, am_laddE, am_lsubE, am_upO, am_upS, am_stS, am_stO, am_tnn, am_brl, am_brg, am_bre, am_brn, am_brG, am_brL, am_st1, am_no2, am_st2, am_clr, and_self, true_and, and_true, true_or, or_true, List.length_cons, List.length_nil] <;> omega) ?_
                try simp (disch := omega) only [s55 hw, r55_0 hw, s56 hw, Vb, am_addE, am_subE, am_mulE, am_laddE, am_lsubE, am_upO, am_upS, am_stS, am_stO, am_tnn, am_brl, am_brg, am_bre, am_brn, am_brG, am_brL, am_st1, am_no2, am_st2, am_clr]
                exact am_wp_ls ih rfl
          · have e0 : lxS b n i = i := by unfold lxS; rw [fstN_hit hin (by rw [bfalse hbl]; rfl)]
            have hbl : ¬ (b i = 32 ∨ b i = 10) := fun hx => hbl (lxB_t.mpr hx)
            have eT : lxJ b n lim q = lxV b n i := by
              unfold lxJ lxT lxV
              rw [← v4, e0, if_neg (by omega), if_neg (by omega)]
            have eP : lxP b n (q + 1) = if lxA (b i) = true then lxE b n i else i + 1 := by
              show lxX b n (lxP b n q) = _
              unfold lxX
              rw [← v4, e0, if_pos hin]
            have RT : am_wp (d + 3) 120 66 [some (.inr (.inr (55))), some (.inl ((lim : Int))), some (.inl ((n : Int))), some (.inl ((i : Int))), some (.inl ((s : Int)))] [] (m, sl, sh, V, R) Q := by
              refine am_wp_go rfl (by simp (disch := omega) only [am_addE, am_subE, am_mulE, am_laddE, am_lsubE, am_upO, am_upS, am_stS, am_stO, am_tnn, am_brl, am_brg, am_bre, am_brn, am_brG, am_brL, am_st1, am_no2, am_st2, am_clr, and_self, true_and, and_true, true_or, or_true, List.length_cons, List.length_nil] <;> omega) ?_
              try simp (disch := omega) only [am_addE, am_subE, am_mulE, am_laddE, am_lsubE, am_upO, am_upS, am_stS, am_stO, am_tnn, am_brl, am_brg, am_bre, am_brn, am_brG, am_brL, am_st1, am_no2, am_st2, am_clr]
              refine am_wp_cc rfl rfl rfl (congrArg Prod.fst (s55 hw)) (w_readToken (b := b) (n := n) (q := q) (f := i) hw hn (by omega) v3.1 (by rw [v1 57 (by decide) (by decide) (by decide) (by decide)]; exact h57) (by rw [v1 56 (by decide) (by decide) (by decide) (by decide)]; exact hb) hin (fun J jp => ⟨_, rfl, ?_⟩))
              rw [← eT] at jp
              rw [← eP]
              refine am_wp_go rfl (by simp (disch := omega) only [am_addE, am_subE, am_mulE, am_laddE, am_lsubE, am_upO, am_upS, am_stS, am_stO, am_tnn, am_brl, am_brg, am_bre, am_brn, am_brG, am_brL, am_st1, am_no2, am_st2, am_clr, and_self, true_and, and_true, true_or, or_true, List.length_cons, List.length_nil] <;> omega) ?_
              try simp (disch := omega) only [am_addE, am_subE, am_mulE, am_laddE, am_lsubE, am_upO, am_upS, am_stS, am_stO, am_tnn, am_brl, am_brg, am_bre, am_brn, am_brG, am_brL, am_st1, am_no2, am_st2, am_clr]
              have le1 : i + 1 ≤ lxP b n (q + 1) := by
                rw [eP]
                split
                · rename_i ha; exact (lxE_v hin ha).1
                · exact Nat.le_refl _
              have le2 := lxP_le (b := b) (n := n) (q + 1)
              refine am_wp_ls (ih (n - lxP b n (q + 1)) (by show n - lxP b n (q + 1) < e; omega) (lxP b n (q + 1)) (q + 1) (s + 1) J rfl le2 (by omega) (by omega) (fun a a1 a2 a3 a4 => by rw [jp.1.1 a a1 a2 a3 a4, v1 a a1 a2 a3 a4]) (by rw [jp.1.2 1 (by decide), v2]) (tkC_put v3 jp) rfl) rfl
            clear ih
            refine am_wp_go rfl (by simp (disch := omega) only [s55 hw, r55_0 hw, s56 hw, Vb, am_addE, am_subE, am_mulE, am_laddE, am_lsubE, am_upO, am_upS, am_stS, am_stO, am_tnn, am_brl, am_brg, am_bre, am_brn, am_brG, am_brL, am_st1, am_no2, am_st2, am_clr, and_self, true_and, and_true, true_or, or_true, List.length_cons, List.length_nil] <;> omega) ?_
            try simp (disch := omega) only [s55 hw, r55_0 hw, s56 hw, Vb, am_addE, am_subE, am_mulE, am_laddE, am_lsubE, am_upO, am_upS, am_stS, am_stO, am_tnn, am_brl, am_brg, am_bre, am_brn, am_brG, am_brL, am_st1, am_no2, am_st2, am_clr]
            refine am_wp_br (fun b46 => ?_) (fun b46 => ?_)
            · omega
            · refine am_wp_go rfl (by simp (disch := omega) only [s55 hw, r55_0 hw, s56 hw, Vb, am_addE, am_subE, am_mulE, am_laddE, am_lsubE, am_upO, am_upS, am_stS, am_stO, am_tnn, am_brl, am_brg, am_bre, am_brn, am_brG, am_brL, am_st1, am_no2, am_st2, am_clr, and_self, true_and, and_true, true_or, or_true, List.length_cons, List.length_nil] <;> omega) ?_
              try simp (disch := omega) only [s55 hw, r55_0 hw, s56 hw, Vb, am_addE, am_subE, am_mulE, am_laddE, am_lsubE, am_upO, am_upS, am_stS, am_stO, am_tnn, am_brl, am_brg, am_bre, am_brn, am_brG, am_brL, am_st1, am_no2, am_st2, am_clr]
              refine am_wp_br (fun b57 => ?_) (fun b57 => ?_)
              · exact RT
              · omega
  refine am_wp_ls (LP (n - 0) 0 0 0 _ rfl (Nat.zero_le n) (Nat.le_refl 0) (Nat.le_refl 0) (fun a a1 a2 a3 a4 => ?_) ?_ ⟨?_, fun i => lxJ_3, fun i hi => absurd hi (Nat.not_lt_zero i)⟩ rfl) rfl
  · rw [am_upO a1, am_upO a1]
  · rw [am_upS, am_stO (by decide), am_upS, am_stS rfl]
  · rw [am_upS, am_stS rfl]; rfl
end LEX
