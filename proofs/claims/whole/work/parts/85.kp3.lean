/-! A KITCHEN's text: the class reads it -/
def frK (I J : Nat → Nat → Int) : Prop := (∀ a, ¬ (40 ≤ a ∧ a ≤ 47 ∨ a = 55) → J a = I a) ∧ J 55 1 = I 55 1
theorem frK_tr {I J K : Nat → Nat → Int} (h : frK I J) (g : frK J K) : frK I K := ⟨fun a ha => (g.1 a ha).trans (h.1 a ha), g.2.trans h.2⟩
theorem frK_A {I J : Nat → Nat → Int} (h : frA I J) : frK I J := ⟨fun a ha => h.1 a (by omega), h.2 1 (by decide) (by decide) (by decide) (by decide) (by decide) (by decide)⟩
theorem krC_fr {I J : Nat → Nat → Int} {S : KS} (h : krC I S) (e : ∀ a, 40 ≤ a → a ≤ 47 → J a = I a) : krC J S := by
  obtain ⟨h1, h2, h3, h4⟩ := h
  refine ⟨kit_fr h1 (fun a a1 a2 => e a a1 a2), ?_, ?_, ?_⟩
  · rw [e 40 (by decide) (by decide)]; exact h2
  · rw [e 46 (by decide) (by decide)]; exact h3
  · rw [e 47 (by decide) (by decide)]; exact h4
theorem krC_A {I J : Nat → Nat → Int} {S : KS} (h : krC I S) (g : frA I J) : krC J S := krC_fr h (fun a a1 a2 => g.1 a (by omega))
section KP
variable {m sl : Nat} {sh : Nat → Nat × Nat} {I : Nat → Nat → Int} {R : Nat → Nat → Nat} {Q : am_R → am_M → Prop} {d : Nat} {N j : Nat} {T : Nat → Tk} {S : KS}
theorem w_sliceNamed {c n : Nat} {NM : Nat → List Nat} {ws : List Nat} (hk : kt_is sh R c) (hn : I c 6 = (n : Int)) (hn8 : n ≤ 8) (hm : ∀ s, s < n → letOk (NM s) ∧ I (c + 6) s = (nm32 (NM s) : Int)) (hws : letOk ws) (h : Q (am_yi (kFd NM 0 n ws)) (m, sl, sh, I, R)) : am_wp (d) 24 0 [some (.inr (.inr (c))), some (.inl ((nm32 ws : Int))), none] [] (m, sl, sh, I, R) Q := by
  have h1 := hk.1
  have h2 := hk.2.1.2.2.2.2.2.1
  have h3 := hk.2.2.1.2.2.2.2.2.1
  unfold kFd at h
  refine am_wp_go rfl (by simp (disch := omega) only [h1, h2, h3, hn, am_addE, am_subE, am_mulE, am_laddE, am_lsubE, am_upO, am_upS, am_stS, am_stO, am_tnn, am_brl, am_brg, am_bre, am_brn, am_brG, am_brL, am_st1, am_no2, am_st2, am_clr, and_self, true_and, and_true, true_or, or_true, List.length_cons, List.length_nil] <;> omega) ?_
  try simp (disch := omega) only [h1, h2, h3, hn, am_addE, am_subE, am_mulE, am_laddE, am_lsubE, am_upO, am_upS, am_stS, am_stO, am_tnn, am_brl, am_brg, am_bre, am_brn, am_brG, am_brL, am_st1, am_no2, am_st2, am_clr]
  revert h
  refine am_lp0 (P := fun k => Q (am_yi (am_ff (fun s => decide (NM (0 + s) = ws)) n k)) (m, sl, sh, I, R) → am_wp (d) 24 2 [some (.inr (.inr (c))), some (.inl ((nm32 ws : Int))), some (.inl ((k : Int)))] [] (m, sl, sh, I, R) Q) n (fun k hk2 ih h => ?_)
  refine am_wp_go rfl (by simp (disch := omega) only [h1, h2, h3, hn, am_addE, am_subE, am_mulE, am_laddE, am_lsubE, am_upO, am_upS, am_stS, am_stO, am_tnn, am_brl, am_brg, am_bre, am_brn, am_brG, am_brL, am_st1, am_no2, am_st2, am_clr, and_self, true_and, and_true, true_or, or_true, List.length_cons, List.length_nil] <;> omega) ?_
  try simp (disch := omega) only [h1, h2, h3, hn, am_addE, am_subE, am_mulE, am_laddE, am_lsubE, am_upO, am_upS, am_stS, am_stO, am_tnn, am_brl, am_brg, am_bre, am_brn, am_brG, am_brL, am_st1, am_no2, am_st2, am_clr]
  refine am_wp_br (fun b7 => ?_) (fun b7 => ?_)
  · refine am_wp_go rfl (by simp (disch := omega) only [h1, h2, h3, hn, am_addE, am_subE, am_mulE, am_laddE, am_lsubE, am_upO, am_upS, am_stS, am_stO, am_tnn, am_brl, am_brg, am_bre, am_brn, am_brG, am_brL, am_st1, am_no2, am_st2, am_clr, and_self, true_and, and_true, true_or, or_true, List.length_cons, List.length_nil] <;> omega) ?_
    try simp (disch := omega) only [h1, h2, h3, hn, am_addE, am_subE, am_mulE, am_laddE, am_lsubE, am_upO, am_upS, am_stS, am_stO, am_tnn, am_brl, am_brg, am_bre, am_brn, am_brG, am_brL, am_st1, am_no2, am_st2, am_clr]
    refine am_wp_ret rfl rfl ?_
    rwa [am_ff_end (by omega)] at h
  · obtain ⟨m1, m2⟩ := hm k (by omega)
    have mi := nm32_iff m1 hws
    refine am_wp_go rfl (by simp (disch := omega) only [h1, h2, h3, hn, m2, am_addE, am_subE, am_mulE, am_laddE, am_lsubE, am_upO, am_upS, am_stS, am_stO, am_tnn, am_brl, am_brg, am_bre, am_brn, am_brG, am_brL, am_st1, am_no2, am_st2, am_clr, and_self, true_and, and_true, true_or, or_true, List.length_cons, List.length_nil] <;> omega) ?_
    try simp (disch := omega) only [h1, h2, h3, hn, m2, am_addE, am_subE, am_mulE, am_laddE, am_lsubE, am_upO, am_upS, am_stS, am_stO, am_tnn, am_brl, am_brg, am_bre, am_brn, am_brG, am_brL, am_st1, am_no2, am_st2, am_clr]
    refine am_wp_br (fun b17 => ?_) (fun b17 => ?_)
    · refine am_wp_go rfl (by simp (disch := omega) only [h1, h2, h3, hn, m2, am_addE, am_subE, am_mulE, am_laddE, am_lsubE, am_upO, am_upS, am_stS, am_stO, am_tnn, am_brl, am_brg, am_bre, am_brn, am_brG, am_brL, am_st1, am_no2, am_st2, am_clr, and_self, true_and, and_true, true_or, or_true, List.length_cons, List.length_nil] <;> omega) ?_
      try simp (disch := omega) only [h1, h2, h3, hn, m2, am_addE, am_subE, am_mulE, am_laddE, am_lsubE, am_upO, am_upS, am_stS, am_stO, am_tnn, am_brl, am_brg, am_bre, am_brn, am_brG, am_brL, am_st1, am_no2, am_st2, am_clr]
      refine am_wp_ls (ih (by omega) ?_) rfl
      rwa [am_ff_on (decide_eq_false (fun hx => b17 (by rw [Nat.zero_add] at hx; rw [hx])))] at h
    · refine am_wp_go rfl (by simp (disch := omega) only [h1, h2, h3, hn, m2, am_addE, am_subE, am_mulE, am_laddE, am_lsubE, am_upO, am_upS, am_stS, am_stO, am_tnn, am_brl, am_brg, am_bre, am_brn, am_brG, am_brL, am_st1, am_no2, am_st2, am_clr, and_self, true_and, and_true, true_or, or_true, List.length_cons, List.length_nil] <;> omega) ?_
      try simp (disch := omega) only [h1, h2, h3, hn, m2, am_addE, am_subE, am_mulE, am_laddE, am_lsubE, am_upO, am_upS, am_stS, am_stO, am_tnn, am_brl, am_brg, am_bre, am_brn, am_brG, am_brL, am_st1, am_no2, am_st2, am_clr]
      refine am_wp_ret rfl rfl ?_
      rwa [am_ff_hit (by omega) (decide_eq_true (by rw [Nat.zero_add]; exact mi.mp (by omega)))] at h
theorem w_isGuestsName {c n : Nat} {NM : Nat → List Nat} {ws : List Nat} (hk : kt_is sh R c) (hn : I c 7 = (n : Int)) (hn8 : n ≤ 8) (hm : ∀ s, s < n → letOk (NM (8 + s)) ∧ I (c + 7) s = (nm32 (NM (8 + s)) : Int)) (hws : letOk ws) (h : Q (am_yi (am_b (kFd NM 8 n ws ≠ -1))) (m, sl, sh, I, R)) : am_wp (d) 25 0 [some (.inr (.inr (c))), some (.inl ((nm32 ws : Int))), none] [] (m, sl, sh, I, R) Q := by
  have h1 := hk.1
  have h2 := hk.2.1.2.2.2.2.2.2
  have h3 := hk.2.2.1.2.2.2.2.2.2
  unfold kFd at h
  refine am_wp_go rfl (by simp (disch := omega) only [h1, h2, h3, hn, am_addE, am_subE, am_mulE, am_laddE, am_lsubE, am_upO, am_upS, am_stS, am_stO, am_tnn, am_brl, am_brg, am_bre, am_brn, am_brG, am_brL, am_st1, am_no2, am_st2, am_clr, and_self, true_and, and_true, true_or, or_true, List.length_cons, List.length_nil] <;> omega) ?_
  try simp (disch := omega) only [h1, h2, h3, hn, am_addE, am_subE, am_mulE, am_laddE, am_lsubE, am_upO, am_upS, am_stS, am_stO, am_tnn, am_brl, am_brg, am_bre, am_brn, am_brG, am_brL, am_st1, am_no2, am_st2, am_clr]
  revert h
  refine am_lp0 (P := fun k => Q (am_yi (am_b (am_ff (fun s => decide (NM (8 + s) = ws)) n k ≠ -1))) (m, sl, sh, I, R) → am_wp (d) 25 2 [some (.inr (.inr (c))), some (.inl ((nm32 ws : Int))), some (.inl ((k : Int)))] [] (m, sl, sh, I, R) Q) n (fun k hk2 ih h => ?_)
  refine am_wp_go rfl (by simp (disch := omega) only [h1, h2, h3, hn, am_addE, am_subE, am_mulE, am_laddE, am_lsubE, am_upO, am_upS, am_stS, am_stO, am_tnn, am_brl, am_brg, am_bre, am_brn, am_brG, am_brL, am_st1, am_no2, am_st2, am_clr, and_self, true_and, and_true, true_or, or_true, List.length_cons, List.length_nil] <;> omega) ?_
  try simp (disch := omega) only [h1, h2, h3, hn, am_addE, am_subE, am_mulE, am_laddE, am_lsubE, am_upO, am_upS, am_stS, am_stO, am_tnn, am_brl, am_brg, am_bre, am_brn, am_brG, am_brL, am_st1, am_no2, am_st2, am_clr]
  refine am_wp_br (fun b7 => ?_) (fun b7 => ?_)
  · refine am_wp_go rfl (by simp (disch := omega) only [h1, h2, h3, hn, am_addE, am_subE, am_mulE, am_laddE, am_lsubE, am_upO, am_upS, am_stS, am_stO, am_tnn, am_brl, am_brg, am_bre, am_brn, am_brG, am_brL, am_st1, am_no2, am_st2, am_clr, and_self, true_and, and_true, true_or, or_true, List.length_cons, List.length_nil] <;> omega) ?_
    try simp (disch := omega) only [h1, h2, h3, hn, am_addE, am_subE, am_mulE, am_laddE, am_lsubE, am_upO, am_upS, am_stS, am_stO, am_tnn, am_brl, am_brg, am_bre, am_brn, am_brG, am_brL, am_st1, am_no2, am_st2, am_clr]
    refine am_wp_ret rfl rfl ?_
    rwa [am_ff_end (by omega), am_bF (fun hx => hx rfl)] at h
  · obtain ⟨m1, m2⟩ := hm k (by omega)
    have mi := nm32_iff m1 hws
    refine am_wp_go rfl (by simp (disch := omega) only [h1, h2, h3, hn, m2, am_addE, am_subE, am_mulE, am_laddE, am_lsubE, am_upO, am_upS, am_stS, am_stO, am_tnn, am_brl, am_brg, am_bre, am_brn, am_brG, am_brL, am_st1, am_no2, am_st2, am_clr, and_self, true_and, and_true, true_or, or_true, List.length_cons, List.length_nil] <;> omega) ?_
    try simp (disch := omega) only [h1, h2, h3, hn, m2, am_addE, am_subE, am_mulE, am_laddE, am_lsubE, am_upO, am_upS, am_stS, am_stO, am_tnn, am_brl, am_brg, am_bre, am_brn, am_brG, am_brL, am_st1, am_no2, am_st2, am_clr]
    refine am_wp_br (fun b17 => ?_) (fun b17 => ?_)
    · refine am_wp_go rfl (by simp (disch := omega) only [h1, h2, h3, hn, m2, am_addE, am_subE, am_mulE, am_laddE, am_lsubE, am_upO, am_upS, am_stS, am_stO, am_tnn, am_brl, am_brg, am_bre, am_brn, am_brG, am_brL, am_st1, am_no2, am_st2, am_clr, and_self, true_and, and_true, true_or, or_true, List.length_cons, List.length_nil] <;> omega) ?_
      try simp (disch := omega) only [h1, h2, h3, hn, m2, am_addE, am_subE, am_mulE, am_laddE, am_lsubE, am_upO, am_upS, am_stS, am_stO, am_tnn, am_brl, am_brg, am_bre, am_brn, am_brG, am_brL, am_st1, am_no2, am_st2, am_clr]
      refine am_wp_ls (ih (by omega) ?_) rfl
      rwa [am_ff_on (decide_eq_false (fun hx => b17 (by rw [hx])))] at h
    · refine am_wp_go rfl (by simp (disch := omega) only [h1, h2, h3, hn, m2, am_addE, am_subE, am_mulE, am_laddE, am_lsubE, am_upO, am_upS, am_stS, am_stO, am_tnn, am_brl, am_brg, am_bre, am_brn, am_brG, am_brL, am_st1, am_no2, am_st2, am_clr, and_self, true_and, and_true, true_or, or_true, List.length_cons, List.length_nil] <;> omega) ?_
      try simp (disch := omega) only [h1, h2, h3, hn, m2, am_addE, am_subE, am_mulE, am_laddE, am_lsubE, am_upO, am_upS, am_stS, am_stO, am_tnn, am_brl, am_brg, am_bre, am_brn, am_brG, am_brL, am_st1, am_no2, am_st2, am_clr]
      refine am_wp_ret rfl rfl ?_
      rwa [am_ff_hit (by omega) (decide_eq_true (mi.mp (by omega))), am_bT (by omega)] at h
def kDup (S : KS) (ws : List Nat) : Prop := kFd S.2.2.2 0 (nS S.2.1) ws ≠ -1 ∨ kFd S.2.2.2 8 (nG S.2.1) ws ≠ -1
theorem w_newName {a2 z : Nat} (hw : wd sh R) (hc : tpC I T N j) (hT : tkOk T) (hr : krC I S) (ha : a2 = 46 ∨ a2 = 47) (hz : z < 8)
    (h1 : cK (T j) ≠ 2 → ∀ J, frA I J → J 55 11 = 1 → J 55 12 = (plT T j : Int) → Q (am_yi 0) (m, sl, sh, J, R))
    (h3 : cK (T j) = 2 → kDup S (T j).2.2.1 → ∀ J, frA I J → J 55 11 = 3 → J 55 12 = (plT T j : Int) → Q (am_yi 0) (m, sl, sh, J, R))
    (h0 : cK (T j) = 2 → ¬ kDup S (T j).2.2.1 → letOk (T j).2.2.1 → ∀ J, frA (am_up I a2 z (nm32 (T j).2.2.1 : Int)) J → tpC J T N (j + 1) → Q (am_yi 1) (m, sl, sh, J, R)) : am_wp (d + 1) 36 0 [some (.inr (.inr (40))), some (.inr (.inr (55))), some (.inr (.inr (a2))), some (.inl ((z : Int))), none] [] (m, sl, sh, I, R) Q := by
  obtain ⟨-, -, -, -, -, h8, h9, -⟩ := id hc
  obtain ⟨r1, r2, r3, r4⟩ := hr
  have m1 := wk_nS r1.1
  have m2 := wk_nG r1.1
  have e6 : I 40 6 = (nS S.2.1 : Int) := by rw [r1.2.1.2.2.2.2.2.1]; exact m1.1
  have e7 : I 40 7 = (nG S.2.1 : Int) := by rw [r1.2.1.2.2.2.2.2.2.1]; exact m2.1
  have sa : sh a2 = (32, 8) := by rcases ha with rfl | rfl; exact s46 hw; exact s47 hw
  refine am_wp_go rfl (by simp (disch := omega) only [s55 hw, h8, am_addE, am_subE, am_mulE, am_laddE, am_lsubE, am_upO, am_upS, am_stS, am_stO, am_tnn, am_brl, am_brg, am_bre, am_brn, am_brG, am_brL, am_st1, am_no2, am_st2, am_clr, and_self, true_and, and_true, true_or, or_true, List.length_cons, List.length_nil] <;> omega) ?_
  try simp (disch := omega) only [s55 hw, h8, am_addE, am_subE, am_mulE, am_laddE, am_lsubE, am_upO, am_upS, am_stS, am_stO, am_tnn, am_brl, am_brg, am_bre, am_brn, am_brG, am_brL, am_st1, am_no2, am_st2, am_clr]
  refine am_wp_br (fun b5 => ?_) (fun b5 => ?_)
  · have hn := cK_2.mp b5
    have e9 := h9 (by have := hn.1; omega)
    have ev : cV (T j) = (nm32 (T j).2.2.1 : Int) := by unfold cV; rw [if_pos hn.1, if_pos hn.2]
    rw [ev] at e9
    have lo := (hT j).1 hn.1
    have h3 := h3 b5
    have h0 := h0 b5
    clear h1 h9
    refine am_wp_go rfl (by simp (disch := omega) only [s55 hw, e9, am_b0, am_bn0, am_addE, am_subE, am_mulE, am_laddE, am_lsubE, am_upO, am_upS, am_stS, am_stO, am_tnn, am_brl, am_brg, am_bre, am_brn, am_brG, am_brL, am_st1, am_no2, am_st2, am_clr, and_self, true_and, and_true, true_or, or_true, List.length_cons, List.length_nil] <;> omega) ?_
    try simp (disch := omega) only [s55 hw, e9, am_b0, am_bn0, am_addE, am_subE, am_mulE, am_laddE, am_lsubE, am_upO, am_upS, am_stS, am_stO, am_tnn, am_brl, am_brg, am_bre, am_brn, am_brG, am_brL, am_st1, am_no2, am_st2, am_clr]
    refine am_wp_cc rfl rfl rfl (congrArg Prod.fst (s40 hw)) (w_sliceNamed (c := 40) (NM := S.2.2.2) (ws := (T j).2.2.1) (kt_w hw (by decide)) e6 m1.2 r3 lo ⟨_, rfl, ?_⟩)
    refine am_wp_go rfl (by simp (disch := omega) only [s55 hw, e9, am_b0, am_bn0, am_addE, am_subE, am_mulE, am_laddE, am_lsubE, am_upO, am_upS, am_stS, am_stO, am_tnn, am_brl, am_brg, am_bre, am_brn, am_brG, am_brL, am_st1, am_no2, am_st2, am_clr, and_self, true_and, and_true, true_or, or_true, List.length_cons, List.length_nil] <;> omega) ?_
    try simp (disch := omega) only [s55 hw, e9, am_b0, am_bn0, am_addE, am_subE, am_mulE, am_laddE, am_lsubE, am_upO, am_upS, am_stS, am_stO, am_tnn, am_brl, am_brg, am_bre, am_brn, am_brG, am_brL, am_st1, am_no2, am_st2, am_clr]
    refine am_wp_br (fun b27 => ?_) (fun b27 => ?_)
    · have h := h3 (Or.inl b27)
      refine am_wp_go rfl (by simp (disch := omega) only [s55 hw, e9, am_b0, am_bn0, am_addE, am_subE, am_mulE, am_laddE, am_lsubE, am_upO, am_upS, am_stS, am_stO, am_tnn, am_brl, am_brg, am_bre, am_brn, am_brG, am_brL, am_st1, am_no2, am_st2, am_clr, and_self, true_and, and_true, true_or, or_true, List.length_cons, List.length_nil] <;> omega) ?_
      try simp (disch := omega) only [s55 hw, e9, am_b0, am_bn0, am_addE, am_subE, am_mulE, am_laddE, am_lsubE, am_upO, am_upS, am_stS, am_stO, am_tnn, am_brl, am_brg, am_bre, am_brn, am_brG, am_brL, am_st1, am_no2, am_st2, am_clr]
      refine am_wp_cc rfl rfl rfl (congrArg Prod.fst (s55 hw)) (w_tfail (k := 3) hw hc (fun J j0 j1 j2 => ⟨_, rfl, ?_⟩))
      refine am_wp_ret rfl rfl ?_
      exact h J j0 j1 j2
    · refine am_wp_go rfl (by simp (disch := omega) only [s55 hw, e9, am_b0, am_bn0, am_addE, am_subE, am_mulE, am_laddE, am_lsubE, am_upO, am_upS, am_stS, am_stO, am_tnn, am_brl, am_brg, am_bre, am_brn, am_brG, am_brL, am_st1, am_no2, am_st2, am_clr, and_self, true_and, and_true, true_or, or_true, List.length_cons, List.length_nil] <;> omega) ?_
      try simp (disch := omega) only [s55 hw, e9, am_b0, am_bn0, am_addE, am_subE, am_mulE, am_laddE, am_lsubE, am_upO, am_upS, am_stS, am_stO, am_tnn, am_brl, am_brg, am_bre, am_brn, am_brG, am_brL, am_st1, am_no2, am_st2, am_clr]
      refine am_wp_cc rfl rfl rfl (congrArg Prod.fst (s40 hw)) (w_isGuestsName (c := 40) (NM := S.2.2.2) (ws := (T j).2.2.1) (kt_w hw (by decide)) e7 m2.2 r4 lo ⟨_, rfl, ?_⟩)
      refine am_wp_go rfl (by simp (disch := omega) only [s55 hw, e9, am_b0, am_bn0, am_addE, am_subE, am_mulE, am_laddE, am_lsubE, am_upO, am_upS, am_stS, am_stO, am_tnn, am_brl, am_brg, am_bre, am_brn, am_brG, am_brL, am_st1, am_no2, am_st2, am_clr, and_self, true_and, and_true, true_or, or_true, List.length_cons, List.length_nil] <;> omega) ?_
      try simp (disch := omega) only [s55 hw, e9, am_b0, am_bn0, am_addE, am_subE, am_mulE, am_laddE, am_lsubE, am_upO, am_upS, am_stS, am_stO, am_tnn, am_brl, am_brg, am_bre, am_brn, am_brG, am_brL, am_st1, am_no2, am_st2, am_clr]
      refine am_wp_br (fun b36 => ?_) (fun b36 => ?_)
      · have h := h0 (fun hx => by rcases hx with hx | hx; exact b27 hx; exact b36 hx) lo
        clear h0 h3
        refine am_wp_go rfl (by simp (disch := omega) only [s55 hw, e9, sa, am_b0, am_bn0, am_addE, am_subE, am_mulE, am_laddE, am_lsubE, am_upO, am_upS, am_stS, am_stO, am_tnn, am_brl, am_brg, am_bre, am_brn, am_brG, am_brL, am_st1, am_no2, am_st2, am_clr, and_self, true_and, and_true, true_or, or_true, List.length_cons, List.length_nil] <;> omega) ?_
        try simp (disch := omega) only [s55 hw, e9, sa, am_b0, am_bn0, am_addE, am_subE, am_mulE, am_laddE, am_lsubE, am_upO, am_upS, am_stS, am_stO, am_tnn, am_brl, am_brg, am_bre, am_brn, am_brG, am_brL, am_st1, am_no2, am_st2, am_clr]
        refine am_wp_br (fun b48 => ?_) (fun b48 => ?_)
        · omega
        · refine am_wp_go rfl (by simp (disch := omega) only [s55 hw, e9, sa, am_b0, am_bn0, am_addE, am_subE, am_mulE, am_laddE, am_lsubE, am_upO, am_upS, am_stS, am_stO, am_tnn, am_brl, am_brg, am_bre, am_brn, am_brG, am_brL, am_st1, am_no2, am_st2, am_clr, and_self, true_and, and_true, true_or, or_true, List.length_cons, List.length_nil] <;> omega) ?_
          try simp (disch := omega) only [s55 hw, e9, sa, am_b0, am_bn0, am_addE, am_subE, am_mulE, am_laddE, am_lsubE, am_upO, am_upS, am_stS, am_stO, am_tnn, am_brl, am_brg, am_bre, am_brn, am_brG, am_brL, am_st1, am_no2, am_st2, am_clr]
          have tc : tpC (am_up I a2 z (nm32 (T j).2.2.1 : Int)) T N j := tpC_fr hc (fun k _ _ _ => by rw [am_upO (by omega)]) (am_upO (by omega)) (am_upO (by omega)) (am_upO (by omega))
          refine am_wp_cc rfl rfl rfl (congrArg Prod.fst (s55 hw)) (w_advance hw tc (by have := hn.1; omega) (fun J j0 j1 j2 j3 => ⟨_, rfl, ?_⟩))
          refine am_wp_go rfl (by simp (disch := omega) only [s55 hw, e9, sa, am_b0, am_bn0, am_addE, am_subE, am_mulE, am_laddE, am_lsubE, am_upO, am_upS, am_stS, am_stO, am_tnn, am_brl, am_brg, am_bre, am_brn, am_brG, am_brL, am_st1, am_no2, am_st2, am_clr, and_self, true_and, and_true, true_or, or_true, List.length_cons, List.length_nil] <;> omega) ?_
          try simp (disch := omega) only [s55 hw, e9, sa, am_b0, am_bn0, am_addE, am_subE, am_mulE, am_laddE, am_lsubE, am_upO, am_upS, am_stS, am_stO, am_tnn, am_brl, am_brg, am_bre, am_brn, am_brG, am_brL, am_st1, am_no2, am_st2, am_clr]
          refine am_wp_ret rfl rfl ?_
          exact h J j0 j3
      · have h := h3 (Or.inr (Classical.not_not.mp b36))
        refine am_wp_go rfl (by simp (disch := omega) only [s55 hw, e9, am_b0, am_bn0, am_addE, am_subE, am_mulE, am_laddE, am_lsubE, am_upO, am_upS, am_stS, am_stO, am_tnn, am_brl, am_brg, am_bre, am_brn, am_brG, am_brL, am_st1, am_no2, am_st2, am_clr, and_self, true_and, and_true, true_or, or_true, List.length_cons, List.length_nil] <;> omega) ?_
        try simp (disch := omega) only [s55 hw, e9, am_b0, am_bn0, am_addE, am_subE, am_mulE, am_laddE, am_lsubE, am_upO, am_upS, am_stS, am_stO, am_tnn, am_brl, am_brg, am_bre, am_brn, am_brG, am_brL, am_st1, am_no2, am_st2, am_clr]
        refine am_wp_cc rfl rfl rfl (congrArg Prod.fst (s55 hw)) (w_tfail (k := 3) hw hc (fun J j0 j1 j2 => ⟨_, rfl, ?_⟩))
        refine am_wp_ret rfl rfl ?_
        exact h J j0 j1 j2
  · have h := h1 b5
    refine am_wp_go rfl (by simp (disch := omega) only [s55 hw, h8, am_addE, am_subE, am_mulE, am_laddE, am_lsubE, am_upO, am_upS, am_stS, am_stO, am_tnn, am_brl, am_brg, am_bre, am_brn, am_brG, am_brL, am_st1, am_no2, am_st2, am_clr, and_self, true_and, and_true, true_or, or_true, List.length_cons, List.length_nil] <;> omega) ?_
    try simp (disch := omega) only [s55 hw, h8, am_addE, am_subE, am_mulE, am_laddE, am_lsubE, am_upO, am_upS, am_stS, am_stO, am_tnn, am_brl, am_brg, am_bre, am_brn, am_brG, am_brL, am_st1, am_no2, am_st2, am_clr]
    refine am_wp_cc rfl rfl rfl (congrArg Prod.fst (s55 hw)) (w_tfail (k := 1) hw hc (fun J j0 j1 j2 => ⟨_, rfl, ?_⟩))
    refine am_wp_ret rfl rfl ?_
    exact h J j0 j1 j2
end KP
