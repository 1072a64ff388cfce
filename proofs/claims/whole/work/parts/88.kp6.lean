/-! kitchen() by the class -/
theorem kN_ge {T : Nat → Tk} {j a b : Nat} {k : Nat → KR} {S : KS} {q : Nat} (h : kN T j a b k = .inr S) (hk : ∀ v, k v = .inr S → q ≤ S.1) : q ≤ S.1 := by
  unfold kN at h
  split at h
  · cases h
  · exact hk _ h
theorem kNew_ge {T : Nat → Tk} {j : Nat} {Z : KS} {k : KR} {S : KS} {q : Nat} (h : kNew T j Z k = .inr S) (hk : k = .inr S → q ≤ S.1) : q ≤ S.1 := by
  unfold kNew at h
  split at h
  · cases h
  · split at h
    · cases h
    · exact hk h
theorem kLine_ge {T : Nat → Tk} {S S' : KS} (h : kLine T S = .inr S') : S.1 + 1 ≤ S'.1 := by
  have pl : ∀ w a b, kPlain T S w a b = .inr S' → S.1 + 1 ≤ S'.1 := fun w a b h => by
    unfold kPlain at h
    split at h
    · cases h
    · exact kN_ge h (fun v hv => by cases hv; dsimp only; omega)
  unfold kLine at h
  split at h
  · exact pl _ _ _ h
  · split at h
    · exact pl _ _ _ h
    · split at h
      · exact pl _ _ _ h
      · split at h
        · unfold kBurn at h
          split at h
          · cases h
          · exact kN_ge h (fun v hv => kN_ge hv (fun u hu => by cases hu; dsimp only; omega))
        · split at h
          · unfold kSlice at h
            split at h
            · cases h
            · exact kNew_ge h (fun h => kN_ge h (fun v hv => kN_ge hv (fun u hu => by cases hu; dsimp only; split <;> omega)))
          · split at h
            · unfold kGuest at h
              split at h
              · cases h
              · exact kNew_ge h (fun h => kN_ge h (fun v hv => kN_ge hv (fun u hu => by cases hu; dsimp only; omega)))
            · split at h
              · unfold kSort at h
                split at h
                · cases h
                · exact kN_ge h (fun v hv => kN_ge hv (fun u hu => by cases hu; dsimp only; omega))
              · cases h
theorem kN_pl {T : Nat → Tk} {j a b : Nat} {k : Nat → KR} {e : Nat × Nat} (h : kN T j a b k = .inl e) (hk : ∀ v, k v = .inl e → ∃ i, e.2 = plT T i) : ∃ i, e.2 = plT T i := by
  unfold kN at h
  split at h
  · cases h; exact ⟨j, rfl⟩
  · exact hk _ h
theorem kNew_pl {T : Nat → Tk} {j : Nat} {Z : KS} {k : KR} {e : Nat × Nat} (h : kNew T j Z k = .inl e) (hk : k = .inl e → ∃ i, e.2 = plT T i) : ∃ i, e.2 = plT T i := by
  unfold kNew at h
  split at h
  · cases h; exact ⟨j, rfl⟩
  · split at h
    · cases h; exact ⟨j, rfl⟩
    · exact hk h
theorem kLine_pl {T : Nat → Tk} {S : KS} {e : Nat × Nat} (h : kLine T S = .inl e) : ∃ i, e.2 = plT T i := by
  have pl : ∀ w a b, kPlain T S w a b = .inl e → ∃ i, e.2 = plT T i := fun w a b h => by
    unfold kPlain at h
    split at h
    · cases h; exact ⟨S.1, rfl⟩
    · exact kN_pl h (fun v hv => by cases hv)
  unfold kLine at h
  split at h
  · exact pl _ _ _ h
  · split at h
    · exact pl _ _ _ h
    · split at h
      · exact pl _ _ _ h
      · split at h
        · unfold kBurn at h
          split at h
          · cases h; exact ⟨S.1, rfl⟩
          · exact kN_pl h (fun v hv => kN_pl hv (fun u hu => by cases hu))
        · split at h
          · unfold kSlice at h
            split at h
            · cases h; exact ⟨S.1, rfl⟩
            · exact kNew_pl h (fun h => kN_pl h (fun v hv => kN_pl hv (fun u hu => by cases hu)))
          · split at h
            · unfold kGuest at h
              split at h
              · cases h; exact ⟨S.1, rfl⟩
              · exact kNew_pl h (fun h => kN_pl h (fun v hv => kN_pl hv (fun u hu => by cases hu)))
            · split at h
              · unfold kSort at h
                split at h
                · cases h; exact ⟨S.1, rfl⟩
                · exact kN_pl h (fun v hv => kN_pl hv (fun u hu => by cases hu))
              · cases h; exact ⟨S.1, rfl⟩
theorem kEnd_pl {T : Nat → Tk} {S : KS} {e : Nat × Nat} (h : kEnd T (kLine T S) = .inl e) : ∃ i, e.2 = plT T i := by
  cases hl : kLine T S with
  | inl f =>
    rw [hl] at h
    have : e = f := by cases h; rfl
    subst this
    exact kLine_pl hl
  | inr Z =>
    rw [hl] at h
    unfold kEnd at h
    dsimp only at h
    split at h
    · cases h
    · cases h; exact ⟨Z.1, rfl⟩
def kS0 : KS := (0, plainR, 0, fun _ => [])
theorem onB_plain : onB plainR = 0 := rfl
theorem wk_plain : wk plainR := by
  refine ⟨?_, fun s hs => absurd hs (Nat.not_lt_zero s), fun s hs => absurd hs (Nat.not_lt_zero s), fun s hs => absurd hs (Nat.not_lt_zero s)⟩
  unfold wk0
  decide
section KP
variable {m sl : Nat} {sh : Nat → Nat × Nat} {I : Nat → Nat → Int} {R : Nat → Nat → Nat} {Q : am_R → am_M → Prop} {d : Nat} {N j : Nat} {T : Nat → Tk} {S : KS}
theorem w_setDefaults {c : Nat} (hs : sh c = (3, 18)) (hc : 4 ≤ c) (h : ∀ J, (∀ a, a ≠ c → J a = I a) → J c 0 = 0 → J c 1 = 2 → J c 2 = 0 → J c 3 = 10 → J c 4 = 0 → J c 5 = 1 → J c 6 = 0 → J c 7 = 0 → J c 8 = 0 → J c 9 = 0 → J c 10 = 0 → Q am_yv (m, sl, sh, J, R)) : am_wp (d) 19 0 [some (.inr (.inr (c)))] [] (m, sl, sh, I, R) Q := by
  refine am_wp_go rfl (by simp (disch := omega) only [hs, am_addE, am_subE, am_mulE, am_laddE, am_lsubE, am_upO, am_upS, am_stS, am_stO, am_tnn, am_brl, am_brg, am_bre, am_brn, am_brG, am_brL, am_st1, am_no2, am_st2, am_clr, and_self, true_and, and_true, true_or, or_true, List.length_cons, List.length_nil] <;> omega) ?_
  try simp (disch := omega) only [hs, am_addE, am_subE, am_mulE, am_laddE, am_lsubE, am_upO, am_upS, am_stS, am_stO, am_tnn, am_brl, am_brg, am_bre, am_brn, am_brG, am_brL, am_st1, am_no2, am_st2, am_clr]
  refine am_wp_ret rfl rfl ?_
  refine h _ (fun a ha => by simp (disch := omega) only [am_upO]) ?_ ?_ ?_ ?_ ?_ ?_ ?_ ?_ ?_ ?_ ?_ <;> simp (disch := omega) only [am_upS, am_stS, am_stO]
set_option maxHeartbeats 4000000 in
theorem w_readLine (hw : wd sh R) (hT : tkOk T) (hc : tpC I T N S.1) (hr : krC I S)
    (h0 : ∀ e, kLine T S = .inl e → ∀ J, frK I J → J 55 11 = (e.1 : Int) → J 55 12 = (e.2 : Int) → Q (am_yi 0) (m, sl, sh, J, R))
    (h1 : ∀ S', kLine T S = .inr S' → ∀ J, frK I J → krC J S' → J 40 0 = I 40 0 → tpC J T N S'.1 → Q (am_yi 1) (m, sl, sh, J, R)) : am_wp (d + 4) 30 0 [some (.inr (.inr (40))), some (.inr (.inr (55)))] [] (m, sl, sh, I, R) Q := by
  have e10 : I 55 10 = owC (T S.1) := hc.2.2.2.2.2.2.2
  have SET : ∀ w : Nat, w ≤ 3 → owC (T S.1) = (w : Int) → am_wp (d + 4) 30 48 [some (.inr (.inr (40))), some (.inr (.inr (55)))] [] (m, sl, sh, I, R) Q := fun w hw3 ho => by
    have ek : kLine T S = kSet T S w := by
      unfold kLine kSet
      rw [ho]
      rcases (show w = 0 ∨ w = 1 ∨ w = 2 ∨ w = 3 by omega) with rfl | rfl | rfl | rfl <;> rfl
    rw [ek] at h0 h1
    refine am_wp_go rfl (by simp (disch := omega) only [am_addE, am_subE, am_mulE, am_laddE, am_lsubE, am_upO, am_upS, am_stS, am_stO, am_tnn, am_brl, am_brg, am_bre, am_brn, am_brG, am_brL, am_st1, am_no2, am_st2, am_clr, and_self, true_and, and_true, true_or, or_true, List.length_cons, List.length_nil] <;> omega) ?_
    try simp (disch := omega) only [am_addE, am_subE, am_mulE, am_laddE, am_lsubE, am_upO, am_upS, am_stS, am_stO, am_tnn, am_brl, am_brg, am_bre, am_brn, am_brG, am_brL, am_st1, am_no2, am_st2, am_clr]
    refine am_wp_cc rfl rfl rfl (congrArg Prod.fst (s40 hw)) (w_readSetting (w := w) hw hw3 hc ho hr (fun e he J j0 j1 j2 => ⟨_, rfl, ?_⟩) (fun S' he J j0 j1 j2 j3 => ⟨_, rfl, ?_⟩))
    · refine am_wp_ret rfl rfl ?_
      exact h0 e he J j0 j1 j2
    · refine am_wp_ret rfl rfl ?_
      exact h1 S' he J j0 j1 j2 j3
  unfold kLine at h0 h1
  refine am_wp_go rfl (by simp (disch := omega) only [s55 hw, e10, am_addE, am_subE, am_mulE, am_laddE, am_lsubE, am_upO, am_upS, am_stS, am_stO, am_tnn, am_brl, am_brg, am_bre, am_brn, am_brG, am_brL, am_st1, am_no2, am_st2, am_clr, and_self, true_and, and_true, true_or, or_true, List.length_cons, List.length_nil] <;> omega) ?_
  rw [e10]
  refine am_wp_tsw rfl (fun q4 => ?_) ⟨fun q4 => ?_, fun q4 => ?_, fun q4 => ?_, fun q4 => ?_, fun q4 => ?_, fun q4 => ?_, fun q4 => ?_, trivial⟩
  · rw [if_neg (by omega), if_neg (by omega), if_neg (by omega), if_neg (by omega), if_neg (by omega), if_neg (by omega), if_neg (by omega)] at h0
    clear SET h1
    refine am_wp_pc (pc' := 72) rfl ?_
    refine am_wp_go rfl (by simp (disch := omega) only [s55 hw, e10, am_addE, am_subE, am_mulE, am_laddE, am_lsubE, am_upO, am_upS, am_stS, am_stO, am_tnn, am_brl, am_brg, am_bre, am_brn, am_brG, am_brL, am_st1, am_no2, am_st2, am_clr, and_self, true_and, and_true, true_or, or_true, List.length_cons, List.length_nil] <;> omega) ?_
    try simp (disch := omega) only [s55 hw, e10, am_addE, am_subE, am_mulE, am_laddE, am_lsubE, am_upO, am_upS, am_stS, am_stO, am_tnn, am_brl, am_brg, am_bre, am_brn, am_brG, am_brL, am_st1, am_no2, am_st2, am_clr]
    refine am_wp_cc rfl rfl rfl (congrArg Prod.fst (s55 hw)) (w_tfail (k := 1) hw hc (fun J j0 j1 j2 => ⟨_, rfl, ?_⟩))
    refine am_wp_ret rfl rfl ?_
    exact h0 _ rfl J (frK_A j0) j1 j2
  · refine am_wp_pc (pc' := 48) rfl ?_
    exact SET 0 (by decide) q4
  · refine am_wp_pc (pc' := 48) rfl ?_
    exact SET 1 (by decide) q4
  · refine am_wp_pc (pc' := 48) rfl ?_
    exact SET 2 (by decide) q4
  · refine am_wp_pc (pc' := 48) rfl ?_
    exact SET 3 (by decide) q4
  · refine am_wp_pc (pc' := 54) rfl ?_
    try simp only [Int.reduceAdd] at q4
    rw [if_neg (by omega), if_neg (by omega), if_neg (by omega), if_neg (by omega), if_pos q4] at h0 h1
    clear SET
    refine am_wp_go rfl (by simp (disch := omega) only [s55 hw, e10, am_addE, am_subE, am_mulE, am_laddE, am_lsubE, am_upO, am_upS, am_stS, am_stO, am_tnn, am_brl, am_brg, am_bre, am_brn, am_brG, am_brL, am_st1, am_no2, am_st2, am_clr, and_self, true_and, and_true, true_or, or_true, List.length_cons, List.length_nil] <;> omega) ?_
    try simp (disch := omega) only [s55 hw, e10, am_addE, am_subE, am_mulE, am_laddE, am_lsubE, am_upO, am_upS, am_stS, am_stO, am_tnn, am_brl, am_brg, am_bre, am_brn, am_brG, am_brL, am_st1, am_no2, am_st2, am_clr]
    refine am_wp_cc rfl rfl rfl (congrArg Prod.fst (s40 hw)) (w_readSlice hw hT hc (by omega) hr (fun e he J j0 j1 j2 => ⟨_, rfl, ?_⟩) (fun S' he J j0 j1 j2 j3 => ⟨_, rfl, ?_⟩))
    · refine am_wp_ret rfl rfl ?_
      exact h0 e he J j0 j1 j2
    · refine am_wp_ret rfl rfl ?_
      exact h1 S' he J j0 j1 j2 j3
  · refine am_wp_pc (pc' := 60) rfl ?_
    try simp only [Int.reduceAdd] at q4
    rw [if_neg (by omega), if_neg (by omega), if_neg (by omega), if_neg (by omega), if_neg (by omega), if_pos q4] at h0 h1
    clear SET
    refine am_wp_go rfl (by simp (disch := omega) only [s55 hw, e10, am_addE, am_subE, am_mulE, am_laddE, am_lsubE, am_upO, am_upS, am_stS, am_stO, am_tnn, am_brl, am_brg, am_bre, am_brn, am_brG, am_brL, am_st1, am_no2, am_st2, am_clr, and_self, true_and, and_true, true_or, or_true, List.length_cons, List.length_nil] <;> omega) ?_
    try simp (disch := omega) only [s55 hw, e10, am_addE, am_subE, am_mulE, am_laddE, am_lsubE, am_upO, am_upS, am_stS, am_stO, am_tnn, am_brl, am_brg, am_bre, am_brn, am_brG, am_brL, am_st1, am_no2, am_st2, am_clr]
    refine am_wp_cc rfl rfl rfl (congrArg Prod.fst (s40 hw)) (w_readGuest hw hT hc (by omega) hr (fun e he J j0 j1 j2 => ⟨_, rfl, ?_⟩) (fun S' he J j0 j1 j2 j3 => ⟨_, rfl, ?_⟩))
    · refine am_wp_ret rfl rfl ?_
      exact h0 e he J j0 j1 j2
    · refine am_wp_ret rfl rfl ?_
      exact h1 S' he J j0 j1 j2 j3
  · refine am_wp_pc (pc' := 66) rfl ?_
    try simp only [Int.reduceAdd] at q4
    rw [if_neg (by omega), if_neg (by omega), if_neg (by omega), if_neg (by omega), if_neg (by omega), if_neg (by omega), if_pos q4] at h0 h1
    clear SET
    refine am_wp_go rfl (by simp (disch := omega) only [s55 hw, e10, am_addE, am_subE, am_mulE, am_laddE, am_lsubE, am_upO, am_upS, am_stS, am_stO, am_tnn, am_brl, am_brg, am_bre, am_brn, am_brG, am_brL, am_st1, am_no2, am_st2, am_clr, and_self, true_and, and_true, true_or, or_true, List.length_cons, List.length_nil] <;> omega) ?_
    try simp (disch := omega) only [s55 hw, e10, am_addE, am_subE, am_mulE, am_laddE, am_lsubE, am_upO, am_upS, am_stS, am_stO, am_tnn, am_brl, am_brg, am_bre, am_brn, am_brG, am_brL, am_st1, am_no2, am_st2, am_clr]
    refine am_wp_cc rfl rfl rfl (congrArg Prod.fst (s40 hw)) (w_readSort hw hc (by omega) hr (fun e he J j0 j1 j2 => ⟨_, rfl, ?_⟩) (fun S' he J j0 j1 j2 j3 => ⟨_, rfl, ?_⟩))
    · refine am_wp_ret rfl rfl ?_
      exact h0 e he J j0 j1 j2
    · refine am_wp_ret rfl rfl ?_
      exact h1 S' he J j0 j1 j2 j3
theorem kAll_s {T : Nat → Tk} {c n : Nat} {S : KS} (h : (T S.1).1 ≠ 0) : kAll T (c + 1) n S = match kEnd T (kLine T S) with
    | .inl e => .inl e
    | .inr S' => kAll T c (n + 1) S' := by
  conv => lhs; unfold kAll
  rw [if_neg h]
  generalize kEnd T (kLine T S) = r
  cases r <;> rfl
theorem kAll_0 {T : Nat → Tk} {c n : Nat} {S : KS} (h : (T S.1).1 = 0) : kAll T (c + 1) n S = .inr (n, S) := by
  conv => lhs; unfold kAll
  rw [if_pos h]
theorem kAll_pl {T : Nat → Tk} {e : Nat × Nat} : ∀ (c n : Nat) (S : KS), kAll T c n S = .inl e → ∃ i, e.2 = plT T i
  | 0, n, S, h => by cases h
  | c + 1, n, S, h => by
    by_cases h0 : (T S.1).1 = 0
    · rw [kAll_0 h0] at h; cases h
    · rw [kAll_s h0] at h
      cases hk : kEnd T (kLine T S) with
      | inl f =>
        rw [hk] at h
        have : e = f := by cases h; rfl
        subst this
        exact kEnd_pl hk
      | inr Z =>
        rw [hk] at h
        exact kAll_pl c (n + 1) Z h
set_option maxHeartbeats 4000000 in
theorem w_kread (hw : wd sh R) (hT : tkOk T) (hc : tpC I T N 0)
    (h0 : ∀ e, kAll T 700 0 kS0 = .inl e → ∀ J, frK I J → J 55 11 = (e.1 : Int) → J 55 12 = (e.2 : Int) → Q (am_yi 0) (m, sl, sh, J, R))
    (h1 : ∀ n S', kAll T 700 0 kS0 = .inr (n, S') → ∀ J, frK I J → krC J S' → J 40 0 = (n : Int) → Q (am_yi 1) (m, sl, sh, J, R)) : am_wp (d + 5) 29 0 [some (.inr (.inr (40))), some (.inr (.inr (55))), none] [] (m, sl, sh, I, R) Q := by
  refine am_wp_go rfl (by simp (disch := omega) only [am_addE, am_subE, am_mulE, am_laddE, am_lsubE, am_upO, am_upS, am_stS, am_stO, am_tnn, am_brl, am_brg, am_bre, am_brn, am_brG, am_brL, am_st1, am_no2, am_st2, am_clr, and_self, true_and, and_true, true_or, or_true, List.length_cons, List.length_nil] <;> omega) ?_
  try simp (disch := omega) only [am_addE, am_subE, am_mulE, am_laddE, am_lsubE, am_upO, am_upS, am_stS, am_stO, am_tnn, am_brl, am_brg, am_bre, am_brn, am_brG, am_brL, am_st1, am_no2, am_st2, am_clr]
  refine am_wp_cc rfl rfl rfl (congrArg Prod.fst (s40 hw)) (w_setDefaults (c := 40) (s40 hw) (by decide) (fun J j j0 j1 j2 j3 j4 j5 j6 j7 j8 j9 j10 => ⟨_, rfl, ?_⟩))
  refine am_wp_go rfl (by simp (disch := omega) only [am_addE, am_subE, am_mulE, am_laddE, am_lsubE, am_upO, am_upS, am_stS, am_stO, am_tnn, am_brl, am_brg, am_bre, am_brn, am_brG, am_brL, am_st1, am_no2, am_st2, am_clr, and_self, true_and, and_true, true_or, or_true, List.length_cons, List.length_nil] <;> omega) ?_
  try simp (disch := omega) only [am_addE, am_subE, am_mulE, am_laddE, am_lsubE, am_upO, am_upS, am_stS, am_stO, am_tnn, am_brl, am_brg, am_bre, am_brn, am_brG, am_brL, am_st1, am_no2, am_st2, am_clr]
  have LP : ∀ i : Nat, i ≤ 640 → ∀ (S : KS) (K : Nat → Nat → Int), frK I K → krC K S → K 40 0 = (i : Int) → tpC K T N S.1 → 2 * i ≤ S.1 → kAll T (700 - i) i S = kAll T 700 0 kS0 → am_wp (d + 5) 29 6 [some (.inr (.inr (40))), some (.inr (.inr (55))), some (.inl ((i : Int)))] [] (m, sl, sh, K, R) Q := by
    refine am_lp 640 (fun i hi ih S K f0 f1 f2 f3 f4 f5 => ?_)
    obtain ⟨g1, g2, g3, g4, g5, g6, g7, g8⟩ := id f3
    have k0 := cK_0 (t := T S.1)
    refine am_wp_go rfl (by simp (disch := omega) only [s55 hw, g6, am_addE, am_subE, am_mulE, am_laddE, am_lsubE, am_upO, am_upS, am_stS, am_stO, am_tnn, am_brl, am_brg, am_bre, am_brn, am_brG, am_brL, am_st1, am_no2, am_st2, am_clr, and_self, true_and, and_true, true_or, or_true, List.length_cons, List.length_nil] <;> omega) ?_
    try simp (disch := omega) only [s55 hw, g6, am_addE, am_subE, am_mulE, am_laddE, am_lsubE, am_upO, am_upS, am_stS, am_stO, am_tnn, am_brl, am_brg, am_bre, am_brn, am_brG, am_brL, am_st1, am_no2, am_st2, am_clr]
    refine am_wp_br (fun b10 => ?_) (fun b10 => ?_)
    · omega
    · refine am_wp_go rfl (by simp (disch := omega) only [s55 hw, g6, am_addE, am_subE, am_mulE, am_laddE, am_lsubE, am_upO, am_upS, am_stS, am_stO, am_tnn, am_brl, am_brg, am_bre, am_brn, am_brG, am_brL, am_st1, am_no2, am_st2, am_clr, and_self, true_and, and_true, true_or, or_true, List.length_cons, List.length_nil] <;> omega) ?_
      try simp (disch := omega) only [s55 hw, g6, am_addE, am_subE, am_mulE, am_laddE, am_lsubE, am_upO, am_upS, am_stS, am_stO, am_tnn, am_brl, am_brg, am_bre, am_brn, am_brG, am_brL, am_st1, am_no2, am_st2, am_clr]
      refine am_wp_br (fun b17 => ?_) (fun b17 => ?_)
      · rw [show 700 - i = (699 - i) + 1 by omega, kAll_0 (k0.mp b17)] at f5
        refine am_wp_go rfl (by simp (disch := omega) only [s55 hw, g6, am_addE, am_subE, am_mulE, am_laddE, am_lsubE, am_upO, am_upS, am_stS, am_stO, am_tnn, am_brl, am_brg, am_bre, am_brn, am_brG, am_brL, am_st1, am_no2, am_st2, am_clr, and_self, true_and, and_true, true_or, or_true, List.length_cons, List.length_nil] <;> omega) ?_
        try simp (disch := omega) only [s55 hw, g6, am_addE, am_subE, am_mulE, am_laddE, am_lsubE, am_upO, am_upS, am_stS, am_stO, am_tnn, am_brl, am_brg, am_bre, am_brn, am_brG, am_brL, am_st1, am_no2, am_st2, am_clr]
        refine am_wp_ret rfl rfl ?_
        exact h1 i S f5.symm K f0 f1 f2
      · rw [show 700 - i = (700 - (i + 1)) + 1 by omega, kAll_s (fun hx => b17 (k0.mpr hx))] at f5
        have ih := ih (by omega)
        clear k0
        refine am_wp_go rfl (by simp (disch := omega) only [s55 hw, am_b0, am_bn0, am_addE, am_subE, am_mulE, am_laddE, am_lsubE, am_upO, am_upS, am_stS, am_stO, am_tnn, am_brl, am_brg, am_bre, am_brn, am_brG, am_brL, am_st1, am_no2, am_st2, am_clr, and_self, true_and, and_true, true_or, or_true, List.length_cons, List.length_nil] <;> omega) ?_
        try simp (disch := omega) only [s55 hw, am_b0, am_bn0, am_addE, am_subE, am_mulE, am_laddE, am_lsubE, am_upO, am_upS, am_stS, am_stO, am_tnn, am_brl, am_brg, am_bre, am_brn, am_brG, am_brL, am_st1, am_no2, am_st2, am_clr]
        refine am_wp_cc rfl rfl rfl (congrArg Prod.fst (s40 hw)) (w_readLine hw hT f3 f1 (fun e he V v0 v1 v2 => ⟨_, rfl, ?_⟩) (fun S' he V v0 v1 v2 v3 => ⟨_, rfl, ?_⟩))
        · rw [he] at f5
          refine am_wp_go rfl (by simp (disch := omega) only [s55 hw, am_b0, am_bn0, am_addE, am_subE, am_mulE, am_laddE, am_lsubE, am_upO, am_upS, am_stS, am_stO, am_tnn, am_brl, am_brg, am_bre, am_brn, am_brG, am_brL, am_st1, am_no2, am_st2, am_clr, and_self, true_and, and_true, true_or, or_true, List.length_cons, List.length_nil] <;> omega) ?_
          refine am_wp_pc (pc' := 37) rfl ?_
          refine am_wp_go rfl (by simp (disch := omega) only [s55 hw, am_b0, am_bn0, am_addE, am_subE, am_mulE, am_laddE, am_lsubE, am_upO, am_upS, am_stS, am_stO, am_tnn, am_brl, am_brg, am_bre, am_brn, am_brG, am_brL, am_st1, am_no2, am_st2, am_clr, and_self, true_and, and_true, true_or, or_true, List.length_cons, List.length_nil] <;> omega) ?_
          try simp (disch := omega) only [s55 hw, am_b0, am_bn0, am_addE, am_subE, am_mulE, am_laddE, am_lsubE, am_upO, am_upS, am_stS, am_stO, am_tnn, am_brl, am_brg, am_bre, am_brn, am_brG, am_brL, am_st1, am_no2, am_st2, am_clr]
          refine am_wp_ret rfl rfl ?_
          exact h0 e f5.symm V (frK_tr f0 v0) v1 v2
        · have ge := kLine_ge he
          rw [he] at f5
          refine am_wp_go rfl (by simp (disch := omega) only [s55 hw, am_b0, am_bn0, am_addE, am_subE, am_mulE, am_laddE, am_lsubE, am_upO, am_upS, am_stS, am_stO, am_tnn, am_brl, am_brg, am_bre, am_brn, am_brG, am_brL, am_st1, am_no2, am_st2, am_clr, and_self, true_and, and_true, true_or, or_true, List.length_cons, List.length_nil] <;> omega) ?_
          refine am_wp_pc (pc' := 28) rfl ?_
          refine am_wp_go rfl (by simp (disch := omega) only [s55 hw, am_b0, am_bn0, am_addE, am_subE, am_mulE, am_laddE, am_lsubE, am_upO, am_upS, am_stS, am_stO, am_tnn, am_brl, am_brg, am_bre, am_brn, am_brG, am_brL, am_st1, am_no2, am_st2, am_clr, and_self, true_and, and_true, true_or, or_true, List.length_cons, List.length_nil] <;> omega) ?_
          try simp (disch := omega) only [s55 hw, am_b0, am_bn0, am_addE, am_subE, am_mulE, am_laddE, am_lsubE, am_upO, am_upS, am_stS, am_stO, am_tnn, am_brl, am_brg, am_bre, am_brn, am_brG, am_brL, am_st1, am_no2, am_st2, am_clr]
          refine am_wp_cc rfl rfl rfl (congrArg Prod.fst (s55 hw)) (w_takeSign (c := 59) hw v3 (fun ns X x0 x1 x2 => ⟨_, rfl, ?_⟩) (fun ys X x0 x1 x2 x3 => ⟨_, rfl, ?_⟩))
          · have e2 : kEnd T (.inr S') = .inl (1, plT T S'.1) := by unfold kEnd; dsimp only; rw [if_neg ns]
            rw [e2] at f5
            refine am_wp_go rfl (by simp (disch := omega) only [s55 hw, am_b0, am_bn0, am_addE, am_subE, am_mulE, am_laddE, am_lsubE, am_upO, am_upS, am_stS, am_stO, am_tnn, am_brl, am_brg, am_bre, am_brn, am_brG, am_brL, am_st1, am_no2, am_st2, am_clr, and_self, true_and, and_true, true_or, or_true, List.length_cons, List.length_nil] <;> omega) ?_
            refine am_wp_pc (pc' := 37) rfl ?_
            refine am_wp_go rfl (by simp (disch := omega) only [s55 hw, am_b0, am_bn0, am_addE, am_subE, am_mulE, am_laddE, am_lsubE, am_upO, am_upS, am_stS, am_stO, am_tnn, am_brl, am_brg, am_bre, am_brn, am_brG, am_brL, am_st1, am_no2, am_st2, am_clr, and_self, true_and, and_true, true_or, or_true, List.length_cons, List.length_nil] <;> omega) ?_
            try simp (disch := omega) only [s55 hw, am_b0, am_bn0, am_addE, am_subE, am_mulE, am_laddE, am_lsubE, am_upO, am_upS, am_stS, am_stO, am_tnn, am_brl, am_brg, am_bre, am_brn, am_brG, am_brL, am_st1, am_no2, am_st2, am_clr]
            refine am_wp_ret rfl rfl ?_
            exact h0 _ f5.symm X (frK_tr (frK_tr f0 v0) (frK_A x0)) x1 x2
          · have e2 : kEnd T (.inr S') = .inr (S'.1 + 1, S'.2) := by unfold kEnd; dsimp only; rw [if_pos ys]
            rw [e2] at f5
            have X0 : X 40 0 = (i : Int) := by rw [x0.1 40 (by decide), v2]; exact f2
            refine am_wp_go rfl (by simp (disch := omega) only [s55 hw, am_b0, am_bn0, am_addE, am_subE, am_mulE, am_laddE, am_lsubE, am_upO, am_upS, am_stS, am_stO, am_tnn, am_brl, am_brg, am_bre, am_brn, am_brG, am_brL, am_st1, am_no2, am_st2, am_clr, and_self, true_and, and_true, true_or, or_true, List.length_cons, List.length_nil] <;> omega) ?_
            refine am_wp_pc (pc' := 39) rfl ?_
            refine am_wp_go rfl (by simp (disch := omega) only [s40 hw, X0, am_b0, am_bn0, am_addE, am_subE, am_mulE, am_laddE, am_lsubE, am_upO, am_upS, am_stS, am_stO, am_tnn, am_brl, am_brg, am_bre, am_brn, am_brG, am_brL, am_st1, am_no2, am_st2, am_clr, and_self, true_and, and_true, true_or, or_true, List.length_cons, List.length_nil] <;> omega) ?_
            try simp (disch := omega) only [s40 hw, X0, am_b0, am_bn0, am_addE, am_subE, am_mulE, am_laddE, am_lsubE, am_upO, am_upS, am_stS, am_stO, am_tnn, am_brl, am_brg, am_bre, am_brn, am_brG, am_brL, am_st1, am_no2, am_st2, am_clr]
            refine am_wp_ls (ih (S'.1 + 1, S'.2) _ (frK_up (frK_tr (frK_tr f0 v0) (frK_A x0)) (by decide)) ?_ (by rw [am_upS, am_stS rfl]; omega) (tpC_up x3 (by decide)) (by dsimp only; omega) f5) rfl
            obtain ⟨c1, c2, c3, c4⟩ := krC_A v1 x0
            refine ⟨?_, ?_, ?_, ?_⟩
            · unfold kit kit0 kitS kitN kitG kitK at c1 ⊢
              simp (disch := omega) only [am_upO, am_upS, am_stO]
              exact c1
            · rw [am_upS, am_stO (by decide)]; exact c2
            · rw [am_upO (by decide)]; exact c3
            · rw [am_upO (by decide)]; exact c4
  refine am_wp_ls (LP 0 (by decide) kS0 J ⟨fun a ha => j a (by omega), by rw [j 55 (by decide)]⟩ ⟨⟨wk_plain, ?_, fun s hs => absurd hs (Nat.not_lt_zero s), fun s hs => absurd hs (Nat.not_lt_zero s), fun s hs => absurd hs (Nat.not_lt_zero s), fun s hs => absurd hs (Nat.not_lt_zero s)⟩, ⟨j10, by decide⟩, fun s hs => absurd hs (Nat.not_lt_zero s), fun s hs => absurd hs (Nat.not_lt_zero s)⟩ j0 (tpC_fr hc (fun k _ _ _ => by rw [j 55 (by decide)]) (j 58 (by decide)) (j 59 (by decide)) (j 60 (by decide))) (Nat.le_refl 0) rfl) rfl
  exact ⟨j1, j2, j3, j4, j5, j6, j7, j8, j9⟩
theorem w_tellFault {k p : Nat} (hw : wd sh R) (h11 : I 55 11 = (k : Int)) (h12 : I 55 12 = (p : Int)) (hp : p ≤ 1000) (h : Q (am_yi (-1 - (p : Int))) (m, sl, sh, am_up I 4 16 (k : Int), R)) : am_wp (d) 139 0 [some (.inr (.inr (4)))] [] (m, sl, sh, I, R) Q := by
  refine am_wp_go rfl (by simp (disch := omega) only [s4 hw, r4_6 hw, s55 hw, h11, h12, am_addE, am_subE, am_mulE, am_laddE, am_lsubE, am_upO, am_upS, am_stS, am_stO, am_tnn, am_brl, am_brg, am_bre, am_brn, am_brG, am_brL, am_st1, am_no2, am_st2, am_clr, and_self, true_and, and_true, true_or, or_true, List.length_cons, List.length_nil] <;> omega) ?_
  try simp (disch := omega) only [s4 hw, r4_6 hw, s55 hw, h11, h12, am_addE, am_subE, am_mulE, am_laddE, am_lsubE, am_upO, am_upS, am_stS, am_stO, am_tnn, am_brl, am_brg, am_bre, am_brn, am_brG, am_brL, am_st1, am_no2, am_st2, am_clr]
  refine am_wp_ret rfl rfl ?_
  exact h
def txF (I J : Nat → Nat → Int) (k : Int) : Prop := (∀ a, ¬ (a = 4 ∨ 40 ≤ a ∧ a ≤ 55 ∨ 58 ≤ a ∧ a ≤ 60) → J a = I a) ∧ (∀ j, j ≠ 16 → J 4 j = I 4 j) ∧ J 4 16 = k ∧ J 55 1 = 0
def ktC (I J : Nat → Nat → Int) (S : KS) : Prop := (∀ a, ¬ (a = 4 ∨ 6 ≤ a ∧ a ≤ 14 ∨ a = 16 ∨ a = 22 ∨ 40 ≤ a ∧ a ≤ 55 ∨ 58 ≤ a ∧ a ≤ 60) → J a = I a) ∧ (∀ j, j ≠ 16 → J 4 j = I 4 j) ∧ J 4 16 = 0 ∧ J 55 1 = 0 ∧ kit J 6 S.2.1 (fun s => (nm27 (S.2.2.2 s) : Int)) ∧ pl J 14 [] ∧ J 16 4 = 0 ∧ J 22 1 = I 22 1 ∧ J 22 2 = 0
theorem w_snclear {c : Nat} (hs : sh c = (6, 6)) (hc : 4 ≤ c) (h : ∀ J, (∀ a, a ≠ c → J a = I a) → J c 4 = 0 → J c 5 = 0 → Q am_yv (m, sl, sh, J, R)) : am_wp (d) 79 0 [some (.inr (.inr (c)))] [] (m, sl, sh, I, R) Q := by
  refine am_wp_go rfl (by simp (disch := omega) only [hs, am_addE, am_subE, am_mulE, am_laddE, am_lsubE, am_upO, am_upS, am_stS, am_stO, am_tnn, am_brl, am_brg, am_bre, am_brn, am_brG, am_brL, am_st1, am_no2, am_st2, am_clr, and_self, true_and, and_true, true_or, or_true, List.length_cons, List.length_nil] <;> omega) ?_
  try simp (disch := omega) only [hs, am_addE, am_subE, am_mulE, am_laddE, am_lsubE, am_upO, am_upS, am_stS, am_stO, am_tnn, am_brl, am_brg, am_bre, am_brn, am_brG, am_brL, am_st1, am_no2, am_st2, am_clr]
  refine am_wp_ret rfl rfl ?_
  exact h _ (fun a ha => by rw [am_upO ha, am_upO ha]) (by rw [am_upS, am_stO (by decide), am_upS, am_stS rfl]) (by rw [am_upS, am_stS rfl])
/-- FAULTS stand within the text -/
theorem lx_pl {b : Nat → Nat} {n lim j : Nat} (hn : n ≤ 640) (hl : lim ≤ 640) : plT (lxJ b n lim) j ≤ 640 := by
  have hP := lxP_le (b := b) (n := n) j
  have s2 := (fstN_le (p := fun k => !lxB (b k)) hP).2
  have s2 : lxS b n (lxP b n j) ≤ n := s2
  unfold plT lxJ lxT
  split
  · exact hl
  · split
    · exact hn
    · split
      · dsimp only; omega
      · dsimp only; omega
set_option maxHeartbeats 4000000 in
theorem c_kitchen {n : Nat} {b : Nat → Nat} (hw : wd sh R) (hn : n ≤ 640) (h1 : I 55 1 = (n : Int)) (h57 : I 57 = ownR) (hb : ∀ k, k < n → I 56 k = sbyte (b k : Int) ∧ b k ≤ 255)
    (h0 : ∀ e, kAll (lxJ b n 600) 700 0 kS0 = .inl e → ∀ J, txF I J (e.1 : Int) → Q (am_yi (-1 - (e.2 : Int))) (m, sl, sh, J, R))
    (hk : ∀ q S', kAll (lxJ b n 600) 700 0 kS0 = .inr (q, S') → ∀ J, ktC I J S' → Q (am_yi (q : Int)) (m, sl, sh, J, R)) : am_wp (d + 6) 135 0 [some (.inr (.inr (4)))] [] (m, sl, sh, I, R) Q := by
  refine am_wp_go rfl (by simp (disch := omega) only [s4 hw, r4_6 hw, r4_3 hw, am_addE, am_subE, am_mulE, am_laddE, am_lsubE, am_upO, am_upS, am_stS, am_stO, am_tnn, am_brl, am_brg, am_bre, am_brn, am_brG, am_brL, am_st1, am_no2, am_st2, am_clr, and_self, true_and, and_true, true_or, or_true, List.length_cons, List.length_nil] <;> omega) ?_
  try simp (disch := omega) only [s4 hw, r4_6 hw, r4_3 hw, am_addE, am_subE, am_mulE, am_laddE, am_lsubE, am_upO, am_upS, am_stS, am_stO, am_tnn, am_brl, am_brg, am_bre, am_brn, am_brG, am_brL, am_st1, am_no2, am_st2, am_clr]
  refine am_wp_cc rfl rfl rfl (congrArg Prod.fst (s55 hw)) (w_open (lim := 600) (b := b) hw hn (by decide) h1 h57 hb (fun J N j0 j1 j2 => ⟨_, rfl, ?_⟩))
  refine am_wp_go rfl (by simp (disch := omega) only [s4 hw, r4_6 hw, r4_3 hw, am_addE, am_subE, am_mulE, am_laddE, am_lsubE, am_upO, am_upS, am_stS, am_stO, am_tnn, am_brl, am_brg, am_bre, am_brn, am_brG, am_brL, am_st1, am_no2, am_st2, am_clr, and_self, true_and, and_true, true_or, or_true, List.length_cons, List.length_nil] <;> omega) ?_
  try simp (disch := omega) only [s4 hw, r4_6 hw, r4_3 hw, am_addE, am_subE, am_mulE, am_laddE, am_lsubE, am_upO, am_upS, am_stS, am_stO, am_tnn, am_brl, am_brg, am_bre, am_brn, am_brG, am_brL, am_st1, am_no2, am_st2, am_clr]
  refine am_wp_cc rfl rfl rfl (congrArg Prod.fst (s40 hw)) (w_kread hw lxJ_ok j2 (fun e he K k0 k1 k2 => ⟨_, rfl, ?_⟩) (fun q S' he K k0 k1 k2 => ⟨_, rfl, ?_⟩))
  · have hp : e.2 ≤ 640 := by
      obtain ⟨i, hi⟩ := kAll_pl _ _ _ he
      rw [hi]; exact lx_pl hn (by decide)
    refine am_wp_go rfl (by simp (disch := omega) only [s4 hw, r4_6 hw, r4_3 hw, am_addE, am_subE, am_mulE, am_laddE, am_lsubE, am_upO, am_upS, am_stS, am_stO, am_tnn, am_brl, am_brg, am_bre, am_brn, am_brG, am_brL, am_st1, am_no2, am_st2, am_clr, and_self, true_and, and_true, true_or, or_true, List.length_cons, List.length_nil] <;> omega) ?_
    refine am_wp_pc (pc' := 24) rfl ?_
    refine am_wp_go rfl (by simp (disch := omega) only [s4 hw, r4_6 hw, r4_3 hw, am_addE, am_subE, am_mulE, am_laddE, am_lsubE, am_upO, am_upS, am_stS, am_stO, am_tnn, am_brl, am_brg, am_bre, am_brn, am_brG, am_brL, am_st1, am_no2, am_st2, am_clr, and_self, true_and, and_true, true_or, or_true, List.length_cons, List.length_nil] <;> omega) ?_
    try simp (disch := omega) only [s4 hw, r4_6 hw, r4_3 hw, am_addE, am_subE, am_mulE, am_laddE, am_lsubE, am_upO, am_upS, am_stS, am_stO, am_tnn, am_brl, am_brg, am_bre, am_brn, am_brG, am_brL, am_st1, am_no2, am_st2, am_clr]
    refine am_wp_cc rfl rfl rfl (congrArg Prod.fst (s4 hw)) (w_tellFault (k := e.1) (p := e.2) hw k1 k2 (by omega) ⟨_, rfl, ?_⟩)
    refine am_wp_ret rfl rfl ?_
    refine h0 e he _ ⟨fun a ha => ?_, fun i hi => ?_, by rw [am_upS, am_stS rfl], ?_⟩
    · rw [am_upO (by omega), k0.1 a (by omega), j0 a (by omega) (by omega) (by omega) (by omega)]
    · rw [am_upS, am_stO hi, k0.1 4 (by decide), j0 4 (by decide) (by decide) (by decide) (by decide)]
    · rw [am_upO (by decide), k0.2, j1]
  · have hK := hk q S' he
    clear h0 hk
    refine am_wp_go rfl (by simp (disch := omega) only [s4 hw, r4_6 hw, r4_3 hw, am_addE, am_subE, am_mulE, am_laddE, am_lsubE, am_upO, am_upS, am_stS, am_stO, am_tnn, am_brl, am_brg, am_bre, am_brn, am_brG, am_brL, am_st1, am_no2, am_st2, am_clr, and_self, true_and, and_true, true_or, or_true, List.length_cons, List.length_nil] <;> omega) ?_
    refine am_wp_pc (pc' := 29) rfl ?_
    refine am_wp_go rfl (by simp (disch := omega) only [s4 hw, r4_0 hw, s5 hw, r5_0 hw, r4_3 hw, am_addE, am_subE, am_mulE, am_laddE, am_lsubE, am_upO, am_upS, am_stS, am_stO, am_tnn, am_brl, am_brg, am_bre, am_brn, am_brG, am_brL, am_st1, am_no2, am_st2, am_clr, and_self, true_and, and_true, true_or, or_true, List.length_cons, List.length_nil] <;> omega) ?_
    try simp (disch := omega) only [s4 hw, r4_0 hw, s5 hw, r5_0 hw, r4_3 hw, am_addE, am_subE, am_mulE, am_laddE, am_lsubE, am_upO, am_upS, am_stS, am_stO, am_tnn, am_brl, am_brg, am_bre, am_brn, am_brG, am_brL, am_st1, am_no2, am_st2, am_clr]
    have kk : kit (am_up K 4 16 0) 40 S'.2.1 (fun s => (nm27 (S'.2.2.2 s) : Int)) := kit_fr k1.1 (fun a a1 a2 => am_upO (by omega))
    refine am_wp_cc rfl rfl rfl (congrArg Prod.fst (s6 hw)) (w_ktcopy (c := 6) (e := 40) (kt_w hw (by decide)) (kt_w hw (by decide)) (by decide) kk (fun V v0 v1 => ⟨_, rfl, ?_⟩))
    refine am_wp_go rfl (by simp (disch := omega) only [s4 hw, r4_0 hw, s5 hw, r5_1 hw, am_addE, am_subE, am_mulE, am_laddE, am_lsubE, am_upO, am_upS, am_stS, am_stO, am_tnn, am_brl, am_brg, am_bre, am_brn, am_brG, am_brL, am_st1, am_no2, am_st2, am_clr, and_self, true_and, and_true, true_or, or_true, List.length_cons, List.length_nil] <;> omega) ?_
    try simp (disch := omega) only [s4 hw, r4_0 hw, s5 hw, r5_1 hw, am_addE, am_subE, am_mulE, am_laddE, am_lsubE, am_upO, am_upS, am_stS, am_stO, am_tnn, am_brl, am_brg, am_bre, am_brn, am_brG, am_brL, am_st1, am_no2, am_st2, am_clr]
    refine am_wp_cc rfl rfl rfl (congrArg Prod.fst (s14 hw)) (w_plclear (pl_w hw (by decide)) (fun X x0 x1 => ⟨_, rfl, ?_⟩))
    refine am_wp_go rfl (by simp (disch := omega) only [s4 hw, r4_0 hw, s5 hw, r5_2 hw, am_addE, am_subE, am_mulE, am_laddE, am_lsubE, am_upO, am_upS, am_stS, am_stO, am_tnn, am_brl, am_brg, am_bre, am_brn, am_brG, am_brL, am_st1, am_no2, am_st2, am_clr, and_self, true_and, and_true, true_or, or_true, List.length_cons, List.length_nil] <;> omega) ?_
    try simp (disch := omega) only [s4 hw, r4_0 hw, s5 hw, r5_2 hw, am_addE, am_subE, am_mulE, am_laddE, am_lsubE, am_upO, am_upS, am_stS, am_stO, am_tnn, am_brl, am_brg, am_bre, am_brn, am_brG, am_brL, am_st1, am_no2, am_st2, am_clr]
    refine am_wp_cc rfl rfl rfl (congrArg Prod.fst (s16 hw)) (w_snclear (c := 16) (s16 hw) (by decide) (fun Y y0 y1 y2 => ⟨_, rfl, ?_⟩))
    refine am_wp_go rfl (by simp (disch := omega) only [s4 hw, r4_2 hw, am_addE, am_subE, am_mulE, am_laddE, am_lsubE, am_upO, am_upS, am_stS, am_stO, am_tnn, am_brl, am_brg, am_bre, am_brn, am_brG, am_brL, am_st1, am_no2, am_st2, am_clr, and_self, true_and, and_true, true_or, or_true, List.length_cons, List.length_nil] <;> omega) ?_
    try simp (disch := omega) only [s4 hw, r4_2 hw, am_addE, am_subE, am_mulE, am_laddE, am_lsubE, am_upO, am_upS, am_stS, am_stO, am_tnn, am_brl, am_brg, am_bre, am_brn, am_brG, am_brL, am_st1, am_no2, am_st2, am_clr]
    refine am_wp_cc rfl rfl rfl (congrArg Prod.fst (s22 hw)) (w_hclear hw (fun Z z0 z1 z2 => ⟨_, rfl, ?_⟩))
    have Z40 : Z 40 0 = (q : Int) := by rw [z0 40 (by decide), y0 40 (by decide), x0 40 (by decide), v0 40 (by decide), am_upO (by decide)]; exact k2
    refine am_wp_go rfl (by simp (disch := omega) only [s4 hw, r4_3 hw, s40 hw, Z40, am_addE, am_subE, am_mulE, am_laddE, am_lsubE, am_upO, am_upS, am_stS, am_stO, am_tnn, am_brl, am_brg, am_bre, am_brn, am_brG, am_brL, am_st1, am_no2, am_st2, am_clr, and_self, true_and, and_true, true_or, or_true, List.length_cons, List.length_nil] <;> omega) ?_
    try simp (disch := omega) only [s4 hw, r4_3 hw, s40 hw, Z40, am_addE, am_subE, am_mulE, am_laddE, am_lsubE, am_upO, am_upS, am_stS, am_stO, am_tnn, am_brl, am_brg, am_bre, am_brn, am_brG, am_brL, am_st1, am_no2, am_st2, am_clr]
    refine am_wp_ret rfl rfl ?_
    have base : ∀ a, ¬ (a = 4 ∨ 40 ≤ a ∧ a ≤ 55 ∨ 58 ≤ a ∧ a ≤ 60) → K a = I a := fun a ha => by rw [k0.1 a (by omega), j0 a (by omega) (by omega) (by omega) (by omega)]
    refine hK Z ⟨fun a ha => ?_, fun i hi => ?_, ?_, ?_, ?_, ?_, ?_, ?_, z2⟩
    · rw [z0 a (by omega), y0 a (by omega), x0 a (by omega), v0 a (by omega), am_upO (by omega), base a (by omega)]
    · rw [z0 4 (by decide), y0 4 (by decide), x0 4 (by decide), v0 4 (by decide), am_upS, am_stO hi, k0.1 4 (by decide), j0 4 (by decide) (by decide) (by decide) (by decide)]
    · rw [z0 4 (by decide), y0 4 (by decide), x0 4 (by decide), v0 4 (by decide), am_upS, am_stS rfl]
    · rw [z0 55 (by decide), y0 55 (by decide), x0 55 (by decide), v0 55 (by decide), am_upO (by decide), k0.2, j1]
    · exact kit_fr v1 (fun a a1 a2 => by rw [z0 a (by omega), y0 a (by omega), x0 a (by omega)])
    · exact pl_fr x1 (by rw [z0 14 (by decide), y0 14 (by decide)]) (by rw [z0 15 (by decide), y0 15 (by decide)])
    · rw [z0 16 (by decide)]; exact y1
    · rw [z1, y0 22 (by decide), x0 22 (by decide), v0 22 (by decide), am_upO (by decide), base 22 (by decide)]
end KP
