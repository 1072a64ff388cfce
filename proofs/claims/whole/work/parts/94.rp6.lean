/-! kitchen() by the reference; the two together -/
theorem nmF_4 {t : Tk} {a c : Nat} (h : nmF t a c = 0) : t.1 = 4 := by
  unfold nmF at h
  by_cases h4 : t.1 = 4
  · exact h4
  · rw [if_pos h4] at h; omega
def kTk (T : Nat → Tk) (i j : Nat) : Prop := ∀ k, i ≤ k → k < j → 2 ≤ (T k).1
theorem kN_tk {T : Nat → Tk} {i j a b : Nat} {k : Nat → KR} {S : KS} (h : kN T j a b k = .inr S) (hi : kTk T i j) (hk : ∀ v, kTk T i (j + 1) → k v = .inr S → kTk T i S.1) : kTk T i S.1 := by
  unfold kN at h
  split at h
  · cases h
  · rename_i hn
    have h4 := nmF_4 (Classical.not_not.mp hn)
    exact hk _ (fun q q1 q2 => by by_cases hq : q = j; (rw [hq, h4]; decide); exact hi q q1 (by omega)) h
theorem kNew_tk {T : Nat → Tk} {i j : Nat} {Z : KS} {k : KR} {S : KS} (h : kNew T j Z k = .inr S) (hi : kTk T i j) (hk : kTk T i (j + 1) → k = .inr S → kTk T i S.1) : kTk T i S.1 := by
  unfold kNew at h
  split at h
  · cases h
  · rename_i hn
    have h2 := (cK_2.mp (Classical.not_not.mp hn)).1
    split at h
    · cases h
    · exact hk (fun q q1 q2 => by by_cases hq : q = j; (rw [hq, h2]; decide); exact hi q q1 (by omega)) h
theorem kLine_tk {T : Nat → Tk} {S S' : KS} {i : Nat} (h : kLine T S = .inr S') (hi : kTk T i S.1) : kTk T i S'.1 := by
  have st : owC (T S.1) ≠ -1 → kTk T i (S.1 + 1) := fun ho q q1 q2 => by
    by_cases hq : q = S.1
    · rw [hq, ow_le ho]; decide
    · exact hi q q1 (by omega)
  have pl : ∀ w a b, owC (T S.1) ≠ -1 → kPlain T S w a b = .inr S' → kTk T i S'.1 := fun w a b ho h => by
    unfold kPlain at h
    split at h
    · cases h
    · exact kN_tk h (st ho) (fun v hv e => by cases e; exact hv)
  unfold kLine at h
  split at h
  · exact pl _ _ _ (by omega) h
  · split at h
    · exact pl _ _ _ (by omega) h
    · split at h
      · exact pl _ _ _ (by omega) h
      · split at h
        · rename_i ho
          unfold kBurn at h
          split at h
          · cases h
          · exact kN_tk h (st (by omega)) (fun v hv e => kN_tk e hv (fun u hu e => by cases e; exact hu))
        · split at h
          · rename_i ho
            unfold kSlice at h
            split at h
            · cases h
            · refine kNew_tk h (st (by omega)) (fun h1 e => kN_tk e h1 (fun v h2 e => kN_tk e h2 (fun u h3 e => ?_)))
              cases e
              dsimp only
              split
              · rename_i h7
                intro q q1 q2
                by_cases hq : q = S.1 + 4
                · rw [hq, ow_le (t := T (S.1 + 4)) (by omega)]; decide
                · exact h3 q q1 (by omega)
              · exact h3
          · split at h
            · rename_i ho
              unfold kGuest at h
              split at h
              · cases h
              · exact kNew_tk h (st (by omega)) (fun h1 e => kN_tk e h1 (fun v h2 e => kN_tk e h2 (fun u h3 e => by cases e; exact h3)))
            · split at h
              · rename_i ho
                unfold kSort at h
                split at h
                · cases h
                · exact kN_tk h (st (by omega)) (fun v hv e => kN_tk e hv (fun u hu e => by cases e; exact hu))
              · cases h
theorem kEnd_tk {T : Nat → Tk} {S S' : KS} {i : Nat} (h : kEnd T (kLine T S) = .inr S') (hi : kTk T i S.1) : kTk T i S'.1 ∧ S.1 + 2 ≤ S'.1 := by
  cases hl : kLine T S with
  | inl f => rw [hl] at h; cases h
  | inr Z =>
    have ge := kLine_ge hl
    have tk := kLine_tk hl hi
    rw [hl] at h
    unfold kEnd at h
    dsimp only at h
    split at h
    · rename_i hs
      cases h
      refine ⟨fun q q1 q2 => ?_, by dsimp only; omega⟩
      dsimp only at q2
      by_cases hq : q = Z.1
      · rw [hq, hs.1]; decide
      · exact tk q q1 (by omega)
    · cases h
/-- a TOKEN takes a byte at least -/
theorem lx_pos {b : Nat → Nat} {n lim : Nat} : ∀ j, kTk (lxJ b n lim) 0 j → j ≤ lxP b n j
  | 0, _ => Nat.le_refl 0
  | j + 1, h => by
    have ih := lx_pos j (fun q q1 q2 => h q q1 (by omega))
    have hk := h j (Nat.zero_le j) (by omega)
    have hP := lxP_le (b := b) (n := n) j
    obtain ⟨s1, s2⟩ := fstN_le (p := fun k => !lxB (b k)) hP
    have s1 : lxP b n j ≤ lxS b n (lxP b n j) := s1
    show j + 1 ≤ lxX b n (lxP b n j)
    unfold lxJ lxT at hk
    unfold lxX
    by_cases c1 : lim < n ∧ lim ≤ lxS b n (lxP b n j)
    · rw [if_pos c1] at hk; dsimp only at hk; omega
    · rw [if_neg c1] at hk
      by_cases c2 : n ≤ lxS b n (lxP b n j)
      · rw [if_pos c2] at hk; dsimp only at hk; omega
      · rw [if_pos (by omega)]
        split
        · rename_i ha
          have := (lxE_v (n := n) (f := lxS b n (lxP b n j)) (by omega) ha).1
          omega
        · omega
theorem lx_le {b : Nat → Nat} {n lim j : Nat} (h : kTk (lxJ b n lim) 0 j) (hn : n ≤ 640) : j ≤ 640 := by
  have h1 := lx_pos j h
  have h2 := lxP_le (b := b) (n := n) j
  omega
def txR2 (I J : Nat → Nat → Int) (k : Int) : Prop := (∀ a, a ≠ 124 → a ≠ 126 → a ≠ 127 → a ≠ 131 → a ≠ 134 → a ≠ 159 → J a = I a) ∧ (∀ j, ¬ (j = 0 ∨ 2 ≤ j ∧ j ≤ 13 ∨ 23 ≤ j ∧ j ≤ 24 ∨ 58 ≤ j) → J 124 j = I 124 j) ∧ J 124 2 = 0 ∧ J 124 10 = k ∧ J 124 23 = 1 ∧ J 126 = lw I
def ktR (I J : Nat → Nat → Int) (S : KS) : Prop := (∀ a, a ≠ 124 → a ≠ 126 → a ≠ 127 → a ≠ 130 → a ≠ 131 → J a = I a) ∧ (∀ j, ¬ (j = 0 ∨ 2 ≤ j ∧ j ≤ 13 ∨ 22 ≤ j ∧ j ≤ 24) → J 124 j = I 124 j) ∧ J 124 2 = 0 ∧ J 124 10 = 0 ∧ J 124 22 = 0 ∧ J 124 23 = 1 ∧ (∀ j, j < 58 → J 126 j = S.2.1 j) ∧ (∀ j, 58 ≤ j → j < 2301 → J 126 j = 0) ∧ (∀ s, s < nS S.2.1 → J 130 s = (nm27 (S.2.2.2 s) : Int))
section RP
variable {m sl : Nat} {sh : Nat → Nat × Nat} {I : Nat → Nat → Int} {R : Nat → Nat → Nat} {Q : am_R → am_M → Prop} {d : Nat} {b : Nat → Nat} {n : Nat}
set_option maxHeartbeats 8000000 in
theorem r_kitchen (hw : wd sh R) (hb : beg I) (hn : n ≤ 640) (h2 : I 124 2 = (n : Int)) (ht : ∀ k, k < n → I 125 k = (b k : Int) ∧ b k ≤ 255)
    (h0 : ∀ e, kAll (lxJ b n 600) 700 0 kS0 = .inl e → ∀ J, txR2 I J (e.1 : Int) → Q (am_yi (-1 - (e.2 : Int))) (m, sl, sh, J, R))
    (hk : ∀ q S', kAll (lxJ b n 600) 700 0 kS0 = .inr (q, S') → ∀ J, ktR I J S' → Q (am_yi (q : Int)) (m, sl, sh, J, R)) : am_wp (d + 6) 226 0 [some (.inr (.inr (124))), none, none] [] (m, sl, sh, I, R) Q := by
  refine am_wp_go rfl (by simp (disch := omega) only [am_addE, am_subE, am_mulE, am_laddE, am_lsubE, am_upO, am_upS, am_stS, am_stO, am_tnn, am_brl, am_brg, am_bre, am_brn, am_brG, am_brL, am_st1, am_no2, am_st2, am_clr, and_self, true_and, and_true, true_or, or_true, List.length_cons, List.length_nil] <;> omega) ?_
  try simp (disch := omega) only [am_addE, am_subE, am_mulE, am_laddE, am_lsubE, am_upO, am_upS, am_stS, am_stO, am_tnn, am_brl, am_brg, am_bre, am_brn, am_brG, am_brL, am_st1, am_no2, am_st2, am_clr]
  refine am_wp_cc rfl rfl rfl (congrArg Prod.fst (s124 hw)) (w_M_begin (L := 600) (b := b) (n := n) rfl hw hb hn h2 ht (fun J j1 j2 j3 j4 j5 j6 j7 => ⟨_, rfl, ?_⟩))
  refine am_wp_go rfl (by simp (disch := omega) only [s124 hw, r124_15 hw, am_addE, am_subE, am_mulE, am_laddE, am_lsubE, am_upO, am_upS, am_stS, am_stO, am_tnn, am_brl, am_brg, am_bre, am_brn, am_brG, am_brL, am_st1, am_no2, am_st2, am_clr, and_self, true_and, and_true, true_or, or_true, List.length_cons, List.length_nil] <;> omega) ?_
  try simp (disch := omega) only [s124 hw, r124_15 hw, am_addE, am_subE, am_mulE, am_laddE, am_lsubE, am_upO, am_upS, am_stS, am_stO, am_tnn, am_brl, am_brg, am_bre, am_brn, am_brG, am_brL, am_st1, am_no2, am_st2, am_clr]
  refine am_wp_cc rfl rfl rfl (trivial) (w_M_plain (a := 127) (by decide) (n := 58) (by decide) (s127 hw) (fun K k1 k2 => ⟨_, rfl, ?_⟩))
  refine am_wp_go rfl (by simp (disch := omega) only [s124 hw, am_addE, am_subE, am_mulE, am_laddE, am_lsubE, am_upO, am_upS, am_stS, am_stO, am_tnn, am_brl, am_brg, am_bre, am_brn, am_brG, am_brL, am_st1, am_no2, am_st2, am_clr, and_self, true_and, and_true, true_or, or_true, List.length_cons, List.length_nil] <;> omega) ?_
  try simp (disch := omega) only [s124 hw, am_addE, am_subE, am_mulE, am_laddE, am_lsubE, am_upO, am_upS, am_stS, am_stO, am_tnn, am_brl, am_brg, am_bre, am_brn, am_brG, am_brL, am_st1, am_no2, am_st2, am_clr]
  have v1 : ∀ a, a ≠ 124 → a ≠ 126 → a ≠ 127 → a ≠ 131 → am_up K 124 24 0 a = I a := fun a a1 a2 a3 _ => by rw [am_upO a1, k1 a a3, j1 a a1 a2]
  have v2 : ∀ i, ¬ (i = 0 ∨ 2 ≤ i ∧ i ≤ 13 ∨ i = 23 ∨ i = 24) → am_up K 124 24 0 124 i = I 124 i := fun i hi => by rw [am_upS, am_stO (by omega), k1 124 (by decide), j2 i (by omega)]
  have v3 : am_up K 124 24 0 124 2 = 0 := by rw [am_upS, am_stO (by decide), k1 124 (by decide), j3]
  have v4 : am_up K 124 24 0 124 23 = 1 := by rw [am_upS, am_stO (by decide), k1 124 (by decide), j4]
  have v5 : am_up K 124 24 0 124 10 = 0 := by rw [am_upS, am_stO (by decide), k1 124 (by decide), j5]
  have v6 : am_up K 124 24 0 126 = lw I := by rw [am_upO (by decide), k1 126 (by decide), j6]
  have v7 : rpR (am_up K 124 24 0) b n 600 0 := by
    refine rpR_up ?_ (Or.inr ⟨rfl, by decide⟩)
    obtain ⟨g1, g2, g3, g4, ⟨g5, g6, g7, g8, g9⟩, g10⟩ := j7
    unfold rpR rTk
    rw [k1 124 (by decide), k1 125 (by decide)]
    exact ⟨g1, g2, g3, g4, ⟨g5, g6, g7, g8, g9⟩, g10⟩
  have v8 : krR (am_up K 124 24 0) kS0 := by
    refine ⟨fun i hi => ?_, ⟨by rw [am_upS, am_stS rfl]; rfl, by decide⟩, fun s hs => absurd hs (Nat.not_lt_zero s), fun s hs => absurd hs (Nat.not_lt_zero s), ?_⟩
    · rw [am_upO (by decide), k2]
      dsimp only
      rw [if_pos hi]; rfl
    · unfold wkm; decide
  generalize am_up K 124 24 0 = V at v1 v2 v3 v4 v5 v6 v7 v8 ⊢
  clear j1 j2 j3 j4 j5 j6 j7 k1 k2
  have LP : ∀ i : Nat, i ≤ 700 → ∀ (z2 : Option am_V) (S : KS) (X : Nat → Nat → Int), frM V X → X 124 10 = 0 → krR X S → rpR X b n 600 S.1 → 2 * i ≤ S.1 → kTk (lxJ b n 600) 0 S.1 → kAll (lxJ b n 600) (700 - i) i S = kAll (lxJ b n 600) 700 0 kS0 → am_wp (d + 6) 226 21 [some (.inr (.inr (124))), some (.inl ((i : Int))), z2] [] (m, sl, sh, X, R) Q := by
    refine am_lp 700 (fun i hi ih z2 S X f0 f1 f2 f3 f4 f5 f6 => ?_)
    have sle := lx_le f5 hn
    have g5 := f3.2.2.2.2.1.1
    have k0 := (rK_2 (lxJ_3 (b := b) (n := n) (lim := 600) (j := S.1))).2.2.2.2
    refine am_wp_go rfl (by simp (disch := omega) only [s124 hw, g5, am_addE, am_subE, am_mulE, am_laddE, am_lsubE, am_upO, am_upS, am_stS, am_stO, am_tnn, am_brl, am_brg, am_bre, am_brn, am_brG, am_brL, am_st1, am_no2, am_st2, am_clr, and_self, true_and, and_true, true_or, or_true, List.length_cons, List.length_nil] <;> omega) ?_
    try simp (disch := omega) only [s124 hw, g5, am_addE, am_subE, am_mulE, am_laddE, am_lsubE, am_upO, am_upS, am_stS, am_stO, am_tnn, am_brl, am_brg, am_bre, am_brn, am_brG, am_brL, am_st1, am_no2, am_st2, am_clr]
    refine am_wp_br (fun b25 => ?_) (fun b25 => ?_)
    · rw [show 700 - i = (699 - i) + 1 by omega, kAll_0 (k0.mp b25)] at f6
      have h := hk i S f6.symm
      clear hk h0 ih k0
      obtain ⟨c1, c2, c3, c4, c5⟩ := f2
      obtain ⟨m1, m2, m3⟩ := wkm_n c5
      refine am_wp_go rfl (by simp (disch := omega) only [s124 hw, g5, am_addE, am_subE, am_mulE, am_laddE, am_lsubE, am_upO, am_upS, am_stS, am_stO, am_tnn, am_brl, am_brg, am_bre, am_brn, am_brG, am_brL, am_st1, am_no2, am_st2, am_clr, and_self, true_and, and_true, true_or, or_true, List.length_cons, List.length_nil] <;> omega) ?_
      try simp (disch := omega) only [s124 hw, g5, am_addE, am_subE, am_mulE, am_laddE, am_lsubE, am_upO, am_upS, am_stS, am_stO, am_tnn, am_brl, am_brg, am_bre, am_brn, am_brG, am_brL, am_st1, am_no2, am_st2, am_clr]
      have L1 : ∀ k : Nat, k ≤ 58 → ∀ (Y : Nat → Nat → Int), (∀ a, a ≠ 126 → Y a = X a) → (∀ j, j < k → Y 126 j = S.2.1 j) → am_wp (d + 6) 226 50 [some (.inr (.inr (124))), some (.inl ((i : Int))), some (.inl ((k : Int)))] [] (m, sl, sh, Y, R) Q := by
        refine am_lp 58 (fun k hk ih Y y1 y2 => ?_)
        refine am_wp_go rfl (by simp (disch := omega) only [s124 hw, r124_14 hw, s126 hw, r124_15 hw, s127 hw, am_addE, am_subE, am_mulE, am_laddE, am_lsubE, am_upO, am_upS, am_stS, am_stO, am_tnn, am_brl, am_brg, am_bre, am_brn, am_brG, am_brL, am_st1, am_no2, am_st2, am_clr, and_self, true_and, and_true, true_or, or_true, List.length_cons, List.length_nil] <;> omega) ?_
        try simp (disch := omega) only [s124 hw, r124_14 hw, s126 hw, r124_15 hw, s127 hw, am_addE, am_subE, am_mulE, am_laddE, am_lsubE, am_upO, am_upS, am_stS, am_stO, am_tnn, am_brl, am_brg, am_bre, am_brn, am_brG, am_brL, am_st1, am_no2, am_st2, am_clr]
        refine am_wp_br (fun b53 => ?_) (fun b53 => ?_)
        · have e : k = 58 := by omega
          subst e
          clear ih
          refine am_wp_go rfl (by simp (disch := omega) only [s124 hw, r124_14 hw, s126 hw, r124_15 hw, s127 hw, am_addE, am_subE, am_mulE, am_laddE, am_lsubE, am_upO, am_upS, am_stS, am_stO, am_tnn, am_brl, am_brg, am_bre, am_brn, am_brG, am_brL, am_st1, am_no2, am_st2, am_clr, and_self, true_and, and_true, true_or, or_true, List.length_cons, List.length_nil] <;> omega) ?_
          try simp (disch := omega) only [s124 hw, r124_14 hw, s126 hw, r124_15 hw, s127 hw, am_addE, am_subE, am_mulE, am_laddE, am_lsubE, am_upO, am_upS, am_stS, am_stO, am_tnn, am_brl, am_brg, am_bre, am_brn, am_brG, am_brL, am_st1, am_no2, am_st2, am_clr]
          have L2 : ∀ e : Nat, e ≤ 2243 → ∀ (Y : Nat → Nat → Int), (∀ a, a ≠ 126 → Y a = X a) → (∀ j, j < 58 → Y 126 j = S.2.1 j) → (∀ j, 58 ≤ j → j < 58 + e → Y 126 j = 0) → am_wp (d + 6) 226 77 [some (.inr (.inr (124))), some (.inl ((i : Int))), some (.inl (((58 + e : Nat) : Int)))] [] (m, sl, sh, Y, R) Q := by
            refine am_lp 2243 (fun e he ih Y y1 y2 y3 => ?_)
            refine am_wp_go rfl (by simp (disch := omega) only [s124 hw, r124_14 hw, s126 hw, am_addE, am_subE, am_mulE, am_laddE, am_lsubE, am_upO, am_upS, am_stS, am_stO, am_tnn, am_brl, am_brg, am_bre, am_brn, am_brG, am_brL, am_st1, am_no2, am_st2, am_clr, and_self, true_and, and_true, true_or, or_true, List.length_cons, List.length_nil] <;> omega) ?_
            try simp (disch := omega) only [s124 hw, r124_14 hw, s126 hw, am_addE, am_subE, am_mulE, am_laddE, am_lsubE, am_upO, am_upS, am_stS, am_stO, am_tnn, am_brl, am_brg, am_bre, am_brn, am_brG, am_brL, am_st1, am_no2, am_st2, am_clr]
            refine am_wp_br (fun b81 => ?_) (fun b81 => ?_)
            · have e4 : e = 2243 := by omega
              subst e4
              clear ih
              refine am_wp_go rfl (by simp (disch := omega) only [s124 hw, r124_14 hw, s126 hw, am_addE, am_subE, am_mulE, am_laddE, am_lsubE, am_upO, am_upS, am_stS, am_stO, am_tnn, am_brl, am_brg, am_bre, am_brn, am_brG, am_brL, am_st1, am_no2, am_st2, am_clr, and_self, true_and, and_true, true_or, or_true, List.length_cons, List.length_nil] <;> omega) ?_
              try simp (disch := omega) only [s124 hw, r124_14 hw, s126 hw, am_addE, am_subE, am_mulE, am_laddE, am_lsubE, am_upO, am_upS, am_stS, am_stO, am_tnn, am_brl, am_brg, am_bre, am_brn, am_brG, am_brL, am_st1, am_no2, am_st2, am_clr]
              have L3 : ∀ k : Nat, k ≤ 21 → ∀ (Z : Nat → Nat → Int), (∀ a, a ≠ 130 → Z a = Y a) → (∀ j, j < k → Z 130 j = X 131 j) → am_wp (d + 6) 226 99 [some (.inr (.inr (124))), some (.inl ((i : Int))), some (.inl ((k : Int)))] [] (m, sl, sh, Z, R) Q := by
                refine am_lp 21 (fun k hk ih Z z1 z3 => ?_)
                refine am_wp_go rfl (by simp (disch := omega) only [s124 hw, r124_18 hw, s130 hw, r124_19 hw, s131 hw, am_addE, am_subE, am_mulE, am_laddE, am_lsubE, am_upO, am_upS, am_stS, am_stO, am_tnn, am_brl, am_brg, am_bre, am_brn, am_brG, am_brL, am_st1, am_no2, am_st2, am_clr, and_self, true_and, and_true, true_or, or_true, List.length_cons, List.length_nil] <;> omega) ?_
                try simp (disch := omega) only [s124 hw, r124_18 hw, s130 hw, r124_19 hw, s131 hw, am_addE, am_subE, am_mulE, am_laddE, am_lsubE, am_upO, am_upS, am_stS, am_stO, am_tnn, am_brl, am_brg, am_bre, am_brn, am_brG, am_brL, am_st1, am_no2, am_st2, am_clr]
                refine am_wp_br (fun b102 => ?_) (fun b102 => ?_)
                · refine am_wp_go rfl (by simp (disch := omega) only [s124 hw, r124_18 hw, s130 hw, r124_19 hw, s131 hw, am_addE, am_subE, am_mulE, am_laddE, am_lsubE, am_upO, am_upS, am_stS, am_stO, am_tnn, am_brl, am_brg, am_bre, am_brn, am_brG, am_brL, am_st1, am_no2, am_st2, am_clr, and_self, true_and, and_true, true_or, or_true, List.length_cons, List.length_nil] <;> omega) ?_
                  try simp (disch := omega) only [s124 hw, r124_18 hw, s130 hw, r124_19 hw, s131 hw, am_addE, am_subE, am_mulE, am_laddE, am_lsubE, am_upO, am_upS, am_stS, am_stO, am_tnn, am_brl, am_brg, am_bre, am_brn, am_brG, am_brL, am_st1, am_no2, am_st2, am_clr]
                  refine am_wp_ret rfl rfl ?_
                  have b124 : Z 124 = X 124 := by rw [z1 124 (by decide), y1 124 (by decide)]
                  refine h _ ⟨fun a a1 a2 a3 a4 a5 => ?_, fun j hj => ?_, ?_, ?_, by rw [am_upS, am_stS rfl], ?_, fun j hj => ?_, fun j hj hj2 => ?_, fun s hs => ?_⟩
                  · rw [am_upO a1, z1 a a4, y1 a a2, f0.1 a a1 a3 a5, v1 a a1 a2 a3 a5]
                  · rw [am_upS, am_stO (by omega), b124, f0.2 j (by omega), v2 j (by omega)]
                  · rw [am_upS, am_stO (by decide), b124, f0.2 2 (by decide), v3]
                  · rw [am_upS, am_stO (by decide), b124, f1]
                  · rw [am_upS, am_stO (by decide), b124, f0.2 23 (by decide), v4]
                  · rw [am_upO (by decide), z1 126 (by decide)]; exact y2 j hj
                  · rw [am_upO (by decide), z1 126 (by decide)]; exact y3 j hj (by omega)
                  · rw [am_upO (by decide), z3 s (by omega)]
                    have := (c3 s hs).2
                    rw [Nat.zero_add] at this
                    exact this
                · have e131 : Z 131 k = X 131 k := by rw [z1 131 (by decide), y1 131 (by decide)]
                  refine am_wp_go rfl (by simp (disch := omega) only [s124 hw, r124_18 hw, s130 hw, r124_19 hw, s131 hw, e131, am_addE, am_subE, am_mulE, am_laddE, am_lsubE, am_upO, am_upS, am_stS, am_stO, am_tnn, am_brl, am_brg, am_bre, am_brn, am_brG, am_brL, am_st1, am_no2, am_st2, am_clr, and_self, true_and, and_true, true_or, or_true, List.length_cons, List.length_nil] <;> omega) ?_
                  try simp (disch := omega) only [s124 hw, r124_18 hw, s130 hw, r124_19 hw, s131 hw, e131, am_addE, am_subE, am_mulE, am_laddE, am_lsubE, am_upO, am_upS, am_stS, am_stO, am_tnn, am_brl, am_brg, am_bre, am_brn, am_brG, am_brL, am_st1, am_no2, am_st2, am_clr]
                  refine am_wp_ls (ih (by omega) _ (fun a ha => by rw [am_upO ha, z1 a ha]) (fun j hj => ?_)) rfl
                  rw [am_upS]
                  by_cases hjk : j = k
                  · rw [am_stS hjk, hjk]
                  · rw [am_stO hjk]; exact z3 j (by omega)
              exact am_wp_ls (L3 0 (by omega) Y (fun _ _ => rfl) (fun j hj => absurd hj (Nat.not_lt_zero j))) rfl
            · refine am_wp_go rfl (by simp (disch := omega) only [s124 hw, r124_14 hw, s126 hw, am_addE, am_subE, am_mulE, am_laddE, am_lsubE, am_upO, am_upS, am_stS, am_stO, am_tnn, am_brl, am_brg, am_bre, am_brn, am_brG, am_brL, am_st1, am_no2, am_st2, am_clr, and_self, true_and, and_true, true_or, or_true, List.length_cons, List.length_nil] <;> omega) ?_
              try simp (disch := omega) only [s124 hw, r124_14 hw, s126 hw, am_addE, am_subE, am_mulE, am_laddE, am_lsubE, am_upO, am_upS, am_stS, am_stO, am_tnn, am_brl, am_brg, am_bre, am_brn, am_brG, am_brL, am_st1, am_no2, am_st2, am_clr]
              refine am_wp_ls (ih (by omega) _ (fun a ha => by rw [am_upO ha, y1 a ha]) (fun j hj => by rw [am_upS, am_stO (by omega)]; exact y2 j hj) (fun j hj hj2 => ?_)) rfl
              rw [am_upS]
              by_cases hjk : j = 58 + e
              · rw [am_stS hjk]
              · rw [am_stO hjk]; exact y3 j hj (by omega)
          exact am_wp_ls (L2 0 (by omega) Y y1 y2 (fun j h1 h2 => by omega)) rfl
        · have e127 : Y 127 k = S.2.1 k := by rw [y1 127 (by decide)]; exact c1 k (by omega)
          refine am_wp_go rfl (by simp (disch := omega) only [s124 hw, r124_14 hw, s126 hw, r124_15 hw, s127 hw, e127, am_addE, am_subE, am_mulE, am_laddE, am_lsubE, am_upO, am_upS, am_stS, am_stO, am_tnn, am_brl, am_brg, am_bre, am_brn, am_brG, am_brL, am_st1, am_no2, am_st2, am_clr, and_self, true_and, and_true, true_or, or_true, List.length_cons, List.length_nil] <;> omega) ?_
          try simp (disch := omega) only [s124 hw, r124_14 hw, s126 hw, r124_15 hw, s127 hw, e127, am_addE, am_subE, am_mulE, am_laddE, am_lsubE, am_upO, am_upS, am_stS, am_stO, am_tnn, am_brl, am_brg, am_bre, am_brn, am_brG, am_brL, am_st1, am_no2, am_st2, am_clr]
          refine am_wp_ls (ih (by omega) _ (fun a ha => by rw [am_upO ha, y1 a ha]) (fun j hj => ?_)) rfl
          rw [am_upS]
          by_cases hjk : j = k
          · rw [am_stS hjk, hjk]
          · rw [am_stO hjk]; exact y2 j (by omega)
      exact am_wp_ls (L1 0 (by omega) X (fun _ _ => rfl) (fun j hj => absurd hj (Nat.not_lt_zero j))) rfl
    · rw [show 700 - i = (700 - (i + 1)) + 1 by omega, kAll_s (fun hx => b25 (k0.mpr hx))] at f6
      have ih := ih (by omega)
      clear k0
      refine am_wp_go rfl (by simp (disch := omega) only [s124 hw, g5, am_addE, am_subE, am_mulE, am_laddE, am_lsubE, am_upO, am_upS, am_stS, am_stO, am_tnn, am_brl, am_brg, am_bre, am_brn, am_brG, am_brL, am_st1, am_no2, am_st2, am_clr, and_self, true_and, and_true, true_or, or_true, List.length_cons, List.length_nil] <;> omega) ?_
      try simp (disch := omega) only [s124 hw, g5, am_addE, am_subE, am_mulE, am_laddE, am_lsubE, am_upO, am_upS, am_stS, am_stO, am_tnn, am_brl, am_brg, am_bre, am_brn, am_brG, am_brL, am_st1, am_no2, am_st2, am_clr]
      refine am_wp_cc rfl rfl rfl (congrArg Prod.fst (s124 hw)) (w_M_readLine hw f3 f2 (fun e he Y y0 y1 y2 => ⟨_, rfl, ?_⟩) (fun S' he Y y0 y1 y2 y3 => ⟨_, rfl, ?_⟩))
      · rw [he] at f6
        have h := h0 e f6.symm
        have hp : e.2 ≤ 640 := by
          obtain ⟨q, hq⟩ := kAll_pl _ _ _ f6.symm
          rw [hq]; exact lx_pl hn (by decide)
        clear h0 hk ih
        have fY := frM_tr f0 y0
        refine am_wp_go rfl (by simp (disch := omega) only [s124 hw, g5, am_addE, am_subE, am_mulE, am_laddE, am_lsubE, am_upO, am_upS, am_stS, am_stO, am_tnn, am_brl, am_brg, am_bre, am_brn, am_brG, am_brL, am_st1, am_no2, am_st2, am_clr, and_self, true_and, and_true, true_or, or_true, List.length_cons, List.length_nil] <;> omega) ?_
        refine am_wp_pc (pc' := 35) rfl ?_
        refine am_wp_go rfl (by simp (disch := omega) only [s124 hw, y2, am_addE, am_subE, am_mulE, am_laddE, am_lsubE, am_upO, am_upS, am_stS, am_stO, am_tnn, am_brl, am_brg, am_bre, am_brn, am_brG, am_brL, am_st1, am_no2, am_st2, am_clr, and_self, true_and, and_true, true_or, or_true, List.length_cons, List.length_nil] <;> omega) ?_
        try simp (disch := omega) only [s124 hw, y2, am_addE, am_subE, am_mulE, am_laddE, am_lsubE, am_upO, am_upS, am_stS, am_stO, am_tnn, am_brl, am_brg, am_bre, am_brn, am_brG, am_brL, am_st1, am_no2, am_st2, am_clr]
        refine am_wp_ret rfl rfl ?_
        refine h Y ⟨fun a a1 a2 a3 a4 a5 a6 => ?_, fun j hj => ?_, ?_, y1, ?_, ?_⟩
        · rw [fY.1 a a1 a3 a4, v1 a a1 a2 a3 a4]
        · rw [fY.2 j (by omega), v2 j (by omega)]
        · rw [fY.2 2 (by decide), v3]
        · rw [fY.2 23 (by decide), v4]
        · rw [fY.1 126 (by decide) (by decide) (by decide), v6]
      · obtain ⟨tk, ge⟩ := kEnd_tk he f5
        rw [he] at f6
        clear h0 hk
        refine am_wp_go rfl (by simp (disch := omega) only [s124 hw, g5, am_addE, am_subE, am_mulE, am_laddE, am_lsubE, am_upO, am_upS, am_stS, am_stO, am_tnn, am_brl, am_brg, am_bre, am_brn, am_brG, am_brL, am_st1, am_no2, am_st2, am_clr, and_self, true_and, and_true, true_or, or_true, List.length_cons, List.length_nil] <;> omega) ?_
        refine am_wp_pc (pc' := 42) rfl ?_
        refine am_wp_go rfl (by simp (disch := omega) only [am_addE, am_subE, am_mulE, am_laddE, am_lsubE, am_upO, am_upS, am_stS, am_stO, am_tnn, am_brl, am_brg, am_bre, am_brn, am_brG, am_brL, am_st1, am_no2, am_st2, am_clr, and_self, true_and, and_true, true_or, or_true, List.length_cons, List.length_nil] <;> omega) ?_
        try simp (disch := omega) only [am_addE, am_subE, am_mulE, am_laddE, am_lsubE, am_upO, am_upS, am_stS, am_stO, am_tnn, am_brl, am_brg, am_bre, am_brn, am_brG, am_brL, am_st1, am_no2, am_st2, am_clr]
        exact am_wp_ls (ih _ S' Y (frM_tr f0 y0) (by rw [y1, f1]) y2 y3 (by omega) tk f6) rfl
  exact am_wp_ls (LP 0 (by decide) none kS0 V ⟨fun _ _ _ _ => rfl, fun _ _ => rfl⟩ v5 v8 v7 (Nat.le_refl 0) (fun q q1 q2 => absurd q2 (Nat.not_lt_zero q)) rfl) rfl
end RP
