/-! sentence() by the class -/
/-- FAULTS stand at a TOKEN -/
def plE (T : Nat → Tk) (f : SNS → SNR) : Prop := ∀ S e, f S = .inl e → ∃ i, e.2 = plT T i
theorem sLp_pl {f : SNS → SNR} {w : Int} {T : Nat → Tk} (hf : plE T f) : ∀ c, plE T (sLp f w T c)
  | 0 => fun S e h => by cases h
  | c + 1 => fun S e h => by
    by_cases ho : owC (T S.1) = w
    · rw [sLp_y ho] at h
      cases hg : f (S.1 + 1, S.2) with
      | inl x => rw [hg] at h; cases h; exact hf _ _ hg
      | inr Z => rw [hg] at h; exact sLp_pl hf c _ _ h
    · rw [sLp_n (Or.inr ho)] at h; cases h
theorem sSeq_pl {f : SNS → SNR} {w : Int} {T : Nat → Tk} (hf : plE T f) : plE T (sSeq f w T) := fun S e h => by
  unfold sSeq at h
  cases hg : f S with
  | inl x => rw [hg] at h; cases h; exact hf _ _ hg
  | inr Z => rw [hg] at h; exact sLp_pl hf _ _ _ h
theorem sLeaf_pl {T : Nat → Tk} {NM : Nat → List Nat} {n : Nat} {w : Int} : plE T (sLeaf T NM n w) := fun S e h => by
  unfold sLeaf at h
  split at h
  · cases h
  · split at h
    · split at h
      · cases h; exact ⟨_, rfl⟩
      · split at h
        · cases h; exact ⟨_, rfl⟩
        · cases h
    · split at h
      · cases h; exact ⟨_, rfl⟩
      · split at h
        · cases h; exact ⟨_, rfl⟩
        · cases h
theorem sOne_pl {T : Nat → Tk} {NM : Nat → List Nat} {n : Nat} : ∀ e, plE T (sOne T NM n e)
  | 0 => fun S x h => by
    unfold sOne at h
    split at h <;> cases h <;> exact ⟨_, rfl⟩
  | e + 1 => fun S x h => by
    rw [sOne_s] at h
    unfold sOneB at h
    split at h
    · cases h; exact ⟨_, rfl⟩
    · split at h
      · cases h; exact ⟨_, rfl⟩
      · split at h
        · cases hg : sSeq (sSeq (sOne T NM n e) 15 T) 16 T (S.1 + 1, S.2.1 + 1, S.2.2) with
          | inl y => rw [hg] at h; cases h; exact sSeq_pl (sSeq_pl (sOne_pl e)) _ _ hg
          | inr Z =>
            rw [hg] at h
            unfold sCls at h
            dsimp only at h
            split at h
            · cases h
            · cases h; exact ⟨_, rfl⟩
        · split at h
          · cases hg : sOne T NM n e (S.1 + 1, S.2.1 + 1, S.2.2) with
            | inl y => rw [hg] at h; cases h; exact sOne_pl e _ _ hg
            | inr Z => rw [hg] at h; cases h
          · exact sLeaf_pl _ _ h
def sTxt (T : Nat → Tk) (NM : Nat → List Nat) (n : Nat) : SNR := match sSeq (sSeq (sOne T NM n 8) 15 T) 16 T (0, 0, []) with
  | .inl e => .inl e
  | .inr S => if (T S.1).1 = 0 then .inr S else .inl (1, plT T S.1)
theorem sTxt_pl {T : Nat → Tk} {NM : Nat → List Nat} {n : Nat} {e : Nat × Nat} (h : sTxt T NM n = .inl e) : ∃ i, e.2 = plT T i := by
  unfold sTxt at h
  cases hg : sSeq (sSeq (sOne T NM n 8) 15 T) 16 T (0, 0, []) with
  | inl y => rw [hg] at h; cases h; exact sSeq_pl (sSeq_pl (sOne_pl 8)) _ _ hg
  | inr Z =>
    rw [hg] at h
    dsimp only at h
    split at h
    · cases h
    · cases h; exact ⟨_, rfl⟩
theorem sTxt_K {T : Nat → Tk} {NM : Nat → List Nat} {n : Nat} {S : SNS} (h : sTxt T NM n = .inr S) : sK (0, 0, []) S := by
  unfold sTxt at h
  cases hg : sSeq (sSeq (sOne T NM n 8) 15 T) 16 T (0, 0, []) with
  | inl y => rw [hg] at h; cases h
  | inr Z =>
    have k := sSeq_K (sSeq_K (sOne_K 8)) (0, 0, []) Z (by decide) hg
    rw [hg] at h
    dsimp only at h
    split at h
    · cases h; exact k
    · cases h
/-- the class's own SENTENCE -/
def st16 (I : Nat → Nat → Int) (S : SNS) : Prop := I 16 4 = (S.2.2.length : Int) ∧ ∀ k, k < S.2.2.length → I 17 k = (tS S.2.2 k).1 ∧ I 18 k = (tS S.2.2 k).2.1 ∧ I 19 k = (tS S.2.2 k).2.2
def snC (I J : Nat → Nat → Int) (S : SNS) : Prop := (∀ a, ¬ (a = 4 ∨ 16 ≤ a ∧ a ≤ 19 ∨ 50 ≤ a ∧ a ≤ 53 ∨ a = 55 ∨ 58 ≤ a ∧ a ≤ 60) → J a = I a) ∧ (∀ j, j ≠ 16 → J 4 j = I 4 j) ∧ J 4 16 = 0 ∧ J 55 1 = 0 ∧ st16 J S
section SP
variable {m sl : Nat} {sh : Nat → Nat × Nat} {I : Nat → Nat → Int} {R : Nat → Nat → Nat} {Q : am_R → am_M → Prop} {d : Nat} {N : Nat} {T : Nat → Tk} {NM : Nat → List Nat} {n : Nat}
theorem w_sOneA (hw : wd sh R) (hT : tkOk T) : ∀ (e : Nat) (d : Nat) (D : Int), e ≤ 8 → D + e = 9 → cSn m sl sh R T NM n N (sOne T NM n e) (fun I Q => am_wp (d + 3 * e + 1) 85 0 [some (.inr (.inr (50))), some (.inr (.inr (55))), some (.inr (.inr (6))), some (.inl (D)), none, none] [] (m, sl, sh, I, R) Q)
  | 0, d, D, _, hD => by
    have e9 : D = 9 := by omega
    subst e9
    exact w_sOne0 (d := d) hw
  | e + 1, d, D, he, hD => by
    have a1 := w_sOneA hw hT e d (D + 1) (by omega) (by omega)
    have a2 := w_sOneA hw hT e (d + 2) (D + 1) (by omega) (by omega)
    rw [show d + 2 + 3 * e + 1 = d + 3 * e + 1 + 2 by omega] at a2
    have a3 := w_sCond hw (w_sAll hw a1 (sOne_K e)) (sSeq_K (sOne_K e))
    have a4 := w_sOneS (d := d + 3 * e + 1) (D := D) hw hT (by omega) a3 a2 (sOne_K e)
    rw [sOne_s, show d + 3 * (e + 1) + 1 = d + 3 * e + 1 + 3 by omega]
    exact a4
theorem w_sRead (hw : wd sh R) (hT : tkOk T) (hm : nmC I NM n) (hc : tpC I T N 0)
    (h0 : ∀ e, sTxt T NM n = .inl e → ∀ J, frS I J → J 55 11 = (e.1 : Int) → J 55 12 = (e.2 : Int) → Q (am_yi 0) (m, sl, sh, J, R))
    (h1 : ∀ S, sTxt T NM n = .inr S → ∀ J, frS I J → stC J S → Q (am_yi 1) (m, sl, sh, J, R)) : am_wp (d + 28) 82 0 [some (.inr (.inr (50))), some (.inr (.inr (55))), some (.inr (.inr (6)))] [] (m, sl, sh, I, R) Q := by
  have a1 := w_sOneA (m := m) (sl := sl) (NM := NM) (n := n) (N := N) hw hT 8 d 1 (by decide) (by decide)
  have a2 := w_sCond hw (w_sAll hw a1 (sOne_K 8)) (sSeq_K (sOne_K 8))
  rw [show d + 3 * 8 + 1 + 1 + 1 = d + 27 by omega] at a2
  unfold sTxt at h0 h1
  refine am_wp_go rfl (by simp (disch := omega) only [am_addE, am_subE, am_mulE, am_laddE, am_lsubE, am_upO, am_upS, am_stS, am_stO, am_tnn, am_brl, am_brg, am_bre, am_brn, am_brG, am_brL, am_st1, am_no2, am_st2, am_clr, and_self, true_and, and_true, true_or, or_true, List.length_cons, List.length_nil] <;> omega) ?_
  try simp (disch := omega) only [am_addE, am_subE, am_mulE, am_laddE, am_lsubE, am_upO, am_upS, am_stS, am_stO, am_tnn, am_brl, am_brg, am_bre, am_brn, am_brG, am_brL, am_st1, am_no2, am_st2, am_clr]
  refine am_wp_cc rfl rfl rfl (congrArg Prod.fst (s50 hw)) (w_snclear (c := 50) (s50 hw) (by decide) (fun J j0 j1 j2 => ⟨_, rfl, ?_⟩))
  have fJ : frS I J := frS_5 (fun a ha => j0 a (by omega))
  refine am_wp_go rfl (by simp (disch := omega) only [am_addE, am_subE, am_mulE, am_laddE, am_lsubE, am_upO, am_upS, am_stS, am_stO, am_tnn, am_brl, am_brg, am_bre, am_brn, am_brG, am_brL, am_st1, am_no2, am_st2, am_clr, and_self, true_and, and_true, true_or, or_true, List.length_cons, List.length_nil] <;> omega) ?_
  try simp (disch := omega) only [am_addE, am_subE, am_mulE, am_laddE, am_lsubE, am_upO, am_upS, am_stS, am_stO, am_tnn, am_brl, am_brg, am_bre, am_brn, am_brG, am_brL, am_st1, am_no2, am_st2, am_clr]
  refine am_wp_cc rfl rfl rfl (congrArg Prod.fst (s50 hw)) (a2 _ J (0, 0, []) (nmC_S hm fJ) (tpC_5 hc (fun a ha => j0 a (by omega))) ⟨j1, j2, fun k hk => absurd hk (Nat.not_lt_zero k)⟩ (by decide) (by decide) (fun e he X x0 x1 x2 => ⟨_, rfl, ?_⟩) (fun S' he X x0 x1 x2 => ⟨_, rfl, ?_⟩))
  · rw [he] at h0
    refine am_wp_go rfl (by simp (disch := omega) only [am_addE, am_subE, am_mulE, am_laddE, am_lsubE, am_upO, am_upS, am_stS, am_stO, am_tnn, am_brl, am_brg, am_bre, am_brn, am_brG, am_brL, am_st1, am_no2, am_st2, am_clr, and_self, true_and, and_true, true_or, or_true, List.length_cons, List.length_nil] <;> omega) ?_
    refine am_wp_pc (pc' := 14) rfl ?_
    refine am_wp_go rfl (by simp (disch := omega) only [am_addE, am_subE, am_mulE, am_laddE, am_lsubE, am_upO, am_upS, am_stS, am_stO, am_tnn, am_brl, am_brg, am_bre, am_brn, am_brG, am_brL, am_st1, am_no2, am_st2, am_clr, and_self, true_and, and_true, true_or, or_true, List.length_cons, List.length_nil] <;> omega) ?_
    try simp (disch := omega) only [am_addE, am_subE, am_mulE, am_laddE, am_lsubE, am_upO, am_upS, am_stS, am_stO, am_tnn, am_brl, am_brg, am_bre, am_brn, am_brG, am_brL, am_st1, am_no2, am_st2, am_clr]
    refine am_wp_ret rfl rfl ?_
    exact h0 e rfl X (frS_tr fJ x0) x1 x2
  · rw [he] at h0 h1
    dsimp only at h0 h1
    have g8 := x2.2.2.2.2.2.1
    have k0 := cK_0 (t := T S'.1)
    refine am_wp_go rfl (by simp (disch := omega) only [am_addE, am_subE, am_mulE, am_laddE, am_lsubE, am_upO, am_upS, am_stS, am_stO, am_tnn, am_brl, am_brg, am_bre, am_brn, am_brG, am_brL, am_st1, am_no2, am_st2, am_clr, and_self, true_and, and_true, true_or, or_true, List.length_cons, List.length_nil] <;> omega) ?_
    refine am_wp_pc (pc' := 16) rfl ?_
    refine am_wp_go rfl (by simp (disch := omega) only [s55 hw, g8, am_addE, am_subE, am_mulE, am_laddE, am_lsubE, am_upO, am_upS, am_stS, am_stO, am_tnn, am_brl, am_brg, am_bre, am_brn, am_brG, am_brL, am_st1, am_no2, am_st2, am_clr, and_self, true_and, and_true, true_or, or_true, List.length_cons, List.length_nil] <;> omega) ?_
    try simp (disch := omega) only [s55 hw, g8, am_addE, am_subE, am_mulE, am_laddE, am_lsubE, am_upO, am_upS, am_stS, am_stO, am_tnn, am_brl, am_brg, am_bre, am_brn, am_brG, am_brL, am_st1, am_no2, am_st2, am_clr]
    refine am_wp_br (fun b20 => ?_) (fun b20 => ?_)
    · rw [if_pos (k0.mp b20)] at h1
      refine am_wp_go rfl (by simp (disch := omega) only [s55 hw, g8, am_addE, am_subE, am_mulE, am_laddE, am_lsubE, am_upO, am_upS, am_stS, am_stO, am_tnn, am_brl, am_brg, am_bre, am_brn, am_brG, am_brL, am_st1, am_no2, am_st2, am_clr, and_self, true_and, and_true, true_or, or_true, List.length_cons, List.length_nil] <;> omega) ?_
      try simp (disch := omega) only [s55 hw, g8, am_addE, am_subE, am_mulE, am_laddE, am_lsubE, am_upO, am_upS, am_stS, am_stO, am_tnn, am_brl, am_brg, am_bre, am_brn, am_brG, am_brL, am_st1, am_no2, am_st2, am_clr]
      refine am_wp_ret rfl rfl ?_
      exact h1 _ rfl X (frS_tr fJ x0) x1
    · rw [if_neg (fun hx => b20 (k0.mpr hx))] at h0
      refine am_wp_go rfl (by simp (disch := omega) only [s55 hw, g8, am_addE, am_subE, am_mulE, am_laddE, am_lsubE, am_upO, am_upS, am_stS, am_stO, am_tnn, am_brl, am_brg, am_bre, am_brn, am_brG, am_brL, am_st1, am_no2, am_st2, am_clr, and_self, true_and, and_true, true_or, or_true, List.length_cons, List.length_nil] <;> omega) ?_
      try simp (disch := omega) only [s55 hw, g8, am_addE, am_subE, am_mulE, am_laddE, am_lsubE, am_upO, am_upS, am_stS, am_stO, am_tnn, am_brl, am_brg, am_bre, am_brn, am_brG, am_brL, am_st1, am_no2, am_st2, am_clr]
      refine am_wp_cc rfl rfl rfl (congrArg Prod.fst (s55 hw)) (w_tfail (k := 1) hw x2 (fun Y y0 y1 y2 => ⟨_, rfl, ?_⟩))
      refine am_wp_go rfl (by simp (disch := omega) only [s55 hw, g8, am_addE, am_subE, am_mulE, am_laddE, am_lsubE, am_upO, am_upS, am_stS, am_stO, am_tnn, am_brl, am_brg, am_bre, am_brn, am_brG, am_brL, am_st1, am_no2, am_st2, am_clr, and_self, true_and, and_true, true_or, or_true, List.length_cons, List.length_nil] <;> omega) ?_
      refine am_wp_pc (pc' := 35) rfl ?_
      refine am_wp_go rfl (by simp (disch := omega) only [s55 hw, g8, am_addE, am_subE, am_mulE, am_laddE, am_lsubE, am_upO, am_upS, am_stS, am_stO, am_tnn, am_brl, am_brg, am_bre, am_brn, am_brG, am_brL, am_st1, am_no2, am_st2, am_clr, and_self, true_and, and_true, true_or, or_true, List.length_cons, List.length_nil] <;> omega) ?_
      try simp (disch := omega) only [s55 hw, g8, am_addE, am_subE, am_mulE, am_laddE, am_lsubE, am_upO, am_upS, am_stS, am_stO, am_tnn, am_brl, am_brg, am_bre, am_brn, am_brG, am_brL, am_st1, am_no2, am_st2, am_clr]
      refine am_wp_ret rfl rfl ?_
      exact h0 _ rfl Y (frS_tr (frS_tr fJ x0) (frS_A y0)) y1 y2
theorem w_st16 {S : SNS} (hw : wd sh R) (hs : stC I S) (hl : S.2.2.length ≤ 40) (h : ∀ J, (∀ a, ¬ (16 ≤ a ∧ a ≤ 19) → J a = I a) → st16 J S → Q am_yv (m, sl, sh, J, R)) : am_wp (d) 81 0 [some (.inr (.inr (16))), some (.inr (.inr (50)))] [] (m, sl, sh, I, R) Q := by
  obtain ⟨s1, s2, s3⟩ := hs
  generalize hn : S.2.2.length = n at *
  refine am_wp_go rfl (by simp (disch := omega) only [s16 hw, r16_0 hw, s17 hw, r16_1 hw, s18 hw, r16_2 hw, s19 hw, s50 hw, r50_0 hw, s51 hw, r50_1 hw, s52 hw, r50_2 hw, s53 hw, s1, Int.reduceToNat, am_cpyO, am_addE, am_subE, am_mulE, am_laddE, am_lsubE, am_upO, am_upS, am_stS, am_stO, am_tnn, am_brl, am_brg, am_bre, am_brn, am_brG, am_brL, am_st1, am_no2, am_st2, am_clr, and_self, true_and, and_true, true_or, or_true, List.length_cons, List.length_nil] <;> omega) ?_
  try simp (disch := omega) only [s16 hw, r16_0 hw, s17 hw, r16_1 hw, s18 hw, r16_2 hw, s19 hw, s50 hw, r50_0 hw, s51 hw, r50_1 hw, s52 hw, r50_2 hw, s53 hw, s1, Int.reduceToNat, am_cpyO, am_addE, am_subE, am_mulE, am_laddE, am_lsubE, am_upO, am_upS, am_stS, am_stO, am_tnn, am_brl, am_brg, am_bre, am_brn, am_brG, am_brL, am_st1, am_no2, am_st2, am_clr]
  refine am_wp_ret rfl rfl ?_
  refine h _ (fun a ha => ?_) ⟨?_, fun k hk => ?_⟩
  · simp (disch := omega) only [am_cpyO, am_upO]
  · simp (disch := omega) only [am_cpyO, am_upO, am_upS, am_stO, am_stS]
    omega
  · rw [hn] at hk
    obtain ⟨t1, t2, t3⟩ := s3 k hk
    rw [← t1, ← t2, ← t3]
    refine ⟨?_, ?_, ?_⟩
    · simp (disch := omega) only [am_cpyO, am_upO, am_cpyS, if_pos, Nat.zero_add, Nat.sub_zero]
    · simp (disch := omega) only [am_cpyO, am_upO, am_cpyS, if_pos, Nat.zero_add, Nat.sub_zero]
    · simp (disch := omega) only [am_cpyO, am_upO, am_cpyS, if_pos, Nat.zero_add, Nat.sub_zero]
theorem c_sentence {q : Nat} {b : Nat → Nat} (hw : wd sh R) (hn : n ≤ 640) (h1 : I 55 1 = (n : Int)) (h57 : I 57 = ownR) (hb : ∀ k, k < n → I 56 k = sbyte (b k : Int) ∧ b k ≤ 255) (hm : nmC I NM q)
    (h0 : ∀ e, sTxt (lxJ b n 200) NM q = .inl e → ∀ J, txF I J (e.1 : Int) → Q (am_yi (-1 - (e.2 : Int))) (m, sl, sh, J, R))
    (hk : ∀ S, sTxt (lxJ b n 200) NM q = .inr S → ∀ J, snC I J S → Q (am_yi (S.2.1 : Int)) (m, sl, sh, J, R)) : am_wp (d + 29) 138 0 [some (.inr (.inr (4)))] [] (m, sl, sh, I, R) Q := by
  refine am_wp_go rfl (by simp (disch := omega) only [s4 hw, r4_6 hw, r4_5 hw, r4_0 hw, s5 hw, r5_0 hw, am_addE, am_subE, am_mulE, am_laddE, am_lsubE, am_upO, am_upS, am_stS, am_stO, am_tnn, am_brl, am_brg, am_bre, am_brn, am_brG, am_brL, am_st1, am_no2, am_st2, am_clr, and_self, true_and, and_true, true_or, or_true, List.length_cons, List.length_nil] <;> omega) ?_
  try simp (disch := omega) only [s4 hw, r4_6 hw, r4_5 hw, r4_0 hw, s5 hw, r5_0 hw, am_addE, am_subE, am_mulE, am_laddE, am_lsubE, am_upO, am_upS, am_stS, am_stO, am_tnn, am_brl, am_brg, am_bre, am_brn, am_brG, am_brL, am_st1, am_no2, am_st2, am_clr]
  refine am_wp_cc rfl rfl rfl (congrArg Prod.fst (s55 hw)) (w_open (lim := 200) (b := b) hw hn (by decide) h1 h57 hb (fun J N j0 j1 j2 => ⟨_, rfl, ?_⟩))
  have hm' : nmC J NM q := by
    unfold nmC at hm ⊢
    rw [j0 6 (by decide) (by decide) (by decide) (by decide), j0 12 (by decide) (by decide) (by decide) (by decide)]; exact hm
  refine am_wp_go rfl (by simp (disch := omega) only [s4 hw, r4_6 hw, r4_5 hw, r4_0 hw, s5 hw, r5_0 hw, am_addE, am_subE, am_mulE, am_laddE, am_lsubE, am_upO, am_upS, am_stS, am_stO, am_tnn, am_brl, am_brg, am_bre, am_brn, am_brG, am_brL, am_st1, am_no2, am_st2, am_clr, and_self, true_and, and_true, true_or, or_true, List.length_cons, List.length_nil] <;> omega) ?_
  try simp (disch := omega) only [s4 hw, r4_6 hw, r4_5 hw, r4_0 hw, s5 hw, r5_0 hw, am_addE, am_subE, am_mulE, am_laddE, am_lsubE, am_upO, am_upS, am_stS, am_stO, am_tnn, am_brl, am_brg, am_bre, am_brn, am_brG, am_brL, am_st1, am_no2, am_st2, am_clr]
  refine am_wp_cc rfl rfl rfl (congrArg Prod.fst (s50 hw)) (w_sRead hw lxJ_ok hm' j2 (fun e he K k0 k1 k2 => ⟨_, rfl, ?_⟩) (fun S' he K k0 k1 => ⟨_, rfl, ?_⟩))
  · have hp : e.2 ≤ 640 := by
      obtain ⟨i, hi⟩ := sTxt_pl he
      rw [hi]; exact lx_pl hn (by decide)
    refine am_wp_go rfl (by simp (disch := omega) only [s4 hw, r4_6 hw, r4_5 hw, r4_0 hw, s5 hw, r5_0 hw, am_addE, am_subE, am_mulE, am_laddE, am_lsubE, am_upO, am_upS, am_stS, am_stO, am_tnn, am_brl, am_brg, am_bre, am_brn, am_brG, am_brL, am_st1, am_no2, am_st2, am_clr, and_self, true_and, and_true, true_or, or_true, List.length_cons, List.length_nil] <;> omega) ?_
    refine am_wp_pc (pc' := 31) rfl ?_
    refine am_wp_go rfl (by simp (disch := omega) only [s4 hw, r4_6 hw, r4_5 hw, r4_0 hw, s5 hw, r5_0 hw, am_addE, am_subE, am_mulE, am_laddE, am_lsubE, am_upO, am_upS, am_stS, am_stO, am_tnn, am_brl, am_brg, am_bre, am_brn, am_brG, am_brL, am_st1, am_no2, am_st2, am_clr, and_self, true_and, and_true, true_or, or_true, List.length_cons, List.length_nil] <;> omega) ?_
    try simp (disch := omega) only [s4 hw, r4_6 hw, r4_5 hw, r4_0 hw, s5 hw, r5_0 hw, am_addE, am_subE, am_mulE, am_laddE, am_lsubE, am_upO, am_upS, am_stS, am_stO, am_tnn, am_brl, am_brg, am_bre, am_brn, am_brG, am_brL, am_st1, am_no2, am_st2, am_clr]
    refine am_wp_cc rfl rfl rfl (congrArg Prod.fst (s4 hw)) (w_tellFault (k := e.1) (p := e.2) hw k1 k2 (by omega) ⟨_, rfl, ?_⟩)
    refine am_wp_ret rfl rfl ?_
    refine h0 e he _ ⟨fun a ha => ?_, fun i hi => ?_, by rw [am_upS, am_stS rfl], ?_⟩
    · rw [am_upO (by omega), k0.1 a (by omega) (by omega), j0 a (by omega) (by omega) (by omega) (by omega)]
    · rw [am_upS, am_stO hi, k0.1 4 (by decide) (by decide), j0 4 (by decide) (by decide) (by decide) (by decide)]
    · rw [am_upO (by decide), k0.2, j1]
  · have hK := hk S' he
    have kk := sTxt_K he
    unfold sK at kk
    dsimp only [List.length_nil] at kk
    clear h0 hk
    refine am_wp_go rfl (by simp (disch := omega) only [s4 hw, r4_6 hw, r4_5 hw, r4_0 hw, s5 hw, r5_0 hw, am_addE, am_subE, am_mulE, am_laddE, am_lsubE, am_upO, am_upS, am_stS, am_stO, am_tnn, am_brl, am_brg, am_bre, am_brn, am_brG, am_brL, am_st1, am_no2, am_st2, am_clr, and_self, true_and, and_true, true_or, or_true, List.length_cons, List.length_nil] <;> omega) ?_
    refine am_wp_pc (pc' := 36) rfl ?_
    refine am_wp_go rfl (by simp (disch := omega) only [s4 hw, r4_0 hw, s5 hw, r5_2 hw, r4_5 hw, am_addE, am_subE, am_mulE, am_laddE, am_lsubE, am_upO, am_upS, am_stS, am_stO, am_tnn, am_brl, am_brg, am_bre, am_brn, am_brG, am_brL, am_st1, am_no2, am_st2, am_clr, and_self, true_and, and_true, true_or, or_true, List.length_cons, List.length_nil] <;> omega) ?_
    try simp (disch := omega) only [s4 hw, r4_0 hw, s5 hw, r5_2 hw, r4_5 hw, am_addE, am_subE, am_mulE, am_laddE, am_lsubE, am_upO, am_upS, am_stS, am_stO, am_tnn, am_brl, am_brg, am_bre, am_brn, am_brG, am_brL, am_st1, am_no2, am_st2, am_clr]
    have st1 : stC (am_up K 4 16 0) S' := by
      unfold stC at k1 ⊢
      rw [am_upO (by decide), am_upO (by decide), am_upO (by decide), am_upO (by decide)]; exact k1
    refine am_wp_cc rfl rfl rfl (congrArg Prod.fst (s16 hw)) (w_st16 hw st1 (by omega) (fun V v0 v1 => ⟨_, rfl, ?_⟩))
    have V50 : V 50 5 = (S'.2.1 : Int) := by rw [v0 50 (by decide), am_upO (by decide)]; exact k1.2.1
    refine am_wp_go rfl (by simp (disch := omega) only [s4 hw, r4_5 hw, s50 hw, V50, am_addE, am_subE, am_mulE, am_laddE, am_lsubE, am_upO, am_upS, am_stS, am_stO, am_tnn, am_brl, am_brg, am_bre, am_brn, am_brG, am_brL, am_st1, am_no2, am_st2, am_clr, and_self, true_and, and_true, true_or, or_true, List.length_cons, List.length_nil] <;> omega) ?_
    try simp (disch := omega) only [s4 hw, r4_5 hw, s50 hw, V50, am_addE, am_subE, am_mulE, am_laddE, am_lsubE, am_upO, am_upS, am_stS, am_stO, am_tnn, am_brl, am_brg, am_bre, am_brn, am_brG, am_brL, am_st1, am_no2, am_st2, am_clr]
    refine am_wp_ret rfl rfl ?_
    refine hK V ⟨fun a ha => ?_, fun i hi => ?_, ?_, ?_, v1⟩
    · rw [v0 a (by omega), am_upO (by omega), k0.1 a (by omega) (by omega), j0 a (by omega) (by omega) (by omega) (by omega)]
    · rw [v0 4 (by decide), am_upS, am_stO hi, k0.1 4 (by decide) (by decide), j0 4 (by decide) (by decide) (by decide) (by decide)]
    · rw [v0 4 (by decide), am_upS, am_stS rfl]
    · rw [v0 55 (by decide), am_upO (by decide), k0.2, j1]
end SP
