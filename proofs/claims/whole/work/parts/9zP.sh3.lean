/-! ONE by the class: isTooLate, search -/
def ozL (n P : Nat) (ρ : Int) (q b : Nat → Int) (E : Int) : Prop := (∃ s, s < n ∧ b s = -1 ∧ E ≤ oze n P ρ q b s + q s) ∨ ∃ s, s + 1 < n ∧ s % 2 = 0 ∧ b s = -1 ∧ b (s + 1) = -1 ∧ E ≤ oze n P ρ q b s + q s + ρ + q (s + 1) ∧ E ≤ oze n P ρ q b (s + 1) + q s + ρ + q (s + 1)
theorem ozL_lb {n P : Nat} {ρ : Int} {q b : Nat → Int} {E e : Int} {k : Nat} (hQ : ozQ n P ρ q) (hV : ozV n P ρ q b) (hO : ozO n b = k) (h : ozL n P ρ q b E) (hR : ozR n P ρ q k b e) : E ≤ e := by
  obtain ⟨c, c1, c2, c3, c4, c5⟩ := ozR_full hQ k b hV hO hR
  rw [c5]
  rcases h with ⟨s, hs, hb, hE⟩ | ⟨s, hs, s2, hb, hb2, hE, hE2⟩
  · have a := c4 s hs hb
    have d := ozM_ge (q := q) hs (c2 s hs)
    omega
  · have a := c4 s (by omega) hb
    have a2 := c4 (s + 1) hs hb2
    have d := ozM_ge (q := q) (show s < n by omega) (c2 s (by omega))
    have d2 := ozM_ge (q := q) hs (c2 (s + 1) hs)
    have p : ozP s = s + 1 := if_pos s2
    have v := c1.2.2 s (by omega) (c2 s (by omega))
    rw [p] at v
    have v := v (c2 (s + 1) hs)
    omega
section SH
variable {m sl : Nat} {sh : Nat → Nat × Nat} {I : Nat → Nat → Int} {R : Nat → Nat → Nat} {Q : am_R → am_M → Prop} {d n P k : Nat} {ρ : Int} {q b : Nat → Int}
theorem w_isTooLate {E : Int} (hw : wd sh R) (hQ : ozQ n P ρ q) (hX : ozX I n P ρ q b) (hM : ozM n q b ≤ 203) (hk : k < 8) (hT : ∀ s, s < n → b s = -1 → I 70 (k * 8 + s) = oze n P ρ q b s) (hE : I 64 12 = E) (h : ∀ v : Int, (v ≠ 0 → ozL n P ρ q b E) → (v = 0 → ∀ s, s < n → b s = -1 → oze n P ρ q b s + q s < E) → Q (am_yi v) (m, sl, sh, I, R)) : am_wp (d) 106 0 [some (.inr (.inr (64))), some (.inl ((k : Int))), none, none, none, none, none, none] [] (m, sl, sh, I, R) Q := by
  have n8 := hQ.1
  have n2 := hQ.2.1
  have r0 := hQ.2.2.2.2.1
  have r9 := hQ.2.2.2.2.2.1
  have h8 := hX.1
  have h10 := hX.2.2.1
  have kc : (k : Int) * 8 = ((k * 8 : Nat) : Int) := by omega
  have one : ∀ s, s < n → b s = -1 → E ≤ oze n P ρ q b s + q s → Q (am_yi 1) (m, sl, sh, I, R) := fun s hs hb hE => h 1 (fun _ => Or.inl ⟨s, hs, hb, hE⟩) (fun hc => absurd hc (by decide))
  have LP : ∀ j : Nat, j ≤ n / 2 → ∀ (z4 z5 z6 z7 : Option am_V), (∀ s, s < 2 * j → b s = -1 → oze n P ρ q b s + q s < E) → am_wp (d) 106 7 [some (.inr (.inr (64))), some (.inl ((k : Int))), some (.inl (((k * 8 : Nat) : Int))), some (.inl (((2 * j : Nat) : Int))), z4, z5, z6, z7] [] (m, sl, sh, I, R) Q := by
    refine am_lp (n / 2) (fun j hj ih z4 z5 z6 z7 hlt => ?_)
    refine am_wp_go rfl (by simp (disch := omega) only [s64 hw, h8, am_addE, am_subE, am_mulE, am_laddE, am_lsubE, am_upO, am_upS, am_stS, am_stO, am_tnn, am_brl, am_brg, am_bre, am_brn, am_brG, am_brL, am_st1, am_no2, am_st2, am_clr, and_self, true_and, and_true, true_or, or_true, List.length_cons, List.length_nil] <;> omega) ?_
    try simp (disch := omega) only [s64 hw, h8, am_addE, am_subE, am_mulE, am_laddE, am_lsubE, am_upO, am_upS, am_stS, am_stO, am_tnn, am_brl, am_brg, am_bre, am_brn, am_brG, am_brL, am_st1, am_no2, am_st2, am_clr]
    refine am_wp_br (fun b14 => ?_) (fun b14 => ?_)
    · refine am_wp_go rfl (by simp (disch := omega) only [s64 hw, h8, am_addE, am_subE, am_mulE, am_laddE, am_lsubE, am_upO, am_upS, am_stS, am_stO, am_tnn, am_brl, am_brg, am_bre, am_brn, am_brG, am_brL, am_st1, am_no2, am_st2, am_clr, and_self, true_and, and_true, true_or, or_true, List.length_cons, List.length_nil] <;> omega) ?_
      try simp (disch := omega) only [s64 hw, h8, am_addE, am_subE, am_mulE, am_laddE, am_lsubE, am_upO, am_upS, am_stS, am_stO, am_tnn, am_brl, am_brg, am_bre, am_brn, am_brG, am_brL, am_st1, am_no2, am_st2, am_clr]
      refine am_wp_ret rfl rfl ?_
      exact h 0 (fun hc => absurd rfl hc) (fun _ s hs hb => hlt s (by omega) hb)
    · have ih := ih (by omega)
      have t66 := hX.2.2.2.2.1 (2 * j) (by omega)
      have u66 := hX.2.2.2.2.1 (2 * j + 1) (by omega)
      have t72 := hX.2.2.2.1 (2 * j) (by omega)
      have u72 := hX.2.2.2.1 (2 * j + 1) (by omega)
      have tq := hQ.2.2.2.2.2.2 (2 * j) (by omega)
      have uq := hQ.2.2.2.2.2.2 (2 * j + 1) (by omega)
      have ts := oze_sp (b := b) hQ (show 2 * j < n by omega)
      have us := oze_sp (b := b) hQ (show 2 * j + 1 < n by omega)
      have ts1 := ts.1.1
      have us1 := us.1.1
      have ts2 := ts.2
      have us2 := us.2
      clear ts us
      have j2 : ((2 * (j + 1) : Nat) : Int) = ((2 * j : Nat) : Int) + 2 := by omega
      have nx : ∀ (z4 z5 z6 z7 : Option am_V), (b (2 * j) = -1 → oze n P ρ q b (2 * j) + q (2 * j) < E) → (b (2 * j + 1) = -1 → oze n P ρ q b (2 * j + 1) + q (2 * j + 1) < E) → am_wp (d) 106 7 [some (.inr (.inr (64))), some (.inl ((k : Int))), some (.inl (((k * 8 : Nat) : Int))), some (.inl ((((2 * j : Nat) : Int) + 2))), z4, z5, z6, z7] [] (m, sl, sh, I, R) Q := by
        intro z4 z5 z6 z7 h1 h2
        rw [← j2]
        refine ih z4 z5 z6 z7 (fun s hs hb => ?_)
        by_cases e : s = 2 * j
        · rw [e] at hb ⊢; exact h1 hb
        · by_cases e2 : s = 2 * j + 1
          · rw [e2] at hb ⊢; exact h2 hb
          · exact hlt s (by omega) hb
      clear ih
      refine am_wp_go rfl (by simp (disch := omega) only [s64 hw, r64_1 hw, s66 hw, r64_5 hw, s70 hw, r64_7 hw, s72 hw, t66, u66, t72, u72, hE, h10, am_tnA, Int.reduceToNat, am_addE, am_subE, am_mulE, am_laddE, am_lsubE, am_upO, am_upS, am_stS, am_stO, am_tnn, am_brl, am_brg, am_bre, am_brn, am_brG, am_brL, am_st1, am_no2, am_st2, am_clr, and_self, true_and, and_true, true_or, or_true, List.length_cons, List.length_nil] <;> omega) ?_
      try simp (disch := omega) only [s64 hw, r64_1 hw, s66 hw, r64_5 hw, s70 hw, r64_7 hw, s72 hw, t66, u66, t72, u72, hE, h10, am_tnA, Int.reduceToNat, am_addE, am_subE, am_mulE, am_laddE, am_lsubE, am_upO, am_upS, am_stS, am_stO, am_tnn, am_brl, am_brg, am_bre, am_brn, am_brG, am_brL, am_st1, am_no2, am_st2, am_clr]
      refine am_wp_br (fun b29 => ?_) (fun b29 => ?_)
      · refine am_wp_go rfl (by simp (disch := omega) only [s64 hw, r64_1 hw, s66 hw, r64_5 hw, s70 hw, r64_7 hw, s72 hw, t66, u66, t72, u72, hE, h10, am_tnA, Int.reduceToNat, am_addE, am_subE, am_mulE, am_laddE, am_lsubE, am_upO, am_upS, am_stS, am_stO, am_tnn, am_brl, am_brg, am_bre, am_brn, am_brG, am_brL, am_st1, am_no2, am_st2, am_clr, and_self, true_and, and_true, true_or, or_true, List.length_cons, List.length_nil] <;> omega) ?_
        try simp (disch := omega) only [s64 hw, r64_1 hw, s66 hw, r64_5 hw, s70 hw, r64_7 hw, s72 hw, t66, u66, t72, u72, hE, h10, am_tnA, Int.reduceToNat, am_addE, am_subE, am_mulE, am_laddE, am_lsubE, am_upO, am_upS, am_stS, am_stO, am_tnn, am_brl, am_brg, am_bre, am_brn, am_brG, am_brL, am_st1, am_no2, am_st2, am_clr]
        refine am_wp_br (fun b47 => ?_) (fun b47 => ?_)
        · refine am_wp_go rfl (by simp (disch := omega) only [s64 hw, r64_1 hw, s66 hw, r64_5 hw, s70 hw, r64_7 hw, s72 hw, t66, u66, t72, u72, hE, h10, am_tnA, Int.reduceToNat, am_addE, am_subE, am_mulE, am_laddE, am_lsubE, am_upO, am_upS, am_stS, am_stO, am_tnn, am_brl, am_brg, am_bre, am_brn, am_brG, am_brL, am_st1, am_no2, am_st2, am_clr, and_self, true_and, and_true, true_or, or_true, List.length_cons, List.length_nil] <;> omega) ?_
          refine am_wp_pc (pc' := 84) rfl ?_
          refine am_wp_go rfl (by simp (disch := omega) only [s64 hw, r64_1 hw, s66 hw, r64_5 hw, s70 hw, r64_7 hw, s72 hw, t66, u66, t72, u72, hE, h10, am_tnA, Int.reduceToNat, am_addE, am_subE, am_mulE, am_laddE, am_lsubE, am_upO, am_upS, am_stS, am_stO, am_tnn, am_brl, am_brg, am_bre, am_brn, am_brG, am_brL, am_st1, am_no2, am_st2, am_clr, and_self, true_and, and_true, true_or, or_true, List.length_cons, List.length_nil] <;> omega) ?_
          refine am_wp_pc (pc' := 115) rfl ?_
          refine am_wp_go rfl (by simp (disch := omega) only [s64 hw, r64_1 hw, s66 hw, r64_5 hw, s70 hw, r64_7 hw, s72 hw, t66, u66, t72, u72, hE, h10, am_tnA, Int.reduceToNat, am_addE, am_subE, am_mulE, am_laddE, am_lsubE, am_upO, am_upS, am_stS, am_stO, am_tnn, am_brl, am_brg, am_bre, am_brn, am_brG, am_brL, am_st1, am_no2, am_st2, am_clr, and_self, true_and, and_true, true_or, or_true, List.length_cons, List.length_nil] <;> omega) ?_
          refine am_wp_pc (pc' := 178) rfl ?_
          refine am_wp_go rfl (by simp (disch := omega) only [s64 hw, r64_1 hw, s66 hw, r64_5 hw, s70 hw, r64_7 hw, s72 hw, t66, u66, t72, u72, hE, h10, am_tnA, Int.reduceToNat, am_addE, am_subE, am_mulE, am_laddE, am_lsubE, am_upO, am_upS, am_stS, am_stO, am_tnn, am_brl, am_brg, am_bre, am_brn, am_brG, am_brL, am_st1, am_no2, am_st2, am_clr, and_self, true_and, and_true, true_or, or_true, List.length_cons, List.length_nil] <;> omega) ?_
          try simp (disch := omega) only [s64 hw, r64_1 hw, s66 hw, r64_5 hw, s70 hw, r64_7 hw, s72 hw, t66, u66, t72, u72, hE, h10, am_tnA, Int.reduceToNat, am_addE, am_subE, am_mulE, am_laddE, am_lsubE, am_upO, am_upS, am_stS, am_stO, am_tnn, am_brl, am_brg, am_bre, am_brn, am_brG, am_brL, am_st1, am_no2, am_st2, am_clr]
          exact am_wp_ls (nx _ _ _ _ (fun hc => absurd hc b29) (fun hc => absurd hc b47)) rfl
        · have ub : b (2 * j + 1) = -1 := by omega
          have u70 := hT (2 * j + 1) (by omega) ub
          refine am_wp_go rfl (by simp (disch := omega) only [s64 hw, r64_1 hw, s66 hw, r64_5 hw, s70 hw, r64_7 hw, s72 hw, t66, u66, t72, u72, hE, h10, am_tnA, Int.reduceToNat, am_addE, am_subE, am_mulE, am_laddE, am_lsubE, am_upO, am_upS, am_stS, am_stO, am_tnn, am_brl, am_brg, am_bre, am_brn, am_brG, am_brL, am_st1, am_no2, am_st2, am_clr, and_self, true_and, and_true, true_or, or_true, List.length_cons, List.length_nil] <;> omega) ?_
          refine am_wp_pc (pc' := 84) rfl ?_
          refine am_wp_go rfl (by simp (disch := omega) only [s64 hw, r64_1 hw, s66 hw, r64_5 hw, s70 hw, r64_7 hw, s72 hw, t66, u66, t72, u72, hE, h10, am_tnA, Int.reduceToNat, am_addE, am_subE, am_mulE, am_laddE, am_lsubE, am_upO, am_upS, am_stS, am_stO, am_tnn, am_brl, am_brg, am_bre, am_brn, am_brG, am_brL, am_st1, am_no2, am_st2, am_clr, and_self, true_and, and_true, true_or, or_true, List.length_cons, List.length_nil] <;> omega) ?_
          refine am_wp_pc (pc' := 89) rfl ?_
          refine am_wp_go rfl (by simp (disch := omega) only [s64 hw, r64_1 hw, s66 hw, r64_5 hw, s70 hw, r64_7 hw, s72 hw, t66, u66, t72, u72, hE, h10, u70, am_tnA, Int.reduceToNat, am_addE, am_subE, am_mulE, am_laddE, am_lsubE, am_upO, am_upS, am_stS, am_stO, am_tnn, am_brl, am_brg, am_bre, am_brn, am_brG, am_brL, am_st1, am_no2, am_st2, am_clr, and_self, true_and, and_true, true_or, or_true, List.length_cons, List.length_nil] <;> omega) ?_
          try simp (disch := omega) only [s64 hw, r64_1 hw, s66 hw, r64_5 hw, s70 hw, r64_7 hw, s72 hw, t66, u66, t72, u72, hE, h10, u70, am_tnA, Int.reduceToNat, am_addE, am_subE, am_mulE, am_laddE, am_lsubE, am_upO, am_upS, am_stS, am_stO, am_tnn, am_brl, am_brg, am_bre, am_brn, am_brG, am_brL, am_st1, am_no2, am_st2, am_clr]
          refine am_wp_br (fun b110 => ?_) (fun b110 => ?_)
          · refine am_wp_go rfl (by simp (disch := omega) only [s64 hw, r64_1 hw, s66 hw, r64_5 hw, s70 hw, r64_7 hw, s72 hw, t66, u66, t72, u72, hE, h10, u70, am_tnA, Int.reduceToNat, am_addE, am_subE, am_mulE, am_laddE, am_lsubE, am_upO, am_upS, am_stS, am_stO, am_tnn, am_brl, am_brg, am_bre, am_brn, am_brG, am_brL, am_st1, am_no2, am_st2, am_clr, and_self, true_and, and_true, true_or, or_true, List.length_cons, List.length_nil] <;> omega) ?_
            refine am_wp_pc (pc' := 178) rfl ?_
            refine am_wp_go rfl (by simp (disch := omega) only [s64 hw, r64_1 hw, s66 hw, r64_5 hw, s70 hw, r64_7 hw, s72 hw, t66, u66, t72, u72, hE, h10, u70, am_tnA, Int.reduceToNat, am_addE, am_subE, am_mulE, am_laddE, am_lsubE, am_upO, am_upS, am_stS, am_stO, am_tnn, am_brl, am_brg, am_bre, am_brn, am_brG, am_brL, am_st1, am_no2, am_st2, am_clr, and_self, true_and, and_true, true_or, or_true, List.length_cons, List.length_nil] <;> omega) ?_
            try simp (disch := omega) only [s64 hw, r64_1 hw, s66 hw, r64_5 hw, s70 hw, r64_7 hw, s72 hw, t66, u66, t72, u72, hE, h10, u70, am_tnA, Int.reduceToNat, am_addE, am_subE, am_mulE, am_laddE, am_lsubE, am_upO, am_upS, am_stS, am_stO, am_tnn, am_brl, am_brg, am_bre, am_brn, am_brG, am_brL, am_st1, am_no2, am_st2, am_clr]
            exact am_wp_ls (nx _ _ _ _ (fun hc => absurd hc b29) (fun _ => by omega)) rfl
          · refine am_wp_go rfl (by simp (disch := omega) only [s64 hw, r64_1 hw, s66 hw, r64_5 hw, s70 hw, r64_7 hw, s72 hw, t66, u66, t72, u72, hE, h10, u70, am_tnA, Int.reduceToNat, am_addE, am_subE, am_mulE, am_laddE, am_lsubE, am_upO, am_upS, am_stS, am_stO, am_tnn, am_brl, am_brg, am_bre, am_brn, am_brG, am_brL, am_st1, am_no2, am_st2, am_clr, and_self, true_and, and_true, true_or, or_true, List.length_cons, List.length_nil] <;> omega) ?_
            try simp (disch := omega) only [s64 hw, r64_1 hw, s66 hw, r64_5 hw, s70 hw, r64_7 hw, s72 hw, t66, u66, t72, u72, hE, h10, u70, am_tnA, Int.reduceToNat, am_addE, am_subE, am_mulE, am_laddE, am_lsubE, am_upO, am_upS, am_stS, am_stO, am_tnn, am_brl, am_brg, am_bre, am_brn, am_brG, am_brL, am_st1, am_no2, am_st2, am_clr]
            refine am_wp_ret rfl rfl ?_
            exact one (2 * j + 1) (by omega) ub (by omega)
      · have tb : b (2 * j) = -1 := by omega
        have t70 := hT (2 * j) (by omega) tb
        refine am_wp_go rfl (by simp (disch := omega) only [s64 hw, r64_1 hw, s66 hw, r64_5 hw, s70 hw, r64_7 hw, s72 hw, t66, u66, t72, u72, hE, h10, t70, am_tnA, Int.reduceToNat, am_addE, am_subE, am_mulE, am_laddE, am_lsubE, am_upO, am_upS, am_stS, am_stO, am_tnn, am_brl, am_brg, am_bre, am_brn, am_brG, am_brL, am_st1, am_no2, am_st2, am_clr, and_self, true_and, and_true, true_or, or_true, List.length_cons, List.length_nil] <;> omega) ?_
        try simp (disch := omega) only [s64 hw, r64_1 hw, s66 hw, r64_5 hw, s70 hw, r64_7 hw, s72 hw, t66, u66, t72, u72, hE, h10, t70, am_tnA, Int.reduceToNat, am_addE, am_subE, am_mulE, am_laddE, am_lsubE, am_upO, am_upS, am_stS, am_stO, am_tnn, am_brl, am_brg, am_bre, am_brn, am_brG, am_brL, am_st1, am_no2, am_st2, am_clr]
        refine am_wp_br (fun b47 => ?_) (fun b47 => ?_)
        · refine am_wp_go rfl (by simp (disch := omega) only [s64 hw, r64_1 hw, s66 hw, r64_5 hw, s70 hw, r64_7 hw, s72 hw, t66, u66, t72, u72, hE, h10, t70, am_tnA, Int.reduceToNat, am_addE, am_subE, am_mulE, am_laddE, am_lsubE, am_upO, am_upS, am_stS, am_stO, am_tnn, am_brl, am_brg, am_bre, am_brn, am_brG, am_brL, am_st1, am_no2, am_st2, am_clr, and_self, true_and, and_true, true_or, or_true, List.length_cons, List.length_nil] <;> omega) ?_
          refine am_wp_pc (pc' := 62) rfl ?_
          refine am_wp_go rfl (by simp (disch := omega) only [s64 hw, r64_1 hw, s66 hw, r64_5 hw, s70 hw, r64_7 hw, s72 hw, t66, u66, t72, u72, hE, h10, t70, am_tnA, Int.reduceToNat, am_addE, am_subE, am_mulE, am_laddE, am_lsubE, am_upO, am_upS, am_stS, am_stO, am_tnn, am_brl, am_brg, am_bre, am_brn, am_brG, am_brL, am_st1, am_no2, am_st2, am_clr, and_self, true_and, and_true, true_or, or_true, List.length_cons, List.length_nil] <;> omega) ?_
          try simp (disch := omega) only [s64 hw, r64_1 hw, s66 hw, r64_5 hw, s70 hw, r64_7 hw, s72 hw, t66, u66, t72, u72, hE, h10, t70, am_tnA, Int.reduceToNat, am_addE, am_subE, am_mulE, am_laddE, am_lsubE, am_upO, am_upS, am_stS, am_stO, am_tnn, am_brl, am_brg, am_bre, am_brn, am_brG, am_brL, am_st1, am_no2, am_st2, am_clr]
          refine am_wp_br (fun b81 => ?_) (fun b81 => ?_)
          · refine am_wp_go rfl (by simp (disch := omega) only [s64 hw, r64_1 hw, s66 hw, r64_5 hw, s70 hw, r64_7 hw, s72 hw, t66, u66, t72, u72, hE, h10, t70, am_tnA, Int.reduceToNat, am_addE, am_subE, am_mulE, am_laddE, am_lsubE, am_upO, am_upS, am_stS, am_stO, am_tnn, am_brl, am_brg, am_bre, am_brn, am_brG, am_brL, am_st1, am_no2, am_st2, am_clr, and_self, true_and, and_true, true_or, or_true, List.length_cons, List.length_nil] <;> omega) ?_
            try simp (disch := omega) only [s64 hw, r64_1 hw, s66 hw, r64_5 hw, s70 hw, r64_7 hw, s72 hw, t66, u66, t72, u72, hE, h10, t70, am_tnA, Int.reduceToNat, am_addE, am_subE, am_mulE, am_laddE, am_lsubE, am_upO, am_upS, am_stS, am_stO, am_tnn, am_brl, am_brg, am_bre, am_brn, am_brG, am_brL, am_st1, am_no2, am_st2, am_clr]
            refine am_wp_ret rfl rfl ?_
            exact one (2 * j) (by omega) tb (by omega)
          · refine am_wp_go rfl (by simp (disch := omega) only [s64 hw, r64_1 hw, s66 hw, r64_5 hw, s70 hw, r64_7 hw, s72 hw, t66, u66, t72, u72, hE, h10, t70, am_tnA, Int.reduceToNat, am_addE, am_subE, am_mulE, am_laddE, am_lsubE, am_upO, am_upS, am_stS, am_stO, am_tnn, am_brl, am_brg, am_bre, am_brn, am_brG, am_brL, am_st1, am_no2, am_st2, am_clr, and_self, true_and, and_true, true_or, or_true, List.length_cons, List.length_nil] <;> omega) ?_
            refine am_wp_pc (pc' := 115) rfl ?_
            refine am_wp_go rfl (by simp (disch := omega) only [s64 hw, r64_1 hw, s66 hw, r64_5 hw, s70 hw, r64_7 hw, s72 hw, t66, u66, t72, u72, hE, h10, t70, am_tnA, Int.reduceToNat, am_addE, am_subE, am_mulE, am_laddE, am_lsubE, am_upO, am_upS, am_stS, am_stO, am_tnn, am_brl, am_brg, am_bre, am_brn, am_brG, am_brL, am_st1, am_no2, am_st2, am_clr, and_self, true_and, and_true, true_or, or_true, List.length_cons, List.length_nil] <;> omega) ?_
            refine am_wp_pc (pc' := 142) rfl ?_
            refine am_wp_go rfl (by simp (disch := omega) only [s64 hw, r64_1 hw, s66 hw, r64_5 hw, s70 hw, r64_7 hw, s72 hw, t66, u66, t72, u72, hE, h10, t70, am_tnA, Int.reduceToNat, am_addE, am_subE, am_mulE, am_laddE, am_lsubE, am_upO, am_upS, am_stS, am_stO, am_tnn, am_brl, am_brg, am_bre, am_brn, am_brG, am_brL, am_st1, am_no2, am_st2, am_clr, and_self, true_and, and_true, true_or, or_true, List.length_cons, List.length_nil] <;> omega) ?_
            refine am_wp_pc (pc' := 178) rfl ?_
            refine am_wp_go rfl (by simp (disch := omega) only [s64 hw, r64_1 hw, s66 hw, r64_5 hw, s70 hw, r64_7 hw, s72 hw, t66, u66, t72, u72, hE, h10, t70, am_tnA, Int.reduceToNat, am_addE, am_subE, am_mulE, am_laddE, am_lsubE, am_upO, am_upS, am_stS, am_stO, am_tnn, am_brl, am_brg, am_bre, am_brn, am_brG, am_brL, am_st1, am_no2, am_st2, am_clr, and_self, true_and, and_true, true_or, or_true, List.length_cons, List.length_nil] <;> omega) ?_
            try simp (disch := omega) only [s64 hw, r64_1 hw, s66 hw, r64_5 hw, s70 hw, r64_7 hw, s72 hw, t66, u66, t72, u72, hE, h10, t70, am_tnA, Int.reduceToNat, am_addE, am_subE, am_mulE, am_laddE, am_lsubE, am_upO, am_upS, am_stS, am_stO, am_tnn, am_brl, am_brg, am_bre, am_brn, am_brG, am_brL, am_st1, am_no2, am_st2, am_clr]
            exact am_wp_ls (nx _ _ _ _ (fun _ => by omega) (fun hc => absurd hc b47)) rfl
        · have ub : b (2 * j + 1) = -1 := by omega
          have u70 := hT (2 * j + 1) (by omega) ub
          have mm : 0 ≤ (if oze n P ρ q b (2 * j + 1) < oze n P ρ q b (2 * j) then oze n P ρ q b (2 * j + 1) else oze n P ρ q b (2 * j)) ∧ (if oze n P ρ q b (2 * j + 1) < oze n P ρ q b (2 * j) then oze n P ρ q b (2 * j + 1) else oze n P ρ q b (2 * j)) ≤ oze n P ρ q b (2 * j) ∧ (if oze n P ρ q b (2 * j + 1) < oze n P ρ q b (2 * j) then oze n P ρ q b (2 * j + 1) else oze n P ρ q b (2 * j)) ≤ oze n P ρ q b (2 * j + 1) := by
            split <;> omega
          refine am_wp_go rfl (by simp (disch := omega) only [s64 hw, r64_1 hw, s66 hw, r64_5 hw, s70 hw, r64_7 hw, s72 hw, t66, u66, t72, u72, hE, h10, t70, u70, am_tnA, Int.reduceToNat, am_addE, am_subE, am_mulE, am_laddE, am_lsubE, am_upO, am_upS, am_stS, am_stO, am_tnn, am_brl, am_brg, am_bre, am_brn, am_brG, am_brL, am_st1, am_no2, am_st2, am_clr, and_self, true_and, and_true, true_or, or_true, List.length_cons, List.length_nil] <;> omega) ?_
          refine am_wp_pc (pc' := 62) rfl ?_
          refine am_wp_go rfl (by simp (disch := omega) only [s64 hw, r64_1 hw, s66 hw, r64_5 hw, s70 hw, r64_7 hw, s72 hw, t66, u66, t72, u72, hE, h10, t70, u70, am_tnA, Int.reduceToNat, am_addE, am_subE, am_mulE, am_laddE, am_lsubE, am_upO, am_upS, am_stS, am_stO, am_tnn, am_brl, am_brg, am_bre, am_brn, am_brG, am_brL, am_st1, am_no2, am_st2, am_clr, and_self, true_and, and_true, true_or, or_true, List.length_cons, List.length_nil] <;> omega) ?_
          try simp (disch := omega) only [s64 hw, r64_1 hw, s66 hw, r64_5 hw, s70 hw, r64_7 hw, s72 hw, t66, u66, t72, u72, hE, h10, t70, u70, am_tnA, Int.reduceToNat, am_addE, am_subE, am_mulE, am_laddE, am_lsubE, am_upO, am_upS, am_stS, am_stO, am_tnn, am_brl, am_brg, am_bre, am_brn, am_brG, am_brL, am_st1, am_no2, am_st2, am_clr]
          refine am_wp_br (fun b81 => ?_) (fun b81 => ?_)
          · refine am_wp_go rfl (by simp (disch := omega) only [s64 hw, r64_1 hw, s66 hw, r64_5 hw, s70 hw, r64_7 hw, s72 hw, t66, u66, t72, u72, hE, h10, t70, u70, am_tnA, Int.reduceToNat, am_addE, am_subE, am_mulE, am_laddE, am_lsubE, am_upO, am_upS, am_stS, am_stO, am_tnn, am_brl, am_brg, am_bre, am_brn, am_brG, am_brL, am_st1, am_no2, am_st2, am_clr, and_self, true_and, and_true, true_or, or_true, List.length_cons, List.length_nil] <;> omega) ?_
            try simp (disch := omega) only [s64 hw, r64_1 hw, s66 hw, r64_5 hw, s70 hw, r64_7 hw, s72 hw, t66, u66, t72, u72, hE, h10, t70, u70, am_tnA, Int.reduceToNat, am_addE, am_subE, am_mulE, am_laddE, am_lsubE, am_upO, am_upS, am_stS, am_stO, am_tnn, am_brl, am_brg, am_bre, am_brn, am_brG, am_brL, am_st1, am_no2, am_st2, am_clr]
            refine am_wp_ret rfl rfl ?_
            exact one (2 * j) (by omega) tb (by omega)
          · refine am_wp_go rfl (by simp (disch := omega) only [s64 hw, r64_1 hw, s66 hw, r64_5 hw, s70 hw, r64_7 hw, s72 hw, t66, u66, t72, u72, hE, h10, t70, u70, am_tnA, Int.reduceToNat, am_addE, am_subE, am_mulE, am_laddE, am_lsubE, am_upO, am_upS, am_stS, am_stO, am_tnn, am_brl, am_brg, am_bre, am_brn, am_brG, am_brL, am_st1, am_no2, am_st2, am_clr, and_self, true_and, and_true, true_or, or_true, List.length_cons, List.length_nil] <;> omega) ?_
            refine am_wp_pc (pc' := 89) rfl ?_
            refine am_wp_go rfl (by simp (disch := omega) only [s64 hw, r64_1 hw, s66 hw, r64_5 hw, s70 hw, r64_7 hw, s72 hw, t66, u66, t72, u72, hE, h10, t70, u70, am_tnA, Int.reduceToNat, am_addE, am_subE, am_mulE, am_laddE, am_lsubE, am_upO, am_upS, am_stS, am_stO, am_tnn, am_brl, am_brg, am_bre, am_brn, am_brG, am_brL, am_st1, am_no2, am_st2, am_clr, and_self, true_and, and_true, true_or, or_true, List.length_cons, List.length_nil] <;> omega) ?_
            try simp (disch := omega) only [s64 hw, r64_1 hw, s66 hw, r64_5 hw, s70 hw, r64_7 hw, s72 hw, t66, u66, t72, u72, hE, h10, t70, u70, am_tnA, Int.reduceToNat, am_addE, am_subE, am_mulE, am_laddE, am_lsubE, am_upO, am_upS, am_stS, am_stO, am_tnn, am_brl, am_brg, am_bre, am_brn, am_brG, am_brL, am_st1, am_no2, am_st2, am_clr]
            refine am_wp_br (fun b110 => ?_) (fun b110 => ?_)
            · refine am_wp_go rfl (by simp (disch := omega) only [s64 hw, r64_1 hw, s66 hw, r64_5 hw, s70 hw, r64_7 hw, s72 hw, t66, u66, t72, u72, hE, h10, t70, u70, am_tnA, Int.reduceToNat, am_addE, am_subE, am_mulE, am_laddE, am_lsubE, am_upO, am_upS, am_stS, am_stO, am_tnn, am_brl, am_brg, am_bre, am_brn, am_brG, am_brL, am_st1, am_no2, am_st2, am_clr, and_self, true_and, and_true, true_or, or_true, List.length_cons, List.length_nil] <;> omega) ?_
              refine am_wp_pc (pc' := 142) rfl ?_
              refine am_wp_go rfl (by simp (disch := omega) only [s64 hw, r64_1 hw, s66 hw, r64_5 hw, s70 hw, r64_7 hw, s72 hw, t66, u66, t72, u72, hE, h10, t70, u70, am_tnA, Int.reduceToNat, am_addE, am_subE, am_mulE, am_laddE, am_lsubE, am_upO, am_upS, am_stS, am_stO, am_tnn, am_brl, am_brg, am_bre, am_brn, am_brG, am_brL, am_st1, am_no2, am_st2, am_clr, and_self, true_and, and_true, true_or, or_true, List.length_cons, List.length_nil] <;> omega) ?_
              refine am_wp_pc (pc' := 147) rfl ?_
              refine am_wp_go rfl (by simp (disch := omega) only [s64 hw, r64_1 hw, s66 hw, r64_5 hw, s70 hw, r64_7 hw, s72 hw, t66, u66, t72, u72, hE, h10, t70, u70, am_tnA, Int.reduceToNat, am_addE, am_subE, am_mulE, am_laddE, am_lsubE, am_upO, am_upS, am_stS, am_stO, am_tnn, am_brl, am_brg, am_bre, am_brn, am_brG, am_brL, am_st1, am_no2, am_st2, am_clr, and_self, true_and, and_true, true_or, or_true, List.length_cons, List.length_nil] <;> omega) ?_
              try simp (disch := omega) only [s64 hw, r64_1 hw, s66 hw, r64_5 hw, s70 hw, r64_7 hw, s72 hw, t66, u66, t72, u72, hE, h10, t70, u70, am_tnA, Int.reduceToNat, am_addE, am_subE, am_mulE, am_laddE, am_lsubE, am_upO, am_upS, am_stS, am_stO, am_tnn, am_brl, am_brg, am_bre, am_brn, am_brG, am_brL, am_st1, am_no2, am_st2, am_clr]
              refine am_wp_br (fun b173 => ?_) (fun b173 => ?_)
              · refine am_wp_go rfl (by simp (disch := omega) only [s64 hw, r64_1 hw, s66 hw, r64_5 hw, s70 hw, r64_7 hw, s72 hw, t66, u66, t72, u72, hE, h10, t70, u70, am_tnA, Int.reduceToNat, am_addE, am_subE, am_mulE, am_laddE, am_lsubE, am_upO, am_upS, am_stS, am_stO, am_tnn, am_brl, am_brg, am_bre, am_brn, am_brG, am_brL, am_st1, am_no2, am_st2, am_clr, and_self, true_and, and_true, true_or, or_true, List.length_cons, List.length_nil] <;> omega) ?_
                try simp (disch := omega) only [s64 hw, r64_1 hw, s66 hw, r64_5 hw, s70 hw, r64_7 hw, s72 hw, t66, u66, t72, u72, hE, h10, t70, u70, am_tnA, Int.reduceToNat, am_addE, am_subE, am_mulE, am_laddE, am_lsubE, am_upO, am_upS, am_stS, am_stO, am_tnn, am_brl, am_brg, am_bre, am_brn, am_brG, am_brL, am_st1, am_no2, am_st2, am_clr]
                exact am_wp_ls (nx _ _ _ _ (fun _ => by omega) (fun _ => by omega)) rfl
              · refine am_wp_go rfl (by simp (disch := omega) only [s64 hw, r64_1 hw, s66 hw, r64_5 hw, s70 hw, r64_7 hw, s72 hw, t66, u66, t72, u72, hE, h10, t70, u70, am_tnA, Int.reduceToNat, am_addE, am_subE, am_mulE, am_laddE, am_lsubE, am_upO, am_upS, am_stS, am_stO, am_tnn, am_brl, am_brg, am_bre, am_brn, am_brG, am_brL, am_st1, am_no2, am_st2, am_clr, and_self, true_and, and_true, true_or, or_true, List.length_cons, List.length_nil] <;> omega) ?_
                try simp (disch := omega) only [s64 hw, r64_1 hw, s66 hw, r64_5 hw, s70 hw, r64_7 hw, s72 hw, t66, u66, t72, u72, hE, h10, t70, u70, am_tnA, Int.reduceToNat, am_addE, am_subE, am_mulE, am_laddE, am_lsubE, am_upO, am_upS, am_stS, am_stO, am_tnn, am_brl, am_brg, am_bre, am_brn, am_brG, am_brL, am_st1, am_no2, am_st2, am_clr]
                refine am_wp_ret rfl rfl ?_
                exact h 1 (fun _ => Or.inr ⟨2 * j, by omega, by omega, tb, ub, by omega, by omega⟩) (fun hc => absurd hc (by decide))
            · refine am_wp_go rfl (by simp (disch := omega) only [s64 hw, r64_1 hw, s66 hw, r64_5 hw, s70 hw, r64_7 hw, s72 hw, t66, u66, t72, u72, hE, h10, t70, u70, am_tnA, Int.reduceToNat, am_addE, am_subE, am_mulE, am_laddE, am_lsubE, am_upO, am_upS, am_stS, am_stO, am_tnn, am_brl, am_brg, am_bre, am_brn, am_brG, am_brL, am_st1, am_no2, am_st2, am_clr, and_self, true_and, and_true, true_or, or_true, List.length_cons, List.length_nil] <;> omega) ?_
              try simp (disch := omega) only [s64 hw, r64_1 hw, s66 hw, r64_5 hw, s70 hw, r64_7 hw, s72 hw, t66, u66, t72, u72, hE, h10, t70, u70, am_tnA, Int.reduceToNat, am_addE, am_subE, am_mulE, am_laddE, am_lsubE, am_upO, am_upS, am_stS, am_stO, am_tnn, am_brl, am_brg, am_bre, am_brn, am_brG, am_brL, am_st1, am_no2, am_st2, am_clr]
              refine am_wp_ret rfl rfl ?_
              exact one (2 * j + 1) (by omega) ub (by omega)
  refine am_wp_go rfl (by simp (disch := omega) only [kc, am_addE, am_subE, am_mulE, am_laddE, am_lsubE, am_upO, am_upS, am_stS, am_stO, am_tnn, am_brl, am_brg, am_bre, am_brn, am_brG, am_brL, am_st1, am_no2, am_st2, am_clr, and_self, true_and, and_true, true_or, or_true, List.length_cons, List.length_nil] <;> omega) ?_
  try simp (disch := omega) only [kc, am_addE, am_subE, am_mulE, am_laddE, am_lsubE, am_upO, am_upS, am_stS, am_stO, am_tnn, am_brl, am_brg, am_bre, am_brn, am_brG, am_brL, am_st1, am_no2, am_st2, am_clr]
  exact am_wp_ls (LP 0 (Nat.zero_le _) _ _ _ _ (fun s hs => absurd hs (Nat.not_lt_zero s))) rfl
end SH
