/-! TOKENS: the reference's next() -/
section LEX
variable {m sl : Nat} {sh : Nat → Nat × Nat} {I : Nat → Nat → Int} {R : Nat → Nat → Nat} {Q : am_R → am_M → Prop} {d : Nat} {b : Nat → Nat} {n lim : Nat}
set_option maxRecDepth 8000 in
set_option maxHeartbeats 8000000 in
theorem w_M_nextA {f : Nat} (hw : wd sh R) (hn : n ≤ 640) (h3 : I 124 3 = (n : Int)) (hb : ∀ k, k < n → I 125 k = (b k : Int) ∧ b k ≤ 255) (hf : f < n) (ha : lxA (b f) = true) (h : ∀ J, fr6 I J → J 124 5 = (lxE b n f : Int) → rTk J (lxK b f (lxE b n f - f), f, lxW b f (lxE b n f - f), lxN b f (lxE b n f - f)) → Q am_yv (m, sl, sh, J, R)) (z2 z3 z4 : Option am_V) (V0 : Nat → Nat → Int) (f0 : fr6 I V0) (f5 : V0 124 5 = (f : Int)) (f6 : V0 124 6 = (f : Int)) : am_wp (d + 1) 205 198 [some (.inr (.inr (124))), some (.inl ((b f : Int))), z2, z3, z4] [] (m, sl, sh, V0, R) Q := by
  obtain ⟨v1, v2, v3, v4⟩ := lxE_v hf ha
  refine am_wp_go rfl (by simp (disch := omega) only [s124 hw, am_b0, am_bn0, am_addE, am_subE, am_mulE, am_laddE, am_lsubE, am_upO, am_upS, am_stS, am_stO, am_tnn, am_brl, am_brg, am_bre, am_brn, am_brG, am_brL, am_st1, am_no2, am_st2, am_clr, and_self, true_and, and_true, true_or, or_true, List.length_cons, List.length_nil] <;> omega) ?_
  try simp (disch := omega) only [s124 hw, am_b0, am_bn0, am_addE, am_subE, am_mulE, am_laddE, am_lsubE, am_upO, am_upS, am_stS, am_stO, am_tnn, am_brl, am_brg, am_bre, am_brn, am_brG, am_brL, am_st1, am_no2, am_st2, am_clr]
  refine am_wp_cc rfl rfl rfl (trivial) (w_M_isLetter (c := b f) ⟨_, rfl, ?_⟩)
  refine am_wp_go rfl (by simp (disch := omega) only [s124 hw, am_b0, am_bn0, am_addE, am_subE, am_mulE, am_laddE, am_lsubE, am_upO, am_upS, am_stS, am_stO, am_tnn, am_brl, am_brg, am_bre, am_brn, am_brG, am_brL, am_st1, am_no2, am_st2, am_clr, and_self, true_and, and_true, true_or, or_true, List.length_cons, List.length_nil] <;> omega) ?_
  try simp (disch := omega) only [s124 hw, am_b0, am_bn0, am_addE, am_subE, am_mulE, am_laddE, am_lsubE, am_upO, am_upS, am_stS, am_stO, am_tnn, am_brl, am_brg, am_bre, am_brn, am_brG, am_brL, am_st1, am_no2, am_st2, am_clr]
  have LP : ∀ k : Nat, k ≤ lxE b n f - f → ∀ (z4 : Option am_V) (V : Nat → Nat → Int), fr6 I V → V 124 5 = ((f + k : Nat) : Int) → V 124 6 = (f : Int) → ((∀ i : Nat, i < k → lxL (b (f + i)) = true) → k ≤ 6 → V 124 12 = (nm27 (lxW b f k) : Int)) → ((∀ i : Nat, i < k → lxD (b (f + i)) = true) → k ≤ 3 → V 124 8 = (lxN b f k : Int)) → am_wp (d + 1) 205 215 [some (.inr (.inr (124))), some (.inl ((b f : Int))), some (.inl (am_b (lxL (b f) = true))), some (.inl (am_b (∀ i : Nat, i < k → lxL (b (f + i)) = lxL (b f)))), z4] [] (m, sl, sh, V, R) Q := by
    refine am_lp (lxE b n f - f) (fun k hk ih z4 V g0 g5 g6 g12 g8 => ?_)
    have V3 : V 124 3 = (n : Int) := by rw [g0.2 3 (by decide) (by decide) (by decide) (by decide) (by decide) (by decide), h3]
    have Vb : ∀ k, k < n → V 125 k = (b k : Int) := fun k hk => by rw [g0.1 125 (by decide)]; exact (hb k hk).1
    refine am_wp_go rfl (by simp (disch := omega) only [s124 hw, g5, am_b0, am_bn0, am_addE, am_subE, am_mulE, am_laddE, am_lsubE, am_upO, am_upS, am_stS, am_stO, am_tnn, am_brl, am_brg, am_bre, am_brn, am_brG, am_brL, am_st1, am_no2, am_st2, am_clr, and_self, true_and, and_true, true_or, or_true, List.length_cons, List.length_nil] <;> omega) ?_
    try simp (disch := omega) only [s124 hw, g5, am_b0, am_bn0, am_addE, am_subE, am_mulE, am_laddE, am_lsubE, am_upO, am_upS, am_stS, am_stO, am_tnn, am_brl, am_brg, am_bre, am_brn, am_brG, am_brL, am_st1, am_no2, am_st2, am_clr]
    refine am_wp_cc rfl rfl rfl (congrArg Prod.fst (s124 hw)) (w_M_tapeAt (k := f + k) hw hn V3 Vb ⟨_, rfl, ?_⟩)
    by_cases hke : k = lxE b n f - f
    · -- the end
      clear ih
      have hno : (if f + k < n then (b (f + k) : Int) else 0) = ((if f + k < n then b (f + k) else 0 : Nat) : Int) := by split <;> rfl
      have hna : lxA (if f + k < n then b (f + k) else 0) = false := by
        split
        · rename_i hlt
          rw [show f + k = lxE b n f by omega] at hlt ⊢
          exact v4 hlt
        · rfl
      rw [hno]
      refine am_wp_cc rfl rfl rfl (trivial) (w_M_isLetter ⟨_, rfl, ?_⟩)
      have nl : ¬ lxL (if f + k < n then b (f + k) else 0) = true := fun hx => by unfold lxA at hna; rw [hx] at hna; cases hna
      have nd : ¬ lxD (if f + k < n then b (f + k) else 0) = true := fun hx => by unfold lxA at hna; rw [hx, Bool.or_true] at hna; cases hna
      rw [am_bF nl]
      refine am_wp_go rfl (by simp (disch := omega) only [s124 hw, g5, am_b0, am_bn0, am_addE, am_subE, am_mulE, am_laddE, am_lsubE, am_upO, am_upS, am_stS, am_stO, am_tnn, am_brl, am_brg, am_bre, am_brn, am_brG, am_brL, am_st1, am_no2, am_st2, am_clr, and_self, true_and, and_true, true_or, or_true, List.length_cons, List.length_nil] <;> omega) ?_
      refine am_wp_pc (pc' := 229) rfl ?_
      refine am_wp_go rfl (by simp (disch := omega) only [s124 hw, g5, am_b0, am_bn0, am_addE, am_subE, am_mulE, am_laddE, am_lsubE, am_upO, am_upS, am_stS, am_stO, am_tnn, am_brl, am_brg, am_bre, am_brn, am_brG, am_brL, am_st1, am_no2, am_st2, am_clr, and_self, true_and, and_true, true_or, or_true, List.length_cons, List.length_nil] <;> omega) ?_
      try simp (disch := omega) only [s124 hw, g5, am_b0, am_bn0, am_addE, am_subE, am_mulE, am_laddE, am_lsubE, am_upO, am_upS, am_stS, am_stO, am_tnn, am_brl, am_brg, am_bre, am_brn, am_brG, am_brL, am_st1, am_no2, am_st2, am_clr]
      refine am_wp_cc rfl rfl rfl (congrArg Prod.fst (s124 hw)) (w_M_tapeAt (k := f + k) hw hn V3 Vb ⟨_, rfl, ?_⟩)
      rw [hno]
      refine am_wp_cc rfl rfl rfl (trivial) (w_M_isDigit ⟨_, rfl, ?_⟩)
      rw [am_bF nd]
      refine am_wp_go rfl (by simp (disch := omega) only [s124 hw, g5, am_b0, am_bn0, am_addE, am_subE, am_mulE, am_laddE, am_lsubE, am_upO, am_upS, am_stS, am_stO, am_tnn, am_brl, am_brg, am_bre, am_brn, am_brG, am_brL, am_st1, am_no2, am_st2, am_clr, and_self, true_and, and_true, true_or, or_true, List.length_cons, List.length_nil] <;> omega) ?_
      refine am_wp_pc (pc' := 350) rfl ?_
      -- what it is
      have FIN : ∀ q : Nat, rK (lxK b f k, f, lxW b f k, lxN b f k) = (q : Int) → Q am_yv (m, sl, sh, am_up V 124 7 (q : Int), R) := fun q hq => by
        have e : lxE b n f - f = k := by omega
        rw [e] at h
        refine h _ (fr6_up g0 (by omega)) (by rw [am_upS, am_stO (by decide), g5]; omega) ⟨by rw [am_upS, am_stS rfl, hq], by rw [am_upS, am_stO (by decide)]; exact g6, fun hx => ?_, fun hx => ?_, fun hx => ?_⟩
        · have hx : lxK b f k = 2 := hx
          unfold lxK at hx
          rw [am_upS, am_stO (by decide)]
          by_cases hc : (∀ i, i < k → lxL (b (f + i)) = true) ∧ k ≤ 6
          · exact g12 hc.1 hc.2
          · rw [if_neg hc] at hx
            split at hx <;> omega
        · have hx : lxK b f k = 4 := hx
          unfold lxK at hx
          rw [am_upS, am_stO (by decide)]
          by_cases hc : (∀ i, i < k → lxL (b (f + i)) = true) ∧ k ≤ 6
          · rw [if_pos hc] at hx; omega
          · rw [if_neg hc] at hx
            by_cases hc2 : (∀ i, i < k → lxD (b (f + i)) = true) ∧ k ≤ 3
            · exact g8 hc2.1 hc2.2
            · rw [if_neg hc2] at hx; omega
        · have hx : lxK b f k = 5 := hx
          unfold lxK at hx
          split at hx
          · omega
          · split at hx <;> omega
      have kpos : 1 ≤ k := by omega
      have al : ∀ i : Nat, i < k → lxA (b (f + i)) = true := fun i hi => v3 (f + i) (by omega) (by omega)
      clear h
      by_cases hL : lxL (b f) = true
      · have nD : ¬ (∀ i : Nat, i < k → lxD (b (f + i)) = true) := fun hx => by
          have h1 := lxD_t.mp (hx 0 (by omega))
          have h2 := lxL_t.mp hL
          rw [Nat.add_zero] at h1
          omega
        rw [am_bT hL]
        by_cases hall : ∀ i : Nat, i < k → lxL (b (f + i)) = lxL (b f)
        · have all2 : ∀ i : Nat, i < k → lxL (b (f + i)) = true := fun i hi => by rw [hall i hi]; exact hL
          rw [am_bT hall]
          refine am_wp_go rfl (by simp (disch := omega) only [s124 hw, g5, am_b0, am_bn0, am_addE, am_subE, am_mulE, am_laddE, am_lsubE, am_upO, am_upS, am_stS, am_stO, am_tnn, am_brl, am_brg, am_bre, am_brn, am_brG, am_brL, am_st1, am_no2, am_st2, am_clr, and_self, true_and, and_true, true_or, or_true, List.length_cons, List.length_nil] <;> omega) ?_
          refine am_wp_pc (pc' := 355) rfl ?_
          refine am_wp_go rfl (by simp (disch := omega) only [s124 hw, g5, g6, am_b0, am_bn0, am_addE, am_subE, am_mulE, am_laddE, am_lsubE, am_upO, am_upS, am_stS, am_stO, am_tnn, am_brl, am_brg, am_bre, am_brn, am_brG, am_brL, am_st1, am_no2, am_st2, am_clr, and_self, true_and, and_true, true_or, or_true, List.length_cons, List.length_nil] <;> omega) ?_
          refine am_wp_pc (pc' := 368) rfl ?_
          refine am_wp_go rfl trivial ?_
          simp (disch := omega) only [g5, g6, am_subE, am_brL]
          refine am_wp_br (fun b374 => ?_) (fun b374 => ?_)
          · have e : lxK b f k = 2 := by unfold lxK; rw [if_pos ⟨all2, by omega⟩]
            refine am_wp_go rfl (by simp (disch := omega) only [s124 hw, g5, g6, am_b0, am_bn0, am_addE, am_subE, am_mulE, am_laddE, am_lsubE, am_upO, am_upS, am_stS, am_stO, am_tnn, am_brl, am_brg, am_bre, am_brn, am_brG, am_brL, am_st1, am_no2, am_st2, am_clr, and_self, true_and, and_true, true_or, or_true, List.length_cons, List.length_nil] <;> omega) ?_
            refine am_wp_pc (pc' := 385) rfl ?_
            refine am_wp_go rfl (by simp (disch := omega) only [s124 hw, g5, g6, am_b0, am_bn0, am_addE, am_subE, am_mulE, am_laddE, am_lsubE, am_upO, am_upS, am_stS, am_stO, am_tnn, am_brl, am_brg, am_bre, am_brn, am_brG, am_brL, am_st1, am_no2, am_st2, am_clr, and_self, true_and, and_true, true_or, or_true, List.length_cons, List.length_nil] <;> omega) ?_
            try simp (disch := omega) only [s124 hw, g5, g6, am_b0, am_bn0, am_addE, am_subE, am_mulE, am_laddE, am_lsubE, am_upO, am_upS, am_stS, am_stO, am_tnn, am_brl, am_brg, am_bre, am_brn, am_brG, am_brL, am_st1, am_no2, am_st2, am_clr]
            refine am_wp_ret rfl rfl ?_
            exact FIN 2 (by unfold rK; dsimp only; rw [e]; rfl)
          · have e : lxK b f k = 1 := by unfold lxK; rw [if_neg (fun hx => by omega), if_neg (fun hx => nD hx.1)]
            refine am_wp_go rfl (by simp (disch := omega) only [s124 hw, g5, g6, am_b0, am_bn0, am_addE, am_subE, am_mulE, am_laddE, am_lsubE, am_upO, am_upS, am_stS, am_stO, am_tnn, am_brl, am_brg, am_bre, am_brn, am_brG, am_brL, am_st1, am_no2, am_st2, am_clr, and_self, true_and, and_true, true_or, or_true, List.length_cons, List.length_nil] <;> omega) ?_
            try simp (disch := omega) only [s124 hw, g5, g6, am_b0, am_bn0, am_addE, am_subE, am_mulE, am_laddE, am_lsubE, am_upO, am_upS, am_stS, am_stO, am_tnn, am_brl, am_brg, am_bre, am_brn, am_brG, am_brL, am_st1, am_no2, am_st2, am_clr]
            refine am_wp_ret rfl rfl ?_
            exact FIN 1 (by unfold rK; dsimp only; rw [e]; rfl)
        · have e : lxK b f k = 1 := by unfold lxK; rw [if_neg (fun hx => hall (fun i hi => by rw [hx.1 i hi, hL])), if_neg (fun hx => nD hx.1)]
          rw [am_bF hall]
          refine am_wp_go rfl (by simp (disch := omega) only [s124 hw, g5, am_b0, am_bn0, am_addE, am_subE, am_mulE, am_laddE, am_lsubE, am_upO, am_upS, am_stS, am_stO, am_tnn, am_brl, am_brg, am_bre, am_brn, am_brG, am_brL, am_st1, am_no2, am_st2, am_clr, and_self, true_and, and_true, true_or, or_true, List.length_cons, List.length_nil] <;> omega) ?_
          refine am_wp_pc (pc' := 377) rfl ?_
          refine am_wp_go rfl (by simp (disch := omega) only [s124 hw, am_b0, am_bn0, am_addE, am_subE, am_mulE, am_laddE, am_lsubE, am_upO, am_upS, am_stS, am_stO, am_tnn, am_brl, am_brg, am_bre, am_brn, am_brG, am_brL, am_st1, am_no2, am_st2, am_clr, and_self, true_and, and_true, true_or, or_true, List.length_cons, List.length_nil] <;> omega) ?_
          try simp (disch := omega) only [s124 hw, am_b0, am_bn0, am_addE, am_subE, am_mulE, am_laddE, am_lsubE, am_upO, am_upS, am_stS, am_stO, am_tnn, am_brl, am_brg, am_bre, am_brn, am_brG, am_brL, am_st1, am_no2, am_st2, am_clr]
          refine am_wp_ret rfl rfl ?_
          exact FIN 1 (by unfold rK; dsimp only; rw [e]; rfl)
      · have nL : ¬ (∀ i : Nat, i < k → lxL (b (f + i)) = true) := fun hx => hL (by have := hx 0 (by omega); rwa [Nat.add_zero] at this)
        have hLf := bfalse hL
        rw [am_bF hL]
        by_cases hall : ∀ i : Nat, i < k → lxL (b (f + i)) = lxL (b f)
        · have all2 : ∀ i : Nat, i < k → lxD (b (f + i)) = true := fun i hi => by
            have h1 := al i hi
            unfold lxA at h1
            rw [hall i hi, hLf, Bool.false_or] at h1
            exact h1
          rw [am_bT hall]
          refine am_wp_go rfl (by simp (disch := omega) only [s124 hw, g5, am_b0, am_bn0, am_addE, am_subE, am_mulE, am_laddE, am_lsubE, am_upO, am_upS, am_stS, am_stO, am_tnn, am_brl, am_brg, am_bre, am_brn, am_brG, am_brL, am_st1, am_no2, am_st2, am_clr, and_self, true_and, and_true, true_or, or_true, List.length_cons, List.length_nil] <;> omega) ?_
          refine am_wp_pc (pc' := 355) rfl ?_
          refine am_wp_go rfl (by simp (disch := omega) only [s124 hw, g5, g6, am_b0, am_bn0, am_addE, am_subE, am_mulE, am_laddE, am_lsubE, am_upO, am_upS, am_stS, am_stO, am_tnn, am_brl, am_brg, am_bre, am_brn, am_brG, am_brL, am_st1, am_no2, am_st2, am_clr, and_self, true_and, and_true, true_or, or_true, List.length_cons, List.length_nil] <;> omega) ?_
          refine am_wp_pc (pc' := 373) rfl ?_
          refine am_wp_go rfl trivial ?_
          simp (disch := omega) only [g5, g6, am_subE, am_brL]
          refine am_wp_br (fun b374 => ?_) (fun b374 => ?_)
          · have e : lxK b f k = 4 := by unfold lxK; rw [if_neg (fun hx => nL hx.1), if_pos ⟨all2, by omega⟩]
            refine am_wp_go rfl (by simp (disch := omega) only [s124 hw, g5, g6, am_b0, am_bn0, am_addE, am_subE, am_mulE, am_laddE, am_lsubE, am_upO, am_upS, am_stS, am_stO, am_tnn, am_brl, am_brg, am_bre, am_brn, am_brG, am_brL, am_st1, am_no2, am_st2, am_clr, and_self, true_and, and_true, true_or, or_true, List.length_cons, List.length_nil] <;> omega) ?_
            refine am_wp_pc (pc' := 389) rfl ?_
            refine am_wp_go rfl (by simp (disch := omega) only [s124 hw, g5, g6, am_b0, am_bn0, am_addE, am_subE, am_mulE, am_laddE, am_lsubE, am_upO, am_upS, am_stS, am_stO, am_tnn, am_brl, am_brg, am_bre, am_brn, am_brG, am_brL, am_st1, am_no2, am_st2, am_clr, and_self, true_and, and_true, true_or, or_true, List.length_cons, List.length_nil] <;> omega) ?_
            try simp (disch := omega) only [s124 hw, g5, g6, am_b0, am_bn0, am_addE, am_subE, am_mulE, am_laddE, am_lsubE, am_upO, am_upS, am_stS, am_stO, am_tnn, am_brl, am_brg, am_bre, am_brn, am_brG, am_brL, am_st1, am_no2, am_st2, am_clr]
            refine am_wp_ret rfl rfl ?_
            exact FIN 3 (by unfold rK; dsimp only; rw [e]; rfl)
          · have e : lxK b f k = 1 := by unfold lxK; rw [if_neg (fun hx => nL hx.1), if_neg (fun hx => by omega)]
            refine am_wp_go rfl (by simp (disch := omega) only [s124 hw, g5, g6, am_b0, am_bn0, am_addE, am_subE, am_mulE, am_laddE, am_lsubE, am_upO, am_upS, am_stS, am_stO, am_tnn, am_brl, am_brg, am_bre, am_brn, am_brG, am_brL, am_st1, am_no2, am_st2, am_clr, and_self, true_and, and_true, true_or, or_true, List.length_cons, List.length_nil] <;> omega) ?_
            try simp (disch := omega) only [s124 hw, g5, g6, am_b0, am_bn0, am_addE, am_subE, am_mulE, am_laddE, am_lsubE, am_upO, am_upS, am_stS, am_stO, am_tnn, am_brl, am_brg, am_bre, am_brn, am_brG, am_brL, am_st1, am_no2, am_st2, am_clr]
            refine am_wp_ret rfl rfl ?_
            exact FIN 1 (by unfold rK; dsimp only; rw [e]; rfl)
        · have nD : ¬ (∀ i : Nat, i < k → lxD (b (f + i)) = true) := fun hx => hall (fun i hi => by
            have h1 := lxD_t.mp (hx i hi)
            rw [hLf]
            refine bfalse (fun hy => ?_)
            have := lxL_t.mp hy
            omega)
          have e : lxK b f k = 1 := by unfold lxK; rw [if_neg (fun hx => nL hx.1), if_neg (fun hx => nD hx.1)]
          rw [am_bF hall]
          refine am_wp_go rfl (by simp (disch := omega) only [s124 hw, g5, am_b0, am_bn0, am_addE, am_subE, am_mulE, am_laddE, am_lsubE, am_upO, am_upS, am_stS, am_stO, am_tnn, am_brl, am_brg, am_bre, am_brn, am_brG, am_brL, am_st1, am_no2, am_st2, am_clr, and_self, true_and, and_true, true_or, or_true, List.length_cons, List.length_nil] <;> omega) ?_
          refine am_wp_pc (pc' := 377) rfl ?_
          refine am_wp_go rfl (by simp (disch := omega) only [s124 hw, am_b0, am_bn0, am_addE, am_subE, am_mulE, am_laddE, am_lsubE, am_upO, am_upS, am_stS, am_stO, am_tnn, am_brl, am_brg, am_bre, am_brn, am_brG, am_brL, am_st1, am_no2, am_st2, am_clr, and_self, true_and, and_true, true_or, or_true, List.length_cons, List.length_nil] <;> omega) ?_
          try simp (disch := omega) only [s124 hw, am_b0, am_bn0, am_addE, am_subE, am_mulE, am_laddE, am_lsubE, am_upO, am_upS, am_stS, am_stO, am_tnn, am_brl, am_brg, am_bre, am_brn, am_brG, am_brL, am_st1, am_no2, am_st2, am_clr]
          refine am_wp_ret rfl rfl ?_
          exact FIN 1 (by unfold rK; dsimp only; rw [e]; rfl)
    · -- one more
      have hk2 : k < lxE b n f - f := by omega
      have ih := ih hk2
      have hlt : f + k < n := by omega
      obtain ⟨b1, b2⟩ := hb (f + k) hlt
      have hal := v3 (f + k) (by omega) (by omega)
      rw [if_pos hlt]
      clear h
      -- to goes on
      have S3 : ∀ (V : Nat → Nat → Int) (z4 : Option am_V), fr6 I V → V 124 5 = ((f + k : Nat) : Int) → V 124 6 = (f : Int) → ((∀ i : Nat, i < k + 1 → lxL (b (f + i)) = true) → k + 1 ≤ 6 → V 124 12 = (nm27 (lxW b f (k + 1)) : Int)) → ((∀ i : Nat, i < k + 1 → lxD (b (f + i)) = true) → k + 1 ≤ 3 → V 124 8 = (lxN b f (k + 1) : Int)) → am_wp (d + 1) 205 337 [some (.inr (.inr (124))), some (.inl ((b f : Int))), some (.inl (am_b (lxL (b f) = true))), some (.inl (am_b (∀ i : Nat, i < k + 1 → lxL (b (f + i)) = lxL (b f)))), z4] [] (m, sl, sh, V, R) Q := fun V z4 g0 g5 g6 g12 g8 => by
        refine am_wp_go rfl (by simp (disch := omega) only [s124 hw, g5, am_b0, am_bn0, am_addE, am_subE, am_mulE, am_laddE, am_lsubE, am_upO, am_upS, am_stS, am_stO, am_tnn, am_brl, am_brg, am_bre, am_brn, am_brG, am_brL, am_st1, am_no2, am_st2, am_clr, and_self, true_and, and_true, true_or, or_true, List.length_cons, List.length_nil] <;> omega) ?_
        try simp (disch := omega) only [s124 hw, g5, am_b0, am_bn0, am_addE, am_subE, am_mulE, am_laddE, am_lsubE, am_upO, am_upS, am_stS, am_stO, am_tnn, am_brl, am_brg, am_bre, am_brn, am_brG, am_brL, am_st1, am_no2, am_st2, am_clr]
        refine am_wp_ls (ih z4 _ (fr6_up g0 (by omega)) (by rw [am_upS, am_stS rfl]; omega) (by rw [am_upS, am_stO (by decide)]; exact g6) (by rw [am_upS, am_stO (by decide)]; exact g12) (by rw [am_upS, am_stO (by decide)]; exact g8)) rfl
      clear ih
      -- the number
      have S2 : ∀ (V : Nat → Nat → Int), fr6 I V → V 124 5 = ((f + k : Nat) : Int) → V 124 6 = (f : Int) → ((∀ i : Nat, i < k + 1 → lxL (b (f + i)) = true) → k + 1 ≤ 6 → V 124 12 = (nm27 (lxW b f (k + 1)) : Int)) → ((∀ i : Nat, i < k → lxD (b (f + i)) = true) → k ≤ 3 → V 124 8 = (lxN b f k : Int)) → am_wp (d + 1) 205 307 [some (.inr (.inr (124))), some (.inl ((b f : Int))), some (.inl (am_b (lxL (b f) = true))), some (.inl (am_b (∀ i : Nat, i < k + 1 → lxL (b (f + i)) = lxL (b f)))), some (.inl ((b (f + k) : Int)))] [] (m, sl, sh, V, R) Q := fun V g0 g5 g6 g12 g8 => by
        refine am_wp_go rfl (by simp (disch := omega) only [s124 hw, and_self, true_and, and_true] <;> omega) ?_
        simp (disch := omega) only [g5, g6, am_subE, am_brg]
        refine am_wp_br (fun b317 => ?_) (fun b317 => ?_)
        · exact am_wp_ls (S3 V _ g0 g5 g6 g12 (fun _ hx => by omega)) rfl
        · refine am_wp_goc [337] rfl (by simp (disch := omega) only [s124 hw, and_self, true_and, and_true] <;> omega) ?_
          refine am_wp_ls (S3 _ _ (fr6_up g0 (by omega)) (by rw [am_upS, am_stO (by decide)]; exact g5) (by rw [am_upS, am_stO (by decide)]; exact g6) (by rw [am_upS, am_stO (by decide)]; exact g12) (fun hx hy => ?_)) rfl
          have e8 := g8 (fun i hi => hx i (by omega)) (by omega)
          have l1 := lxN_b k (fun i hi => hx i (by omega))
          have l2 : 10 ^ k ≤ 100 := Nat.le_trans (Nat.pow_le_pow_right (by decide) (show k ≤ 2 by omega)) (by decide)
          have l3 := lxD_t.mp (hx k (by omega))
          rw [am_upS, am_stS rfl, e8]
          simp (disch := omega) only [am_mulE, am_addE, am_subE]
          rw [lxN_s]
          omega
      clear S3
      -- the word
      have S1 : am_wp (d + 1) 205 273 [some (.inr (.inr (124))), some (.inl ((b f : Int))), some (.inl (am_b (lxL (b f) = true))), some (.inl (am_b (∀ i : Nat, i < k + 1 → lxL (b (f + i)) = lxL (b f)))), some (.inl ((b (f + k) : Int)))] [] (m, sl, sh, V, R) Q := by
        refine am_wp_go rfl (by simp (disch := omega) only [s124 hw, and_self, true_and, and_true] <;> omega) ?_
        simp (disch := omega) only [g5, g6, am_subE, am_brg]
        refine am_wp_br (fun b284 => ?_) (fun b284 => ?_)
        · exact am_wp_ls (S2 V g0 g5 g6 (fun _ hx => by omega) g8) rfl
        · refine am_wp_goc [307] rfl (by simp (disch := omega) only [s124 hw, and_self, true_and, and_true] <;> omega) ?_
          refine am_wp_ls (S2 _ (fr6_up g0 (by omega)) (by rw [am_upS, am_stO (by decide)]; exact g5) (by rw [am_upS, am_stO (by decide)]; exact g6) (fun hx hy => ?_) (by rw [am_upS, am_stO (by decide)]; exact g8)) rfl
          have e8 := g12 (fun i hi => hx i (by omega)) (by omega)
          have l1 := (lxW_b k (fun i hi => hx i (by omega))).2
          have l2 : 27 ^ k ≤ 14348907 := Nat.le_trans (Nat.pow_le_pow_right (by decide) (show k ≤ 5 by omega)) (by decide)
          have l3 := lxL_t.mp (hx k (by omega))
          rw [am_upS, am_stS rfl, e8]
          simp (disch := omega) only [am_lmulE, am_laddE, am_lsubE]
          rw [lxW_27]
          omega
      clear S2
      -- is it as the first?
      have S0 : am_wp (d + 1) 205 243 [some (.inr (.inr (124))), some (.inl ((b f : Int))), some (.inl (am_b (lxL (b f) = true))), some (.inl (am_b (∀ i : Nat, i < k → lxL (b (f + i)) = lxL (b f)))), z4] [] (m, sl, sh, V, R) Q := by
        have ix : V 125 (f + k) = (b (f + k) : Int) := Vb (f + k) hlt
        by_cases hall : ∀ i : Nat, i < k → lxL (b (f + i)) = lxL (b f)
        · rw [am_bT hall]
          refine am_wp_go rfl (by simp (disch := omega) only [s124 hw, r124_1 hw, s125 hw, g5, ix, am_b0, am_bn0, am_addE, am_subE, am_mulE, am_laddE, am_lsubE, am_upO, am_upS, am_stS, am_stO, am_tnn, am_brl, am_brg, am_bre, am_brn, am_brG, am_brL, am_st1, am_no2, am_st2, am_clr, and_self, true_and, and_true, true_or, or_true, List.length_cons, List.length_nil] <;> omega) ?_
          refine am_wp_pc (pc' := 258) rfl ?_
          refine am_wp_go rfl (by simp (disch := omega) only [s124 hw, r124_1 hw, s125 hw, g5, ix, am_b0, am_bn0, am_addE, am_subE, am_mulE, am_laddE, am_lsubE, am_upO, am_upS, am_stS, am_stO, am_tnn, am_brl, am_brg, am_bre, am_brn, am_brG, am_brL, am_st1, am_no2, am_st2, am_clr, and_self, true_and, and_true, true_or, or_true, List.length_cons, List.length_nil] <;> omega) ?_
          try simp (disch := omega) only [s124 hw, r124_1 hw, s125 hw, g5, ix, am_b0, am_bn0, am_addE, am_subE, am_mulE, am_laddE, am_lsubE, am_upO, am_upS, am_stS, am_stO, am_tnn, am_brl, am_brg, am_bre, am_brn, am_brG, am_brL, am_st1, am_no2, am_st2, am_clr]
          refine am_wp_cc rfl rfl rfl (trivial) (w_M_isLetter (c := b (f + k)) ⟨_, rfl, ?_⟩)
          by_cases hsame : lxL (b (f + k)) = lxL (b f)
          · have hall2 : ∀ i : Nat, i < k + 1 → lxL (b (f + i)) = lxL (b f) := fun i hi => by by_cases hik : i = k; (rw [hik]; exact hsame); exact hall i (by omega)
            rw [am_bT hall2] at S1
            have e : am_b (lxL (b (f + k)) = true) = am_b (lxL (b f) = true) := by rw [hsame]
            rw [e]
            refine am_wp_go rfl (by simp (disch := omega) only [s124 hw, r124_1 hw, s125 hw, g5, ix, am_b0, am_bn0, am_addE, am_subE, am_mulE, am_laddE, am_lsubE, am_upO, am_upS, am_stS, am_stO, am_tnn, am_brl, am_brg, am_bre, am_brn, am_brG, am_brL, am_st1, am_no2, am_st2, am_clr, and_self, true_and, and_true, true_or, or_true, List.length_cons, List.length_nil] <;> omega) ?_
            try simp (disch := omega) only [s124 hw, r124_1 hw, s125 hw, g5, ix, am_b0, am_bn0, am_addE, am_subE, am_mulE, am_laddE, am_lsubE, am_upO, am_upS, am_stS, am_stO, am_tnn, am_brl, am_brg, am_bre, am_brn, am_brG, am_brL, am_st1, am_no2, am_st2, am_clr]
            refine am_wp_br (fun b264 => ?_) (fun b264 => ?_)
            · exact absurd rfl b264
            · refine am_wp_goc [273] rfl trivial ?_
              exact am_wp_ls S1 rfl
          · have hall2 : ¬ ∀ i : Nat, i < k + 1 → lxL (b (f + i)) = lxL (b f) := fun hx => hsame (hx k (by omega))
            rw [am_bF hall2] at S1
            have e : am_b (lxL (b (f + k)) = true) ≠ am_b (lxL (b f) = true) := by
              cases h1 : lxL (b (f + k)) <;> cases h2 : lxL (b f) <;> first | exact absurd (h1.trans h2.symm) hsame | decide
            refine am_wp_go rfl (by simp (disch := omega) only [s124 hw, r124_1 hw, s125 hw, g5, ix, am_b0, am_bn0, am_addE, am_subE, am_mulE, am_laddE, am_lsubE, am_upO, am_upS, am_stS, am_stO, am_tnn, am_brl, am_brg, am_bre, am_brn, am_brG, am_brL, am_st1, am_no2, am_st2, am_clr, and_self, true_and, and_true, true_or, or_true, List.length_cons, List.length_nil] <;> omega) ?_
            try simp (disch := omega) only [s124 hw, r124_1 hw, s125 hw, g5, ix, am_b0, am_bn0, am_addE, am_subE, am_mulE, am_laddE, am_lsubE, am_upO, am_upS, am_stS, am_stO, am_tnn, am_brl, am_brg, am_bre, am_brn, am_brG, am_brL, am_st1, am_no2, am_st2, am_clr]
            refine am_wp_br (fun b264 => ?_) (fun b264 => ?_)
            · refine am_wp_goc [273] rfl trivial ?_
              exact am_wp_ls S1 rfl
            · exact absurd (Classical.not_not.mp b264) e
        · have hall2 : ¬ ∀ i : Nat, i < k + 1 → lxL (b (f + i)) = lxL (b f) := fun hx => hall (fun i hi => hx i (by omega))
          rw [am_bF hall]
          rw [am_bF hall2] at S1
          refine am_wp_go rfl (by simp (disch := omega) only [s124 hw, r124_1 hw, s125 hw, g5, ix, am_b0, am_bn0, am_addE, am_subE, am_mulE, am_laddE, am_lsubE, am_upO, am_upS, am_stS, am_stO, am_tnn, am_brl, am_brg, am_bre, am_brn, am_brG, am_brL, am_st1, am_no2, am_st2, am_clr, and_self, true_and, and_true, true_or, or_true, List.length_cons, List.length_nil] <;> omega) ?_
          refine am_wp_pc (pc' := 271) rfl ?_
          refine am_wp_goc [273] rfl trivial ?_
          simp (disch := omega) only [s124 hw, r124_1 hw, s125 hw, g5, ix, am_tnn, am_st1]
          exact am_wp_ls S1 rfl
      clear S1
      refine am_wp_cc rfl rfl rfl (trivial) (w_M_isLetter (c := b (f + k)) ⟨_, rfl, ?_⟩)
      by_cases hl2 : lxL (b (f + k)) = true
      · rw [am_bT hl2]
        refine am_wp_go rfl (by simp (disch := omega) only [s124 hw, g5, am_b0, am_bn0, am_addE, am_subE, am_mulE, am_laddE, am_lsubE, am_upO, am_upS, am_stS, am_stO, am_tnn, am_brl, am_brg, am_bre, am_brn, am_brG, am_brL, am_st1, am_no2, am_st2, am_clr, and_self, true_and, and_true, true_or, or_true, List.length_cons, List.length_nil] <;> omega) ?_
        refine am_wp_pc (pc' := 243) rfl ?_
        exact S0
      · rw [am_bF hl2]
        have hd2 : lxD (b (f + k)) = true := by unfold lxA at hal; rw [bfalse hl2, Bool.false_or] at hal; exact hal
        refine am_wp_go rfl (by simp (disch := omega) only [s124 hw, g5, am_b0, am_bn0, am_addE, am_subE, am_mulE, am_laddE, am_lsubE, am_upO, am_upS, am_stS, am_stO, am_tnn, am_brl, am_brg, am_bre, am_brn, am_brG, am_brL, am_st1, am_no2, am_st2, am_clr, and_self, true_and, and_true, true_or, or_true, List.length_cons, List.length_nil] <;> omega) ?_
        refine am_wp_pc (pc' := 229) rfl ?_
        refine am_wp_go rfl (by simp (disch := omega) only [s124 hw, g5, am_b0, am_bn0, am_addE, am_subE, am_mulE, am_laddE, am_lsubE, am_upO, am_upS, am_stS, am_stO, am_tnn, am_brl, am_brg, am_bre, am_brn, am_brG, am_brL, am_st1, am_no2, am_st2, am_clr, and_self, true_and, and_true, true_or, or_true, List.length_cons, List.length_nil] <;> omega) ?_
        try simp (disch := omega) only [s124 hw, g5, am_b0, am_bn0, am_addE, am_subE, am_mulE, am_laddE, am_lsubE, am_upO, am_upS, am_stS, am_stO, am_tnn, am_brl, am_brg, am_bre, am_brn, am_brG, am_brL, am_st1, am_no2, am_st2, am_clr]
        refine am_wp_cc rfl rfl rfl (congrArg Prod.fst (s124 hw)) (w_M_tapeAt (k := f + k) hw hn V3 Vb ⟨_, rfl, ?_⟩)
        rw [if_pos hlt]
        refine am_wp_cc rfl rfl rfl (trivial) (w_M_isDigit (c := b (f + k)) ⟨_, rfl, ?_⟩)
        rw [am_bT hd2]
        refine am_wp_go rfl (by simp (disch := omega) only [s124 hw, g5, am_b0, am_bn0, am_addE, am_subE, am_mulE, am_laddE, am_lsubE, am_upO, am_upS, am_stS, am_stO, am_tnn, am_brl, am_brg, am_bre, am_brn, am_brG, am_brL, am_st1, am_no2, am_st2, am_clr, and_self, true_and, and_true, true_or, or_true, List.length_cons, List.length_nil] <;> omega) ?_
        refine am_wp_pc (pc' := 243) rfl ?_
        exact S0
  have hT : am_b (∀ i : Nat, i < 0 → lxL (b (f + i)) = lxL (b f)) = 1 := am_bT (fun i hi => absurd hi (Nat.not_lt_zero i))
  have P0 := LP 0 (Nat.zero_le _) z4 _ (fr6_up (fr6_up f0 (j := 12) (x := 0) (by omega)) (j := 8) (x := 0) (by omega)) (by rw [am_upS, am_stO (by decide), am_upS, am_stO (by decide), f5]; rfl) (by rw [am_upS, am_stO (by decide), am_upS, am_stO (by decide), f6]) (fun _ _ => by rw [am_upS, am_stO (by decide), am_upS, am_stS rfl]; rfl) (fun _ _ => by rw [am_upS, am_stS rfl]; rfl)
  rw [hT] at P0
  exact am_wp_ls P0 rfl
set_option maxRecDepth 8000 in
set_option maxHeartbeats 8000000 in
theorem w_M_next {i : Nat} (hw : wd sh R) (hn : n ≤ 640) (h3 : I 124 3 = (n : Int)) (h4 : I 124 4 = (lim : Int)) (h5 : I 124 5 = (i : Int)) (hi : i ≤ n) (hb : ∀ k, k < n → I 125 k = (b k : Int) ∧ b k ≤ 255) (h : ∀ J, fr6 I J → (2 ≤ (lxT b n lim i).1 → J 124 5 = (lxX b n i : Int)) → rTk J (lxT b n lim i) → Q am_yv (m, sl, sh, J, R)) : am_wp (d + 2) 205 0 [some (.inr (.inr (124))), none, none, none, none] [] (m, sl, sh, I, R) Q := by
  obtain ⟨s1, s2⟩ := fstN_le (p := fun k => !lxB (b k)) hi
  have s1 : i ≤ lxS b n i := s1
  have s2 : lxS b n i ≤ n := s2
  -- behind the blanks
  have S : ∀ (V : Nat → Nat → Int), fr6 I V → V 124 5 = (lxS b n i : Int) → am_wp (d + 2) 205 52 [some (.inr (.inr (124))), none, none, none, none] [] (m, sl, sh, V, R) Q := fun V g0 g5 => by
    unfold lxT lxX at h
    generalize lxS b n i = f at *
    have V3 : V 124 3 = (n : Int) := by rw [g0.2 3 (by decide) (by decide) (by decide) (by decide) (by decide) (by decide), h3]
    have V4 : V 124 4 = (lim : Int) := by rw [g0.2 4 (by decide) (by decide) (by decide) (by decide) (by decide) (by decide), h4]
    have Y0 := fr6_up g0 (j := 6) (x := (f : Int)) (by omega)
    have Y5 : am_up V 124 6 (f : Int) 124 5 = (f : Int) := by rw [am_upS, am_stO (by decide), g5]
    have Y6 : am_up V 124 6 (f : Int) 124 6 = (f : Int) := by rw [am_upS, am_stS rfl]
    have Y3 : am_up V 124 6 (f : Int) 124 3 = (n : Int) := by rw [am_upS, am_stO (by decide), V3]
    have Y4 : am_up V 124 6 (f : Int) 124 4 = (lim : Int) := by rw [am_upS, am_stO (by decide), V4]
    -- inside
    have IN : ¬ (lim < n ∧ lim ≤ f) → am_wp (d + 2) 205 96 [some (.inr (.inr (124))), none, none, none, none] [] (m, sl, sh, am_up V 124 6 (f : Int), R) Q := fun hin => by
      rw [if_neg hin] at h
      generalize am_up V 124 6 (f : Int) = Y at Y0 Y5 Y6 Y3 Y4 ⊢
      refine am_wp_go rfl (by simp (disch := omega) only [s124 hw, Y5, Y3, am_addE, am_subE, am_mulE, am_laddE, am_lsubE, am_upO, am_upS, am_stS, am_stO, am_tnn, am_brl, am_brg, am_bre, am_brn, am_brG, am_brL, am_st1, am_no2, am_st2, am_clr, and_self, true_and, and_true, true_or, or_true, List.length_cons, List.length_nil] <;> omega) ?_
      try simp (disch := omega) only [s124 hw, Y5, Y3, am_addE, am_subE, am_mulE, am_laddE, am_lsubE, am_upO, am_upS, am_stS, am_stO, am_tnn, am_brl, am_brg, am_bre, am_brn, am_brG, am_brL, am_st1, am_no2, am_st2, am_clr]
      refine am_wp_br (fun b104 => ?_) (fun b104 => ?_)
      · have hf : f < n := by omega
        rw [if_neg (by omega), if_pos hf] at h
        obtain ⟨b1, b2⟩ := hb f hf
        have Yb : Y 125 f = (b f : Int) := by rw [Y0.1 125 (by decide)]; exact b1
        refine am_wp_go rfl (by simp (disch := omega) only [s124 hw, r124_1 hw, s125 hw, Y5, Yb, am_addE, am_subE, am_mulE, am_laddE, am_lsubE, am_upO, am_upS, am_stS, am_stO, am_tnn, am_brl, am_brg, am_bre, am_brn, am_brG, am_brL, am_st1, am_no2, am_st2, am_clr, and_self, true_and, and_true, true_or, or_true, List.length_cons, List.length_nil] <;> omega) ?_
        try simp (disch := omega) only [s124 hw, r124_1 hw, s125 hw, Y5, Yb, am_addE, am_subE, am_mulE, am_laddE, am_lsubE, am_upO, am_upS, am_stS, am_stO, am_tnn, am_brl, am_brg, am_bre, am_brn, am_brG, am_brL, am_st1, am_no2, am_st2, am_clr]
        refine am_wp_cc rfl rfl rfl (trivial) (w_M_isLetter (c := b f) ⟨_, rfl, ?_⟩)
        by_cases ha : lxA (b f) = true
        · rw [if_pos ha, if_pos ha] at h
          have AL : ∀ z : Option am_V, am_wp (d + 2) 205 198 [some (.inr (.inr (124))), some (.inl ((b f : Int))), none, none, none] [] (m, sl, sh, Y, R) Q := fun _ => by
            refine w_M_nextA (d := d + 1) hw hn h3 hb hf ha (fun J j0 j5 jt => h J j0 (fun _ => j5) jt) none none none Y Y0 Y5 Y6
          by_cases hl : lxL (b f) = true
          · rw [am_bT hl]
            refine am_wp_go rfl (by simp (disch := omega) only [s124 hw, r124_1 hw, s125 hw, Y5, Yb, am_addE, am_subE, am_mulE, am_laddE, am_lsubE, am_upO, am_upS, am_stS, am_stO, am_tnn, am_brl, am_brg, am_bre, am_brn, am_brG, am_brL, am_st1, am_no2, am_st2, am_clr, and_self, true_and, and_true, true_or, or_true, List.length_cons, List.length_nil] <;> omega) ?_
            refine am_wp_pc (pc' := 198) rfl ?_
            exact AL none
          · rw [am_bF hl]
            have hd2 : lxD (b f) = true := by unfold lxA at ha; rw [bfalse hl, Bool.false_or] at ha; exact ha
            refine am_wp_go rfl (by simp (disch := omega) only [s124 hw, r124_1 hw, s125 hw, Y5, Yb, am_addE, am_subE, am_mulE, am_laddE, am_lsubE, am_upO, am_upS, am_stS, am_stO, am_tnn, am_brl, am_brg, am_bre, am_brn, am_brG, am_brL, am_st1, am_no2, am_st2, am_clr, and_self, true_and, and_true, true_or, or_true, List.length_cons, List.length_nil] <;> omega) ?_
            refine am_wp_pc (pc' := 130) rfl ?_
            refine am_wp_go rfl (by simp (disch := omega) only [s124 hw, r124_1 hw, s125 hw, Y5, Yb, am_addE, am_subE, am_mulE, am_laddE, am_lsubE, am_upO, am_upS, am_stS, am_stO, am_tnn, am_brl, am_brg, am_bre, am_brn, am_brG, am_brL, am_st1, am_no2, am_st2, am_clr, and_self, true_and, and_true, true_or, or_true, List.length_cons, List.length_nil] <;> omega) ?_
            try simp (disch := omega) only [s124 hw, r124_1 hw, s125 hw, Y5, Yb, am_addE, am_subE, am_mulE, am_laddE, am_lsubE, am_upO, am_upS, am_stS, am_stO, am_tnn, am_brl, am_brg, am_bre, am_brn, am_brG, am_brL, am_st1, am_no2, am_st2, am_clr]
            refine am_wp_cc rfl rfl rfl (trivial) (w_M_isDigit (c := b f) ⟨_, rfl, ?_⟩)
            rw [am_bT hd2]
            refine am_wp_go rfl (by simp (disch := omega) only [s124 hw, r124_1 hw, s125 hw, Y5, Yb, am_addE, am_subE, am_mulE, am_laddE, am_lsubE, am_upO, am_upS, am_stS, am_stO, am_tnn, am_brl, am_brg, am_bre, am_brn, am_brG, am_brL, am_st1, am_no2, am_st2, am_clr, and_self, true_and, and_true, true_or, or_true, List.length_cons, List.length_nil] <;> omega) ?_
            refine am_wp_pc (pc' := 198) rfl ?_
            exact AL none
        · rw [if_neg ha, if_neg ha] at h
          have nl : ¬ lxL (b f) = true := fun hx => ha (by unfold lxA; rw [hx]; rfl)
          have nd : ¬ lxD (b f) = true := fun hx => ha (by unfold lxA; rw [hx, Bool.or_true])
          rw [am_bF nl]
          refine am_wp_go rfl (by simp (disch := omega) only [s124 hw, r124_1 hw, s125 hw, Y5, Yb, am_addE, am_subE, am_mulE, am_laddE, am_lsubE, am_upO, am_upS, am_stS, am_stO, am_tnn, am_brl, am_brg, am_bre, am_brn, am_brG, am_brL, am_st1, am_no2, am_st2, am_clr, and_self, true_and, and_true, true_or, or_true, List.length_cons, List.length_nil] <;> omega) ?_
          refine am_wp_pc (pc' := 130) rfl ?_
          refine am_wp_go rfl (by simp (disch := omega) only [s124 hw, r124_1 hw, s125 hw, Y5, Yb, am_addE, am_subE, am_mulE, am_laddE, am_lsubE, am_upO, am_upS, am_stS, am_stO, am_tnn, am_brl, am_brg, am_bre, am_brn, am_brG, am_brL, am_st1, am_no2, am_st2, am_clr, and_self, true_and, and_true, true_or, or_true, List.length_cons, List.length_nil] <;> omega) ?_
          try simp (disch := omega) only [s124 hw, r124_1 hw, s125 hw, Y5, Yb, am_addE, am_subE, am_mulE, am_laddE, am_lsubE, am_upO, am_upS, am_stS, am_stO, am_tnn, am_brl, am_brg, am_bre, am_brn, am_brG, am_brL, am_st1, am_no2, am_st2, am_clr]
          refine am_wp_cc rfl rfl rfl (trivial) (w_M_isDigit (c := b f) ⟨_, rfl, ?_⟩)
          rw [am_bF nd]
          refine am_wp_go rfl (by simp (disch := omega) only [s124 hw, r124_1 hw, s125 hw, Y5, Yb, am_addE, am_subE, am_mulE, am_laddE, am_lsubE, am_upO, am_upS, am_stS, am_stO, am_tnn, am_brl, am_brg, am_bre, am_brn, am_brG, am_brL, am_st1, am_no2, am_st2, am_clr, and_self, true_and, and_true, true_or, or_true, List.length_cons, List.length_nil] <;> omega) ?_
          refine am_wp_pc (pc' := 137) rfl ?_
          have FIN : ∀ q : Int, q = rK ((if lxG (b f) = true then 5 else 1), f, [], b f) → am_wp (d + 2) 205 179 [some (.inr (.inr (124))), some (.inl ((b f : Int))), none, none, none] [.inl (q), .inr (.inr (124))] (m, sl, sh, Y, R) Q := fun q hq => by
            refine am_wp_go rfl (by simp (disch := omega) only [s124 hw, am_addE, am_subE, am_mulE, am_laddE, am_lsubE, am_upO, am_upS, am_stS, am_stO, am_tnn, am_brl, am_brg, am_bre, am_brn, am_brG, am_brL, am_st1, am_no2, am_st2, am_clr, and_self, true_and, and_true, true_or, or_true, List.length_cons, List.length_nil] <;> omega) ?_
            try simp (disch := omega) only [s124 hw, am_addE, am_subE, am_mulE, am_laddE, am_lsubE, am_upO, am_upS, am_stS, am_stO, am_tnn, am_brl, am_brg, am_bre, am_brn, am_brG, am_brL, am_st1, am_no2, am_st2, am_clr]
            refine am_wp_go rfl (by simp (disch := omega) only [s124 hw, and_self, true_and, and_true] <;> omega) ?_
            refine am_wp_ret rfl rfl ?_
            refine h _ (fr6_up (fr6_up (fr6_up Y0 (by omega)) (by omega)) (by omega)) (fun _ => ?_) ⟨?_, ?_, fun hx => ?_, fun hx => ?_, fun hx => ?_⟩
            · rw [am_upS, am_stS rfl, Y5]; omega
            · rw [am_upS, am_stO (by decide), am_upS, am_stO (by decide), am_upS, am_stS rfl]; exact hq
            · rw [am_upS, am_stO (by decide), am_upS, am_stO (by decide), am_upS, am_stO (by decide)]; exact Y6
            · dsimp only at hx; split at hx <;> omega
            · dsimp only at hx; split at hx <;> omega
            · rw [am_upS, am_stO (by decide), am_upS, am_stS rfl]
          clear h
          by_cases hg : lxG (b f) = true
          · have q4 := FIN 4 (by unfold rK; dsimp only; rw [if_pos hg]; rfl)
            have hg := lxG_t.mp hg
            clear FIN
            have T174 : am_wp (d + 2) 205 174 [some (.inr (.inr (124))), some (.inl ((b f : Int))), none, none, none] [.inr (.inr (124))] (m, sl, sh, Y, R) Q := by
              refine am_wp_goc [179] rfl trivial ?_
              exact q4
            refine am_wp_go rfl (by simp (disch := omega) only [am_addE, am_subE, am_mulE, am_laddE, am_lsubE, am_upO, am_upS, am_stS, am_stO, am_tnn, am_brl, am_brg, am_bre, am_brn, am_brG, am_brL, am_st1, am_no2, am_st2, am_clr, and_self, true_and, and_true, true_or, or_true, List.length_cons, List.length_nil] <;> omega) ?_
            try simp (disch := omega) only [am_addE, am_subE, am_mulE, am_laddE, am_lsubE, am_upO, am_upS, am_stS, am_stO, am_tnn, am_brl, am_brg, am_bre, am_brn, am_brG, am_brL, am_st1, am_no2, am_st2, am_clr]
            refine am_wp_br (fun c1 => ?_) (fun c1 => ?_)
            · exact T174
            · refine am_wp_go rfl (by simp (disch := omega) only [am_addE, am_subE, am_mulE, am_laddE, am_lsubE, am_upO, am_upS, am_stS, am_stO, am_tnn, am_brl, am_brg, am_bre, am_brn, am_brG, am_brL, am_st1, am_no2, am_st2, am_clr, and_self, true_and, and_true, true_or, or_true, List.length_cons, List.length_nil] <;> omega) ?_
              try simp (disch := omega) only [am_addE, am_subE, am_mulE, am_laddE, am_lsubE, am_upO, am_upS, am_stS, am_stO, am_tnn, am_brl, am_brg, am_bre, am_brn, am_brG, am_brL, am_st1, am_no2, am_st2, am_clr]
              refine am_wp_br (fun c2 => ?_) (fun c2 => ?_)
              · exact T174
              · refine am_wp_go rfl (by simp (disch := omega) only [am_addE, am_subE, am_mulE, am_laddE, am_lsubE, am_upO, am_upS, am_stS, am_stO, am_tnn, am_brl, am_brg, am_bre, am_brn, am_brG, am_brL, am_st1, am_no2, am_st2, am_clr, and_self, true_and, and_true, true_or, or_true, List.length_cons, List.length_nil] <;> omega) ?_
                try simp (disch := omega) only [am_addE, am_subE, am_mulE, am_laddE, am_lsubE, am_upO, am_upS, am_stS, am_stO, am_tnn, am_brl, am_brg, am_bre, am_brn, am_brG, am_brL, am_st1, am_no2, am_st2, am_clr]
                refine am_wp_br (fun c3 => ?_) (fun c3 => ?_)
                · exact T174
                · refine am_wp_go rfl (by simp (disch := omega) only [am_addE, am_subE, am_mulE, am_laddE, am_lsubE, am_upO, am_upS, am_stS, am_stO, am_tnn, am_brl, am_brg, am_bre, am_brn, am_brG, am_brL, am_st1, am_no2, am_st2, am_clr, and_self, true_and, and_true, true_or, or_true, List.length_cons, List.length_nil] <;> omega) ?_
                  try simp (disch := omega) only [am_addE, am_subE, am_mulE, am_laddE, am_lsubE, am_upO, am_upS, am_stS, am_stO, am_tnn, am_brl, am_brg, am_bre, am_brn, am_brG, am_brL, am_st1, am_no2, am_st2, am_clr]
                  refine am_wp_br (fun c4 => ?_) (fun c4 => ?_)
                  · exact T174
                  · refine am_wp_go rfl (by simp (disch := omega) only [am_addE, am_subE, am_mulE, am_laddE, am_lsubE, am_upO, am_upS, am_stS, am_stO, am_tnn, am_brl, am_brg, am_bre, am_brn, am_brG, am_brL, am_st1, am_no2, am_st2, am_clr, and_self, true_and, and_true, true_or, or_true, List.length_cons, List.length_nil] <;> omega) ?_
                    try simp (disch := omega) only [am_addE, am_subE, am_mulE, am_laddE, am_lsubE, am_upO, am_upS, am_stS, am_stO, am_tnn, am_brl, am_brg, am_bre, am_brn, am_brG, am_brL, am_st1, am_no2, am_st2, am_clr]
                    refine am_wp_br (fun c5 => ?_) (fun c5 => ?_)
                    · exact T174
                    · refine am_wp_go rfl (by simp (disch := omega) only [am_addE, am_subE, am_mulE, am_laddE, am_lsubE, am_upO, am_upS, am_stS, am_stO, am_tnn, am_brl, am_brg, am_bre, am_brn, am_brG, am_brL, am_st1, am_no2, am_st2, am_clr, and_self, true_and, and_true, true_or, or_true, List.length_cons, List.length_nil] <;> omega) ?_
                      try simp (disch := omega) only [am_addE, am_subE, am_mulE, am_laddE, am_lsubE, am_upO, am_upS, am_stS, am_stO, am_tnn, am_brl, am_brg, am_bre, am_brn, am_brG, am_brL, am_st1, am_no2, am_st2, am_clr]
                      refine am_wp_br (fun c6 => ?_) (fun c6 => ?_)
                      · omega
                      · exact T174
          · have q4 := FIN 1 (by unfold rK; dsimp only; rw [if_neg hg]; rfl)
            have hg : ¬ (b f = 59 ∨ b f = 60 ∨ b f = 61 ∨ b f = 62 ∨ b f = 40 ∨ b f = 41) := fun hx => hg (lxG_t.mpr hx)
            clear FIN
            refine am_wp_go rfl (by simp (disch := omega) only [am_addE, am_subE, am_mulE, am_laddE, am_lsubE, am_upO, am_upS, am_stS, am_stO, am_tnn, am_brl, am_brg, am_bre, am_brn, am_brG, am_brL, am_st1, am_no2, am_st2, am_clr, and_self, true_and, and_true, true_or, or_true, List.length_cons, List.length_nil] <;> omega) ?_
            try simp (disch := omega) only [am_addE, am_subE, am_mulE, am_laddE, am_lsubE, am_upO, am_upS, am_stS, am_stO, am_tnn, am_brl, am_brg, am_bre, am_brn, am_brG, am_brL, am_st1, am_no2, am_st2, am_clr]
            refine am_wp_br (fun c1 => ?_) (fun c1 => ?_)
            · omega
            · refine am_wp_go rfl (by simp (disch := omega) only [am_addE, am_subE, am_mulE, am_laddE, am_lsubE, am_upO, am_upS, am_stS, am_stO, am_tnn, am_brl, am_brg, am_bre, am_brn, am_brG, am_brL, am_st1, am_no2, am_st2, am_clr, and_self, true_and, and_true, true_or, or_true, List.length_cons, List.length_nil] <;> omega) ?_
              try simp (disch := omega) only [am_addE, am_subE, am_mulE, am_laddE, am_lsubE, am_upO, am_upS, am_stS, am_stO, am_tnn, am_brl, am_brg, am_bre, am_brn, am_brG, am_brL, am_st1, am_no2, am_st2, am_clr]
              refine am_wp_br (fun c2 => ?_) (fun c2 => ?_)
              · omega
              · refine am_wp_go rfl (by simp (disch := omega) only [am_addE, am_subE, am_mulE, am_laddE, am_lsubE, am_upO, am_upS, am_stS, am_stO, am_tnn, am_brl, am_brg, am_bre, am_brn, am_brG, am_brL, am_st1, am_no2, am_st2, am_clr, and_self, true_and, and_true, true_or, or_true, List.length_cons, List.length_nil] <;> omega) ?_
                try simp (disch := omega) only [am_addE, am_subE, am_mulE, am_laddE, am_lsubE, am_upO, am_upS, am_stS, am_stO, am_tnn, am_brl, am_brg, am_bre, am_brn, am_brG, am_brL, am_st1, am_no2, am_st2, am_clr]
                refine am_wp_br (fun c3 => ?_) (fun c3 => ?_)
                · omega
                · refine am_wp_go rfl (by simp (disch := omega) only [am_addE, am_subE, am_mulE, am_laddE, am_lsubE, am_upO, am_upS, am_stS, am_stO, am_tnn, am_brl, am_brg, am_bre, am_brn, am_brG, am_brL, am_st1, am_no2, am_st2, am_clr, and_self, true_and, and_true, true_or, or_true, List.length_cons, List.length_nil] <;> omega) ?_
                  try simp (disch := omega) only [am_addE, am_subE, am_mulE, am_laddE, am_lsubE, am_upO, am_upS, am_stS, am_stO, am_tnn, am_brl, am_brg, am_bre, am_brn, am_brG, am_brL, am_st1, am_no2, am_st2, am_clr]
                  refine am_wp_br (fun c4 => ?_) (fun c4 => ?_)
                  · omega
                  · refine am_wp_go rfl (by simp (disch := omega) only [am_addE, am_subE, am_mulE, am_laddE, am_lsubE, am_upO, am_upS, am_stS, am_stO, am_tnn, am_brl, am_brg, am_bre, am_brn, am_brG, am_brL, am_st1, am_no2, am_st2, am_clr, and_self, true_and, and_true, true_or, or_true, List.length_cons, List.length_nil] <;> omega) ?_
                    try simp (disch := omega) only [am_addE, am_subE, am_mulE, am_laddE, am_lsubE, am_upO, am_upS, am_stS, am_stO, am_tnn, am_brl, am_brg, am_bre, am_brn, am_brG, am_brL, am_st1, am_no2, am_st2, am_clr]
                    refine am_wp_br (fun c5 => ?_) (fun c5 => ?_)
                    · omega
                    · refine am_wp_go rfl (by simp (disch := omega) only [am_addE, am_subE, am_mulE, am_laddE, am_lsubE, am_upO, am_upS, am_stS, am_stO, am_tnn, am_brl, am_brg, am_bre, am_brn, am_brG, am_brL, am_st1, am_no2, am_st2, am_clr, and_self, true_and, and_true, true_or, or_true, List.length_cons, List.length_nil] <;> omega) ?_
                      try simp (disch := omega) only [am_addE, am_subE, am_mulE, am_laddE, am_lsubE, am_upO, am_upS, am_stS, am_stO, am_tnn, am_brl, am_brg, am_bre, am_brn, am_brG, am_brL, am_st1, am_no2, am_st2, am_clr]
                      refine am_wp_br (fun c6 => ?_) (fun c6 => ?_)
                      · refine am_wp_goc [179] rfl trivial ?_
                        exact q4
                      · omega
      · rw [if_pos (by omega)] at h
        refine am_wp_go rfl (by simp (disch := omega) only [s124 hw, Y5, Y3, am_addE, am_subE, am_mulE, am_laddE, am_lsubE, am_upO, am_upS, am_stS, am_stO, am_tnn, am_brl, am_brg, am_bre, am_brn, am_brG, am_brL, am_st1, am_no2, am_st2, am_clr, and_self, true_and, and_true, true_or, or_true, List.length_cons, List.length_nil] <;> omega) ?_
        try simp (disch := omega) only [s124 hw, Y5, Y3, am_addE, am_subE, am_mulE, am_laddE, am_lsubE, am_upO, am_upS, am_stS, am_stO, am_tnn, am_brl, am_brg, am_bre, am_brn, am_brG, am_brL, am_st1, am_no2, am_st2, am_clr]
        refine am_wp_ret rfl rfl ?_
        refine h _ (fr6_up Y0 (by omega)) (fun hx => by dsimp only at hx; omega) ⟨?_, ?_, fun hx => ?_, fun hx => ?_, fun hx => ?_⟩
        · rw [am_upS, am_stS rfl]; rfl
        · rw [am_upS, am_stO (by decide), Y6]; dsimp only; omega
        · dsimp only at hx; omega
        · dsimp only at hx; omega
        · dsimp only at hx; omega
    refine am_wp_goc [60] rfl (by simp (disch := omega) only [s124 hw, and_self, true_and, and_true] <;> omega) ?_
    rw [g5]
    refine am_wp_go rfl (by simp (disch := omega) only [s124 hw, and_self, true_and, and_true] <;> omega) ?_
    simp (disch := omega) only [Y3, Y4, am_brL]
    refine am_wp_br (fun b68 => ?_) (fun b68 => ?_)
    · exact IN (by omega)
    · refine am_wp_go rfl (by simp (disch := omega) only [s124 hw, and_self, true_and, and_true] <;> omega) ?_
      simp (disch := omega) only [Y6, Y4, am_brl]
      refine am_wp_br (fun b79 => ?_) (fun b79 => ?_)
      · exact IN (by omega)
      · rw [if_pos ⟨by omega, by omega⟩] at h
        clear IN
        refine am_wp_go rfl (by simp (disch := omega) only [s124 hw, and_self, true_and, and_true] <;> omega) ?_
        rw [Y4]
        refine am_wp_ret rfl rfl ?_
        refine h _ (fr6_up (fr6_up Y0 (by omega)) (by omega)) (fun hx => by dsimp only at hx; omega) ⟨?_, ?_, fun hx => ?_, fun hx => ?_, fun hx => ?_⟩
        · rw [am_upS, am_stS rfl]; rfl
        · rw [am_upS, am_stO (by decide), am_upS, am_stS rfl]
        · dsimp only at hx; omega
        · dsimp only at hx; omega
        · dsimp only at hx; omega
  clear h
  have LP : ∀ k : Nat, k ≤ n → ∀ (V : Nat → Nat → Int), fr6 I V → V 124 5 = (k : Int) → lxS b n k = lxS b n i → am_wp (d + 2) 205 0 [some (.inr (.inr (124))), none, none, none, none] [] (m, sl, sh, V, R) Q := by
    refine am_lp n (fun k hk ih V g0 g5 gs => ?_)
    have V3 : V 124 3 = (n : Int) := by rw [g0.2 3 (by decide) (by decide) (by decide) (by decide) (by decide) (by decide), h3]
    refine am_wp_go rfl (by simp (disch := omega) only [s124 hw, g5, V3, am_addE, am_subE, am_mulE, am_laddE, am_lsubE, am_upO, am_upS, am_stS, am_stO, am_tnn, am_brl, am_brg, am_bre, am_brn, am_brG, am_brL, am_st1, am_no2, am_st2, am_clr, and_self, true_and, and_true, true_or, or_true, List.length_cons, List.length_nil] <;> omega) ?_
    try simp (disch := omega) only [s124 hw, g5, V3, am_addE, am_subE, am_mulE, am_laddE, am_lsubE, am_upO, am_upS, am_stS, am_stO, am_tnn, am_brl, am_brg, am_bre, am_brn, am_brG, am_brL, am_st1, am_no2, am_st2, am_clr]
    refine am_wp_br (fun b8 => ?_) (fun b8 => ?_)
    · refine S V g0 ?_
      rw [← gs, g5]
      unfold lxS
      rw [fstN_end (by omega)]
      omega
    · obtain ⟨b1, b2⟩ := hb k (by omega)
      have Vb : V 125 k = (b k : Int) := by rw [g0.1 125 (by decide)]; exact b1
      have ih := ih (by omega)
      by_cases hbl : lxB (b k) = true
      · have gs2 : lxS b n (k + 1) = lxS b n i := by rw [← gs]; unfold lxS; rw [← fstN_on (i := k) (by rw [hbl]; rfl)]
        have ih := ih _ (fr6_up g0 (j := 5) (x := ((k + 1 : Nat) : Int)) (by omega)) (by rw [am_upS, am_stS rfl]) gs2
        have hbl := lxB_t.mp hbl
        clear S
        refine am_wp_go rfl (by simp (disch := omega) only [s124 hw, r124_1 hw, s125 hw, g5, Vb, am_addE, am_subE, am_mulE, am_laddE, am_lsubE, am_upO, am_upS, am_stS, am_stO, am_tnn, am_brl, am_brg, am_bre, am_brn, am_brG, am_brL, am_st1, am_no2, am_st2, am_clr, and_self, true_and, and_true, true_or, or_true, List.length_cons, List.length_nil] <;> omega) ?_
        try simp (disch := omega) only [s124 hw, r124_1 hw, s125 hw, g5, Vb, am_addE, am_subE, am_mulE, am_laddE, am_lsubE, am_upO, am_upS, am_stS, am_stO, am_tnn, am_brl, am_brg, am_bre, am_brn, am_brG, am_brL, am_st1, am_no2, am_st2, am_clr]
        refine am_wp_br (fun b22 => ?_) (fun b22 => ?_)
        · refine am_wp_go rfl (by simp (disch := omega) only [s124 hw, r124_1 hw, s125 hw, g5, Vb, am_addE, am_subE, am_mulE, am_laddE, am_lsubE, am_upO, am_upS, am_stS, am_stO, am_tnn, am_brl, am_brg, am_bre, am_brn, am_brG, am_brL, am_st1, am_no2, am_st2, am_clr, and_self, true_and, and_true, true_or, or_true, List.length_cons, List.length_nil] <;> omega) ?_
          try simp (disch := omega) only [s124 hw, r124_1 hw, s125 hw, g5, Vb, am_addE, am_subE, am_mulE, am_laddE, am_lsubE, am_upO, am_upS, am_stS, am_stO, am_tnn, am_brl, am_brg, am_bre, am_brn, am_brG, am_brL, am_st1, am_no2, am_st2, am_clr]
          exact am_wp_ls ih rfl
        · refine am_wp_go rfl (by simp (disch := omega) only [s124 hw, r124_1 hw, s125 hw, g5, Vb, am_addE, am_subE, am_mulE, am_laddE, am_lsubE, am_upO, am_upS, am_stS, am_stO, am_tnn, am_brl, am_brg, am_bre, am_brn, am_brG, am_brL, am_st1, am_no2, am_st2, am_clr, and_self, true_and, and_true, true_or, or_true, List.length_cons, List.length_nil] <;> omega) ?_
          try simp (disch := omega) only [s124 hw, r124_1 hw, s125 hw, g5, Vb, am_addE, am_subE, am_mulE, am_laddE, am_lsubE, am_upO, am_upS, am_stS, am_stO, am_tnn, am_brl, am_brg, am_bre, am_brn, am_brG, am_brL, am_st1, am_no2, am_st2, am_clr]
          refine am_wp_br (fun b36 => ?_) (fun b36 => ?_)
          · omega
          · refine am_wp_go rfl (by simp (disch := omega) only [s124 hw, r124_1 hw, s125 hw, g5, Vb, am_addE, am_subE, am_mulE, am_laddE, am_lsubE, am_upO, am_upS, am_stS, am_stO, am_tnn, am_brl, am_brg, am_bre, am_brn, am_brG, am_brL, am_st1, am_no2, am_st2, am_clr, and_self, true_and, and_true, true_or, or_true, List.length_cons, List.length_nil] <;> omega) ?_
            try simp (disch := omega) only [s124 hw, r124_1 hw, s125 hw, g5, Vb, am_addE, am_subE, am_mulE, am_laddE, am_lsubE, am_upO, am_upS, am_stS, am_stO, am_tnn, am_brl, am_brg, am_bre, am_brn, am_brG, am_brL, am_st1, am_no2, am_st2, am_clr]
            exact am_wp_ls ih rfl
      · have e : lxS b n k = k := by unfold lxS; rw [fstN_hit (by omega) (by rw [bfalse hbl]; rfl)]
        have hbl : ¬ (b k = 32 ∨ b k = 10) := fun hx => hbl (lxB_t.mpr hx)
        have S := S V g0 (by rw [g5, ← gs, e])
        refine am_wp_go rfl (by simp (disch := omega) only [s124 hw, r124_1 hw, s125 hw, g5, Vb, am_addE, am_subE, am_mulE, am_laddE, am_lsubE, am_upO, am_upS, am_stS, am_stO, am_tnn, am_brl, am_brg, am_bre, am_brn, am_brG, am_brL, am_st1, am_no2, am_st2, am_clr, and_self, true_and, and_true, true_or, or_true, List.length_cons, List.length_nil] <;> omega) ?_
        try simp (disch := omega) only [s124 hw, r124_1 hw, s125 hw, g5, Vb, am_addE, am_subE, am_mulE, am_laddE, am_lsubE, am_upO, am_upS, am_stS, am_stO, am_tnn, am_brl, am_brg, am_bre, am_brn, am_brG, am_brL, am_st1, am_no2, am_st2, am_clr]
        refine am_wp_br (fun b22 => ?_) (fun b22 => ?_)
        · omega
        · refine am_wp_go rfl (by simp (disch := omega) only [s124 hw, r124_1 hw, s125 hw, g5, Vb, am_addE, am_subE, am_mulE, am_laddE, am_lsubE, am_upO, am_upS, am_stS, am_stO, am_tnn, am_brl, am_brg, am_bre, am_brn, am_brG, am_brL, am_st1, am_no2, am_st2, am_clr, and_self, true_and, and_true, true_or, or_true, List.length_cons, List.length_nil] <;> omega) ?_
          try simp (disch := omega) only [s124 hw, r124_1 hw, s125 hw, g5, Vb, am_addE, am_subE, am_mulE, am_laddE, am_lsubE, am_upO, am_upS, am_stS, am_stO, am_tnn, am_brl, am_brg, am_bre, am_brn, am_brG, am_brL, am_st1, am_no2, am_st2, am_clr]
          refine am_wp_br (fun b36 => ?_) (fun b36 => ?_)
          · exact S
          · omega
  exact LP i hi I ⟨fun _ _ => rfl, fun _ _ _ _ _ _ _ => rfl⟩ h5 rfl
end LEX
