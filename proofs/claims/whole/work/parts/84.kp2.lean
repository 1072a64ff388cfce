/-! A KITCHEN's text: a SLICE, a GUEST, a SORT more -/
theorem ax_bs_s {p : Nat → Bool} {k : Nat} : ax_bs p (k + 1) = bif p k then ax_bs p k + 2 ^ k else ax_bs p k := rfl
theorem onB_sl {W : Nat → Int} {t u o : Int} (ho : o = 0 ∨ o = 1) (hn : nS W < 8) : onB (kSlW W t u o) = (if o = 1 then onB W ||| 2 ^ nS W else onB W) ∧ nS (kSlW W t u o) = nS W + 1 := by
  have n1 : nS (kSlW W t u o) = nS W + 1 := by unfold nS kSlW; rw [am_stS rfl]; unfold nS; omega
  refine ⟨?_, n1⟩
  unfold onB
  rw [n1]
  have e : ax_bs (fun s => decide (kSlW W t u o (8 + 3 * s + 2) = 1)) (nS W) = ax_bs (fun s => decide (W (8 + 3 * s + 2) = 1)) (nS W) := ax_bs_cg (fun s hs => by unfold kSlW; rw [am_stO (by omega), am_stO (by omega), am_stO (by omega), am_stO (by omega)])
  have e2 : kSlW W t u o (8 + 3 * nS W + 2) = o := by unfold kSlW; rw [am_stO (by omega), am_stS rfl]
  rw [ax_bs_s]
  try dsimp only
  rw [e, e2]
  rcases ho with rfl | rfl
  · rw [decide_eq_false (by decide), cond_false, if_neg (by decide)]
  · rw [decide_eq_true rfl, cond_true, if_pos rfl, ax_bs_or]
theorem kit_sl {I J : Nat → Nat → Int} {c : Nat} {W N M : Nat → Int} {t u o y : Int} (h : kit I c W N) (hn : nS W < 8) (ht : 1 ≤ t ∧ t ≤ 20) (hu : 1 ≤ u ∧ u ≤ 20) (ho : o = 0 ∨ o = 1) (hM : ∀ s, s < nS W → M s = N s) (hy : nm y (M (nS W))) (e : ∀ a, c + 1 < a → a ≤ c + 5 → J a = I a) (e1 : J (c + 1) = am_set (am_set (I (c + 1)) (2 * nS W) t) (2 * nS W + 1) u) (e6 : J (c + 6) = am_set (I (c + 6)) (nS W) y) (e0 : ∀ j, j ≤ 8 → J c j = am_set (I c) 6 ((nS W : Int) + 1) j) (e9 : J c 9 = ((if o = 1 then onB W ||| 2 ^ nS W else onB W : Nat) : Int)) : kit J c (kSlW W t u o) M := by
  obtain ⟨ob, n1⟩ := onB_sl (t := t) (u := u) ho hn
  have sW : ∀ k, k ≠ 5 → k ≠ 8 + 3 * nS W → k ≠ 8 + 3 * nS W + 1 → k ≠ 8 + 3 * nS W + 2 → kSlW W t u o k = W k := fun k k1 k2 k3 k4 => by unfold kSlW; rw [am_stO k1, am_stO k4, am_stO k3, am_stO k2]
  have a1 : kSlW W t u o (8 + 3 * nS W) = t := by unfold kSlW; rw [am_stO (by omega), am_stO (by omega), am_stO (by omega), am_stS rfl]
  have a2 : kSlW W t u o (8 + 3 * nS W + 1) = u := by unfold kSlW; rw [am_stO (by omega), am_stO (by omega), am_stS rfl]
  have a3 : kSlW W t u o (8 + 3 * nS W + 2) = o := by unfold kSlW; rw [am_stO (by omega), am_stS rfl]
  have a5 : kSlW W t u o 5 = (nS W : Int) + 1 := by unfold kSlW; rw [am_stS rfl]
  have n2 : nG (kSlW W t u o) = nG W := by unfold nG; rw [sW 6 (by omega) (by omega) (by omega) (by omega)]
  have n3 : nK (kSlW W t u o) = nK W := by unfold nK; rw [sW 7 (by omega) (by omega) (by omega) (by omega)]
  obtain ⟨⟨w0, w1, w2, w3⟩, k0, k1, k2, k3, k4⟩ := h
  have m1 := wk_nG ⟨w0, w1, w2, w3⟩
  have m2 := wk_nK ⟨w0, w1, w2, w3⟩
  refine ⟨⟨?_, fun s hs => ?_, fun s hs => ?_, fun s hs => ?_⟩, ?_, fun s hs => ?_, fun s hs => ?_, fun s hs => ?_, fun s hs => ?_⟩
  · unfold wk0 at w0 ⊢
    rw [a5, sW 0 (by omega) (by omega) (by omega) (by omega), sW 1 (by omega) (by omega) (by omega) (by omega), sW 2 (by omega) (by omega) (by omega) (by omega), sW 3 (by omega) (by omega) (by omega) (by omega), sW 4 (by omega) (by omega) (by omega) (by omega), sW 6 (by omega) (by omega) (by omega) (by omega), sW 7 (by omega) (by omega) (by omega) (by omega)]
    omega
  · rw [n1] at hs
    by_cases hsn : s = nS W
    · rw [hsn, a1, a2, a3]; omega
    · rw [sW _ (by omega) (by omega) (by omega) (by omega), sW _ (by omega) (by omega) (by omega) (by omega), sW _ (by omega) (by omega) (by omega) (by omega)]
      exact w1 s (by omega)
  · rw [n2] at hs; rw [sW _ (by omega) (by omega) (by omega) (by omega), sW _ (by omega) (by omega) (by omega) (by omega)]; exact w2 s hs
  · rw [n3] at hs; rw [sW _ (by omega) (by omega) (by omega) (by omega), sW _ (by omega) (by omega) (by omega) (by omega)]; exact w3 s hs
  · unfold kit0 at k0 ⊢
    rw [ob, e9, a5, sW 0 (by omega) (by omega) (by omega) (by omega), sW 1 (by omega) (by omega) (by omega) (by omega), sW 2 (by omega) (by omega) (by omega) (by omega), sW 3 (by omega) (by omega) (by omega) (by omega), sW 4 (by omega) (by omega) (by omega) (by omega), sW 6 (by omega) (by omega) (by omega) (by omega), sW 7 (by omega) (by omega) (by omega) (by omega), e0 1 (by omega), e0 2 (by omega), e0 3 (by omega), e0 4 (by omega), e0 5 (by omega), e0 6 (by omega), e0 7 (by omega), e0 8 (by omega)]
    obtain ⟨b1, b2, b3, b4, b5, b6, b7, b8, b9⟩ := k0
    simp (disch := omega) only [am_stS, am_stO]
    exact ⟨b1, b2, b3, b4, b5, trivial, b7, b8, trivial⟩
  · rw [n1] at hs
    rw [e1]
    by_cases hsn : s = nS W
    · rw [hsn, a1, a2, am_stO (by omega), am_stS rfl, am_stS rfl]; exact ⟨rfl, rfl⟩
    · rw [sW _ (by omega) (by omega) (by omega) (by omega), sW _ (by omega) (by omega) (by omega) (by omega), am_stO (by omega), am_stO (by omega), am_stO (by omega), am_stO (by omega)]
      exact k1 s (by omega)
  · rw [n1] at hs
    rw [e6]
    by_cases hsn : s = nS W
    · rw [hsn, am_stS rfl]; exact hy
    · rw [am_stO hsn, hM s (by omega)]; exact k2 s (by omega)
  · rw [n2] at hs; rw [e (c + 2) (by omega) (by omega), e (c + 3) (by omega) (by omega), sW _ (by omega) (by omega) (by omega) (by omega), sW _ (by omega) (by omega) (by omega) (by omega)]; exact k3 s hs
  · rw [n3] at hs; rw [e (c + 4) (by omega) (by omega), e (c + 5) (by omega) (by omega), sW _ (by omega) (by omega) (by omega) (by omega), sW _ (by omega) (by omega) (by omega) (by omega)]; exact k4 s hs
theorem kit_gu {I J : Nat → Nat → Int} {c : Nat} {W N : Nat → Int} {t u : Int} (h : kit I c W N) (hn : nG W < 8) (ht : 0 ≤ t ∧ t ≤ 240) (hu : 0 ≤ u ∧ u ≤ 99) (e1 : J (c + 1) = I (c + 1)) (e4 : J (c + 4) = I (c + 4)) (e5 : J (c + 5) = I (c + 5)) (e6 : J (c + 6) = I (c + 6)) (e2 : J (c + 2) = am_set (I (c + 2)) (nG W) t) (e3 : J (c + 3) = am_set (I (c + 3)) (nG W) u) (e0 : ∀ j, j ≤ 9 → J c j = am_set (I c) 7 ((nG W : Int) + 1) j) : kit J c (kGuW W t u) N ∧ nG (kGuW W t u) = nG W + 1 ∧ nS (kGuW W t u) = nS W := by
  have sW : ∀ k, k ≠ 6 → k ≠ 32 + 2 * nG W → k ≠ 32 + 2 * nG W + 1 → kGuW W t u k = W k := fun k k1 k2 k3 => by unfold kGuW; rw [am_stO k1, am_stO k3, am_stO k2]
  have a1 : kGuW W t u (32 + 2 * nG W) = t := by unfold kGuW; rw [am_stO (by omega), am_stO (by omega), am_stS rfl]
  have a2 : kGuW W t u (32 + 2 * nG W + 1) = u := by unfold kGuW; rw [am_stO (by omega), am_stS rfl]
  have a6 : kGuW W t u 6 = (nG W : Int) + 1 := by unfold kGuW; rw [am_stS rfl]
  obtain ⟨⟨w0, w1, w2, w3⟩, k0, k1, k2, k3, k4⟩ := h
  have m1 := wk_nS ⟨w0, w1, w2, w3⟩
  have m2 := wk_nK ⟨w0, w1, w2, w3⟩
  have n1 : nS (kGuW W t u) = nS W := by unfold nS; rw [sW 5 (by omega) (by omega) (by omega)]
  have n2 : nG (kGuW W t u) = nG W + 1 := by unfold nG; rw [a6]; unfold nG; omega
  have n3 : nK (kGuW W t u) = nK W := by unfold nK; rw [sW 7 (by omega) (by omega) (by omega)]
  have n4 : onB (kGuW W t u) = onB W := by
    unfold onB
    rw [n1]
    exact ax_bs_cg (fun s hs => by rw [sW _ (by omega) (by omega) (by omega)])
  refine ⟨⟨⟨?_, fun s hs => ?_, fun s hs => ?_, fun s hs => ?_⟩, ?_, fun s hs => ?_, fun s hs => ?_, fun s hs => ?_, fun s hs => ?_⟩, n2, n1⟩
  · unfold wk0 at w0 ⊢
    rw [a6, sW 0 (by omega) (by omega) (by omega), sW 1 (by omega) (by omega) (by omega), sW 2 (by omega) (by omega) (by omega), sW 3 (by omega) (by omega) (by omega), sW 4 (by omega) (by omega) (by omega), sW 5 (by omega) (by omega) (by omega), sW 7 (by omega) (by omega) (by omega)]
    omega
  · rw [n1] at hs; rw [sW _ (by omega) (by omega) (by omega), sW _ (by omega) (by omega) (by omega), sW _ (by omega) (by omega) (by omega)]; exact w1 s hs
  · rw [n2] at hs
    by_cases hsn : s = nG W
    · rw [hsn, a1, a2]; omega
    · rw [sW _ (by omega) (by omega) (by omega), sW _ (by omega) (by omega) (by omega)]; exact w2 s (by omega)
  · rw [n3] at hs; rw [sW _ (by omega) (by omega) (by omega), sW _ (by omega) (by omega) (by omega)]; exact w3 s hs
  · unfold kit0 at k0 ⊢
    rw [n4, a6, sW 0 (by omega) (by omega) (by omega), sW 1 (by omega) (by omega) (by omega), sW 2 (by omega) (by omega) (by omega), sW 3 (by omega) (by omega) (by omega), sW 4 (by omega) (by omega) (by omega), sW 5 (by omega) (by omega) (by omega), sW 7 (by omega) (by omega) (by omega), e0 1 (by omega), e0 2 (by omega), e0 3 (by omega), e0 4 (by omega), e0 5 (by omega), e0 6 (by omega), e0 7 (by omega), e0 8 (by omega), e0 9 (by omega)]
    obtain ⟨b1, b2, b3, b4, b5, b6, b7, b8, b9⟩ := k0
    simp (disch := omega) only [am_stS, am_stO]
    exact ⟨b1, b2, b3, b4, b5, b6, trivial, b8, b9⟩
  · rw [n1] at hs; rw [e1, sW _ (by omega) (by omega) (by omega), sW _ (by omega) (by omega) (by omega)]; exact k1 s hs
  · rw [n1] at hs; rw [e6]; exact k2 s hs
  · rw [n2] at hs
    rw [e2, e3]
    by_cases hsn : s = nG W
    · rw [hsn, a1, a2, am_stS rfl, am_stS rfl]; exact ⟨rfl, rfl⟩
    · rw [sW _ (by omega) (by omega) (by omega), sW _ (by omega) (by omega) (by omega), am_stO hsn, am_stO hsn]; exact k3 s (by omega)
  · rw [n3] at hs; rw [e4, e5, sW _ (by omega) (by omega) (by omega), sW _ (by omega) (by omega) (by omega)]; exact k4 s hs
theorem kit_so {I J : Nat → Nat → Int} {c : Nat} {W N : Nat → Int} {t u : Int} (h : kit I c W N) (hn : nK W < 5) (ht : 1 ≤ t ∧ t ≤ 9) (hu : 1 ≤ u ∧ u ≤ 99) (e1 : J (c + 1) = I (c + 1)) (e2 : J (c + 2) = I (c + 2)) (e3 : J (c + 3) = I (c + 3)) (e6 : J (c + 6) = I (c + 6)) (e4 : J (c + 4) = am_set (I (c + 4)) (nK W) t) (e5 : J (c + 5) = am_set (I (c + 5)) (nK W) u) (e0 : ∀ j, j ≤ 9 → J c j = am_set (I c) 8 ((nK W : Int) + 1) j) : kit J c (kSoW W t u) N ∧ nG (kSoW W t u) = nG W ∧ nS (kSoW W t u) = nS W := by
  have sW : ∀ k, k ≠ 7 → k ≠ 48 + 2 * nK W → k ≠ 48 + 2 * nK W + 1 → kSoW W t u k = W k := fun k k1 k2 k3 => by unfold kSoW; rw [am_stO k1, am_stO k3, am_stO k2]
  have a1 : kSoW W t u (48 + 2 * nK W) = t := by unfold kSoW; rw [am_stO (by omega), am_stO (by omega), am_stS rfl]
  have a2 : kSoW W t u (48 + 2 * nK W + 1) = u := by unfold kSoW; rw [am_stO (by omega), am_stS rfl]
  have a7 : kSoW W t u 7 = (nK W : Int) + 1 := by unfold kSoW; rw [am_stS rfl]
  obtain ⟨⟨w0, w1, w2, w3⟩, k0, k1, k2, k3, k4⟩ := h
  have m1 := wk_nS ⟨w0, w1, w2, w3⟩
  have m2 := wk_nG ⟨w0, w1, w2, w3⟩
  have n1 : nS (kSoW W t u) = nS W := by unfold nS; rw [sW 5 (by omega) (by omega) (by omega)]
  have n2 : nG (kSoW W t u) = nG W := by unfold nG; rw [sW 6 (by omega) (by omega) (by omega)]
  have n3 : nK (kSoW W t u) = nK W + 1 := by unfold nK; rw [a7]; unfold nK; omega
  have n4 : onB (kSoW W t u) = onB W := by
    unfold onB
    rw [n1]
    exact ax_bs_cg (fun s hs => by rw [sW _ (by omega) (by omega) (by omega)])
  refine ⟨⟨⟨?_, fun s hs => ?_, fun s hs => ?_, fun s hs => ?_⟩, ?_, fun s hs => ?_, fun s hs => ?_, fun s hs => ?_, fun s hs => ?_⟩, n2, n1⟩
  · unfold wk0 at w0 ⊢
    rw [a7, sW 0 (by omega) (by omega) (by omega), sW 1 (by omega) (by omega) (by omega), sW 2 (by omega) (by omega) (by omega), sW 3 (by omega) (by omega) (by omega), sW 4 (by omega) (by omega) (by omega), sW 5 (by omega) (by omega) (by omega), sW 6 (by omega) (by omega) (by omega)]
    omega
  · rw [n1] at hs; rw [sW _ (by omega) (by omega) (by omega), sW _ (by omega) (by omega) (by omega), sW _ (by omega) (by omega) (by omega)]; exact w1 s hs
  · rw [n2] at hs; rw [sW _ (by omega) (by omega) (by omega), sW _ (by omega) (by omega) (by omega)]; exact w2 s hs
  · rw [n3] at hs
    by_cases hsn : s = nK W
    · rw [hsn, a1, a2]; omega
    · rw [sW _ (by omega) (by omega) (by omega), sW _ (by omega) (by omega) (by omega)]; exact w3 s (by omega)
  · unfold kit0 at k0 ⊢
    rw [n4, a7, sW 0 (by omega) (by omega) (by omega), sW 1 (by omega) (by omega) (by omega), sW 2 (by omega) (by omega) (by omega), sW 3 (by omega) (by omega) (by omega), sW 4 (by omega) (by omega) (by omega), sW 5 (by omega) (by omega) (by omega), sW 6 (by omega) (by omega) (by omega), e0 1 (by omega), e0 2 (by omega), e0 3 (by omega), e0 4 (by omega), e0 5 (by omega), e0 6 (by omega), e0 7 (by omega), e0 8 (by omega), e0 9 (by omega)]
    obtain ⟨b1, b2, b3, b4, b5, b6, b7, b8, b9⟩ := k0
    simp (disch := omega) only [am_stS, am_stO]
    exact ⟨b1, b2, b3, b4, b5, b6, b7, trivial, b9⟩
  · rw [n1] at hs; rw [e1, sW _ (by omega) (by omega) (by omega), sW _ (by omega) (by omega) (by omega)]; exact k1 s hs
  · rw [n1] at hs; rw [e6]; exact k2 s hs
  · rw [n2] at hs; rw [e2, e3, sW _ (by omega) (by omega) (by omega), sW _ (by omega) (by omega) (by omega)]; exact k3 s hs
  · rw [n3] at hs
    rw [e4, e5]
    by_cases hsn : s = nK W
    · rw [hsn, a1, a2, am_stS rfl, am_stS rfl]; exact ⟨rfl, rfl⟩
    · rw [sW _ (by omega) (by omega) (by omega), sW _ (by omega) (by omega) (by omega), am_stO hsn, am_stO hsn]; exact k4 s (by omega)
