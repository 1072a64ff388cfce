/-! A KITCHEN: its row in the reference, its object in the class; its plain methods -/
def nS (W : Nat → Int) : Nat := (W 5).toNat
def nG (W : Nat → Int) : Nat := (W 6).toNat
def nK (W : Nat → Int) : Nat := (W 7).toNat
def wk0 (W : Nat → Int) : Prop := 1 ≤ W 0 ∧ W 0 ≤ 4 ∧ 0 ≤ W 1 ∧ W 1 ≤ 9 ∧ 0 ≤ W 2 ∧ W 2 ≤ 99 ∧ 0 ≤ W 3 ∧ W 3 < W 4 ∧ W 4 ≤ 20 ∧ 0 ≤ W 5 ∧ W 5 ≤ 8 ∧ 0 ≤ W 6 ∧ W 6 ≤ 8 ∧ 0 ≤ W 7 ∧ W 7 ≤ 5
def wkS (W : Nat → Int) : Prop := ∀ s, s < nS W → 1 ≤ W (8 + 3 * s) ∧ W (8 + 3 * s) ≤ 20 ∧ 1 ≤ W (8 + 3 * s + 1) ∧ W (8 + 3 * s + 1) ≤ 20 ∧ 0 ≤ W (8 + 3 * s + 2) ∧ W (8 + 3 * s + 2) ≤ 1
def wkG (W : Nat → Int) : Prop := ∀ g, g < nG W → 0 ≤ W (32 + 2 * g) ∧ W (32 + 2 * g) ≤ 240 ∧ 0 ≤ W (32 + 2 * g + 1) ∧ W (32 + 2 * g + 1) ≤ 99
def wkK (W : Nat → Int) : Prop := ∀ k, k < nK W → 1 ≤ W (48 + 2 * k) ∧ W (48 + 2 * k) ≤ 9 ∧ 1 ≤ W (48 + 2 * k + 1) ∧ W (48 + 2 * k + 1) ≤ 99
/-- a row that is a KITCHEN -/
def wk (W : Nat → Int) : Prop := wk0 W ∧ wkS W ∧ wkG W ∧ wkK W
/-- a NAME's letters, 1 to 26 each, in fives of bits and by 27 -/
def nm32 (ws : List Nat) : Nat := ws.foldl (fun a w => a * 32 + w) 0
def nm27 (ws : List Nat) : Nat := ws.foldl (fun a w => 27 * a + w) 0
def nm (c v : Int) : Prop := ∃ ws : List Nat, 1 ≤ ws.length ∧ ws.length ≤ 6 ∧ (∀ w, w ∈ ws → 1 ≤ w ∧ w ≤ 26) ∧ c = (nm32 ws : Int) ∧ v = (nm27 ws : Int)
def onB (W : Nat → Int) : Nat := ax_bs (fun s => decide (W (8 + 3 * s + 2) = 1)) (nS W)
def kit0 (I : Nat → Nat → Int) (c : Nat) (W : Nat → Int) : Prop := I c 1 = W 0 ∧ I c 2 = W 1 ∧ I c 3 = W 2 ∧ I c 4 = W 3 ∧ I c 5 = W 4 ∧ I c 6 = W 5 ∧ I c 7 = W 6 ∧ I c 8 = W 7 ∧ I c 9 = (onB W : Int)
def kitS (I : Nat → Nat → Int) (c : Nat) (W : Nat → Int) : Prop := ∀ s, s < nS W → I (c + 1) (2 * s) = W (8 + 3 * s) ∧ I (c + 1) (2 * s + 1) = W (8 + 3 * s + 1)
def kitN (I : Nat → Nat → Int) (c : Nat) (W N : Nat → Int) : Prop := ∀ s, s < nS W → nm (I (c + 6) s) (N s)
def kitG (I : Nat → Nat → Int) (c : Nat) (W : Nat → Int) : Prop := ∀ g, g < nG W → I (c + 2) g = W (32 + 2 * g) ∧ I (c + 3) g = W (32 + 2 * g + 1)
def kitK (I : Nat → Nat → Int) (c : Nat) (W : Nat → Int) : Prop := ∀ k, k < nK W → I (c + 4) k = W (48 + 2 * k) ∧ I (c + 5) k = W (48 + 2 * k + 1)
/-- the Kitchen at c is the row W, with names N -/
def kit (I : Nat → Nat → Int) (c : Nat) (W N : Nat → Int) : Prop := wk W ∧ kit0 I c W ∧ kitS I c W ∧ kitN I c W N ∧ kitG I c W ∧ kitK I c W
theorem kit_fr {I J : Nat → Nat → Int} {c : Nat} {W N : Nat → Int} (h : kit I c W N) (e : ∀ a, c ≤ a → a ≤ c + 7 → J a = I a) : kit J c W N := by
  unfold kit kit0 kitS kitN kitG kitK at h ⊢
  rw [e c (by omega) (by omega), e (c + 1) (by omega) (by omega), e (c + 2) (by omega) (by omega), e (c + 3) (by omega) (by omega), e (c + 4) (by omega) (by omega), e (c + 5) (by omega) (by omega), e (c + 6) (by omega) (by omega)]
  exact h
def kt_is (sh : Nat → Nat × Nat) (R : Nat → Nat → Nat) (c : Nat) : Prop := sh c = (3, 18) ∧ (R c 11 = c + 1 ∧ R c 12 = c + 2 ∧ R c 13 = c + 3 ∧ R c 14 = c + 4 ∧ R c 15 = c + 5 ∧ R c 16 = c + 6 ∧ R c 17 = c + 7) ∧ (sh (c + 1) = (32, 16) ∧ sh (c + 2) = (32, 8) ∧ sh (c + 3) = (32, 8) ∧ sh (c + 4) = (32, 5) ∧ sh (c + 5) = (32, 5) ∧ sh (c + 6) = (32, 8) ∧ sh (c + 7) = (32, 8)) ∧ 4 ≤ c
theorem ax_bs_tb {p : Nat → Bool} {n s : Nat} (h : s < n) : (ax_bs p n).testBit s = p s := by
  induction n with
  | zero => omega
  | succ n ih =>
    have h1 := ax_bs_lt p n
    unfold ax_bs
    cases hp : p n with
    | false =>
      rw [cond_false]
      by_cases h2 : s < n
      · exact ih h2
      · have : s = n := by omega
        subst this
        rw [hp, Nat.testBit_lt_two_pow h1]
    | true =>
      rw [cond_true, Nat.add_comm]
      by_cases h2 : s < n
      · rw [Nat.testBit_two_pow_add_gt h2]; exact ih h2
      · have : s = n := by omega
        subst this
        rw [Nat.testBit_two_pow_add_eq, hp, Nat.testBit_lt_two_pow h1]
        rfl
theorem ax_bs_or {p : Nat → Bool} {n : Nat} : ax_bs p n ||| 2 ^ n = ax_bs p n + 2 ^ n := by
  have h := Nat.two_pow_add_eq_or_of_lt (ax_bs_lt p n) 1
  rw [Nat.mul_one] at h
  rw [Nat.or_comm, ← h, Nat.add_comm]
theorem ax_bs8 {p : Nat → Bool} {n : Nat} (h : n ≤ 8) : ax_bs p n < 256 := Nat.lt_of_lt_of_le (ax_bs_lt p n) (Nat.pow_le_pow_right (by decide) h)
/-- what is needed of a row: the longest SLICE, the minutes of all TOPS, UNDERS, by PLACES -/
def lonW (W : Nat → Int) : Int := am_fmax (fun s => W (8 + 3 * s) + W (8 + 3 * s + 1)) (nS W)
def totW (W : Nat → Int) (u : Nat) : Int := am_fsum (fun s => W (8 + 3 * s + u)) (nS W)
def bypW (W : Nat → Int) : Int := (totW W 0 + totW W 1 + W 0 - 1) / W 0
theorem wk_nS {W : Nat → Int} (h : wk W) : W 5 = (nS W : Int) ∧ nS W ≤ 8 := by obtain ⟨⟨h0⟩, -⟩ := h; unfold nS; omega
theorem wk_nG {W : Nat → Int} (h : wk W) : W 6 = (nG W : Int) ∧ nG W ≤ 8 := by obtain ⟨⟨h0⟩, -⟩ := h; unfold nG; omega
theorem wk_nK {W : Nat → Int} (h : wk W) : W 7 = (nK W : Int) ∧ nK W ≤ 5 := by obtain ⟨⟨h0⟩, -⟩ := h; unfold nK; omega
/-- what of it holds ahead of lay() too -/
def wkw (W : Nat → Int) : Prop := (0 ≤ W 5 ∧ W 5 ≤ 8) ∧ wkS W
theorem wk_w {W : Nat → Int} (h : wk W) : wkw W := by obtain ⟨⟨h0⟩, h1, -⟩ := h; exact ⟨by omega, h1⟩
theorem wkw_nS {W : Nat → Int} (h : wkw W) : W 5 = (nS W : Int) ∧ nS W ≤ 8 := by obtain ⟨h0, -⟩ := h; unfold nS; omega
theorem totW_le {W : Nat → Int} (h : wk W) {u : Nat} (hu : u < 2) : 0 ≤ totW W u ∧ totW W u ≤ 160 := by
  have h1 := wk_nS h
  have h2 := am_fsum_le (f := fun s => W (8 + 3 * s + u)) (b := 20) (n := nS W) (fun s hs => by
    have h3 := h.2.1 s hs
    match u, hu with
    | 0, _ => exact ⟨by show 0 ≤ W (8 + 3 * s); omega, by show W (8 + 3 * s) ≤ 20; omega⟩
    | 1, _ => exact ⟨by omega, by omega⟩)
  unfold totW
  omega
theorem lonW_le {W : Nat → Int} (h : wk W) : 0 ≤ lonW W ∧ lonW W ≤ 40 := by
  unfold lonW
  exact am_fmax_le (by decide) (fun s hs => by have h3 := h.2.1 s hs; omega)
section KIT
variable {m sl : Nat} {sh : Nat → Nat × Nat} {I : Nat → Nat → Int} {R : Nat → Nat → Nat} {Q : am_R → am_M → Prop} {d c : Nat} {W N : Nat → Int}
theorem w_hasSlice {v : Int} (hk : kt_is sh R c) (ho : kit I c W N) (h : Q (am_yi (am_b (0 ≤ v ∧ v < W 5))) (m, sl, sh, I, R)) : am_wp (d) 21 0 [some (.inr (.inr (c))), some (.inl (v))] [] (m, sl, sh, I, R) Q := by
  have h1 := hk.1
  have o1 : I c 6 = W 5 := ho.2.1.2.2.2.2.2.1
  refine am_wp_go rfl (by simp (disch := omega) only [h1, o1, am_addE, am_subE, am_mulE, am_laddE, am_lsubE, am_upO, am_upS, am_stS, am_stO, am_tnn, am_brl, am_brg, am_bre, am_brn, am_brG, am_brL, am_st1, am_no2, am_st2, am_clr, and_self, true_and, and_true, true_or, or_true] <;> omega) ?_
  try simp (disch := omega) only [h1, o1, am_addE, am_subE, am_mulE, am_laddE, am_lsubE, am_upO, am_upS, am_stS, am_stO, am_tnn, am_brl, am_brg, am_bre, am_brn, am_brG, am_brL, am_st1, am_no2, am_st2, am_clr]
  refine am_wp_br (fun h5 => ?_) (fun h5 => ?_)
  · refine am_wp_go rfl (by simp (disch := omega) only [h1, o1, am_addE, am_subE, am_mulE, am_laddE, am_lsubE, am_upO, am_upS, am_stS, am_stO, am_tnn, am_brl, am_brg, am_bre, am_brn, am_brG, am_brL, am_st1, am_no2, am_st2, am_clr, and_self, true_and, and_true, true_or, or_true] <;> omega) ?_
    try simp (disch := omega) only [h1, o1, am_addE, am_subE, am_mulE, am_laddE, am_lsubE, am_upO, am_upS, am_stS, am_stO, am_tnn, am_brl, am_brg, am_bre, am_brn, am_brG, am_brL, am_st1, am_no2, am_st2, am_clr]
    refine am_wp_ret rfl rfl ?_
    rwa [am_bF (by omega)] at h
  · refine am_wp_go rfl (by simp (disch := omega) only [h1, o1, am_addE, am_subE, am_mulE, am_laddE, am_lsubE, am_upO, am_upS, am_stS, am_stO, am_tnn, am_brl, am_brg, am_bre, am_brn, am_brG, am_brL, am_st1, am_no2, am_st2, am_clr, and_self, true_and, and_true, true_or, or_true] <;> omega) ?_
    try simp (disch := omega) only [h1, o1, am_addE, am_subE, am_mulE, am_laddE, am_lsubE, am_upO, am_upS, am_stS, am_stO, am_tnn, am_brl, am_brg, am_bre, am_brn, am_brG, am_brL, am_st1, am_no2, am_st2, am_clr]
    refine am_wp_br (fun h9 => ?_) (fun h9 => ?_)
    · refine am_wp_go rfl (by simp (disch := omega) only [h1, o1, am_addE, am_subE, am_mulE, am_laddE, am_lsubE, am_upO, am_upS, am_stS, am_stO, am_tnn, am_brl, am_brg, am_bre, am_brn, am_brG, am_brL, am_st1, am_no2, am_st2, am_clr, and_self, true_and, and_true, true_or, or_true] <;> omega) ?_
      try simp (disch := omega) only [h1, o1, am_addE, am_subE, am_mulE, am_laddE, am_lsubE, am_upO, am_upS, am_stS, am_stO, am_tnn, am_brl, am_brg, am_bre, am_brn, am_brG, am_brL, am_st1, am_no2, am_st2, am_clr]
      refine am_wp_ret rfl rfl ?_
      rwa [am_bF (by omega)] at h
    · refine am_wp_go rfl (by simp (disch := omega) only [h1, o1, am_addE, am_subE, am_mulE, am_laddE, am_lsubE, am_upO, am_upS, am_stS, am_stO, am_tnn, am_brl, am_brg, am_bre, am_brn, am_brG, am_brL, am_st1, am_no2, am_st2, am_clr, and_self, true_and, and_true, true_or, or_true] <;> omega) ?_
      try simp (disch := omega) only [h1, o1, am_addE, am_subE, am_mulE, am_laddE, am_lsubE, am_upO, am_upS, am_stS, am_stO, am_tnn, am_brl, am_brg, am_bre, am_brn, am_brG, am_brL, am_st1, am_no2, am_st2, am_clr]
      refine am_wp_ret rfl rfl ?_
      rwa [am_bT (by omega)] at h
theorem w_isOnce {s : Nat} (hk : kt_is sh R c) (ho : kit I c W N) (hs : s < nS W) (h : Q (am_yi (am_b (W (8 + 3 * s + 2) = 1))) (m, sl, sh, I, R)) : am_wp (d) 22 0 [some (.inr (.inr (c))), some (.inl ((s : Int)))] [] (m, sl, sh, I, R) Q := by
  have h1 := hk.1
  have o1 : I c 9 = (onB W : Int) := ho.2.1.2.2.2.2.2.2.2.2
  have o2 := wk_nS ho.1
  have o3 : onB W < 256 := ax_bs8 o2.2
  have o4 : (onB W).testBit s = decide (W (8 + 3 * s + 2) = 1) := ax_bs_tb hs
  have o5 : W (8 + 3 * s + 2) = 1 ↔ onB W / 2 ^ s % 2 = 1 := by rw [← ax_tb, o4, decide_eq_true_iff]
  have o6 : ((onB W : Int)) / 2 ^ s = ((onB W / 2 ^ s : Nat) : Int) := by simp
  have o7 := Nat.div_le_self (onB W) (2 ^ s)
  generalize onB W / 2 ^ s = q at o5 o6 o7
  refine am_wp_go rfl (by simp (disch := omega) only [h1, o1, am_ushrN, o6, am_and1, am_addE, am_subE, am_mulE, am_laddE, am_lsubE, am_upO, am_upS, am_stS, am_stO, am_tnn, am_brl, am_brg, am_bre, am_brn, am_brG, am_brL, am_st1, am_no2, am_st2, am_clr, and_self, true_and, and_true, true_or, or_true] <;> omega) ?_
  try simp (disch := omega) only [h1, o1, am_ushrN, o6, am_and1, am_addE, am_subE, am_mulE, am_laddE, am_lsubE, am_upO, am_upS, am_stS, am_stO, am_tnn, am_brl, am_brg, am_bre, am_brn, am_brG, am_brL, am_st1, am_no2, am_st2, am_clr]
  refine am_wp_br (fun h5 => ?_) (fun h5 => ?_)
  · refine am_wp_go rfl (by simp (disch := omega) only [h1, o1, am_ushrN, o6, am_and1, am_addE, am_subE, am_mulE, am_laddE, am_lsubE, am_upO, am_upS, am_stS, am_stO, am_tnn, am_brl, am_brg, am_bre, am_brn, am_brG, am_brL, am_st1, am_no2, am_st2, am_clr, and_self, true_and, and_true, true_or, or_true] <;> omega) ?_
    try simp (disch := omega) only [h1, o1, am_ushrN, o6, am_and1, am_addE, am_subE, am_mulE, am_laddE, am_lsubE, am_upO, am_upS, am_stS, am_stO, am_tnn, am_brl, am_brg, am_bre, am_brn, am_brG, am_brL, am_st1, am_no2, am_st2, am_clr]
    refine am_wp_ret rfl rfl ?_
    rwa [am_bF (by omega)] at h
  · refine am_wp_go rfl (by simp (disch := omega) only [h1, o1, am_ushrN, o6, am_and1, am_addE, am_subE, am_mulE, am_laddE, am_lsubE, am_upO, am_upS, am_stS, am_stO, am_tnn, am_brl, am_brg, am_bre, am_brn, am_brG, am_brL, am_st1, am_no2, am_st2, am_clr, and_self, true_and, and_true, true_or, or_true] <;> omega) ?_
    try simp (disch := omega) only [h1, o1, am_ushrN, o6, am_and1, am_addE, am_subE, am_mulE, am_laddE, am_lsubE, am_upO, am_upS, am_stS, am_stO, am_tnn, am_brl, am_brg, am_bre, am_brn, am_brG, am_brL, am_st1, am_no2, am_st2, am_clr]
    refine am_wp_ret rfl rfl ?_
    rwa [am_bT (by omega)] at h
theorem w_longest (hk : kt_is sh R c) (ho : kit I c W N) (h : Q (am_yi (lonW W)) (m, sl, sh, I, R)) : am_wp (d) 26 0 [some (.inr (.inr (c))), none, none] [] (m, sl, sh, I, R) Q := by
  obtain ⟨h1, ⟨h2, -⟩, ⟨h3, -⟩, h4⟩ := hk
  have o1 : I c 6 = W 5 := ho.2.1.2.2.2.2.2.1
  have o2 := wk_nS ho.1
  refine am_wp_go rfl (by simp (disch := omega) only [h1, h2, h3, o1, am_tnA, am_tnM, Int.reduceToNat, am_addE, am_subE, am_mulE, am_laddE, am_lsubE, am_upO, am_upS, am_stS, am_stO, am_tnn, am_brl, am_brg, am_bre, am_brn, am_brG, am_brL, am_st1, am_no2, am_st2, am_clr, and_self, true_and, and_true, true_or, or_true] <;> omega) ?_
  try simp (disch := omega) only [h1, h2, h3, o1, am_tnA, am_tnM, Int.reduceToNat, am_addE, am_subE, am_mulE, am_laddE, am_lsubE, am_upO, am_upS, am_stS, am_stO, am_tnn, am_brl, am_brg, am_bre, am_brn, am_brG, am_brL, am_st1, am_no2, am_st2, am_clr]
  refine am_lp0 (P := fun k => am_wp (d) 26 4 [some (.inr (.inr (c))), some (.inl (am_fmax (fun s => W (8 + 3 * s) + W (8 + 3 * s + 1)) k)), some (.inl ((k : Int)))] [] (m, sl, sh, I, R) Q) (nS W) (fun k hk ih => ?_)
  refine am_wp_go rfl (by simp (disch := omega) only [h1, h2, h3, o1, am_tnA, am_tnM, Int.reduceToNat, am_addE, am_subE, am_mulE, am_laddE, am_lsubE, am_upO, am_upS, am_stS, am_stO, am_tnn, am_brl, am_brg, am_bre, am_brn, am_brG, am_brL, am_st1, am_no2, am_st2, am_clr, and_self, true_and, and_true, true_or, or_true] <;> omega) ?_
  try simp (disch := omega) only [h1, h2, h3, o1, am_tnA, am_tnM, Int.reduceToNat, am_addE, am_subE, am_mulE, am_laddE, am_lsubE, am_upO, am_upS, am_stS, am_stO, am_tnn, am_brl, am_brg, am_bre, am_brn, am_brG, am_brL, am_st1, am_no2, am_st2, am_clr]
  refine am_wp_br (fun h9 => ?_) (fun h9 => ?_)
  · refine am_wp_go rfl (by simp (disch := omega) only [h1, h2, h3, o1, am_tnA, am_tnM, Int.reduceToNat, am_addE, am_subE, am_mulE, am_laddE, am_lsubE, am_upO, am_upS, am_stS, am_stO, am_tnn, am_brl, am_brg, am_bre, am_brn, am_brG, am_brL, am_st1, am_no2, am_st2, am_clr, and_self, true_and, and_true, true_or, or_true] <;> omega) ?_
    try simp (disch := omega) only [h1, h2, h3, o1, am_tnA, am_tnM, Int.reduceToNat, am_addE, am_subE, am_mulE, am_laddE, am_lsubE, am_upO, am_upS, am_stS, am_stO, am_tnn, am_brl, am_brg, am_bre, am_brn, am_brG, am_brL, am_st1, am_no2, am_st2, am_clr]
    refine am_wp_ret rfl rfl ?_
    rw [lonW, show nS W = k by omega] at h
    exact h
  · have o3 := ho.2.2.1 k (by omega)
    have o4 := ho.1.2.1 k (by omega)
    refine am_wp_go rfl (by simp (disch := omega) only [h1, h2, h3, o1, o3.1, o3.2, am_tnA, am_tnM, Int.reduceToNat, am_addE, am_subE, am_mulE, am_laddE, am_lsubE, am_upO, am_upS, am_stS, am_stO, am_tnn, am_brl, am_brg, am_bre, am_brn, am_brG, am_brL, am_st1, am_no2, am_st2, am_clr, and_self, true_and, and_true, true_or, or_true] <;> omega) ?_
    try simp (disch := omega) only [h1, h2, h3, o1, o3.1, o3.2, am_tnA, am_tnM, Int.reduceToNat, am_addE, am_subE, am_mulE, am_laddE, am_lsubE, am_upO, am_upS, am_stS, am_stO, am_tnn, am_brl, am_brg, am_bre, am_brn, am_brG, am_brL, am_st1, am_no2, am_st2, am_clr]
    exact am_wp_ls (ih (by omega)) (by simp (disch := omega) only [am_fmax, h1, h2, h3, o1, o3.1, o3.2, am_tnA, am_tnM, Int.reduceToNat, am_addE, am_subE, am_mulE, am_laddE, am_lsubE, am_upO, am_upS, am_stS, am_stO, am_tnn, am_brl, am_brg, am_bre, am_brn, am_brG, am_brL, am_st1, am_no2, am_st2, am_clr, List.cons.injEq, Option.some.injEq, Sum.inl.injEq, Sum.inr.injEq, and_self, true_and, and_true] <;> omega)
theorem w_minutesOfAll {u : Nat} (hu : u < 2) (hk : kt_is sh R c) (ho : kit I c W N) (h : Q (am_yi (totW W u)) (m, sl, sh, I, R)) : am_wp (d) 27 0 [some (.inr (.inr (c))), some (.inl ((u : Int))), none, none] [] (m, sl, sh, I, R) Q := by
  obtain ⟨h1, ⟨h2, -⟩, ⟨h3, -⟩, h4⟩ := hk
  have o1 : I c 6 = W 5 := ho.2.1.2.2.2.2.2.1
  have o2 := wk_nS ho.1
  refine am_wp_go rfl (by simp (disch := omega) only [h1, h2, h3, o1, am_tnA, am_tnM, Int.reduceToNat, am_addE, am_subE, am_mulE, am_laddE, am_lsubE, am_upO, am_upS, am_stS, am_stO, am_tnn, am_brl, am_brg, am_bre, am_brn, am_brG, am_brL, am_st1, am_no2, am_st2, am_clr, and_self, true_and, and_true, true_or, or_true] <;> omega) ?_
  try simp (disch := omega) only [h1, h2, h3, o1, am_tnA, am_tnM, Int.reduceToNat, am_addE, am_subE, am_mulE, am_laddE, am_lsubE, am_upO, am_upS, am_stS, am_stO, am_tnn, am_brl, am_brg, am_bre, am_brn, am_brG, am_brL, am_st1, am_no2, am_st2, am_clr]
  refine am_lp0 (P := fun k => am_wp (d) 27 4 [some (.inr (.inr (c))), some (.inl ((u : Int))), some (.inl (am_fsum (fun s => W (8 + 3 * s + u)) k)), some (.inl ((k : Int)))] [] (m, sl, sh, I, R) Q) (nS W) (fun k hk ih => ?_)
  refine am_wp_go rfl (by simp (disch := omega) only [h1, h2, h3, o1, am_tnA, am_tnM, Int.reduceToNat, am_addE, am_subE, am_mulE, am_laddE, am_lsubE, am_upO, am_upS, am_stS, am_stO, am_tnn, am_brl, am_brg, am_bre, am_brn, am_brG, am_brL, am_st1, am_no2, am_st2, am_clr, and_self, true_and, and_true, true_or, or_true] <;> omega) ?_
  try simp (disch := omega) only [h1, h2, h3, o1, am_tnA, am_tnM, Int.reduceToNat, am_addE, am_subE, am_mulE, am_laddE, am_lsubE, am_upO, am_upS, am_stS, am_stO, am_tnn, am_brl, am_brg, am_bre, am_brn, am_brG, am_brL, am_st1, am_no2, am_st2, am_clr]
  refine am_wp_br (fun h9 => ?_) (fun h9 => ?_)
  · refine am_wp_go rfl (by simp (disch := omega) only [h1, h2, h3, o1, am_tnA, am_tnM, Int.reduceToNat, am_addE, am_subE, am_mulE, am_laddE, am_lsubE, am_upO, am_upS, am_stS, am_stO, am_tnn, am_brl, am_brg, am_bre, am_brn, am_brG, am_brL, am_st1, am_no2, am_st2, am_clr, and_self, true_and, and_true, true_or, or_true] <;> omega) ?_
    try simp (disch := omega) only [h1, h2, h3, o1, am_tnA, am_tnM, Int.reduceToNat, am_addE, am_subE, am_mulE, am_laddE, am_lsubE, am_upO, am_upS, am_stS, am_stO, am_tnn, am_brl, am_brg, am_bre, am_brn, am_brG, am_brL, am_st1, am_no2, am_st2, am_clr]
    refine am_wp_ret rfl rfl ?_
    rw [totW, show nS W = k by omega] at h
    exact h
  · have o3 : I (c + 1) (2 * k + u) = W (8 + 3 * k + u) ∧ 0 ≤ W (8 + 3 * k + u) ∧ W (8 + 3 * k + u) ≤ 20 := by
      have o3 := ho.2.2.1 k (by omega)
      have o4 := ho.1.2.1 k (by omega)
      match u, hu with
      | 0, _ => exact ⟨o3.1, by show 0 ≤ W (8 + 3 * k); omega, by show W (8 + 3 * k) ≤ 20; omega⟩
      | 1, _ => exact ⟨o3.2, by omega, by omega⟩
    have o5 := am_fsum_le (f := fun s => W (8 + 3 * s + u)) (b := 20) (n := k) (fun s hs => by
      have h3 := ho.1.2.1 s (by omega)
      match u, hu with
      | 0, _ => exact ⟨by show 0 ≤ W (8 + 3 * s); omega, by show W (8 + 3 * s) ≤ 20; omega⟩
      | 1, _ => exact ⟨by omega, by omega⟩)
    refine am_wp_go rfl (by simp (disch := omega) only [h1, h2, h3, o1, o3.1, am_tnA, am_tnM, Int.reduceToNat, am_addE, am_subE, am_mulE, am_laddE, am_lsubE, am_upO, am_upS, am_stS, am_stO, am_tnn, am_brl, am_brg, am_bre, am_brn, am_brG, am_brL, am_st1, am_no2, am_st2, am_clr, and_self, true_and, and_true, true_or, or_true] <;> omega) ?_
    try simp (disch := omega) only [h1, h2, h3, o1, o3.1, am_tnA, am_tnM, Int.reduceToNat, am_addE, am_subE, am_mulE, am_laddE, am_lsubE, am_upO, am_upS, am_stS, am_stO, am_tnn, am_brl, am_brg, am_bre, am_brn, am_brG, am_brL, am_st1, am_no2, am_st2, am_clr]
    exact am_wp_ls (ih (by omega)) (by simp (disch := omega) only [am_fsum, h1, h2, h3, o1, o3.1, am_tnA, am_tnM, Int.reduceToNat, am_addE, am_subE, am_mulE, am_laddE, am_lsubE, am_upO, am_upS, am_stS, am_stO, am_tnn, am_brl, am_brg, am_bre, am_brn, am_brG, am_brL, am_st1, am_no2, am_st2, am_clr, List.cons.injEq, Option.some.injEq, Sum.inl.injEq, Sum.inr.injEq, and_self, true_and, and_true] <;> omega)
theorem w_byPlaces (hk : kt_is sh R c) (ho : kit I c W N) (h : Q (am_yi (bypW W)) (m, sl, sh, I, R)) : am_wp (d + 1) 28 0 [some (.inr (.inr (c))), none] [] (m, sl, sh, I, R) Q := by
  have h1 := hk.1
  have o1 : I c 1 = W 0 := ho.2.1.1
  have t0 := totW_le ho.1 (u := 0) (by decide)
  have t1 := totW_le ho.1 (u := 1) (by decide)
  obtain ⟨⟨w0⟩, -⟩ := id ho.1
  refine am_wp_go rfl (by simp (disch := omega) only [h1, o1, am_divE, am_addE, am_subE, am_mulE, am_laddE, am_lsubE, am_upO, am_upS, am_stS, am_stO, am_tnn, am_brl, am_brg, am_bre, am_brn, am_brG, am_brL, am_st1, am_no2, am_st2, am_clr, and_self, true_and, and_true, true_or, or_true] <;> omega) ?_
  try simp (disch := omega) only [h1, o1, am_divE, am_addE, am_subE, am_mulE, am_laddE, am_lsubE, am_upO, am_upS, am_stS, am_stO, am_tnn, am_brl, am_brg, am_bre, am_brn, am_brG, am_brL, am_st1, am_no2, am_st2, am_clr]
  refine am_wp_cc rfl rfl rfl (congrArg Prod.fst (h1)) (w_minutesOfAll (u := 0) (by decide) hk ho ⟨_, rfl, ?_⟩)
  refine am_wp_go rfl (by simp (disch := omega) only [h1, o1, am_divE, am_addE, am_subE, am_mulE, am_laddE, am_lsubE, am_upO, am_upS, am_stS, am_stO, am_tnn, am_brl, am_brg, am_bre, am_brn, am_brG, am_brL, am_st1, am_no2, am_st2, am_clr, and_self, true_and, and_true, true_or, or_true] <;> omega) ?_
  try simp (disch := omega) only [h1, o1, am_divE, am_addE, am_subE, am_mulE, am_laddE, am_lsubE, am_upO, am_upS, am_stS, am_stO, am_tnn, am_brl, am_brg, am_bre, am_brn, am_brG, am_brL, am_st1, am_no2, am_st2, am_clr]
  refine am_wp_cc rfl rfl rfl (congrArg Prod.fst (h1)) (w_minutesOfAll (u := 1) (by decide) hk ho ⟨_, rfl, ?_⟩)
  refine am_wp_go rfl (by simp (disch := omega) only [h1, o1, am_divE, am_addE, am_subE, am_mulE, am_laddE, am_lsubE, am_upO, am_upS, am_stS, am_stO, am_tnn, am_brl, am_brg, am_bre, am_brn, am_brG, am_brL, am_st1, am_no2, am_st2, am_clr, and_self, true_and, and_true, true_or, or_true] <;> omega) ?_
  try simp (disch := omega) only [h1, o1, am_divE, am_addE, am_subE, am_mulE, am_laddE, am_lsubE, am_upO, am_upS, am_stS, am_stO, am_tnn, am_brl, am_brg, am_bre, am_brn, am_brG, am_brL, am_st1, am_no2, am_st2, am_clr]
  refine am_wp_br (fun h17 => ?_) (fun h17 => ?_)
  · refine am_wp_go rfl (by simp (disch := omega) only [h1, o1, am_divE, am_addE, am_subE, am_mulE, am_laddE, am_lsubE, am_upO, am_upS, am_stS, am_stO, am_tnn, am_brl, am_brg, am_bre, am_brn, am_brG, am_brL, am_st1, am_no2, am_st2, am_clr, and_self, true_and, and_true, true_or, or_true] <;> omega) ?_
    try simp (disch := omega) only [h1, o1, am_divE, am_addE, am_subE, am_mulE, am_laddE, am_lsubE, am_upO, am_upS, am_stS, am_stO, am_tnn, am_brl, am_brg, am_bre, am_brn, am_brG, am_brL, am_st1, am_no2, am_st2, am_clr]
    refine am_wp_ret rfl rfl ?_
    exact h
  · omega
end KIT
/-- what a side lacks by the GOES; SLICES that are DONE -/
def lkW (W : Nat → Int) (G : List Go) (s u : Nat) : Int := W (8 + 3 * s + u) - am_fsum (fun k => if gS G k = s ∧ gU G k = u then gN G k else 0) G.length
def dnW (W : Nat → Int) (G : List Go) : Nat := ax_bs (fun s => decide (lkW W G s 0 ≤ 0 ∧ lkW W G s 1 ≤ 0)) (nS W)
theorem am_fsum_cg {f g : Nat → Int} {n : Nat} (h : ∀ k, k < n → f k = g k) : am_fsum f n = am_fsum g n := by
  induction n with
  | zero => rfl
  | succ n ih => unfold am_fsum; rw [ih (fun k hk => h k (by omega)), h n (by omega)]
theorem am_fmax_cg {f g : Nat → Int} {n : Nat} (h : ∀ k, k < n → f k = g k) : am_fmax f n = am_fmax g n := by
  induction n with
  | zero => rfl
  | succ n ih => unfold am_fmax; rw [ih (fun k hk => h k (by omega)), h n (by omega)]
theorem am_fsum_add {f g : Nat → Int} {n : Nat} : am_fsum (fun k => f k + g k) n = am_fsum f n + am_fsum g n := by
  induction n with
  | zero => rfl
  | succ n ih => simp only [am_fsum]; omega
def st_is (sh : Nat → Nat × Nat) (R : Nat → Nat → Nat) (t : Nat) : Prop := sh t = (9, 4) ∧ R t 0 = t + 1 ∧ R t 1 = t + 9 ∧ R t 2 = t + 11 ∧ kt_is sh R (t + 1) ∧ pl_is sh R (t + 9)
section STATE
variable {m sl : Nat} {sh : Nat → Nat × Nat} {I : Nat → Nat → Int} {R : Nat → Nat → Nat} {Q : am_R → am_M → Prop} {d t : Nat} {W N : Nat → Int} {G : List Go}
theorem w_lacking {s u : Nat} (hu : u < 2) (hs : s < nS W) (ht : st_is sh R t) (ho : kit I (t + 1) W N) (hp : pl I (t + 9) G) (h : Q (am_yi (lkW W G s u)) (m, sl, sh, I, R)) : am_wp (d + 3) 116 0 [some (.inr (.inr (t))), some (.inl (2 * (s : Int) + u))] [] (m, sl, sh, I, R) Q := by
  obtain ⟨h1, h2, h3, h4, hk, hl⟩ := ht
  have o2 := wk_nS ho.1
  have q1 := hk.1
  have q2 := hk.2.1.1
  have q3 := hk.2.2.1.1
  have q4 := hk.2.2.2
  have e : am_fsum (fun k => if 2 * gS G k + gU G k = 2 * (s : Int) + u then gN G k else 0) G.length = am_fsum (fun k => if gS G k = s ∧ gU G k = u then gN G k else 0) G.length := am_fsum_cg (fun k hk => by
    obtain ⟨e, r⟩ := hp.2.2 k hk
    by_cases hc : gS G k = s ∧ gU G k = u
    · rw [if_pos hc, if_pos (by omega)]
    · rw [if_neg hc, if_neg (by omega)])
  have b := am_fsum_le (f := fun k => if 2 * gS G k + gU G k = 2 * (s : Int) + u then gN G k else 0) (b := 20) (n := G.length) (fun k hk => by
    obtain ⟨e, r⟩ := hp.2.2 k hk
    split <;> omega)
  have o3 : I (t + 1 + 1) (2 * s + u) = W (8 + 3 * s + u) ∧ 0 ≤ W (8 + 3 * s + u) ∧ W (8 + 3 * s + u) ≤ 20 := by
      have o3 := ho.2.2.1 s (by omega)
      have o4 := ho.1.2.1 s (by omega)
      match u, hu with
      | 0, _ => exact ⟨o3.1, by show 0 ≤ W (8 + 3 * s); omega, by show W (8 + 3 * s) ≤ 20; omega⟩
      | 1, _ => exact ⟨o3.2, by omega, by omega⟩
  have hlen := hp.2.1
  refine am_wp_go rfl (by simp (disch := omega) only [h1, h2, h3, q1, q2, q3, o3.1, am_tnA, am_tnM, Int.reduceToNat, am_addE, am_subE, am_mulE, am_laddE, am_lsubE, am_upO, am_upS, am_stS, am_stO, am_tnn, am_brl, am_brg, am_bre, am_brn, am_brG, am_brL, am_st1, am_no2, am_st2, am_clr, and_self, true_and, and_true, true_or, or_true] <;> omega) ?_
  try simp (disch := omega) only [h1, h2, h3, q1, q2, q3, o3.1, am_tnA, am_tnM, Int.reduceToNat, am_addE, am_subE, am_mulE, am_laddE, am_lsubE, am_upO, am_upS, am_stS, am_stO, am_tnn, am_brl, am_brg, am_bre, am_brn, am_brG, am_brL, am_st1, am_no2, am_st2, am_clr]
  refine am_wp_br (fun h5 => ?_) (fun h5 => ?_)
  · omega
  · refine am_wp_go rfl (by simp (disch := omega) only [h1, h2, h3, q1, q2, q3, o3.1, am_tnA, am_tnM, Int.reduceToNat, am_addE, am_subE, am_mulE, am_laddE, am_lsubE, am_upO, am_upS, am_stS, am_stO, am_tnn, am_brl, am_brg, am_bre, am_brn, am_brG, am_brL, am_st1, am_no2, am_st2, am_clr, and_self, true_and, and_true, true_or, or_true] <;> omega) ?_
    try simp (disch := omega) only [h1, h2, h3, q1, q2, q3, o3.1, am_tnA, am_tnM, Int.reduceToNat, am_addE, am_subE, am_mulE, am_laddE, am_lsubE, am_upO, am_upS, am_stS, am_stO, am_tnn, am_brl, am_brg, am_bre, am_brn, am_brG, am_brL, am_st1, am_no2, am_st2, am_clr]
    refine am_wp_br (fun h7 => ?_) (fun h7 => ?_)
    · refine am_wp_go rfl (by simp (disch := omega) only [h1, h2, h3, q1, q2, q3, o3.1, am_tnA, am_tnM, Int.reduceToNat, am_addE, am_subE, am_mulE, am_laddE, am_lsubE, am_upO, am_upS, am_stS, am_stO, am_tnn, am_brl, am_brg, am_bre, am_brn, am_brG, am_brL, am_st1, am_no2, am_st2, am_clr, and_self, true_and, and_true, true_or, or_true] <;> omega) ?_
      try simp (disch := omega) only [h1, h2, h3, q1, q2, q3, o3.1, am_tnA, am_tnM, Int.reduceToNat, am_addE, am_subE, am_mulE, am_laddE, am_lsubE, am_upO, am_upS, am_stS, am_stO, am_tnn, am_brl, am_brg, am_bre, am_brn, am_brG, am_brL, am_st1, am_no2, am_st2, am_clr]
      refine am_wp_cc rfl rfl rfl (congrArg Prod.fst hl.1) (w_minutesOn hl hp ⟨_, rfl, ?_⟩)
      refine am_wp_go rfl (by simp (disch := omega) only [h1, h2, h3, q1, q2, q3, o3.1, am_tnA, am_tnM, Int.reduceToNat, am_addE, am_subE, am_mulE, am_laddE, am_lsubE, am_upO, am_upS, am_stS, am_stO, am_tnn, am_brl, am_brg, am_bre, am_brn, am_brG, am_brL, am_st1, am_no2, am_st2, am_clr, and_self, true_and, and_true, true_or, or_true] <;> omega) ?_
      try simp (disch := omega) only [h1, h2, h3, q1, q2, q3, o3.1, am_tnA, am_tnM, Int.reduceToNat, am_addE, am_subE, am_mulE, am_laddE, am_lsubE, am_upO, am_upS, am_stS, am_stO, am_tnn, am_brl, am_brg, am_bre, am_brn, am_brG, am_brL, am_st1, am_no2, am_st2, am_clr]
      refine am_wp_ret rfl rfl ?_
      rw [e]
      exact h
    · omega
theorem w_doneSlices (ht : st_is sh R t) (ho : kit I (t + 1) W N) (hp : pl I (t + 9) G) (h : Q (am_yi (dnW W G)) (m, sl, sh, I, R)) : am_wp (d + 4) 117 0 [some (.inr (.inr (t))), none, none] [] (m, sl, sh, I, R) Q := by
  obtain ⟨h1, h2, h3, h4, hk, hl⟩ := id ht
  have o1 : I (t + 1) 6 = W 5 := ho.2.1.2.2.2.2.2.1
  have o2 := wk_nS ho.1
  have q1 := hk.1
  refine am_wp_go rfl (by simp (disch := omega) only [h1, h2, h3, q1, o1, am_orN, am_shl1, am_addE, am_subE, am_mulE, am_laddE, am_lsubE, am_upO, am_upS, am_stS, am_stO, am_tnn, am_brl, am_brg, am_bre, am_brn, am_brG, am_brL, am_st1, am_no2, am_st2, am_clr, and_self, true_and, and_true, true_or, or_true] <;> omega) ?_
  try simp (disch := omega) only [h1, h2, h3, q1, o1, am_orN, am_shl1, am_addE, am_subE, am_mulE, am_laddE, am_lsubE, am_upO, am_upS, am_stS, am_stO, am_tnn, am_brl, am_brg, am_bre, am_brn, am_brG, am_brL, am_st1, am_no2, am_st2, am_clr]
  refine am_lp0 (P := fun k => am_wp (d + 4) 117 4 [some (.inr (.inr (t))), some (.inl ((ax_bs (fun s => decide (lkW W G s 0 ≤ 0 ∧ lkW W G s 1 ≤ 0)) k : Int))), some (.inl ((k : Int)))] [] (m, sl, sh, I, R) Q) (nS W) (fun k hk ih => ?_)
  refine am_wp_go rfl (by simp (disch := omega) only [h1, h2, h3, q1, o1, am_orN, am_shl1, am_addE, am_subE, am_mulE, am_laddE, am_lsubE, am_upO, am_upS, am_stS, am_stO, am_tnn, am_brl, am_brg, am_bre, am_brn, am_brG, am_brL, am_st1, am_no2, am_st2, am_clr, and_self, true_and, and_true, true_or, or_true] <;> omega) ?_
  try simp (disch := omega) only [h1, h2, h3, q1, o1, am_orN, am_shl1, am_addE, am_subE, am_mulE, am_laddE, am_lsubE, am_upO, am_upS, am_stS, am_stO, am_tnn, am_brl, am_brg, am_bre, am_brn, am_brG, am_brL, am_st1, am_no2, am_st2, am_clr]
  refine am_wp_br (fun h12 => ?_) (fun h12 => ?_)
  · refine am_wp_go rfl (by simp (disch := omega) only [h1, h2, h3, q1, o1, am_orN, am_shl1, am_addE, am_subE, am_mulE, am_laddE, am_lsubE, am_upO, am_upS, am_stS, am_stO, am_tnn, am_brl, am_brg, am_bre, am_brn, am_brG, am_brL, am_st1, am_no2, am_st2, am_clr, and_self, true_and, and_true, true_or, or_true] <;> omega) ?_
    try simp (disch := omega) only [h1, h2, h3, q1, o1, am_orN, am_shl1, am_addE, am_subE, am_mulE, am_laddE, am_lsubE, am_upO, am_upS, am_stS, am_stO, am_tnn, am_brl, am_brg, am_bre, am_brn, am_brG, am_brL, am_st1, am_no2, am_st2, am_clr]
    refine am_wp_ret rfl rfl ?_
    rw [dnW, show nS W = k by omega] at h
    exact h
  · have h3 := ax_bs8 (p := fun s => decide (lkW W G s 0 ≤ 0 ∧ lkW W G s 1 ≤ 0)) (n := k) (by omega)
    have h4 := ax_p8 (s := k) (by omega)
    refine am_wp_go rfl (by simp (disch := omega) only [h1, h2, h3, q1, o1, am_orN, am_shl1, am_addE, am_subE, am_mulE, am_laddE, am_lsubE, am_upO, am_upS, am_stS, am_stO, am_tnn, am_brl, am_brg, am_bre, am_brn, am_brG, am_brL, am_st1, am_no2, am_st2, am_clr, and_self, true_and, and_true, true_or, or_true] <;> omega) ?_
    try simp (disch := omega) only [h1, h2, h3, q1, o1, am_orN, am_shl1, am_addE, am_subE, am_mulE, am_laddE, am_lsubE, am_upO, am_upS, am_stS, am_stO, am_tnn, am_brl, am_brg, am_bre, am_brn, am_brG, am_brL, am_st1, am_no2, am_st2, am_clr]
    have w0 := fun Q h => w_lacking (m := m) (sl := sl) (sh := sh) (R := R) (Q := Q) (d := d) (u := 0) (s := k) (by decide) (by omega) ht ho hp h
    have w1 := fun Q h => w_lacking (m := m) (sl := sl) (sh := sh) (R := R) (Q := Q) (d := d) (u := 1) (s := k) (by decide) (by omega) ht ho hp h
    simp only [Int.natCast_zero, Int.add_zero] at w0
    refine am_wp_cc rfl rfl rfl (congrArg Prod.fst h1) (w0 _ ⟨_, rfl, ?_⟩)
    refine am_wp_go rfl (by simp (disch := omega) only [h1, h2, h3, q1, o1, am_orN, am_shl1, am_addE, am_subE, am_mulE, am_laddE, am_lsubE, am_upO, am_upS, am_stS, am_stO, am_tnn, am_brl, am_brg, am_bre, am_brn, am_brG, am_brL, am_st1, am_no2, am_st2, am_clr, and_self, true_and, and_true, true_or, or_true] <;> omega) ?_
    try simp (disch := omega) only [h1, h2, h3, q1, o1, am_orN, am_shl1, am_addE, am_subE, am_mulE, am_laddE, am_lsubE, am_upO, am_upS, am_stS, am_stO, am_tnn, am_brl, am_brg, am_bre, am_brn, am_brG, am_brL, am_st1, am_no2, am_st2, am_clr]
    refine am_wp_br (fun h22 => ?_) (fun h22 => ?_)
    · refine am_wp_go rfl (by simp (disch := omega) only [h1, h2, h3, q1, o1, am_orN, am_shl1, am_addE, am_subE, am_mulE, am_laddE, am_lsubE, am_upO, am_upS, am_stS, am_stO, am_tnn, am_brl, am_brg, am_bre, am_brn, am_brG, am_brL, am_st1, am_no2, am_st2, am_clr, and_self, true_and, and_true, true_or, or_true] <;> omega) ?_
      try simp (disch := omega) only [h1, h2, h3, q1, o1, am_orN, am_shl1, am_addE, am_subE, am_mulE, am_laddE, am_lsubE, am_upO, am_upS, am_stS, am_stO, am_tnn, am_brl, am_brg, am_bre, am_brn, am_brG, am_brL, am_st1, am_no2, am_st2, am_clr]
      have h21 : decide (lkW W G k 0 ≤ 0 ∧ lkW W G k 1 ≤ 0) = false := decide_eq_false (by omega)
      exact am_wp_ls (ih (by omega)) (by simp (disch := omega) only [ax_bs, h21, cond_false, h1, h2, h3, q1, o1, am_orN, am_shl1, am_addE, am_subE, am_mulE, am_laddE, am_lsubE, am_upO, am_upS, am_stS, am_stO, am_tnn, am_brl, am_brg, am_bre, am_brn, am_brG, am_brL, am_st1, am_no2, am_st2, am_clr, List.cons.injEq, Option.some.injEq, Sum.inl.injEq, Sum.inr.injEq, and_self, true_and, and_true] <;> omega)
    · refine am_wp_go rfl (by simp (disch := omega) only [h1, h2, h3, q1, o1, am_orN, am_shl1, am_addE, am_subE, am_mulE, am_laddE, am_lsubE, am_upO, am_upS, am_stS, am_stO, am_tnn, am_brl, am_brg, am_bre, am_brn, am_brG, am_brL, am_st1, am_no2, am_st2, am_clr, and_self, true_and, and_true, true_or, or_true] <;> omega) ?_
      try simp (disch := omega) only [h1, h2, h3, q1, o1, am_orN, am_shl1, am_addE, am_subE, am_mulE, am_laddE, am_lsubE, am_upO, am_upS, am_stS, am_stO, am_tnn, am_brl, am_brg, am_bre, am_brn, am_brG, am_brL, am_st1, am_no2, am_st2, am_clr]
      refine am_wp_cc rfl rfl rfl (congrArg Prod.fst h1) (w1 _ ⟨_, rfl, ?_⟩)
      refine am_wp_go rfl (by simp (disch := omega) only [h1, h2, h3, q1, o1, am_orN, am_shl1, am_addE, am_subE, am_mulE, am_laddE, am_lsubE, am_upO, am_upS, am_stS, am_stO, am_tnn, am_brl, am_brg, am_bre, am_brn, am_brG, am_brL, am_st1, am_no2, am_st2, am_clr, and_self, true_and, and_true, true_or, or_true] <;> omega) ?_
      try simp (disch := omega) only [h1, h2, h3, q1, o1, am_orN, am_shl1, am_addE, am_subE, am_mulE, am_laddE, am_lsubE, am_upO, am_upS, am_stS, am_stO, am_tnn, am_brl, am_brg, am_bre, am_brn, am_brG, am_brL, am_st1, am_no2, am_st2, am_clr]
      refine am_wp_br (fun h34 => ?_) (fun h34 => ?_)
      · refine am_wp_go rfl (by simp (disch := omega) only [h1, h2, h3, q1, o1, am_orN, am_shl1, am_addE, am_subE, am_mulE, am_laddE, am_lsubE, am_upO, am_upS, am_stS, am_stO, am_tnn, am_brl, am_brg, am_bre, am_brn, am_brG, am_brL, am_st1, am_no2, am_st2, am_clr, and_self, true_and, and_true, true_or, or_true] <;> omega) ?_
        try simp (disch := omega) only [h1, h2, h3, q1, o1, am_orN, am_shl1, am_addE, am_subE, am_mulE, am_laddE, am_lsubE, am_upO, am_upS, am_stS, am_stO, am_tnn, am_brl, am_brg, am_bre, am_brn, am_brG, am_brL, am_st1, am_no2, am_st2, am_clr]
        have h21 : decide (lkW W G k 0 ≤ 0 ∧ lkW W G k 1 ≤ 0) = false := decide_eq_false (by omega)
        exact am_wp_ls (ih (by omega)) (by simp (disch := omega) only [ax_bs, h21, cond_false, h1, h2, h3, q1, o1, am_orN, am_shl1, am_addE, am_subE, am_mulE, am_laddE, am_lsubE, am_upO, am_upS, am_stS, am_stO, am_tnn, am_brl, am_brg, am_bre, am_brn, am_brG, am_brL, am_st1, am_no2, am_st2, am_clr, List.cons.injEq, Option.some.injEq, Sum.inl.injEq, Sum.inr.injEq, and_self, true_and, and_true] <;> omega)
      · refine am_wp_go rfl (by simp (disch := omega) only [h1, h2, h3, q1, o1, am_orN, am_shl1, am_addE, am_subE, am_mulE, am_laddE, am_lsubE, am_upO, am_upS, am_stS, am_stO, am_tnn, am_brl, am_brg, am_bre, am_brn, am_brG, am_brL, am_st1, am_no2, am_st2, am_clr, and_self, true_and, and_true, true_or, or_true] <;> omega) ?_
        try simp (disch := omega) only [h1, h2, h3, q1, o1, am_orN, am_shl1, am_addE, am_subE, am_mulE, am_laddE, am_lsubE, am_upO, am_upS, am_stS, am_stO, am_tnn, am_brl, am_brg, am_bre, am_brn, am_brG, am_brL, am_st1, am_no2, am_st2, am_clr]
        have h21 : decide (lkW W G k 0 ≤ 0 ∧ lkW W G k 1 ≤ 0) = true := decide_eq_true (by omega)
        exact am_wp_ls (ih (by omega)) (by simp (disch := omega) only [ax_bs, h21, cond_true, ax_bs_or, h1, h2, h3, q1, o1, am_orN, am_shl1, am_addE, am_subE, am_mulE, am_laddE, am_lsubE, am_upO, am_upS, am_stS, am_stO, am_tnn, am_brl, am_brg, am_bre, am_brn, am_brG, am_brL, am_st1, am_no2, am_st2, am_clr, List.cons.injEq, Option.some.injEq, Sum.inl.injEq, Sum.inr.injEq, and_self, true_and, and_true] <;> omega)
end STATE
