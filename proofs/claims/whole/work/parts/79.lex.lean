/-! TOKENS, abstract: b the bytes, n how many, lim behind which none begins -/
def lxL (c : Nat) : Bool := decide (97 ≤ c) && decide (c ≤ 122)
def lxD (c : Nat) : Bool := decide (48 ≤ c) && decide (c ≤ 57)
def lxA (c : Nat) : Bool := lxL c || lxD c
def lxB (c : Nat) : Bool := decide (c = 32) || decide (c = 10)
def lxG (c : Nat) : Bool := decide (c = 59) || (decide (c = 60) || (decide (c = 61) || (decide (c = 62) || (decide (c = 40) || decide (c = 41)))))
theorem lxL_t {c : Nat} : lxL c = true ↔ 97 ≤ c ∧ c ≤ 122 := by unfold lxL; rw [Bool.and_eq_true, decide_eq_true_iff, decide_eq_true_iff]
theorem lxD_t {c : Nat} : lxD c = true ↔ 48 ≤ c ∧ c ≤ 57 := by unfold lxD; rw [Bool.and_eq_true, decide_eq_true_iff, decide_eq_true_iff]
theorem lxA_t {c : Nat} : lxA c = true ↔ (97 ≤ c ∧ c ≤ 122) ∨ (48 ≤ c ∧ c ≤ 57) := by unfold lxA; rw [Bool.or_eq_true, lxL_t, lxD_t]
theorem lxB_t {c : Nat} : lxB c = true ↔ c = 32 ∨ c = 10 := by unfold lxB; rw [Bool.or_eq_true, decide_eq_true_iff, decide_eq_true_iff]
theorem lxG_t {c : Nat} : lxG c = true ↔ c = 59 ∨ c = 60 ∨ c = 61 ∨ c = 62 ∨ c = 40 ∨ c = 41 := by
  unfold lxG
  simp only [Bool.or_eq_true, decide_eq_true_iff]
theorem bfalse {x : Bool} (h : ¬ x = true) : x = false := by cases x; rfl; exact absurd rfl h
/-- the first of i, i + 1, .. below n with p; n for none -/
def fstN (p : Nat → Bool) (n i : Nat) : Nat := if am_ff p n i = -1 then n else (am_ff p n i).toNat
theorem fstN_end {p : Nat → Bool} {n i : Nat} (h : n ≤ i) : fstN p n i = n := by unfold fstN; rw [am_ff_end h, if_pos rfl]
theorem fstN_hit {p : Nat → Bool} {n i : Nat} (h : i < n) (hp : p i = true) : fstN p n i = i := by
  unfold fstN
  rw [am_ff_hit h hp, if_neg (by omega), am_tnn]
theorem fstN_on {p : Nat → Bool} {n i : Nat} (hp : p i = false) : fstN p n i = fstN p n (i + 1) := by unfold fstN; rw [am_ff_on hp]
theorem fstN_v {p : Nat → Bool} {n : Nat} : ∀ (e i : Nat), i + e = n → i ≤ fstN p n i ∧ fstN p n i ≤ n ∧ (∀ k, i ≤ k → k < fstN p n i → p k = false) ∧ (fstN p n i < n → p (fstN p n i) = true)
  | 0, i, h => by rw [fstN_end (by omega)]; exact ⟨by omega, Nat.le_refl n, fun k h1 h2 => by omega, fun h1 => by omega⟩
  | e + 1, i, h => by
    cases hp : p i with
    | true => rw [fstN_hit (by omega) hp]; exact ⟨Nat.le_refl i, by omega, fun k h1 h2 => by omega, fun _ => hp⟩
    | false =>
      obtain ⟨h1, h2, h3, h4⟩ := fstN_v (p := p) (n := n) e (i + 1) (by omega)
      rw [fstN_on hp]
      refine ⟨by omega, h2, fun k k1 k2 => ?_, h4⟩
      by_cases hk : k = i
      · rw [hk]; exact hp
      · exact h3 k (by omega) k2
theorem fstN_le {p : Nat → Bool} {n i : Nat} (h : i ≤ n) : i ≤ fstN p n i ∧ fstN p n i ≤ n := ⟨(fstN_v (n - i) i (by omega)).1, (fstN_v (n - i) i (by omega)).2.1⟩
def lxS (b : Nat → Nat) (n i : Nat) : Nat := fstN (fun k => !lxB (b k)) n i
def lxE (b : Nat → Nat) (n i : Nat) : Nat := fstN (fun k => !lxA (b k)) n i
def lxW (b : Nat → Nat) (f k : Nat) : List Nat := (List.range k).map (fun i => b (f + i) - 96)
def lxN (b : Nat → Nat) (f : Nat) : Nat → Nat
  | 0 => 0
  | k + 1 => 10 * lxN b f k + (b (f + k) - 48)
def lxK (b : Nat → Nat) (f k : Nat) : Nat := if (∀ i, i < k → lxL (b (f + i)) = true) ∧ k ≤ 6 then 2 else if (∀ i, i < k → lxD (b (f + i)) = true) ∧ k ≤ 3 then 4 else 1
abbrev Tk : Type := Nat × Nat × List Nat × Nat
def lxT (b : Nat → Nat) (n lim i : Nat) : Tk :=
  if lim < n ∧ lim ≤ lxS b n i then (1, lim, [], 0)
  else if n ≤ lxS b n i then (0, n, [], 0)
  else if lxA (b (lxS b n i)) = true then (lxK b (lxS b n i) (lxE b n (lxS b n i) - lxS b n i), lxS b n i, lxW b (lxS b n i) (lxE b n (lxS b n i) - lxS b n i), lxN b (lxS b n i) (lxE b n (lxS b n i) - lxS b n i))
  else ((if lxG (b (lxS b n i)) = true then 5 else 1), lxS b n i, [], b (lxS b n i))
def lxX (b : Nat → Nat) (n i : Nat) : Nat := if lxS b n i < n then (if lxA (b (lxS b n i)) = true then lxE b n (lxS b n i) else lxS b n i + 1) else n
/-- where the TOKENS begin to be looked for -/
def lxP (b : Nat → Nat) (n : Nat) : Nat → Nat
  | 0 => 0
  | j + 1 => lxX b n (lxP b n j)
def lxJ (b : Nat → Nat) (n lim j : Nat) : Tk := lxT b n lim (lxP b n j)
theorem lxN_s {b : Nat → Nat} {f k : Nat} : lxN b f (k + 1) = 10 * lxN b f k + (b (f + k) - 48) := rfl
theorem lxW_s {b : Nat → Nat} {f k : Nat} : lxW b f (k + 1) = lxW b f k ++ [b (f + k) - 96] := by unfold lxW; rw [List.range_succ, List.map_append]; rfl
theorem lxW_len {b : Nat → Nat} {f k : Nat} : (lxW b f k).length = k := by unfold lxW; rw [List.length_map, List.length_range]
theorem lxW_32 {b : Nat → Nat} {f k : Nat} : nm32 (lxW b f (k + 1)) = nm32 (lxW b f k) * 32 + (b (f + k) - 96) := by rw [lxW_s]; unfold nm32; rw [List.foldl_append]; rfl
theorem lxW_27 {b : Nat → Nat} {f k : Nat} : nm27 (lxW b f (k + 1)) = 27 * nm27 (lxW b f k) + (b (f + k) - 96) := by rw [lxW_s]; unfold nm27; rw [List.foldl_append]; rfl
theorem lxW_b {b : Nat → Nat} {f : Nat} : ∀ k, (∀ i, i < k → lxL (b (f + i)) = true) → nm32 (lxW b f k) < 32 ^ k ∧ nm27 (lxW b f k) < 27 ^ k
  | 0, _ => ⟨Nat.zero_lt_one, Nat.zero_lt_one⟩
  | k + 1, h => by
    have ih := lxW_b k (fun i hi => h i (by omega))
    have := lxL_t.mp (h k (by omega))
    rw [lxW_32, lxW_27, Nat.pow_succ, Nat.pow_succ]
    omega
theorem lxN_b {b : Nat → Nat} {f : Nat} : ∀ k, (∀ i, i < k → lxD (b (f + i)) = true) → lxN b f k < 10 ^ k
  | 0, _ => Nat.zero_lt_one
  | k + 1, h => by
    have ih := lxN_b k (fun i hi => h i (by omega))
    have := lxD_t.mp (h k (by omega))
    unfold lxN
    rw [Nat.pow_succ]
    omega
theorem lxW_ok {b : Nat → Nat} {f k : Nat} (h1 : 1 ≤ k) (h2 : k ≤ 6) (h : ∀ i, i < k → lxL (b (f + i)) = true) : letOk (lxW b f k) := by
  refine ⟨by rw [lxW_len]; exact h1, by rw [lxW_len]; exact h2, fun i hi => ?_⟩
  rw [lxW_len] at hi
  have := lxL_t.mp (h i hi)
  unfold lxW
  rw [List.getD_eq_getElem?_getD, List.getElem?_map, List.getElem?_range hi]
  simp only [Option.map_some, Option.getD_some]
  omega
theorem lxP_le {b : Nat → Nat} {n : Nat} : ∀ j, lxP b n j ≤ n
  | 0 => Nat.zero_le n
  | j + 1 => by
    have ih := lxP_le (b := b) (n := n) j
    show lxX b n (lxP b n j) ≤ n
    unfold lxX
    split
    · split
      · exact (fstN_le (by omega)).2
      · omega
    · exact Nat.le_refl n
/-- letters and digits between a TOKEN's first and its end -/
theorem lxE_v {b : Nat → Nat} {n f : Nat} (hf : f < n) (ha : lxA (b f) = true) : f + 1 ≤ lxE b n f ∧ lxE b n f ≤ n ∧ (∀ k, f ≤ k → k < lxE b n f → lxA (b k) = true) ∧ (lxE b n f < n → lxA (b (lxE b n f)) = false) := by
  obtain ⟨h1, h2, h3, h4⟩ := fstN_v (p := fun k => !lxA (b k)) (n := n) (n - f) f (by omega)
  have hne : lxE b n f ≠ f := fun hc => by
    have := h4 (by have : fstN (fun k => !lxA (b k)) n f = f := hc; omega)
    have hc2 : fstN (fun k => !lxA (b k)) n f = f := hc
    rw [hc2] at this
    try dsimp only at this
    rw [ha] at this
    cases this
  refine ⟨?_, h2, fun k k1 k2 => ?_, fun hl => ?_⟩
  · have : f ≤ lxE b n f := h1
    omega
  · have := h3 k k1 k2
    try dsimp only at this
    cases hx : lxA (b k) with
    | true => rfl
    | false => rw [hx] at this; cases this
  · have := h4 hl
    try dsimp only at this
    cases hx : lxA (b (lxE b n f)) with
    | false => rfl
    | true =>
      have e : fstN (fun k => !lxA (b k)) n f = lxE b n f := rfl
      rw [e, hx] at this
      cases this
/-! the reference's next() -/
def rK (t : Tk) : Int := if t.1 = 4 then 3 else if t.1 = 5 then 4 else (t.1 : Int)
/-- what stands behind next(): the TOKEN t, the place behind it -/
def rTk (J : Nat → Nat → Int) (t : Tk) : Prop := J 124 7 = rK t ∧ J 124 6 = (t.2.1 : Int) ∧ (t.1 = 2 → J 124 12 = (nm27 t.2.2.1 : Int)) ∧ (t.1 = 4 → J 124 8 = (t.2.2.2 : Int)) ∧ (t.1 = 5 → J 124 9 = (t.2.2.2 : Int))
def fr6 (I J : Nat → Nat → Int) : Prop := (∀ a, a ≠ 124 → J a = I a) ∧ ∀ j, j ≠ 5 → j ≠ 6 → j ≠ 7 → j ≠ 8 → j ≠ 9 → j ≠ 12 → J 124 j = I 124 j
theorem fr6_up {I J : Nat → Nat → Int} (h : fr6 I J) {j : Nat} {x : Int} (hj : j = 5 ∨ j = 6 ∨ j = 7 ∨ j = 8 ∨ j = 9 ∨ j = 12) : fr6 I (am_up J 124 j x) := ⟨fun a ha => by rw [am_upO ha, h.1 a ha], fun k h1 h2 h3 h4 h5 h6 => by rw [am_upS, am_stO (by omega), h.2 k h1 h2 h3 h4 h5 h6]⟩
section LEX
variable {m sl : Nat} {sh : Nat → Nat × Nat} {I : Nat → Nat → Int} {R : Nat → Nat → Nat} {Q : am_R → am_M → Prop} {d : Nat} {b : Nat → Nat} {n lim i : Nat}
theorem w_M_isLetter {c : Nat} (h : Q (am_yi (am_b (lxL c = true))) (m, sl, sh, I, R)) : am_wp (d) 204 0 [some (.inl ((c : Int)))] [] (m, sl, sh, I, R) Q := by
  rw [am_b_iff (e := 97 ≤ c ∧ c ≤ 122) lxL_t] at h
  refine am_wp_go rfl (by simp (disch := omega) only [am_addE, am_subE, am_mulE, am_laddE, am_lsubE, am_upO, am_upS, am_stS, am_stO, am_tnn, am_brl, am_brg, am_bre, am_brn, am_brG, am_brL, am_st1, am_no2, am_st2, am_clr, and_self, true_and, and_true, true_or, or_true, List.length_cons, List.length_nil] <;> omega) ?_
  try simp (disch := omega) only [am_addE, am_subE, am_mulE, am_laddE, am_lsubE, am_upO, am_upS, am_stS, am_stO, am_tnn, am_brl, am_brg, am_bre, am_brn, am_brG, am_brL, am_st1, am_no2, am_st2, am_clr]
  refine am_wp_br (fun b3 => ?_) (fun b3 => ?_)
  · refine am_wp_go rfl (by simp (disch := omega) only [am_addE, am_subE, am_mulE, am_laddE, am_lsubE, am_upO, am_upS, am_stS, am_stO, am_tnn, am_brl, am_brg, am_bre, am_brn, am_brG, am_brL, am_st1, am_no2, am_st2, am_clr, and_self, true_and, and_true, true_or, or_true, List.length_cons, List.length_nil] <;> omega) ?_
    try simp (disch := omega) only [am_addE, am_subE, am_mulE, am_laddE, am_lsubE, am_upO, am_upS, am_stS, am_stO, am_tnn, am_brl, am_brg, am_bre, am_brn, am_brG, am_brL, am_st1, am_no2, am_st2, am_clr]
    refine am_wp_ret rfl rfl ?_
    rwa [am_bF (by omega)] at h
  · refine am_wp_go rfl (by simp (disch := omega) only [am_addE, am_subE, am_mulE, am_laddE, am_lsubE, am_upO, am_upS, am_stS, am_stO, am_tnn, am_brl, am_brg, am_bre, am_brn, am_brG, am_brL, am_st1, am_no2, am_st2, am_clr, and_self, true_and, and_true, true_or, or_true, List.length_cons, List.length_nil] <;> omega) ?_
    try simp (disch := omega) only [am_addE, am_subE, am_mulE, am_laddE, am_lsubE, am_upO, am_upS, am_stS, am_stO, am_tnn, am_brl, am_brg, am_bre, am_brn, am_brG, am_brL, am_st1, am_no2, am_st2, am_clr]
    refine am_wp_br (fun b9 => ?_) (fun b9 => ?_)
    · refine am_wp_go rfl (by simp (disch := omega) only [am_addE, am_subE, am_mulE, am_laddE, am_lsubE, am_upO, am_upS, am_stS, am_stO, am_tnn, am_brl, am_brg, am_bre, am_brn, am_brG, am_brL, am_st1, am_no2, am_st2, am_clr, and_self, true_and, and_true, true_or, or_true, List.length_cons, List.length_nil] <;> omega) ?_
      try simp (disch := omega) only [am_addE, am_subE, am_mulE, am_laddE, am_lsubE, am_upO, am_upS, am_stS, am_stO, am_tnn, am_brl, am_brg, am_bre, am_brn, am_brG, am_brL, am_st1, am_no2, am_st2, am_clr]
      refine am_wp_ret rfl rfl ?_
      rwa [am_bF (by omega)] at h
    · refine am_wp_go rfl (by simp (disch := omega) only [am_addE, am_subE, am_mulE, am_laddE, am_lsubE, am_upO, am_upS, am_stS, am_stO, am_tnn, am_brl, am_brg, am_bre, am_brn, am_brG, am_brL, am_st1, am_no2, am_st2, am_clr, and_self, true_and, and_true, true_or, or_true, List.length_cons, List.length_nil] <;> omega) ?_
      try simp (disch := omega) only [am_addE, am_subE, am_mulE, am_laddE, am_lsubE, am_upO, am_upS, am_stS, am_stO, am_tnn, am_brl, am_brg, am_bre, am_brn, am_brG, am_brL, am_st1, am_no2, am_st2, am_clr]
      refine am_wp_ret rfl rfl ?_
      rwa [am_bT (by omega)] at h
theorem w_M_isDigit {c : Nat} (h : Q (am_yi (am_b (lxD c = true))) (m, sl, sh, I, R)) : am_wp (d) 203 0 [some (.inl ((c : Int)))] [] (m, sl, sh, I, R) Q := by
  rw [am_b_iff (e := 48 ≤ c ∧ c ≤ 57) lxD_t] at h
  refine am_wp_go rfl (by simp (disch := omega) only [am_addE, am_subE, am_mulE, am_laddE, am_lsubE, am_upO, am_upS, am_stS, am_stO, am_tnn, am_brl, am_brg, am_bre, am_brn, am_brG, am_brL, am_st1, am_no2, am_st2, am_clr, and_self, true_and, and_true, true_or, or_true, List.length_cons, List.length_nil] <;> omega) ?_
  try simp (disch := omega) only [am_addE, am_subE, am_mulE, am_laddE, am_lsubE, am_upO, am_upS, am_stS, am_stO, am_tnn, am_brl, am_brg, am_bre, am_brn, am_brG, am_brL, am_st1, am_no2, am_st2, am_clr]
  refine am_wp_br (fun b3 => ?_) (fun b3 => ?_)
  · refine am_wp_go rfl (by simp (disch := omega) only [am_addE, am_subE, am_mulE, am_laddE, am_lsubE, am_upO, am_upS, am_stS, am_stO, am_tnn, am_brl, am_brg, am_bre, am_brn, am_brG, am_brL, am_st1, am_no2, am_st2, am_clr, and_self, true_and, and_true, true_or, or_true, List.length_cons, List.length_nil] <;> omega) ?_
    try simp (disch := omega) only [am_addE, am_subE, am_mulE, am_laddE, am_lsubE, am_upO, am_upS, am_stS, am_stO, am_tnn, am_brl, am_brg, am_bre, am_brn, am_brG, am_brL, am_st1, am_no2, am_st2, am_clr]
    refine am_wp_ret rfl rfl ?_
    rwa [am_bF (by omega)] at h
  · refine am_wp_go rfl (by simp (disch := omega) only [am_addE, am_subE, am_mulE, am_laddE, am_lsubE, am_upO, am_upS, am_stS, am_stO, am_tnn, am_brl, am_brg, am_bre, am_brn, am_brG, am_brL, am_st1, am_no2, am_st2, am_clr, and_self, true_and, and_true, true_or, or_true, List.length_cons, List.length_nil] <;> omega) ?_
    try simp (disch := omega) only [am_addE, am_subE, am_mulE, am_laddE, am_lsubE, am_upO, am_upS, am_stS, am_stO, am_tnn, am_brl, am_brg, am_bre, am_brn, am_brG, am_brL, am_st1, am_no2, am_st2, am_clr]
    refine am_wp_br (fun b9 => ?_) (fun b9 => ?_)
    · refine am_wp_go rfl (by simp (disch := omega) only [am_addE, am_subE, am_mulE, am_laddE, am_lsubE, am_upO, am_upS, am_stS, am_stO, am_tnn, am_brl, am_brg, am_bre, am_brn, am_brG, am_brL, am_st1, am_no2, am_st2, am_clr, and_self, true_and, and_true, true_or, or_true, List.length_cons, List.length_nil] <;> omega) ?_
      try simp (disch := omega) only [am_addE, am_subE, am_mulE, am_laddE, am_lsubE, am_upO, am_upS, am_stS, am_stO, am_tnn, am_brl, am_brg, am_bre, am_brn, am_brG, am_brL, am_st1, am_no2, am_st2, am_clr]
      refine am_wp_ret rfl rfl ?_
      rwa [am_bF (by omega)] at h
    · refine am_wp_go rfl (by simp (disch := omega) only [am_addE, am_subE, am_mulE, am_laddE, am_lsubE, am_upO, am_upS, am_stS, am_stO, am_tnn, am_brl, am_brg, am_bre, am_brn, am_brG, am_brL, am_st1, am_no2, am_st2, am_clr, and_self, true_and, and_true, true_or, or_true, List.length_cons, List.length_nil] <;> omega) ?_
      try simp (disch := omega) only [am_addE, am_subE, am_mulE, am_laddE, am_lsubE, am_upO, am_upS, am_stS, am_stO, am_tnn, am_brl, am_brg, am_bre, am_brn, am_brG, am_brL, am_st1, am_no2, am_st2, am_clr]
      refine am_wp_ret rfl rfl ?_
      rwa [am_bT (by omega)] at h
theorem w_M_tapeAt {k : Nat} (hw : wd sh R) (hn : n ≤ 640) (h3 : I 124 3 = (n : Int)) (hb : ∀ k, k < n → I 125 k = (b k : Int)) (h : Q (am_yi (if k < n then (b k : Int) else 0)) (m, sl, sh, I, R)) : am_wp (d) 202 0 [some (.inr (.inr (124))), some (.inl ((k : Int)))] [] (m, sl, sh, I, R) Q := by
  by_cases hk : k < n
  · rw [if_pos hk] at h
    have e := hb k hk
    refine am_wp_go rfl (by simp (disch := omega) only [s124 hw, r124_1 hw, s125 hw, h3, e, am_addE, am_subE, am_mulE, am_laddE, am_lsubE, am_upO, am_upS, am_stS, am_stO, am_tnn, am_brl, am_brg, am_bre, am_brn, am_brG, am_brL, am_st1, am_no2, am_st2, am_clr, and_self, true_and, and_true, true_or, or_true, List.length_cons, List.length_nil] <;> omega) ?_
    try simp (disch := omega) only [s124 hw, r124_1 hw, s125 hw, h3, e, am_addE, am_subE, am_mulE, am_laddE, am_lsubE, am_upO, am_upS, am_stS, am_stO, am_tnn, am_brl, am_brg, am_bre, am_brn, am_brG, am_brL, am_st1, am_no2, am_st2, am_clr]
    refine am_wp_br (fun b5 => ?_) (fun b5 => ?_)
    · omega
    · refine am_wp_go rfl (by simp (disch := omega) only [s124 hw, r124_1 hw, s125 hw, h3, e, am_addE, am_subE, am_mulE, am_laddE, am_lsubE, am_upO, am_upS, am_stS, am_stO, am_tnn, am_brl, am_brg, am_bre, am_brn, am_brG, am_brL, am_st1, am_no2, am_st2, am_clr, and_self, true_and, and_true, true_or, or_true, List.length_cons, List.length_nil] <;> omega) ?_
      try simp (disch := omega) only [s124 hw, r124_1 hw, s125 hw, h3, e, am_addE, am_subE, am_mulE, am_laddE, am_lsubE, am_upO, am_upS, am_stS, am_stO, am_tnn, am_brl, am_brg, am_bre, am_brn, am_brG, am_brL, am_st1, am_no2, am_st2, am_clr]
      refine am_wp_ret rfl rfl ?_
      exact h
  · rw [if_neg hk] at h
    refine am_wp_go rfl (by simp (disch := omega) only [s124 hw, r124_1 hw, s125 hw, h3, am_addE, am_subE, am_mulE, am_laddE, am_lsubE, am_upO, am_upS, am_stS, am_stO, am_tnn, am_brl, am_brg, am_bre, am_brn, am_brG, am_brL, am_st1, am_no2, am_st2, am_clr, and_self, true_and, and_true, true_or, or_true, List.length_cons, List.length_nil] <;> omega) ?_
    try simp (disch := omega) only [s124 hw, r124_1 hw, s125 hw, h3, am_addE, am_subE, am_mulE, am_laddE, am_lsubE, am_upO, am_upS, am_stS, am_stO, am_tnn, am_brl, am_brg, am_bre, am_brn, am_brG, am_brL, am_st1, am_no2, am_st2, am_clr]
    refine am_wp_br (fun b5 => ?_) (fun b5 => ?_)
    · refine am_wp_go rfl (by simp (disch := omega) only [s124 hw, r124_1 hw, s125 hw, h3, am_addE, am_subE, am_mulE, am_laddE, am_lsubE, am_upO, am_upS, am_stS, am_stO, am_tnn, am_brl, am_brg, am_bre, am_brn, am_brG, am_brL, am_st1, am_no2, am_st2, am_clr, and_self, true_and, and_true, true_or, or_true, List.length_cons, List.length_nil] <;> omega) ?_
      try simp (disch := omega) only [s124 hw, r124_1 hw, s125 hw, h3, am_addE, am_subE, am_mulE, am_laddE, am_lsubE, am_upO, am_upS, am_stS, am_stO, am_tnn, am_brl, am_brg, am_bre, am_brn, am_brG, am_brL, am_st1, am_no2, am_st2, am_clr]
      refine am_wp_ret rfl rfl ?_
      exact h
    · omega
end LEX
