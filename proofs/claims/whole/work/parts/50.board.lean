/-! THE BOARD -/
def bitG (G : List Go) (t : Nat) (j : Nat) : Nat := if gB G j ≤ t ∧ (t : Int) < gB G j + gN G j then 2 ^ (gL G j).toNat ||| 2 ^ (4 + (2 * gS G j + gU G j).toNat) else 0
def mkG (G : List Go) (k t : Nat) : Nat := ax_or (bitG G t) k
def hadG (G : List Go) (k : Nat) (s : Int) : Int := am_fsum (fun j => if 2 * gS G j + gU G j = s then gN G j else 0) k
/-- the first k GOES of G are on the board -/
def bd (I : Nat → Nat → Int) (G : List Go) (k : Nat) : Prop := (∀ t, t < 1000 → I 62 t = (mkG G k t : Int)) ∧ ∀ s, s < 16 → I 63 s = hadG G k s
theorem ax_or_tb {f : Nat → Nat} {k b : Nat} : (ax_or f k).testBit b = true ↔ ∃ j, j < k ∧ (f j).testBit b = true := by
  induction k with
  | zero => simp [ax_or]
  | succ k ih =>
    unfold ax_or
    rw [Nat.testBit_or, Bool.or_eq_true, ih]
    constructor
    · rintro (⟨j, hj, h⟩ | h)
      · exact ⟨j, by omega, h⟩
      · exact ⟨k, by omega, h⟩
    · rintro ⟨j, hj, h⟩
      by_cases hjk : j = k
      · subst hjk; exact Or.inr h
      · exact Or.inl ⟨j, by omega, h⟩
theorem ax_and_ne {x y : Nat} : (x &&& y ≠ 0) ↔ ∃ b, x.testBit b = true ∧ y.testBit b = true := by
  constructor
  · intro h
    refine Classical.byContradiction (fun hn => h ?_)
    refine Nat.eq_of_testBit_eq (fun b => ?_)
    rw [Nat.testBit_and, Nat.zero_testBit]
    cases h1 : x.testBit b with
    | false => rfl
    | true =>
      cases h2 : y.testBit b with
      | false => rfl
      | true => exact absurd ⟨b, h1, h2⟩ hn
  · rintro ⟨b, h1, h2⟩ h
    have h3 : (x &&& y).testBit b = true := by rw [Nat.testBit_and, h1, h2]; rfl
    rw [h, Nat.zero_testBit] at h3
    cases h3
theorem mk_and {G : List Go} {k t x : Nat} : (mkG G k t &&& x ≠ 0) ↔ ∃ j, j < k ∧ (gB G j ≤ t ∧ (t : Int) < gB G j + gN G j) ∧ (x.testBit (gL G j).toNat = true ∨ x.testBit (4 + (2 * gS G j + gU G j).toNat) = true) := by
  rw [ax_and_ne]
  unfold mkG
  constructor
  · rintro ⟨b, h1, h2⟩
    obtain ⟨j, hj, h3⟩ := ax_or_tb.mp h1
    unfold bitG at h3
    split at h3
    · rename_i hon
      rw [Nat.testBit_or, Nat.testBit_two_pow, Nat.testBit_two_pow, Bool.or_eq_true, decide_eq_true_iff, decide_eq_true_iff] at h3
      refine ⟨j, hj, hon, ?_⟩
      rcases h3 with h3 | h3
      · rw [h3]; exact Or.inl h2
      · rw [h3]; exact Or.inr h2
    · rw [Nat.zero_testBit] at h3; cases h3
  · rintro ⟨j, hj, hon, h3⟩
    rcases h3 with h3 | h3
    · refine ⟨_, ax_or_tb.mpr ⟨j, hj, ?_⟩, h3⟩
      unfold bitG
      rw [if_pos hon, Nat.testBit_or, Nat.testBit_two_pow]
      simp
    · refine ⟨_, ax_or_tb.mpr ⟨j, hj, ?_⟩, h3⟩
      unfold bitG
      rw [if_pos hon, Nat.testBit_or, Nat.testBit_two_pow, Nat.testBit_two_pow]
      simp
theorem ax_p20 {s : Nat} (h : s < 20) : 2 ^ s < 1048576 := Nat.lt_of_le_of_lt (Nat.pow_le_pow_right (by decide) (by omega : s ≤ 19)) (by decide)
theorem ax_or20 {a b : Nat} (ha : a < 1048576) (hb : b < 1048576) : a ||| b < 1048576 := Nat.or_lt_two_pow (n := 20) ha hb
theorem bitG_lt {G : List Go} (hg : gok G) {t j : Nat} (hj : j < G.length) : bitG G t j < 1048576 := by
  have := hg.2 j hj
  unfold bitG
  split
  · exact ax_or20 (ax_p20 (by omega)) (ax_p20 (by omega))
  · decide
theorem mkG_lt {G : List Go} (hg : gok G) {k t : Nat} (hk : k ≤ G.length) : mkG G k t < 1048576 := by
  unfold mkG
  induction k with
  | zero => exact (by decide : 0 < 1048576)
  | succ k ih => exact ax_or20 (ih (by omega)) (bitG_lt hg (by omega))
theorem hadG_le {G : List Go} (hg : gok G) {k : Nat} {s : Int} (hk : k ≤ G.length) : 0 ≤ hadG G k s ∧ hadG G k s ≤ 8000 := by
  have h1 := hg.1
  have := am_fsum_le (f := fun j => if 2 * gS G j + gU G j = s then gN G j else 0) (b := 20) (n := k) (fun j hj => by
    have := hg.2 j (by omega)
    split <;> omega)
  unfold hadG
  omega
theorem hadG_pos {G : List Go} (hg : gok G) {k : Nat} {s : Int} (hk : k ≤ G.length) : 0 < hadG G k s ↔ ∃ j, j < k ∧ 2 * gS G j + gU G j = s := by
  unfold hadG
  induction k with
  | zero => exact ⟨fun h => absurd h (by simp [am_fsum]), fun ⟨j, h, _⟩ => absurd h (Nat.not_lt_zero j)⟩
  | succ k ih =>
    have h1 := hadG_le hg (k := k) (s := s) (by omega)
    unfold hadG at h1
    have h2 := hg.2 k (by omega)
    unfold am_fsum
    by_cases hs : 2 * gS G k + gU G k = s
    · rw [if_pos hs]
      exact ⟨fun _ => ⟨k, by omega, hs⟩, fun _ => by omega⟩
    · rw [if_neg hs, Int.add_zero, ih (by omega)]
      exact ⟨fun ⟨j, a, b⟩ => ⟨j, by omega, b⟩, fun ⟨j, a, b⟩ => ⟨j, by rcases Nat.lt_or_ge j k with h | h; exact h; exact absurd (show j = k by omega ▸ b) (by intro e; rw [show j = k by omega] at b; exact absurd b hs), b⟩⟩
section BOARD
variable {m sl : Nat} {sh : Nat → Nat × Nat} {I : Nat → Nat → Int} {R : Nat → Nat → Nat} {Q : am_R → am_M → Prop} {d p k : Nat} {W N : Nat → Int} {G : List Go}
theorem w_fill {a n : Nat} {x : Int} (h4 : 4 ≤ a) (hs : sh a = (32, n)) (hn : n ≤ 100000) (h : ∀ J, (∀ b, b ≠ a → J b = I b) → (∀ j, j < n → J a j = x) → (∀ j, n ≤ j → J a j = I a j) → Q am_yv (m, sl, sh, J, R)) : am_wp (d) 328 0 [some (.inr (.inr (a))), some (.inl (x)), none, none] [] (m, sl, sh, I, R) Q := by
  refine am_wp_go rfl (by simp (disch := omega) only [hs, am_addE, am_subE, am_mulE, am_laddE, am_lsubE, am_upO, am_upS, am_stS, am_stO, am_tnn, am_brl, am_brg, am_bre, am_brn, am_brG, am_brL, am_st1, am_no2, am_st2, am_clr, and_self, true_and, and_true, true_or, or_true, List.length_cons, List.length_nil] <;> omega) ?_
  try simp (disch := omega) only [hs, am_addE, am_subE, am_mulE, am_laddE, am_lsubE, am_upO, am_upS, am_stS, am_stO, am_tnn, am_brl, am_brg, am_bre, am_brn, am_brG, am_brL, am_st1, am_no2, am_st2, am_clr]
  refine am_lp0 (P := fun i => ∀ J, (∀ b, b ≠ a → J b = I b) → (∀ j, j < i → J a j = x) → (∀ j, n ≤ j → J a j = I a j) → am_wp (d) 328 5 [some (.inr (.inr (a))), some (.inl (x)), some (.inl ((i : Int))), some (.inl ((n : Int)))] [] (m, sl, sh, J, R) Q) n (fun i hi ih J j1 j2 j3 => ?_) I (fun _ _ => rfl) (fun j hj => absurd hj (Nat.not_lt_zero j)) (fun _ _ => rfl)
  refine am_wp_go rfl (by simp (disch := omega) only [hs, am_addE, am_subE, am_mulE, am_laddE, am_lsubE, am_upO, am_upS, am_stS, am_stO, am_tnn, am_brl, am_brg, am_bre, am_brn, am_brG, am_brL, am_st1, am_no2, am_st2, am_clr, and_self, true_and, and_true, true_or, or_true, List.length_cons, List.length_nil] <;> omega) ?_
  try simp (disch := omega) only [hs, am_addE, am_subE, am_mulE, am_laddE, am_lsubE, am_upO, am_upS, am_stS, am_stO, am_tnn, am_brl, am_brg, am_bre, am_brn, am_brG, am_brL, am_st1, am_no2, am_st2, am_clr]
  refine am_wp_br (fun b7 => ?_) (fun b7 => ?_)
  · refine am_wp_ret rfl rfl ?_
    exact h J j1 (fun j hj => j2 j (by omega)) j3
  · refine am_wp_go rfl (by simp (disch := omega) only [hs, am_addE, am_subE, am_mulE, am_laddE, am_lsubE, am_upO, am_upS, am_stS, am_stO, am_tnn, am_brl, am_brg, am_bre, am_brn, am_brG, am_brL, am_st1, am_no2, am_st2, am_clr, and_self, true_and, and_true, true_or, or_true, List.length_cons, List.length_nil] <;> omega) ?_
    try simp (disch := omega) only [hs, am_addE, am_subE, am_mulE, am_laddE, am_lsubE, am_upO, am_upS, am_stS, am_stO, am_tnn, am_brl, am_brg, am_bre, am_brn, am_brG, am_brL, am_st1, am_no2, am_st2, am_clr]
    refine am_wp_ls (ih (by omega) _ (fun b hb => by rw [am_upO hb, j1 b hb]) (fun j hj => ?_) (fun j hj => by rw [am_upS, am_stO (by omega), j3 j hj])) rfl
    rw [am_upS]
    by_cases hji : j = i
    · rw [am_stS hji]
    · rw [am_stO hji]; exact j2 j (by omega)
theorem w_bclear (hw : wd sh R) (h : ∀ J, (∀ a, a ≠ 62 → a ≠ 63 → J a = I a) → (∀ G, bd J G 0) → Q am_yv (m, sl, sh, J, R)) : am_wp (d + 1) 1 0 [some (.inr (.inr (61)))] [] (m, sl, sh, I, R) Q := by
  refine am_wp_go rfl (by simp (disch := omega) only [s61 hw, r61_0 hw, r61_1 hw, am_addE, am_subE, am_mulE, am_laddE, am_lsubE, am_upO, am_upS, am_stS, am_stO, am_tnn, am_brl, am_brg, am_bre, am_brn, am_brG, am_brL, am_st1, am_no2, am_st2, am_clr, and_self, true_and, and_true, true_or, or_true, List.length_cons, List.length_nil] <;> omega) ?_
  try simp (disch := omega) only [s61 hw, r61_0 hw, r61_1 hw, am_addE, am_subE, am_mulE, am_laddE, am_lsubE, am_upO, am_upS, am_stS, am_stO, am_tnn, am_brl, am_brg, am_bre, am_brn, am_brG, am_brL, am_st1, am_no2, am_st2, am_clr]
  refine am_wp_cc rfl rfl rfl (trivial) (w_fill (a := 62) (by decide) (s62 hw) (by decide) (fun J j1 j2 j3 => ⟨_, rfl, ?_⟩))
  refine am_wp_go rfl (by simp (disch := omega) only [s61 hw, r61_0 hw, r61_1 hw, am_addE, am_subE, am_mulE, am_laddE, am_lsubE, am_upO, am_upS, am_stS, am_stO, am_tnn, am_brl, am_brg, am_bre, am_brn, am_brG, am_brL, am_st1, am_no2, am_st2, am_clr, and_self, true_and, and_true, true_or, or_true, List.length_cons, List.length_nil] <;> omega) ?_
  try simp (disch := omega) only [s61 hw, r61_0 hw, r61_1 hw, am_addE, am_subE, am_mulE, am_laddE, am_lsubE, am_upO, am_upS, am_stS, am_stO, am_tnn, am_brl, am_brg, am_bre, am_brn, am_brG, am_brL, am_st1, am_no2, am_st2, am_clr]
  refine am_wp_cc rfl rfl rfl (trivial) (w_fill (a := 63) (by decide) (s63 hw) (by decide) (fun K k1 k2 k3 => ⟨_, rfl, ?_⟩))
  refine am_wp_ret rfl rfl ?_
  exact h K (fun a h1 h2 => by rw [k1 a h2, j1 a h1]) (fun G => ⟨fun t ht => by rw [k1 62 (by decide), j2 t ht]; rfl, fun s hs => by rw [k2 s hs]; rfl⟩)
theorem w_placeMark {q : Nat} (hq : q < 4) (h : Q (am_yi (2 ^ q : Nat)) (m, sl, sh, I, R)) : am_wp (d) 2 0 [some (.inl ((q : Int)))] [] (m, sl, sh, I, R) Q := by
  refine am_wp_go rfl (by simp (disch := omega) only [am_shl1, am_addE, am_subE, am_mulE, am_laddE, am_lsubE, am_upO, am_upS, am_stS, am_stO, am_tnn, am_brl, am_brg, am_bre, am_brn, am_brG, am_brL, am_st1, am_no2, am_st2, am_clr, and_self, true_and, and_true, true_or, or_true, List.length_cons, List.length_nil] <;> omega) ?_
  try simp (disch := omega) only [am_shl1, am_addE, am_subE, am_mulE, am_laddE, am_lsubE, am_upO, am_upS, am_stS, am_stO, am_tnn, am_brl, am_brg, am_bre, am_brn, am_brG, am_brL, am_st1, am_no2, am_st2, am_clr]
  refine am_wp_ret rfl rfl ?_
  exact h
theorem w_sideMark {q : Nat} (hq : q < 16) (h : Q (am_yi (2 ^ (4 + q) : Nat)) (m, sl, sh, I, R)) : am_wp (d) 3 0 [some (.inl ((q : Int)))] [] (m, sl, sh, I, R) Q := by
  have e : (4 : Int) + (q : Int) = ((4 + q : Nat) : Int) := by omega
  refine am_wp_go rfl (by simp (disch := omega) only [am_shl1, e, am_addE, am_subE, am_mulE, am_laddE, am_lsubE, am_upO, am_upS, am_stS, am_stO, am_tnn, am_brl, am_brg, am_bre, am_brn, am_brG, am_brL, am_st1, am_no2, am_st2, am_clr, and_self, true_and, and_true, true_or, or_true, List.length_cons, List.length_nil] <;> omega) ?_
  try simp (disch := omega) only [am_shl1, e, am_addE, am_subE, am_mulE, am_laddE, am_lsubE, am_upO, am_upS, am_stS, am_stO, am_tnn, am_brl, am_brg, am_bre, am_brn, am_brG, am_brL, am_st1, am_no2, am_st2, am_clr]
  refine am_wp_ret rfl rfl ?_
  exact h
end BOARD
