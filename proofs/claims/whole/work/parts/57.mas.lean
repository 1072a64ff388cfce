/-! MASTERS: what is common; Makers.begin; who takes what -/
/-- of SLICES not begun at all that with the most minutes for the other PLACE -/
def msB (W : Nat → Int) (g p : Nat) : Nat → Int
  | 0 => -1
  | k + 1 => if (g.testBit (2 * k) = false ∧ g.testBit (2 * k + 1) = false) ∧ (msB W g p k = -1 ∨ ndW W (2 * (msB W g p k).toNat + 1 - p) < ndW W (2 * k + 1 - p)) then (k : Int) else msB W g p k
def msQ (g : Nat) (f : Nat → Nat) (o : Nat → Int) (p x : Nat) (s : Nat) : Bool := !g.testBit (2 * s + p) && !(decide (x < f (1 - p)) && decide (o (1 - p) = (s : Int)))
def msC (W : Nat → Int) (g : Nat) (f : Nat → Nat) (o : Nat → Int) (p x : Nat) : Int := if msB W g p (nS W) ≠ -1 then msB W g p (nS W) else am_ff (msQ g f o p x) (nS W) 0
theorem msB_v {W : Nat → Int} {g p : Nat} : ∀ k, msB W g p k = -1 ∨ ∃ j : Nat, msB W g p k = (j : Int) ∧ j < k ∧ g.testBit (2 * j) = false ∧ g.testBit (2 * j + 1) = false := by
  intro k
  induction k with
  | zero => exact Or.inl rfl
  | succ k ih =>
    unfold msB
    split
    · rename_i h; exact Or.inr ⟨k, rfl, by omega, h.1.1, h.1.2⟩
    · rcases ih with h | ⟨j, h1, h2, h3⟩
      · exact Or.inl h
      · exact Or.inr ⟨j, h1, by omega, h3⟩
theorem msB_no {W : Nat → Int} {g p : Nat} : ∀ k, msB W g p k = -1 → ∀ s, s < k → ¬ (g.testBit (2 * s) = false ∧ g.testBit (2 * s + 1) = false) := by
  intro k
  induction k with
  | zero => intro _ s hs; exact absurd hs (Nat.not_lt_zero s)
  | succ k ih =>
    intro h s hs
    unfold msB at h
    split at h
    · omega
    · rename_i hn
      by_cases hsk : s = k
      · subst hsk; exact fun hc => hn ⟨hc, Or.inl h⟩
      · exact ih h s (by omega)
/-- the class's rows in MASTERS at minute x: what has gone is g, PLACES are free from f, last taken o -/
def msI (W : Nat → Int) (I : Nat → Nat → Int) (g : Nat) (f : Nat → Nat) (o : Nat → Int) (x : Nat) : Prop := (∀ i, i < 2 * nS W → I 74 i = if g.testBit i = true then 0 else (ndW W i : Int)) ∧ (∀ p, p < 2 → I 79 p = (f p : Int)) ∧ (∀ s u, s < nS W → u < 2 → g.testBit (2 * s + u) = true → g.testBit (2 * s + (1 - u)) = false → (o u = (s : Int) ∧ I 78 s = (f u : Int)) ∨ (o u ≠ (s : Int) ∧ I 78 s ≤ x))
section MAS
variable {m sl : Nat} {sh : Nat → Nat × Nat} {I : Nat → Nat → Int} {R : Nat → Nat → Nat} {Q : am_R → am_M → Prop} {d : Nat} {W N : Nat → Int} {g : Nat} {f : Nat → Nat} {o : Nat → Int} {p x : Nat}
theorem w_mbegin (hw : wd sh R) (hk : kit I 6 W N) (h : ∀ J, (∀ a, ¬ (73 ≤ a ∧ a ≤ 79 ∧ a ≠ 77) → J a = I a) → (∀ i, i < 16 → J 74 i = I 7 i) → (∀ i, i < 4 → J 75 i = -1) → (∀ i, i < 4 → J 76 i = -1) → (∀ i, i < 8 → J 78 i = 0) → (∀ i, i < 2 → J 79 i = 0) → J 73 7 = totW W 0 + totW W 1 → Q am_yv (m, sl, sh, J, R)) : am_wp (d + 1) 38 0 [some (.inr (.inr (73))), some (.inr (.inr (6)))] [] (m, sl, sh, I, R) Q := by
  have t0 := totW_le hk.1 (u := 0) (by decide)
  have t1 := totW_le hk.1 (u := 1) (by decide)
  refine am_wp_go rfl (by simp (disch := omega) only [s73 hw, r73_0 hw, r73_1 hw, r73_2 hw, r73_4 hw, r73_5 hw, s74 hw, s6 hw, r6_11 hw, s7 hw, Int.reduceToNat, am_addE, am_subE, am_mulE, am_laddE, am_lsubE, am_upO, am_upS, am_stS, am_stO, am_tnn, am_brl, am_brg, am_bre, am_brn, am_brG, am_brL, am_st1, am_no2, am_st2, am_clr, and_self, true_and, and_true, true_or, or_true, List.length_cons, List.length_nil] <;> omega) ?_
  try simp (disch := omega) only [s73 hw, r73_0 hw, r73_1 hw, r73_2 hw, r73_4 hw, r73_5 hw, s74 hw, s6 hw, r6_11 hw, s7 hw, Int.reduceToNat, am_addE, am_subE, am_mulE, am_laddE, am_lsubE, am_upO, am_upS, am_stS, am_stO, am_tnn, am_brl, am_brg, am_bre, am_brn, am_brG, am_brL, am_st1, am_no2, am_st2, am_clr]
  refine am_wp_cc rfl rfl rfl (trivial) (w_fill (a := 75) (by decide) (s75 hw) (by decide) (fun J1 a1 a2 a3 => ⟨_, rfl, ?_⟩))
  refine am_wp_go rfl (by simp (disch := omega) only [s73 hw, r73_0 hw, r73_1 hw, r73_2 hw, r73_4 hw, r73_5 hw, s74 hw, s6 hw, r6_11 hw, s7 hw, Int.reduceToNat, am_addE, am_subE, am_mulE, am_laddE, am_lsubE, am_upO, am_upS, am_stS, am_stO, am_tnn, am_brl, am_brg, am_bre, am_brn, am_brG, am_brL, am_st1, am_no2, am_st2, am_clr, and_self, true_and, and_true, true_or, or_true, List.length_cons, List.length_nil] <;> omega) ?_
  try simp (disch := omega) only [s73 hw, r73_0 hw, r73_1 hw, r73_2 hw, r73_4 hw, r73_5 hw, s74 hw, s6 hw, r6_11 hw, s7 hw, Int.reduceToNat, am_addE, am_subE, am_mulE, am_laddE, am_lsubE, am_upO, am_upS, am_stS, am_stO, am_tnn, am_brl, am_brg, am_bre, am_brn, am_brG, am_brL, am_st1, am_no2, am_st2, am_clr]
  refine am_wp_cc rfl rfl rfl (trivial) (w_fill (a := 76) (by decide) (s76 hw) (by decide) (fun J2 b1 b2 b3 => ⟨_, rfl, ?_⟩))
  refine am_wp_go rfl (by simp (disch := omega) only [s73 hw, r73_0 hw, r73_1 hw, r73_2 hw, r73_4 hw, r73_5 hw, s74 hw, s6 hw, r6_11 hw, s7 hw, Int.reduceToNat, am_addE, am_subE, am_mulE, am_laddE, am_lsubE, am_upO, am_upS, am_stS, am_stO, am_tnn, am_brl, am_brg, am_bre, am_brn, am_brG, am_brL, am_st1, am_no2, am_st2, am_clr, and_self, true_and, and_true, true_or, or_true, List.length_cons, List.length_nil] <;> omega) ?_
  try simp (disch := omega) only [s73 hw, r73_0 hw, r73_1 hw, r73_2 hw, r73_4 hw, r73_5 hw, s74 hw, s6 hw, r6_11 hw, s7 hw, Int.reduceToNat, am_addE, am_subE, am_mulE, am_laddE, am_lsubE, am_upO, am_upS, am_stS, am_stO, am_tnn, am_brl, am_brg, am_bre, am_brn, am_brG, am_brL, am_st1, am_no2, am_st2, am_clr]
  refine am_wp_cc rfl rfl rfl (trivial) (w_fill (a := 78) (by decide) (s78 hw) (by decide) (fun J3 c1 c2 c3 => ⟨_, rfl, ?_⟩))
  refine am_wp_go rfl (by simp (disch := omega) only [s73 hw, r73_0 hw, r73_1 hw, r73_2 hw, r73_4 hw, r73_5 hw, s74 hw, s6 hw, r6_11 hw, s7 hw, Int.reduceToNat, am_addE, am_subE, am_mulE, am_laddE, am_lsubE, am_upO, am_upS, am_stS, am_stO, am_tnn, am_brl, am_brg, am_bre, am_brn, am_brG, am_brL, am_st1, am_no2, am_st2, am_clr, and_self, true_and, and_true, true_or, or_true, List.length_cons, List.length_nil] <;> omega) ?_
  try simp (disch := omega) only [s73 hw, r73_0 hw, r73_1 hw, r73_2 hw, r73_4 hw, r73_5 hw, s74 hw, s6 hw, r6_11 hw, s7 hw, Int.reduceToNat, am_addE, am_subE, am_mulE, am_laddE, am_lsubE, am_upO, am_upS, am_stS, am_stO, am_tnn, am_brl, am_brg, am_bre, am_brn, am_brG, am_brL, am_st1, am_no2, am_st2, am_clr]
  refine am_wp_cc rfl rfl rfl (trivial) (w_fill (a := 79) (by decide) (s79 hw) (by decide) (fun J4 d1 d2 d3 => ⟨_, rfl, ?_⟩))
  have e : ∀ a, a ≠ 74 → a ≠ 75 → a ≠ 76 → a ≠ 78 → a ≠ 79 → J4 a = I a := fun a h1 h2 h3 h4 h5 => by rw [d1 a h5, c1 a h4, b1 a h3, a1 a h2, am_cpyO h1]
  have kk : kit J4 6 W N := kit_fr hk (fun a h1 h2 => e a (by omega) (by omega) (by omega) (by omega) (by omega))
  refine am_wp_go rfl (by simp (disch := omega) only [s73 hw, r73_0 hw, r73_1 hw, r73_2 hw, r73_4 hw, r73_5 hw, s74 hw, s6 hw, r6_11 hw, s7 hw, Int.reduceToNat, am_addE, am_subE, am_mulE, am_laddE, am_lsubE, am_upO, am_upS, am_stS, am_stO, am_tnn, am_brl, am_brg, am_bre, am_brn, am_brG, am_brL, am_st1, am_no2, am_st2, am_clr, and_self, true_and, and_true, true_or, or_true, List.length_cons, List.length_nil] <;> omega) ?_
  try simp (disch := omega) only [s73 hw, r73_0 hw, r73_1 hw, r73_2 hw, r73_4 hw, r73_5 hw, s74 hw, s6 hw, r6_11 hw, s7 hw, Int.reduceToNat, am_addE, am_subE, am_mulE, am_laddE, am_lsubE, am_upO, am_upS, am_stS, am_stO, am_tnn, am_brl, am_brg, am_bre, am_brn, am_brG, am_brL, am_st1, am_no2, am_st2, am_clr]
  refine am_wp_cc rfl rfl rfl (congrArg Prod.fst (s6 hw)) (w_minutesOfAll (u := 0) (by decide) (kt_w hw (by decide)) kk ⟨_, rfl, ?_⟩)
  refine am_wp_go rfl (by simp (disch := omega) only [s73 hw, r73_0 hw, r73_1 hw, r73_2 hw, r73_4 hw, r73_5 hw, s74 hw, s6 hw, r6_11 hw, s7 hw, Int.reduceToNat, am_addE, am_subE, am_mulE, am_laddE, am_lsubE, am_upO, am_upS, am_stS, am_stO, am_tnn, am_brl, am_brg, am_bre, am_brn, am_brG, am_brL, am_st1, am_no2, am_st2, am_clr, and_self, true_and, and_true, true_or, or_true, List.length_cons, List.length_nil] <;> omega) ?_
  try simp (disch := omega) only [s73 hw, r73_0 hw, r73_1 hw, r73_2 hw, r73_4 hw, r73_5 hw, s74 hw, s6 hw, r6_11 hw, s7 hw, Int.reduceToNat, am_addE, am_subE, am_mulE, am_laddE, am_lsubE, am_upO, am_upS, am_stS, am_stO, am_tnn, am_brl, am_brg, am_bre, am_brn, am_brG, am_brL, am_st1, am_no2, am_st2, am_clr]
  refine am_wp_cc rfl rfl rfl (congrArg Prod.fst (s6 hw)) (w_minutesOfAll (u := 1) (by decide) (kt_w hw (by decide)) kk ⟨_, rfl, ?_⟩)
  refine am_wp_go rfl (by simp (disch := omega) only [s73 hw, r73_0 hw, r73_1 hw, r73_2 hw, r73_4 hw, r73_5 hw, s74 hw, s6 hw, r6_11 hw, s7 hw, Int.reduceToNat, am_addE, am_subE, am_mulE, am_laddE, am_lsubE, am_upO, am_upS, am_stS, am_stO, am_tnn, am_brl, am_brg, am_bre, am_brn, am_brG, am_brL, am_st1, am_no2, am_st2, am_clr, and_self, true_and, and_true, true_or, or_true, List.length_cons, List.length_nil] <;> omega) ?_
  try simp (disch := omega) only [s73 hw, r73_0 hw, r73_1 hw, r73_2 hw, r73_4 hw, r73_5 hw, s74 hw, s6 hw, r6_11 hw, s7 hw, Int.reduceToNat, am_addE, am_subE, am_mulE, am_laddE, am_lsubE, am_upO, am_upS, am_stS, am_stO, am_tnn, am_brl, am_brg, am_bre, am_brn, am_brG, am_brL, am_st1, am_no2, am_st2, am_clr]
  refine am_wp_ret rfl rfl ?_
  refine h _ (fun a ha => ?_) (fun i hi => ?_) (fun i hi => ?_) (fun i hi => ?_) (fun i hi => ?_) (fun i hi => ?_) (by rw [am_upS, am_stS rfl])
  · rw [am_upO (by omega), e a (by omega) (by omega) (by omega) (by omega) (by omega)]
  · rw [am_upO (by decide), d1 74 (by decide), c1 74 (by decide), b1 74 (by decide), a1 74 (by decide), am_cpyS]
    dsimp only
    rw [if_pos (by omega), Nat.zero_add, Nat.sub_zero]
  · rw [am_upO (by decide), d1 75 (by decide), c1 75 (by decide), b1 75 (by decide), a2 i hi]
  · rw [am_upO (by decide), d1 76 (by decide), c1 76 (by decide), b2 i hi]
  · rw [am_upO (by decide), d1 78 (by decide), c2 i hi]
  · rw [am_upO (by decide), d2 i hi]
theorem nd_pos (hk : wk W) {i : Nat} (hi : i < 2 * nS W) : 1 ≤ ndW W i ∧ ndW W i ≤ 20 := by
  have := wkS_at hk.2.1 (s := i / 2) (u := i % 2) (by omega) (by omega)
  unfold ndW
  omega
set_option maxHeartbeats 4000000 in
theorem w_masterTakes (hw : wd sh R) (hk : kit I 6 W N) (hi : msI W I g f o x) (hp : p < 2) (hx : x ≤ 2000) (h : Q (am_yi (msC W g f o p x)) (m, sl, sh, I, R)) : am_wp (d) 41 0 [some (.inr (.inr (73))), some (.inr (.inr (6))), some (.inl ((p : Int))), some (.inl ((x : Int))), none, none, none] [] (m, sl, sh, I, R) Q := by
  have n1 := wk_nS hk.1
  have o1 : I 6 6 = (nS W : Int) := by rw [hk.2.1.2.2.2.2.2.1]; exact n1.1
  obtain ⟨i1, i2, i3⟩ := hi
  have nz := fun i (h : i < 2 * nS W) => nd_pos hk.1 h
  refine am_wp_go rfl (by simp (disch := omega) only [s73 hw, am_addE, am_subE, am_mulE, am_laddE, am_lsubE, am_upO, am_upS, am_stS, am_stO, am_tnn, am_brl, am_brg, am_bre, am_brn, am_brG, am_brL, am_st1, am_no2, am_st2, am_clr, and_self, true_and, and_true, true_or, or_true, List.length_cons, List.length_nil] <;> omega) ?_
  try simp (disch := omega) only [s73 hw, am_addE, am_subE, am_mulE, am_laddE, am_lsubE, am_upO, am_upS, am_stS, am_stO, am_tnn, am_brl, am_brg, am_bre, am_brn, am_brG, am_brL, am_st1, am_no2, am_st2, am_clr]
  -- the second loop
  have L2 : msB W g p (nS W) = -1 → ∀ k, k ≤ nS W → ∀ z : Option am_V, Q (am_yi (am_ff (msQ g f o p x) (nS W) k)) (m, sl, sh, I, R) → am_wp (d) 41 101 [some (.inr (.inr (73))), some (.inr (.inr (6))), some (.inl ((p : Int))), some (.inl ((x : Int))), some (.inl (-1)), some (.inl ((k : Int))), z] [] (m, sl, sh, I, R) Q := by
    intro hno
    refine am_lp (nS W) (fun k hkl ih z h => ?_)
    refine am_wp_go rfl (by simp (disch := omega) only [s73 hw, r73_0 hw, s74 hw, r73_4 hw, s78 hw, s6 hw, o1, am_tnA, am_tnM, Int.reduceToNat, am_addE, am_subE, am_mulE, am_laddE, am_lsubE, am_upO, am_upS, am_stS, am_stO, am_tnn, am_brl, am_brg, am_bre, am_brn, am_brG, am_brL, am_st1, am_no2, am_st2, am_clr, and_self, true_and, and_true, true_or, or_true, List.length_cons, List.length_nil] <;> omega) ?_
    try simp (disch := omega) only [s73 hw, r73_0 hw, s74 hw, r73_4 hw, s78 hw, s6 hw, o1, am_tnA, am_tnM, Int.reduceToNat, am_addE, am_subE, am_mulE, am_laddE, am_lsubE, am_upO, am_upS, am_stS, am_stO, am_tnn, am_brl, am_brg, am_bre, am_brn, am_brG, am_brL, am_st1, am_no2, am_st2, am_clr]
    refine am_wp_br (fun b107 => ?_) (fun b107 => ?_)
    · refine am_wp_go rfl (by simp (disch := omega) only [s73 hw, r73_0 hw, s74 hw, r73_4 hw, s78 hw, s6 hw, o1, am_tnA, am_tnM, Int.reduceToNat, am_addE, am_subE, am_mulE, am_laddE, am_lsubE, am_upO, am_upS, am_stS, am_stO, am_tnn, am_brl, am_brg, am_bre, am_brn, am_brG, am_brL, am_st1, am_no2, am_st2, am_clr, and_self, true_and, and_true, true_or, or_true, List.length_cons, List.length_nil] <;> omega) ?_
      try simp (disch := omega) only [s73 hw, r73_0 hw, s74 hw, r73_4 hw, s78 hw, s6 hw, o1, am_tnA, am_tnM, Int.reduceToNat, am_addE, am_subE, am_mulE, am_laddE, am_lsubE, am_upO, am_upS, am_stS, am_stO, am_tnn, am_brl, am_brg, am_bre, am_brn, am_brG, am_brL, am_st1, am_no2, am_st2, am_clr]
      refine am_wp_ret rfl rfl ?_
      rwa [am_ff_end (by omega)] at h
    · refine am_wp_go rfl (by simp (disch := omega) only [s73 hw, r73_0 hw, s74 hw, r73_4 hw, s78 hw, s6 hw, o1, am_tnA, am_tnM, Int.reduceToNat, am_addE, am_subE, am_mulE, am_laddE, am_lsubE, am_upO, am_upS, am_stS, am_stO, am_tnn, am_brl, am_brg, am_bre, am_brn, am_brG, am_brL, am_st1, am_no2, am_st2, am_clr, and_self, true_and, and_true, true_or, or_true, List.length_cons, List.length_nil] <;> omega) ?_
      refine am_wp_pc (pc' := 116) rfl ?_
      have e1 := i1 (2 * k + p) (by omega)
      have z1 := nz (2 * k + p) (by omega)
      have nb := msB_no (nS W) hno k (by omega)
      have e2 := i3 k (1 - p) (by omega) (by omega)
      rw [show 1 - (1 - p) = p by omega] at e2
      have ih := ih (by omega)
      cases hg : g.testBit (2 * k + p) with
      | true =>
        rw [hg, if_pos rfl] at e1
        have hq : msQ g f o p x k = false := by unfold msQ; rw [hg]; rfl
        rw [am_ff_on hq] at h
        refine am_wp_go rfl (by simp (disch := omega) only [s73 hw, r73_0 hw, s74 hw, r73_4 hw, s78 hw, s6 hw, o1, e1, am_tnA, am_tnM, Int.reduceToNat, am_addE, am_subE, am_mulE, am_laddE, am_lsubE, am_upO, am_upS, am_stS, am_stO, am_tnn, am_brl, am_brg, am_bre, am_brn, am_brG, am_brL, am_st1, am_no2, am_st2, am_clr, and_self, true_and, and_true, true_or, or_true, List.length_cons, List.length_nil] <;> omega) ?_
        try simp (disch := omega) only [s73 hw, r73_0 hw, s74 hw, r73_4 hw, s78 hw, s6 hw, o1, e1, am_tnA, am_tnM, Int.reduceToNat, am_addE, am_subE, am_mulE, am_laddE, am_lsubE, am_upO, am_upS, am_stS, am_stO, am_tnn, am_brl, am_brg, am_bre, am_brn, am_brG, am_brL, am_st1, am_no2, am_st2, am_clr]
        refine am_wp_br (fun b127 => ?_) (fun b127 => ?_)
        · refine am_wp_go rfl (by simp (disch := omega) only [s73 hw, r73_0 hw, s74 hw, r73_4 hw, s78 hw, s6 hw, o1, e1, am_tnA, am_tnM, Int.reduceToNat, am_addE, am_subE, am_mulE, am_laddE, am_lsubE, am_upO, am_upS, am_stS, am_stO, am_tnn, am_brl, am_brg, am_bre, am_brn, am_brG, am_brL, am_st1, am_no2, am_st2, am_clr, and_self, true_and, and_true, true_or, or_true, List.length_cons, List.length_nil] <;> omega) ?_
          try simp (disch := omega) only [s73 hw, r73_0 hw, s74 hw, r73_4 hw, s78 hw, s6 hw, o1, e1, am_tnA, am_tnM, Int.reduceToNat, am_addE, am_subE, am_mulE, am_laddE, am_lsubE, am_upO, am_upS, am_stS, am_stO, am_tnn, am_brl, am_brg, am_bre, am_brn, am_brG, am_brL, am_st1, am_no2, am_st2, am_clr]
          exact am_wp_ls (ih _ h) rfl
        · omega
      | false =>
        rw [hg, if_neg (by decide)] at e1
        have hg2 : g.testBit (2 * k + (1 - p)) = true := by
          cases h2 : g.testBit (2 * k + (1 - p)) with
          | true => rfl
          | false =>
            refine absurd ?_ nb
            rcases (show p = 0 ∨ p = 1 by omega) with rfl | rfl
            · exact ⟨by simpa using hg, by simpa using h2⟩
            · exact ⟨by simpa using h2, by simpa using hg⟩
        have e3 := e2 hg2 hg
        clear e2 nb
        refine am_wp_go rfl (by simp (disch := omega) only [s73 hw, r73_0 hw, s74 hw, r73_4 hw, s78 hw, s6 hw, o1, e1, am_tnA, am_tnM, Int.reduceToNat, am_addE, am_subE, am_mulE, am_laddE, am_lsubE, am_upO, am_upS, am_stS, am_stO, am_tnn, am_brl, am_brg, am_bre, am_brn, am_brG, am_brL, am_st1, am_no2, am_st2, am_clr, and_self, true_and, and_true, true_or, or_true, List.length_cons, List.length_nil] <;> omega) ?_
        try simp (disch := omega) only [s73 hw, r73_0 hw, s74 hw, r73_4 hw, s78 hw, s6 hw, o1, e1, am_tnA, am_tnM, Int.reduceToNat, am_addE, am_subE, am_mulE, am_laddE, am_lsubE, am_upO, am_upS, am_stS, am_stO, am_tnn, am_brl, am_brg, am_bre, am_brn, am_brG, am_brL, am_st1, am_no2, am_st2, am_clr]
        refine am_wp_br (fun b127 => ?_) (fun b127 => ?_)
        · omega
        · refine am_wp_go rfl (by simp (disch := omega) only [s73 hw, r73_0 hw, s74 hw, r73_4 hw, s78 hw, s6 hw, o1, e1, am_tnA, am_tnM, Int.reduceToNat, am_addE, am_subE, am_mulE, am_laddE, am_lsubE, am_upO, am_upS, am_stS, am_stO, am_tnn, am_brl, am_brg, am_bre, am_brn, am_brG, am_brL, am_st1, am_no2, am_st2, am_clr, and_self, true_and, and_true, true_or, or_true, List.length_cons, List.length_nil] <;> omega) ?_
          try simp (disch := omega) only [s73 hw, r73_0 hw, s74 hw, r73_4 hw, s78 hw, s6 hw, o1, e1, am_tnA, am_tnM, Int.reduceToNat, am_addE, am_subE, am_mulE, am_laddE, am_lsubE, am_upO, am_upS, am_stS, am_stO, am_tnn, am_brl, am_brg, am_bre, am_brn, am_brG, am_brL, am_st1, am_no2, am_st2, am_clr]
          refine am_wp_br (fun b138 => ?_) (fun b138 => ?_)
          · have hq : msQ g f o p x k = false := by
              unfold msQ
              rw [hg]
              rcases e3 with ⟨a, b⟩ | ⟨a, b⟩
              · rw [decide_eq_true a, decide_eq_true (by omega)]; rfl
              · omega
            rw [am_ff_on hq] at h
            refine am_wp_go rfl (by simp (disch := omega) only [s73 hw, r73_0 hw, s74 hw, r73_4 hw, s78 hw, s6 hw, o1, e1, am_tnA, am_tnM, Int.reduceToNat, am_addE, am_subE, am_mulE, am_laddE, am_lsubE, am_upO, am_upS, am_stS, am_stO, am_tnn, am_brl, am_brg, am_bre, am_brn, am_brG, am_brL, am_st1, am_no2, am_st2, am_clr, and_self, true_and, and_true, true_or, or_true, List.length_cons, List.length_nil] <;> omega) ?_
            try simp (disch := omega) only [s73 hw, r73_0 hw, s74 hw, r73_4 hw, s78 hw, s6 hw, o1, e1, am_tnA, am_tnM, Int.reduceToNat, am_addE, am_subE, am_mulE, am_laddE, am_lsubE, am_upO, am_upS, am_stS, am_stO, am_tnn, am_brl, am_brg, am_bre, am_brn, am_brG, am_brL, am_st1, am_no2, am_st2, am_clr]
            exact am_wp_ls (ih _ h) rfl
          · have hq : msQ g f o p x k = true := by
              unfold msQ
              rw [hg]
              rcases e3 with ⟨a, b⟩ | ⟨a, b⟩
              · rw [decide_eq_false (show ¬ x < f (1 - p) by omega)]; rfl
              · rw [decide_eq_false a, Bool.and_false]; rfl
            rw [am_ff_hit (by omega) hq] at h
            clear ih
            refine am_wp_go rfl (by simp (disch := omega) only [s73 hw, r73_0 hw, s74 hw, r73_4 hw, s78 hw, s6 hw, o1, e1, am_tnA, am_tnM, Int.reduceToNat, am_addE, am_subE, am_mulE, am_laddE, am_lsubE, am_upO, am_upS, am_stS, am_stO, am_tnn, am_brl, am_brg, am_bre, am_brn, am_brG, am_brL, am_st1, am_no2, am_st2, am_clr, and_self, true_and, and_true, true_or, or_true, List.length_cons, List.length_nil] <;> omega) ?_
            try simp (disch := omega) only [s73 hw, r73_0 hw, s74 hw, r73_4 hw, s78 hw, s6 hw, o1, e1, am_tnA, am_tnM, Int.reduceToNat, am_addE, am_subE, am_mulE, am_laddE, am_lsubE, am_upO, am_upS, am_stS, am_stO, am_tnn, am_brl, am_brg, am_bre, am_brn, am_brG, am_brL, am_st1, am_no2, am_st2, am_clr]
            refine am_wp_go rfl (by simp (disch := omega) only [s73 hw, r73_0 hw, s74 hw, r73_4 hw, s78 hw, s6 hw, o1, e1, am_tnA, am_tnM, Int.reduceToNat, am_addE, am_subE, am_mulE, am_laddE, am_lsubE, am_upO, am_upS, am_stS, am_stO, am_tnn, am_brl, am_brg, am_bre, am_brn, am_brG, am_brL, am_st1, am_no2, am_st2, am_clr, and_self, true_and, and_true, true_or, or_true, List.length_cons, List.length_nil] <;> omega) ?_
            try simp (disch := omega) only [s73 hw, r73_0 hw, s74 hw, r73_4 hw, s78 hw, s6 hw, o1, e1, am_tnA, am_tnM, Int.reduceToNat, am_addE, am_subE, am_mulE, am_laddE, am_lsubE, am_upO, am_upS, am_stS, am_stO, am_tnn, am_brl, am_brg, am_bre, am_brn, am_brG, am_brL, am_st1, am_no2, am_st2, am_clr]
            refine am_wp_br (fun c107 => ?_) (fun c107 => ?_)
            · refine am_wp_go rfl (by simp (disch := omega) only [s73 hw, r73_0 hw, s74 hw, r73_4 hw, s78 hw, s6 hw, o1, e1, am_tnA, am_tnM, Int.reduceToNat, am_addE, am_subE, am_mulE, am_laddE, am_lsubE, am_upO, am_upS, am_stS, am_stO, am_tnn, am_brl, am_brg, am_bre, am_brn, am_brG, am_brL, am_st1, am_no2, am_st2, am_clr, and_self, true_and, and_true, true_or, or_true, List.length_cons, List.length_nil] <;> omega) ?_
              try simp (disch := omega) only [s73 hw, r73_0 hw, s74 hw, r73_4 hw, s78 hw, s6 hw, o1, e1, am_tnA, am_tnM, Int.reduceToNat, am_addE, am_subE, am_mulE, am_laddE, am_lsubE, am_upO, am_upS, am_stS, am_stO, am_tnn, am_brl, am_brg, am_bre, am_brn, am_brG, am_brL, am_st1, am_no2, am_st2, am_clr]
              refine am_wp_ret rfl rfl ?_
              exact h
            · refine am_wp_go rfl (by simp (disch := omega) only [s73 hw, r73_0 hw, s74 hw, r73_4 hw, s78 hw, s6 hw, o1, e1, am_tnA, am_tnM, Int.reduceToNat, am_addE, am_subE, am_mulE, am_laddE, am_lsubE, am_upO, am_upS, am_stS, am_stO, am_tnn, am_brl, am_brg, am_bre, am_brn, am_brG, am_brL, am_st1, am_no2, am_st2, am_clr, and_self, true_and, and_true, true_or, or_true, List.length_cons, List.length_nil] <;> omega) ?_
              try simp (disch := omega) only [s73 hw, r73_0 hw, s74 hw, r73_4 hw, s78 hw, s6 hw, o1, e1, am_tnA, am_tnM, Int.reduceToNat, am_addE, am_subE, am_mulE, am_laddE, am_lsubE, am_upO, am_upS, am_stS, am_stO, am_tnn, am_brl, am_brg, am_bre, am_brn, am_brG, am_brL, am_st1, am_no2, am_st2, am_clr]
              refine am_wp_br (fun c113 => ?_) (fun c113 => ?_)
              · refine am_wp_go rfl (by simp (disch := omega) only [s73 hw, r73_0 hw, s74 hw, r73_4 hw, s78 hw, s6 hw, o1, e1, am_tnA, am_tnM, Int.reduceToNat, am_addE, am_subE, am_mulE, am_laddE, am_lsubE, am_upO, am_upS, am_stS, am_stO, am_tnn, am_brl, am_brg, am_bre, am_brn, am_brG, am_brL, am_st1, am_no2, am_st2, am_clr, and_self, true_and, and_true, true_or, or_true, List.length_cons, List.length_nil] <;> omega) ?_
                try simp (disch := omega) only [s73 hw, r73_0 hw, s74 hw, r73_4 hw, s78 hw, s6 hw, o1, e1, am_tnA, am_tnM, Int.reduceToNat, am_addE, am_subE, am_mulE, am_laddE, am_lsubE, am_upO, am_upS, am_stS, am_stO, am_tnn, am_brl, am_brg, am_bre, am_brn, am_brG, am_brL, am_st1, am_no2, am_st2, am_clr]
                refine am_wp_ret rfl rfl ?_
                exact h
              · omega
  refine am_wp_ls (am_lp0 (P := fun k => ∀ z : Option am_V, am_wp (d) 41 6 [some (.inr (.inr (73))), some (.inr (.inr (6))), some (.inl ((p : Int))), some (.inl ((x : Int))), some (.inl (msB W g p k)), some (.inl ((k : Int))), z] [] (m, sl, sh, I, R) Q) (nS W) (fun k hkl ih z => ?_) none) rfl
  have mv := msB_v (W := W) (g := g) (p := p) k
  refine am_wp_go rfl (by simp (disch := omega) only [s73 hw, r73_0 hw, s74 hw, s6 hw, o1, am_tnA, am_tnM, Int.reduceToNat, am_addE, am_subE, am_mulE, am_laddE, am_lsubE, am_upO, am_upS, am_stS, am_stO, am_tnn, am_brl, am_brg, am_bre, am_brn, am_brG, am_brL, am_st1, am_no2, am_st2, am_clr, and_self, true_and, and_true, true_or, or_true, List.length_cons, List.length_nil] <;> omega) ?_
  try simp (disch := omega) only [s73 hw, r73_0 hw, s74 hw, s6 hw, o1, am_tnA, am_tnM, Int.reduceToNat, am_addE, am_subE, am_mulE, am_laddE, am_lsubE, am_upO, am_upS, am_stS, am_stO, am_tnn, am_brl, am_brg, am_bre, am_brn, am_brG, am_brL, am_st1, am_no2, am_st2, am_clr]
  refine am_wp_br (fun b12 => ?_) (fun b12 => ?_)
  · have e0 : k = nS W := by omega
    subst e0
    refine am_wp_go rfl (by simp (disch := omega) only [s73 hw, r73_0 hw, s74 hw, s6 hw, o1, am_tnA, am_tnM, Int.reduceToNat, am_addE, am_subE, am_mulE, am_laddE, am_lsubE, am_upO, am_upS, am_stS, am_stO, am_tnn, am_brl, am_brg, am_bre, am_brn, am_brG, am_brL, am_st1, am_no2, am_st2, am_clr, and_self, true_and, and_true, true_or, or_true, List.length_cons, List.length_nil] <;> omega) ?_
    try simp (disch := omega) only [s73 hw, r73_0 hw, s74 hw, s6 hw, o1, am_tnA, am_tnM, Int.reduceToNat, am_addE, am_subE, am_mulE, am_laddE, am_lsubE, am_upO, am_upS, am_stS, am_stO, am_tnn, am_brl, am_brg, am_bre, am_brn, am_brG, am_brL, am_st1, am_no2, am_st2, am_clr]
    unfold msC at h
    by_cases hm : msB W g p (nS W) = -1
    · rw [if_neg (by omega)] at h
      rw [hm]
      exact L2 hm 0 (Nat.zero_le _) _ h
    · rw [if_pos hm] at h
      clear L2
      refine am_wp_go rfl (by simp (disch := omega) only [s73 hw, r73_0 hw, s74 hw, s6 hw, o1, am_tnA, am_tnM, Int.reduceToNat, am_addE, am_subE, am_mulE, am_laddE, am_lsubE, am_upO, am_upS, am_stS, am_stO, am_tnn, am_brl, am_brg, am_bre, am_brn, am_brG, am_brL, am_st1, am_no2, am_st2, am_clr, and_self, true_and, and_true, true_or, or_true, List.length_cons, List.length_nil] <;> omega) ?_
      try simp (disch := omega) only [s73 hw, r73_0 hw, s74 hw, s6 hw, o1, am_tnA, am_tnM, Int.reduceToNat, am_addE, am_subE, am_mulE, am_laddE, am_lsubE, am_upO, am_upS, am_stS, am_stO, am_tnn, am_brl, am_brg, am_bre, am_brn, am_brG, am_brL, am_st1, am_no2, am_st2, am_clr]
      refine am_wp_br (fun b107 => ?_) (fun b107 => ?_)
      · refine am_wp_go rfl (by simp (disch := omega) only [s73 hw, r73_0 hw, s74 hw, s6 hw, o1, am_tnA, am_tnM, Int.reduceToNat, am_addE, am_subE, am_mulE, am_laddE, am_lsubE, am_upO, am_upS, am_stS, am_stO, am_tnn, am_brl, am_brg, am_bre, am_brn, am_brG, am_brL, am_st1, am_no2, am_st2, am_clr, and_self, true_and, and_true, true_or, or_true, List.length_cons, List.length_nil] <;> omega) ?_
        try simp (disch := omega) only [s73 hw, r73_0 hw, s74 hw, s6 hw, o1, am_tnA, am_tnM, Int.reduceToNat, am_addE, am_subE, am_mulE, am_laddE, am_lsubE, am_upO, am_upS, am_stS, am_stO, am_tnn, am_brl, am_brg, am_bre, am_brn, am_brG, am_brL, am_st1, am_no2, am_st2, am_clr]
        refine am_wp_ret rfl rfl ?_
        exact h
      · refine am_wp_go rfl (by simp (disch := omega) only [s73 hw, r73_0 hw, s74 hw, s6 hw, o1, am_tnA, am_tnM, Int.reduceToNat, am_addE, am_subE, am_mulE, am_laddE, am_lsubE, am_upO, am_upS, am_stS, am_stO, am_tnn, am_brl, am_brg, am_bre, am_brn, am_brG, am_brL, am_st1, am_no2, am_st2, am_clr, and_self, true_and, and_true, true_or, or_true, List.length_cons, List.length_nil] <;> omega) ?_
        try simp (disch := omega) only [s73 hw, r73_0 hw, s74 hw, s6 hw, o1, am_tnA, am_tnM, Int.reduceToNat, am_addE, am_subE, am_mulE, am_laddE, am_lsubE, am_upO, am_upS, am_stS, am_stO, am_tnn, am_brl, am_brg, am_bre, am_brn, am_brG, am_brL, am_st1, am_no2, am_st2, am_clr]
        refine am_wp_br (fun b113 => ?_) (fun b113 => ?_)
        · refine am_wp_go rfl (by simp (disch := omega) only [s73 hw, r73_0 hw, s74 hw, s6 hw, o1, am_tnA, am_tnM, Int.reduceToNat, am_addE, am_subE, am_mulE, am_laddE, am_lsubE, am_upO, am_upS, am_stS, am_stO, am_tnn, am_brl, am_brg, am_bre, am_brn, am_brG, am_brL, am_st1, am_no2, am_st2, am_clr, and_self, true_and, and_true, true_or, or_true, List.length_cons, List.length_nil] <;> omega) ?_
          try simp (disch := omega) only [s73 hw, r73_0 hw, s74 hw, s6 hw, o1, am_tnA, am_tnM, Int.reduceToNat, am_addE, am_subE, am_mulE, am_laddE, am_lsubE, am_upO, am_upS, am_stS, am_stO, am_tnn, am_brl, am_brg, am_bre, am_brn, am_brG, am_brL, am_st1, am_no2, am_st2, am_clr]
          refine am_wp_ret rfl rfl ?_
          exact h
        · omega
  · have ih := ih (by omega)
    unfold msB at ih
    have e1 := i1 (2 * k) (by omega)
    have e2 := i1 (2 * k + 1) (by omega)
    have z1 := nz (2 * k) (by omega)
    have z2 := nz (2 * k + 1) (by omega)
    clear L2 h
    cases hg1 : g.testBit (2 * k) with
    | true =>
      rw [hg1, if_neg (fun hc => by cases hc.1.1)] at ih
      rw [hg1, if_pos rfl] at e1
      refine am_wp_go rfl (by simp (disch := omega) only [s73 hw, r73_0 hw, s74 hw, s6 hw, o1, e1, am_tnA, am_tnM, Int.reduceToNat, am_addE, am_subE, am_mulE, am_laddE, am_lsubE, am_upO, am_upS, am_stS, am_stO, am_tnn, am_brl, am_brg, am_bre, am_brn, am_brG, am_brL, am_st1, am_no2, am_st2, am_clr, and_self, true_and, and_true, true_or, or_true, List.length_cons, List.length_nil] <;> omega) ?_
      try simp (disch := omega) only [s73 hw, r73_0 hw, s74 hw, s6 hw, o1, e1, am_tnA, am_tnM, Int.reduceToNat, am_addE, am_subE, am_mulE, am_laddE, am_lsubE, am_upO, am_upS, am_stS, am_stO, am_tnn, am_brl, am_brg, am_bre, am_brn, am_brG, am_brL, am_st1, am_no2, am_st2, am_clr]
      refine am_wp_br (fun b24 => ?_) (fun b24 => ?_)
      · refine am_wp_go rfl (by simp (disch := omega) only [s73 hw, r73_0 hw, s74 hw, s6 hw, o1, e1, am_tnA, am_tnM, Int.reduceToNat, am_addE, am_subE, am_mulE, am_laddE, am_lsubE, am_upO, am_upS, am_stS, am_stO, am_tnn, am_brl, am_brg, am_bre, am_brn, am_brG, am_brL, am_st1, am_no2, am_st2, am_clr, and_self, true_and, and_true, true_or, or_true, List.length_cons, List.length_nil] <;> omega) ?_
        refine am_wp_pc (pc' := 92) rfl ?_
        refine am_wp_go rfl (by simp (disch := omega) only [s73 hw, r73_0 hw, s74 hw, s6 hw, o1, e1, am_tnA, am_tnM, Int.reduceToNat, am_addE, am_subE, am_mulE, am_laddE, am_lsubE, am_upO, am_upS, am_stS, am_stO, am_tnn, am_brl, am_brg, am_bre, am_brn, am_brG, am_brL, am_st1, am_no2, am_st2, am_clr, and_self, true_and, and_true, true_or, or_true, List.length_cons, List.length_nil] <;> omega) ?_
        try simp (disch := omega) only [s73 hw, r73_0 hw, s74 hw, s6 hw, o1, e1, am_tnA, am_tnM, Int.reduceToNat, am_addE, am_subE, am_mulE, am_laddE, am_lsubE, am_upO, am_upS, am_stS, am_stO, am_tnn, am_brl, am_brg, am_bre, am_brn, am_brG, am_brL, am_st1, am_no2, am_st2, am_clr]
        exact am_wp_ls (ih _) rfl
      · omega
    | false =>
      rw [hg1, if_neg (by decide)] at e1
      cases hg2 : g.testBit (2 * k + 1) with
      | true =>
        rw [hg2, if_neg (fun hc => by cases hc.1.2)] at ih
        rw [hg2, if_pos rfl] at e2
        refine am_wp_go rfl (by simp (disch := omega) only [s73 hw, r73_0 hw, s74 hw, s6 hw, o1, e1, e2, am_tnA, am_tnM, Int.reduceToNat, am_addE, am_subE, am_mulE, am_laddE, am_lsubE, am_upO, am_upS, am_stS, am_stO, am_tnn, am_brl, am_brg, am_bre, am_brn, am_brG, am_brL, am_st1, am_no2, am_st2, am_clr, and_self, true_and, and_true, true_or, or_true, List.length_cons, List.length_nil] <;> omega) ?_
        try simp (disch := omega) only [s73 hw, r73_0 hw, s74 hw, s6 hw, o1, e1, e2, am_tnA, am_tnM, Int.reduceToNat, am_addE, am_subE, am_mulE, am_laddE, am_lsubE, am_upO, am_upS, am_stS, am_stO, am_tnn, am_brl, am_brg, am_bre, am_brn, am_brG, am_brL, am_st1, am_no2, am_st2, am_clr]
        refine am_wp_br (fun b24 => ?_) (fun b24 => ?_)
        · omega
        · refine am_wp_go rfl (by simp (disch := omega) only [s73 hw, r73_0 hw, s74 hw, s6 hw, o1, e1, e2, am_tnA, am_tnM, Int.reduceToNat, am_addE, am_subE, am_mulE, am_laddE, am_lsubE, am_upO, am_upS, am_stS, am_stO, am_tnn, am_brl, am_brg, am_bre, am_brn, am_brG, am_brL, am_st1, am_no2, am_st2, am_clr, and_self, true_and, and_true, true_or, or_true, List.length_cons, List.length_nil] <;> omega) ?_
          try simp (disch := omega) only [s73 hw, r73_0 hw, s74 hw, s6 hw, o1, e1, e2, am_tnA, am_tnM, Int.reduceToNat, am_addE, am_subE, am_mulE, am_laddE, am_lsubE, am_upO, am_upS, am_stS, am_stO, am_tnn, am_brl, am_brg, am_bre, am_brn, am_brG, am_brL, am_st1, am_no2, am_st2, am_clr]
          refine am_wp_br (fun b38 => ?_) (fun b38 => ?_)
          · refine am_wp_go rfl (by simp (disch := omega) only [s73 hw, r73_0 hw, s74 hw, s6 hw, o1, e1, e2, am_tnA, am_tnM, Int.reduceToNat, am_addE, am_subE, am_mulE, am_laddE, am_lsubE, am_upO, am_upS, am_stS, am_stO, am_tnn, am_brl, am_brg, am_bre, am_brn, am_brG, am_brL, am_st1, am_no2, am_st2, am_clr, and_self, true_and, and_true, true_or, or_true, List.length_cons, List.length_nil] <;> omega) ?_
            refine am_wp_pc (pc' := 92) rfl ?_
            refine am_wp_go rfl (by simp (disch := omega) only [s73 hw, r73_0 hw, s74 hw, s6 hw, o1, e1, e2, am_tnA, am_tnM, Int.reduceToNat, am_addE, am_subE, am_mulE, am_laddE, am_lsubE, am_upO, am_upS, am_stS, am_stO, am_tnn, am_brl, am_brg, am_bre, am_brn, am_brG, am_brL, am_st1, am_no2, am_st2, am_clr, and_self, true_and, and_true, true_or, or_true, List.length_cons, List.length_nil] <;> omega) ?_
            try simp (disch := omega) only [s73 hw, r73_0 hw, s74 hw, s6 hw, o1, e1, e2, am_tnA, am_tnM, Int.reduceToNat, am_addE, am_subE, am_mulE, am_laddE, am_lsubE, am_upO, am_upS, am_stS, am_stO, am_tnn, am_brl, am_brg, am_bre, am_brn, am_brG, am_brL, am_st1, am_no2, am_st2, am_clr]
            exact am_wp_ls (ih _) rfl
          · omega
      | false =>
        rw [hg2, if_neg (by decide)] at e2
        rw [hg1, hg2] at ih
        refine am_wp_go rfl (by simp (disch := omega) only [s73 hw, r73_0 hw, s74 hw, s6 hw, o1, e1, e2, am_tnA, am_tnM, Int.reduceToNat, am_addE, am_subE, am_mulE, am_laddE, am_lsubE, am_upO, am_upS, am_stS, am_stO, am_tnn, am_brl, am_brg, am_bre, am_brn, am_brG, am_brL, am_st1, am_no2, am_st2, am_clr, and_self, true_and, and_true, true_or, or_true, List.length_cons, List.length_nil] <;> omega) ?_
        try simp (disch := omega) only [s73 hw, r73_0 hw, s74 hw, s6 hw, o1, e1, e2, am_tnA, am_tnM, Int.reduceToNat, am_addE, am_subE, am_mulE, am_laddE, am_lsubE, am_upO, am_upS, am_stS, am_stO, am_tnn, am_brl, am_brg, am_bre, am_brn, am_brG, am_brL, am_st1, am_no2, am_st2, am_clr]
        refine am_wp_br (fun b24 => ?_) (fun b24 => ?_)
        · omega
        · refine am_wp_go rfl (by simp (disch := omega) only [s73 hw, r73_0 hw, s74 hw, s6 hw, o1, e1, e2, am_tnA, am_tnM, Int.reduceToNat, am_addE, am_subE, am_mulE, am_laddE, am_lsubE, am_upO, am_upS, am_stS, am_stO, am_tnn, am_brl, am_brg, am_bre, am_brn, am_brG, am_brL, am_st1, am_no2, am_st2, am_clr, and_self, true_and, and_true, true_or, or_true, List.length_cons, List.length_nil] <;> omega) ?_
          try simp (disch := omega) only [s73 hw, r73_0 hw, s74 hw, s6 hw, o1, e1, e2, am_tnA, am_tnM, Int.reduceToNat, am_addE, am_subE, am_mulE, am_laddE, am_lsubE, am_upO, am_upS, am_stS, am_stO, am_tnn, am_brl, am_brg, am_bre, am_brn, am_brG, am_brL, am_st1, am_no2, am_st2, am_clr]
          refine am_wp_br (fun b38 => ?_) (fun b38 => ?_)
          · omega
          · refine am_wp_go rfl (by simp (disch := omega) only [s73 hw, r73_0 hw, s74 hw, s6 hw, o1, e1, e2, am_tnA, am_tnM, Int.reduceToNat, am_addE, am_subE, am_mulE, am_laddE, am_lsubE, am_upO, am_upS, am_stS, am_stO, am_tnn, am_brl, am_brg, am_bre, am_brn, am_brG, am_brL, am_st1, am_no2, am_st2, am_clr, and_self, true_and, and_true, true_or, or_true, List.length_cons, List.length_nil] <;> omega) ?_
            refine am_wp_pc (pc' := 53) rfl ?_
            refine am_wp_go rfl (by simp (disch := omega) only [s73 hw, r73_0 hw, s74 hw, s6 hw, o1, e1, e2, am_tnA, am_tnM, Int.reduceToNat, am_addE, am_subE, am_mulE, am_laddE, am_lsubE, am_upO, am_upS, am_stS, am_stO, am_tnn, am_brl, am_brg, am_bre, am_brn, am_brG, am_brL, am_st1, am_no2, am_st2, am_clr, and_self, true_and, and_true, true_or, or_true, List.length_cons, List.length_nil] <;> omega) ?_
            try simp (disch := omega) only [s73 hw, r73_0 hw, s74 hw, s6 hw, o1, e1, e2, am_tnA, am_tnM, Int.reduceToNat, am_addE, am_subE, am_mulE, am_laddE, am_lsubE, am_upO, am_upS, am_stS, am_stO, am_tnn, am_brl, am_brg, am_bre, am_brn, am_brG, am_brL, am_st1, am_no2, am_st2, am_clr]
            refine am_wp_br (fun b56 => ?_) (fun b56 => ?_)
            · rw [if_pos ⟨⟨rfl, rfl⟩, Or.inl b56⟩] at ih
              refine am_wp_go rfl (by simp (disch := omega) only [s73 hw, r73_0 hw, s74 hw, s6 hw, o1, e1, e2, am_tnA, am_tnM, Int.reduceToNat, am_addE, am_subE, am_mulE, am_laddE, am_lsubE, am_upO, am_upS, am_stS, am_stO, am_tnn, am_brl, am_brg, am_bre, am_brn, am_brG, am_brL, am_st1, am_no2, am_st2, am_clr, and_self, true_and, and_true, true_or, or_true, List.length_cons, List.length_nil] <;> omega) ?_
              try simp (disch := omega) only [s73 hw, r73_0 hw, s74 hw, s6 hw, o1, e1, e2, am_tnA, am_tnM, Int.reduceToNat, am_addE, am_subE, am_mulE, am_laddE, am_lsubE, am_upO, am_upS, am_stS, am_stO, am_tnn, am_brl, am_brg, am_bre, am_brn, am_brG, am_brL, am_st1, am_no2, am_st2, am_clr]
              exact am_wp_ls (ih _) rfl
            · obtain ⟨j, m1, m2, m3, m4⟩ := mv.resolve_left b56
              have q1 : (2 : Int) * (k : Int) + 1 - (p : Int) = ((2 * k + 1 - p : Nat) : Int) := by omega
              have q2 : (2 : Int) * (j : Int) + 1 - (p : Int) = ((2 * j + 1 - p : Nat) : Int) := by omega
              have q3 : I 74 (2 * k + 1 - p) = (ndW W (2 * k + 1 - p) : Int) := by
                rcases (show p = 0 ∨ p = 1 by omega) with rfl | rfl
                · exact e2
                · exact e1
              have q4 : I 74 (2 * j + 1 - p) = (ndW W (2 * j + 1 - p) : Int) := by
                have r1 := i1 (2 * j) (by omega)
                have r2 := i1 (2 * j + 1) (by omega)
                rw [m3, if_neg (by decide)] at r1
                rw [m4, if_neg (by decide)] at r2
                rcases (show p = 0 ∨ p = 1 by omega) with rfl | rfl
                · exact r2
                · exact r1
              rw [m1] at ih b56 ⊢
              rw [am_tnn] at ih
              refine am_wp_go rfl (by simp (disch := omega) only [s73 hw, r73_0 hw, s74 hw, s6 hw, o1, e1, e2, q3, q4, am_tnA, am_tnM, Int.reduceToNat, q1, q2, am_addE, am_subE, am_mulE, am_laddE, am_lsubE, am_upO, am_upS, am_stS, am_stO, am_tnn, am_brl, am_brg, am_bre, am_brn, am_brG, am_brL, am_st1, am_no2, am_st2, am_clr, and_self, true_and, and_true, true_or, or_true, List.length_cons, List.length_nil] <;> omega) ?_
              try simp (disch := omega) only [s73 hw, r73_0 hw, s74 hw, s6 hw, o1, e1, e2, q3, q4, am_tnA, am_tnM, Int.reduceToNat, q1, q2, am_addE, am_subE, am_mulE, am_laddE, am_lsubE, am_upO, am_upS, am_stS, am_stO, am_tnn, am_brl, am_brg, am_bre, am_brn, am_brG, am_brL, am_st1, am_no2, am_st2, am_clr]
              refine am_wp_br (fun b85 => ?_) (fun b85 => ?_)
              · rw [if_neg (fun hc => by rcases hc.2 with h | h <;> omega)] at ih
                refine am_wp_go rfl (by simp (disch := omega) only [s73 hw, r73_0 hw, s74 hw, s6 hw, o1, e1, e2, q3, q4, am_tnA, am_tnM, Int.reduceToNat, q1, q2, am_addE, am_subE, am_mulE, am_laddE, am_lsubE, am_upO, am_upS, am_stS, am_stO, am_tnn, am_brl, am_brg, am_bre, am_brn, am_brG, am_brL, am_st1, am_no2, am_st2, am_clr, and_self, true_and, and_true, true_or, or_true, List.length_cons, List.length_nil] <;> omega) ?_
                try simp (disch := omega) only [s73 hw, r73_0 hw, s74 hw, s6 hw, o1, e1, e2, q3, q4, am_tnA, am_tnM, Int.reduceToNat, q1, q2, am_addE, am_subE, am_mulE, am_laddE, am_lsubE, am_upO, am_upS, am_stS, am_stO, am_tnn, am_brl, am_brg, am_bre, am_brn, am_brG, am_brL, am_st1, am_no2, am_st2, am_clr]
                exact am_wp_ls (ih _) rfl
              · rw [if_pos ⟨⟨rfl, rfl⟩, Or.inr (by omega)⟩] at ih
                refine am_wp_go rfl (by simp (disch := omega) only [s73 hw, r73_0 hw, s74 hw, s6 hw, o1, e1, e2, q3, q4, am_tnA, am_tnM, Int.reduceToNat, q1, q2, am_addE, am_subE, am_mulE, am_laddE, am_lsubE, am_upO, am_upS, am_stS, am_stO, am_tnn, am_brl, am_brg, am_bre, am_brn, am_brG, am_brL, am_st1, am_no2, am_st2, am_clr, and_self, true_and, and_true, true_or, or_true, List.length_cons, List.length_nil] <;> omega) ?_
                try simp (disch := omega) only [s73 hw, r73_0 hw, s74 hw, s6 hw, o1, e1, e2, q3, q4, am_tnA, am_tnM, Int.reduceToNat, q1, q2, am_addE, am_subE, am_mulE, am_laddE, am_lsubE, am_upO, am_upS, am_stS, am_stO, am_tnn, am_brl, am_brg, am_bre, am_brn, am_brG, am_brL, am_st1, am_no2, am_st2, am_clr]
                exact am_wp_ls (ih _) rfl
end MAS
