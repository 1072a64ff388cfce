/-! TOKENS: the words that are no NAMES, in the reference -/
def owL (w : Nat) : List Nat := am_nth [] [[16, 1, 14], [18, 5, 19, 20], [3, 15, 12, 4], [2, 21, 18, 14], [19, 12, 9, 3, 5], [7, 21, 5, 19, 20], [19, 15, 18, 20], [15, 14, 3, 5], [20, 15, 16], [21, 14, 4, 5, 18], [7, 15, 5, 19], [5, 14, 4, 19], [14, 15, 20], [4, 15, 14, 5], [1, 6, 20, 5, 18], [1, 14, 4], [15, 18]] w
def wvR (k : Nat) : Nat := am_nth 0 [11705, 358472, 70312, 55175, 10340222, 305537, 4137608, 385418, 15001, 11438892, 423, 1111, 10631, 90050, 664272, 148870, 108748] k
/-- the class's number of a word of the reference's -/
def rpm (k : Nat) : Nat := am_nth 0 [0, 1, 2, 3, 4, 7, 5, 6, 8, 9, 16, 15, 12, 13, 14, 10, 11] k
theorem owL_32 : ∀ w : Fin 17, ownR w.val = (nm32 (owL w.val) : Int) := by decide +kernel
theorem owL_27 : ∀ k : Fin 17, nm27 (owL (rpm k.val)) = wvR k.val := by decide +kernel
theorem rpm_lt : ∀ k : Fin 17, rpm k.val < 17 := by decide +kernel
theorem own_inj : ∀ w v : Fin 17, ownR w.val = ownR v.val → w.val = v.val := by decide +kernel
theorem owL_b : ∀ w : Fin 17, (1 ≤ (owL w.val).length ∧ (owL w.val).length ≤ 6) ∧ ∀ n : Fin 6, n.val < (owL w.val).length → 1 ≤ (owL w.val).getD n.val 0 ∧ (owL w.val).getD n.val 0 ≤ 26 := by decide +kernel
theorem owL_ok {w : Nat} (h : w < 17) : letOk (owL w) := by
  have := owL_b ⟨w, h⟩
  refine ⟨this.1.1, this.1.2, fun n hn => ?_⟩
  have h6 := this.1.2
  dsimp only at h6
  exact this.2 ⟨n, by omega⟩ hn
theorem owI_iff {ws : List Nat} (hl : letOk ws) {w : Nat} (h : w < 17) : owI ws = (w : Int) ↔ ws = owL w := by
  have e := owL_32 ⟨w, h⟩
  dsimp only at e
  unfold owI
  constructor
  · intro ho
    rcases am_ff_v (p := fun w => decide (ownR w = (nm32 ws : Int))) (n := 17) 0 with z | ⟨s, z1, z2, z3, z4⟩
    · omega
    · have : s = w := by omega
      subst this
      have z4 := of_decide_eq_true z4
      refine (nm32_iff hl (owL_ok h)).mp ?_
      omega
  · intro hw
    subst hw
    rcases am_ff_v (p := fun v => decide (ownR v = (nm32 (owL w) : Int))) (n := 17) 0 with z | ⟨s, z1, z2, z3, z4⟩
    · have := am_ff_none z w h
      rw [decide_eq_false_iff_not] at this
      exact absurd e this
    · have z4 := of_decide_eq_true z4
      have := own_inj ⟨s, z3⟩ ⟨w, h⟩ (by dsimp only; rw [z4, e])
      dsimp only at this
      rw [z1, this]
theorem wv_iff {ws : List Nat} (hl : letOk ws) {k : Nat} (h : k < 17) : nm27 ws = wvR k ↔ owI ws = (rpm k : Int) := by
  have e := owL_27 ⟨k, h⟩
  have l := rpm_lt ⟨k, h⟩
  dsimp only at e l
  rw [owI_iff hl l, ← e]
  exact nm27_iff hl (owL_ok l)
/-- every one of the class's is one of the reference's -/
def rpi (w : Nat) : Nat := am_nth 0 [0, 1, 2, 3, 4, 6, 7, 5, 8, 9, 15, 16, 12, 13, 14, 11, 10] w
theorem rpi_ok : ∀ w : Fin 17, rpi w.val < 17 ∧ rpm (rpi w.val) = w.val := by decide +kernel
theorem owI_v {ws : List Nat} : owI ws = -1 ∨ ∃ w : Nat, owI ws = (w : Int) ∧ w < 17 := by
  unfold owI
  rcases am_ff_v (p := fun w => decide (ownR w = (nm32 ws : Int))) (n := 17) 0 with z | ⟨s, z1, z2, z3, z4⟩
  · exact Or.inl z
  · exact Or.inr ⟨s, z1, z3⟩
def spv (a b c e f : Int) : Int := if 0 < f then 27 * (if 0 < e then 27 * (if 0 < c then 27 * (27 * (a - 96) + b - 96) + c - 96 else 27 * (a - 96) + b - 96) + e - 96 else if 0 < c then 27 * (27 * (a - 96) + b - 96) + c - 96 else 27 * (a - 96) + b - 96) + f - 96 else if 0 < e then 27 * (if 0 < c then 27 * (27 * (a - 96) + b - 96) + c - 96 else 27 * (a - 96) + b - 96) + e - 96 else if 0 < c then 27 * (27 * (a - 96) + b - 96) + c - 96 else 27 * (a - 96) + b - 96
section RP
variable {m sl : Nat} {sh : Nat → Nat × Nat} {I : Nat → Nat → Int} {R : Nat → Nat → Nat} {Q : am_R → am_M → Prop} {d : Nat}
theorem w_M_spelt {a b c e f : Int} (ha : 0 ≤ a ∧ a ≤ 127) (hb : 0 ≤ b ∧ b ≤ 127) (hc : 0 ≤ c ∧ c ≤ 127) (he : 0 ≤ e ∧ e ≤ 127) (hf : 0 ≤ f ∧ f ≤ 127) (h : Q (am_yj (spv a b c e f)) (m, sl, sh, I, R)) : am_wp (d) 206 0 [some (.inl (a)), some (.inl (b)), some (.inl (c)), some (.inl (e)), some (.inl (f)), none, none] [] (m, sl, sh, I, R) Q := by
  unfold spv at h
  refine am_wp_go rfl (by simp (disch := omega) only [am_lmulE, am_addE, am_subE, am_mulE, am_laddE, am_lsubE, am_upO, am_upS, am_stS, am_stO, am_tnn, am_brl, am_brg, am_bre, am_brn, am_brG, am_brL, am_st1, am_no2, am_st2, am_clr, and_self, true_and, and_true, true_or, or_true, List.length_cons, List.length_nil] <;> omega) ?_
  try simp (disch := omega) only [am_lmulE, am_addE, am_subE, am_mulE, am_laddE, am_lsubE, am_upO, am_upS, am_stS, am_stO, am_tnn, am_brl, am_brg, am_bre, am_brn, am_brG, am_brL, am_st1, am_no2, am_st2, am_clr]
  refine am_wp_br (fun b20 => ?_) (fun b20 => ?_)
  · refine am_wp_go rfl (by simp (disch := omega) only [am_lmulE, am_addE, am_subE, am_mulE, am_laddE, am_lsubE, am_upO, am_upS, am_stS, am_stO, am_tnn, am_brl, am_brg, am_bre, am_brn, am_brG, am_brL, am_st1, am_no2, am_st2, am_clr, and_self, true_and, and_true, true_or, or_true, List.length_cons, List.length_nil] <;> omega) ?_
    try simp (disch := omega) only [am_lmulE, am_addE, am_subE, am_mulE, am_laddE, am_lsubE, am_upO, am_upS, am_stS, am_stO, am_tnn, am_brl, am_brg, am_bre, am_brn, am_brG, am_brL, am_st1, am_no2, am_st2, am_clr]
    refine am_wp_br (fun b39 => ?_) (fun b39 => ?_)
    · refine am_wp_go rfl (by simp (disch := omega) only [am_lmulE, am_addE, am_subE, am_mulE, am_laddE, am_lsubE, am_upO, am_upS, am_stS, am_stO, am_tnn, am_brl, am_brg, am_bre, am_brn, am_brG, am_brL, am_st1, am_no2, am_st2, am_clr, and_self, true_and, and_true, true_or, or_true, List.length_cons, List.length_nil] <;> omega) ?_
      try simp (disch := omega) only [am_lmulE, am_addE, am_subE, am_mulE, am_laddE, am_lsubE, am_upO, am_upS, am_stS, am_stO, am_tnn, am_brl, am_brg, am_bre, am_brn, am_brG, am_brL, am_st1, am_no2, am_st2, am_clr]
      refine am_wp_br (fun b59 => ?_) (fun b59 => ?_)
      · refine am_wp_go rfl (by simp (disch := omega) only [am_lmulE, am_addE, am_subE, am_mulE, am_laddE, am_lsubE, am_upO, am_upS, am_stS, am_stO, am_tnn, am_brl, am_brg, am_bre, am_brn, am_brG, am_brL, am_st1, am_no2, am_st2, am_clr, and_self, true_and, and_true, true_or, or_true, List.length_cons, List.length_nil] <;> omega) ?_
        try simp (disch := omega) only [am_lmulE, am_addE, am_subE, am_mulE, am_laddE, am_lsubE, am_upO, am_upS, am_stS, am_stO, am_tnn, am_brl, am_brg, am_bre, am_brn, am_brG, am_brL, am_st1, am_no2, am_st2, am_clr]
        refine am_wp_ret rfl rfl ?_
        first | (exfalso; omega) | (simp (disch := omega) only [if_pos, if_neg] at h; exact h)
      · refine am_wp_go rfl (by simp (disch := omega) only [am_lmulE, am_addE, am_subE, am_mulE, am_laddE, am_lsubE, am_upO, am_upS, am_stS, am_stO, am_tnn, am_brl, am_brg, am_bre, am_brn, am_brG, am_brL, am_st1, am_no2, am_st2, am_clr, and_self, true_and, and_true, true_or, or_true, List.length_cons, List.length_nil] <;> omega) ?_
        try simp (disch := omega) only [am_lmulE, am_addE, am_subE, am_mulE, am_laddE, am_lsubE, am_upO, am_upS, am_stS, am_stO, am_tnn, am_brl, am_brg, am_bre, am_brn, am_brG, am_brL, am_st1, am_no2, am_st2, am_clr]
        refine am_wp_ret rfl rfl ?_
        first | (exfalso; omega) | (simp (disch := omega) only [if_pos, if_neg] at h; exact h)
    · refine am_wp_go rfl (by simp (disch := omega) only [am_lmulE, am_addE, am_subE, am_mulE, am_laddE, am_lsubE, am_upO, am_upS, am_stS, am_stO, am_tnn, am_brl, am_brg, am_bre, am_brn, am_brG, am_brL, am_st1, am_no2, am_st2, am_clr, and_self, true_and, and_true, true_or, or_true, List.length_cons, List.length_nil] <;> omega) ?_
      try simp (disch := omega) only [am_lmulE, am_addE, am_subE, am_mulE, am_laddE, am_lsubE, am_upO, am_upS, am_stS, am_stO, am_tnn, am_brl, am_brg, am_bre, am_brn, am_brG, am_brL, am_st1, am_no2, am_st2, am_clr]
      refine am_wp_br (fun b59 => ?_) (fun b59 => ?_)
      · refine am_wp_go rfl (by simp (disch := omega) only [am_lmulE, am_addE, am_subE, am_mulE, am_laddE, am_lsubE, am_upO, am_upS, am_stS, am_stO, am_tnn, am_brl, am_brg, am_bre, am_brn, am_brG, am_brL, am_st1, am_no2, am_st2, am_clr, and_self, true_and, and_true, true_or, or_true, List.length_cons, List.length_nil] <;> omega) ?_
        try simp (disch := omega) only [am_lmulE, am_addE, am_subE, am_mulE, am_laddE, am_lsubE, am_upO, am_upS, am_stS, am_stO, am_tnn, am_brl, am_brg, am_bre, am_brn, am_brG, am_brL, am_st1, am_no2, am_st2, am_clr]
        refine am_wp_ret rfl rfl ?_
        first | (exfalso; omega) | (simp (disch := omega) only [if_pos, if_neg] at h; exact h)
      · refine am_wp_go rfl (by simp (disch := omega) only [am_lmulE, am_addE, am_subE, am_mulE, am_laddE, am_lsubE, am_upO, am_upS, am_stS, am_stO, am_tnn, am_brl, am_brg, am_bre, am_brn, am_brG, am_brL, am_st1, am_no2, am_st2, am_clr, and_self, true_and, and_true, true_or, or_true, List.length_cons, List.length_nil] <;> omega) ?_
        try simp (disch := omega) only [am_lmulE, am_addE, am_subE, am_mulE, am_laddE, am_lsubE, am_upO, am_upS, am_stS, am_stO, am_tnn, am_brl, am_brg, am_bre, am_brn, am_brG, am_brL, am_st1, am_no2, am_st2, am_clr]
        refine am_wp_ret rfl rfl ?_
        first | (exfalso; omega) | (simp (disch := omega) only [if_pos, if_neg] at h; exact h)
  · refine am_wp_go rfl (by simp (disch := omega) only [am_lmulE, am_addE, am_subE, am_mulE, am_laddE, am_lsubE, am_upO, am_upS, am_stS, am_stO, am_tnn, am_brl, am_brg, am_bre, am_brn, am_brG, am_brL, am_st1, am_no2, am_st2, am_clr, and_self, true_and, and_true, true_or, or_true, List.length_cons, List.length_nil] <;> omega) ?_
    try simp (disch := omega) only [am_lmulE, am_addE, am_subE, am_mulE, am_laddE, am_lsubE, am_upO, am_upS, am_stS, am_stO, am_tnn, am_brl, am_brg, am_bre, am_brn, am_brG, am_brL, am_st1, am_no2, am_st2, am_clr]
    refine am_wp_br (fun b39 => ?_) (fun b39 => ?_)
    · refine am_wp_go rfl (by simp (disch := omega) only [am_lmulE, am_addE, am_subE, am_mulE, am_laddE, am_lsubE, am_upO, am_upS, am_stS, am_stO, am_tnn, am_brl, am_brg, am_bre, am_brn, am_brG, am_brL, am_st1, am_no2, am_st2, am_clr, and_self, true_and, and_true, true_or, or_true, List.length_cons, List.length_nil] <;> omega) ?_
      try simp (disch := omega) only [am_lmulE, am_addE, am_subE, am_mulE, am_laddE, am_lsubE, am_upO, am_upS, am_stS, am_stO, am_tnn, am_brl, am_brg, am_bre, am_brn, am_brG, am_brL, am_st1, am_no2, am_st2, am_clr]
      refine am_wp_br (fun b59 => ?_) (fun b59 => ?_)
      · refine am_wp_go rfl (by simp (disch := omega) only [am_lmulE, am_addE, am_subE, am_mulE, am_laddE, am_lsubE, am_upO, am_upS, am_stS, am_stO, am_tnn, am_brl, am_brg, am_bre, am_brn, am_brG, am_brL, am_st1, am_no2, am_st2, am_clr, and_self, true_and, and_true, true_or, or_true, List.length_cons, List.length_nil] <;> omega) ?_
        try simp (disch := omega) only [am_lmulE, am_addE, am_subE, am_mulE, am_laddE, am_lsubE, am_upO, am_upS, am_stS, am_stO, am_tnn, am_brl, am_brg, am_bre, am_brn, am_brG, am_brL, am_st1, am_no2, am_st2, am_clr]
        refine am_wp_ret rfl rfl ?_
        first | (exfalso; omega) | (simp (disch := omega) only [if_pos, if_neg] at h; exact h)
      · refine am_wp_go rfl (by simp (disch := omega) only [am_lmulE, am_addE, am_subE, am_mulE, am_laddE, am_lsubE, am_upO, am_upS, am_stS, am_stO, am_tnn, am_brl, am_brg, am_bre, am_brn, am_brG, am_brL, am_st1, am_no2, am_st2, am_clr, and_self, true_and, and_true, true_or, or_true, List.length_cons, List.length_nil] <;> omega) ?_
        try simp (disch := omega) only [am_lmulE, am_addE, am_subE, am_mulE, am_laddE, am_lsubE, am_upO, am_upS, am_stS, am_stO, am_tnn, am_brl, am_brg, am_bre, am_brn, am_brG, am_brL, am_st1, am_no2, am_st2, am_clr]
        refine am_wp_ret rfl rfl ?_
        first | (exfalso; omega) | (simp (disch := omega) only [if_pos, if_neg] at h; exact h)
    · refine am_wp_go rfl (by simp (disch := omega) only [am_lmulE, am_addE, am_subE, am_mulE, am_laddE, am_lsubE, am_upO, am_upS, am_stS, am_stO, am_tnn, am_brl, am_brg, am_bre, am_brn, am_brG, am_brL, am_st1, am_no2, am_st2, am_clr, and_self, true_and, and_true, true_or, or_true, List.length_cons, List.length_nil] <;> omega) ?_
      try simp (disch := omega) only [am_lmulE, am_addE, am_subE, am_mulE, am_laddE, am_lsubE, am_upO, am_upS, am_stS, am_stO, am_tnn, am_brl, am_brg, am_bre, am_brn, am_brG, am_brL, am_st1, am_no2, am_st2, am_clr]
      refine am_wp_br (fun b59 => ?_) (fun b59 => ?_)
      · refine am_wp_go rfl (by simp (disch := omega) only [am_lmulE, am_addE, am_subE, am_mulE, am_laddE, am_lsubE, am_upO, am_upS, am_stS, am_stO, am_tnn, am_brl, am_brg, am_bre, am_brn, am_brG, am_brL, am_st1, am_no2, am_st2, am_clr, and_self, true_and, and_true, true_or, or_true, List.length_cons, List.length_nil] <;> omega) ?_
        try simp (disch := omega) only [am_lmulE, am_addE, am_subE, am_mulE, am_laddE, am_lsubE, am_upO, am_upS, am_stS, am_stO, am_tnn, am_brl, am_brg, am_bre, am_brn, am_brG, am_brL, am_st1, am_no2, am_st2, am_clr]
        refine am_wp_ret rfl rfl ?_
        first | (exfalso; omega) | (simp (disch := omega) only [if_pos, if_neg] at h; exact h)
      · refine am_wp_go rfl (by simp (disch := omega) only [am_lmulE, am_addE, am_subE, am_mulE, am_laddE, am_lsubE, am_upO, am_upS, am_stS, am_stO, am_tnn, am_brl, am_brg, am_bre, am_brn, am_brG, am_brL, am_st1, am_no2, am_st2, am_clr, and_self, true_and, and_true, true_or, or_true, List.length_cons, List.length_nil] <;> omega) ?_
        try simp (disch := omega) only [am_lmulE, am_addE, am_subE, am_mulE, am_laddE, am_lsubE, am_upO, am_upS, am_stS, am_stO, am_tnn, am_brl, am_brg, am_bre, am_brn, am_brG, am_brL, am_st1, am_no2, am_st2, am_clr]
        refine am_wp_ret rfl rfl ?_
        first | (exfalso; omega) | (simp (disch := omega) only [if_pos, if_neg] at h; exact h)
set_option maxHeartbeats 4000000 in
theorem w_M_wordOf {k : Nat} (hk : k < 17) (h : Q (am_yj (wvR k : Int)) (m, sl, sh, I, R)) : am_wp (d + 1) 207 0 [some (.inl ((k : Int)))] [] (m, sl, sh, I, R) Q := by
  refine am_wp_go rfl (by simp (disch := omega) only [am_addE, am_subE, am_mulE, am_laddE, am_lsubE, am_upO, am_upS, am_stS, am_stO, am_tnn, am_brl, am_brg, am_bre, am_brn, am_brG, am_brL, am_st1, am_no2, am_st2, am_clr, and_self, true_and, and_true, true_or, or_true, List.length_cons, List.length_nil] <;> omega) ?_
  refine am_wp_tsw rfl (fun q4 => ?_) ⟨fun q4 => ?_, fun q4 => ?_, fun q4 => ?_, fun q4 => ?_, fun q4 => ?_, fun q4 => ?_, fun q4 => ?_, fun q4 => ?_, fun q4 => ?_, fun q4 => ?_, fun q4 => ?_, fun q4 => ?_, fun q4 => ?_, fun q4 => ?_, fun q4 => ?_, fun q4 => ?_, trivial⟩
  · refine am_wp_pc (pc' := 286) rfl ?_
    have e : k = 16 := by omega
    subst e
    refine am_wp_go rfl (by simp (disch := omega) only [am_addE, am_subE, am_mulE, am_laddE, am_lsubE, am_upO, am_upS, am_stS, am_stO, am_tnn, am_brl, am_brg, am_bre, am_brn, am_brG, am_brL, am_st1, am_no2, am_st2, am_clr, and_self, true_and, and_true, true_or, or_true, List.length_cons, List.length_nil] <;> omega) ?_
    try simp (disch := omega) only [am_addE, am_subE, am_mulE, am_laddE, am_lsubE, am_upO, am_upS, am_stS, am_stO, am_tnn, am_brl, am_brg, am_bre, am_brn, am_brG, am_brL, am_st1, am_no2, am_st2, am_clr]
    refine am_wp_cc rfl rfl rfl (trivial) (w_M_spelt (a := 101) (b := 110) (c := 100) (e := 115) (f := 0) (by decide) (by decide) (by decide) (by decide) (by decide) ⟨_, rfl, ?_⟩)
    refine am_wp_ret rfl rfl ?_
    exact h
  · refine am_wp_pc (pc' := 80) rfl ?_
    have e : k = 0 := by omega
    subst e
    refine am_wp_go rfl (by simp (disch := omega) only [am_addE, am_subE, am_mulE, am_laddE, am_lsubE, am_upO, am_upS, am_stS, am_stO, am_tnn, am_brl, am_brg, am_bre, am_brn, am_brG, am_brL, am_st1, am_no2, am_st2, am_clr, and_self, true_and, and_true, true_or, or_true, List.length_cons, List.length_nil] <;> omega) ?_
    try simp (disch := omega) only [am_addE, am_subE, am_mulE, am_laddE, am_lsubE, am_upO, am_upS, am_stS, am_stO, am_tnn, am_brl, am_brg, am_bre, am_brn, am_brG, am_brL, am_st1, am_no2, am_st2, am_clr]
    refine am_wp_cc rfl rfl rfl (trivial) (w_M_spelt (a := 112) (b := 97) (c := 110) (e := 0) (f := 0) (by decide) (by decide) (by decide) (by decide) (by decide) ⟨_, rfl, ?_⟩)
    refine am_wp_ret rfl rfl ?_
    exact h
  · refine am_wp_pc (pc' := 92) rfl ?_
    have e : k = 1 := by omega
    subst e
    refine am_wp_go rfl (by simp (disch := omega) only [am_addE, am_subE, am_mulE, am_laddE, am_lsubE, am_upO, am_upS, am_stS, am_stO, am_tnn, am_brl, am_brg, am_bre, am_brn, am_brG, am_brL, am_st1, am_no2, am_st2, am_clr, and_self, true_and, and_true, true_or, or_true, List.length_cons, List.length_nil] <;> omega) ?_
    try simp (disch := omega) only [am_addE, am_subE, am_mulE, am_laddE, am_lsubE, am_upO, am_upS, am_stS, am_stO, am_tnn, am_brl, am_brg, am_bre, am_brn, am_brG, am_brL, am_st1, am_no2, am_st2, am_clr]
    refine am_wp_cc rfl rfl rfl (trivial) (w_M_spelt (a := 114) (b := 101) (c := 115) (e := 116) (f := 0) (by decide) (by decide) (by decide) (by decide) (by decide) ⟨_, rfl, ?_⟩)
    refine am_wp_ret rfl rfl ?_
    exact h
  · refine am_wp_pc (pc' := 105) rfl ?_
    have e : k = 2 := by omega
    subst e
    refine am_wp_go rfl (by simp (disch := omega) only [am_addE, am_subE, am_mulE, am_laddE, am_lsubE, am_upO, am_upS, am_stS, am_stO, am_tnn, am_brl, am_brg, am_bre, am_brn, am_brG, am_brL, am_st1, am_no2, am_st2, am_clr, and_self, true_and, and_true, true_or, or_true, List.length_cons, List.length_nil] <;> omega) ?_
    try simp (disch := omega) only [am_addE, am_subE, am_mulE, am_laddE, am_lsubE, am_upO, am_upS, am_stS, am_stO, am_tnn, am_brl, am_brg, am_bre, am_brn, am_brG, am_brL, am_st1, am_no2, am_st2, am_clr]
    refine am_wp_cc rfl rfl rfl (trivial) (w_M_spelt (a := 99) (b := 111) (c := 108) (e := 100) (f := 0) (by decide) (by decide) (by decide) (by decide) (by decide) ⟨_, rfl, ?_⟩)
    refine am_wp_ret rfl rfl ?_
    exact h
  · refine am_wp_pc (pc' := 118) rfl ?_
    have e : k = 3 := by omega
    subst e
    refine am_wp_go rfl (by simp (disch := omega) only [am_addE, am_subE, am_mulE, am_laddE, am_lsubE, am_upO, am_upS, am_stS, am_stO, am_tnn, am_brl, am_brg, am_bre, am_brn, am_brG, am_brL, am_st1, am_no2, am_st2, am_clr, and_self, true_and, and_true, true_or, or_true, List.length_cons, List.length_nil] <;> omega) ?_
    try simp (disch := omega) only [am_addE, am_subE, am_mulE, am_laddE, am_lsubE, am_upO, am_upS, am_stS, am_stO, am_tnn, am_brl, am_brg, am_bre, am_brn, am_brG, am_brL, am_st1, am_no2, am_st2, am_clr]
    refine am_wp_cc rfl rfl rfl (trivial) (w_M_spelt (a := 98) (b := 117) (c := 114) (e := 110) (f := 0) (by decide) (by decide) (by decide) (by decide) (by decide) ⟨_, rfl, ?_⟩)
    refine am_wp_ret rfl rfl ?_
    exact h
  · refine am_wp_pc (pc' := 131) rfl ?_
    have e : k = 4 := by omega
    subst e
    refine am_wp_go rfl (by simp (disch := omega) only [am_addE, am_subE, am_mulE, am_laddE, am_lsubE, am_upO, am_upS, am_stS, am_stO, am_tnn, am_brl, am_brg, am_bre, am_brn, am_brG, am_brL, am_st1, am_no2, am_st2, am_clr, and_self, true_and, and_true, true_or, or_true, List.length_cons, List.length_nil] <;> omega) ?_
    try simp (disch := omega) only [am_addE, am_subE, am_mulE, am_laddE, am_lsubE, am_upO, am_upS, am_stS, am_stO, am_tnn, am_brl, am_brg, am_bre, am_brn, am_brG, am_brL, am_st1, am_no2, am_st2, am_clr]
    refine am_wp_cc rfl rfl rfl (trivial) (w_M_spelt (a := 115) (b := 108) (c := 105) (e := 99) (f := 101) (by decide) (by decide) (by decide) (by decide) (by decide) ⟨_, rfl, ?_⟩)
    refine am_wp_ret rfl rfl ?_
    exact h
  · refine am_wp_pc (pc' := 145) rfl ?_
    have e : k = 5 := by omega
    subst e
    refine am_wp_go rfl (by simp (disch := omega) only [am_addE, am_subE, am_mulE, am_laddE, am_lsubE, am_upO, am_upS, am_stS, am_stO, am_tnn, am_brl, am_brg, am_bre, am_brn, am_brG, am_brL, am_st1, am_no2, am_st2, am_clr, and_self, true_and, and_true, true_or, or_true, List.length_cons, List.length_nil] <;> omega) ?_
    try simp (disch := omega) only [am_addE, am_subE, am_mulE, am_laddE, am_lsubE, am_upO, am_upS, am_stS, am_stO, am_tnn, am_brl, am_brg, am_bre, am_brn, am_brG, am_brL, am_st1, am_no2, am_st2, am_clr]
    refine am_wp_cc rfl rfl rfl (trivial) (w_M_spelt (a := 111) (b := 110) (c := 99) (e := 101) (f := 0) (by decide) (by decide) (by decide) (by decide) (by decide) ⟨_, rfl, ?_⟩)
    refine am_wp_ret rfl rfl ?_
    exact h
  · refine am_wp_pc (pc' := 158) rfl ?_
    have e : k = 6 := by omega
    subst e
    refine am_wp_go rfl (by simp (disch := omega) only [am_addE, am_subE, am_mulE, am_laddE, am_lsubE, am_upO, am_upS, am_stS, am_stO, am_tnn, am_brl, am_brg, am_bre, am_brn, am_brG, am_brL, am_st1, am_no2, am_st2, am_clr, and_self, true_and, and_true, true_or, or_true, List.length_cons, List.length_nil] <;> omega) ?_
    try simp (disch := omega) only [am_addE, am_subE, am_mulE, am_laddE, am_lsubE, am_upO, am_upS, am_stS, am_stO, am_tnn, am_brl, am_brg, am_bre, am_brn, am_brG, am_brL, am_st1, am_no2, am_st2, am_clr]
    refine am_wp_cc rfl rfl rfl (trivial) (w_M_spelt (a := 103) (b := 117) (c := 101) (e := 115) (f := 116) (by decide) (by decide) (by decide) (by decide) (by decide) ⟨_, rfl, ?_⟩)
    refine am_wp_ret rfl rfl ?_
    exact h
  · refine am_wp_pc (pc' := 172) rfl ?_
    have e : k = 7 := by omega
    subst e
    refine am_wp_go rfl (by simp (disch := omega) only [am_addE, am_subE, am_mulE, am_laddE, am_lsubE, am_upO, am_upS, am_stS, am_stO, am_tnn, am_brl, am_brg, am_bre, am_brn, am_brG, am_brL, am_st1, am_no2, am_st2, am_clr, and_self, true_and, and_true, true_or, or_true, List.length_cons, List.length_nil] <;> omega) ?_
    try simp (disch := omega) only [am_addE, am_subE, am_mulE, am_laddE, am_lsubE, am_upO, am_upS, am_stS, am_stO, am_tnn, am_brl, am_brg, am_bre, am_brn, am_brG, am_brL, am_st1, am_no2, am_st2, am_clr]
    refine am_wp_cc rfl rfl rfl (trivial) (w_M_spelt (a := 115) (b := 111) (c := 114) (e := 116) (f := 0) (by decide) (by decide) (by decide) (by decide) (by decide) ⟨_, rfl, ?_⟩)
    refine am_wp_ret rfl rfl ?_
    exact h
  · refine am_wp_pc (pc' := 185) rfl ?_
    have e : k = 8 := by omega
    subst e
    refine am_wp_go rfl (by simp (disch := omega) only [am_addE, am_subE, am_mulE, am_laddE, am_lsubE, am_upO, am_upS, am_stS, am_stO, am_tnn, am_brl, am_brg, am_bre, am_brn, am_brG, am_brL, am_st1, am_no2, am_st2, am_clr, and_self, true_and, and_true, true_or, or_true, List.length_cons, List.length_nil] <;> omega) ?_
    try simp (disch := omega) only [am_addE, am_subE, am_mulE, am_laddE, am_lsubE, am_upO, am_upS, am_stS, am_stO, am_tnn, am_brl, am_brg, am_bre, am_brn, am_brG, am_brL, am_st1, am_no2, am_st2, am_clr]
    refine am_wp_cc rfl rfl rfl (trivial) (w_M_spelt (a := 116) (b := 111) (c := 112) (e := 0) (f := 0) (by decide) (by decide) (by decide) (by decide) (by decide) ⟨_, rfl, ?_⟩)
    refine am_wp_ret rfl rfl ?_
    exact h
  · refine am_wp_pc (pc' := 197) rfl ?_
    have e : k = 9 := by omega
    subst e
    refine am_wp_go rfl (by simp (disch := omega) only [am_addE, am_subE, am_mulE, am_laddE, am_lsubE, am_upO, am_upS, am_stS, am_stO, am_tnn, am_brl, am_brg, am_bre, am_brn, am_brG, am_brL, am_st1, am_no2, am_st2, am_clr, and_self, true_and, and_true, true_or, or_true, List.length_cons, List.length_nil] <;> omega) ?_
    try simp (disch := omega) only [am_addE, am_subE, am_mulE, am_laddE, am_lsubE, am_upO, am_upS, am_stS, am_stO, am_tnn, am_brl, am_brg, am_bre, am_brn, am_brG, am_brL, am_st1, am_no2, am_st2, am_clr]
    refine am_wp_cc rfl rfl rfl (trivial) (w_M_spelt (a := 117) (b := 110) (c := 100) (e := 101) (f := 114) (by decide) (by decide) (by decide) (by decide) (by decide) ⟨_, rfl, ?_⟩)
    refine am_wp_ret rfl rfl ?_
    exact h
  · refine am_wp_pc (pc' := 211) rfl ?_
    have e : k = 10 := by omega
    subst e
    refine am_wp_go rfl (by simp (disch := omega) only [am_addE, am_subE, am_mulE, am_laddE, am_lsubE, am_upO, am_upS, am_stS, am_stO, am_tnn, am_brl, am_brg, am_bre, am_brn, am_brG, am_brL, am_st1, am_no2, am_st2, am_clr, and_self, true_and, and_true, true_or, or_true, List.length_cons, List.length_nil] <;> omega) ?_
    try simp (disch := omega) only [am_addE, am_subE, am_mulE, am_laddE, am_lsubE, am_upO, am_upS, am_stS, am_stO, am_tnn, am_brl, am_brg, am_bre, am_brn, am_brG, am_brL, am_st1, am_no2, am_st2, am_clr]
    refine am_wp_cc rfl rfl rfl (trivial) (w_M_spelt (a := 111) (b := 114) (c := 0) (e := 0) (f := 0) (by decide) (by decide) (by decide) (by decide) (by decide) ⟨_, rfl, ?_⟩)
    refine am_wp_ret rfl rfl ?_
    exact h
  · refine am_wp_pc (pc' := 222) rfl ?_
    have e : k = 11 := by omega
    subst e
    refine am_wp_go rfl (by simp (disch := omega) only [am_addE, am_subE, am_mulE, am_laddE, am_lsubE, am_upO, am_upS, am_stS, am_stO, am_tnn, am_brl, am_brg, am_bre, am_brn, am_brG, am_brL, am_st1, am_no2, am_st2, am_clr, and_self, true_and, and_true, true_or, or_true, List.length_cons, List.length_nil] <;> omega) ?_
    try simp (disch := omega) only [am_addE, am_subE, am_mulE, am_laddE, am_lsubE, am_upO, am_upS, am_stS, am_stO, am_tnn, am_brl, am_brg, am_bre, am_brn, am_brG, am_brL, am_st1, am_no2, am_st2, am_clr]
    refine am_wp_cc rfl rfl rfl (trivial) (w_M_spelt (a := 97) (b := 110) (c := 100) (e := 0) (f := 0) (by decide) (by decide) (by decide) (by decide) (by decide) ⟨_, rfl, ?_⟩)
    refine am_wp_ret rfl rfl ?_
    exact h
  · refine am_wp_pc (pc' := 234) rfl ?_
    have e : k = 12 := by omega
    subst e
    refine am_wp_go rfl (by simp (disch := omega) only [am_addE, am_subE, am_mulE, am_laddE, am_lsubE, am_upO, am_upS, am_stS, am_stO, am_tnn, am_brl, am_brg, am_bre, am_brn, am_brG, am_brL, am_st1, am_no2, am_st2, am_clr, and_self, true_and, and_true, true_or, or_true, List.length_cons, List.length_nil] <;> omega) ?_
    try simp (disch := omega) only [am_addE, am_subE, am_mulE, am_laddE, am_lsubE, am_upO, am_upS, am_stS, am_stO, am_tnn, am_brl, am_brg, am_bre, am_brn, am_brG, am_brL, am_st1, am_no2, am_st2, am_clr]
    refine am_wp_cc rfl rfl rfl (trivial) (w_M_spelt (a := 110) (b := 111) (c := 116) (e := 0) (f := 0) (by decide) (by decide) (by decide) (by decide) (by decide) ⟨_, rfl, ?_⟩)
    refine am_wp_ret rfl rfl ?_
    exact h
  · refine am_wp_pc (pc' := 246) rfl ?_
    have e : k = 13 := by omega
    subst e
    refine am_wp_go rfl (by simp (disch := omega) only [am_addE, am_subE, am_mulE, am_laddE, am_lsubE, am_upO, am_upS, am_stS, am_stO, am_tnn, am_brl, am_brg, am_bre, am_brn, am_brG, am_brL, am_st1, am_no2, am_st2, am_clr, and_self, true_and, and_true, true_or, or_true, List.length_cons, List.length_nil] <;> omega) ?_
    try simp (disch := omega) only [am_addE, am_subE, am_mulE, am_laddE, am_lsubE, am_upO, am_upS, am_stS, am_stO, am_tnn, am_brl, am_brg, am_bre, am_brn, am_brG, am_brL, am_st1, am_no2, am_st2, am_clr]
    refine am_wp_cc rfl rfl rfl (trivial) (w_M_spelt (a := 100) (b := 111) (c := 110) (e := 101) (f := 0) (by decide) (by decide) (by decide) (by decide) (by decide) ⟨_, rfl, ?_⟩)
    refine am_wp_ret rfl rfl ?_
    exact h
  · refine am_wp_pc (pc' := 259) rfl ?_
    have e : k = 14 := by omega
    subst e
    refine am_wp_go rfl (by simp (disch := omega) only [am_addE, am_subE, am_mulE, am_laddE, am_lsubE, am_upO, am_upS, am_stS, am_stO, am_tnn, am_brl, am_brg, am_bre, am_brn, am_brG, am_brL, am_st1, am_no2, am_st2, am_clr, and_self, true_and, and_true, true_or, or_true, List.length_cons, List.length_nil] <;> omega) ?_
    try simp (disch := omega) only [am_addE, am_subE, am_mulE, am_laddE, am_lsubE, am_upO, am_upS, am_stS, am_stO, am_tnn, am_brl, am_brg, am_bre, am_brn, am_brG, am_brL, am_st1, am_no2, am_st2, am_clr]
    refine am_wp_cc rfl rfl rfl (trivial) (w_M_spelt (a := 97) (b := 102) (c := 116) (e := 101) (f := 114) (by decide) (by decide) (by decide) (by decide) (by decide) ⟨_, rfl, ?_⟩)
    refine am_wp_ret rfl rfl ?_
    exact h
  · refine am_wp_pc (pc' := 273) rfl ?_
    have e : k = 15 := by omega
    subst e
    refine am_wp_go rfl (by simp (disch := omega) only [am_addE, am_subE, am_mulE, am_laddE, am_lsubE, am_upO, am_upS, am_stS, am_stO, am_tnn, am_brl, am_brg, am_bre, am_brn, am_brG, am_brL, am_st1, am_no2, am_st2, am_clr, and_self, true_and, and_true, true_or, or_true, List.length_cons, List.length_nil] <;> omega) ?_
    try simp (disch := omega) only [am_addE, am_subE, am_mulE, am_laddE, am_lsubE, am_upO, am_upS, am_stS, am_stO, am_tnn, am_brl, am_brg, am_bre, am_brn, am_brG, am_brL, am_st1, am_no2, am_st2, am_clr]
    refine am_wp_cc rfl rfl rfl (trivial) (w_M_spelt (a := 103) (b := 111) (c := 101) (e := 115) (f := 0) (by decide) (by decide) (by decide) (by decide) (by decide) ⟨_, rfl, ?_⟩)
    refine am_wp_ret rfl rfl ?_
    exact h
end RP
