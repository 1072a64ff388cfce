/-! TOKENS: the class's tape -/
/-- which of the words that are no NAMES -/
def owI (ws : List Nat) : Int := am_ff (fun w => decide (ownR w = (nm32 ws : Int))) 17 0
def cK (t : Tk) : Int := if t.1 = 2 then (if owI t.2.2.1 = -1 then 2 else 3) else (t.1 : Int)
def cV (t : Tk) : Int := if t.1 = 2 then (if owI t.2.2.1 = -1 then (nm32 t.2.2.1 : Int) else owI t.2.2.1) else (t.2.2.2 : Int)
def frT (I J : Nat → Nat → Int) : Prop := (∀ a, a ≠ 55 → a ≠ 58 → a ≠ 59 → a ≠ 60 → J a = I a) ∧ ∀ j, j ≠ 6 → J 55 j = I 55 j
/-- a TOKEN more -/
def tkP (I J : Nat → Nat → Int) (q : Nat) (t : Tk) : Prop := frT I J ∧ J 55 6 = ((q + 1 : Nat) : Int) ∧ J 58 = am_set (I 58) q (cK t) ∧ J 59 = am_set (I 59) q (t.2.1 : Int) ∧ ∃ v, J 60 = am_set (I 60) q v ∧ (2 ≤ t.1 → v = cV t)
section LEX
variable {m sl : Nat} {sh : Nat → Nat × Nat} {I : Nat → Nat → Int} {R : Nat → Nat → Nat} {Q : am_R → am_M → Prop} {d : Nat} {b : Nat → Nat} {n lim q : Nat}
theorem w_putToken {t : Tk} {k p v : Int} (hw : wd sh R) (hq : q < 641) (h6 : I 55 6 = (q : Int)) (ek : k = cK t) (ep : p = (t.2.1 : Int)) (ev : 2 ≤ t.1 → v = cV t) (h : ∀ J, tkP I J q t → Q am_yv (m, sl, sh, J, R)) : am_wp (d) 125 0 [some (.inr (.inr (55))), some (.inl (k)), some (.inl (p)), some (.inl (v))] [] (m, sl, sh, I, R) Q := by
  refine am_wp_go rfl (by simp (disch := omega) only [s55 hw, r55_3 hw, s58 hw, r55_4 hw, s59 hw, r55_5 hw, s60 hw, h6, am_addE, am_subE, am_mulE, am_laddE, am_lsubE, am_upO, am_upS, am_stS, am_stO, am_tnn, am_brl, am_brg, am_bre, am_brn, am_brG, am_brL, am_st1, am_no2, am_st2, am_clr, and_self, true_and, and_true, true_or, or_true, List.length_cons, List.length_nil] <;> omega) ?_
  try simp (disch := omega) only [s55 hw, r55_3 hw, s58 hw, r55_4 hw, s59 hw, r55_5 hw, s60 hw, h6, am_addE, am_subE, am_mulE, am_laddE, am_lsubE, am_upO, am_upS, am_stS, am_stO, am_tnn, am_brl, am_brg, am_bre, am_brn, am_brG, am_brL, am_st1, am_no2, am_st2, am_clr]
  refine am_wp_br (fun b7 => ?_) (fun b7 => ?_)
  · omega
  · refine am_wp_go rfl (by simp (disch := omega) only [s55 hw, r55_3 hw, s58 hw, r55_4 hw, s59 hw, r55_5 hw, s60 hw, h6, am_addE, am_subE, am_mulE, am_laddE, am_lsubE, am_upO, am_upS, am_stS, am_stO, am_tnn, am_brl, am_brg, am_bre, am_brn, am_brG, am_brL, am_st1, am_no2, am_st2, am_clr, and_self, true_and, and_true, true_or, or_true, List.length_cons, List.length_nil] <;> omega) ?_
    try simp (disch := omega) only [s55 hw, r55_3 hw, s58 hw, r55_4 hw, s59 hw, r55_5 hw, s60 hw, h6, am_addE, am_subE, am_mulE, am_laddE, am_lsubE, am_upO, am_upS, am_stS, am_stO, am_tnn, am_brl, am_brg, am_bre, am_brn, am_brG, am_brL, am_st1, am_no2, am_st2, am_clr]
    refine am_wp_ret rfl rfl ?_
    refine h _ ⟨⟨fun a h1 h2 h3 h4 => ?_, fun j hj => ?_⟩, ?_, ?_, ?_, v, ?_, ev⟩
    · rw [am_upO h1, am_upO h4, am_upO h3, am_upO h2]
    · rw [am_upS, am_stO hj, am_upO (by decide), am_upO (by decide), am_upO (by decide)]
    · rw [am_upS, am_stS rfl]; omega
    · rw [am_upO (by decide), am_upO (by decide), am_upO (by decide), am_upS, ek]
    · rw [am_upO (by decide), am_upO (by decide), am_upS, am_upO (by decide), ep]
    · rw [am_upO (by decide), am_upS, am_upO (by decide), am_upO (by decide)]
theorem w_putWord {f : Nat} {ws : List Nat} {x : Nat} (hw : wd sh R) (hq : q < 641) (h6 : I 55 6 = (q : Int)) (h57 : I 57 = ownR) (h : ∀ J, tkP I J q (2, f, ws, x) → Q am_yv (m, sl, sh, J, R)) : am_wp (d + 1) 124 0 [some (.inr (.inr (55))), some (.inl ((f : Int))), some (.inl ((nm32 ws : Int))), none] [] (m, sl, sh, I, R) Q := by
  refine am_wp_go rfl (by simp (disch := omega) only [s55 hw, r55_2 hw, s57 hw, am_addE, am_subE, am_mulE, am_laddE, am_lsubE, am_upO, am_upS, am_stS, am_stO, am_tnn, am_brl, am_brg, am_bre, am_brn, am_brG, am_brL, am_st1, am_no2, am_st2, am_clr, and_self, true_and, and_true, true_or, or_true, List.length_cons, List.length_nil] <;> omega) ?_
  try simp (disch := omega) only [s55 hw, r55_2 hw, s57 hw, am_addE, am_subE, am_mulE, am_laddE, am_lsubE, am_upO, am_upS, am_stS, am_stO, am_tnn, am_brl, am_brg, am_bre, am_brn, am_brG, am_brL, am_st1, am_no2, am_st2, am_clr]
  have eo : owI ws = am_ff (fun w => decide (ownR w = (nm32 ws : Int))) 17 0 := rfl
  have LP : ∀ k : Nat, k ≤ 17 → owI ws = am_ff (fun w => decide (ownR w = (nm32 ws : Int))) 17 k → am_wp (d + 1) 124 2 [some (.inr (.inr (55))), some (.inl ((f : Int))), some (.inl ((nm32 ws : Int))), some (.inl ((k : Int)))] [] (m, sl, sh, I, R) Q := by
    refine am_lp 17 (fun k hk ih e => ?_)
    have e57 : I 57 k = ownR k := by rw [h57]
    refine am_wp_go rfl (by simp (disch := omega) only [s55 hw, r55_2 hw, s57 hw, e57, am_addE, am_subE, am_mulE, am_laddE, am_lsubE, am_upO, am_upS, am_stS, am_stO, am_tnn, am_brl, am_brg, am_bre, am_brn, am_brG, am_brL, am_st1, am_no2, am_st2, am_clr, and_self, true_and, and_true, true_or, or_true, List.length_cons, List.length_nil] <;> omega) ?_
    try simp (disch := omega) only [s55 hw, r55_2 hw, s57 hw, e57, am_addE, am_subE, am_mulE, am_laddE, am_lsubE, am_upO, am_upS, am_stS, am_stO, am_tnn, am_brl, am_brg, am_bre, am_brn, am_brG, am_brL, am_st1, am_no2, am_st2, am_clr]
    refine am_wp_br (fun b8 => ?_) (fun b8 => ?_)
    · rw [am_ff_end (by omega)] at e
      refine am_wp_go rfl (by simp (disch := omega) only [s55 hw, r55_2 hw, s57 hw, e57, am_addE, am_subE, am_mulE, am_laddE, am_lsubE, am_upO, am_upS, am_stS, am_stO, am_tnn, am_brl, am_brg, am_bre, am_brn, am_brG, am_brL, am_st1, am_no2, am_st2, am_clr, and_self, true_and, and_true, true_or, or_true, List.length_cons, List.length_nil] <;> omega) ?_
      try simp (disch := omega) only [s55 hw, r55_2 hw, s57 hw, e57, am_addE, am_subE, am_mulE, am_laddE, am_lsubE, am_upO, am_upS, am_stS, am_stO, am_tnn, am_brl, am_brg, am_bre, am_brn, am_brG, am_brL, am_st1, am_no2, am_st2, am_clr]
      refine am_wp_cc rfl rfl rfl (congrArg Prod.fst (s55 hw)) (w_putToken (t := (2, f, ws, x)) hw hq h6 (by unfold cK; dsimp only; rw [e]; rfl) rfl (fun _ => by unfold cV; dsimp only; rw [e]; rfl) (fun J j => ⟨_, rfl, ?_⟩))
      refine am_wp_ret rfl rfl ?_
      exact h J j
    · refine am_wp_go rfl (by simp (disch := omega) only [s55 hw, r55_2 hw, s57 hw, e57, am_addE, am_subE, am_mulE, am_laddE, am_lsubE, am_upO, am_upS, am_stS, am_stO, am_tnn, am_brl, am_brg, am_bre, am_brn, am_brG, am_brL, am_st1, am_no2, am_st2, am_clr, and_self, true_and, and_true, true_or, or_true, List.length_cons, List.length_nil] <;> omega) ?_
      try simp (disch := omega) only [s55 hw, r55_2 hw, s57 hw, e57, am_addE, am_subE, am_mulE, am_laddE, am_lsubE, am_upO, am_upS, am_stS, am_stO, am_tnn, am_brl, am_brg, am_bre, am_brn, am_brG, am_brL, am_st1, am_no2, am_st2, am_clr]
      refine am_wp_br (fun b18 => ?_) (fun b18 => ?_)
      · rw [am_ff_on (decide_eq_false b18)] at e
        refine am_wp_go rfl (by simp (disch := omega) only [s55 hw, r55_2 hw, s57 hw, e57, am_addE, am_subE, am_mulE, am_laddE, am_lsubE, am_upO, am_upS, am_stS, am_stO, am_tnn, am_brl, am_brg, am_bre, am_brn, am_brG, am_brL, am_st1, am_no2, am_st2, am_clr, and_self, true_and, and_true, true_or, or_true, List.length_cons, List.length_nil] <;> omega) ?_
        try simp (disch := omega) only [s55 hw, r55_2 hw, s57 hw, e57, am_addE, am_subE, am_mulE, am_laddE, am_lsubE, am_upO, am_upS, am_stS, am_stO, am_tnn, am_brl, am_brg, am_bre, am_brn, am_brG, am_brL, am_st1, am_no2, am_st2, am_clr]
        exact am_wp_ls (ih (by omega) e) rfl
      · rw [am_ff_hit (by omega) (decide_eq_true (Classical.not_not.mp b18))] at e
        refine am_wp_go rfl (by simp (disch := omega) only [s55 hw, r55_2 hw, s57 hw, e57, am_addE, am_subE, am_mulE, am_laddE, am_lsubE, am_upO, am_upS, am_stS, am_stO, am_tnn, am_brl, am_brg, am_bre, am_brn, am_brG, am_brL, am_st1, am_no2, am_st2, am_clr, and_self, true_and, and_true, true_or, or_true, List.length_cons, List.length_nil] <;> omega) ?_
        try simp (disch := omega) only [s55 hw, r55_2 hw, s57 hw, e57, am_addE, am_subE, am_mulE, am_laddE, am_lsubE, am_upO, am_upS, am_stS, am_stO, am_tnn, am_brl, am_brg, am_bre, am_brn, am_brG, am_brL, am_st1, am_no2, am_st2, am_clr]
        refine am_wp_cc rfl rfl rfl (congrArg Prod.fst (s55 hw)) (w_putToken (t := (2, f, ws, x)) hw hq h6 (by unfold cK; dsimp only; rw [if_pos rfl, e, if_neg (by omega)]) rfl (fun _ => by unfold cV; dsimp only; rw [if_pos rfl, e, if_neg (by omega)]) (fun J j => ⟨_, rfl, ?_⟩))
        refine am_wp_ret rfl rfl ?_
        exact h J j
  exact am_wp_ls (LP 0 (by omega) eo) rfl
theorem sb_v {c : Nat} (h : c ≤ 255) : (sbyte (c : Int) = (c : Int) ∧ c < 128) ∨ (sbyte (c : Int) < 0 ∧ 128 ≤ c) := by
  unfold sbyte
  split <;> omega
theorem w_isLD {c : Nat} (hc : c ≤ 255) (h : Q (am_yi (am_b (lxA c = true))) (m, sl, sh, I, R)) : am_wp (d) 122 0 [some (.inl (sbyte (c : Int)))] [] (m, sl, sh, I, R) Q := by
  rw [am_b_iff (e := (97 ≤ c ∧ c ≤ 122) ∨ (48 ≤ c ∧ c ≤ 57)) lxA_t] at h
  have sv := sb_v hc
  generalize sbyte (c : Int) = y at *
  refine am_wp_go rfl (by simp (disch := omega) only [am_addE, am_subE, am_mulE, am_laddE, am_lsubE, am_upO, am_upS, am_stS, am_stO, am_tnn, am_brl, am_brg, am_bre, am_brn, am_brG, am_brL, am_st1, am_no2, am_st2, am_clr, and_self, true_and, and_true, true_or, or_true, List.length_cons, List.length_nil] <;> omega) ?_
  try simp (disch := omega) only [am_addE, am_subE, am_mulE, am_laddE, am_lsubE, am_upO, am_upS, am_stS, am_stO, am_tnn, am_brl, am_brg, am_bre, am_brn, am_brG, am_brL, am_st1, am_no2, am_st2, am_clr]
  refine am_wp_br (fun b3 => ?_) (fun b3 => ?_)
  · refine am_wp_go rfl (by simp (disch := omega) only [am_addE, am_subE, am_mulE, am_laddE, am_lsubE, am_upO, am_upS, am_stS, am_stO, am_tnn, am_brl, am_brg, am_bre, am_brn, am_brG, am_brL, am_st1, am_no2, am_st2, am_clr, and_self, true_and, and_true, true_or, or_true, List.length_cons, List.length_nil] <;> omega) ?_
    try simp (disch := omega) only [am_addE, am_subE, am_mulE, am_laddE, am_lsubE, am_upO, am_upS, am_stS, am_stO, am_tnn, am_brl, am_brg, am_bre, am_brn, am_brG, am_brL, am_st1, am_no2, am_st2, am_clr]
    refine am_wp_br (fun b15 => ?_) (fun b15 => ?_)
    · refine am_wp_go rfl (by simp (disch := omega) only [am_addE, am_subE, am_mulE, am_laddE, am_lsubE, am_upO, am_upS, am_stS, am_stO, am_tnn, am_brl, am_brg, am_bre, am_brn, am_brG, am_brL, am_st1, am_no2, am_st2, am_clr, and_self, true_and, and_true, true_or, or_true, List.length_cons, List.length_nil] <;> omega) ?_
      try simp (disch := omega) only [am_addE, am_subE, am_mulE, am_laddE, am_lsubE, am_upO, am_upS, am_stS, am_stO, am_tnn, am_brl, am_brg, am_bre, am_brn, am_brG, am_brL, am_st1, am_no2, am_st2, am_clr]
      refine am_wp_ret rfl rfl ?_
      first | (rwa [am_bF (by omega)] at h) | (rwa [am_bT (by omega)] at h)
    · refine am_wp_go rfl (by simp (disch := omega) only [am_addE, am_subE, am_mulE, am_laddE, am_lsubE, am_upO, am_upS, am_stS, am_stO, am_tnn, am_brl, am_brg, am_bre, am_brn, am_brG, am_brL, am_st1, am_no2, am_st2, am_clr, and_self, true_and, and_true, true_or, or_true, List.length_cons, List.length_nil] <;> omega) ?_
      try simp (disch := omega) only [am_addE, am_subE, am_mulE, am_laddE, am_lsubE, am_upO, am_upS, am_stS, am_stO, am_tnn, am_brl, am_brg, am_bre, am_brn, am_brG, am_brL, am_st1, am_no2, am_st2, am_clr]
      refine am_wp_br (fun b21 => ?_) (fun b21 => ?_)
      · refine am_wp_go rfl (by simp (disch := omega) only [am_addE, am_subE, am_mulE, am_laddE, am_lsubE, am_upO, am_upS, am_stS, am_stO, am_tnn, am_brl, am_brg, am_bre, am_brn, am_brG, am_brL, am_st1, am_no2, am_st2, am_clr, and_self, true_and, and_true, true_or, or_true, List.length_cons, List.length_nil] <;> omega) ?_
        try simp (disch := omega) only [am_addE, am_subE, am_mulE, am_laddE, am_lsubE, am_upO, am_upS, am_stS, am_stO, am_tnn, am_brl, am_brg, am_bre, am_brn, am_brG, am_brL, am_st1, am_no2, am_st2, am_clr]
        refine am_wp_ret rfl rfl ?_
        first | (rwa [am_bF (by omega)] at h) | (rwa [am_bT (by omega)] at h)
      · refine am_wp_go rfl (by simp (disch := omega) only [am_addE, am_subE, am_mulE, am_laddE, am_lsubE, am_upO, am_upS, am_stS, am_stO, am_tnn, am_brl, am_brg, am_bre, am_brn, am_brG, am_brL, am_st1, am_no2, am_st2, am_clr, and_self, true_and, and_true, true_or, or_true, List.length_cons, List.length_nil] <;> omega) ?_
        try simp (disch := omega) only [am_addE, am_subE, am_mulE, am_laddE, am_lsubE, am_upO, am_upS, am_stS, am_stO, am_tnn, am_brl, am_brg, am_bre, am_brn, am_brG, am_brL, am_st1, am_no2, am_st2, am_clr]
        refine am_wp_ret rfl rfl ?_
        first | (rwa [am_bF (by omega)] at h) | (rwa [am_bT (by omega)] at h)
  · refine am_wp_go rfl (by simp (disch := omega) only [am_addE, am_subE, am_mulE, am_laddE, am_lsubE, am_upO, am_upS, am_stS, am_stO, am_tnn, am_brl, am_brg, am_bre, am_brn, am_brG, am_brL, am_st1, am_no2, am_st2, am_clr, and_self, true_and, and_true, true_or, or_true, List.length_cons, List.length_nil] <;> omega) ?_
    try simp (disch := omega) only [am_addE, am_subE, am_mulE, am_laddE, am_lsubE, am_upO, am_upS, am_stS, am_stO, am_tnn, am_brl, am_brg, am_bre, am_brn, am_brG, am_brL, am_st1, am_no2, am_st2, am_clr]
    refine am_wp_br (fun b9 => ?_) (fun b9 => ?_)
    · refine am_wp_go rfl (by simp (disch := omega) only [am_addE, am_subE, am_mulE, am_laddE, am_lsubE, am_upO, am_upS, am_stS, am_stO, am_tnn, am_brl, am_brg, am_bre, am_brn, am_brG, am_brL, am_st1, am_no2, am_st2, am_clr, and_self, true_and, and_true, true_or, or_true, List.length_cons, List.length_nil] <;> omega) ?_
      try simp (disch := omega) only [am_addE, am_subE, am_mulE, am_laddE, am_lsubE, am_upO, am_upS, am_stS, am_stO, am_tnn, am_brl, am_brg, am_bre, am_brn, am_brG, am_brL, am_st1, am_no2, am_st2, am_clr]
      refine am_wp_ret rfl rfl ?_
      first | (rwa [am_bF (by omega)] at h) | (rwa [am_bT (by omega)] at h)
    · refine am_wp_go rfl (by simp (disch := omega) only [am_addE, am_subE, am_mulE, am_laddE, am_lsubE, am_upO, am_upS, am_stS, am_stO, am_tnn, am_brl, am_brg, am_bre, am_brn, am_brG, am_brL, am_st1, am_no2, am_st2, am_clr, and_self, true_and, and_true, true_or, or_true, List.length_cons, List.length_nil] <;> omega) ?_
      try simp (disch := omega) only [am_addE, am_subE, am_mulE, am_laddE, am_lsubE, am_upO, am_upS, am_stS, am_stO, am_tnn, am_brl, am_brg, am_bre, am_brn, am_brG, am_brL, am_st1, am_no2, am_st2, am_clr]
      refine am_wp_br (fun b15 => ?_) (fun b15 => ?_)
      · refine am_wp_go rfl (by simp (disch := omega) only [am_addE, am_subE, am_mulE, am_laddE, am_lsubE, am_upO, am_upS, am_stS, am_stO, am_tnn, am_brl, am_brg, am_bre, am_brn, am_brG, am_brL, am_st1, am_no2, am_st2, am_clr, and_self, true_and, and_true, true_or, or_true, List.length_cons, List.length_nil] <;> omega) ?_
        try simp (disch := omega) only [am_addE, am_subE, am_mulE, am_laddE, am_lsubE, am_upO, am_upS, am_stS, am_stO, am_tnn, am_brl, am_brg, am_bre, am_brn, am_brG, am_brL, am_st1, am_no2, am_st2, am_clr]
        refine am_wp_ret rfl rfl ?_
        first | (rwa [am_bF (by omega)] at h) | (rwa [am_bT (by omega)] at h)
      · refine am_wp_go rfl (by simp (disch := omega) only [am_addE, am_subE, am_mulE, am_laddE, am_lsubE, am_upO, am_upS, am_stS, am_stO, am_tnn, am_brl, am_brg, am_bre, am_brn, am_brG, am_brL, am_st1, am_no2, am_st2, am_clr, and_self, true_and, and_true, true_or, or_true, List.length_cons, List.length_nil] <;> omega) ?_
        try simp (disch := omega) only [am_addE, am_subE, am_mulE, am_laddE, am_lsubE, am_upO, am_upS, am_stS, am_stO, am_tnn, am_brl, am_brg, am_bre, am_brn, am_brG, am_brL, am_st1, am_no2, am_st2, am_clr]
        refine am_wp_br (fun b21 => ?_) (fun b21 => ?_)
        · refine am_wp_go rfl (by simp (disch := omega) only [am_addE, am_subE, am_mulE, am_laddE, am_lsubE, am_upO, am_upS, am_stS, am_stO, am_tnn, am_brl, am_brg, am_bre, am_brn, am_brG, am_brL, am_st1, am_no2, am_st2, am_clr, and_self, true_and, and_true, true_or, or_true, List.length_cons, List.length_nil] <;> omega) ?_
          try simp (disch := omega) only [am_addE, am_subE, am_mulE, am_laddE, am_lsubE, am_upO, am_upS, am_stS, am_stO, am_tnn, am_brl, am_brg, am_bre, am_brn, am_brG, am_brL, am_st1, am_no2, am_st2, am_clr]
          refine am_wp_ret rfl rfl ?_
          first | (rwa [am_bF (by omega)] at h) | (rwa [am_bT (by omega)] at h)
        · refine am_wp_go rfl (by simp (disch := omega) only [am_addE, am_subE, am_mulE, am_laddE, am_lsubE, am_upO, am_upS, am_stS, am_stO, am_tnn, am_brl, am_brg, am_bre, am_brn, am_brG, am_brL, am_st1, am_no2, am_st2, am_clr, and_self, true_and, and_true, true_or, or_true, List.length_cons, List.length_nil] <;> omega) ?_
          try simp (disch := omega) only [am_addE, am_subE, am_mulE, am_laddE, am_lsubE, am_upO, am_upS, am_stS, am_stO, am_tnn, am_brl, am_brg, am_bre, am_brn, am_brG, am_brL, am_st1, am_no2, am_st2, am_clr]
          refine am_wp_ret rfl rfl ?_
          first | (rwa [am_bF (by omega)] at h) | (rwa [am_bT (by omega)] at h)
theorem w_isSG {c : Nat} (hc : c ≤ 255) (h : Q (am_yi (am_b (lxG c = true))) (m, sl, sh, I, R)) : am_wp (d) 123 0 [some (.inl (sbyte (c : Int)))] [] (m, sl, sh, I, R) Q := by
  rw [am_b_iff (e := c = 59 ∨ c = 60 ∨ c = 61 ∨ c = 62 ∨ c = 40 ∨ c = 41) lxG_t] at h
  have sv := sb_v hc
  generalize sbyte (c : Int) = y at *
  refine am_wp_go rfl (by simp (disch := omega) only [am_addE, am_subE, am_mulE, am_laddE, am_lsubE, am_upO, am_upS, am_stS, am_stO, am_tnn, am_brl, am_brg, am_bre, am_brn, am_brG, am_brL, am_st1, am_no2, am_st2, am_clr, and_self, true_and, and_true, true_or, or_true, List.length_cons, List.length_nil] <;> omega) ?_
  try simp (disch := omega) only [am_addE, am_subE, am_mulE, am_laddE, am_lsubE, am_upO, am_upS, am_stS, am_stO, am_tnn, am_brl, am_brg, am_bre, am_brn, am_brG, am_brL, am_st1, am_no2, am_st2, am_clr]
  refine am_wp_br (fun b3 => ?_) (fun b3 => ?_)
  · refine am_wp_go rfl (by simp (disch := omega) only [am_addE, am_subE, am_mulE, am_laddE, am_lsubE, am_upO, am_upS, am_stS, am_stO, am_tnn, am_brl, am_brg, am_bre, am_brn, am_brG, am_brL, am_st1, am_no2, am_st2, am_clr, and_self, true_and, and_true, true_or, or_true, List.length_cons, List.length_nil] <;> omega) ?_
    try simp (disch := omega) only [am_addE, am_subE, am_mulE, am_laddE, am_lsubE, am_upO, am_upS, am_stS, am_stO, am_tnn, am_brl, am_brg, am_bre, am_brn, am_brG, am_brL, am_st1, am_no2, am_st2, am_clr]
    refine am_wp_ret rfl rfl ?_
    first | (rwa [am_bF (by omega)] at h) | (rwa [am_bT (by omega)] at h)
  · refine am_wp_go rfl (by simp (disch := omega) only [am_addE, am_subE, am_mulE, am_laddE, am_lsubE, am_upO, am_upS, am_stS, am_stO, am_tnn, am_brl, am_brg, am_bre, am_brn, am_brG, am_brL, am_st1, am_no2, am_st2, am_clr, and_self, true_and, and_true, true_or, or_true, List.length_cons, List.length_nil] <;> omega) ?_
    try simp (disch := omega) only [am_addE, am_subE, am_mulE, am_laddE, am_lsubE, am_upO, am_upS, am_stS, am_stO, am_tnn, am_brl, am_brg, am_bre, am_brn, am_brG, am_brL, am_st1, am_no2, am_st2, am_clr]
    refine am_wp_br (fun b9 => ?_) (fun b9 => ?_)
    · refine am_wp_go rfl (by simp (disch := omega) only [am_addE, am_subE, am_mulE, am_laddE, am_lsubE, am_upO, am_upS, am_stS, am_stO, am_tnn, am_brl, am_brg, am_bre, am_brn, am_brG, am_brL, am_st1, am_no2, am_st2, am_clr, and_self, true_and, and_true, true_or, or_true, List.length_cons, List.length_nil] <;> omega) ?_
      try simp (disch := omega) only [am_addE, am_subE, am_mulE, am_laddE, am_lsubE, am_upO, am_upS, am_stS, am_stO, am_tnn, am_brl, am_brg, am_bre, am_brn, am_brG, am_brL, am_st1, am_no2, am_st2, am_clr]
      refine am_wp_ret rfl rfl ?_
      first | (rwa [am_bF (by omega)] at h) | (rwa [am_bT (by omega)] at h)
    · refine am_wp_go rfl (by simp (disch := omega) only [am_addE, am_subE, am_mulE, am_laddE, am_lsubE, am_upO, am_upS, am_stS, am_stO, am_tnn, am_brl, am_brg, am_bre, am_brn, am_brG, am_brL, am_st1, am_no2, am_st2, am_clr, and_self, true_and, and_true, true_or, or_true, List.length_cons, List.length_nil] <;> omega) ?_
      try simp (disch := omega) only [am_addE, am_subE, am_mulE, am_laddE, am_lsubE, am_upO, am_upS, am_stS, am_stO, am_tnn, am_brl, am_brg, am_bre, am_brn, am_brG, am_brL, am_st1, am_no2, am_st2, am_clr]
      refine am_wp_br (fun b15 => ?_) (fun b15 => ?_)
      · refine am_wp_go rfl (by simp (disch := omega) only [am_addE, am_subE, am_mulE, am_laddE, am_lsubE, am_upO, am_upS, am_stS, am_stO, am_tnn, am_brl, am_brg, am_bre, am_brn, am_brG, am_brL, am_st1, am_no2, am_st2, am_clr, and_self, true_and, and_true, true_or, or_true, List.length_cons, List.length_nil] <;> omega) ?_
        try simp (disch := omega) only [am_addE, am_subE, am_mulE, am_laddE, am_lsubE, am_upO, am_upS, am_stS, am_stO, am_tnn, am_brl, am_brg, am_bre, am_brn, am_brG, am_brL, am_st1, am_no2, am_st2, am_clr]
        refine am_wp_ret rfl rfl ?_
        first | (rwa [am_bF (by omega)] at h) | (rwa [am_bT (by omega)] at h)
      · refine am_wp_go rfl (by simp (disch := omega) only [am_addE, am_subE, am_mulE, am_laddE, am_lsubE, am_upO, am_upS, am_stS, am_stO, am_tnn, am_brl, am_brg, am_bre, am_brn, am_brG, am_brL, am_st1, am_no2, am_st2, am_clr, and_self, true_and, and_true, true_or, or_true, List.length_cons, List.length_nil] <;> omega) ?_
        try simp (disch := omega) only [am_addE, am_subE, am_mulE, am_laddE, am_lsubE, am_upO, am_upS, am_stS, am_stO, am_tnn, am_brl, am_brg, am_bre, am_brn, am_brG, am_brL, am_st1, am_no2, am_st2, am_clr]
        refine am_wp_br (fun b21 => ?_) (fun b21 => ?_)
        · refine am_wp_go rfl (by simp (disch := omega) only [am_addE, am_subE, am_mulE, am_laddE, am_lsubE, am_upO, am_upS, am_stS, am_stO, am_tnn, am_brl, am_brg, am_bre, am_brn, am_brG, am_brL, am_st1, am_no2, am_st2, am_clr, and_self, true_and, and_true, true_or, or_true, List.length_cons, List.length_nil] <;> omega) ?_
          try simp (disch := omega) only [am_addE, am_subE, am_mulE, am_laddE, am_lsubE, am_upO, am_upS, am_stS, am_stO, am_tnn, am_brl, am_brg, am_bre, am_brn, am_brG, am_brL, am_st1, am_no2, am_st2, am_clr]
          refine am_wp_ret rfl rfl ?_
          first | (rwa [am_bF (by omega)] at h) | (rwa [am_bT (by omega)] at h)
        · refine am_wp_go rfl (by simp (disch := omega) only [am_addE, am_subE, am_mulE, am_laddE, am_lsubE, am_upO, am_upS, am_stS, am_stO, am_tnn, am_brl, am_brg, am_bre, am_brn, am_brG, am_brL, am_st1, am_no2, am_st2, am_clr, and_self, true_and, and_true, true_or, or_true, List.length_cons, List.length_nil] <;> omega) ?_
          try simp (disch := omega) only [am_addE, am_subE, am_mulE, am_laddE, am_lsubE, am_upO, am_upS, am_stS, am_stO, am_tnn, am_brl, am_brg, am_bre, am_brn, am_brG, am_brL, am_st1, am_no2, am_st2, am_clr]
          refine am_wp_br (fun b27 => ?_) (fun b27 => ?_)
          · refine am_wp_go rfl (by simp (disch := omega) only [am_addE, am_subE, am_mulE, am_laddE, am_lsubE, am_upO, am_upS, am_stS, am_stO, am_tnn, am_brl, am_brg, am_bre, am_brn, am_brG, am_brL, am_st1, am_no2, am_st2, am_clr, and_self, true_and, and_true, true_or, or_true, List.length_cons, List.length_nil] <;> omega) ?_
            try simp (disch := omega) only [am_addE, am_subE, am_mulE, am_laddE, am_lsubE, am_upO, am_upS, am_stS, am_stO, am_tnn, am_brl, am_brg, am_bre, am_brn, am_brG, am_brL, am_st1, am_no2, am_st2, am_clr]
            refine am_wp_ret rfl rfl ?_
            first | (rwa [am_bF (by omega)] at h) | (rwa [am_bT (by omega)] at h)
          · refine am_wp_go rfl (by simp (disch := omega) only [am_addE, am_subE, am_mulE, am_laddE, am_lsubE, am_upO, am_upS, am_stS, am_stO, am_tnn, am_brl, am_brg, am_bre, am_brn, am_brG, am_brL, am_st1, am_no2, am_st2, am_clr, and_self, true_and, and_true, true_or, or_true, List.length_cons, List.length_nil] <;> omega) ?_
            try simp (disch := omega) only [am_addE, am_subE, am_mulE, am_laddE, am_lsubE, am_upO, am_upS, am_stS, am_stO, am_tnn, am_brl, am_brg, am_bre, am_brn, am_brG, am_brL, am_st1, am_no2, am_st2, am_clr]
            refine am_wp_br (fun b33 => ?_) (fun b33 => ?_)
            · refine am_wp_go rfl (by simp (disch := omega) only [am_addE, am_subE, am_mulE, am_laddE, am_lsubE, am_upO, am_upS, am_stS, am_stO, am_tnn, am_brl, am_brg, am_bre, am_brn, am_brG, am_brL, am_st1, am_no2, am_st2, am_clr, and_self, true_and, and_true, true_or, or_true, List.length_cons, List.length_nil] <;> omega) ?_
              try simp (disch := omega) only [am_addE, am_subE, am_mulE, am_laddE, am_lsubE, am_upO, am_upS, am_stS, am_stO, am_tnn, am_brl, am_brg, am_bre, am_brn, am_brG, am_brL, am_st1, am_no2, am_st2, am_clr]
              refine am_wp_ret rfl rfl ?_
              first | (rwa [am_bF (by omega)] at h) | (rwa [am_bT (by omega)] at h)
            · refine am_wp_go rfl (by simp (disch := omega) only [am_addE, am_subE, am_mulE, am_laddE, am_lsubE, am_upO, am_upS, am_stS, am_stO, am_tnn, am_brl, am_brg, am_bre, am_brn, am_brG, am_brL, am_st1, am_no2, am_st2, am_clr, and_self, true_and, and_true, true_or, or_true, List.length_cons, List.length_nil] <;> omega) ?_
              try simp (disch := omega) only [am_addE, am_subE, am_mulE, am_laddE, am_lsubE, am_upO, am_upS, am_stS, am_stO, am_tnn, am_brl, am_brg, am_bre, am_brn, am_brG, am_brL, am_st1, am_no2, am_st2, am_clr]
              refine am_wp_ret rfl rfl ?_
              first | (rwa [am_bF (by omega)] at h) | (rwa [am_bT (by omega)] at h)
def lxV (b : Nat → Nat) (n f : Nat) : Tk := if lxA (b f) = true then (lxK b f (lxE b n f - f), f, lxW b f (lxE b n f - f), lxN b f (lxE b n f - f)) else ((if lxG (b f) = true then 5 else 1), f, [], b f)
set_option maxHeartbeats 8000000 in
theorem w_readToken {f : Nat} (hw : wd sh R) (hn : n ≤ 640) (hq : q < 641) (h6 : I 55 6 = (q : Int)) (h57 : I 57 = ownR) (hb : ∀ k, k < n → I 56 k = sbyte (b k : Int) ∧ b k ≤ 255) (hf : f < n) (h : ∀ J, tkP I J q (lxV b n f) → Q (am_yi ((if lxA (b f) = true then lxE b n f else f + 1 : Nat))) (m, sl, sh, J, R)) : am_wp (d + 2) 121 0 [some (.inr (.inr (55))), some (.inl ((f : Int))), some (.inl ((n : Int))), none, none, none, none, none] [] (m, sl, sh, I, R) Q := by
  unfold lxV at h
  refine am_wp_go rfl (by simp (disch := omega) only [am_addE, am_subE, am_mulE, am_laddE, am_lsubE, am_upO, am_upS, am_stS, am_stO, am_tnn, am_brl, am_brg, am_bre, am_brn, am_brG, am_brL, am_st1, am_no2, am_st2, am_clr, and_self, true_and, and_true, true_or, or_true, List.length_cons, List.length_nil] <;> omega) ?_
  try simp (disch := omega) only [am_addE, am_subE, am_mulE, am_laddE, am_lsubE, am_upO, am_upS, am_stS, am_stO, am_tnn, am_brl, am_brg, am_bre, am_brn, am_brG, am_brL, am_st1, am_no2, am_st2, am_clr]
  obtain ⟨b1, b2⟩ := hb f hf
  by_cases ha : lxA (b f) = true
  · rw [if_pos ha, if_pos ha] at h
    obtain ⟨v1, v2, v3, v4⟩ := lxE_v hf ha
    have LP : ∀ k : Nat, k ≤ lxE b n f - f → ∀ (lt dg : Nat) (y6 y7 : Int), lt + dg = k → (dg = 0 ↔ ∀ i : Nat, i < k → lxL (b (f + i)) = true) → (lt = 0 ↔ ∀ i : Nat, i < k → lxD (b (f + i)) = true) → ((∀ i : Nat, i < k → lxL (b (f + i)) = true) → k ≤ 6 → y6 = (nm32 (lxW b f k) : Int)) → ((∀ i : Nat, i < k → lxD (b (f + i)) = true) → k ≤ 3 → y7 = (lxN b f k : Int)) → am_wp (d + 2) 121 14 [some (.inr (.inr (55))), some (.inl ((f : Int))), some (.inl ((n : Int))), some (.inl (((f + k : Nat) : Int))), some (.inl ((lt : Int))), some (.inl ((dg : Int))), some (.inl (y6)), some (.inl (y7))] [] (m, sl, sh, I, R) Q := by
      refine am_lp (lxE b n f - f) (fun k hk ih lt dg y6 y7 hld c1 c2 g6 g7 => ?_)
      by_cases hke : k = lxE b n f - f
      · clear ih
        rw [← hke] at h
        -- what it is
        have ND : am_wp (d + 2) 121 91 [some (.inr (.inr (55))), some (.inl ((f : Int))), some (.inl ((n : Int))), some (.inl (((f + k : Nat) : Int))), some (.inl ((lt : Int))), some (.inl ((dg : Int))), some (.inl (y6)), some (.inl (y7))] [] (m, sl, sh, I, R) Q := by
          have hE : ((lxE b n f : Nat) : Int) = ((f + k : Nat) : Int) := by omega
          rw [hE] at h
          have BAD : lxK b f k = 1 → am_wp (d + 2) 121 172 [some (.inr (.inr (55))), some (.inl ((f : Int))), some (.inl ((n : Int))), some (.inl (((f + k : Nat) : Int))), some (.inl ((lt : Int))), some (.inl ((dg : Int))), some (.inl (y6)), some (.inl (y7))] [] (m, sl, sh, I, R) Q := fun e => by
            rw [e] at h
            refine am_wp_go rfl (by simp (disch := omega) only [am_addE, am_subE, am_mulE, am_laddE, am_lsubE, am_upO, am_upS, am_stS, am_stO, am_tnn, am_brl, am_brg, am_bre, am_brn, am_brG, am_brL, am_st1, am_no2, am_st2, am_clr, and_self, true_and, and_true, true_or, or_true, List.length_cons, List.length_nil] <;> omega) ?_
            try simp (disch := omega) only [am_addE, am_subE, am_mulE, am_laddE, am_lsubE, am_upO, am_upS, am_stS, am_stO, am_tnn, am_brl, am_brg, am_bre, am_brn, am_brG, am_brL, am_st1, am_no2, am_st2, am_clr]
            refine am_wp_cc rfl rfl rfl (congrArg Prod.fst (s55 hw)) (w_putToken (t := (1, f, lxW b f k, lxN b f k)) hw hq h6 rfl rfl (fun hx => by dsimp only at hx; omega) (fun J j => ⟨_, rfl, ?_⟩))
            refine am_wp_go rfl (by simp (disch := omega) only [am_addE, am_subE, am_mulE, am_laddE, am_lsubE, am_upO, am_upS, am_stS, am_stO, am_tnn, am_brl, am_brg, am_bre, am_brn, am_brG, am_brL, am_st1, am_no2, am_st2, am_clr, and_self, true_and, and_true, true_or, or_true, List.length_cons, List.length_nil] <;> omega) ?_
            try simp (disch := omega) only [am_addE, am_subE, am_mulE, am_laddE, am_lsubE, am_upO, am_upS, am_stS, am_stO, am_tnn, am_brl, am_brg, am_bre, am_brn, am_brG, am_brL, am_st1, am_no2, am_st2, am_clr]
            refine am_wp_ret rfl rfl ?_
            exact h J j
          refine am_wp_go rfl (by simp (disch := omega) only [am_addE, am_subE, am_mulE, am_laddE, am_lsubE, am_upO, am_upS, am_stS, am_stO, am_tnn, am_brl, am_brg, am_bre, am_brn, am_brG, am_brL, am_st1, am_no2, am_st2, am_clr, and_self, true_and, and_true, true_or, or_true, List.length_cons, List.length_nil] <;> omega) ?_
          try simp (disch := omega) only [am_addE, am_subE, am_mulE, am_laddE, am_lsubE, am_upO, am_upS, am_stS, am_stO, am_tnn, am_brl, am_brg, am_bre, am_brn, am_brG, am_brL, am_st1, am_no2, am_st2, am_clr]
          refine am_wp_br (fun b93 => ?_) (fun b93 => ?_)
          · refine am_wp_go rfl (by simp (disch := omega) only [am_addE, am_subE, am_mulE, am_laddE, am_lsubE, am_upO, am_upS, am_stS, am_stO, am_tnn, am_brl, am_brg, am_bre, am_brn, am_brG, am_brL, am_st1, am_no2, am_st2, am_clr, and_self, true_and, and_true, true_or, or_true, List.length_cons, List.length_nil] <;> omega) ?_
            try simp (disch := omega) only [am_addE, am_subE, am_mulE, am_laddE, am_lsubE, am_upO, am_upS, am_stS, am_stO, am_tnn, am_brl, am_brg, am_bre, am_brn, am_brG, am_brL, am_st1, am_no2, am_st2, am_clr]
            refine am_wp_br (fun b130 => ?_) (fun b130 => ?_)
            · have n1 : ¬ ∀ i : Nat, i < k → lxL (b (f + i)) = true := fun hx => by have := c1.mpr hx; omega
              refine am_wp_go rfl (by simp (disch := omega) only [am_addE, am_subE, am_mulE, am_laddE, am_lsubE, am_upO, am_upS, am_stS, am_stO, am_tnn, am_brl, am_brg, am_bre, am_brn, am_brG, am_brL, am_st1, am_no2, am_st2, am_clr, and_self, true_and, and_true, true_or, or_true, List.length_cons, List.length_nil] <;> omega) ?_
              try simp (disch := omega) only [am_addE, am_subE, am_mulE, am_laddE, am_lsubE, am_upO, am_upS, am_stS, am_stO, am_tnn, am_brl, am_brg, am_bre, am_brn, am_brG, am_brL, am_st1, am_no2, am_st2, am_clr]
              refine am_wp_br (fun b152 => ?_) (fun b152 => ?_)
              · have n2 : ¬ ∀ i : Nat, i < k → lxD (b (f + i)) = true := fun hx => by have := c2.mpr hx; omega
                exact BAD (by unfold lxK; rw [if_neg (fun hx => n1 hx.1), if_neg (fun hx => n2 hx.1)])
              · refine am_wp_go rfl (by simp (disch := omega) only [am_addE, am_subE, am_mulE, am_laddE, am_lsubE, am_upO, am_upS, am_stS, am_stO, am_tnn, am_brl, am_brg, am_bre, am_brn, am_brG, am_brL, am_st1, am_no2, am_st2, am_clr, and_self, true_and, and_true, true_or, or_true, List.length_cons, List.length_nil] <;> omega) ?_
                try simp (disch := omega) only [am_addE, am_subE, am_mulE, am_laddE, am_lsubE, am_upO, am_upS, am_stS, am_stO, am_tnn, am_brl, am_brg, am_bre, am_brn, am_brG, am_brL, am_st1, am_no2, am_st2, am_clr]
                refine am_wp_br (fun b158 => ?_) (fun b158 => ?_)
                · exact BAD (by unfold lxK; rw [if_neg (fun hx => n1 hx.1), if_neg (fun hx => by omega)])
                · have e : lxK b f k = 4 := by unfold lxK; rw [if_neg (fun hx => n1 hx.1), if_pos ⟨c2.mp (by omega), by omega⟩]
                  have e7 := g7 (c2.mp (by omega)) (by omega)
                  rw [e] at h
                  clear BAD
                  refine am_wp_go rfl (by simp (disch := omega) only [am_addE, am_subE, am_mulE, am_laddE, am_lsubE, am_upO, am_upS, am_stS, am_stO, am_tnn, am_brl, am_brg, am_bre, am_brn, am_brG, am_brL, am_st1, am_no2, am_st2, am_clr, and_self, true_and, and_true, true_or, or_true, List.length_cons, List.length_nil] <;> omega) ?_
                  try simp (disch := omega) only [am_addE, am_subE, am_mulE, am_laddE, am_lsubE, am_upO, am_upS, am_stS, am_stO, am_tnn, am_brl, am_brg, am_bre, am_brn, am_brG, am_brL, am_st1, am_no2, am_st2, am_clr]
                  refine am_wp_cc rfl rfl rfl (congrArg Prod.fst (s55 hw)) (w_putToken (t := (4, f, lxW b f k, lxN b f k)) hw hq h6 rfl rfl (fun _ => e7) (fun J j => ⟨_, rfl, ?_⟩))
                  refine am_wp_go rfl (by simp (disch := omega) only [am_addE, am_subE, am_mulE, am_laddE, am_lsubE, am_upO, am_upS, am_stS, am_stO, am_tnn, am_brl, am_brg, am_bre, am_brn, am_brG, am_brL, am_st1, am_no2, am_st2, am_clr, and_self, true_and, and_true, true_or, or_true, List.length_cons, List.length_nil] <;> omega) ?_
                  try simp (disch := omega) only [am_addE, am_subE, am_mulE, am_laddE, am_lsubE, am_upO, am_upS, am_stS, am_stO, am_tnn, am_brl, am_brg, am_bre, am_brn, am_brG, am_brL, am_st1, am_no2, am_st2, am_clr]
                  refine am_wp_ret rfl rfl ?_
                  exact h J j
            · have a1 := c1.mp (by omega)
              refine am_wp_go rfl (by simp (disch := omega) only [am_addE, am_subE, am_mulE, am_laddE, am_lsubE, am_upO, am_upS, am_stS, am_stO, am_tnn, am_brl, am_brg, am_bre, am_brn, am_brG, am_brL, am_st1, am_no2, am_st2, am_clr, and_self, true_and, and_true, true_or, or_true, List.length_cons, List.length_nil] <;> omega) ?_
              try simp (disch := omega) only [am_addE, am_subE, am_mulE, am_laddE, am_lsubE, am_upO, am_upS, am_stS, am_stO, am_tnn, am_brl, am_brg, am_bre, am_brn, am_brG, am_brL, am_st1, am_no2, am_st2, am_clr]
              refine am_wp_br (fun b137 => ?_) (fun b137 => ?_)
              · have n2 : ¬ ∀ i : Nat, i < k → lxD (b (f + i)) = true := fun hx => by have := c2.mpr hx; omega
                have e := BAD (by unfold lxK; rw [if_neg (fun hx => by omega), if_neg (fun hx => n2 hx.1)])
                refine am_wp_go rfl (by simp (disch := omega) only [am_addE, am_subE, am_mulE, am_laddE, am_lsubE, am_upO, am_upS, am_stS, am_stO, am_tnn, am_brl, am_brg, am_bre, am_brn, am_brG, am_brL, am_st1, am_no2, am_st2, am_clr, and_self, true_and, and_true, true_or, or_true, List.length_cons, List.length_nil] <;> omega) ?_
                try simp (disch := omega) only [am_addE, am_subE, am_mulE, am_laddE, am_lsubE, am_upO, am_upS, am_stS, am_stO, am_tnn, am_brl, am_brg, am_bre, am_brn, am_brG, am_brL, am_st1, am_no2, am_st2, am_clr]
                refine am_wp_br (fun b152 => ?_) (fun b152 => ?_)
                · exact e
                · omega
              · have e : lxK b f k = 2 := by unfold lxK; rw [if_pos ⟨a1, by omega⟩]
                rw [g6 a1 (by omega)]
                rw [e] at h
                clear BAD
                refine am_wp_go rfl (by simp (disch := omega) only [am_addE, am_subE, am_mulE, am_laddE, am_lsubE, am_upO, am_upS, am_stS, am_stO, am_tnn, am_brl, am_brg, am_bre, am_brn, am_brG, am_brL, am_st1, am_no2, am_st2, am_clr, and_self, true_and, and_true, true_or, or_true, List.length_cons, List.length_nil] <;> omega) ?_
                try simp (disch := omega) only [am_addE, am_subE, am_mulE, am_laddE, am_lsubE, am_upO, am_upS, am_stS, am_stO, am_tnn, am_brl, am_brg, am_bre, am_brn, am_brG, am_brL, am_st1, am_no2, am_st2, am_clr]
                refine am_wp_cc rfl rfl rfl (congrArg Prod.fst (s55 hw)) (w_putWord (f := f) (ws := lxW b f k) (x := lxN b f k) hw hq h6 h57 (fun J j => ⟨_, rfl, ?_⟩))
                refine am_wp_go rfl (by simp (disch := omega) only [am_addE, am_subE, am_mulE, am_laddE, am_lsubE, am_upO, am_upS, am_stS, am_stO, am_tnn, am_brl, am_brg, am_bre, am_brn, am_brG, am_brL, am_st1, am_no2, am_st2, am_clr, and_self, true_and, and_true, true_or, or_true, List.length_cons, List.length_nil] <;> omega) ?_
                try simp (disch := omega) only [am_addE, am_subE, am_mulE, am_laddE, am_lsubE, am_upO, am_upS, am_stS, am_stO, am_tnn, am_brl, am_brg, am_bre, am_brn, am_brG, am_brL, am_st1, am_no2, am_st2, am_clr]
                refine am_wp_ret rfl rfl ?_
                exact h J j
          · omega
        refine am_wp_go rfl (by simp (disch := omega) only [am_addE, am_subE, am_mulE, am_laddE, am_lsubE, am_upO, am_upS, am_stS, am_stO, am_tnn, am_brl, am_brg, am_bre, am_brn, am_brG, am_brL, am_st1, am_no2, am_st2, am_clr, and_self, true_and, and_true, true_or, or_true, List.length_cons, List.length_nil] <;> omega) ?_
        try simp (disch := omega) only [am_addE, am_subE, am_mulE, am_laddE, am_lsubE, am_upO, am_upS, am_stS, am_stO, am_tnn, am_brl, am_brg, am_bre, am_brn, am_brG, am_brL, am_st1, am_no2, am_st2, am_clr]
        refine am_wp_br (fun b16 => ?_) (fun b16 => ?_)
        · exact ND
        · have hlt : f + k < n := by omega
          have hna := v4 (by omega)
          rw [show lxE b n f = f + k by omega] at hna
          obtain ⟨d1, d2⟩ := hb (f + k) hlt
          refine am_wp_go rfl (by simp (disch := omega) only [s55 hw, r55_0 hw, s56 hw, d1, am_b0, am_addE, am_subE, am_mulE, am_laddE, am_lsubE, am_upO, am_upS, am_stS, am_stO, am_tnn, am_brl, am_brg, am_bre, am_brn, am_brG, am_brL, am_st1, am_no2, am_st2, am_clr, and_self, true_and, and_true, true_or, or_true, List.length_cons, List.length_nil] <;> omega) ?_
          try simp (disch := omega) only [s55 hw, r55_0 hw, s56 hw, d1, am_b0, am_addE, am_subE, am_mulE, am_laddE, am_lsubE, am_upO, am_upS, am_stS, am_stO, am_tnn, am_brl, am_brg, am_bre, am_brn, am_brG, am_brL, am_st1, am_no2, am_st2, am_clr]
          refine am_wp_cc rfl rfl rfl (trivial) (w_isLD (c := b (f + k)) d2 ⟨_, rfl, ?_⟩)
          rw [am_bF (by rw [hna]; decide)]
          refine am_wp_go rfl (by simp (disch := omega) only [s55 hw, r55_0 hw, s56 hw, d1, am_b0, am_addE, am_subE, am_mulE, am_laddE, am_lsubE, am_upO, am_upS, am_stS, am_stO, am_tnn, am_brl, am_brg, am_bre, am_brn, am_brG, am_brL, am_st1, am_no2, am_st2, am_clr, and_self, true_and, and_true, true_or, or_true, List.length_cons, List.length_nil] <;> omega) ?_
          refine am_wp_pc (pc' := 91) rfl ?_
          exact ND
      · have hk2 : k < lxE b n f - f := by omega
        have ih := ih hk2
        have hlt : f + k < n := by omega
        obtain ⟨d1, d2⟩ := hb (f + k) hlt
        have hal := v3 (f + k) (by omega) (by omega)
        have sv := sb_v d2
        have ha2 := lxA_t.mp hal
        have es : sbyte (b (f + k) : Int) = (b (f + k) : Int) := by omega
        clear h
        refine am_wp_go rfl (by simp (disch := omega) only [s55 hw, r55_0 hw, s56 hw, d1, am_b0, am_addE, am_subE, am_mulE, am_laddE, am_lsubE, am_upO, am_upS, am_stS, am_stO, am_tnn, am_brl, am_brg, am_bre, am_brn, am_brG, am_brL, am_st1, am_no2, am_st2, am_clr, and_self, true_and, and_true, true_or, or_true, List.length_cons, List.length_nil] <;> omega) ?_
        try simp (disch := omega) only [s55 hw, r55_0 hw, s56 hw, d1, am_b0, am_addE, am_subE, am_mulE, am_laddE, am_lsubE, am_upO, am_upS, am_stS, am_stO, am_tnn, am_brl, am_brg, am_bre, am_brn, am_brG, am_brL, am_st1, am_no2, am_st2, am_clr]
        refine am_wp_br (fun b16 => ?_) (fun b16 => ?_)
        · omega
        · refine am_wp_go rfl (by simp (disch := omega) only [s55 hw, r55_0 hw, s56 hw, d1, am_b0, am_addE, am_subE, am_mulE, am_laddE, am_lsubE, am_upO, am_upS, am_stS, am_stO, am_tnn, am_brl, am_brg, am_bre, am_brn, am_brG, am_brL, am_st1, am_no2, am_st2, am_clr, and_self, true_and, and_true, true_or, or_true, List.length_cons, List.length_nil] <;> omega) ?_
          try simp (disch := omega) only [s55 hw, r55_0 hw, s56 hw, d1, am_b0, am_addE, am_subE, am_mulE, am_laddE, am_lsubE, am_upO, am_upS, am_stS, am_stO, am_tnn, am_brl, am_brg, am_bre, am_brn, am_brG, am_brL, am_st1, am_no2, am_st2, am_clr]
          refine am_wp_cc rfl rfl rfl (trivial) (w_isLD (c := b (f + k)) d2 ⟨_, rfl, ?_⟩)
          rw [am_bT hal]
          refine am_wp_go rfl (by simp (disch := omega) only [s55 hw, r55_0 hw, s56 hw, d1, am_b0, am_addE, am_subE, am_mulE, am_laddE, am_lsubE, am_upO, am_upS, am_stS, am_stO, am_tnn, am_brl, am_brg, am_bre, am_brn, am_brG, am_brL, am_st1, am_no2, am_st2, am_clr, and_self, true_and, and_true, true_or, or_true, List.length_cons, List.length_nil] <;> omega) ?_
          refine am_wp_pc (pc' := 31) rfl ?_
          rw [es] at d1
          refine am_wp_go rfl (by simp (disch := omega) only [s55 hw, r55_0 hw, s56 hw, d1, am_b0, am_addE, am_subE, am_mulE, am_laddE, am_lsubE, am_upO, am_upS, am_stS, am_stO, am_tnn, am_brl, am_brg, am_bre, am_brn, am_brG, am_brL, am_st1, am_no2, am_st2, am_clr, and_self, true_and, and_true, true_or, or_true, List.length_cons, List.length_nil] <;> omega) ?_
          try simp (disch := omega) only [s55 hw, r55_0 hw, s56 hw, d1, am_b0, am_addE, am_subE, am_mulE, am_laddE, am_lsubE, am_upO, am_upS, am_stS, am_stO, am_tnn, am_brl, am_brg, am_bre, am_brn, am_brG, am_brL, am_st1, am_no2, am_st2, am_clr]
          refine am_wp_br (fun b39 => ?_) (fun b39 => ?_)
          · -- a digit
            have isD : lxD (b (f + k)) = true := lxD_t.mpr (by omega)
            have noL : ¬ lxL (b (f + k)) = true := fun hx => by have := lxL_t.mp hx; omega
            refine am_wp_go rfl (by simp (disch := omega) only [s55 hw, r55_0 hw, s56 hw, am_tnn, and_self, true_and, and_true] <;> omega) ?_
            refine am_wp_ls (ih lt (dg + 1) y6 (am_sub (am_add (am_mul y7 10) (b (f + k) : Int)) 48) (by omega) ⟨fun hx => by omega, fun hx => absurd (hx k (by omega)) noL⟩ ⟨fun hx i hi => ?_, fun hx => c2.mpr (fun i hi => hx i (by omega))⟩ (fun hx => absurd (hx k (by omega)) noL) (fun hx hy => ?_)) ?_
            · by_cases hik : i = k
              · rw [hik]; exact isD
              · exact c2.mp hx i (by omega)
            · have e7 := g7 (fun i hi => hx i (by omega)) (by omega)
              have l1 := lxN_b k (fun i hi => hx i (by omega))
              have l2 : 10 ^ k ≤ 100 := Nat.le_trans (Nat.pow_le_pow_right (by decide) (show k ≤ 2 by omega)) (by decide)
              rw [e7]
              simp (disch := omega) only [am_mulE, am_addE, am_subE]
              rw [lxN_s]
              omega
            · simp (disch := omega) only [s55 hw, r55_0 hw, s56 hw, d1, am_tnn, am_addE, am_st1, am_no2, am_st2, List.cons.injEq, Option.some.injEq, Sum.inl.injEq, and_true, true_and]
              omega
          · have isL : lxL (b (f + k)) = true := lxL_t.mpr (by omega)
            have noD : ¬ lxD (b (f + k)) = true := fun hx => by have := lxD_t.mp hx; omega
            refine am_wp_go rfl (by simp (disch := omega) only [s55 hw, r55_0 hw, s56 hw, am_tnn, and_self, true_and, and_true] <;> omega) ?_
            refine am_wp_ls (ih (lt + 1) dg (am_sub (am_add (am_mul y6 32) (b (f + k) : Int)) 96) y7 (by omega) ⟨fun hx i hi => ?_, fun hx => c1.mpr (fun i hi => hx i (by omega))⟩ ⟨fun hx => by omega, fun hx => absurd (hx k (by omega)) noD⟩ (fun hx hy => ?_) (fun hx => absurd (hx k (by omega)) noD)) ?_
            · by_cases hik : i = k
              · rw [hik]; exact isL
              · exact c1.mp hx i (by omega)
            · have e6 := g6 (fun i hi => hx i (by omega)) (by omega)
              have l1 := (lxW_b k (fun i hi => hx i (by omega))).1
              have l2 : 32 ^ k ≤ 33554432 := Nat.le_trans (Nat.pow_le_pow_right (by decide) (show k ≤ 5 by omega)) (by decide)
              rw [e6]
              simp (disch := omega) only [am_mulE, am_addE, am_subE]
              rw [lxW_32]
              omega
            · simp (disch := omega) only [s55 hw, r55_0 hw, s56 hw, d1, am_tnn, am_addE, am_st1, am_no2, am_st2, List.cons.injEq, Option.some.injEq, Sum.inl.injEq, and_true, true_and]
              omega
    exact am_wp_ls (LP 0 (Nat.zero_le _) 0 0 0 0 rfl ⟨fun _ i hi => absurd hi (Nat.not_lt_zero i), fun _ => rfl⟩ ⟨fun _ i hi => absurd hi (Nat.not_lt_zero i), fun _ => rfl⟩ (fun _ _ => rfl) (fun _ _ => rfl)) rfl
  · rw [if_neg ha, if_neg ha] at h
    have haf := bfalse ha
    have sv := sb_v b2
    refine am_wp_go rfl (by simp (disch := omega) only [am_addE, am_subE, am_mulE, am_laddE, am_lsubE, am_upO, am_upS, am_stS, am_stO, am_tnn, am_brl, am_brg, am_bre, am_brn, am_brG, am_brL, am_st1, am_no2, am_st2, am_clr, and_self, true_and, and_true, true_or, or_true, List.length_cons, List.length_nil] <;> omega) ?_
    try simp (disch := omega) only [am_addE, am_subE, am_mulE, am_laddE, am_lsubE, am_upO, am_upS, am_stS, am_stO, am_tnn, am_brl, am_brg, am_bre, am_brn, am_brG, am_brL, am_st1, am_no2, am_st2, am_clr]
    refine am_wp_br (fun b16 => ?_) (fun b16 => ?_)
    · omega
    · skip
      refine am_wp_go rfl (by simp (disch := omega) only [s55 hw, r55_0 hw, s56 hw, b1, am_b0, am_addE, am_subE, am_mulE, am_laddE, am_lsubE, am_upO, am_upS, am_stS, am_stO, am_tnn, am_brl, am_brg, am_bre, am_brn, am_brG, am_brL, am_st1, am_no2, am_st2, am_clr, and_self, true_and, and_true, true_or, or_true, List.length_cons, List.length_nil] <;> omega) ?_
      try simp (disch := omega) only [s55 hw, r55_0 hw, s56 hw, b1, am_b0, am_addE, am_subE, am_mulE, am_laddE, am_lsubE, am_upO, am_upS, am_stS, am_stO, am_tnn, am_brl, am_brg, am_bre, am_brn, am_brG, am_brL, am_st1, am_no2, am_st2, am_clr]
      refine am_wp_cc rfl rfl rfl (trivial) (w_isLD (c := b f) b2 ⟨_, rfl, ?_⟩)
      rw [am_bF ha]
      refine am_wp_go rfl (by simp (disch := omega) only [s55 hw, r55_0 hw, s56 hw, b1, am_b0, am_addE, am_subE, am_mulE, am_laddE, am_lsubE, am_upO, am_upS, am_stS, am_stO, am_tnn, am_brl, am_brg, am_bre, am_brn, am_brG, am_brL, am_st1, am_no2, am_st2, am_clr, and_self, true_and, and_true, true_or, or_true, List.length_cons, List.length_nil] <;> omega) ?_
      refine am_wp_pc (pc' := 91) rfl ?_
      refine am_wp_go rfl (by simp (disch := omega) only [s55 hw, r55_0 hw, s56 hw, b1, am_b0, am_addE, am_subE, am_mulE, am_laddE, am_lsubE, am_upO, am_upS, am_stS, am_stO, am_tnn, am_brl, am_brg, am_bre, am_brn, am_brG, am_brL, am_st1, am_no2, am_st2, am_clr, and_self, true_and, and_true, true_or, or_true, List.length_cons, List.length_nil] <;> omega) ?_
      try simp (disch := omega) only [s55 hw, r55_0 hw, s56 hw, b1, am_b0, am_addE, am_subE, am_mulE, am_laddE, am_lsubE, am_upO, am_upS, am_stS, am_stO, am_tnn, am_brl, am_brg, am_bre, am_brn, am_brG, am_brL, am_st1, am_no2, am_st2, am_clr]
      refine am_wp_br (fun b93 => ?_) (fun b93 => ?_)
      · exact absurd rfl b93
      · refine am_wp_go rfl (by simp (disch := omega) only [s55 hw, r55_0 hw, s56 hw, b1, am_b0, am_addE, am_subE, am_mulE, am_laddE, am_lsubE, am_upO, am_upS, am_stS, am_stO, am_tnn, am_brl, am_brg, am_bre, am_brn, am_brG, am_brL, am_st1, am_no2, am_st2, am_clr, and_self, true_and, and_true, true_or, or_true, List.length_cons, List.length_nil] <;> omega) ?_
        try simp (disch := omega) only [s55 hw, r55_0 hw, s56 hw, b1, am_b0, am_addE, am_subE, am_mulE, am_laddE, am_lsubE, am_upO, am_upS, am_stS, am_stO, am_tnn, am_brl, am_brg, am_bre, am_brn, am_brG, am_brL, am_st1, am_no2, am_st2, am_clr]
        refine am_wp_cc rfl rfl rfl (trivial) (w_isSG (c := b f) b2 ⟨_, rfl, ?_⟩)
        refine am_wp_go rfl (by simp (disch := omega) only [s55 hw, r55_0 hw, s56 hw, b1, am_b0, am_addE, am_subE, am_mulE, am_laddE, am_lsubE, am_upO, am_upS, am_stS, am_stO, am_tnn, am_brl, am_brg, am_bre, am_brn, am_brG, am_brL, am_st1, am_no2, am_st2, am_clr, and_self, true_and, and_true, true_or, or_true, List.length_cons, List.length_nil] <;> omega) ?_
        try simp (disch := omega) only [s55 hw, r55_0 hw, s56 hw, b1, am_b0, am_addE, am_subE, am_mulE, am_laddE, am_lsubE, am_upO, am_upS, am_stS, am_stO, am_tnn, am_brl, am_brg, am_bre, am_brn, am_brG, am_brL, am_st1, am_no2, am_st2, am_clr]
        refine am_wp_br (fun b106 => ?_) (fun b106 => ?_)
        · rw [if_neg b106] at h
          refine am_wp_go rfl (by simp (disch := omega) only [s55 hw, r55_0 hw, s56 hw, b1, am_b0, am_addE, am_subE, am_mulE, am_laddE, am_lsubE, am_upO, am_upS, am_stS, am_stO, am_tnn, am_brl, am_brg, am_bre, am_brn, am_brG, am_brL, am_st1, am_no2, am_st2, am_clr, and_self, true_and, and_true, true_or, or_true, List.length_cons, List.length_nil] <;> omega) ?_
          try simp (disch := omega) only [s55 hw, r55_0 hw, s56 hw, b1, am_b0, am_addE, am_subE, am_mulE, am_laddE, am_lsubE, am_upO, am_upS, am_stS, am_stO, am_tnn, am_brl, am_brg, am_bre, am_brn, am_brG, am_brL, am_st1, am_no2, am_st2, am_clr]
          refine am_wp_cc rfl rfl rfl (congrArg Prod.fst (s55 hw)) (w_putToken (t := (1, f, [], b f)) hw hq h6 rfl rfl (fun hx => by dsimp only at hx; omega) (fun J j => ⟨_, rfl, ?_⟩))
          refine am_wp_go rfl (by simp (disch := omega) only [s55 hw, r55_0 hw, s56 hw, b1, am_b0, am_addE, am_subE, am_mulE, am_laddE, am_lsubE, am_upO, am_upS, am_stS, am_stO, am_tnn, am_brl, am_brg, am_bre, am_brn, am_brG, am_brL, am_st1, am_no2, am_st2, am_clr, and_self, true_and, and_true, true_or, or_true, List.length_cons, List.length_nil] <;> omega) ?_
          try simp (disch := omega) only [s55 hw, r55_0 hw, s56 hw, b1, am_b0, am_addE, am_subE, am_mulE, am_laddE, am_lsubE, am_upO, am_upS, am_stS, am_stO, am_tnn, am_brl, am_brg, am_bre, am_brn, am_brG, am_brL, am_st1, am_no2, am_st2, am_clr]
          refine am_wp_ret rfl rfl ?_
          exact h J j
        · have b106 := Classical.not_not.mp b106
          rw [if_pos b106] at h
          have hg := lxG_t.mp b106
          refine am_wp_go rfl (by simp (disch := omega) only [s55 hw, r55_0 hw, s56 hw, b1, am_b0, am_addE, am_subE, am_mulE, am_laddE, am_lsubE, am_upO, am_upS, am_stS, am_stO, am_tnn, am_brl, am_brg, am_bre, am_brn, am_brG, am_brL, am_st1, am_no2, am_st2, am_clr, and_self, true_and, and_true, true_or, or_true, List.length_cons, List.length_nil] <;> omega) ?_
          try simp (disch := omega) only [s55 hw, r55_0 hw, s56 hw, b1, am_b0, am_addE, am_subE, am_mulE, am_laddE, am_lsubE, am_upO, am_upS, am_stS, am_stO, am_tnn, am_brl, am_brg, am_bre, am_brn, am_brG, am_brL, am_st1, am_no2, am_st2, am_clr]
          refine am_wp_cc rfl rfl rfl (congrArg Prod.fst (s55 hw)) (w_putToken (t := (5, f, [], b f)) hw hq h6 rfl rfl (fun _ => by unfold cV; dsimp only; rw [if_neg (by decide)]; omega) (fun J j => ⟨_, rfl, ?_⟩))
          refine am_wp_go rfl (by simp (disch := omega) only [s55 hw, r55_0 hw, s56 hw, b1, am_b0, am_addE, am_subE, am_mulE, am_laddE, am_lsubE, am_upO, am_upS, am_stS, am_stO, am_tnn, am_brl, am_brg, am_bre, am_brn, am_brG, am_brL, am_st1, am_no2, am_st2, am_clr, and_self, true_and, and_true, true_or, or_true, List.length_cons, List.length_nil] <;> omega) ?_
          try simp (disch := omega) only [s55 hw, r55_0 hw, s56 hw, b1, am_b0, am_addE, am_subE, am_mulE, am_laddE, am_lsubE, am_upO, am_upS, am_stS, am_stO, am_tnn, am_brl, am_brg, am_bre, am_brn, am_brG, am_brL, am_st1, am_no2, am_st2, am_clr]
          refine am_wp_ret rfl rfl ?_
          exact h J j
end LEX
