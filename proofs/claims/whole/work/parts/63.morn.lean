/-! MORNINGS: what is drawn -/
theorem am_ushr8 (y : Int) : 0 ≤ am_ushr y 8 ∧ am_ushr y 8 ≤ 16777215 := by
  unfold am_ushr
  have e : ((Int32.ofInt y).toUInt32 >>> ((Int32.ofInt 8).toUInt32 &&& Int32.toUInt32 31)).toNat = (Int32.ofInt y).toUInt32.toNat / 256 := by
    rw [UInt32.toNat_shiftRight, Nat.shiftRight_eq_div_pow]
    rfl
  have h1 : (Int32.ofInt y).toUInt32.toNat < 4294967296 := UInt32.toNat_lt _
  generalize (Int32.ofInt y).toUInt32 >>> ((Int32.ofInt 8).toUInt32 &&& Int32.toUInt32 31) = z at e
  have h2 : z.toNat < 16777216 := by rw [e]; omega
  have h3 : z.toInt32.toBitVec.toNat = z.toNat := rfl
  rw [am_bvi (by rw [h3]; omega), h3]
  omega
/-- the next number of a seed -/
def nxt (x : Int) : Int := am_add (am_mul x 1103515245) 12345
/-- which can be drawn: l minutes left of the sides, on already in this minute -/
def cdr (l : Nat → Nat) (on : Nat) (s : Nat) : Bool := !on.testBit s && decide (0 < l (2 * s) + l (2 * s + 1))
/-- the one with so many ahead of it -/
def kth (c : Nat → Bool) (n d : Nat) : Int := am_ff (fun s => c s && decide (ax_ct c s = d)) n 0
section MORN
variable {m sl : Nat} {sh : Nat → Nat × Nat} {I : Nat → Nat → Int} {R : Nat → Nat → Nat} {Q : am_R → am_M → Prop} {d : Nat} {W N : Nat → Int} {l : Nat → Nat} {on : Nat}
def lfC (I : Nat → Nat → Int) (l : Nat → Nat) (n : Nat) : Prop := ∀ i, i < 2 * n → I 74 i = (l i : Int) ∧ l i ≤ 20
def lfR (I : Nat → Nat → Int) (l : Nat → Nat) (n : Nat) : Prop := ∀ i, i < 2 * n → I 145 i = (l i : Int) ∧ l i ≤ 20
theorem w_nextDraw {x : Int} (h : Q (am_yi (nxt x)) (m, sl, sh, I, R)) : am_wp (d) 53 0 [some (.inl (x))] [] (m, sl, sh, I, R) Q := by
  refine am_wp_go rfl trivial ?_
  refine am_wp_ret rfl rfl ?_
  exact h
theorem w_canBeDrawn {s n : Nat} (hw : wd sh R) (hl : lfC I l n) (hs : s < n) (hn : n ≤ 8) (ho : I 73 6 = (on : Int)) (ho2 : on < 256) (h : Q (am_yi (am_b (cdr l on s = true))) (m, sl, sh, I, R)) : am_wp (d) 54 0 [some (.inr (.inr (73))), some (.inl ((s : Int)))] [] (m, sl, sh, I, R) Q := by
  have e1 := hl (2 * s) (by omega)
  have e2 := hl (2 * s + 1) (by omega)
  have o4 : on.testBit s = decide (on / 2 ^ s % 2 = 1) := Nat.testBit_eq_decide_div_mod_eq
  have o6 : ((on : Int)) / 2 ^ s = ((on / 2 ^ s : Nat) : Int) := by simp
  have o7 := Nat.div_le_self on (2 ^ s)
  have hc : cdr l on s = true ↔ on / 2 ^ s % 2 = 0 ∧ 0 < l (2 * s) + l (2 * s + 1) := by
    unfold cdr
    rw [o4, Bool.and_eq_true, decide_eq_true_iff, Bool.not_eq_true', decide_eq_false_iff_not]
    omega
  generalize on / 2 ^ s = q at o6 o7 hc
  refine am_wp_go rfl (by simp (disch := omega) only [s73 hw, r73_0 hw, s74 hw, ho, e1.1, e2.1, am_ushrN, o6, am_and1, am_tnA, am_tnM, Int.reduceToNat, am_addE, am_subE, am_mulE, am_laddE, am_lsubE, am_upO, am_upS, am_stS, am_stO, am_tnn, am_brl, am_brg, am_bre, am_brn, am_brG, am_brL, am_st1, am_no2, am_st2, am_clr, and_self, true_and, and_true, true_or, or_true, List.length_cons, List.length_nil] <;> omega) ?_
  try simp (disch := omega) only [s73 hw, r73_0 hw, s74 hw, ho, e1.1, e2.1, am_ushrN, o6, am_and1, am_tnA, am_tnM, Int.reduceToNat, am_addE, am_subE, am_mulE, am_laddE, am_lsubE, am_upO, am_upS, am_stS, am_stO, am_tnn, am_brl, am_brg, am_bre, am_brn, am_brG, am_brL, am_st1, am_no2, am_st2, am_clr]
  refine am_wp_br (fun b8 => ?_) (fun b8 => ?_)
  · refine am_wp_go rfl (by simp (disch := omega) only [s73 hw, r73_0 hw, s74 hw, ho, e1.1, e2.1, am_ushrN, o6, am_and1, am_tnA, am_tnM, Int.reduceToNat, am_addE, am_subE, am_mulE, am_laddE, am_lsubE, am_upO, am_upS, am_stS, am_stO, am_tnn, am_brl, am_brg, am_bre, am_brn, am_brG, am_brL, am_st1, am_no2, am_st2, am_clr, and_self, true_and, and_true, true_or, or_true, List.length_cons, List.length_nil] <;> omega) ?_
    try simp (disch := omega) only [s73 hw, r73_0 hw, s74 hw, ho, e1.1, e2.1, am_ushrN, o6, am_and1, am_tnA, am_tnM, Int.reduceToNat, am_addE, am_subE, am_mulE, am_laddE, am_lsubE, am_upO, am_upS, am_stS, am_stO, am_tnn, am_brl, am_brg, am_bre, am_brn, am_brG, am_brL, am_st1, am_no2, am_st2, am_clr]
    refine am_wp_ret rfl rfl ?_
    rwa [am_bF (fun h => by have := hc.mp h; omega)] at h
  · refine am_wp_go rfl (by simp (disch := omega) only [s73 hw, r73_0 hw, s74 hw, ho, e1.1, e2.1, am_ushrN, o6, am_and1, am_tnA, am_tnM, Int.reduceToNat, am_addE, am_subE, am_mulE, am_laddE, am_lsubE, am_upO, am_upS, am_stS, am_stO, am_tnn, am_brl, am_brg, am_bre, am_brn, am_brG, am_brL, am_st1, am_no2, am_st2, am_clr, and_self, true_and, and_true, true_or, or_true, List.length_cons, List.length_nil] <;> omega) ?_
    try simp (disch := omega) only [s73 hw, r73_0 hw, s74 hw, ho, e1.1, e2.1, am_ushrN, o6, am_and1, am_tnA, am_tnM, Int.reduceToNat, am_addE, am_subE, am_mulE, am_laddE, am_lsubE, am_upO, am_upS, am_stS, am_stO, am_tnn, am_brl, am_brg, am_bre, am_brn, am_brG, am_brL, am_st1, am_no2, am_st2, am_clr]
    refine am_wp_br (fun b30 => ?_) (fun b30 => ?_)
    · refine am_wp_go rfl (by simp (disch := omega) only [s73 hw, r73_0 hw, s74 hw, ho, e1.1, e2.1, am_ushrN, o6, am_and1, am_tnA, am_tnM, Int.reduceToNat, am_addE, am_subE, am_mulE, am_laddE, am_lsubE, am_upO, am_upS, am_stS, am_stO, am_tnn, am_brl, am_brg, am_bre, am_brn, am_brG, am_brL, am_st1, am_no2, am_st2, am_clr, and_self, true_and, and_true, true_or, or_true, List.length_cons, List.length_nil] <;> omega) ?_
      try simp (disch := omega) only [s73 hw, r73_0 hw, s74 hw, ho, e1.1, e2.1, am_ushrN, o6, am_and1, am_tnA, am_tnM, Int.reduceToNat, am_addE, am_subE, am_mulE, am_laddE, am_lsubE, am_upO, am_upS, am_stS, am_stO, am_tnn, am_brl, am_brg, am_bre, am_brn, am_brG, am_brL, am_st1, am_no2, am_st2, am_clr]
      refine am_wp_ret rfl rfl ?_
      rwa [am_bF (fun h => by have := hc.mp h; omega)] at h
    · refine am_wp_go rfl (by simp (disch := omega) only [s73 hw, r73_0 hw, s74 hw, ho, e1.1, e2.1, am_ushrN, o6, am_and1, am_tnA, am_tnM, Int.reduceToNat, am_addE, am_subE, am_mulE, am_laddE, am_lsubE, am_upO, am_upS, am_stS, am_stO, am_tnn, am_brl, am_brg, am_bre, am_brn, am_brG, am_brL, am_st1, am_no2, am_st2, am_clr, and_self, true_and, and_true, true_or, or_true, List.length_cons, List.length_nil] <;> omega) ?_
      try simp (disch := omega) only [s73 hw, r73_0 hw, s74 hw, ho, e1.1, e2.1, am_ushrN, o6, am_and1, am_tnA, am_tnM, Int.reduceToNat, am_addE, am_subE, am_mulE, am_laddE, am_lsubE, am_upO, am_upS, am_stS, am_stO, am_tnn, am_brl, am_brg, am_bre, am_brn, am_brG, am_brL, am_st1, am_no2, am_st2, am_clr]
      refine am_wp_ret rfl rfl ?_
      rwa [am_bT (hc.mpr (by omega))] at h
theorem w_slicesToDraw (hw : wd sh R) (hk : kit I 6 W N) (hl : lfC I l (nS W)) (ho : I 73 6 = (on : Int)) (ho2 : on < 256) (h : Q (am_yi (ax_ct (cdr l on) (nS W))) (m, sl, sh, I, R)) : am_wp (d + 1) 55 0 [some (.inr (.inr (73))), some (.inr (.inr (6))), none, none] [] (m, sl, sh, I, R) Q := by
  have n1 := wk_nS hk.1
  have o1 : I 6 6 = (nS W : Int) := by rw [hk.2.1.2.2.2.2.2.1]; exact n1.1
  refine am_wp_go rfl (by simp (disch := omega) only [s6 hw, o1, am_b0, am_addE, am_subE, am_mulE, am_laddE, am_lsubE, am_upO, am_upS, am_stS, am_stO, am_tnn, am_brl, am_brg, am_bre, am_brn, am_brG, am_brL, am_st1, am_no2, am_st2, am_clr, and_self, true_and, and_true, true_or, or_true, List.length_cons, List.length_nil] <;> omega) ?_
  try simp (disch := omega) only [s6 hw, o1, am_b0, am_addE, am_subE, am_mulE, am_laddE, am_lsubE, am_upO, am_upS, am_stS, am_stO, am_tnn, am_brl, am_brg, am_bre, am_brn, am_brG, am_brL, am_st1, am_no2, am_st2, am_clr]
  refine am_lp0 (P := fun k => am_wp (d + 1) 55 4 [some (.inr (.inr (73))), some (.inr (.inr (6))), some (.inl ((ax_ct (cdr l on) k : Int))), some (.inl ((k : Int)))] [] (m, sl, sh, I, R) Q) (nS W) (fun k hkl ih => ?_)
  have hc := ax_ct_le (cdr l on) k
  refine am_wp_go rfl (by simp (disch := omega) only [s6 hw, o1, am_b0, am_addE, am_subE, am_mulE, am_laddE, am_lsubE, am_upO, am_upS, am_stS, am_stO, am_tnn, am_brl, am_brg, am_bre, am_brn, am_brG, am_brL, am_st1, am_no2, am_st2, am_clr, and_self, true_and, and_true, true_or, or_true, List.length_cons, List.length_nil] <;> omega) ?_
  try simp (disch := omega) only [s6 hw, o1, am_b0, am_addE, am_subE, am_mulE, am_laddE, am_lsubE, am_upO, am_upS, am_stS, am_stO, am_tnn, am_brl, am_brg, am_bre, am_brn, am_brG, am_brL, am_st1, am_no2, am_st2, am_clr]
  refine am_wp_br (fun b9 => ?_) (fun b9 => ?_)
  · refine am_wp_go rfl (by simp (disch := omega) only [s6 hw, o1, am_b0, am_addE, am_subE, am_mulE, am_laddE, am_lsubE, am_upO, am_upS, am_stS, am_stO, am_tnn, am_brl, am_brg, am_bre, am_brn, am_brG, am_brL, am_st1, am_no2, am_st2, am_clr, and_self, true_and, and_true, true_or, or_true, List.length_cons, List.length_nil] <;> omega) ?_
    try simp (disch := omega) only [s6 hw, o1, am_b0, am_addE, am_subE, am_mulE, am_laddE, am_lsubE, am_upO, am_upS, am_stS, am_stO, am_tnn, am_brl, am_brg, am_bre, am_brn, am_brG, am_brL, am_st1, am_no2, am_st2, am_clr]
    refine am_wp_ret rfl rfl ?_
    rw [show nS W = k by omega] at h
    exact h
  · refine am_wp_go rfl (by simp (disch := omega) only [s6 hw, o1, am_b0, am_addE, am_subE, am_mulE, am_laddE, am_lsubE, am_upO, am_upS, am_stS, am_stO, am_tnn, am_brl, am_brg, am_bre, am_brn, am_brG, am_brL, am_st1, am_no2, am_st2, am_clr, and_self, true_and, and_true, true_or, or_true, List.length_cons, List.length_nil] <;> omega) ?_
    try simp (disch := omega) only [s6 hw, o1, am_b0, am_addE, am_subE, am_mulE, am_laddE, am_lsubE, am_upO, am_upS, am_stS, am_stO, am_tnn, am_brl, am_brg, am_bre, am_brn, am_brG, am_brL, am_st1, am_no2, am_st2, am_clr]
    refine am_wp_cc rfl rfl rfl (congrArg Prod.fst (s73 hw)) (w_canBeDrawn hw hl (by omega) n1.2 ho ho2 ⟨_, rfl, ?_⟩)
    refine am_wp_go rfl (by simp (disch := omega) only [s6 hw, o1, am_b0, am_addE, am_subE, am_mulE, am_laddE, am_lsubE, am_upO, am_upS, am_stS, am_stO, am_tnn, am_brl, am_brg, am_bre, am_brn, am_brG, am_brL, am_st1, am_no2, am_st2, am_clr, and_self, true_and, and_true, true_or, or_true, List.length_cons, List.length_nil] <;> omega) ?_
    try simp (disch := omega) only [s6 hw, o1, am_b0, am_addE, am_subE, am_mulE, am_laddE, am_lsubE, am_upO, am_upS, am_stS, am_stO, am_tnn, am_brl, am_brg, am_bre, am_brn, am_brG, am_brL, am_st1, am_no2, am_st2, am_clr]
    refine am_wp_br (fun b17 => ?_) (fun b17 => ?_)
    · have h21 : cdr l on k = false := by cases hh : cdr l on k with | true => exact absurd hh b17 | false => rfl
      refine am_wp_go rfl (by simp (disch := omega) only [s6 hw, o1, am_b0, am_addE, am_subE, am_mulE, am_laddE, am_lsubE, am_upO, am_upS, am_stS, am_stO, am_tnn, am_brl, am_brg, am_bre, am_brn, am_brG, am_brL, am_st1, am_no2, am_st2, am_clr, and_self, true_and, and_true, true_or, or_true, List.length_cons, List.length_nil] <;> omega) ?_
      try simp (disch := omega) only [s6 hw, o1, am_b0, am_addE, am_subE, am_mulE, am_laddE, am_lsubE, am_upO, am_upS, am_stS, am_stO, am_tnn, am_brl, am_brg, am_bre, am_brn, am_brG, am_brL, am_st1, am_no2, am_st2, am_clr]
      exact am_wp_ls (ih (by omega)) (by simp (disch := omega) only [ax_ct, h21, cond_false, s6 hw, o1, am_b0, am_addE, am_subE, am_mulE, am_laddE, am_lsubE, am_upO, am_upS, am_stS, am_stO, am_tnn, am_brl, am_brg, am_bre, am_brn, am_brG, am_brL, am_st1, am_no2, am_st2, am_clr, List.cons.injEq, Option.some.injEq, Sum.inl.injEq, Sum.inr.injEq, and_self, true_and, and_true] <;> omega)
    · have h21 : cdr l on k = true := Classical.not_not.mp b17
      refine am_wp_go rfl (by simp (disch := omega) only [s6 hw, o1, am_b0, am_addE, am_subE, am_mulE, am_laddE, am_lsubE, am_upO, am_upS, am_stS, am_stO, am_tnn, am_brl, am_brg, am_bre, am_brn, am_brG, am_brL, am_st1, am_no2, am_st2, am_clr, and_self, true_and, and_true, true_or, or_true, List.length_cons, List.length_nil] <;> omega) ?_
      try simp (disch := omega) only [s6 hw, o1, am_b0, am_addE, am_subE, am_mulE, am_laddE, am_lsubE, am_upO, am_upS, am_stS, am_stO, am_tnn, am_brl, am_brg, am_bre, am_brn, am_brG, am_brL, am_st1, am_no2, am_st2, am_clr]
      exact am_wp_ls (ih (by omega)) (by simp (disch := omega) only [ax_ct, h21, cond_true, s6 hw, o1, am_b0, am_addE, am_subE, am_mulE, am_laddE, am_lsubE, am_upO, am_upS, am_stS, am_stO, am_tnn, am_brl, am_brg, am_bre, am_brn, am_brG, am_brL, am_st1, am_no2, am_st2, am_clr, List.cons.injEq, Option.some.injEq, Sum.inl.injEq, Sum.inr.injEq, and_self, true_and, and_true] <;> omega)
theorem w_drawnSlice {q : Nat} (hw : wd sh R) (hk : kit I 6 W N) (hl : lfC I l (nS W)) (ho : I 73 6 = (on : Int)) (ho2 : on < 256) (h : Q (am_yi (if kth (cdr l on) (nS W) q = -1 then 0 else kth (cdr l on) (nS W) q)) (m, sl, sh, I, R)) : am_wp (d + 1) 56 0 [some (.inr (.inr (73))), some (.inr (.inr (6))), some (.inl ((q : Int))), none, none] [] (m, sl, sh, I, R) Q := by
  have n1 := wk_nS hk.1
  have o1 : I 6 6 = (nS W : Int) := by rw [hk.2.1.2.2.2.2.2.1]; exact n1.1
  unfold kth at h
  refine am_wp_go rfl (by simp (disch := omega) only [s6 hw, o1, am_b0, am_addE, am_subE, am_mulE, am_laddE, am_lsubE, am_upO, am_upS, am_stS, am_stO, am_tnn, am_brl, am_brg, am_bre, am_brn, am_brG, am_brL, am_st1, am_no2, am_st2, am_clr, and_self, true_and, and_true, true_or, or_true, List.length_cons, List.length_nil] <;> omega) ?_
  try simp (disch := omega) only [s6 hw, o1, am_b0, am_addE, am_subE, am_mulE, am_laddE, am_lsubE, am_upO, am_upS, am_stS, am_stO, am_tnn, am_brl, am_brg, am_bre, am_brn, am_brG, am_brL, am_st1, am_no2, am_st2, am_clr]
  revert h
  refine am_lp0 (P := fun k => Q (am_yi (if am_ff (fun s => cdr l on s && decide (ax_ct (cdr l on) s = q)) (nS W) k = -1 then 0 else am_ff (fun s => cdr l on s && decide (ax_ct (cdr l on) s = q)) (nS W) k)) (m, sl, sh, I, R) → am_wp (d + 1) 56 5 [some (.inr (.inr (73))), some (.inr (.inr (6))), some (.inl ((q : Int))), some (.inl ((ax_ct (cdr l on) k : Int))), some (.inl ((k : Int)))] [] (m, sl, sh, I, R) Q) (nS W) (fun k hkl ih h => ?_)
  have hc := ax_ct_le (cdr l on) k
  refine am_wp_go rfl (by simp (disch := omega) only [s6 hw, o1, am_b0, am_addE, am_subE, am_mulE, am_laddE, am_lsubE, am_upO, am_upS, am_stS, am_stO, am_tnn, am_brl, am_brg, am_bre, am_brn, am_brG, am_brL, am_st1, am_no2, am_st2, am_clr, and_self, true_and, and_true, true_or, or_true, List.length_cons, List.length_nil] <;> omega) ?_
  try simp (disch := omega) only [s6 hw, o1, am_b0, am_addE, am_subE, am_mulE, am_laddE, am_lsubE, am_upO, am_upS, am_stS, am_stO, am_tnn, am_brl, am_brg, am_bre, am_brn, am_brG, am_brL, am_st1, am_no2, am_st2, am_clr]
  refine am_wp_br (fun b11 => ?_) (fun b11 => ?_)
  · refine am_wp_go rfl (by simp (disch := omega) only [s6 hw, o1, am_b0, am_addE, am_subE, am_mulE, am_laddE, am_lsubE, am_upO, am_upS, am_stS, am_stO, am_tnn, am_brl, am_brg, am_bre, am_brn, am_brG, am_brL, am_st1, am_no2, am_st2, am_clr, and_self, true_and, and_true, true_or, or_true, List.length_cons, List.length_nil] <;> omega) ?_
    try simp (disch := omega) only [s6 hw, o1, am_b0, am_addE, am_subE, am_mulE, am_laddE, am_lsubE, am_upO, am_upS, am_stS, am_stO, am_tnn, am_brl, am_brg, am_bre, am_brn, am_brG, am_brL, am_st1, am_no2, am_st2, am_clr]
    refine am_wp_ret rfl rfl ?_
    rw [am_ff_end (by omega), if_pos rfl] at h
    exact h
  · refine am_wp_go rfl (by simp (disch := omega) only [s6 hw, o1, am_b0, am_addE, am_subE, am_mulE, am_laddE, am_lsubE, am_upO, am_upS, am_stS, am_stO, am_tnn, am_brl, am_brg, am_bre, am_brn, am_brG, am_brL, am_st1, am_no2, am_st2, am_clr, and_self, true_and, and_true, true_or, or_true, List.length_cons, List.length_nil] <;> omega) ?_
    try simp (disch := omega) only [s6 hw, o1, am_b0, am_addE, am_subE, am_mulE, am_laddE, am_lsubE, am_upO, am_upS, am_stS, am_stO, am_tnn, am_brl, am_brg, am_bre, am_brn, am_brG, am_brL, am_st1, am_no2, am_st2, am_clr]
    refine am_wp_cc rfl rfl rfl (congrArg Prod.fst (s73 hw)) (w_canBeDrawn hw hl (by omega) n1.2 ho ho2 ⟨_, rfl, ?_⟩)
    refine am_wp_go rfl (by simp (disch := omega) only [s6 hw, o1, am_b0, am_addE, am_subE, am_mulE, am_laddE, am_lsubE, am_upO, am_upS, am_stS, am_stO, am_tnn, am_brl, am_brg, am_bre, am_brn, am_brG, am_brL, am_st1, am_no2, am_st2, am_clr, and_self, true_and, and_true, true_or, or_true, List.length_cons, List.length_nil] <;> omega) ?_
    try simp (disch := omega) only [s6 hw, o1, am_b0, am_addE, am_subE, am_mulE, am_laddE, am_lsubE, am_upO, am_upS, am_stS, am_stO, am_tnn, am_brl, am_brg, am_bre, am_brn, am_brG, am_brL, am_st1, am_no2, am_st2, am_clr]
    refine am_wp_br (fun b20 => ?_) (fun b20 => ?_)
    · have h21 : cdr l on k = false := by cases hh : cdr l on k with | true => exact absurd hh b20 | false => rfl
      rw [am_ff_on (by rw [h21]; rfl)] at h
      refine am_wp_go rfl (by simp (disch := omega) only [s6 hw, o1, am_b0, am_addE, am_subE, am_mulE, am_laddE, am_lsubE, am_upO, am_upS, am_stS, am_stO, am_tnn, am_brl, am_brg, am_bre, am_brn, am_brG, am_brL, am_st1, am_no2, am_st2, am_clr, and_self, true_and, and_true, true_or, or_true, List.length_cons, List.length_nil] <;> omega) ?_
      try simp (disch := omega) only [s6 hw, o1, am_b0, am_addE, am_subE, am_mulE, am_laddE, am_lsubE, am_upO, am_upS, am_stS, am_stO, am_tnn, am_brl, am_brg, am_bre, am_brn, am_brG, am_brL, am_st1, am_no2, am_st2, am_clr]
      refine am_wp_ls (ih (by omega) h) ?_
      simp only [ax_ct, h21, cond_false]
      rfl
    · have h21 : cdr l on k = true := Classical.not_not.mp b20
      refine am_wp_go rfl (by simp (disch := omega) only [s6 hw, o1, am_b0, am_addE, am_subE, am_mulE, am_laddE, am_lsubE, am_upO, am_upS, am_stS, am_stO, am_tnn, am_brl, am_brg, am_bre, am_brn, am_brG, am_brL, am_st1, am_no2, am_st2, am_clr, and_self, true_and, and_true, true_or, or_true, List.length_cons, List.length_nil] <;> omega) ?_
      try simp (disch := omega) only [s6 hw, o1, am_b0, am_addE, am_subE, am_mulE, am_laddE, am_lsubE, am_upO, am_upS, am_stS, am_stO, am_tnn, am_brl, am_brg, am_bre, am_brn, am_brG, am_brL, am_st1, am_no2, am_st2, am_clr]
      refine am_wp_br (fun b25 => ?_) (fun b25 => ?_)
      · rw [am_ff_on (by rw [h21, decide_eq_false (by omega)]; rfl)] at h
        refine am_wp_go rfl (by simp (disch := omega) only [s6 hw, o1, am_b0, am_addE, am_subE, am_mulE, am_laddE, am_lsubE, am_upO, am_upS, am_stS, am_stO, am_tnn, am_brl, am_brg, am_bre, am_brn, am_brG, am_brL, am_st1, am_no2, am_st2, am_clr, and_self, true_and, and_true, true_or, or_true, List.length_cons, List.length_nil] <;> omega) ?_
        try simp (disch := omega) only [s6 hw, o1, am_b0, am_addE, am_subE, am_mulE, am_laddE, am_lsubE, am_upO, am_upS, am_stS, am_stO, am_tnn, am_brl, am_brg, am_bre, am_brn, am_brG, am_brL, am_st1, am_no2, am_st2, am_clr]
        refine am_wp_ls (ih (by omega) h) ?_
        simp only [ax_ct, h21, cond_true]
        rfl
      · rw [am_ff_hit (by omega) (by rw [h21, decide_eq_true (by omega)]; rfl), if_neg (by omega)] at h
        refine am_wp_go rfl (by simp (disch := omega) only [s6 hw, o1, am_b0, am_addE, am_subE, am_mulE, am_laddE, am_lsubE, am_upO, am_upS, am_stS, am_stO, am_tnn, am_brl, am_brg, am_bre, am_brn, am_brG, am_brL, am_st1, am_no2, am_st2, am_clr, and_self, true_and, and_true, true_or, or_true, List.length_cons, List.length_nil] <;> omega) ?_
        try simp (disch := omega) only [s6 hw, o1, am_b0, am_addE, am_subE, am_mulE, am_laddE, am_lsubE, am_upO, am_upS, am_stS, am_stO, am_tnn, am_brl, am_brg, am_bre, am_brn, am_brG, am_brL, am_st1, am_no2, am_st2, am_clr]
        refine am_wp_ret rfl rfl ?_
        exact h
end MORN
