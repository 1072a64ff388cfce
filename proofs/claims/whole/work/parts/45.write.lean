/-! write: the PLAN as a text -/
theorem nm32_take {ws : List Nat} {n : Nat} (h : n < ws.length) : nm32 (ws.take (n + 1)) = nm32 (ws.take n) * 32 + ws.getD n 0 := by
  unfold nm32
  rw [List.take_succ, List.foldl_append, List.getD_eq_getElem?_getD, List.getElem?_eq_getElem h]
  rfl
theorem nm27_take {ws : List Nat} {n : Nat} (h : n < ws.length) : nm27 (ws.take (n + 1)) = 27 * nm27 (ws.take n) + ws.getD n 0 := by
  unfold nm27
  rw [List.take_succ, List.foldl_append, List.getD_eq_getElem?_getD, List.getElem?_eq_getElem h]
  rfl
def letOk (ws : List Nat) : Prop := 1 ≤ ws.length ∧ ws.length ≤ 6 ∧ ∀ n, n < ws.length → 1 ≤ ws.getD n 0 ∧ ws.getD n 0 ≤ 26
theorem nm32_div {ws : List Nat} (hl : letOk ws) : ∀ j, nm32 ws / 32 ^ j = nm32 (ws.take (ws.length - j)) := by
  intro j
  induction j with
  | zero => rw [Nat.pow_zero, Nat.div_one, Nat.sub_zero, List.take_length]
  | succ j ih =>
    rw [Nat.pow_succ, ← Nat.div_div_eq_div_mul, ih]
    by_cases h : j < ws.length
    · rw [show ws.length - j = (ws.length - (j + 1)) + 1 by omega, nm32_take (by omega)]
      have := hl.2.2 (ws.length - (j + 1)) (by omega)
      omega
    · rw [show ws.length - j = 0 by omega, show ws.length - (j + 1) = 0 by omega, List.take_zero]; exact Nat.zero_div 32
theorem nm32_lt {ws : List Nat} (hl : letOk ws) : ∀ n, n ≤ ws.length → nm32 (ws.take n) < 32 ^ n := by
  intro n
  induction n with
  | zero => intro _; exact (by decide : (0 : Nat) < 1)
  | succ n ih =>
    intro h
    rw [nm32_take (by omega), Nat.pow_succ]
    have := ih (by omega)
    have := hl.2.2 n (by omega)
    omega
theorem nm27_lt {ws : List Nat} (hl : letOk ws) : ∀ n, n ≤ ws.length → nm27 (ws.take n) < 27 ^ n := by
  intro n
  induction n with
  | zero => intro _; exact (by decide : (0 : Nat) < 1)
  | succ n ih =>
    intro h
    rw [nm27_take (by omega), Nat.pow_succ]
    have := ih (by omega)
    have := hl.2.2 n (by omega)
    omega
theorem nm27_pos {ws : List Nat} (hl : letOk ws) {n : Nat} (h : n < ws.length) : 0 < nm27 (ws.take (n + 1)) := by
  rw [nm27_take h]
  have := hl.2.2 n h
  omega
theorem nm_letOk {c v : Int} (h : nm c v) : ∃ ws, letOk ws ∧ c = (nm32 ws : Int) ∧ v = (nm27 ws : Int) := by
  obtain ⟨ws, h1, h2, h3, h4, h5⟩ := h
  refine ⟨ws, ⟨h1, h2, fun n hn => ?_⟩, h4, h5⟩
  rw [List.getD_eq_getElem?_getD, List.getElem?_eq_getElem hn]
  exact h3 _ (List.getElem_mem hn)
def nameT (ws : List Nat) : List Int := ws.map (fun w : Nat => 96 + (w : Int))
def numT (v : Int) : List Int := (if 100 ≤ v then [48 + v / 100] else []) ++ ((if 10 ≤ v then [48 + v / 10 % 10] else []) ++ [48 + v % 10])
theorem numT_len {v : Int} : (numT v).length ≤ 3 ∧ (v ≤ 99 → (numT v).length ≤ 2) ∧ (v ≤ 9 → (numT v).length ≤ 1) := by
  unfold numT
  refine ⟨?_, fun h => ?_, fun h => ?_⟩
  · split <;> split <;> simp
  · rw [if_neg (by omega)]
    split <;> simp
  · rw [if_neg (by omega), if_neg (by omega)]; simp
theorem getD_app {T : List Int} {v : Int} {i : Nat} (h : i < (T ++ [v]).length) : (T ++ [v]).getD i 0 = if i < T.length then T.getD i 0 else v := by
  rw [List.length_append, List.length_singleton] at h
  simp only [List.getD_eq_getElem?_getD]
  split
  · rename_i h2; rw [List.getElem?_append_left h2]
  · rw [show i = T.length by omega]; simp
/-- the text made so far: the class's, the reference's -/
def txC (I : Nat → Nat → Int) (T : List Int) : Prop := I 4 15 = (T.length : Int) ∧ T.length ≤ 7200 ∧ ∀ i, i < T.length → I 89 i = T.getD i 0
def txR (I : Nat → Nat → Int) (T : List Int) : Prop := I 124 29 = (T.length : Int) ∧ T.length ≤ 7200 ∧ ∀ i, i < T.length → I 135 i = T.getD i 0
section WRITE
variable {m sl : Nat} {sh : Nat → Nat × Nat} {I : Nat → Nat → Int} {R : Nat → Nat → Nat} {Q : am_R → am_M → Prop} {d : Nat} {T : List Int}
def frC (I J : Nat → Nat → Int) : Prop := (∀ a, a ≠ 4 → a ≠ 89 → J a = I a) ∧ ∀ j, j ≠ 15 → J 4 j = I 4 j
theorem frC_tr {I J K : Nat → Nat → Int} (h : frC I J) (g : frC J K) : frC I K := ⟨fun a h1 h2 => (g.1 a h1 h2).trans (h.1 a h1 h2), fun j hj => (g.2 j hj).trans (h.2 j hj)⟩
theorem w_writeByte {v : Int} (hv : 0 ≤ v ∧ v ≤ 127) (hw : wd sh R) (ht : txC I T) (hn : T.length < 7200) (h : ∀ J, frC I J → txC J (T ++ [v]) → Q am_yv (m, sl, sh, J, R)) : am_wp (d) 157 0 [some (.inr (.inr (4))), some (.inl (v))] [] (m, sl, sh, I, R) Q := by
  obtain ⟨t1, t2, t3⟩ := ht
  have e : am_byte (am_byte v) = v := by
    rw [am_byte2, am_byte_eq, am_and255 (by omega)]
    unfold sbyte
    split <;> omega
  refine am_wp_go rfl (by simp (disch := omega) only [s4 hw, r4_12 hw, s89 hw, t1, e, am_addE, am_subE, am_mulE, am_laddE, am_lsubE, am_upO, am_upS, am_stS, am_stO, am_tnn, am_brl, am_brg, am_bre, am_brn, am_brG, am_brL, am_st1, am_no2, am_st2, am_clr, and_self, true_and, and_true, true_or, or_true, List.length_cons, List.length_nil] <;> omega) ?_
  try simp (disch := omega) only [s4 hw, r4_12 hw, s89 hw, t1, e, am_addE, am_subE, am_mulE, am_laddE, am_lsubE, am_upO, am_upS, am_stS, am_stO, am_tnn, am_brl, am_brg, am_bre, am_brn, am_brG, am_brL, am_st1, am_no2, am_st2, am_clr]
  refine am_wp_br (fun b9 => ?_) (fun b9 => ?_)
  · omega
  · refine am_wp_go rfl (by simp (disch := omega) only [s4 hw, r4_12 hw, s89 hw, t1, e, am_addE, am_subE, am_mulE, am_laddE, am_lsubE, am_upO, am_upS, am_stS, am_stO, am_tnn, am_brl, am_brg, am_bre, am_brn, am_brG, am_brL, am_st1, am_no2, am_st2, am_clr, and_self, true_and, and_true, true_or, or_true, List.length_cons, List.length_nil] <;> omega) ?_
    try simp (disch := omega) only [s4 hw, r4_12 hw, s89 hw, t1, e, am_addE, am_subE, am_mulE, am_laddE, am_lsubE, am_upO, am_upS, am_stS, am_stO, am_tnn, am_brl, am_brg, am_bre, am_brn, am_brG, am_brL, am_st1, am_no2, am_st2, am_clr]
    refine am_wp_ret rfl rfl ?_
    refine h _ ⟨fun a h1 h2 => by rw [am_upO h1, am_upO h2], fun j hj => by rw [am_upS, am_stO hj, am_upO (by decide)]⟩ ⟨by rw [am_upS, am_stS rfl]; simp, by simp; omega, fun i hi => ?_⟩
    rw [am_upO (by decide), am_upS, getD_app hi]
    rw [List.length_append, List.length_singleton] at hi
    by_cases h2 : i < T.length
    · rw [if_pos h2, am_stO (by omega)]; exact t3 i h2
    · rw [if_neg h2, am_stS (by omega)]
theorem w_writeNumber {v : Int} (hv : 0 ≤ v ∧ v ≤ 999) (hw : wd sh R) (ht : txC I T) (hn : T.length + (numT v).length ≤ 7200) (h : ∀ J, frC I J → txC J (T ++ numT v) → Q am_yv (m, sl, sh, J, R)) : am_wp (d + 1) 156 0 [some (.inr (.inr (4))), some (.inl (v))] [] (m, sl, sh, I, R) Q := by
  unfold numT at h hn
  refine am_wp_go rfl (by simp (disch := omega) only [am_divE, am_remE, am_addE, am_subE, am_mulE, am_laddE, am_lsubE, am_upO, am_upS, am_stS, am_stO, am_tnn, am_brl, am_brg, am_bre, am_brn, am_brG, am_brL, am_st1, am_no2, am_st2, am_clr, and_self, true_and, and_true, true_or, or_true, List.length_cons, List.length_nil] <;> omega) ?_
  try simp (disch := omega) only [am_divE, am_remE, am_addE, am_subE, am_mulE, am_laddE, am_lsubE, am_upO, am_upS, am_stS, am_stO, am_tnn, am_brl, am_brg, am_bre, am_brn, am_brG, am_brL, am_st1, am_no2, am_st2, am_clr]
  refine am_wp_br (fun b3 => ?_) (fun b3 => ?_)
  · rw [if_neg (by omega)] at h hn
    refine am_wp_go rfl (by simp (disch := omega) only [am_divE, am_remE, am_addE, am_subE, am_mulE, am_laddE, am_lsubE, am_upO, am_upS, am_stS, am_stO, am_tnn, am_brl, am_brg, am_bre, am_brn, am_brG, am_brL, am_st1, am_no2, am_st2, am_clr, and_self, true_and, and_true, true_or, or_true, List.length_cons, List.length_nil] <;> omega) ?_
    try simp (disch := omega) only [am_divE, am_remE, am_addE, am_subE, am_mulE, am_laddE, am_lsubE, am_upO, am_upS, am_stS, am_stO, am_tnn, am_brl, am_brg, am_bre, am_brn, am_brG, am_brL, am_st1, am_no2, am_st2, am_clr]
    refine am_wp_br (fun b20 => ?_) (fun b20 => ?_)
    · rw [if_neg (by omega)] at h hn
      refine am_wp_go rfl (by simp (disch := omega) only [am_divE, am_remE, am_addE, am_subE, am_mulE, am_laddE, am_lsubE, am_upO, am_upS, am_stS, am_stO, am_tnn, am_brl, am_brg, am_bre, am_brn, am_brG, am_brL, am_st1, am_no2, am_st2, am_clr, and_self, true_and, and_true, true_or, or_true, List.length_cons, List.length_nil] <;> omega) ?_
      try simp (disch := omega) only [am_divE, am_remE, am_addE, am_subE, am_mulE, am_laddE, am_lsubE, am_upO, am_upS, am_stS, am_stO, am_tnn, am_brl, am_brg, am_bre, am_brn, am_brG, am_brL, am_st1, am_no2, am_st2, am_clr]
      refine am_wp_cc rfl rfl rfl (congrArg Prod.fst (s4 hw)) (w_writeByte (by omega) hw ht (by simp at hn; omega) (fun J j1 j2 => ⟨_, rfl, ?_⟩))
      refine am_wp_ret rfl rfl ?_
      exact h J j1 j2
    · rw [if_pos (by omega)] at h hn
      refine am_wp_go rfl (by simp (disch := omega) only [am_divE, am_remE, am_addE, am_subE, am_mulE, am_laddE, am_lsubE, am_upO, am_upS, am_stS, am_stO, am_tnn, am_brl, am_brg, am_bre, am_brn, am_brG, am_brL, am_st1, am_no2, am_st2, am_clr, and_self, true_and, and_true, true_or, or_true, List.length_cons, List.length_nil] <;> omega) ?_
      try simp (disch := omega) only [am_divE, am_remE, am_addE, am_subE, am_mulE, am_laddE, am_lsubE, am_upO, am_upS, am_stS, am_stO, am_tnn, am_brl, am_brg, am_bre, am_brn, am_brG, am_brL, am_st1, am_no2, am_st2, am_clr]
      refine am_wp_cc rfl rfl rfl (congrArg Prod.fst (s4 hw)) (w_writeByte (by omega) hw ht (by simp at hn; omega) (fun J j1 j2 => ⟨_, rfl, ?_⟩))
      refine am_wp_go rfl (by simp (disch := omega) only [am_divE, am_remE, am_addE, am_subE, am_mulE, am_laddE, am_lsubE, am_upO, am_upS, am_stS, am_stO, am_tnn, am_brl, am_brg, am_bre, am_brn, am_brG, am_brL, am_st1, am_no2, am_st2, am_clr, and_self, true_and, and_true, true_or, or_true, List.length_cons, List.length_nil] <;> omega) ?_
      try simp (disch := omega) only [am_divE, am_remE, am_addE, am_subE, am_mulE, am_laddE, am_lsubE, am_upO, am_upS, am_stS, am_stO, am_tnn, am_brl, am_brg, am_bre, am_brn, am_brG, am_brL, am_st1, am_no2, am_st2, am_clr]
      refine am_wp_cc rfl rfl rfl (congrArg Prod.fst (s4 hw)) (w_writeByte (by omega) hw j2 (by simp at hn ⊢; omega) (fun K k1 k2 => ⟨_, rfl, ?_⟩))
      refine am_wp_ret rfl rfl ?_
      refine h K (frC_tr j1 k1) ?_
      simpa using k2
  · rw [if_pos (by omega), if_pos (by omega)] at h hn
    refine am_wp_go rfl (by simp (disch := omega) only [am_divE, am_remE, am_addE, am_subE, am_mulE, am_laddE, am_lsubE, am_upO, am_upS, am_stS, am_stO, am_tnn, am_brl, am_brg, am_bre, am_brn, am_brG, am_brL, am_st1, am_no2, am_st2, am_clr, and_self, true_and, and_true, true_or, or_true, List.length_cons, List.length_nil] <;> omega) ?_
    try simp (disch := omega) only [am_divE, am_remE, am_addE, am_subE, am_mulE, am_laddE, am_lsubE, am_upO, am_upS, am_stS, am_stO, am_tnn, am_brl, am_brg, am_bre, am_brn, am_brG, am_brL, am_st1, am_no2, am_st2, am_clr]
    refine am_wp_cc rfl rfl rfl (congrArg Prod.fst (s4 hw)) (w_writeByte (by omega) hw ht (by simp at hn; omega) (fun J j1 j2 => ⟨_, rfl, ?_⟩))
    refine am_wp_go rfl (by simp (disch := omega) only [am_divE, am_remE, am_addE, am_subE, am_mulE, am_laddE, am_lsubE, am_upO, am_upS, am_stS, am_stO, am_tnn, am_brl, am_brg, am_bre, am_brn, am_brG, am_brL, am_st1, am_no2, am_st2, am_clr, and_self, true_and, and_true, true_or, or_true, List.length_cons, List.length_nil] <;> omega) ?_
    try simp (disch := omega) only [am_divE, am_remE, am_addE, am_subE, am_mulE, am_laddE, am_lsubE, am_upO, am_upS, am_stS, am_stO, am_tnn, am_brl, am_brg, am_bre, am_brn, am_brG, am_brL, am_st1, am_no2, am_st2, am_clr]
    refine am_wp_br (fun b20 => ?_) (fun b20 => ?_)
    · omega
    · refine am_wp_go rfl (by simp (disch := omega) only [am_divE, am_remE, am_addE, am_subE, am_mulE, am_laddE, am_lsubE, am_upO, am_upS, am_stS, am_stO, am_tnn, am_brl, am_brg, am_bre, am_brn, am_brG, am_brL, am_st1, am_no2, am_st2, am_clr, and_self, true_and, and_true, true_or, or_true, List.length_cons, List.length_nil] <;> omega) ?_
      try simp (disch := omega) only [am_divE, am_remE, am_addE, am_subE, am_mulE, am_laddE, am_lsubE, am_upO, am_upS, am_stS, am_stO, am_tnn, am_brl, am_brg, am_bre, am_brn, am_brG, am_brL, am_st1, am_no2, am_st2, am_clr]
      refine am_wp_cc rfl rfl rfl (congrArg Prod.fst (s4 hw)) (w_writeByte (by omega) hw j2 (by simp at hn ⊢; omega) (fun K k1 k2 => ⟨_, rfl, ?_⟩))
      refine am_wp_go rfl (by simp (disch := omega) only [am_divE, am_remE, am_addE, am_subE, am_mulE, am_laddE, am_lsubE, am_upO, am_upS, am_stS, am_stO, am_tnn, am_brl, am_brg, am_bre, am_brn, am_brG, am_brL, am_st1, am_no2, am_st2, am_clr, and_self, true_and, and_true, true_or, or_true, List.length_cons, List.length_nil] <;> omega) ?_
      try simp (disch := omega) only [am_divE, am_remE, am_addE, am_subE, am_mulE, am_laddE, am_lsubE, am_upO, am_upS, am_stS, am_stO, am_tnn, am_brl, am_brg, am_bre, am_brn, am_brG, am_brL, am_st1, am_no2, am_st2, am_clr]
      refine am_wp_cc rfl rfl rfl (congrArg Prod.fst (s4 hw)) (w_writeByte (by omega) hw k2 (by simp at hn ⊢; omega) (fun L l1 l2 => ⟨_, rfl, ?_⟩))
      refine am_wp_ret rfl rfl ?_
      refine h L (frC_tr j1 (frC_tr k1 l1)) ?_
      simpa using l2
theorem w_writeName {ws : List Nat} (hl : letOk ws) (hw : wd sh R) (ht : txC I T) (hn : T.length + ws.length ≤ 7200) (h : ∀ J, frC I J → txC J (T ++ nameT ws) → Q am_yv (m, sl, sh, J, R)) : am_wp (d + 1) 155 0 [some (.inr (.inr (4))), some (.inl ((nm32 ws : Int))), none, none] [] (m, sl, sh, I, R) Q := by
  have hb : nm32 ws < 1073741824 := by
    have h1 := nm32_lt hl ws.length (Nat.le_refl _)
    rw [List.take_length] at h1
    have h2 : 32 ^ ws.length ≤ 32 ^ 6 := Nat.pow_le_pow_right (by decide) hl.2.1
    exact Nat.lt_of_lt_of_le h1 h2
  refine am_wp_go rfl (by simp (disch := omega) only [am_addE, am_subE, am_mulE, am_laddE, am_lsubE, am_upO, am_upS, am_stS, am_stO, am_tnn, am_brl, am_brg, am_bre, am_brn, am_brG, am_brL, am_st1, am_no2, am_st2, am_clr, and_self, true_and, and_true, true_or, or_true, List.length_cons, List.length_nil] <;> omega) ?_
  try simp (disch := omega) only [am_addE, am_subE, am_mulE, am_laddE, am_lsubE, am_upO, am_upS, am_stS, am_stO, am_tnn, am_brl, am_brg, am_bre, am_brn, am_brG, am_brL, am_st1, am_no2, am_st2, am_clr]
  refine am_wp_ls (am_lp0 (P := fun i => ∀ (z : Option am_V) (J : Nat → Nat → Int), frC I J → txC J (T ++ nameT (ws.take (ws.length - (6 - i)))) → am_wp (d + 1) 155 3 [some (.inr (.inr (4))), some (.inl ((nm32 ws : Int))), some (.inl (25 - 5 * (i : Int))), z] [] (m, sl, sh, J, R) Q) 6 (fun i hi ih z J j1 j2 => ?_) none I ⟨fun _ _ _ => rfl, fun _ _ => rfl⟩ (by rw [show ws.length - (6 - 0) = 0 by have := hl.2.1; omega]; simpa [nameT] using ht)) rfl
  refine am_wp_go rfl (by simp (disch := omega) only [am_addE, am_subE, am_mulE, am_laddE, am_lsubE, am_upO, am_upS, am_stS, am_stO, am_tnn, am_brl, am_brg, am_bre, am_brn, am_brG, am_brL, am_st1, am_no2, am_st2, am_clr, and_self, true_and, and_true, true_or, or_true, List.length_cons, List.length_nil] <;> omega) ?_
  try simp (disch := omega) only [am_addE, am_subE, am_mulE, am_laddE, am_lsubE, am_upO, am_upS, am_stS, am_stO, am_tnn, am_brl, am_brg, am_bre, am_brn, am_brG, am_brL, am_st1, am_no2, am_st2, am_clr]
  refine am_wp_br (fun b4 => ?_) (fun b4 => ?_)
  · have h0 : i = 6 := by omega
    subst h0
    refine am_wp_ret rfl rfl ?_
    rw [show ws.length - (6 - 6) = ws.length by omega, List.take_length] at j2
    exact h J j1 j2
  · have e0 : (25 : Int) - 5 * (i : Int) = ((5 * (5 - i) : Nat) : Int) := by omega
    have e1 : (nm32 ws : Int) / 2 ^ (5 * (5 - i)) = ((nm32 (ws.take (ws.length - (5 - i))) : Nat) : Int) := by
      rw [← nm32_div hl (5 - i), show (2 : Int) ^ (5 * (5 - i)) = ((32 ^ (5 - i) : Nat) : Int) by rw [Int.pow_mul]; simp]
      exact (Int.natCast_ediv _ _).symm
    have hl1 := hl.1
    have hl2 := hl.2.1
    have b2 : nm32 (ws.take (ws.length - (5 - i))) < 1073741824 := by rw [← nm32_div hl]; exact Nat.lt_of_le_of_lt (Nat.div_le_self _ _) hb
    have e2 : (25 : Int) - 5 * (i : Int) + -5 = 25 - 5 * ((i + 1 : Nat) : Int) := by omega
    by_cases hi2 : ws.length - (5 - i) = 0
    · have e3 : nm32 (ws.take (ws.length - (5 - i))) = 0 := by rw [hi2]; rfl
      rw [e3] at e1
      rw [e0]
      refine am_wp_go rfl (by simp (disch := omega) only [am_ushrN, e1, am_and31, am_addE, am_subE, am_mulE, am_laddE, am_lsubE, am_upO, am_upS, am_stS, am_stO, am_tnn, am_brl, am_brg, am_bre, am_brn, am_brG, am_brL, am_st1, am_no2, am_st2, am_clr, and_self, true_and, and_true, true_or, or_true, List.length_cons, List.length_nil] <;> omega) ?_
      try simp (disch := omega) only [am_ushrN, e1, am_and31, am_addE, am_subE, am_mulE, am_laddE, am_lsubE, am_upO, am_upS, am_stS, am_stO, am_tnn, am_brl, am_brg, am_bre, am_brn, am_brG, am_brL, am_st1, am_no2, am_st2, am_clr]
      refine am_wp_br (fun b15 => ?_) (fun b15 => ?_)
      · rw [← e0]
        refine am_wp_go rfl (by simp (disch := omega) only [am_ushrN, e1, am_and31, am_addE, am_subE, am_mulE, am_laddE, am_lsubE, am_upO, am_upS, am_stS, am_stO, am_tnn, am_brl, am_brg, am_bre, am_brn, am_brG, am_brL, am_st1, am_no2, am_st2, am_clr, and_self, true_and, and_true, true_or, or_true, List.length_cons, List.length_nil] <;> omega) ?_
        try simp (disch := omega) only [am_ushrN, e1, am_and31, am_addE, am_subE, am_mulE, am_laddE, am_lsubE, am_upO, am_upS, am_stS, am_stO, am_tnn, am_brl, am_brg, am_bre, am_brn, am_brG, am_brL, am_st1, am_no2, am_st2, am_clr]
        rw [e2]
        refine am_wp_ls (ih (by omega) _ J j1 ?_) rfl
        rw [show ws.length - (6 - (i + 1)) = ws.length - (6 - i) by omega]
        exact j2
      · exact absurd rfl b15
    · obtain ⟨n, hn1⟩ : ∃ n, ws.length - (5 - i) = n + 1 := ⟨ws.length - (5 - i) - 1, by omega⟩
      have e3 := nm32_take (ws := ws) (n := n) (by omega)
      have e4 := hl.2.2 n (by omega)
      rw [hn1] at e1 b2
      have e5 : ((nm32 (ws.take (n + 1)) : Nat) : Int) % 32 = ((ws.getD n 0 : Nat) : Int) := by omega
      rw [e0]
      refine am_wp_go rfl (by simp (disch := omega) only [am_ushrN, e1, am_and31, e5, am_addE, am_subE, am_mulE, am_laddE, am_lsubE, am_upO, am_upS, am_stS, am_stO, am_tnn, am_brl, am_brg, am_bre, am_brn, am_brG, am_brL, am_st1, am_no2, am_st2, am_clr, and_self, true_and, and_true, true_or, or_true, List.length_cons, List.length_nil] <;> omega) ?_
      try simp (disch := omega) only [am_ushrN, e1, am_and31, e5, am_addE, am_subE, am_mulE, am_laddE, am_lsubE, am_upO, am_upS, am_stS, am_stO, am_tnn, am_brl, am_brg, am_bre, am_brn, am_brG, am_brL, am_st1, am_no2, am_st2, am_clr]
      refine am_wp_br (fun b15 => ?_) (fun b15 => ?_)
      · omega
      · refine am_wp_go rfl (by simp (disch := omega) only [am_ushrN, e1, am_and31, e5, am_addE, am_subE, am_mulE, am_laddE, am_lsubE, am_upO, am_upS, am_stS, am_stO, am_tnn, am_brl, am_brg, am_bre, am_brn, am_brG, am_brL, am_st1, am_no2, am_st2, am_clr, and_self, true_and, and_true, true_or, or_true, List.length_cons, List.length_nil] <;> omega) ?_
        try simp (disch := omega) only [am_ushrN, e1, am_and31, e5, am_addE, am_subE, am_mulE, am_laddE, am_lsubE, am_upO, am_upS, am_stS, am_stO, am_tnn, am_brl, am_brg, am_bre, am_brn, am_brG, am_brL, am_st1, am_no2, am_st2, am_clr]
        have hlen : (T ++ nameT (ws.take (ws.length - (6 - i)))).length = T.length + n := by
          rw [show ws.length - (6 - i) = n by omega]
          simp [nameT]; omega
        refine am_wp_cc rfl rfl rfl (congrArg Prod.fst (s4 hw)) (w_writeByte (by omega) hw j2 (by rw [hlen]; omega) (fun K k1 k2 => ⟨_, rfl, ?_⟩))
        rw [← e0]
        refine am_wp_go rfl (by simp (disch := omega) only [am_ushrN, e1, am_and31, e5, am_addE, am_subE, am_mulE, am_laddE, am_lsubE, am_upO, am_upS, am_stS, am_stO, am_tnn, am_brl, am_brg, am_bre, am_brn, am_brG, am_brL, am_st1, am_no2, am_st2, am_clr, and_self, true_and, and_true, true_or, or_true, List.length_cons, List.length_nil] <;> omega) ?_
        try simp (disch := omega) only [am_ushrN, e1, am_and31, e5, am_addE, am_subE, am_mulE, am_laddE, am_lsubE, am_upO, am_upS, am_stS, am_stO, am_tnn, am_brl, am_brg, am_bre, am_brn, am_brG, am_brL, am_st1, am_no2, am_st2, am_clr]
        rw [e2]
        refine am_wp_ls (ih (by omega) _ K (frC_tr j1 k1) ?_) rfl
        rw [show ws.length - (6 - (i + 1)) = n + 1 by omega]
        rw [show ws.length - (6 - i) = n by omega] at k2
        have e6 : nameT (ws.take (n + 1)) = nameT (ws.take n) ++ [96 + ((ws.getD n 0 : Nat) : Int)] := by
          unfold nameT
          rw [List.take_succ, List.map_append, List.getD_eq_getElem?_getD, List.getElem?_eq_getElem (show n < ws.length by omega)]
          rfl
        rw [e6, ← List.append_assoc]
        exact k2
end WRITE
