/-! THE LAW, case by case -/
theorem am_lc0 {a : Int} : am_lcmp a a = 0 := by unfold am_lcmp; rw [if_neg (Int.lt_irrefl a), if_neg (Int.lt_irrefl a)]
def lawS : Nat := 300000
def LH (X : Nat → Int) (L x t : Nat) (Q : am_R → am_M → Prop) : Prop := ∀ (m sl : Nat) (sh : Nat → Nat × Nat) (J : Nat → Nat → Int) (R : Nat → Nat → Nat) (z5 z6 z7 : Option am_V), wd sh R → sh 1 = (32, L) → sh 2 = (32, 36) → 161 ≤ m → m ≤ 161 + 21 * (t + 1) → sl ≤ lawS + 168 * (t + 1) → cp X J → am_wp 1000 334 23 [some (.inr (.inr 1)), some (.inr (.inr 4)), some (.inr (.inr 124)), some (.inr (.inr 160)), some (.inl ((x + 6 : Nat) : Int)), z5, z6, z7] [] (m, sl, sh, J, R) Q
section LAW
variable {m sl L x t : Nat} {sh : Nat → Nat × Nat} {I : Nat → Nat → Int} {R : Nat → Nat → Nat} {Q : am_R → am_M → Prop} {X : Nat → Int} {z5 z6 z7 : Option am_V}
set_option maxRecDepth 20000 in
theorem L_back (ih : LH X L x t Q) (hx : x + 6 ≤ L) (hL : L ≤ 3072) (hw : wd sh R) (s1 : sh 1 = (32, L)) (s2 : sh 2 = (32, 36)) (hm : 161 ≤ m) (hm2 : m ≤ 161 + 21 * (t + 1)) (hsl : sl ≤ lawS + 168 * (t + 1)) (hc : cp X I) : am_wp 1000 334 1653 [some (.inr (.inr 1)), some (.inr (.inr 4)), some (.inr (.inr 124)), some (.inr (.inr 160)), some (.inl (x : Int)), z5, z6, z7] [] (m, sl, sh, I, R) Q := by
  refine am_wp_go rfl (by simp (disch := omega) only [am_addE, am_subE, am_mulE, am_laddE, am_lsubE, am_upO, am_upS, am_stS, am_stO, am_tnn, am_brl, am_brg, am_bre, am_brn, am_brG, am_brL, am_st1, am_no2, am_st2, am_clr, and_self, true_and, and_true, true_or, or_true, List.length_cons, List.length_nil] <;> omega) ?_
  try simp (disch := omega) only [am_addE, am_subE, am_mulE, am_laddE, am_lsubE, am_upO, am_upS, am_stS, am_stO, am_tnn, am_brl, am_brg, am_bre, am_brn, am_brG, am_brL, am_st1, am_no2, am_st2, am_clr]
  exact am_wp_ls (ih _ _ _ _ _ _ _ _ hw s1 s2 hm hm2 hsl hc) rfl

set_option maxRecDepth 20000 in
theorem L_feed (hw : wd sh R) (s1 : sh 1 = (32, L)) (s2 : sh 2 = (32, 36)) (hm : 161 ≤ m) (hm2 : m ≤ 161 + 21 * t) (hsl : sl ≤ lawS + 168 * t) (hc : cp X I) (hx : x + 6 ≤ L) (hL : L ≤ 3072) (hX : ∀ k, -2147483648 ≤ X k ∧ X k ≤ 2147483647) (ih : LH X L x t Q) : am_wp 1000 334 240 [some (.inr (.inr 1)), some (.inr (.inr 4)), some (.inr (.inr 124)), some (.inr (.inr 160)), some (.inl (x : Int)), z5, z6, z7] [] (m, sl, sh, I, R) Q := by
  have e1 : I 1 = X := hc.1.1
  refine am_wp_go rfl (by simp (disch := omega) only [s1, e1, am_tnA, am_tnM, Int.reduceToNat, am_addE, am_subE, am_mulE, am_laddE, am_lsubE, am_upO, am_upS, am_stS, am_stO, am_tnn, am_brl, am_brg, am_bre, am_brn, am_brG, am_brL, am_st1, am_no2, am_st2, am_clr, and_self, true_and, and_true, true_or, or_true, List.length_cons, List.length_nil] <;> omega) ?_
  try simp (disch := omega) only [s1, e1, am_tnA, am_tnM, Int.reduceToNat, am_addE, am_subE, am_mulE, am_laddE, am_lsubE, am_upO, am_upS, am_stS, am_stO, am_tnn, am_brl, am_brg, am_bre, am_brn, am_brG, am_brL, am_st1, am_no2, am_st2, am_clr]
  refine am_wp_cc rfl rfl rfl (congrArg Prod.fst (s4 hw)) (p_feed hw hc (fun J av j1 k => ⟨_, rfl, ?_⟩))
  have e1 : J 1 = X := by rw [j1]; exact e1
  refine am_wp_go rfl (by simp (disch := omega) only [s1, e1, am_tnA, am_tnM, Int.reduceToNat, am_addE, am_subE, am_mulE, am_laddE, am_lsubE, am_upO, am_upS, am_stS, am_stO, am_tnn, am_brl, am_brg, am_bre, am_brn, am_brG, am_brL, am_st1, am_no2, am_st2, am_clr, and_self, true_and, and_true, true_or, or_true, List.length_cons, List.length_nil] <;> omega) ?_
  try simp (disch := omega) only [s1, e1, am_tnA, am_tnM, Int.reduceToNat, am_addE, am_subE, am_mulE, am_laddE, am_lsubE, am_upO, am_upS, am_stS, am_stO, am_tnn, am_brl, am_brg, am_bre, am_brn, am_brG, am_brL, am_st1, am_no2, am_st2, am_clr]
  refine am_wp_cc rfl rfl rfl (congrArg Prod.fst (s124 hw)) (k _ (fun K hK => ⟨_, rfl, ?_⟩))
  refine am_wp_go rfl (by simp (disch := omega) only [am_tnA, am_tnM, Int.reduceToNat, am_addE, am_subE, am_mulE, am_laddE, am_lsubE, am_upO, am_upS, am_stS, am_stO, am_tnn, am_brl, am_brg, am_bre, am_brn, am_brG, am_brL, am_st1, am_no2, am_st2, am_clr, and_self, true_and, and_true, true_or, or_true, List.length_cons, List.length_nil] <;> omega) ?_
  try simp (disch := omega) only [am_tnA, am_tnM, Int.reduceToNat, am_addE, am_subE, am_mulE, am_laddE, am_lsubE, am_upO, am_upS, am_stS, am_stO, am_tnn, am_brl, am_brg, am_bre, am_brn, am_brG, am_brL, am_st1, am_no2, am_st2, am_clr]
  refine am_wp_pc (pc' := 1653) (if_pos trivial) ?_
  exact L_back ih hx hL hw s1 s2 hm (by omega) (by omega) hK

set_option maxRecDepth 20000 in
theorem L_end (hw : wd sh R) (s1 : sh 1 = (32, L)) (s2 : sh 2 = (32, 36)) (hm : 161 ≤ m) (hm2 : m ≤ 161 + 21 * t) (hsl : sl ≤ lawS + 168 * t) (hc : cp X I) (hx : x + 6 ≤ L) (hL : L ≤ 3072) (hX : ∀ k, -2147483648 ≤ X k ∧ X k ≤ 2147483647) (ih : LH X L x t Q) : am_wp 1000 334 313 [some (.inr (.inr 1)), some (.inr (.inr 4)), some (.inr (.inr 124)), some (.inr (.inr 160)), some (.inl (x : Int)), z5, z6, z7] [] (m, sl, sh, I, R) Q := by
  have e1 : I 1 = X := hc.1.1
  refine am_wp_go rfl (by simp (disch := omega) only [s1, e1, am_tnA, am_tnM, Int.reduceToNat, am_addE, am_subE, am_mulE, am_laddE, am_lsubE, am_upO, am_upS, am_stS, am_stO, am_tnn, am_brl, am_brg, am_bre, am_brn, am_brG, am_brL, am_st1, am_no2, am_st2, am_clr, and_self, true_and, and_true, true_or, or_true, List.length_cons, List.length_nil] <;> omega) ?_
  try simp (disch := omega) only [s1, e1, am_tnA, am_tnM, Int.reduceToNat, am_addE, am_subE, am_mulE, am_laddE, am_lsubE, am_upO, am_upS, am_stS, am_stO, am_tnn, am_brl, am_brg, am_bre, am_brn, am_brG, am_brL, am_st1, am_no2, am_st2, am_clr]
  refine am_wp_cc rfl rfl rfl (congrArg Prod.fst (s4 hw)) (p_end hw hc (fun J av j1 k => ⟨_, rfl, ?_⟩))
  have e1 : J 1 = X := by rw [j1]; exact e1
  refine am_wp_go rfl (by simp (disch := omega) only [s1, e1, am_tnA, am_tnM, Int.reduceToNat, am_addE, am_subE, am_mulE, am_laddE, am_lsubE, am_upO, am_upS, am_stS, am_stO, am_tnn, am_brl, am_brg, am_bre, am_brn, am_brG, am_brL, am_st1, am_no2, am_st2, am_clr, and_self, true_and, and_true, true_or, or_true, List.length_cons, List.length_nil] <;> omega) ?_
  try simp (disch := omega) only [s1, e1, am_tnA, am_tnM, Int.reduceToNat, am_addE, am_subE, am_mulE, am_laddE, am_lsubE, am_upO, am_upS, am_stS, am_stO, am_tnn, am_brl, am_brg, am_bre, am_brn, am_brG, am_brL, am_st1, am_no2, am_st2, am_clr]
  refine am_wp_cc rfl rfl rfl (congrArg Prod.fst (s124 hw)) (k _ (fun K hK => ⟨_, rfl, ?_⟩))
  refine am_wp_go rfl (by simp (disch := omega) only [am_tnA, am_tnM, Int.reduceToNat, am_addE, am_subE, am_mulE, am_laddE, am_lsubE, am_upO, am_upS, am_stS, am_stO, am_tnn, am_brl, am_brg, am_bre, am_brn, am_brG, am_brL, am_st1, am_no2, am_st2, am_clr, and_self, true_and, and_true, true_or, or_true, List.length_cons, List.length_nil] <;> omega) ?_
  try simp (disch := omega) only [am_tnA, am_tnM, Int.reduceToNat, am_addE, am_subE, am_mulE, am_laddE, am_lsubE, am_upO, am_upS, am_stS, am_stO, am_tnn, am_brl, am_brg, am_bre, am_brn, am_brG, am_brL, am_st1, am_no2, am_st2, am_clr]
  refine am_wp_pc (pc' := 1653) (if_pos trivial) ?_
  exact L_back ih hx hL hw s1 s2 hm (by omega) (by omega) hK

set_option maxRecDepth 20000 in
theorem L_kitchen (hw : wd sh R) (s1 : sh 1 = (32, L)) (s2 : sh 2 = (32, 36)) (hm : 161 ≤ m) (hm2 : m ≤ 161 + 21 * t) (hsl : sl ≤ lawS + 168 * t) (hc : cp X I) (hx : x + 6 ≤ L) (hL : L ≤ 3072) (hX : ∀ k, -2147483648 ≤ X k ∧ X k ≤ 2147483647) (ih : LH X L x t Q) : am_wp 1000 334 338 [some (.inr (.inr 1)), some (.inr (.inr 4)), some (.inr (.inr 124)), some (.inr (.inr 160)), some (.inl (x : Int)), z5, z6, z7] [] (m, sl, sh, I, R) Q := by
  have e1 : I 1 = X := hc.1.1
  refine am_wp_go rfl (by simp (disch := omega) only [s1, e1, am_tnA, am_tnM, Int.reduceToNat, am_addE, am_subE, am_mulE, am_laddE, am_lsubE, am_upO, am_upS, am_stS, am_stO, am_tnn, am_brl, am_brg, am_bre, am_brn, am_brG, am_brL, am_st1, am_no2, am_st2, am_clr, and_self, true_and, and_true, true_or, or_true, List.length_cons, List.length_nil] <;> omega) ?_
  try simp (disch := omega) only [s1, e1, am_tnA, am_tnM, Int.reduceToNat, am_addE, am_subE, am_mulE, am_laddE, am_lsubE, am_upO, am_upS, am_stS, am_stO, am_tnn, am_brl, am_brg, am_bre, am_brn, am_brG, am_brL, am_st1, am_no2, am_st2, am_clr]
  refine am_wp_cc rfl rfl rfl (congrArg Prod.fst (s4 hw)) (p_kitchen hw hc (fun J av j1 k => ⟨_, rfl, ?_⟩))
  have e1 : J 1 = X := by rw [j1]; exact e1
  refine am_wp_go rfl (by simp (disch := omega) only [s1, e1, am_tnA, am_tnM, Int.reduceToNat, am_addE, am_subE, am_mulE, am_laddE, am_lsubE, am_upO, am_upS, am_stS, am_stO, am_tnn, am_brl, am_brg, am_bre, am_brn, am_brG, am_brL, am_st1, am_no2, am_st2, am_clr, and_self, true_and, and_true, true_or, or_true, List.length_cons, List.length_nil] <;> omega) ?_
  try simp (disch := omega) only [s1, e1, am_tnA, am_tnM, Int.reduceToNat, am_addE, am_subE, am_mulE, am_laddE, am_lsubE, am_upO, am_upS, am_stS, am_stO, am_tnn, am_brl, am_brg, am_bre, am_brn, am_brG, am_brL, am_st1, am_no2, am_st2, am_clr]
  refine am_wp_cc rfl rfl rfl (congrArg Prod.fst (s124 hw)) (k _ (fun K hK => ⟨_, rfl, ?_⟩))
  refine am_wp_go rfl (by simp (disch := omega) only [am_tnA, am_tnM, Int.reduceToNat, am_addE, am_subE, am_mulE, am_laddE, am_lsubE, am_upO, am_upS, am_stS, am_stO, am_tnn, am_brl, am_brg, am_bre, am_brn, am_brG, am_brL, am_st1, am_no2, am_st2, am_clr, and_self, true_and, and_true, true_or, or_true, List.length_cons, List.length_nil] <;> omega) ?_
  try simp (disch := omega) only [am_tnA, am_tnM, Int.reduceToNat, am_addE, am_subE, am_mulE, am_laddE, am_lsubE, am_upO, am_upS, am_stS, am_stO, am_tnn, am_brl, am_brg, am_bre, am_brn, am_brG, am_brL, am_st1, am_no2, am_st2, am_clr]
  refine am_wp_pc (pc' := 1653) (if_pos trivial) ?_
  exact L_back ih hx hL hw s1 s2 hm (by omega) (by omega) hK

set_option maxRecDepth 20000 in
theorem L_fault (hw : wd sh R) (s1 : sh 1 = (32, L)) (s2 : sh 2 = (32, 36)) (hm : 161 ≤ m) (hm2 : m ≤ 161 + 21 * t) (hsl : sl ≤ lawS + 168 * t) (hc : cp X I) (hx : x + 6 ≤ L) (hL : L ≤ 3072) (hX : ∀ k, -2147483648 ≤ X k ∧ X k ≤ 2147483647) (ih : LH X L x t Q) : am_wp 1000 334 351 [some (.inr (.inr 1)), some (.inr (.inr 4)), some (.inr (.inr 124)), some (.inr (.inr 160)), some (.inl (x : Int)), z5, z6, z7] [] (m, sl, sh, I, R) Q := by
  have e1 : I 1 = X := hc.1.1
  refine am_wp_go rfl (by simp (disch := omega) only [s1, e1, am_tnA, am_tnM, Int.reduceToNat, am_addE, am_subE, am_mulE, am_laddE, am_lsubE, am_upO, am_upS, am_stS, am_stO, am_tnn, am_brl, am_brg, am_bre, am_brn, am_brG, am_brL, am_st1, am_no2, am_st2, am_clr, and_self, true_and, and_true, true_or, or_true, List.length_cons, List.length_nil] <;> omega) ?_
  try simp (disch := omega) only [s1, e1, am_tnA, am_tnM, Int.reduceToNat, am_addE, am_subE, am_mulE, am_laddE, am_lsubE, am_upO, am_upS, am_stS, am_stO, am_tnn, am_brl, am_brg, am_bre, am_brn, am_brG, am_brL, am_st1, am_no2, am_st2, am_clr]
  refine am_wp_cc rfl rfl rfl (congrArg Prod.fst (s4 hw)) (p_fault hw hc (fun J av j1 k => ⟨_, rfl, ?_⟩))
  have e1 : J 1 = X := by rw [j1]; exact e1
  refine am_wp_go rfl (by simp (disch := omega) only [s1, e1, am_tnA, am_tnM, Int.reduceToNat, am_addE, am_subE, am_mulE, am_laddE, am_lsubE, am_upO, am_upS, am_stS, am_stO, am_tnn, am_brl, am_brg, am_bre, am_brn, am_brG, am_brL, am_st1, am_no2, am_st2, am_clr, and_self, true_and, and_true, true_or, or_true, List.length_cons, List.length_nil] <;> omega) ?_
  try simp (disch := omega) only [s1, e1, am_tnA, am_tnM, Int.reduceToNat, am_addE, am_subE, am_mulE, am_laddE, am_lsubE, am_upO, am_upS, am_stS, am_stO, am_tnn, am_brl, am_brg, am_bre, am_brn, am_brG, am_brL, am_st1, am_no2, am_st2, am_clr]
  refine am_wp_cc rfl rfl rfl (congrArg Prod.fst (s124 hw)) (k _ (fun K hK => ⟨_, rfl, ?_⟩))
  refine am_wp_go rfl (by simp (disch := omega) only [am_tnA, am_tnM, Int.reduceToNat, am_addE, am_subE, am_mulE, am_laddE, am_lsubE, am_upO, am_upS, am_stS, am_stO, am_tnn, am_brl, am_brg, am_bre, am_brn, am_brG, am_brL, am_st1, am_no2, am_st2, am_clr, and_self, true_and, and_true, true_or, or_true, List.length_cons, List.length_nil] <;> omega) ?_
  try simp (disch := omega) only [am_tnA, am_tnM, Int.reduceToNat, am_addE, am_subE, am_mulE, am_laddE, am_lsubE, am_upO, am_upS, am_stS, am_stO, am_tnn, am_brl, am_brg, am_bre, am_brn, am_brG, am_brL, am_st1, am_no2, am_st2, am_clr]
  refine am_wp_pc (pc' := 1653) (if_pos trivial) ?_
  exact L_back ih hx hL hw s1 s2 hm (by omega) (by omega) hK

set_option maxRecDepth 20000 in
theorem L_slice (hw : wd sh R) (s1 : sh 1 = (32, L)) (s2 : sh 2 = (32, 36)) (hm : 161 ≤ m) (hm2 : m ≤ 161 + 21 * t) (hsl : sl ≤ lawS + 168 * t) (hc : cp X I) (hx : x + 6 ≤ L) (hL : L ≤ 3072) (hX : ∀ k, -2147483648 ≤ X k ∧ X k ≤ 2147483647) (ih : LH X L x t Q) : am_wp 1000 334 364 [some (.inr (.inr 1)), some (.inr (.inr 4)), some (.inr (.inr 124)), some (.inr (.inr 160)), some (.inl (x : Int)), z5, z6, z7] [] (m, sl, sh, I, R) Q := by
  have e1 : I 1 = X := hc.1.1
  refine am_wp_go rfl (by simp (disch := omega) only [s1, e1, am_tnA, am_tnM, Int.reduceToNat, am_addE, am_subE, am_mulE, am_laddE, am_lsubE, am_upO, am_upS, am_stS, am_stO, am_tnn, am_brl, am_brg, am_bre, am_brn, am_brG, am_brL, am_st1, am_no2, am_st2, am_clr, and_self, true_and, and_true, true_or, or_true, List.length_cons, List.length_nil] <;> omega) ?_
  try simp (disch := omega) only [s1, e1, am_tnA, am_tnM, Int.reduceToNat, am_addE, am_subE, am_mulE, am_laddE, am_lsubE, am_upO, am_upS, am_stS, am_stO, am_tnn, am_brl, am_brg, am_bre, am_brn, am_brG, am_brL, am_st1, am_no2, am_st2, am_clr]
  refine am_wp_cc rfl rfl rfl trivial (p_slice hw hm hc (fun m' sl' sh' J R' ex av y1 y2 y3 y4 j1 j2 k => ⟨_, rfl, ?_⟩))
  have hw' := mo_wd y1 hw
  have s1' : sh' 1 = (32, L) := by rw [y1.1 1 (by decide)]; exact s1
  have s2' : sh' 2 = (32, 36) := by rw [y1.1 2 (by decide)]; exact s2
  have e1 : J 1 = X := by rw [j1]; exact e1
  refine am_wp_go rfl (by simp (disch := omega) only [s1', e1, am_tnA, am_tnM, Int.reduceToNat, am_addE, am_subE, am_mulE, am_laddE, am_lsubE, am_upO, am_upS, am_stS, am_stO, am_tnn, am_brl, am_brg, am_bre, am_brn, am_brG, am_brL, am_st1, am_no2, am_st2, am_clr, and_self, true_and, and_true, true_or, or_true, List.length_cons, List.length_nil] <;> omega) ?_
  try simp (disch := omega) only [s1', e1, am_tnA, am_tnM, Int.reduceToNat, am_addE, am_subE, am_mulE, am_laddE, am_lsubE, am_upO, am_upS, am_stS, am_stO, am_tnn, am_brl, am_brg, am_bre, am_brn, am_brG, am_brL, am_st1, am_no2, am_st2, am_clr]
  refine am_wp_cc rfl rfl rfl (congrArg Prod.fst (s124 hw')) (k _ (fun K hK k1 k160 kt => ⟨_, rfl, ?_⟩))
  refine am_wp_go rfl (by simp (disch := omega) only [am_tnA, am_tnM, Int.reduceToNat, am_addE, am_subE, am_mulE, am_laddE, am_lsubE, am_upO, am_upS, am_stS, am_stO, am_tnn, am_brl, am_brg, am_bre, am_brn, am_brG, am_brL, am_st1, am_no2, am_st2, am_clr, and_self, true_and, and_true, true_or, or_true, List.length_cons, List.length_nil] <;> omega) ?_
  try simp (disch := omega) only [am_tnA, am_tnM, Int.reduceToNat, am_addE, am_subE, am_mulE, am_laddE, am_lsubE, am_upO, am_upS, am_stS, am_stO, am_tnn, am_brl, am_brg, am_bre, am_brn, am_brG, am_brL, am_st1, am_no2, am_st2, am_clr]
  refine am_wp_cc rfl rfl rfl (congrArg Prod.fst (s124 hw')) (r_thrown hw' ⟨_, rfl, ?_⟩)
  rw [kt]
  refine am_wp_go rfl (by simp (disch := omega) only [am_tnA, am_tnM, Int.reduceToNat, am_addE, am_subE, am_mulE, am_laddE, am_lsubE, am_upO, am_upS, am_stS, am_stO, am_tnn, am_brl, am_brg, am_bre, am_brn, am_brG, am_brL, am_st1, am_no2, am_st2, am_clr, and_self, true_and, and_true, true_or, or_true, List.length_cons, List.length_nil] <;> omega) ?_
  try simp (disch := omega) only [am_tnA, am_tnM, Int.reduceToNat, am_addE, am_subE, am_mulE, am_laddE, am_lsubE, am_upO, am_upS, am_stS, am_stO, am_tnn, am_brl, am_brg, am_bre, am_brn, am_brG, am_brL, am_st1, am_no2, am_st2, am_clr]
  refine am_wp_pc (if_pos trivial) ?_
  have F160 : sh' 160 = (35, 1) := s160 hw'
  refine am_wp_go rfl (by simp (disch := omega) only [F160, k160, am_tnA, am_tnM, Int.reduceToNat, am_addE, am_subE, am_mulE, am_laddE, am_lsubE, am_upO, am_upS, am_stS, am_stO, am_tnn, am_brl, am_brg, am_bre, am_brn, am_brG, am_brL, am_st1, am_no2, am_st2, am_clr, and_self, true_and, and_true, true_or, or_true, List.length_cons, List.length_nil] <;> omega) ?_
  try simp (disch := omega) only [F160, k160, am_tnA, am_tnM, Int.reduceToNat, am_addE, am_subE, am_mulE, am_laddE, am_lsubE, am_upO, am_upS, am_stS, am_stO, am_tnn, am_brl, am_brg, am_bre, am_brn, am_brG, am_brL, am_st1, am_no2, am_st2, am_clr]
  refine am_wp_br (fun b2 => ?_) (fun b2 => ?_)
  · refine am_wp_goc [1653] rfl trivial ?_
    exact L_back ih hx hL hw' s1' s2' (by omega) (by omega) (by omega) hK
  · have ej := j2 (by omega)
    refine am_wp_go rfl (by simp (disch := omega) only [F160, k160, ej, am_tnA, am_tnM, Int.reduceToNat, am_addE, am_subE, am_mulE, am_laddE, am_lsubE, am_upO, am_upS, am_stS, am_stO, am_tnn, am_brl, am_brg, am_bre, am_brn, am_brG, am_brL, am_st1, am_no2, am_st2, am_clr, and_self, true_and, and_true, true_or, or_true, List.length_cons, List.length_nil] <;> omega) ?_
    try simp (disch := omega) only [F160, k160, ej, am_tnA, am_tnM, Int.reduceToNat, am_addE, am_subE, am_mulE, am_laddE, am_lsubE, am_upO, am_upS, am_stS, am_stO, am_tnn, am_brl, am_brg, am_bre, am_brn, am_brG, am_brL, am_st1, am_no2, am_st2, am_clr]
    refine am_wp_br (fun b3 => ?_) (fun b3 => absurd am_lc0 b3)
    refine am_wp_goc [1653] rfl trivial ?_
    exact L_back ih hx hL hw' s1' s2' (by omega) (by omega) (by omega) hK

set_option maxRecDepth 20000 in
theorem L_guest (hw : wd sh R) (s1 : sh 1 = (32, L)) (s2 : sh 2 = (32, 36)) (hm : 161 ≤ m) (hm2 : m ≤ 161 + 21 * t) (hsl : sl ≤ lawS + 168 * t) (hc : cp X I) (hx : x + 6 ≤ L) (hL : L ≤ 3072) (hX : ∀ k, -2147483648 ≤ X k ∧ X k ≤ 2147483647) (ih : LH X L x t Q) : am_wp 1000 334 432 [some (.inr (.inr 1)), some (.inr (.inr 4)), some (.inr (.inr 124)), some (.inr (.inr 160)), some (.inl (x : Int)), z5, z6, z7] [] (m, sl, sh, I, R) Q := by
  have e1 : I 1 = X := hc.1.1
  refine am_wp_go rfl (by simp (disch := omega) only [s1, e1, am_tnA, am_tnM, Int.reduceToNat, am_addE, am_subE, am_mulE, am_laddE, am_lsubE, am_upO, am_upS, am_stS, am_stO, am_tnn, am_brl, am_brg, am_bre, am_brn, am_brG, am_brL, am_st1, am_no2, am_st2, am_clr, and_self, true_and, and_true, true_or, or_true, List.length_cons, List.length_nil] <;> omega) ?_
  try simp (disch := omega) only [s1, e1, am_tnA, am_tnM, Int.reduceToNat, am_addE, am_subE, am_mulE, am_laddE, am_lsubE, am_upO, am_upS, am_stS, am_stO, am_tnn, am_brl, am_brg, am_bre, am_brn, am_brG, am_brL, am_st1, am_no2, am_st2, am_clr]
  refine am_wp_cc rfl rfl rfl trivial (p_guest hw hm hc (fun m' sl' sh' J R' ex av y1 y2 y3 y4 j1 j2 k => ⟨_, rfl, ?_⟩))
  have hw' := mo_wd y1 hw
  have s1' : sh' 1 = (32, L) := by rw [y1.1 1 (by decide)]; exact s1
  have s2' : sh' 2 = (32, 36) := by rw [y1.1 2 (by decide)]; exact s2
  have e1 : J 1 = X := by rw [j1]; exact e1
  refine am_wp_go rfl (by simp (disch := omega) only [s1', e1, am_tnA, am_tnM, Int.reduceToNat, am_addE, am_subE, am_mulE, am_laddE, am_lsubE, am_upO, am_upS, am_stS, am_stO, am_tnn, am_brl, am_brg, am_bre, am_brn, am_brG, am_brL, am_st1, am_no2, am_st2, am_clr, and_self, true_and, and_true, true_or, or_true, List.length_cons, List.length_nil] <;> omega) ?_
  try simp (disch := omega) only [s1', e1, am_tnA, am_tnM, Int.reduceToNat, am_addE, am_subE, am_mulE, am_laddE, am_lsubE, am_upO, am_upS, am_stS, am_stO, am_tnn, am_brl, am_brg, am_bre, am_brn, am_brG, am_brL, am_st1, am_no2, am_st2, am_clr]
  refine am_wp_cc rfl rfl rfl (congrArg Prod.fst (s124 hw')) (k _ (fun K hK k1 k160 kt => ⟨_, rfl, ?_⟩))
  refine am_wp_go rfl (by simp (disch := omega) only [am_tnA, am_tnM, Int.reduceToNat, am_addE, am_subE, am_mulE, am_laddE, am_lsubE, am_upO, am_upS, am_stS, am_stO, am_tnn, am_brl, am_brg, am_bre, am_brn, am_brG, am_brL, am_st1, am_no2, am_st2, am_clr, and_self, true_and, and_true, true_or, or_true, List.length_cons, List.length_nil] <;> omega) ?_
  try simp (disch := omega) only [am_tnA, am_tnM, Int.reduceToNat, am_addE, am_subE, am_mulE, am_laddE, am_lsubE, am_upO, am_upS, am_stS, am_stO, am_tnn, am_brl, am_brg, am_bre, am_brn, am_brG, am_brL, am_st1, am_no2, am_st2, am_clr]
  refine am_wp_cc rfl rfl rfl (congrArg Prod.fst (s124 hw')) (r_thrown hw' ⟨_, rfl, ?_⟩)
  rw [kt]
  refine am_wp_go rfl (by simp (disch := omega) only [am_tnA, am_tnM, Int.reduceToNat, am_addE, am_subE, am_mulE, am_laddE, am_lsubE, am_upO, am_upS, am_stS, am_stO, am_tnn, am_brl, am_brg, am_bre, am_brn, am_brG, am_brL, am_st1, am_no2, am_st2, am_clr, and_self, true_and, and_true, true_or, or_true, List.length_cons, List.length_nil] <;> omega) ?_
  try simp (disch := omega) only [am_tnA, am_tnM, Int.reduceToNat, am_addE, am_subE, am_mulE, am_laddE, am_lsubE, am_upO, am_upS, am_stS, am_stO, am_tnn, am_brl, am_brg, am_bre, am_brn, am_brG, am_brL, am_st1, am_no2, am_st2, am_clr]
  refine am_wp_pc (if_pos trivial) ?_
  have F160 : sh' 160 = (35, 1) := s160 hw'
  refine am_wp_go rfl (by simp (disch := omega) only [F160, k160, am_tnA, am_tnM, Int.reduceToNat, am_addE, am_subE, am_mulE, am_laddE, am_lsubE, am_upO, am_upS, am_stS, am_stO, am_tnn, am_brl, am_brg, am_bre, am_brn, am_brG, am_brL, am_st1, am_no2, am_st2, am_clr, and_self, true_and, and_true, true_or, or_true, List.length_cons, List.length_nil] <;> omega) ?_
  try simp (disch := omega) only [F160, k160, am_tnA, am_tnM, Int.reduceToNat, am_addE, am_subE, am_mulE, am_laddE, am_lsubE, am_upO, am_upS, am_stS, am_stO, am_tnn, am_brl, am_brg, am_bre, am_brn, am_brG, am_brL, am_st1, am_no2, am_st2, am_clr]
  refine am_wp_br (fun b2 => ?_) (fun b2 => ?_)
  · refine am_wp_goc [1653] rfl trivial ?_
    exact L_back ih hx hL hw' s1' s2' (by omega) (by omega) (by omega) hK
  · have ej := j2 (by omega)
    refine am_wp_go rfl (by simp (disch := omega) only [F160, k160, ej, am_tnA, am_tnM, Int.reduceToNat, am_addE, am_subE, am_mulE, am_laddE, am_lsubE, am_upO, am_upS, am_stS, am_stO, am_tnn, am_brl, am_brg, am_bre, am_brn, am_brG, am_brL, am_st1, am_no2, am_st2, am_clr, and_self, true_and, and_true, true_or, or_true, List.length_cons, List.length_nil] <;> omega) ?_
    try simp (disch := omega) only [F160, k160, ej, am_tnA, am_tnM, Int.reduceToNat, am_addE, am_subE, am_mulE, am_laddE, am_lsubE, am_upO, am_upS, am_stS, am_stO, am_tnn, am_brl, am_brg, am_bre, am_brn, am_brG, am_brL, am_st1, am_no2, am_st2, am_clr]
    refine am_wp_br (fun b3 => ?_) (fun b3 => absurd am_lc0 b3)
    refine am_wp_goc [1653] rfl trivial ?_
    exact L_back ih hx hL hw' s1' s2' (by omega) (by omega) (by omega) hK

set_option maxRecDepth 20000 in
theorem L_sort (hw : wd sh R) (s1 : sh 1 = (32, L)) (s2 : sh 2 = (32, 36)) (hm : 161 ≤ m) (hm2 : m ≤ 161 + 21 * t) (hsl : sl ≤ lawS + 168 * t) (hc : cp X I) (hx : x + 6 ≤ L) (hL : L ≤ 3072) (hX : ∀ k, -2147483648 ≤ X k ∧ X k ≤ 2147483647) (ih : LH X L x t Q) : am_wp 1000 334 500 [some (.inr (.inr 1)), some (.inr (.inr 4)), some (.inr (.inr 124)), some (.inr (.inr 160)), some (.inl (x : Int)), z5, z6, z7] [] (m, sl, sh, I, R) Q := by
  have e1 : I 1 = X := hc.1.1
  refine am_wp_go rfl (by simp (disch := omega) only [s1, e1, am_tnA, am_tnM, Int.reduceToNat, am_addE, am_subE, am_mulE, am_laddE, am_lsubE, am_upO, am_upS, am_stS, am_stO, am_tnn, am_brl, am_brg, am_bre, am_brn, am_brG, am_brL, am_st1, am_no2, am_st2, am_clr, and_self, true_and, and_true, true_or, or_true, List.length_cons, List.length_nil] <;> omega) ?_
  try simp (disch := omega) only [s1, e1, am_tnA, am_tnM, Int.reduceToNat, am_addE, am_subE, am_mulE, am_laddE, am_lsubE, am_upO, am_upS, am_stS, am_stO, am_tnn, am_brl, am_brg, am_bre, am_brn, am_brG, am_brL, am_st1, am_no2, am_st2, am_clr]
  refine am_wp_cc rfl rfl rfl trivial (p_sort hw hm hc (fun m' sl' sh' J R' ex av y1 y2 y3 y4 j1 j2 k => ⟨_, rfl, ?_⟩))
  have hw' := mo_wd y1 hw
  have s1' : sh' 1 = (32, L) := by rw [y1.1 1 (by decide)]; exact s1
  have s2' : sh' 2 = (32, 36) := by rw [y1.1 2 (by decide)]; exact s2
  have e1 : J 1 = X := by rw [j1]; exact e1
  refine am_wp_go rfl (by simp (disch := omega) only [s1', e1, am_tnA, am_tnM, Int.reduceToNat, am_addE, am_subE, am_mulE, am_laddE, am_lsubE, am_upO, am_upS, am_stS, am_stO, am_tnn, am_brl, am_brg, am_bre, am_brn, am_brG, am_brL, am_st1, am_no2, am_st2, am_clr, and_self, true_and, and_true, true_or, or_true, List.length_cons, List.length_nil] <;> omega) ?_
  try simp (disch := omega) only [s1', e1, am_tnA, am_tnM, Int.reduceToNat, am_addE, am_subE, am_mulE, am_laddE, am_lsubE, am_upO, am_upS, am_stS, am_stO, am_tnn, am_brl, am_brg, am_bre, am_brn, am_brG, am_brL, am_st1, am_no2, am_st2, am_clr]
  refine am_wp_cc rfl rfl rfl (congrArg Prod.fst (s124 hw')) (k _ (fun K hK k1 k160 kt => ⟨_, rfl, ?_⟩))
  refine am_wp_go rfl (by simp (disch := omega) only [am_tnA, am_tnM, Int.reduceToNat, am_addE, am_subE, am_mulE, am_laddE, am_lsubE, am_upO, am_upS, am_stS, am_stO, am_tnn, am_brl, am_brg, am_bre, am_brn, am_brG, am_brL, am_st1, am_no2, am_st2, am_clr, and_self, true_and, and_true, true_or, or_true, List.length_cons, List.length_nil] <;> omega) ?_
  try simp (disch := omega) only [am_tnA, am_tnM, Int.reduceToNat, am_addE, am_subE, am_mulE, am_laddE, am_lsubE, am_upO, am_upS, am_stS, am_stO, am_tnn, am_brl, am_brg, am_bre, am_brn, am_brG, am_brL, am_st1, am_no2, am_st2, am_clr]
  refine am_wp_cc rfl rfl rfl (congrArg Prod.fst (s124 hw')) (r_thrown hw' ⟨_, rfl, ?_⟩)
  rw [kt]
  refine am_wp_go rfl (by simp (disch := omega) only [am_tnA, am_tnM, Int.reduceToNat, am_addE, am_subE, am_mulE, am_laddE, am_lsubE, am_upO, am_upS, am_stS, am_stO, am_tnn, am_brl, am_brg, am_bre, am_brn, am_brG, am_brL, am_st1, am_no2, am_st2, am_clr, and_self, true_and, and_true, true_or, or_true, List.length_cons, List.length_nil] <;> omega) ?_
  try simp (disch := omega) only [am_tnA, am_tnM, Int.reduceToNat, am_addE, am_subE, am_mulE, am_laddE, am_lsubE, am_upO, am_upS, am_stS, am_stO, am_tnn, am_brl, am_brg, am_bre, am_brn, am_brG, am_brL, am_st1, am_no2, am_st2, am_clr]
  refine am_wp_pc (if_pos trivial) ?_
  have F160 : sh' 160 = (35, 1) := s160 hw'
  refine am_wp_go rfl (by simp (disch := omega) only [F160, k160, am_tnA, am_tnM, Int.reduceToNat, am_addE, am_subE, am_mulE, am_laddE, am_lsubE, am_upO, am_upS, am_stS, am_stO, am_tnn, am_brl, am_brg, am_bre, am_brn, am_brG, am_brL, am_st1, am_no2, am_st2, am_clr, and_self, true_and, and_true, true_or, or_true, List.length_cons, List.length_nil] <;> omega) ?_
  try simp (disch := omega) only [F160, k160, am_tnA, am_tnM, Int.reduceToNat, am_addE, am_subE, am_mulE, am_laddE, am_lsubE, am_upO, am_upS, am_stS, am_stO, am_tnn, am_brl, am_brg, am_bre, am_brn, am_brG, am_brL, am_st1, am_no2, am_st2, am_clr]
  refine am_wp_br (fun b2 => ?_) (fun b2 => ?_)
  · refine am_wp_goc [1653] rfl trivial ?_
    exact L_back ih hx hL hw' s1' s2' (by omega) (by omega) (by omega) hK
  · have ej := j2 (by omega)
    refine am_wp_go rfl (by simp (disch := omega) only [F160, k160, ej, am_tnA, am_tnM, Int.reduceToNat, am_addE, am_subE, am_mulE, am_laddE, am_lsubE, am_upO, am_upS, am_stS, am_stO, am_tnn, am_brl, am_brg, am_bre, am_brn, am_brG, am_brL, am_st1, am_no2, am_st2, am_clr, and_self, true_and, and_true, true_or, or_true, List.length_cons, List.length_nil] <;> omega) ?_
    try simp (disch := omega) only [F160, k160, ej, am_tnA, am_tnM, Int.reduceToNat, am_addE, am_subE, am_mulE, am_laddE, am_lsubE, am_upO, am_upS, am_stS, am_stO, am_tnn, am_brl, am_brg, am_bre, am_brn, am_brG, am_brL, am_st1, am_no2, am_st2, am_clr]
    refine am_wp_br (fun b3 => ?_) (fun b3 => absurd am_lc0 b3)
    refine am_wp_goc [1653] rfl trivial ?_
    exact L_back ih hx hL hw' s1' s2' (by omega) (by omega) (by omega) hK

set_option maxRecDepth 20000 in
theorem L_plan (hw : wd sh R) (s1 : sh 1 = (32, L)) (s2 : sh 2 = (32, 36)) (hm : 161 ≤ m) (hm2 : m ≤ 161 + 21 * t) (hsl : sl ≤ lawS + 168 * t) (hc : cp X I) (hx : x + 6 ≤ L) (hL : L ≤ 3072) (hX : ∀ k, -2147483648 ≤ X k ∧ X k ≤ 2147483647) (ih : LH X L x t Q) : am_wp 1000 334 568 [some (.inr (.inr 1)), some (.inr (.inr 4)), some (.inr (.inr 124)), some (.inr (.inr 160)), some (.inl (x : Int)), z5, z6, z7] [] (m, sl, sh, I, R) Q := by
  have e1 : I 1 = X := hc.1.1
  refine am_wp_go rfl (by simp (disch := omega) only [s1, e1, am_tnA, am_tnM, Int.reduceToNat, am_addE, am_subE, am_mulE, am_laddE, am_lsubE, am_upO, am_upS, am_stS, am_stO, am_tnn, am_brl, am_brg, am_bre, am_brn, am_brG, am_brL, am_st1, am_no2, am_st2, am_clr, and_self, true_and, and_true, true_or, or_true, List.length_cons, List.length_nil] <;> omega) ?_
  try simp (disch := omega) only [s1, e1, am_tnA, am_tnM, Int.reduceToNat, am_addE, am_subE, am_mulE, am_laddE, am_lsubE, am_upO, am_upS, am_stS, am_stO, am_tnn, am_brl, am_brg, am_bre, am_brn, am_brG, am_brL, am_st1, am_no2, am_st2, am_clr]
  refine am_wp_cc rfl rfl rfl (congrArg Prod.fst (s4 hw)) (p_plan hw hc (fun J av j1 k => ⟨_, rfl, ?_⟩))
  have e1 : J 1 = X := by rw [j1]; exact e1
  refine am_wp_go rfl (by simp (disch := omega) only [s1, e1, am_tnA, am_tnM, Int.reduceToNat, am_addE, am_subE, am_mulE, am_laddE, am_lsubE, am_upO, am_upS, am_stS, am_stO, am_tnn, am_brl, am_brg, am_bre, am_brn, am_brG, am_brL, am_st1, am_no2, am_st2, am_clr, and_self, true_and, and_true, true_or, or_true, List.length_cons, List.length_nil] <;> omega) ?_
  try simp (disch := omega) only [s1, e1, am_tnA, am_tnM, Int.reduceToNat, am_addE, am_subE, am_mulE, am_laddE, am_lsubE, am_upO, am_upS, am_stS, am_stO, am_tnn, am_brl, am_brg, am_bre, am_brn, am_brG, am_brL, am_st1, am_no2, am_st2, am_clr]
  refine am_wp_cc rfl rfl rfl (congrArg Prod.fst (s124 hw)) (k _ (fun K hK => ⟨_, rfl, ?_⟩))
  refine am_wp_go rfl (by simp (disch := omega) only [am_tnA, am_tnM, Int.reduceToNat, am_addE, am_subE, am_mulE, am_laddE, am_lsubE, am_upO, am_upS, am_stS, am_stO, am_tnn, am_brl, am_brg, am_bre, am_brn, am_brG, am_brL, am_st1, am_no2, am_st2, am_clr, and_self, true_and, and_true, true_or, or_true, List.length_cons, List.length_nil] <;> omega) ?_
  try simp (disch := omega) only [am_tnA, am_tnM, Int.reduceToNat, am_addE, am_subE, am_mulE, am_laddE, am_lsubE, am_upO, am_upS, am_stS, am_stO, am_tnn, am_brl, am_brg, am_bre, am_brn, am_brG, am_brL, am_st1, am_no2, am_st2, am_clr]
  refine am_wp_pc (pc' := 1653) (if_pos trivial) ?_
  exact L_back ih hx hL hw s1 s2 hm (by omega) (by omega) hK

set_option maxRecDepth 20000 in
theorem L_judge (hw : wd sh R) (s1 : sh 1 = (32, L)) (s2 : sh 2 = (32, 36)) (hm : 161 ≤ m) (hm2 : m ≤ 161 + 21 * t) (hsl : sl ≤ lawS + 168 * t) (hc : cp X I) (hx : x + 6 ≤ L) (hL : L ≤ 3072) (hX : ∀ k, -2147483648 ≤ X k ∧ X k ≤ 2147483647) (ih : LH X L x t Q) : am_wp 1000 334 581 [some (.inr (.inr 1)), some (.inr (.inr 4)), some (.inr (.inr 124)), some (.inr (.inr 160)), some (.inl (x : Int)), z5, z6, z7] [] (m, sl, sh, I, R) Q := by
  have e1 : I 1 = X := hc.1.1
  refine am_wp_go rfl (by simp (disch := omega) only [s1, e1, am_tnA, am_tnM, Int.reduceToNat, am_addE, am_subE, am_mulE, am_laddE, am_lsubE, am_upO, am_upS, am_stS, am_stO, am_tnn, am_brl, am_brg, am_bre, am_brn, am_brG, am_brL, am_st1, am_no2, am_st2, am_clr, and_self, true_and, and_true, true_or, or_true, List.length_cons, List.length_nil] <;> omega) ?_
  try simp (disch := omega) only [s1, e1, am_tnA, am_tnM, Int.reduceToNat, am_addE, am_subE, am_mulE, am_laddE, am_lsubE, am_upO, am_upS, am_stS, am_stO, am_tnn, am_brl, am_brg, am_bre, am_brn, am_brG, am_brL, am_st1, am_no2, am_st2, am_clr]
  refine am_wp_cc rfl rfl rfl (congrArg Prod.fst (s4 hw)) (p_judge hw hc (fun J av j1 k => ⟨_, rfl, ?_⟩))
  have e1 : J 1 = X := by rw [j1]; exact e1
  refine am_wp_go rfl (by simp (disch := omega) only [s1, e1, am_tnA, am_tnM, Int.reduceToNat, am_addE, am_subE, am_mulE, am_laddE, am_lsubE, am_upO, am_upS, am_stS, am_stO, am_tnn, am_brl, am_brg, am_bre, am_brn, am_brG, am_brL, am_st1, am_no2, am_st2, am_clr, and_self, true_and, and_true, true_or, or_true, List.length_cons, List.length_nil] <;> omega) ?_
  try simp (disch := omega) only [s1, e1, am_tnA, am_tnM, Int.reduceToNat, am_addE, am_subE, am_mulE, am_laddE, am_lsubE, am_upO, am_upS, am_stS, am_stO, am_tnn, am_brl, am_brg, am_bre, am_brn, am_brG, am_brL, am_st1, am_no2, am_st2, am_clr]
  refine am_wp_cc rfl rfl rfl (congrArg Prod.fst (s124 hw)) (k _ (fun K hK => ⟨_, rfl, ?_⟩))
  refine am_wp_go rfl (by simp (disch := omega) only [am_tnA, am_tnM, Int.reduceToNat, am_addE, am_subE, am_mulE, am_laddE, am_lsubE, am_upO, am_upS, am_stS, am_stO, am_tnn, am_brl, am_brg, am_bre, am_brn, am_brG, am_brL, am_st1, am_no2, am_st2, am_clr, and_self, true_and, and_true, true_or, or_true, List.length_cons, List.length_nil] <;> omega) ?_
  try simp (disch := omega) only [am_tnA, am_tnM, Int.reduceToNat, am_addE, am_subE, am_mulE, am_laddE, am_lsubE, am_upO, am_upS, am_stS, am_stO, am_tnn, am_brl, am_brg, am_bre, am_brn, am_brG, am_brL, am_st1, am_no2, am_st2, am_clr]
  refine am_wp_pc (pc' := 1653) (if_pos trivial) ?_
  exact L_back ih hx hL hw s1 s2 hm (by omega) (by omega) hK

set_option maxRecDepth 20000 in
theorem L_why (hw : wd sh R) (s1 : sh 1 = (32, L)) (s2 : sh 2 = (32, 36)) (hm : 161 ≤ m) (hm2 : m ≤ 161 + 21 * t) (hsl : sl ≤ lawS + 168 * t) (hc : cp X I) (hx : x + 6 ≤ L) (hL : L ≤ 3072) (hX : ∀ k, -2147483648 ≤ X k ∧ X k ≤ 2147483647) (ih : LH X L x t Q) : am_wp 1000 334 594 [some (.inr (.inr 1)), some (.inr (.inr 4)), some (.inr (.inr 124)), some (.inr (.inr 160)), some (.inl (x : Int)), z5, z6, z7] [] (m, sl, sh, I, R) Q := by
  have e1 : I 1 = X := hc.1.1
  refine am_wp_go rfl (by simp (disch := omega) only [s1, e1, am_tnA, am_tnM, Int.reduceToNat, am_addE, am_subE, am_mulE, am_laddE, am_lsubE, am_upO, am_upS, am_stS, am_stO, am_tnn, am_brl, am_brg, am_bre, am_brn, am_brG, am_brL, am_st1, am_no2, am_st2, am_clr, and_self, true_and, and_true, true_or, or_true, List.length_cons, List.length_nil] <;> omega) ?_
  try simp (disch := omega) only [s1, e1, am_tnA, am_tnM, Int.reduceToNat, am_addE, am_subE, am_mulE, am_laddE, am_lsubE, am_upO, am_upS, am_stS, am_stO, am_tnn, am_brl, am_brg, am_bre, am_brn, am_brG, am_brL, am_st1, am_no2, am_st2, am_clr]
  refine am_wp_cc rfl rfl rfl (congrArg Prod.fst (s4 hw)) (p_why hw hc (fun J av j1 k => ⟨_, rfl, ?_⟩))
  have e1 : J 1 = X := by rw [j1]; exact e1
  refine am_wp_go rfl (by simp (disch := omega) only [s1, e1, am_tnA, am_tnM, Int.reduceToNat, am_addE, am_subE, am_mulE, am_laddE, am_lsubE, am_upO, am_upS, am_stS, am_stO, am_tnn, am_brl, am_brg, am_bre, am_brn, am_brG, am_brL, am_st1, am_no2, am_st2, am_clr, and_self, true_and, and_true, true_or, or_true, List.length_cons, List.length_nil] <;> omega) ?_
  try simp (disch := omega) only [s1, e1, am_tnA, am_tnM, Int.reduceToNat, am_addE, am_subE, am_mulE, am_laddE, am_lsubE, am_upO, am_upS, am_stS, am_stO, am_tnn, am_brl, am_brg, am_bre, am_brn, am_brG, am_brL, am_st1, am_no2, am_st2, am_clr]
  refine am_wp_cc rfl rfl rfl (congrArg Prod.fst (s124 hw)) (k _ (fun K hK => ⟨_, rfl, ?_⟩))
  refine am_wp_go rfl (by simp (disch := omega) only [am_tnA, am_tnM, Int.reduceToNat, am_addE, am_subE, am_mulE, am_laddE, am_lsubE, am_upO, am_upS, am_stS, am_stO, am_tnn, am_brl, am_brg, am_bre, am_brn, am_brG, am_brL, am_st1, am_no2, am_st2, am_clr, and_self, true_and, and_true, true_or, or_true, List.length_cons, List.length_nil] <;> omega) ?_
  try simp (disch := omega) only [am_tnA, am_tnM, Int.reduceToNat, am_addE, am_subE, am_mulE, am_laddE, am_lsubE, am_upO, am_upS, am_stS, am_stO, am_tnn, am_brl, am_brg, am_bre, am_brn, am_brG, am_brL, am_st1, am_no2, am_st2, am_clr]
  refine am_wp_pc (pc' := 1653) (if_pos trivial) ?_
  exact L_back ih hx hL hw s1 s2 hm (by omega) (by omega) hK

set_option maxRecDepth 20000 in
theorem L_go (hw : wd sh R) (s1 : sh 1 = (32, L)) (s2 : sh 2 = (32, 36)) (hm : 161 ≤ m) (hm2 : m ≤ 161 + 21 * t) (hsl : sl ≤ lawS + 168 * t) (hc : cp X I) (hx : x + 6 ≤ L) (hL : L ≤ 3072) (hX : ∀ k, -2147483648 ≤ X k ∧ X k ≤ 2147483647) (ih : LH X L x t Q) : am_wp 1000 334 607 [some (.inr (.inr 1)), some (.inr (.inr 4)), some (.inr (.inr 124)), some (.inr (.inr 160)), some (.inl (x : Int)), z5, z6, z7] [] (m, sl, sh, I, R) Q := by
  have e1 : I 1 = X := hc.1.1
  refine am_wp_go rfl (by simp (disch := omega) only [s1, e1, am_tnA, am_tnM, Int.reduceToNat, am_addE, am_subE, am_mulE, am_laddE, am_lsubE, am_upO, am_upS, am_stS, am_stO, am_tnn, am_brl, am_brg, am_bre, am_brn, am_brG, am_brL, am_st1, am_no2, am_st2, am_clr, and_self, true_and, and_true, true_or, or_true, List.length_cons, List.length_nil] <;> omega) ?_
  try simp (disch := omega) only [s1, e1, am_tnA, am_tnM, Int.reduceToNat, am_addE, am_subE, am_mulE, am_laddE, am_lsubE, am_upO, am_upS, am_stS, am_stO, am_tnn, am_brl, am_brg, am_bre, am_brn, am_brG, am_brL, am_st1, am_no2, am_st2, am_clr]
  refine am_wp_cc rfl rfl rfl (congrArg Prod.fst (s4 hw)) (p_go hw hc (fun J av j1 k => ⟨_, rfl, ?_⟩))
  have e1 : J 1 = X := by rw [j1]; exact e1
  refine am_wp_go rfl (by simp (disch := omega) only [s1, e1, am_tnA, am_tnM, Int.reduceToNat, am_addE, am_subE, am_mulE, am_laddE, am_lsubE, am_upO, am_upS, am_stS, am_stO, am_tnn, am_brl, am_brg, am_bre, am_brn, am_brG, am_brL, am_st1, am_no2, am_st2, am_clr, and_self, true_and, and_true, true_or, or_true, List.length_cons, List.length_nil] <;> omega) ?_
  try simp (disch := omega) only [s1, e1, am_tnA, am_tnM, Int.reduceToNat, am_addE, am_subE, am_mulE, am_laddE, am_lsubE, am_upO, am_upS, am_stS, am_stO, am_tnn, am_brl, am_brg, am_bre, am_brn, am_brG, am_brL, am_st1, am_no2, am_st2, am_clr]
  refine am_wp_cc rfl rfl rfl (congrArg Prod.fst (s124 hw)) (k _ (fun K hK => ⟨_, rfl, ?_⟩))
  refine am_wp_go rfl (by simp (disch := omega) only [am_tnA, am_tnM, Int.reduceToNat, am_addE, am_subE, am_mulE, am_laddE, am_lsubE, am_upO, am_upS, am_stS, am_stO, am_tnn, am_brl, am_brg, am_bre, am_brn, am_brG, am_brL, am_st1, am_no2, am_st2, am_clr, and_self, true_and, and_true, true_or, or_true, List.length_cons, List.length_nil] <;> omega) ?_
  try simp (disch := omega) only [am_tnA, am_tnM, Int.reduceToNat, am_addE, am_subE, am_mulE, am_laddE, am_lsubE, am_upO, am_upS, am_stS, am_stO, am_tnn, am_brl, am_brg, am_bre, am_brn, am_brG, am_brL, am_st1, am_no2, am_st2, am_clr]
  refine am_wp_pc (pc' := 1653) (if_pos trivial) ?_
  exact L_back ih hx hL hw s1 s2 hm (by omega) (by omega) hK

set_option maxRecDepth 20000 in
theorem L_left (hw : wd sh R) (s1 : sh 1 = (32, L)) (s2 : sh 2 = (32, 36)) (hm : 161 ≤ m) (hm2 : m ≤ 161 + 21 * t) (hsl : sl ≤ lawS + 168 * t) (hc : cp X I) (hx : x + 6 ≤ L) (hL : L ≤ 3072) (hX : ∀ k, -2147483648 ≤ X k ∧ X k ≤ 2147483647) (ih : LH X L x t Q) : am_wp 1000 334 644 [some (.inr (.inr 1)), some (.inr (.inr 4)), some (.inr (.inr 124)), some (.inr (.inr 160)), some (.inl (x : Int)), z5, z6, z7] [] (m, sl, sh, I, R) Q := by
  have e1 : I 1 = X := hc.1.1
  refine am_wp_go rfl (by simp (disch := omega) only [s1, e1, am_tnA, am_tnM, Int.reduceToNat, am_addE, am_subE, am_mulE, am_laddE, am_lsubE, am_upO, am_upS, am_stS, am_stO, am_tnn, am_brl, am_brg, am_bre, am_brn, am_brG, am_brL, am_st1, am_no2, am_st2, am_clr, and_self, true_and, and_true, true_or, or_true, List.length_cons, List.length_nil] <;> omega) ?_
  try simp (disch := omega) only [s1, e1, am_tnA, am_tnM, Int.reduceToNat, am_addE, am_subE, am_mulE, am_laddE, am_lsubE, am_upO, am_upS, am_stS, am_stO, am_tnn, am_brl, am_brg, am_bre, am_brn, am_brG, am_brL, am_st1, am_no2, am_st2, am_clr]
  refine am_wp_cc rfl rfl rfl trivial (p_left hw hm hc (fun m' sl' sh' J R' ex av y1 y2 y3 y4 j1 j2 k => ⟨_, rfl, ?_⟩))
  have hw' := mo_wd y1 hw
  have s1' : sh' 1 = (32, L) := by rw [y1.1 1 (by decide)]; exact s1
  have s2' : sh' 2 = (32, 36) := by rw [y1.1 2 (by decide)]; exact s2
  have e1 : J 1 = X := by rw [j1]; exact e1
  refine am_wp_go rfl (by simp (disch := omega) only [s1', e1, am_tnA, am_tnM, Int.reduceToNat, am_addE, am_subE, am_mulE, am_laddE, am_lsubE, am_upO, am_upS, am_stS, am_stO, am_tnn, am_brl, am_brg, am_bre, am_brn, am_brG, am_brL, am_st1, am_no2, am_st2, am_clr, and_self, true_and, and_true, true_or, or_true, List.length_cons, List.length_nil] <;> omega) ?_
  try simp (disch := omega) only [s1', e1, am_tnA, am_tnM, Int.reduceToNat, am_addE, am_subE, am_mulE, am_laddE, am_lsubE, am_upO, am_upS, am_stS, am_stO, am_tnn, am_brl, am_brg, am_bre, am_brn, am_brG, am_brL, am_st1, am_no2, am_st2, am_clr]
  refine am_wp_cc rfl rfl rfl (congrArg Prod.fst (s124 hw')) (k _ (fun K hK k1 k160 kt => ⟨_, rfl, ?_⟩))
  refine am_wp_go rfl (by simp (disch := omega) only [am_tnA, am_tnM, Int.reduceToNat, am_addE, am_subE, am_mulE, am_laddE, am_lsubE, am_upO, am_upS, am_stS, am_stO, am_tnn, am_brl, am_brg, am_bre, am_brn, am_brG, am_brL, am_st1, am_no2, am_st2, am_clr, and_self, true_and, and_true, true_or, or_true, List.length_cons, List.length_nil] <;> omega) ?_
  try simp (disch := omega) only [am_tnA, am_tnM, Int.reduceToNat, am_addE, am_subE, am_mulE, am_laddE, am_lsubE, am_upO, am_upS, am_stS, am_stO, am_tnn, am_brl, am_brg, am_bre, am_brn, am_brG, am_brL, am_st1, am_no2, am_st2, am_clr]
  refine am_wp_cc rfl rfl rfl (congrArg Prod.fst (s124 hw')) (r_thrown hw' ⟨_, rfl, ?_⟩)
  rw [kt]
  refine am_wp_go rfl (by simp (disch := omega) only [am_tnA, am_tnM, Int.reduceToNat, am_addE, am_subE, am_mulE, am_laddE, am_lsubE, am_upO, am_upS, am_stS, am_stO, am_tnn, am_brl, am_brg, am_bre, am_brn, am_brG, am_brL, am_st1, am_no2, am_st2, am_clr, and_self, true_and, and_true, true_or, or_true, List.length_cons, List.length_nil] <;> omega) ?_
  try simp (disch := omega) only [am_tnA, am_tnM, Int.reduceToNat, am_addE, am_subE, am_mulE, am_laddE, am_lsubE, am_upO, am_upS, am_stS, am_stO, am_tnn, am_brl, am_brg, am_bre, am_brn, am_brG, am_brL, am_st1, am_no2, am_st2, am_clr]
  refine am_wp_pc (if_pos trivial) ?_
  have F160 : sh' 160 = (35, 1) := s160 hw'
  refine am_wp_go rfl (by simp (disch := omega) only [F160, k160, am_tnA, am_tnM, Int.reduceToNat, am_addE, am_subE, am_mulE, am_laddE, am_lsubE, am_upO, am_upS, am_stS, am_stO, am_tnn, am_brl, am_brg, am_bre, am_brn, am_brG, am_brL, am_st1, am_no2, am_st2, am_clr, and_self, true_and, and_true, true_or, or_true, List.length_cons, List.length_nil] <;> omega) ?_
  try simp (disch := omega) only [F160, k160, am_tnA, am_tnM, Int.reduceToNat, am_addE, am_subE, am_mulE, am_laddE, am_lsubE, am_upO, am_upS, am_stS, am_stO, am_tnn, am_brl, am_brg, am_bre, am_brn, am_brG, am_brL, am_st1, am_no2, am_st2, am_clr]
  refine am_wp_br (fun b2 => ?_) (fun b2 => ?_)
  · refine am_wp_goc [1653] rfl trivial ?_
    exact L_back ih hx hL hw' s1' s2' (by omega) (by omega) (by omega) hK
  · have ej := j2 (by omega)
    refine am_wp_go rfl (by simp (disch := omega) only [F160, k160, ej, am_tnA, am_tnM, Int.reduceToNat, am_addE, am_subE, am_mulE, am_laddE, am_lsubE, am_upO, am_upS, am_stS, am_stO, am_tnn, am_brl, am_brg, am_bre, am_brn, am_brG, am_brL, am_st1, am_no2, am_st2, am_clr, and_self, true_and, and_true, true_or, or_true, List.length_cons, List.length_nil] <;> omega) ?_
    try simp (disch := omega) only [F160, k160, ej, am_tnA, am_tnM, Int.reduceToNat, am_addE, am_subE, am_mulE, am_laddE, am_lsubE, am_upO, am_upS, am_stS, am_stO, am_tnn, am_brl, am_brg, am_bre, am_brn, am_brG, am_brL, am_st1, am_no2, am_st2, am_clr]
    refine am_wp_br (fun b3 => ?_) (fun b3 => absurd am_lc0 b3)
    refine am_wp_goc [1653] rfl trivial ?_
    exact L_back ih hx hL hw' s1' s2' (by omega) (by omega) (by omega) hK

set_option maxRecDepth 20000 in
theorem L_ends (hw : wd sh R) (s1 : sh 1 = (32, L)) (s2 : sh 2 = (32, 36)) (hm : 161 ≤ m) (hm2 : m ≤ 161 + 21 * t) (hsl : sl ≤ lawS + 168 * t) (hc : cp X I) (hx : x + 6 ≤ L) (hL : L ≤ 3072) (hX : ∀ k, -2147483648 ≤ X k ∧ X k ≤ 2147483647) (ih : LH X L x t Q) : am_wp 1000 334 712 [some (.inr (.inr 1)), some (.inr (.inr 4)), some (.inr (.inr 124)), some (.inr (.inr 160)), some (.inl (x : Int)), z5, z6, z7] [] (m, sl, sh, I, R) Q := by
  have e1 : I 1 = X := hc.1.1
  refine am_wp_go rfl (by simp (disch := omega) only [s1, e1, am_tnA, am_tnM, Int.reduceToNat, am_addE, am_subE, am_mulE, am_laddE, am_lsubE, am_upO, am_upS, am_stS, am_stO, am_tnn, am_brl, am_brg, am_bre, am_brn, am_brG, am_brL, am_st1, am_no2, am_st2, am_clr, and_self, true_and, and_true, true_or, or_true, List.length_cons, List.length_nil] <;> omega) ?_
  try simp (disch := omega) only [s1, e1, am_tnA, am_tnM, Int.reduceToNat, am_addE, am_subE, am_mulE, am_laddE, am_lsubE, am_upO, am_upS, am_stS, am_stO, am_tnn, am_brl, am_brg, am_bre, am_brn, am_brG, am_brL, am_st1, am_no2, am_st2, am_clr]
  refine am_wp_cc rfl rfl rfl (congrArg Prod.fst (s4 hw)) (p_ends hw hc (fun J av j1 k => ⟨_, rfl, ?_⟩))
  have e1 : J 1 = X := by rw [j1]; exact e1
  refine am_wp_go rfl (by simp (disch := omega) only [s1, e1, am_tnA, am_tnM, Int.reduceToNat, am_addE, am_subE, am_mulE, am_laddE, am_lsubE, am_upO, am_upS, am_stS, am_stO, am_tnn, am_brl, am_brg, am_bre, am_brn, am_brG, am_brL, am_st1, am_no2, am_st2, am_clr, and_self, true_and, and_true, true_or, or_true, List.length_cons, List.length_nil] <;> omega) ?_
  try simp (disch := omega) only [s1, e1, am_tnA, am_tnM, Int.reduceToNat, am_addE, am_subE, am_mulE, am_laddE, am_lsubE, am_upO, am_upS, am_stS, am_stO, am_tnn, am_brl, am_brg, am_bre, am_brn, am_brG, am_brL, am_st1, am_no2, am_st2, am_clr]
  refine am_wp_cc rfl rfl rfl (congrArg Prod.fst (s124 hw)) (k _ (fun K hK => ⟨_, rfl, ?_⟩))
  refine am_wp_go rfl (by simp (disch := omega) only [am_tnA, am_tnM, Int.reduceToNat, am_addE, am_subE, am_mulE, am_laddE, am_lsubE, am_upO, am_upS, am_stS, am_stO, am_tnn, am_brl, am_brg, am_bre, am_brn, am_brG, am_brL, am_st1, am_no2, am_st2, am_clr, and_self, true_and, and_true, true_or, or_true, List.length_cons, List.length_nil] <;> omega) ?_
  try simp (disch := omega) only [am_tnA, am_tnM, Int.reduceToNat, am_addE, am_subE, am_mulE, am_laddE, am_lsubE, am_upO, am_upS, am_stS, am_stO, am_tnn, am_brl, am_brg, am_bre, am_brn, am_brG, am_brL, am_st1, am_no2, am_st2, am_clr]
  refine am_wp_pc (pc' := 1653) (if_pos trivial) ?_
  exact L_back ih hx hL hw s1 s2 hm (by omega) (by omega) hK

set_option maxRecDepth 20000 in
theorem L_done (hw : wd sh R) (s1 : sh 1 = (32, L)) (s2 : sh 2 = (32, 36)) (hm : 161 ≤ m) (hm2 : m ≤ 161 + 21 * t) (hsl : sl ≤ lawS + 168 * t) (hc : cp X I) (hx : x + 6 ≤ L) (hL : L ≤ 3072) (hX : ∀ k, -2147483648 ≤ X k ∧ X k ≤ 2147483647) (ih : LH X L x t Q) : am_wp 1000 334 725 [some (.inr (.inr 1)), some (.inr (.inr 4)), some (.inr (.inr 124)), some (.inr (.inr 160)), some (.inl (x : Int)), z5, z6, z7] [] (m, sl, sh, I, R) Q := by
  have e1 : I 1 = X := hc.1.1
  refine am_wp_go rfl (by simp (disch := omega) only [s1, e1, am_tnA, am_tnM, Int.reduceToNat, am_addE, am_subE, am_mulE, am_laddE, am_lsubE, am_upO, am_upS, am_stS, am_stO, am_tnn, am_brl, am_brg, am_bre, am_brn, am_brG, am_brL, am_st1, am_no2, am_st2, am_clr, and_self, true_and, and_true, true_or, or_true, List.length_cons, List.length_nil] <;> omega) ?_
  try simp (disch := omega) only [s1, e1, am_tnA, am_tnM, Int.reduceToNat, am_addE, am_subE, am_mulE, am_laddE, am_lsubE, am_upO, am_upS, am_stS, am_stO, am_tnn, am_brl, am_brg, am_bre, am_brn, am_brG, am_brL, am_st1, am_no2, am_st2, am_clr]
  refine am_wp_cc rfl rfl rfl (congrArg Prod.fst (s4 hw)) (p_done hw hc (fun J av j1 k => ⟨_, rfl, ?_⟩))
  have e1 : J 1 = X := by rw [j1]; exact e1
  refine am_wp_go rfl (by simp (disch := omega) only [s1, e1, am_tnA, am_tnM, Int.reduceToNat, am_addE, am_subE, am_mulE, am_laddE, am_lsubE, am_upO, am_upS, am_stS, am_stO, am_tnn, am_brl, am_brg, am_bre, am_brn, am_brG, am_brL, am_st1, am_no2, am_st2, am_clr, and_self, true_and, and_true, true_or, or_true, List.length_cons, List.length_nil] <;> omega) ?_
  try simp (disch := omega) only [s1, e1, am_tnA, am_tnM, Int.reduceToNat, am_addE, am_subE, am_mulE, am_laddE, am_lsubE, am_upO, am_upS, am_stS, am_stO, am_tnn, am_brl, am_brg, am_bre, am_brn, am_brG, am_brL, am_st1, am_no2, am_st2, am_clr]
  refine am_wp_cc rfl rfl rfl (congrArg Prod.fst (s124 hw)) (k _ (fun K hK => ⟨_, rfl, ?_⟩))
  refine am_wp_go rfl (by simp (disch := omega) only [am_tnA, am_tnM, Int.reduceToNat, am_addE, am_subE, am_mulE, am_laddE, am_lsubE, am_upO, am_upS, am_stS, am_stO, am_tnn, am_brl, am_brg, am_bre, am_brn, am_brG, am_brL, am_st1, am_no2, am_st2, am_clr, and_self, true_and, and_true, true_or, or_true, List.length_cons, List.length_nil] <;> omega) ?_
  try simp (disch := omega) only [am_tnA, am_tnM, Int.reduceToNat, am_addE, am_subE, am_mulE, am_laddE, am_lsubE, am_upO, am_upS, am_stS, am_stO, am_tnn, am_brl, am_brg, am_bre, am_brn, am_brG, am_brL, am_st1, am_no2, am_st2, am_clr]
  refine am_wp_pc (pc' := 1653) (if_pos trivial) ?_
  exact L_back ih hx hL hw s1 s2 hm (by omega) (by omega) hK

set_option maxRecDepth 20000 in
theorem L_on (hw : wd sh R) (s1 : sh 1 = (32, L)) (s2 : sh 2 = (32, 36)) (hm : 161 ≤ m) (hm2 : m ≤ 161 + 21 * t) (hsl : sl ≤ lawS + 168 * t) (hc : cp X I) (hx : x + 6 ≤ L) (hL : L ≤ 3072) (hX : ∀ k, -2147483648 ≤ X k ∧ X k ≤ 2147483647) (ih : LH X L x t Q) : am_wp 1000 334 738 [some (.inr (.inr 1)), some (.inr (.inr 4)), some (.inr (.inr 124)), some (.inr (.inr 160)), some (.inl (x : Int)), z5, z6, z7] [] (m, sl, sh, I, R) Q := by
  have e1 : I 1 = X := hc.1.1
  refine am_wp_go rfl (by simp (disch := omega) only [s1, e1, am_tnA, am_tnM, Int.reduceToNat, am_addE, am_subE, am_mulE, am_laddE, am_lsubE, am_upO, am_upS, am_stS, am_stO, am_tnn, am_brl, am_brg, am_bre, am_brn, am_brG, am_brL, am_st1, am_no2, am_st2, am_clr, and_self, true_and, and_true, true_or, or_true, List.length_cons, List.length_nil] <;> omega) ?_
  try simp (disch := omega) only [s1, e1, am_tnA, am_tnM, Int.reduceToNat, am_addE, am_subE, am_mulE, am_laddE, am_lsubE, am_upO, am_upS, am_stS, am_stO, am_tnn, am_brl, am_brg, am_bre, am_brn, am_brG, am_brL, am_st1, am_no2, am_st2, am_clr]
  refine am_wp_cc rfl rfl rfl (congrArg Prod.fst (s4 hw)) (p_on hw hc (fun J av j1 k => ⟨_, rfl, ?_⟩))
  have e1 : J 1 = X := by rw [j1]; exact e1
  refine am_wp_go rfl (by simp (disch := omega) only [s1, e1, am_tnA, am_tnM, Int.reduceToNat, am_addE, am_subE, am_mulE, am_laddE, am_lsubE, am_upO, am_upS, am_stS, am_stO, am_tnn, am_brl, am_brg, am_bre, am_brn, am_brG, am_brL, am_st1, am_no2, am_st2, am_clr, and_self, true_and, and_true, true_or, or_true, List.length_cons, List.length_nil] <;> omega) ?_
  try simp (disch := omega) only [s1, e1, am_tnA, am_tnM, Int.reduceToNat, am_addE, am_subE, am_mulE, am_laddE, am_lsubE, am_upO, am_upS, am_stS, am_stO, am_tnn, am_brl, am_brg, am_bre, am_brn, am_brG, am_brL, am_st1, am_no2, am_st2, am_clr]
  refine am_wp_cc rfl rfl rfl (congrArg Prod.fst (s124 hw)) (k _ (fun K hK => ⟨_, rfl, ?_⟩))
  refine am_wp_go rfl (by simp (disch := omega) only [am_tnA, am_tnM, Int.reduceToNat, am_addE, am_subE, am_mulE, am_laddE, am_lsubE, am_upO, am_upS, am_stS, am_stO, am_tnn, am_brl, am_brg, am_bre, am_brn, am_brG, am_brL, am_st1, am_no2, am_st2, am_clr, and_self, true_and, and_true, true_or, or_true, List.length_cons, List.length_nil] <;> omega) ?_
  try simp (disch := omega) only [am_tnA, am_tnM, Int.reduceToNat, am_addE, am_subE, am_mulE, am_laddE, am_lsubE, am_upO, am_upS, am_stS, am_stO, am_tnn, am_brl, am_brg, am_bre, am_brn, am_brG, am_brL, am_st1, am_no2, am_st2, am_clr]
  refine am_wp_pc (pc' := 1653) (if_pos trivial) ?_
  exact L_back ih hx hL hw s1 s2 hm (by omega) (by omega) hK

set_option maxRecDepth 20000 in
theorem L_write (hw : wd sh R) (s1 : sh 1 = (32, L)) (s2 : sh 2 = (32, 36)) (hm : 161 ≤ m) (hm2 : m ≤ 161 + 21 * t) (hsl : sl ≤ lawS + 168 * t) (hc : cp X I) (hx : x + 6 ≤ L) (hL : L ≤ 3072) (hX : ∀ k, -2147483648 ≤ X k ∧ X k ≤ 2147483647) (ih : LH X L x t Q) : am_wp 1000 334 763 [some (.inr (.inr 1)), some (.inr (.inr 4)), some (.inr (.inr 124)), some (.inr (.inr 160)), some (.inl (x : Int)), z5, z6, z7] [] (m, sl, sh, I, R) Q := by
  have e1 : I 1 = X := hc.1.1
  refine am_wp_go rfl (by simp (disch := omega) only [s1, e1, am_tnA, am_tnM, Int.reduceToNat, am_addE, am_subE, am_mulE, am_laddE, am_lsubE, am_upO, am_upS, am_stS, am_stO, am_tnn, am_brl, am_brg, am_bre, am_brn, am_brG, am_brL, am_st1, am_no2, am_st2, am_clr, and_self, true_and, and_true, true_or, or_true, List.length_cons, List.length_nil] <;> omega) ?_
  try simp (disch := omega) only [s1, e1, am_tnA, am_tnM, Int.reduceToNat, am_addE, am_subE, am_mulE, am_laddE, am_lsubE, am_upO, am_upS, am_stS, am_stO, am_tnn, am_brl, am_brg, am_bre, am_brn, am_brG, am_brL, am_st1, am_no2, am_st2, am_clr]
  refine am_wp_cc rfl rfl rfl (congrArg Prod.fst (s4 hw)) (p_write hw hc (fun J av j1 k => ⟨_, rfl, ?_⟩))
  have e1 : J 1 = X := by rw [j1]; exact e1
  refine am_wp_go rfl (by simp (disch := omega) only [s1, e1, am_tnA, am_tnM, Int.reduceToNat, am_addE, am_subE, am_mulE, am_laddE, am_lsubE, am_upO, am_upS, am_stS, am_stO, am_tnn, am_brl, am_brg, am_bre, am_brn, am_brG, am_brL, am_st1, am_no2, am_st2, am_clr, and_self, true_and, and_true, true_or, or_true, List.length_cons, List.length_nil] <;> omega) ?_
  try simp (disch := omega) only [s1, e1, am_tnA, am_tnM, Int.reduceToNat, am_addE, am_subE, am_mulE, am_laddE, am_lsubE, am_upO, am_upS, am_stS, am_stO, am_tnn, am_brl, am_brg, am_bre, am_brn, am_brG, am_brL, am_st1, am_no2, am_st2, am_clr]
  refine am_wp_cc rfl rfl rfl (congrArg Prod.fst (s124 hw)) (k _ (fun K hK => ⟨_, rfl, ?_⟩))
  refine am_wp_go rfl (by simp (disch := omega) only [am_tnA, am_tnM, Int.reduceToNat, am_addE, am_subE, am_mulE, am_laddE, am_lsubE, am_upO, am_upS, am_stS, am_stO, am_tnn, am_brl, am_brg, am_bre, am_brn, am_brG, am_brL, am_st1, am_no2, am_st2, am_clr, and_self, true_and, and_true, true_or, or_true, List.length_cons, List.length_nil] <;> omega) ?_
  try simp (disch := omega) only [am_tnA, am_tnM, Int.reduceToNat, am_addE, am_subE, am_mulE, am_laddE, am_lsubE, am_upO, am_upS, am_stS, am_stO, am_tnn, am_brl, am_brg, am_bre, am_brn, am_brG, am_brL, am_st1, am_no2, am_st2, am_clr]
  refine am_wp_pc (pc' := 1653) (if_pos trivial) ?_
  exact L_back ih hx hL hw s1 s2 hm (by omega) (by omega) hK

set_option maxRecDepth 20000 in
theorem L_byteAt (hw : wd sh R) (s1 : sh 1 = (32, L)) (s2 : sh 2 = (32, 36)) (hm : 161 ≤ m) (hm2 : m ≤ 161 + 21 * t) (hsl : sl ≤ lawS + 168 * t) (hc : cp X I) (hx : x + 6 ≤ L) (hL : L ≤ 3072) (hX : ∀ k, -2147483648 ≤ X k ∧ X k ≤ 2147483647) (ih : LH X L x t Q) : am_wp 1000 334 776 [some (.inr (.inr 1)), some (.inr (.inr 4)), some (.inr (.inr 124)), some (.inr (.inr 160)), some (.inl (x : Int)), z5, z6, z7] [] (m, sl, sh, I, R) Q := by
  have e1 : I 1 = X := hc.1.1
  refine am_wp_go rfl (by simp (disch := omega) only [s1, e1, am_tnA, am_tnM, Int.reduceToNat, am_addE, am_subE, am_mulE, am_laddE, am_lsubE, am_upO, am_upS, am_stS, am_stO, am_tnn, am_brl, am_brg, am_bre, am_brn, am_brG, am_brL, am_st1, am_no2, am_st2, am_clr, and_self, true_and, and_true, true_or, or_true, List.length_cons, List.length_nil] <;> omega) ?_
  try simp (disch := omega) only [s1, e1, am_tnA, am_tnM, Int.reduceToNat, am_addE, am_subE, am_mulE, am_laddE, am_lsubE, am_upO, am_upS, am_stS, am_stO, am_tnn, am_brl, am_brg, am_bre, am_brn, am_brG, am_brL, am_st1, am_no2, am_st2, am_clr]
  refine am_wp_cc rfl rfl rfl (congrArg Prod.fst (s4 hw)) (p_byteAt hw hc (fun J av j1 k => ⟨_, rfl, ?_⟩))
  have e1 : J 1 = X := by rw [j1]; exact e1
  refine am_wp_go rfl (by simp (disch := omega) only [s1, e1, am_tnA, am_tnM, Int.reduceToNat, am_addE, am_subE, am_mulE, am_laddE, am_lsubE, am_upO, am_upS, am_stS, am_stO, am_tnn, am_brl, am_brg, am_bre, am_brn, am_brG, am_brL, am_st1, am_no2, am_st2, am_clr, and_self, true_and, and_true, true_or, or_true, List.length_cons, List.length_nil] <;> omega) ?_
  try simp (disch := omega) only [s1, e1, am_tnA, am_tnM, Int.reduceToNat, am_addE, am_subE, am_mulE, am_laddE, am_lsubE, am_upO, am_upS, am_stS, am_stO, am_tnn, am_brl, am_brg, am_bre, am_brn, am_brG, am_brL, am_st1, am_no2, am_st2, am_clr]
  refine am_wp_cc rfl rfl rfl (congrArg Prod.fst (s124 hw)) (k _ (fun K hK => ⟨_, rfl, ?_⟩))
  refine am_wp_go rfl (by simp (disch := omega) only [am_tnA, am_tnM, Int.reduceToNat, am_addE, am_subE, am_mulE, am_laddE, am_lsubE, am_upO, am_upS, am_stS, am_stO, am_tnn, am_brl, am_brg, am_bre, am_brn, am_brG, am_brL, am_st1, am_no2, am_st2, am_clr, and_self, true_and, and_true, true_or, or_true, List.length_cons, List.length_nil] <;> omega) ?_
  try simp (disch := omega) only [am_tnA, am_tnM, Int.reduceToNat, am_addE, am_subE, am_mulE, am_laddE, am_lsubE, am_upO, am_upS, am_stS, am_stO, am_tnn, am_brl, am_brg, am_bre, am_brn, am_brG, am_brL, am_st1, am_no2, am_st2, am_clr]
  refine am_wp_pc (pc' := 1653) (if_pos trivial) ?_
  exact L_back ih hx hL hw s1 s2 hm (by omega) (by omega) hK

set_option maxRecDepth 20000 in
theorem L_several (hw : wd sh R) (s1 : sh 1 = (32, L)) (s2 : sh 2 = (32, 36)) (hm : 161 ≤ m) (hm2 : m ≤ 161 + 21 * t) (hsl : sl ≤ lawS + 168 * t) (hc : cp X I) (hx : x + 6 ≤ L) (hL : L ≤ 3072) (hX : ∀ k, -2147483648 ≤ X k ∧ X k ≤ 2147483647) (ih : LH X L x t Q) : am_wp 1000 334 801 [some (.inr (.inr 1)), some (.inr (.inr 4)), some (.inr (.inr 124)), some (.inr (.inr 160)), some (.inl (x : Int)), z5, z6, z7] [] (m, sl, sh, I, R) Q := by
  have e1 : I 1 = X := hc.1.1
  refine am_wp_go rfl (by simp (disch := omega) only [s1, e1, am_tnA, am_tnM, Int.reduceToNat, am_addE, am_subE, am_mulE, am_laddE, am_lsubE, am_upO, am_upS, am_stS, am_stO, am_tnn, am_brl, am_brg, am_bre, am_brn, am_brG, am_brL, am_st1, am_no2, am_st2, am_clr, and_self, true_and, and_true, true_or, or_true, List.length_cons, List.length_nil] <;> omega) ?_
  try simp (disch := omega) only [s1, e1, am_tnA, am_tnM, Int.reduceToNat, am_addE, am_subE, am_mulE, am_laddE, am_lsubE, am_upO, am_upS, am_stS, am_stO, am_tnn, am_brl, am_brg, am_bre, am_brn, am_brG, am_brL, am_st1, am_no2, am_st2, am_clr]
  refine am_wp_cc rfl rfl rfl (congrArg Prod.fst (s4 hw)) (p_several hw hc (fun J av j1 k => ⟨_, rfl, ?_⟩))
  have e1 : J 1 = X := by rw [j1]; exact e1
  refine am_wp_go rfl (by simp (disch := omega) only [s1, e1, am_tnA, am_tnM, Int.reduceToNat, am_addE, am_subE, am_mulE, am_laddE, am_lsubE, am_upO, am_upS, am_stS, am_stO, am_tnn, am_brl, am_brg, am_bre, am_brn, am_brG, am_brL, am_st1, am_no2, am_st2, am_clr, and_self, true_and, and_true, true_or, or_true, List.length_cons, List.length_nil] <;> omega) ?_
  try simp (disch := omega) only [s1, e1, am_tnA, am_tnM, Int.reduceToNat, am_addE, am_subE, am_mulE, am_laddE, am_lsubE, am_upO, am_upS, am_stS, am_stO, am_tnn, am_brl, am_brg, am_bre, am_brn, am_brG, am_brL, am_st1, am_no2, am_st2, am_clr]
  refine am_wp_cc rfl rfl rfl (congrArg Prod.fst (s124 hw)) (k _ (fun K hK => ⟨_, rfl, ?_⟩))
  refine am_wp_go rfl (by simp (disch := omega) only [am_tnA, am_tnM, Int.reduceToNat, am_addE, am_subE, am_mulE, am_laddE, am_lsubE, am_upO, am_upS, am_stS, am_stO, am_tnn, am_brl, am_brg, am_bre, am_brn, am_brG, am_brL, am_st1, am_no2, am_st2, am_clr, and_self, true_and, and_true, true_or, or_true, List.length_cons, List.length_nil] <;> omega) ?_
  try simp (disch := omega) only [am_tnA, am_tnM, Int.reduceToNat, am_addE, am_subE, am_mulE, am_laddE, am_lsubE, am_upO, am_upS, am_stS, am_stO, am_tnn, am_brl, am_brg, am_bre, am_brn, am_brG, am_brL, am_st1, am_no2, am_st2, am_clr]
  refine am_wp_pc (pc' := 1653) (if_pos trivial) ?_
  exact L_back ih hx hL hw s1 s2 hm (by omega) (by omega) hK

set_option maxRecDepth 20000 in
theorem L_one (hw : wd sh R) (s1 : sh 1 = (32, L)) (s2 : sh 2 = (32, 36)) (hm : 161 ≤ m) (hm2 : m ≤ 161 + 21 * t) (hsl : sl ≤ lawS + 168 * t) (hc : cp X I) (hx : x + 6 ≤ L) (hL : L ≤ 3072) (hX : ∀ k, -2147483648 ≤ X k ∧ X k ≤ 2147483647) (ih : LH X L x t Q) : am_wp 1000 334 814 [some (.inr (.inr 1)), some (.inr (.inr 4)), some (.inr (.inr 124)), some (.inr (.inr 160)), some (.inl (x : Int)), z5, z6, z7] [] (m, sl, sh, I, R) Q := by
  have e1 : I 1 = X := hc.1.1
  refine am_wp_go rfl (by simp (disch := omega) only [s1, e1, am_tnA, am_tnM, Int.reduceToNat, am_addE, am_subE, am_mulE, am_laddE, am_lsubE, am_upO, am_upS, am_stS, am_stO, am_tnn, am_brl, am_brg, am_bre, am_brn, am_brG, am_brL, am_st1, am_no2, am_st2, am_clr, and_self, true_and, and_true, true_or, or_true, List.length_cons, List.length_nil] <;> omega) ?_
  try simp (disch := omega) only [s1, e1, am_tnA, am_tnM, Int.reduceToNat, am_addE, am_subE, am_mulE, am_laddE, am_lsubE, am_upO, am_upS, am_stS, am_stO, am_tnn, am_brl, am_brg, am_bre, am_brn, am_brG, am_brL, am_st1, am_no2, am_st2, am_clr]
  refine am_wp_cc rfl rfl rfl (congrArg Prod.fst (s4 hw)) (p_one hw hc (fun J av j1 k => ⟨_, rfl, ?_⟩))
  have e1 : J 1 = X := by rw [j1]; exact e1
  refine am_wp_go rfl (by simp (disch := omega) only [s1, e1, am_tnA, am_tnM, Int.reduceToNat, am_addE, am_subE, am_mulE, am_laddE, am_lsubE, am_upO, am_upS, am_stS, am_stO, am_tnn, am_brl, am_brg, am_bre, am_brn, am_brG, am_brL, am_st1, am_no2, am_st2, am_clr, and_self, true_and, and_true, true_or, or_true, List.length_cons, List.length_nil] <;> omega) ?_
  try simp (disch := omega) only [s1, e1, am_tnA, am_tnM, Int.reduceToNat, am_addE, am_subE, am_mulE, am_laddE, am_lsubE, am_upO, am_upS, am_stS, am_stO, am_tnn, am_brl, am_brg, am_bre, am_brn, am_brG, am_brL, am_st1, am_no2, am_st2, am_clr]
  refine am_wp_cc rfl rfl rfl (congrArg Prod.fst (s124 hw)) (k _ (fun K hK => ⟨_, rfl, ?_⟩))
  refine am_wp_go rfl (by simp (disch := omega) only [am_tnA, am_tnM, Int.reduceToNat, am_addE, am_subE, am_mulE, am_laddE, am_lsubE, am_upO, am_upS, am_stS, am_stO, am_tnn, am_brl, am_brg, am_bre, am_brn, am_brG, am_brL, am_st1, am_no2, am_st2, am_clr, and_self, true_and, and_true, true_or, or_true, List.length_cons, List.length_nil] <;> omega) ?_
  try simp (disch := omega) only [am_tnA, am_tnM, Int.reduceToNat, am_addE, am_subE, am_mulE, am_laddE, am_lsubE, am_upO, am_upS, am_stS, am_stO, am_tnn, am_brl, am_brg, am_bre, am_brn, am_brG, am_brL, am_st1, am_no2, am_st2, am_clr]
  refine am_wp_pc (pc' := 1653) (if_pos trivial) ?_
  exact L_back ih hx hL hw s1 s2 hm (by omega) (by omega) hK

set_option maxRecDepth 20000 in
theorem L_masters (hw : wd sh R) (s1 : sh 1 = (32, L)) (s2 : sh 2 = (32, 36)) (hm : 161 ≤ m) (hm2 : m ≤ 161 + 21 * t) (hsl : sl ≤ lawS + 168 * t) (hc : cp X I) (hx : x + 6 ≤ L) (hL : L ≤ 3072) (hX : ∀ k, -2147483648 ≤ X k ∧ X k ≤ 2147483647) (ih : LH X L x t Q) : am_wp 1000 334 827 [some (.inr (.inr 1)), some (.inr (.inr 4)), some (.inr (.inr 124)), some (.inr (.inr 160)), some (.inl (x : Int)), z5, z6, z7] [] (m, sl, sh, I, R) Q := by
  have e1 : I 1 = X := hc.1.1
  refine am_wp_go rfl (by simp (disch := omega) only [s1, e1, am_tnA, am_tnM, Int.reduceToNat, am_addE, am_subE, am_mulE, am_laddE, am_lsubE, am_upO, am_upS, am_stS, am_stO, am_tnn, am_brl, am_brg, am_bre, am_brn, am_brG, am_brL, am_st1, am_no2, am_st2, am_clr, and_self, true_and, and_true, true_or, or_true, List.length_cons, List.length_nil] <;> omega) ?_
  try simp (disch := omega) only [s1, e1, am_tnA, am_tnM, Int.reduceToNat, am_addE, am_subE, am_mulE, am_laddE, am_lsubE, am_upO, am_upS, am_stS, am_stO, am_tnn, am_brl, am_brg, am_bre, am_brn, am_brG, am_brL, am_st1, am_no2, am_st2, am_clr]
  refine am_wp_cc rfl rfl rfl (congrArg Prod.fst (s4 hw)) (p_masters hw hc (fun J av j1 k => ⟨_, rfl, ?_⟩))
  have e1 : J 1 = X := by rw [j1]; exact e1
  refine am_wp_go rfl (by simp (disch := omega) only [s1, e1, am_tnA, am_tnM, Int.reduceToNat, am_addE, am_subE, am_mulE, am_laddE, am_lsubE, am_upO, am_upS, am_stS, am_stO, am_tnn, am_brl, am_brg, am_bre, am_brn, am_brG, am_brL, am_st1, am_no2, am_st2, am_clr, and_self, true_and, and_true, true_or, or_true, List.length_cons, List.length_nil] <;> omega) ?_
  try simp (disch := omega) only [s1, e1, am_tnA, am_tnM, Int.reduceToNat, am_addE, am_subE, am_mulE, am_laddE, am_lsubE, am_upO, am_upS, am_stS, am_stO, am_tnn, am_brl, am_brg, am_bre, am_brn, am_brG, am_brL, am_st1, am_no2, am_st2, am_clr]
  refine am_wp_cc rfl rfl rfl (congrArg Prod.fst (s124 hw)) (k _ (fun K hK => ⟨_, rfl, ?_⟩))
  refine am_wp_go rfl (by simp (disch := omega) only [am_tnA, am_tnM, Int.reduceToNat, am_addE, am_subE, am_mulE, am_laddE, am_lsubE, am_upO, am_upS, am_stS, am_stO, am_tnn, am_brl, am_brg, am_bre, am_brn, am_brG, am_brL, am_st1, am_no2, am_st2, am_clr, and_self, true_and, and_true, true_or, or_true, List.length_cons, List.length_nil] <;> omega) ?_
  try simp (disch := omega) only [am_tnA, am_tnM, Int.reduceToNat, am_addE, am_subE, am_mulE, am_laddE, am_lsubE, am_upO, am_upS, am_stS, am_stO, am_tnn, am_brl, am_brg, am_bre, am_brn, am_brG, am_brL, am_st1, am_no2, am_st2, am_clr]
  refine am_wp_pc (pc' := 1653) (if_pos trivial) ?_
  exact L_back ih hx hL hw s1 s2 hm (by omega) (by omega) hK

set_option maxRecDepth 20000 in
theorem L_cook (hw : wd sh R) (s1 : sh 1 = (32, L)) (s2 : sh 2 = (32, 36)) (hm : 161 ≤ m) (hm2 : m ≤ 161 + 21 * t) (hsl : sl ≤ lawS + 168 * t) (hc : cp X I) (hx : x + 6 ≤ L) (hL : L ≤ 3072) (hX : ∀ k, -2147483648 ≤ X k ∧ X k ≤ 2147483647) (ih : LH X L x t Q) : am_wp 1000 334 840 [some (.inr (.inr 1)), some (.inr (.inr 4)), some (.inr (.inr 124)), some (.inr (.inr 160)), some (.inl (x : Int)), z5, z6, z7] [] (m, sl, sh, I, R) Q := by
  have e1 : I 1 = X := hc.1.1
  refine am_wp_go rfl (by simp (disch := omega) only [s1, e1, am_tnA, am_tnM, Int.reduceToNat, am_addE, am_subE, am_mulE, am_laddE, am_lsubE, am_upO, am_upS, am_stS, am_stO, am_tnn, am_brl, am_brg, am_bre, am_brn, am_brG, am_brL, am_st1, am_no2, am_st2, am_clr, and_self, true_and, and_true, true_or, or_true, List.length_cons, List.length_nil] <;> omega) ?_
  try simp (disch := omega) only [s1, e1, am_tnA, am_tnM, Int.reduceToNat, am_addE, am_subE, am_mulE, am_laddE, am_lsubE, am_upO, am_upS, am_stS, am_stO, am_tnn, am_brl, am_brg, am_bre, am_brn, am_brG, am_brL, am_st1, am_no2, am_st2, am_clr]
  refine am_wp_cc rfl rfl rfl (congrArg Prod.fst (s4 hw)) (p_cook hw hc (fun J av j1 k => ⟨_, rfl, ?_⟩))
  have e1 : J 1 = X := by rw [j1]; exact e1
  refine am_wp_go rfl (by simp (disch := omega) only [s1, e1, am_tnA, am_tnM, Int.reduceToNat, am_addE, am_subE, am_mulE, am_laddE, am_lsubE, am_upO, am_upS, am_stS, am_stO, am_tnn, am_brl, am_brg, am_bre, am_brn, am_brG, am_brL, am_st1, am_no2, am_st2, am_clr, and_self, true_and, and_true, true_or, or_true, List.length_cons, List.length_nil] <;> omega) ?_
  try simp (disch := omega) only [s1, e1, am_tnA, am_tnM, Int.reduceToNat, am_addE, am_subE, am_mulE, am_laddE, am_lsubE, am_upO, am_upS, am_stS, am_stO, am_tnn, am_brl, am_brg, am_bre, am_brn, am_brG, am_brL, am_st1, am_no2, am_st2, am_clr]
  refine am_wp_cc rfl rfl rfl (congrArg Prod.fst (s124 hw)) (k _ (fun K hK => ⟨_, rfl, ?_⟩))
  refine am_wp_go rfl (by simp (disch := omega) only [am_tnA, am_tnM, Int.reduceToNat, am_addE, am_subE, am_mulE, am_laddE, am_lsubE, am_upO, am_upS, am_stS, am_stO, am_tnn, am_brl, am_brg, am_bre, am_brn, am_brG, am_brL, am_st1, am_no2, am_st2, am_clr, and_self, true_and, and_true, true_or, or_true, List.length_cons, List.length_nil] <;> omega) ?_
  try simp (disch := omega) only [am_tnA, am_tnM, Int.reduceToNat, am_addE, am_subE, am_mulE, am_laddE, am_lsubE, am_upO, am_upS, am_stS, am_stO, am_tnn, am_brl, am_brg, am_bre, am_brn, am_brG, am_brL, am_st1, am_no2, am_st2, am_clr]
  refine am_wp_pc (pc' := 1653) (if_pos trivial) ?_
  exact L_back ih hx hL hw s1 s2 hm (by omega) (by omega) hK

set_option maxRecDepth 20000 in
theorem L_best (hw : wd sh R) (s1 : sh 1 = (32, L)) (s2 : sh 2 = (32, 36)) (hm : 161 ≤ m) (hm2 : m ≤ 161 + 21 * t) (hsl : sl ≤ lawS + 168 * t) (hc : cp X I) (hx : x + 6 ≤ L) (hL : L ≤ 3072) (hX : ∀ k, -2147483648 ≤ X k ∧ X k ≤ 2147483647) (ih : LH X L x t Q) : am_wp 1000 334 865 [some (.inr (.inr 1)), some (.inr (.inr 4)), some (.inr (.inr 124)), some (.inr (.inr 160)), some (.inl (x : Int)), z5, z6, z7] [] (m, sl, sh, I, R) Q := by
  have e1 : I 1 = X := hc.1.1
  refine am_wp_go rfl (by simp (disch := omega) only [s1, e1, am_tnA, am_tnM, Int.reduceToNat, am_addE, am_subE, am_mulE, am_laddE, am_lsubE, am_upO, am_upS, am_stS, am_stO, am_tnn, am_brl, am_brg, am_bre, am_brn, am_brG, am_brL, am_st1, am_no2, am_st2, am_clr, and_self, true_and, and_true, true_or, or_true, List.length_cons, List.length_nil] <;> omega) ?_
  try simp (disch := omega) only [s1, e1, am_tnA, am_tnM, Int.reduceToNat, am_addE, am_subE, am_mulE, am_laddE, am_lsubE, am_upO, am_upS, am_stS, am_stO, am_tnn, am_brl, am_brg, am_bre, am_brn, am_brG, am_brL, am_st1, am_no2, am_st2, am_clr]
  refine am_wp_cc rfl rfl rfl (congrArg Prod.fst (s4 hw)) (p_best hw hc (fun J av j1 k => ⟨_, rfl, ?_⟩))
  have e1 : J 1 = X := by rw [j1]; exact e1
  refine am_wp_go rfl (by simp (disch := omega) only [s1, e1, am_tnA, am_tnM, Int.reduceToNat, am_addE, am_subE, am_mulE, am_laddE, am_lsubE, am_upO, am_upS, am_stS, am_stO, am_tnn, am_brl, am_brg, am_bre, am_brn, am_brG, am_brL, am_st1, am_no2, am_st2, am_clr, and_self, true_and, and_true, true_or, or_true, List.length_cons, List.length_nil] <;> omega) ?_
  try simp (disch := omega) only [s1, e1, am_tnA, am_tnM, Int.reduceToNat, am_addE, am_subE, am_mulE, am_laddE, am_lsubE, am_upO, am_upS, am_stS, am_stO, am_tnn, am_brl, am_brg, am_bre, am_brn, am_brG, am_brL, am_st1, am_no2, am_st2, am_clr]
  refine am_wp_cc rfl rfl rfl (congrArg Prod.fst (s124 hw)) (k _ (fun K hK => ⟨_, rfl, ?_⟩))
  refine am_wp_go rfl (by simp (disch := omega) only [am_tnA, am_tnM, Int.reduceToNat, am_addE, am_subE, am_mulE, am_laddE, am_lsubE, am_upO, am_upS, am_stS, am_stO, am_tnn, am_brl, am_brg, am_bre, am_brn, am_brG, am_brL, am_st1, am_no2, am_st2, am_clr, and_self, true_and, and_true, true_or, or_true, List.length_cons, List.length_nil] <;> omega) ?_
  try simp (disch := omega) only [am_tnA, am_tnM, Int.reduceToNat, am_addE, am_subE, am_mulE, am_laddE, am_lsubE, am_upO, am_upS, am_stS, am_stO, am_tnn, am_brl, am_brg, am_bre, am_brn, am_brG, am_brL, am_st1, am_no2, am_st2, am_clr]
  refine am_wp_pc (pc' := 1653) (if_pos trivial) ?_
  exact L_back ih hx hL hw s1 s2 hm (by omega) (by omega) hK

set_option maxRecDepth 20000 in
theorem L_bound (hw : wd sh R) (s1 : sh 1 = (32, L)) (s2 : sh 2 = (32, 36)) (hm : 161 ≤ m) (hm2 : m ≤ 161 + 21 * t) (hsl : sl ≤ lawS + 168 * t) (hc : cp X I) (hx : x + 6 ≤ L) (hL : L ≤ 3072) (hX : ∀ k, -2147483648 ≤ X k ∧ X k ≤ 2147483647) (ih : LH X L x t Q) : am_wp 1000 334 878 [some (.inr (.inr 1)), some (.inr (.inr 4)), some (.inr (.inr 124)), some (.inr (.inr 160)), some (.inl (x : Int)), z5, z6, z7] [] (m, sl, sh, I, R) Q := by
  have e1 : I 1 = X := hc.1.1
  refine am_wp_go rfl (by simp (disch := omega) only [s1, e1, am_tnA, am_tnM, Int.reduceToNat, am_addE, am_subE, am_mulE, am_laddE, am_lsubE, am_upO, am_upS, am_stS, am_stO, am_tnn, am_brl, am_brg, am_bre, am_brn, am_brG, am_brL, am_st1, am_no2, am_st2, am_clr, and_self, true_and, and_true, true_or, or_true, List.length_cons, List.length_nil] <;> omega) ?_
  try simp (disch := omega) only [s1, e1, am_tnA, am_tnM, Int.reduceToNat, am_addE, am_subE, am_mulE, am_laddE, am_lsubE, am_upO, am_upS, am_stS, am_stO, am_tnn, am_brl, am_brg, am_bre, am_brn, am_brG, am_brL, am_st1, am_no2, am_st2, am_clr]
  refine am_wp_cc rfl rfl rfl (congrArg Prod.fst (s4 hw)) (p_bound hw hc (fun J av j1 k => ⟨_, rfl, ?_⟩))
  have e1 : J 1 = X := by rw [j1]; exact e1
  refine am_wp_go rfl (by simp (disch := omega) only [s1, e1, am_tnA, am_tnM, Int.reduceToNat, am_addE, am_subE, am_mulE, am_laddE, am_lsubE, am_upO, am_upS, am_stS, am_stO, am_tnn, am_brl, am_brg, am_bre, am_brn, am_brG, am_brL, am_st1, am_no2, am_st2, am_clr, and_self, true_and, and_true, true_or, or_true, List.length_cons, List.length_nil] <;> omega) ?_
  try simp (disch := omega) only [s1, e1, am_tnA, am_tnM, Int.reduceToNat, am_addE, am_subE, am_mulE, am_laddE, am_lsubE, am_upO, am_upS, am_stS, am_stO, am_tnn, am_brl, am_brg, am_bre, am_brn, am_brG, am_brL, am_st1, am_no2, am_st2, am_clr]
  refine am_wp_cc rfl rfl rfl (congrArg Prod.fst (s124 hw)) (k _ (fun K hK => ⟨_, rfl, ?_⟩))
  refine am_wp_go rfl (by simp (disch := omega) only [am_tnA, am_tnM, Int.reduceToNat, am_addE, am_subE, am_mulE, am_laddE, am_lsubE, am_upO, am_upS, am_stS, am_stO, am_tnn, am_brl, am_brg, am_bre, am_brn, am_brG, am_brL, am_st1, am_no2, am_st2, am_clr, and_self, true_and, and_true, true_or, or_true, List.length_cons, List.length_nil] <;> omega) ?_
  try simp (disch := omega) only [am_tnA, am_tnM, Int.reduceToNat, am_addE, am_subE, am_mulE, am_laddE, am_lsubE, am_upO, am_upS, am_stS, am_stO, am_tnn, am_brl, am_brg, am_bre, am_brn, am_brG, am_brL, am_st1, am_no2, am_st2, am_clr]
  refine am_wp_pc (pc' := 1653) (if_pos trivial) ?_
  exact L_back ih hx hL hw s1 s2 hm (by omega) (by omega) hK

set_option maxRecDepth 20000 in
theorem L_add (hw : wd sh R) (s1 : sh 1 = (32, L)) (s2 : sh 2 = (32, 36)) (hm : 161 ≤ m) (hm2 : m ≤ 161 + 21 * t) (hsl : sl ≤ lawS + 168 * t) (hc : cp X I) (hx : x + 6 ≤ L) (hL : L ≤ 3072) (hX : ∀ k, -2147483648 ≤ X k ∧ X k ≤ 2147483647) (ih : LH X L x t Q) : am_wp 1000 334 903 [some (.inr (.inr 1)), some (.inr (.inr 4)), some (.inr (.inr 124)), some (.inr (.inr 160)), some (.inl (x : Int)), z5, z6, z7] [] (m, sl, sh, I, R) Q := by
  have e1 : I 1 = X := hc.1.1
  refine am_wp_go rfl (by simp (disch := omega) only [s1, e1, am_tnA, am_tnM, Int.reduceToNat, am_addE, am_subE, am_mulE, am_laddE, am_lsubE, am_upO, am_upS, am_stS, am_stO, am_tnn, am_brl, am_brg, am_bre, am_brn, am_brG, am_brL, am_st1, am_no2, am_st2, am_clr, and_self, true_and, and_true, true_or, or_true, List.length_cons, List.length_nil] <;> omega) ?_
  try simp (disch := omega) only [s1, e1, am_tnA, am_tnM, Int.reduceToNat, am_addE, am_subE, am_mulE, am_laddE, am_lsubE, am_upO, am_upS, am_stS, am_stO, am_tnn, am_brl, am_brg, am_bre, am_brn, am_brG, am_brL, am_st1, am_no2, am_st2, am_clr]
  refine am_wp_cc rfl rfl rfl (congrArg Prod.fst (s4 hw)) (p_add hw hc (fun J av j1 k => ⟨_, rfl, ?_⟩))
  have e1 : J 1 = X := by rw [j1]; exact e1
  refine am_wp_go rfl (by simp (disch := omega) only [s1, e1, am_tnA, am_tnM, Int.reduceToNat, am_addE, am_subE, am_mulE, am_laddE, am_lsubE, am_upO, am_upS, am_stS, am_stO, am_tnn, am_brl, am_brg, am_bre, am_brn, am_brG, am_brL, am_st1, am_no2, am_st2, am_clr, and_self, true_and, and_true, true_or, or_true, List.length_cons, List.length_nil] <;> omega) ?_
  try simp (disch := omega) only [s1, e1, am_tnA, am_tnM, Int.reduceToNat, am_addE, am_subE, am_mulE, am_laddE, am_lsubE, am_upO, am_upS, am_stS, am_stO, am_tnn, am_brl, am_brg, am_bre, am_brn, am_brG, am_brL, am_st1, am_no2, am_st2, am_clr]
  refine am_wp_cc rfl rfl rfl (congrArg Prod.fst (s124 hw)) (k _ (fun K hK => ⟨_, rfl, ?_⟩))
  refine am_wp_go rfl (by simp (disch := omega) only [am_tnA, am_tnM, Int.reduceToNat, am_addE, am_subE, am_mulE, am_laddE, am_lsubE, am_upO, am_upS, am_stS, am_stO, am_tnn, am_brl, am_brg, am_bre, am_brn, am_brG, am_brL, am_st1, am_no2, am_st2, am_clr, and_self, true_and, and_true, true_or, or_true, List.length_cons, List.length_nil] <;> omega) ?_
  try simp (disch := omega) only [am_tnA, am_tnM, Int.reduceToNat, am_addE, am_subE, am_mulE, am_laddE, am_lsubE, am_upO, am_upS, am_stS, am_stO, am_tnn, am_brl, am_brg, am_bre, am_brn, am_brG, am_brL, am_st1, am_no2, am_st2, am_clr]
  refine am_wp_pc (pc' := 1653) (if_pos trivial) ?_
  exact L_back ih hx hL hw s1 s2 hm (by omega) (by omega) hK

set_option maxRecDepth 20000 in
theorem L_drop (hw : wd sh R) (s1 : sh 1 = (32, L)) (s2 : sh 2 = (32, 36)) (hm : 161 ≤ m) (hm2 : m ≤ 161 + 21 * t) (hsl : sl ≤ lawS + 168 * t) (hc : cp X I) (hx : x + 6 ≤ L) (hL : L ≤ 3072) (hX : ∀ k, -2147483648 ≤ X k ∧ X k ≤ 2147483647) (ih : LH X L x t Q) : am_wp 1000 334 976 [some (.inr (.inr 1)), some (.inr (.inr 4)), some (.inr (.inr 124)), some (.inr (.inr 160)), some (.inl (x : Int)), z5, z6, z7] [] (m, sl, sh, I, R) Q := by
  have e1 : I 1 = X := hc.1.1
  refine am_wp_go rfl (by simp (disch := omega) only [s1, e1, am_tnA, am_tnM, Int.reduceToNat, am_addE, am_subE, am_mulE, am_laddE, am_lsubE, am_upO, am_upS, am_stS, am_stO, am_tnn, am_brl, am_brg, am_bre, am_brn, am_brG, am_brL, am_st1, am_no2, am_st2, am_clr, and_self, true_and, and_true, true_or, or_true, List.length_cons, List.length_nil] <;> omega) ?_
  try simp (disch := omega) only [s1, e1, am_tnA, am_tnM, Int.reduceToNat, am_addE, am_subE, am_mulE, am_laddE, am_lsubE, am_upO, am_upS, am_stS, am_stO, am_tnn, am_brl, am_brg, am_bre, am_brn, am_brG, am_brL, am_st1, am_no2, am_st2, am_clr]
  refine am_wp_cc rfl rfl rfl (congrArg Prod.fst (s4 hw)) (p_drop hw hc (fun J av j1 k => ⟨_, rfl, ?_⟩))
  have e1 : J 1 = X := by rw [j1]; exact e1
  refine am_wp_go rfl (by simp (disch := omega) only [s1, e1, am_tnA, am_tnM, Int.reduceToNat, am_addE, am_subE, am_mulE, am_laddE, am_lsubE, am_upO, am_upS, am_stS, am_stO, am_tnn, am_brl, am_brg, am_bre, am_brn, am_brG, am_brL, am_st1, am_no2, am_st2, am_clr, and_self, true_and, and_true, true_or, or_true, List.length_cons, List.length_nil] <;> omega) ?_
  try simp (disch := omega) only [s1, e1, am_tnA, am_tnM, Int.reduceToNat, am_addE, am_subE, am_mulE, am_laddE, am_lsubE, am_upO, am_upS, am_stS, am_stO, am_tnn, am_brl, am_brg, am_bre, am_brn, am_brG, am_brL, am_st1, am_no2, am_st2, am_clr]
  refine am_wp_cc rfl rfl rfl (congrArg Prod.fst (s124 hw)) (k _ (fun K hK => ⟨_, rfl, ?_⟩))
  refine am_wp_go rfl (by simp (disch := omega) only [am_tnA, am_tnM, Int.reduceToNat, am_addE, am_subE, am_mulE, am_laddE, am_lsubE, am_upO, am_upS, am_stS, am_stO, am_tnn, am_brl, am_brg, am_bre, am_brn, am_brG, am_brL, am_st1, am_no2, am_st2, am_clr, and_self, true_and, and_true, true_or, or_true, List.length_cons, List.length_nil] <;> omega) ?_
  try simp (disch := omega) only [am_tnA, am_tnM, Int.reduceToNat, am_addE, am_subE, am_mulE, am_laddE, am_lsubE, am_upO, am_upS, am_stS, am_stO, am_tnn, am_brl, am_brg, am_bre, am_brn, am_brG, am_brL, am_st1, am_no2, am_st2, am_clr]
  refine am_wp_pc (pc' := 1653) (if_pos trivial) ?_
  exact L_back ih hx hL hw s1 s2 hm (by omega) (by omega) hK

set_option maxRecDepth 20000 in
theorem L_later (hw : wd sh R) (s1 : sh 1 = (32, L)) (s2 : sh 2 = (32, 36)) (hm : 161 ≤ m) (hm2 : m ≤ 161 + 21 * t) (hsl : sl ≤ lawS + 168 * t) (hc : cp X I) (hx : x + 6 ≤ L) (hL : L ≤ 3072) (hX : ∀ k, -2147483648 ≤ X k ∧ X k ≤ 2147483647) (ih : LH X L x t Q) : am_wp 1000 334 1001 [some (.inr (.inr 1)), some (.inr (.inr 4)), some (.inr (.inr 124)), some (.inr (.inr 160)), some (.inl (x : Int)), z5, z6, z7] [] (m, sl, sh, I, R) Q := by
  have e1 : I 1 = X := hc.1.1
  refine am_wp_go rfl (by simp (disch := omega) only [s1, e1, am_tnA, am_tnM, Int.reduceToNat, am_addE, am_subE, am_mulE, am_laddE, am_lsubE, am_upO, am_upS, am_stS, am_stO, am_tnn, am_brl, am_brg, am_bre, am_brn, am_brG, am_brL, am_st1, am_no2, am_st2, am_clr, and_self, true_and, and_true, true_or, or_true, List.length_cons, List.length_nil] <;> omega) ?_
  try simp (disch := omega) only [s1, e1, am_tnA, am_tnM, Int.reduceToNat, am_addE, am_subE, am_mulE, am_laddE, am_lsubE, am_upO, am_upS, am_stS, am_stO, am_tnn, am_brl, am_brg, am_bre, am_brn, am_brG, am_brL, am_st1, am_no2, am_st2, am_clr]
  refine am_wp_cc rfl rfl rfl (congrArg Prod.fst (s4 hw)) (p_later hw hc (hX _) (fun J av j1 k => ⟨_, rfl, ?_⟩))
  have e1 : J 1 = X := by rw [j1]; exact e1
  refine am_wp_go rfl (by simp (disch := omega) only [s1, e1, am_tnA, am_tnM, Int.reduceToNat, am_addE, am_subE, am_mulE, am_laddE, am_lsubE, am_upO, am_upS, am_stS, am_stO, am_tnn, am_brl, am_brg, am_bre, am_brn, am_brG, am_brL, am_st1, am_no2, am_st2, am_clr, and_self, true_and, and_true, true_or, or_true, List.length_cons, List.length_nil] <;> omega) ?_
  try simp (disch := omega) only [s1, e1, am_tnA, am_tnM, Int.reduceToNat, am_addE, am_subE, am_mulE, am_laddE, am_lsubE, am_upO, am_upS, am_stS, am_stO, am_tnn, am_brl, am_brg, am_bre, am_brn, am_brG, am_brL, am_st1, am_no2, am_st2, am_clr]
  refine am_wp_cc rfl rfl rfl (congrArg Prod.fst (s124 hw)) (k _ (fun K hK => ⟨_, rfl, ?_⟩))
  refine am_wp_go rfl (by simp (disch := omega) only [am_tnA, am_tnM, Int.reduceToNat, am_addE, am_subE, am_mulE, am_laddE, am_lsubE, am_upO, am_upS, am_stS, am_stO, am_tnn, am_brl, am_brg, am_bre, am_brn, am_brG, am_brL, am_st1, am_no2, am_st2, am_clr, and_self, true_and, and_true, true_or, or_true, List.length_cons, List.length_nil] <;> omega) ?_
  try simp (disch := omega) only [am_tnA, am_tnM, Int.reduceToNat, am_addE, am_subE, am_mulE, am_laddE, am_lsubE, am_upO, am_upS, am_stS, am_stO, am_tnn, am_brl, am_brg, am_bre, am_brn, am_brG, am_brL, am_st1, am_no2, am_st2, am_clr]
  refine am_wp_pc (pc' := 1653) (if_pos trivial) ?_
  exact L_back ih hx hL hw s1 s2 hm (by omega) (by omega) hK

set_option maxRecDepth 20000 in
theorem L_early (hw : wd sh R) (s1 : sh 1 = (32, L)) (s2 : sh 2 = (32, 36)) (hm : 161 ≤ m) (hm2 : m ≤ 161 + 21 * t) (hsl : sl ≤ lawS + 168 * t) (hc : cp X I) (hx : x + 6 ≤ L) (hL : L ≤ 3072) (hX : ∀ k, -2147483648 ≤ X k ∧ X k ≤ 2147483647) (ih : LH X L x t Q) : am_wp 1000 334 1038 [some (.inr (.inr 1)), some (.inr (.inr 4)), some (.inr (.inr 124)), some (.inr (.inr 160)), some (.inl (x : Int)), z5, z6, z7] [] (m, sl, sh, I, R) Q := by
  have e1 : I 1 = X := hc.1.1
  refine am_wp_go rfl (by simp (disch := omega) only [s1, e1, am_tnA, am_tnM, Int.reduceToNat, am_addE, am_subE, am_mulE, am_laddE, am_lsubE, am_upO, am_upS, am_stS, am_stO, am_tnn, am_brl, am_brg, am_bre, am_brn, am_brG, am_brL, am_st1, am_no2, am_st2, am_clr, and_self, true_and, and_true, true_or, or_true, List.length_cons, List.length_nil] <;> omega) ?_
  try simp (disch := omega) only [s1, e1, am_tnA, am_tnM, Int.reduceToNat, am_addE, am_subE, am_mulE, am_laddE, am_lsubE, am_upO, am_upS, am_stS, am_stO, am_tnn, am_brl, am_brg, am_bre, am_brn, am_brG, am_brL, am_st1, am_no2, am_st2, am_clr]
  refine am_wp_cc rfl rfl rfl (congrArg Prod.fst (s4 hw)) (p_early hw hc (fun J av j1 k => ⟨_, rfl, ?_⟩))
  have e1 : J 1 = X := by rw [j1]; exact e1
  refine am_wp_go rfl (by simp (disch := omega) only [s1, e1, am_tnA, am_tnM, Int.reduceToNat, am_addE, am_subE, am_mulE, am_laddE, am_lsubE, am_upO, am_upS, am_stS, am_stO, am_tnn, am_brl, am_brg, am_bre, am_brn, am_brG, am_brL, am_st1, am_no2, am_st2, am_clr, and_self, true_and, and_true, true_or, or_true, List.length_cons, List.length_nil] <;> omega) ?_
  try simp (disch := omega) only [s1, e1, am_tnA, am_tnM, Int.reduceToNat, am_addE, am_subE, am_mulE, am_laddE, am_lsubE, am_upO, am_upS, am_stS, am_stO, am_tnn, am_brl, am_brg, am_bre, am_brn, am_brG, am_brL, am_st1, am_no2, am_st2, am_clr]
  refine am_wp_cc rfl rfl rfl (congrArg Prod.fst (s124 hw)) (k _ (fun K hK => ⟨_, rfl, ?_⟩))
  refine am_wp_go rfl (by simp (disch := omega) only [am_tnA, am_tnM, Int.reduceToNat, am_addE, am_subE, am_mulE, am_laddE, am_lsubE, am_upO, am_upS, am_stS, am_stO, am_tnn, am_brl, am_brg, am_bre, am_brn, am_brG, am_brL, am_st1, am_no2, am_st2, am_clr, and_self, true_and, and_true, true_or, or_true, List.length_cons, List.length_nil] <;> omega) ?_
  try simp (disch := omega) only [am_tnA, am_tnM, Int.reduceToNat, am_addE, am_subE, am_mulE, am_laddE, am_lsubE, am_upO, am_upS, am_stS, am_stO, am_tnn, am_brl, am_brg, am_bre, am_brn, am_brG, am_brL, am_st1, am_no2, am_st2, am_clr]
  refine am_wp_pc (pc' := 1653) (if_pos trivial) ?_
  exact L_back ih hx hL hw s1 s2 hm (by omega) (by omega) hK

set_option maxRecDepth 20000 in
theorem L_undo (hw : wd sh R) (s1 : sh 1 = (32, L)) (s2 : sh 2 = (32, 36)) (hm : 161 ≤ m) (hm2 : m ≤ 161 + 21 * t) (hsl : sl ≤ lawS + 168 * t) (hc : cp X I) (hx : x + 6 ≤ L) (hL : L ≤ 3072) (hX : ∀ k, -2147483648 ≤ X k ∧ X k ≤ 2147483647) (ih : LH X L x t Q) : am_wp 1000 334 1051 [some (.inr (.inr 1)), some (.inr (.inr 4)), some (.inr (.inr 124)), some (.inr (.inr 160)), some (.inl (x : Int)), z5, z6, z7] [] (m, sl, sh, I, R) Q := by
  have e1 : I 1 = X := hc.1.1
  refine am_wp_go rfl (by simp (disch := omega) only [s1, e1, am_tnA, am_tnM, Int.reduceToNat, am_addE, am_subE, am_mulE, am_laddE, am_lsubE, am_upO, am_upS, am_stS, am_stO, am_tnn, am_brl, am_brg, am_bre, am_brn, am_brG, am_brL, am_st1, am_no2, am_st2, am_clr, and_self, true_and, and_true, true_or, or_true, List.length_cons, List.length_nil] <;> omega) ?_
  try simp (disch := omega) only [s1, e1, am_tnA, am_tnM, Int.reduceToNat, am_addE, am_subE, am_mulE, am_laddE, am_lsubE, am_upO, am_upS, am_stS, am_stO, am_tnn, am_brl, am_brg, am_bre, am_brn, am_brG, am_brL, am_st1, am_no2, am_st2, am_clr]
  refine am_wp_cc rfl rfl rfl (congrArg Prod.fst (s4 hw)) (p_undo hw hc (fun J av j1 k => ⟨_, rfl, ?_⟩))
  have e1 : J 1 = X := by rw [j1]; exact e1
  refine am_wp_go rfl (by simp (disch := omega) only [s1, e1, am_tnA, am_tnM, Int.reduceToNat, am_addE, am_subE, am_mulE, am_laddE, am_lsubE, am_upO, am_upS, am_stS, am_stO, am_tnn, am_brl, am_brg, am_bre, am_brn, am_brG, am_brL, am_st1, am_no2, am_st2, am_clr, and_self, true_and, and_true, true_or, or_true, List.length_cons, List.length_nil] <;> omega) ?_
  try simp (disch := omega) only [s1, e1, am_tnA, am_tnM, Int.reduceToNat, am_addE, am_subE, am_mulE, am_laddE, am_lsubE, am_upO, am_upS, am_stS, am_stO, am_tnn, am_brl, am_brg, am_bre, am_brn, am_brG, am_brL, am_st1, am_no2, am_st2, am_clr]
  refine am_wp_cc rfl rfl rfl (congrArg Prod.fst (s124 hw)) (k _ (fun K hK => ⟨_, rfl, ?_⟩))
  refine am_wp_go rfl (by simp (disch := omega) only [am_tnA, am_tnM, Int.reduceToNat, am_addE, am_subE, am_mulE, am_laddE, am_lsubE, am_upO, am_upS, am_stS, am_stO, am_tnn, am_brl, am_brg, am_bre, am_brn, am_brG, am_brL, am_st1, am_no2, am_st2, am_clr, and_self, true_and, and_true, true_or, or_true, List.length_cons, List.length_nil] <;> omega) ?_
  try simp (disch := omega) only [am_tnA, am_tnM, Int.reduceToNat, am_addE, am_subE, am_mulE, am_laddE, am_lsubE, am_upO, am_upS, am_stS, am_stO, am_tnn, am_brl, am_brg, am_bre, am_brn, am_brG, am_brL, am_st1, am_no2, am_st2, am_clr]
  refine am_wp_pc (pc' := 1653) (if_pos trivial) ?_
  exact L_back ih hx hL hw s1 s2 hm (by omega) (by omega) hK

set_option maxRecDepth 20000 in
theorem L_idle (hw : wd sh R) (s1 : sh 1 = (32, L)) (s2 : sh 2 = (32, 36)) (hm : 161 ≤ m) (hm2 : m ≤ 161 + 21 * t) (hsl : sl ≤ lawS + 168 * t) (hc : cp X I) (hx : x + 6 ≤ L) (hL : L ≤ 3072) (hX : ∀ k, -2147483648 ≤ X k ∧ X k ≤ 2147483647) (ih : LH X L x t Q) : am_wp 1000 334 1064 [some (.inr (.inr 1)), some (.inr (.inr 4)), some (.inr (.inr 124)), some (.inr (.inr 160)), some (.inl (x : Int)), z5, z6, z7] [] (m, sl, sh, I, R) Q := by
  have e1 : I 1 = X := hc.1.1
  refine am_wp_go rfl (by simp (disch := omega) only [s1, e1, am_tnA, am_tnM, Int.reduceToNat, am_addE, am_subE, am_mulE, am_laddE, am_lsubE, am_upO, am_upS, am_stS, am_stO, am_tnn, am_brl, am_brg, am_bre, am_brn, am_brG, am_brL, am_st1, am_no2, am_st2, am_clr, and_self, true_and, and_true, true_or, or_true, List.length_cons, List.length_nil] <;> omega) ?_
  try simp (disch := omega) only [s1, e1, am_tnA, am_tnM, Int.reduceToNat, am_addE, am_subE, am_mulE, am_laddE, am_lsubE, am_upO, am_upS, am_stS, am_stO, am_tnn, am_brl, am_brg, am_bre, am_brn, am_brG, am_brL, am_st1, am_no2, am_st2, am_clr]
  refine am_wp_cc rfl rfl rfl (congrArg Prod.fst (s4 hw)) (p_idle hw hc (fun J av j1 k => ⟨_, rfl, ?_⟩))
  have e1 : J 1 = X := by rw [j1]; exact e1
  refine am_wp_go rfl (by simp (disch := omega) only [s1, e1, am_tnA, am_tnM, Int.reduceToNat, am_addE, am_subE, am_mulE, am_laddE, am_lsubE, am_upO, am_upS, am_stS, am_stO, am_tnn, am_brl, am_brg, am_bre, am_brn, am_brG, am_brL, am_st1, am_no2, am_st2, am_clr, and_self, true_and, and_true, true_or, or_true, List.length_cons, List.length_nil] <;> omega) ?_
  try simp (disch := omega) only [s1, e1, am_tnA, am_tnM, Int.reduceToNat, am_addE, am_subE, am_mulE, am_laddE, am_lsubE, am_upO, am_upS, am_stS, am_stO, am_tnn, am_brl, am_brg, am_bre, am_brn, am_brG, am_brL, am_st1, am_no2, am_st2, am_clr]
  refine am_wp_cc rfl rfl rfl (congrArg Prod.fst (s124 hw)) (k _ (fun K hK => ⟨_, rfl, ?_⟩))
  refine am_wp_go rfl (by simp (disch := omega) only [am_tnA, am_tnM, Int.reduceToNat, am_addE, am_subE, am_mulE, am_laddE, am_lsubE, am_upO, am_upS, am_stS, am_stO, am_tnn, am_brl, am_brg, am_bre, am_brn, am_brG, am_brL, am_st1, am_no2, am_st2, am_clr, and_self, true_and, and_true, true_or, or_true, List.length_cons, List.length_nil] <;> omega) ?_
  try simp (disch := omega) only [am_tnA, am_tnM, Int.reduceToNat, am_addE, am_subE, am_mulE, am_laddE, am_lsubE, am_upO, am_upS, am_stS, am_stO, am_tnn, am_brl, am_brg, am_bre, am_brn, am_brG, am_brL, am_st1, am_no2, am_st2, am_clr]
  refine am_wp_pc (pc' := 1653) (if_pos trivial) ?_
  exact L_back ih hx hL hw s1 s2 hm (by omega) (by omega) hK

set_option maxRecDepth 20000 in
theorem L_forgotten (hw : wd sh R) (s1 : sh 1 = (32, L)) (s2 : sh 2 = (32, 36)) (hm : 161 ≤ m) (hm2 : m ≤ 161 + 21 * t) (hsl : sl ≤ lawS + 168 * t) (hc : cp X I) (hx : x + 6 ≤ L) (hL : L ≤ 3072) (hX : ∀ k, -2147483648 ≤ X k ∧ X k ≤ 2147483647) (ih : LH X L x t Q) : am_wp 1000 334 1089 [some (.inr (.inr 1)), some (.inr (.inr 4)), some (.inr (.inr 124)), some (.inr (.inr 160)), some (.inl (x : Int)), z5, z6, z7] [] (m, sl, sh, I, R) Q := by
  have e1 : I 1 = X := hc.1.1
  refine am_wp_go rfl (by simp (disch := omega) only [s1, e1, am_tnA, am_tnM, Int.reduceToNat, am_addE, am_subE, am_mulE, am_laddE, am_lsubE, am_upO, am_upS, am_stS, am_stO, am_tnn, am_brl, am_brg, am_bre, am_brn, am_brG, am_brL, am_st1, am_no2, am_st2, am_clr, and_self, true_and, and_true, true_or, or_true, List.length_cons, List.length_nil] <;> omega) ?_
  try simp (disch := omega) only [s1, e1, am_tnA, am_tnM, Int.reduceToNat, am_addE, am_subE, am_mulE, am_laddE, am_lsubE, am_upO, am_upS, am_stS, am_stO, am_tnn, am_brl, am_brg, am_bre, am_brn, am_brG, am_brL, am_st1, am_no2, am_st2, am_clr]
  refine am_wp_cc rfl rfl rfl (congrArg Prod.fst (s4 hw)) (p_forgotten hw hc (fun J av j1 k => ⟨_, rfl, ?_⟩))
  have e1 : J 1 = X := by rw [j1]; exact e1
  refine am_wp_go rfl (by simp (disch := omega) only [s1, e1, am_tnA, am_tnM, Int.reduceToNat, am_addE, am_subE, am_mulE, am_laddE, am_lsubE, am_upO, am_upS, am_stS, am_stO, am_tnn, am_brl, am_brg, am_bre, am_brn, am_brG, am_brL, am_st1, am_no2, am_st2, am_clr, and_self, true_and, and_true, true_or, or_true, List.length_cons, List.length_nil] <;> omega) ?_
  try simp (disch := omega) only [s1, e1, am_tnA, am_tnM, Int.reduceToNat, am_addE, am_subE, am_mulE, am_laddE, am_lsubE, am_upO, am_upS, am_stS, am_stO, am_tnn, am_brl, am_brg, am_bre, am_brn, am_brG, am_brL, am_st1, am_no2, am_st2, am_clr]
  refine am_wp_cc rfl rfl rfl (congrArg Prod.fst (s124 hw)) (k _ (fun K hK => ⟨_, rfl, ?_⟩))
  refine am_wp_go rfl (by simp (disch := omega) only [am_tnA, am_tnM, Int.reduceToNat, am_addE, am_subE, am_mulE, am_laddE, am_lsubE, am_upO, am_upS, am_stS, am_stO, am_tnn, am_brl, am_brg, am_bre, am_brn, am_brG, am_brL, am_st1, am_no2, am_st2, am_clr, and_self, true_and, and_true, true_or, or_true, List.length_cons, List.length_nil] <;> omega) ?_
  try simp (disch := omega) only [am_tnA, am_tnM, Int.reduceToNat, am_addE, am_subE, am_mulE, am_laddE, am_lsubE, am_upO, am_upS, am_stS, am_stO, am_tnn, am_brl, am_brg, am_bre, am_brn, am_brG, am_brL, am_st1, am_no2, am_st2, am_clr]
  refine am_wp_pc (pc' := 1653) (if_pos trivial) ?_
  exact L_back ih hx hL hw s1 s2 hm (by omega) (by omega) hK

set_option maxRecDepth 20000 in
theorem L_fewest (hw : wd sh R) (s1 : sh 1 = (32, L)) (s2 : sh 2 = (32, 36)) (hm : 161 ≤ m) (hm2 : m ≤ 161 + 21 * t) (hsl : sl ≤ lawS + 168 * t) (hc : cp X I) (hx : x + 6 ≤ L) (hL : L ≤ 3072) (hX : ∀ k, -2147483648 ≤ X k ∧ X k ≤ 2147483647) (ih : LH X L x t Q) : am_wp 1000 334 1102 [some (.inr (.inr 1)), some (.inr (.inr 4)), some (.inr (.inr 124)), some (.inr (.inr 160)), some (.inl (x : Int)), z5, z6, z7] [] (m, sl, sh, I, R) Q := by
  have e1 : I 1 = X := hc.1.1
  refine am_wp_go rfl (by simp (disch := omega) only [s1, e1, am_tnA, am_tnM, Int.reduceToNat, am_addE, am_subE, am_mulE, am_laddE, am_lsubE, am_upO, am_upS, am_stS, am_stO, am_tnn, am_brl, am_brg, am_bre, am_brn, am_brG, am_brL, am_st1, am_no2, am_st2, am_clr, and_self, true_and, and_true, true_or, or_true, List.length_cons, List.length_nil] <;> omega) ?_
  try simp (disch := omega) only [s1, e1, am_tnA, am_tnM, Int.reduceToNat, am_addE, am_subE, am_mulE, am_laddE, am_lsubE, am_upO, am_upS, am_stS, am_stO, am_tnn, am_brl, am_brg, am_bre, am_brn, am_brG, am_brL, am_st1, am_no2, am_st2, am_clr]
  refine am_wp_cc rfl rfl rfl (congrArg Prod.fst (s4 hw)) (p_fewest hw hc (fun J av j1 k => ⟨_, rfl, ?_⟩))
  have e1 : J 1 = X := by rw [j1]; exact e1
  refine am_wp_go rfl (by simp (disch := omega) only [s1, e1, am_tnA, am_tnM, Int.reduceToNat, am_addE, am_subE, am_mulE, am_laddE, am_lsubE, am_upO, am_upS, am_stS, am_stO, am_tnn, am_brl, am_brg, am_bre, am_brn, am_brG, am_brL, am_st1, am_no2, am_st2, am_clr, and_self, true_and, and_true, true_or, or_true, List.length_cons, List.length_nil] <;> omega) ?_
  try simp (disch := omega) only [s1, e1, am_tnA, am_tnM, Int.reduceToNat, am_addE, am_subE, am_mulE, am_laddE, am_lsubE, am_upO, am_upS, am_stS, am_stO, am_tnn, am_brl, am_brg, am_bre, am_brn, am_brG, am_brL, am_st1, am_no2, am_st2, am_clr]
  refine am_wp_cc rfl rfl rfl (congrArg Prod.fst (s124 hw)) (k _ (fun K hK => ⟨_, rfl, ?_⟩))
  refine am_wp_go rfl (by simp (disch := omega) only [am_tnA, am_tnM, Int.reduceToNat, am_addE, am_subE, am_mulE, am_laddE, am_lsubE, am_upO, am_upS, am_stS, am_stO, am_tnn, am_brl, am_brg, am_bre, am_brn, am_brG, am_brL, am_st1, am_no2, am_st2, am_clr, and_self, true_and, and_true, true_or, or_true, List.length_cons, List.length_nil] <;> omega) ?_
  try simp (disch := omega) only [am_tnA, am_tnM, Int.reduceToNat, am_addE, am_subE, am_mulE, am_laddE, am_lsubE, am_upO, am_upS, am_stS, am_stO, am_tnn, am_brl, am_brg, am_bre, am_brn, am_brG, am_brL, am_st1, am_no2, am_st2, am_clr]
  refine am_wp_pc (pc' := 1653) (if_pos trivial) ?_
  exact L_back ih hx hL hw s1 s2 hm (by omega) (by omega) hK

set_option maxRecDepth 20000 in
theorem L_alike (hw : wd sh R) (s1 : sh 1 = (32, L)) (s2 : sh 2 = (32, 36)) (hm : 161 ≤ m) (hm2 : m ≤ 161 + 21 * t) (hsl : sl ≤ lawS + 168 * t) (hc : cp X I) (hx : x + 6 ≤ L) (hL : L ≤ 3072) (hX : ∀ k, -2147483648 ≤ X k ∧ X k ≤ 2147483647) (ih : LH X L x t Q) : am_wp 1000 334 1151 [some (.inr (.inr 1)), some (.inr (.inr 4)), some (.inr (.inr 124)), some (.inr (.inr 160)), some (.inl (x : Int)), z5, z6, z7] [] (m, sl, sh, I, R) Q := by
  have e1 : I 1 = X := hc.1.1
  refine am_wp_go rfl (by simp (disch := omega) only [s1, e1, am_tnA, am_tnM, Int.reduceToNat, am_addE, am_subE, am_mulE, am_laddE, am_lsubE, am_upO, am_upS, am_stS, am_stO, am_tnn, am_brl, am_brg, am_bre, am_brn, am_brG, am_brL, am_st1, am_no2, am_st2, am_clr, and_self, true_and, and_true, true_or, or_true, List.length_cons, List.length_nil] <;> omega) ?_
  try simp (disch := omega) only [s1, e1, am_tnA, am_tnM, Int.reduceToNat, am_addE, am_subE, am_mulE, am_laddE, am_lsubE, am_upO, am_upS, am_stS, am_stO, am_tnn, am_brl, am_brg, am_bre, am_brn, am_brG, am_brL, am_st1, am_no2, am_st2, am_clr]
  refine am_wp_cc rfl rfl rfl (congrArg Prod.fst (s4 hw)) (p_alike hw hc (fun J av j1 k => ⟨_, rfl, ?_⟩))
  have e1 : J 1 = X := by rw [j1]; exact e1
  refine am_wp_go rfl (by simp (disch := omega) only [s1, e1, am_tnA, am_tnM, Int.reduceToNat, am_addE, am_subE, am_mulE, am_laddE, am_lsubE, am_upO, am_upS, am_stS, am_stO, am_tnn, am_brl, am_brg, am_bre, am_brn, am_brG, am_brL, am_st1, am_no2, am_st2, am_clr, and_self, true_and, and_true, true_or, or_true, List.length_cons, List.length_nil] <;> omega) ?_
  try simp (disch := omega) only [s1, e1, am_tnA, am_tnM, Int.reduceToNat, am_addE, am_subE, am_mulE, am_laddE, am_lsubE, am_upO, am_upS, am_stS, am_stO, am_tnn, am_brl, am_brg, am_bre, am_brn, am_brG, am_brL, am_st1, am_no2, am_st2, am_clr]
  refine am_wp_cc rfl rfl rfl (congrArg Prod.fst (s124 hw)) (k _ (fun K hK => ⟨_, rfl, ?_⟩))
  refine am_wp_go rfl (by simp (disch := omega) only [am_tnA, am_tnM, Int.reduceToNat, am_addE, am_subE, am_mulE, am_laddE, am_lsubE, am_upO, am_upS, am_stS, am_stO, am_tnn, am_brl, am_brg, am_bre, am_brn, am_brG, am_brL, am_st1, am_no2, am_st2, am_clr, and_self, true_and, and_true, true_or, or_true, List.length_cons, List.length_nil] <;> omega) ?_
  try simp (disch := omega) only [am_tnA, am_tnM, Int.reduceToNat, am_addE, am_subE, am_mulE, am_laddE, am_lsubE, am_upO, am_upS, am_stS, am_stO, am_tnn, am_brl, am_brg, am_bre, am_brn, am_brG, am_brL, am_st1, am_no2, am_st2, am_clr]
  refine am_wp_pc (pc' := 1653) (if_pos trivial) ?_
  exact L_back ih hx hL hw s1 s2 hm (by omega) (by omega) hK

set_option maxRecDepth 20000 in
theorem L_alikeAt (hw : wd sh R) (s1 : sh 1 = (32, L)) (s2 : sh 2 = (32, 36)) (hm : 161 ≤ m) (hm2 : m ≤ 161 + 21 * t) (hsl : sl ≤ lawS + 168 * t) (hc : cp X I) (hx : x + 6 ≤ L) (hL : L ≤ 3072) (hX : ∀ k, -2147483648 ≤ X k ∧ X k ≤ 2147483647) (ih : LH X L x t Q) : am_wp 1000 334 1188 [some (.inr (.inr 1)), some (.inr (.inr 4)), some (.inr (.inr 124)), some (.inr (.inr 160)), some (.inl (x : Int)), z5, z6, z7] [] (m, sl, sh, I, R) Q := by
  have e1 : I 1 = X := hc.1.1
  refine am_wp_go rfl (by simp (disch := omega) only [s1, e1, am_tnA, am_tnM, Int.reduceToNat, am_addE, am_subE, am_mulE, am_laddE, am_lsubE, am_upO, am_upS, am_stS, am_stO, am_tnn, am_brl, am_brg, am_bre, am_brn, am_brG, am_brL, am_st1, am_no2, am_st2, am_clr, and_self, true_and, and_true, true_or, or_true, List.length_cons, List.length_nil] <;> omega) ?_
  try simp (disch := omega) only [s1, e1, am_tnA, am_tnM, Int.reduceToNat, am_addE, am_subE, am_mulE, am_laddE, am_lsubE, am_upO, am_upS, am_stS, am_stO, am_tnn, am_brl, am_brg, am_bre, am_brn, am_brG, am_brL, am_st1, am_no2, am_st2, am_clr]
  refine am_wp_cc rfl rfl rfl (congrArg Prod.fst (s4 hw)) (p_alikeAt hw hc (fun J av j1 k => ⟨_, rfl, ?_⟩))
  have e1 : J 1 = X := by rw [j1]; exact e1
  refine am_wp_go rfl (by simp (disch := omega) only [s1, e1, am_tnA, am_tnM, Int.reduceToNat, am_addE, am_subE, am_mulE, am_laddE, am_lsubE, am_upO, am_upS, am_stS, am_stO, am_tnn, am_brl, am_brg, am_bre, am_brn, am_brG, am_brL, am_st1, am_no2, am_st2, am_clr, and_self, true_and, and_true, true_or, or_true, List.length_cons, List.length_nil] <;> omega) ?_
  try simp (disch := omega) only [s1, e1, am_tnA, am_tnM, Int.reduceToNat, am_addE, am_subE, am_mulE, am_laddE, am_lsubE, am_upO, am_upS, am_stS, am_stO, am_tnn, am_brl, am_brg, am_bre, am_brn, am_brG, am_brL, am_st1, am_no2, am_st2, am_clr]
  refine am_wp_cc rfl rfl rfl (congrArg Prod.fst (s124 hw)) (k _ (fun K hK => ⟨_, rfl, ?_⟩))
  refine am_wp_go rfl (by simp (disch := omega) only [am_tnA, am_tnM, Int.reduceToNat, am_addE, am_subE, am_mulE, am_laddE, am_lsubE, am_upO, am_upS, am_stS, am_stO, am_tnn, am_brl, am_brg, am_bre, am_brn, am_brG, am_brL, am_st1, am_no2, am_st2, am_clr, and_self, true_and, and_true, true_or, or_true, List.length_cons, List.length_nil] <;> omega) ?_
  try simp (disch := omega) only [am_tnA, am_tnM, Int.reduceToNat, am_addE, am_subE, am_mulE, am_laddE, am_lsubE, am_upO, am_upS, am_stS, am_stO, am_tnn, am_brl, am_brg, am_bre, am_brn, am_brG, am_brL, am_st1, am_no2, am_st2, am_clr]
  refine am_wp_pc (pc' := 1653) (if_pos trivial) ?_
  exact L_back ih hx hL hw s1 s2 hm (by omega) (by omega) hK

set_option maxRecDepth 20000 in
theorem L_served (hw : wd sh R) (s1 : sh 1 = (32, L)) (s2 : sh 2 = (32, 36)) (hm : 161 ≤ m) (hm2 : m ≤ 161 + 21 * t) (hsl : sl ≤ lawS + 168 * t) (hc : cp X I) (hx : x + 6 ≤ L) (hL : L ≤ 3072) (hX : ∀ k, -2147483648 ≤ X k ∧ X k ≤ 2147483647) (ih : LH X L x t Q) : am_wp 1000 334 1249 [some (.inr (.inr 1)), some (.inr (.inr 4)), some (.inr (.inr 124)), some (.inr (.inr 160)), some (.inl (x : Int)), z5, z6, z7] [] (m, sl, sh, I, R) Q := by
  have e1 : I 1 = X := hc.1.1
  refine am_wp_go rfl (by simp (disch := omega) only [s1, e1, am_tnA, am_tnM, Int.reduceToNat, am_addE, am_subE, am_mulE, am_laddE, am_lsubE, am_upO, am_upS, am_stS, am_stO, am_tnn, am_brl, am_brg, am_bre, am_brn, am_brG, am_brL, am_st1, am_no2, am_st2, am_clr, and_self, true_and, and_true, true_or, or_true, List.length_cons, List.length_nil] <;> omega) ?_
  try simp (disch := omega) only [s1, e1, am_tnA, am_tnM, Int.reduceToNat, am_addE, am_subE, am_mulE, am_laddE, am_lsubE, am_upO, am_upS, am_stS, am_stO, am_tnn, am_brl, am_brg, am_bre, am_brn, am_brG, am_brL, am_st1, am_no2, am_st2, am_clr]
  refine am_wp_cc rfl rfl rfl (congrArg Prod.fst (s4 hw)) (p_served hw hc (fun J av j1 k => ⟨_, rfl, ?_⟩))
  have e1 : J 1 = X := by rw [j1]; exact e1
  refine am_wp_go rfl (by simp (disch := omega) only [s1, e1, am_tnA, am_tnM, Int.reduceToNat, am_addE, am_subE, am_mulE, am_laddE, am_lsubE, am_upO, am_upS, am_stS, am_stO, am_tnn, am_brl, am_brg, am_bre, am_brn, am_brG, am_brL, am_st1, am_no2, am_st2, am_clr, and_self, true_and, and_true, true_or, or_true, List.length_cons, List.length_nil] <;> omega) ?_
  try simp (disch := omega) only [s1, e1, am_tnA, am_tnM, Int.reduceToNat, am_addE, am_subE, am_mulE, am_laddE, am_lsubE, am_upO, am_upS, am_stS, am_stO, am_tnn, am_brl, am_brg, am_bre, am_brn, am_brG, am_brL, am_st1, am_no2, am_st2, am_clr]
  refine am_wp_cc rfl rfl rfl (congrArg Prod.fst (s124 hw)) (k _ (fun K hK => ⟨_, rfl, ?_⟩))
  refine am_wp_go rfl (by simp (disch := omega) only [am_tnA, am_tnM, Int.reduceToNat, am_addE, am_subE, am_mulE, am_laddE, am_lsubE, am_upO, am_upS, am_stS, am_stO, am_tnn, am_brl, am_brg, am_bre, am_brn, am_brG, am_brL, am_st1, am_no2, am_st2, am_clr, and_self, true_and, and_true, true_or, or_true, List.length_cons, List.length_nil] <;> omega) ?_
  try simp (disch := omega) only [am_tnA, am_tnM, Int.reduceToNat, am_addE, am_subE, am_mulE, am_laddE, am_lsubE, am_upO, am_upS, am_stS, am_stO, am_tnn, am_brl, am_brg, am_bre, am_brn, am_brG, am_brL, am_st1, am_no2, am_st2, am_clr]
  refine am_wp_pc (pc' := 1653) (if_pos trivial) ?_
  exact L_back ih hx hL hw s1 s2 hm (by omega) (by omega) hK

set_option maxRecDepth 20000 in
theorem L_servedAt (hw : wd sh R) (s1 : sh 1 = (32, L)) (s2 : sh 2 = (32, 36)) (hm : 161 ≤ m) (hm2 : m ≤ 161 + 21 * t) (hsl : sl ≤ lawS + 168 * t) (hc : cp X I) (hx : x + 6 ≤ L) (hL : L ≤ 3072) (hX : ∀ k, -2147483648 ≤ X k ∧ X k ≤ 2147483647) (ih : LH X L x t Q) : am_wp 1000 334 1274 [some (.inr (.inr 1)), some (.inr (.inr 4)), some (.inr (.inr 124)), some (.inr (.inr 160)), some (.inl (x : Int)), z5, z6, z7] [] (m, sl, sh, I, R) Q := by
  have e1 : I 1 = X := hc.1.1
  refine am_wp_go rfl (by simp (disch := omega) only [s1, e1, am_tnA, am_tnM, Int.reduceToNat, am_addE, am_subE, am_mulE, am_laddE, am_lsubE, am_upO, am_upS, am_stS, am_stO, am_tnn, am_brl, am_brg, am_bre, am_brn, am_brG, am_brL, am_st1, am_no2, am_st2, am_clr, and_self, true_and, and_true, true_or, or_true, List.length_cons, List.length_nil] <;> omega) ?_
  try simp (disch := omega) only [s1, e1, am_tnA, am_tnM, Int.reduceToNat, am_addE, am_subE, am_mulE, am_laddE, am_lsubE, am_upO, am_upS, am_stS, am_stO, am_tnn, am_brl, am_brg, am_bre, am_brn, am_brG, am_brL, am_st1, am_no2, am_st2, am_clr]
  refine am_wp_cc rfl rfl rfl (congrArg Prod.fst (s4 hw)) (p_servedAt hw hc (fun J av j1 k => ⟨_, rfl, ?_⟩))
  have e1 : J 1 = X := by rw [j1]; exact e1
  refine am_wp_go rfl (by simp (disch := omega) only [s1, e1, am_tnA, am_tnM, Int.reduceToNat, am_addE, am_subE, am_mulE, am_laddE, am_lsubE, am_upO, am_upS, am_stS, am_stO, am_tnn, am_brl, am_brg, am_bre, am_brn, am_brG, am_brL, am_st1, am_no2, am_st2, am_clr, and_self, true_and, and_true, true_or, or_true, List.length_cons, List.length_nil] <;> omega) ?_
  try simp (disch := omega) only [s1, e1, am_tnA, am_tnM, Int.reduceToNat, am_addE, am_subE, am_mulE, am_laddE, am_lsubE, am_upO, am_upS, am_stS, am_stO, am_tnn, am_brl, am_brg, am_bre, am_brn, am_brG, am_brL, am_st1, am_no2, am_st2, am_clr]
  refine am_wp_cc rfl rfl rfl (congrArg Prod.fst (s124 hw)) (k _ (fun K hK => ⟨_, rfl, ?_⟩))
  refine am_wp_go rfl (by simp (disch := omega) only [am_tnA, am_tnM, Int.reduceToNat, am_addE, am_subE, am_mulE, am_laddE, am_lsubE, am_upO, am_upS, am_stS, am_stO, am_tnn, am_brl, am_brg, am_bre, am_brn, am_brG, am_brL, am_st1, am_no2, am_st2, am_clr, and_self, true_and, and_true, true_or, or_true, List.length_cons, List.length_nil] <;> omega) ?_
  try simp (disch := omega) only [am_tnA, am_tnM, Int.reduceToNat, am_addE, am_subE, am_mulE, am_laddE, am_lsubE, am_upO, am_upS, am_stS, am_stO, am_tnn, am_brl, am_brg, am_bre, am_brn, am_brG, am_brL, am_st1, am_no2, am_st2, am_clr]
  refine am_wp_pc (pc' := 1653) (if_pos trivial) ?_
  exact L_back ih hx hL hw s1 s2 hm (by omega) (by omega) hK

set_option maxRecDepth 20000 in
theorem L_mean (hw : wd sh R) (s1 : sh 1 = (32, L)) (s2 : sh 2 = (32, 36)) (hm : 161 ≤ m) (hm2 : m ≤ 161 + 21 * t) (hsl : sl ≤ lawS + 168 * t) (hc : cp X I) (hx : x + 6 ≤ L) (hL : L ≤ 3072) (hX : ∀ k, -2147483648 ≤ X k ∧ X k ≤ 2147483647) (ih : LH X L x t Q) : am_wp 1000 334 1299 [some (.inr (.inr 1)), some (.inr (.inr 4)), some (.inr (.inr 124)), some (.inr (.inr 160)), some (.inl (x : Int)), z5, z6, z7] [] (m, sl, sh, I, R) Q := by
  have e1 : I 1 = X := hc.1.1
  refine am_wp_go rfl (by simp (disch := omega) only [s1, e1, am_tnA, am_tnM, Int.reduceToNat, am_addE, am_subE, am_mulE, am_laddE, am_lsubE, am_upO, am_upS, am_stS, am_stO, am_tnn, am_brl, am_brg, am_bre, am_brn, am_brG, am_brL, am_st1, am_no2, am_st2, am_clr, and_self, true_and, and_true, true_or, or_true, List.length_cons, List.length_nil] <;> omega) ?_
  try simp (disch := omega) only [s1, e1, am_tnA, am_tnM, Int.reduceToNat, am_addE, am_subE, am_mulE, am_laddE, am_lsubE, am_upO, am_upS, am_stS, am_stO, am_tnn, am_brl, am_brg, am_bre, am_brn, am_brG, am_brL, am_st1, am_no2, am_st2, am_clr]
  refine am_wp_cc rfl rfl rfl trivial (p_mean hw hm hc (fun m' sl' sh' J R' ex av y1 y2 y3 y4 j1 j2 k => ⟨_, rfl, ?_⟩))
  have hw' := mo_wd y1 hw
  have s1' : sh' 1 = (32, L) := by rw [y1.1 1 (by decide)]; exact s1
  have s2' : sh' 2 = (32, 36) := by rw [y1.1 2 (by decide)]; exact s2
  have e1 : J 1 = X := by rw [j1]; exact e1
  refine am_wp_go rfl (by simp (disch := omega) only [s1', e1, am_tnA, am_tnM, Int.reduceToNat, am_addE, am_subE, am_mulE, am_laddE, am_lsubE, am_upO, am_upS, am_stS, am_stO, am_tnn, am_brl, am_brg, am_bre, am_brn, am_brG, am_brL, am_st1, am_no2, am_st2, am_clr, and_self, true_and, and_true, true_or, or_true, List.length_cons, List.length_nil] <;> omega) ?_
  try simp (disch := omega) only [s1', e1, am_tnA, am_tnM, Int.reduceToNat, am_addE, am_subE, am_mulE, am_laddE, am_lsubE, am_upO, am_upS, am_stS, am_stO, am_tnn, am_brl, am_brg, am_bre, am_brn, am_brG, am_brL, am_st1, am_no2, am_st2, am_clr]
  refine am_wp_cc rfl rfl rfl (congrArg Prod.fst (s124 hw')) (k _ (fun K hK k1 k160 kt => ⟨_, rfl, ?_⟩))
  refine am_wp_go rfl (by simp (disch := omega) only [am_tnA, am_tnM, Int.reduceToNat, am_addE, am_subE, am_mulE, am_laddE, am_lsubE, am_upO, am_upS, am_stS, am_stO, am_tnn, am_brl, am_brg, am_bre, am_brn, am_brG, am_brL, am_st1, am_no2, am_st2, am_clr, and_self, true_and, and_true, true_or, or_true, List.length_cons, List.length_nil] <;> omega) ?_
  try simp (disch := omega) only [am_tnA, am_tnM, Int.reduceToNat, am_addE, am_subE, am_mulE, am_laddE, am_lsubE, am_upO, am_upS, am_stS, am_stO, am_tnn, am_brl, am_brg, am_bre, am_brn, am_brG, am_brL, am_st1, am_no2, am_st2, am_clr]
  refine am_wp_cc rfl rfl rfl (congrArg Prod.fst (s124 hw')) (r_thrown hw' ⟨_, rfl, ?_⟩)
  rw [kt]
  refine am_wp_go rfl (by simp (disch := omega) only [am_tnA, am_tnM, Int.reduceToNat, am_addE, am_subE, am_mulE, am_laddE, am_lsubE, am_upO, am_upS, am_stS, am_stO, am_tnn, am_brl, am_brg, am_bre, am_brn, am_brG, am_brL, am_st1, am_no2, am_st2, am_clr, and_self, true_and, and_true, true_or, or_true, List.length_cons, List.length_nil] <;> omega) ?_
  try simp (disch := omega) only [am_tnA, am_tnM, Int.reduceToNat, am_addE, am_subE, am_mulE, am_laddE, am_lsubE, am_upO, am_upS, am_stS, am_stO, am_tnn, am_brl, am_brg, am_bre, am_brn, am_brG, am_brL, am_st1, am_no2, am_st2, am_clr]
  refine am_wp_pc (if_pos trivial) ?_
  have F160 : sh' 160 = (35, 1) := s160 hw'
  refine am_wp_go rfl (by simp (disch := omega) only [F160, k160, am_tnA, am_tnM, Int.reduceToNat, am_addE, am_subE, am_mulE, am_laddE, am_lsubE, am_upO, am_upS, am_stS, am_stO, am_tnn, am_brl, am_brg, am_bre, am_brn, am_brG, am_brL, am_st1, am_no2, am_st2, am_clr, and_self, true_and, and_true, true_or, or_true, List.length_cons, List.length_nil] <;> omega) ?_
  try simp (disch := omega) only [F160, k160, am_tnA, am_tnM, Int.reduceToNat, am_addE, am_subE, am_mulE, am_laddE, am_lsubE, am_upO, am_upS, am_stS, am_stO, am_tnn, am_brl, am_brg, am_bre, am_brn, am_brG, am_brL, am_st1, am_no2, am_st2, am_clr]
  refine am_wp_br (fun b2 => ?_) (fun b2 => ?_)
  · refine am_wp_goc [1653] rfl trivial ?_
    exact L_back ih hx hL hw' s1' s2' (by omega) (by omega) (by omega) hK
  · have ej := j2 (by omega)
    refine am_wp_go rfl (by simp (disch := omega) only [F160, k160, ej, am_tnA, am_tnM, Int.reduceToNat, am_addE, am_subE, am_mulE, am_laddE, am_lsubE, am_upO, am_upS, am_stS, am_stO, am_tnn, am_brl, am_brg, am_bre, am_brn, am_brG, am_brL, am_st1, am_no2, am_st2, am_clr, and_self, true_and, and_true, true_or, or_true, List.length_cons, List.length_nil] <;> omega) ?_
    try simp (disch := omega) only [F160, k160, ej, am_tnA, am_tnM, Int.reduceToNat, am_addE, am_subE, am_mulE, am_laddE, am_lsubE, am_upO, am_upS, am_stS, am_stO, am_tnn, am_brl, am_brg, am_bre, am_brn, am_brG, am_brL, am_st1, am_no2, am_st2, am_clr]
    refine am_wp_br (fun b3 => ?_) (fun b3 => absurd am_lc0 b3)
    refine am_wp_goc [1653] rfl trivial ?_
    exact L_back ih hx hL hw' s1' s2' (by omega) (by omega) (by omega) hK

set_option maxRecDepth 20000 in
theorem L_hotel (hw : wd sh R) (s1 : sh 1 = (32, L)) (s2 : sh 2 = (32, 36)) (hm : 161 ≤ m) (hm2 : m ≤ 161 + 21 * t) (hsl : sl ≤ lawS + 168 * t) (hc : cp X I) (hx : x + 6 ≤ L) (hL : L ≤ 3072) (hX : ∀ k, -2147483648 ≤ X k ∧ X k ≤ 2147483647) (ih : LH X L x t Q) : am_wp 1000 334 1366 [some (.inr (.inr 1)), some (.inr (.inr 4)), some (.inr (.inr 124)), some (.inr (.inr 160)), some (.inl (x : Int)), z5, z6, z7] [] (m, sl, sh, I, R) Q := by
  have e1 : I 1 = X := hc.1.1
  refine am_wp_go rfl (by simp (disch := omega) only [s1, e1, am_tnA, am_tnM, Int.reduceToNat, am_addE, am_subE, am_mulE, am_laddE, am_lsubE, am_upO, am_upS, am_stS, am_stO, am_tnn, am_brl, am_brg, am_bre, am_brn, am_brG, am_brL, am_st1, am_no2, am_st2, am_clr, and_self, true_and, and_true, true_or, or_true, List.length_cons, List.length_nil] <;> omega) ?_
  try simp (disch := omega) only [s1, e1, am_tnA, am_tnM, Int.reduceToNat, am_addE, am_subE, am_mulE, am_laddE, am_lsubE, am_upO, am_upS, am_stS, am_stO, am_tnn, am_brl, am_brg, am_bre, am_brn, am_brG, am_brL, am_st1, am_no2, am_st2, am_clr]
  refine am_wp_cc rfl rfl rfl (congrArg Prod.fst (s4 hw)) (p_hotel hw hc (fun J av j1 k => ⟨_, rfl, ?_⟩))
  have e1 : J 1 = X := by rw [j1]; exact e1
  refine am_wp_go rfl (by simp (disch := omega) only [s1, e1, am_tnA, am_tnM, Int.reduceToNat, am_addE, am_subE, am_mulE, am_laddE, am_lsubE, am_upO, am_upS, am_stS, am_stO, am_tnn, am_brl, am_brg, am_bre, am_brn, am_brG, am_brL, am_st1, am_no2, am_st2, am_clr, and_self, true_and, and_true, true_or, or_true, List.length_cons, List.length_nil] <;> omega) ?_
  try simp (disch := omega) only [s1, e1, am_tnA, am_tnM, Int.reduceToNat, am_addE, am_subE, am_mulE, am_laddE, am_lsubE, am_upO, am_upS, am_stS, am_stO, am_tnn, am_brl, am_brg, am_bre, am_brn, am_brG, am_brL, am_st1, am_no2, am_st2, am_clr]
  refine am_wp_cc rfl rfl rfl (congrArg Prod.fst (s124 hw)) (k _ (fun K hK => ⟨_, rfl, ?_⟩))
  refine am_wp_go rfl (by simp (disch := omega) only [am_tnA, am_tnM, Int.reduceToNat, am_addE, am_subE, am_mulE, am_laddE, am_lsubE, am_upO, am_upS, am_stS, am_stO, am_tnn, am_brl, am_brg, am_bre, am_brn, am_brG, am_brL, am_st1, am_no2, am_st2, am_clr, and_self, true_and, and_true, true_or, or_true, List.length_cons, List.length_nil] <;> omega) ?_
  try simp (disch := omega) only [am_tnA, am_tnM, Int.reduceToNat, am_addE, am_subE, am_mulE, am_laddE, am_lsubE, am_upO, am_upS, am_stS, am_stO, am_tnn, am_brl, am_brg, am_bre, am_brn, am_brG, am_brL, am_st1, am_no2, am_st2, am_clr]
  refine am_wp_pc (pc' := 1653) (if_pos trivial) ?_
  exact L_back ih hx hL hw s1 s2 hm (by omega) (by omega) hK

set_option maxRecDepth 20000 in
theorem L_pans (hw : wd sh R) (s1 : sh 1 = (32, L)) (s2 : sh 2 = (32, 36)) (hm : 161 ≤ m) (hm2 : m ≤ 161 + 21 * t) (hsl : sl ≤ lawS + 168 * t) (hc : cp X I) (hx : x + 6 ≤ L) (hL : L ≤ 3072) (hX : ∀ k, -2147483648 ≤ X k ∧ X k ≤ 2147483647) (ih : LH X L x t Q) : am_wp 1000 334 1415 [some (.inr (.inr 1)), some (.inr (.inr 4)), some (.inr (.inr 124)), some (.inr (.inr 160)), some (.inl (x : Int)), z5, z6, z7] [] (m, sl, sh, I, R) Q := by
  have e1 : I 1 = X := hc.1.1
  refine am_wp_go rfl (by simp (disch := omega) only [s1, e1, am_tnA, am_tnM, Int.reduceToNat, am_addE, am_subE, am_mulE, am_laddE, am_lsubE, am_upO, am_upS, am_stS, am_stO, am_tnn, am_brl, am_brg, am_bre, am_brn, am_brG, am_brL, am_st1, am_no2, am_st2, am_clr, and_self, true_and, and_true, true_or, or_true, List.length_cons, List.length_nil] <;> omega) ?_
  try simp (disch := omega) only [s1, e1, am_tnA, am_tnM, Int.reduceToNat, am_addE, am_subE, am_mulE, am_laddE, am_lsubE, am_upO, am_upS, am_stS, am_stO, am_tnn, am_brl, am_brg, am_bre, am_brn, am_brG, am_brL, am_st1, am_no2, am_st2, am_clr]
  refine am_wp_cc rfl rfl rfl (congrArg Prod.fst (s4 hw)) (p_pans hw hc (fun J av j1 k => ⟨_, rfl, ?_⟩))
  have e1 : J 1 = X := by rw [j1]; exact e1
  refine am_wp_go rfl (by simp (disch := omega) only [s1, e1, am_tnA, am_tnM, Int.reduceToNat, am_addE, am_subE, am_mulE, am_laddE, am_lsubE, am_upO, am_upS, am_stS, am_stO, am_tnn, am_brl, am_brg, am_bre, am_brn, am_brG, am_brL, am_st1, am_no2, am_st2, am_clr, and_self, true_and, and_true, true_or, or_true, List.length_cons, List.length_nil] <;> omega) ?_
  try simp (disch := omega) only [s1, e1, am_tnA, am_tnM, Int.reduceToNat, am_addE, am_subE, am_mulE, am_laddE, am_lsubE, am_upO, am_upS, am_stS, am_stO, am_tnn, am_brl, am_brg, am_bre, am_brn, am_brG, am_brL, am_st1, am_no2, am_st2, am_clr]
  refine am_wp_cc rfl rfl rfl (congrArg Prod.fst (s124 hw)) (k _ (fun K hK => ⟨_, rfl, ?_⟩))
  refine am_wp_go rfl (by simp (disch := omega) only [am_tnA, am_tnM, Int.reduceToNat, am_addE, am_subE, am_mulE, am_laddE, am_lsubE, am_upO, am_upS, am_stS, am_stO, am_tnn, am_brl, am_brg, am_bre, am_brn, am_brG, am_brL, am_st1, am_no2, am_st2, am_clr, and_self, true_and, and_true, true_or, or_true, List.length_cons, List.length_nil] <;> omega) ?_
  try simp (disch := omega) only [am_tnA, am_tnM, Int.reduceToNat, am_addE, am_subE, am_mulE, am_laddE, am_lsubE, am_upO, am_upS, am_stS, am_stO, am_tnn, am_brl, am_brg, am_bre, am_brn, am_brG, am_brL, am_st1, am_no2, am_st2, am_clr]
  refine am_wp_pc (pc' := 1653) (if_pos trivial) ?_
  exact L_back ih hx hL hw s1 s2 hm (by omega) (by omega) hK

set_option maxRecDepth 20000 in
theorem L_brown (hw : wd sh R) (s1 : sh 1 = (32, L)) (s2 : sh 2 = (32, 36)) (hm : 161 ≤ m) (hm2 : m ≤ 161 + 21 * t) (hsl : sl ≤ lawS + 168 * t) (hc : cp X I) (hx : x + 6 ≤ L) (hL : L ≤ 3072) (hX : ∀ k, -2147483648 ≤ X k ∧ X k ≤ 2147483647) (ih : LH X L x t Q) : am_wp 1000 334 1440 [some (.inr (.inr 1)), some (.inr (.inr 4)), some (.inr (.inr 124)), some (.inr (.inr 160)), some (.inl (x : Int)), z5, z6, z7] [] (m, sl, sh, I, R) Q := by
  have e1 : I 1 = X := hc.1.1
  refine am_wp_go rfl (by simp (disch := omega) only [s1, e1, am_tnA, am_tnM, Int.reduceToNat, am_addE, am_subE, am_mulE, am_laddE, am_lsubE, am_upO, am_upS, am_stS, am_stO, am_tnn, am_brl, am_brg, am_bre, am_brn, am_brG, am_brL, am_st1, am_no2, am_st2, am_clr, and_self, true_and, and_true, true_or, or_true, List.length_cons, List.length_nil] <;> omega) ?_
  try simp (disch := omega) only [s1, e1, am_tnA, am_tnM, Int.reduceToNat, am_addE, am_subE, am_mulE, am_laddE, am_lsubE, am_upO, am_upS, am_stS, am_stO, am_tnn, am_brl, am_brg, am_bre, am_brn, am_brG, am_brL, am_st1, am_no2, am_st2, am_clr]
  refine am_wp_cc rfl rfl rfl (congrArg Prod.fst (s4 hw)) (p_brown hw hc s2 (fun J av j1 k => ⟨_, rfl, ?_⟩))
  have e1 : J 1 = X := by rw [j1]; exact e1
  refine am_wp_go rfl (by simp (disch := omega) only [s1, e1, am_tnA, am_tnM, Int.reduceToNat, am_addE, am_subE, am_mulE, am_laddE, am_lsubE, am_upO, am_upS, am_stS, am_stO, am_tnn, am_brl, am_brg, am_bre, am_brn, am_brG, am_brL, am_st1, am_no2, am_st2, am_clr, and_self, true_and, and_true, true_or, or_true, List.length_cons, List.length_nil] <;> omega) ?_
  try simp (disch := omega) only [s1, e1, am_tnA, am_tnM, Int.reduceToNat, am_addE, am_subE, am_mulE, am_laddE, am_lsubE, am_upO, am_upS, am_stS, am_stO, am_tnn, am_brl, am_brg, am_bre, am_brn, am_brG, am_brL, am_st1, am_no2, am_st2, am_clr]
  refine am_wp_cc rfl rfl rfl (congrArg Prod.fst (s124 hw)) (k _ (fun K hK => ⟨_, rfl, ?_⟩))
  refine am_wp_go rfl (by simp (disch := omega) only [am_tnA, am_tnM, Int.reduceToNat, am_addE, am_subE, am_mulE, am_laddE, am_lsubE, am_upO, am_upS, am_stS, am_stO, am_tnn, am_brl, am_brg, am_bre, am_brn, am_brG, am_brL, am_st1, am_no2, am_st2, am_clr, and_self, true_and, and_true, true_or, or_true, List.length_cons, List.length_nil] <;> omega) ?_
  try simp (disch := omega) only [am_tnA, am_tnM, Int.reduceToNat, am_addE, am_subE, am_mulE, am_laddE, am_lsubE, am_upO, am_upS, am_stS, am_stO, am_tnn, am_brl, am_brg, am_bre, am_brn, am_brG, am_brL, am_st1, am_no2, am_st2, am_clr]
  refine am_wp_br (fun b1 => ?_) (fun b1 => absurd am_lc0 b1)
  exact L_back ih hx hL hw s1 s2 hm (by omega) (by omega) hK

set_option maxRecDepth 20000 in
theorem L_morning (hw : wd sh R) (s1 : sh 1 = (32, L)) (s2 : sh 2 = (32, 36)) (hm : 161 ≤ m) (hm2 : m ≤ 161 + 21 * t) (hsl : sl ≤ lawS + 168 * t) (hc : cp X I) (hx : x + 6 ≤ L) (hL : L ≤ 3072) (hX : ∀ k, -2147483648 ≤ X k ∧ X k ≤ 2147483647) (ih : LH X L x t Q) : am_wp 1000 334 1478 [some (.inr (.inr 1)), some (.inr (.inr 4)), some (.inr (.inr 124)), some (.inr (.inr 160)), some (.inl (x : Int)), z5, z6, z7] [] (m, sl, sh, I, R) Q := by
  have e1 : I 1 = X := hc.1.1
  refine am_wp_go rfl (by simp (disch := omega) only [s1, e1, am_tnA, am_tnM, Int.reduceToNat, am_addE, am_subE, am_mulE, am_laddE, am_lsubE, am_upO, am_upS, am_stS, am_stO, am_tnn, am_brl, am_brg, am_bre, am_brn, am_brG, am_brL, am_st1, am_no2, am_st2, am_clr, and_self, true_and, and_true, true_or, or_true, List.length_cons, List.length_nil] <;> omega) ?_
  try simp (disch := omega) only [s1, e1, am_tnA, am_tnM, Int.reduceToNat, am_addE, am_subE, am_mulE, am_laddE, am_lsubE, am_upO, am_upS, am_stS, am_stO, am_tnn, am_brl, am_brg, am_bre, am_brn, am_brG, am_brL, am_st1, am_no2, am_st2, am_clr]
  refine am_wp_cc rfl rfl rfl (congrArg Prod.fst (s4 hw)) (p_morning hw hc (fun J av j1 k => ⟨_, rfl, ?_⟩))
  have e1 : J 1 = X := by rw [j1]; exact e1
  refine am_wp_go rfl (by simp (disch := omega) only [s1, e1, am_tnA, am_tnM, Int.reduceToNat, am_addE, am_subE, am_mulE, am_laddE, am_lsubE, am_upO, am_upS, am_stS, am_stO, am_tnn, am_brl, am_brg, am_bre, am_brn, am_brG, am_brL, am_st1, am_no2, am_st2, am_clr, and_self, true_and, and_true, true_or, or_true, List.length_cons, List.length_nil] <;> omega) ?_
  try simp (disch := omega) only [s1, e1, am_tnA, am_tnM, Int.reduceToNat, am_addE, am_subE, am_mulE, am_laddE, am_lsubE, am_upO, am_upS, am_stS, am_stO, am_tnn, am_brl, am_brg, am_bre, am_brn, am_brG, am_brL, am_st1, am_no2, am_st2, am_clr]
  refine am_wp_cc rfl rfl rfl (congrArg Prod.fst (s124 hw)) (k _ (fun K hK => ⟨_, rfl, ?_⟩))
  refine am_wp_go rfl (by simp (disch := omega) only [am_tnA, am_tnM, Int.reduceToNat, am_addE, am_subE, am_mulE, am_laddE, am_lsubE, am_upO, am_upS, am_stS, am_stO, am_tnn, am_brl, am_brg, am_bre, am_brn, am_brG, am_brL, am_st1, am_no2, am_st2, am_clr, and_self, true_and, and_true, true_or, or_true, List.length_cons, List.length_nil] <;> omega) ?_
  try simp (disch := omega) only [am_tnA, am_tnM, Int.reduceToNat, am_addE, am_subE, am_mulE, am_laddE, am_lsubE, am_upO, am_upS, am_stS, am_stO, am_tnn, am_brl, am_brg, am_bre, am_brn, am_brG, am_brL, am_st1, am_no2, am_st2, am_clr]
  refine am_wp_pc (pc' := 1653) (if_pos trivial) ?_
  exact L_back ih hx hL hw s1 s2 hm (by omega) (by omega) hK

set_option maxRecDepth 20000 in
theorem L_mornings (hw : wd sh R) (s1 : sh 1 = (32, L)) (s2 : sh 2 = (32, 36)) (hm : 161 ≤ m) (hm2 : m ≤ 161 + 21 * t) (hsl : sl ≤ lawS + 168 * t) (hc : cp X I) (hx : x + 6 ≤ L) (hL : L ≤ 3072) (hX : ∀ k, -2147483648 ≤ X k ∧ X k ≤ 2147483647) (ih : LH X L x t Q) : am_wp 1000 334 1503 [some (.inr (.inr 1)), some (.inr (.inr 4)), some (.inr (.inr 124)), some (.inr (.inr 160)), some (.inl (x : Int)), z5, z6, z7] [] (m, sl, sh, I, R) Q := by
  have e1 : I 1 = X := hc.1.1
  refine am_wp_go rfl (by simp (disch := omega) only [s1, e1, am_tnA, am_tnM, Int.reduceToNat, am_addE, am_subE, am_mulE, am_laddE, am_lsubE, am_upO, am_upS, am_stS, am_stO, am_tnn, am_brl, am_brg, am_bre, am_brn, am_brG, am_brL, am_st1, am_no2, am_st2, am_clr, and_self, true_and, and_true, true_or, or_true, List.length_cons, List.length_nil] <;> omega) ?_
  try simp (disch := omega) only [s1, e1, am_tnA, am_tnM, Int.reduceToNat, am_addE, am_subE, am_mulE, am_laddE, am_lsubE, am_upO, am_upS, am_stS, am_stO, am_tnn, am_brl, am_brg, am_bre, am_brn, am_brG, am_brL, am_st1, am_no2, am_st2, am_clr]
  refine am_wp_cc rfl rfl rfl (congrArg Prod.fst (s4 hw)) (p_mornings hw hc (fun J av j1 k => ⟨_, rfl, ?_⟩))
  have e1 : J 1 = X := by rw [j1]; exact e1
  refine am_wp_go rfl (by simp (disch := omega) only [s1, e1, am_tnA, am_tnM, Int.reduceToNat, am_addE, am_subE, am_mulE, am_laddE, am_lsubE, am_upO, am_upS, am_stS, am_stO, am_tnn, am_brl, am_brg, am_bre, am_brn, am_brG, am_brL, am_st1, am_no2, am_st2, am_clr, and_self, true_and, and_true, true_or, or_true, List.length_cons, List.length_nil] <;> omega) ?_
  try simp (disch := omega) only [s1, e1, am_tnA, am_tnM, Int.reduceToNat, am_addE, am_subE, am_mulE, am_laddE, am_lsubE, am_upO, am_upS, am_stS, am_stO, am_tnn, am_brl, am_brg, am_bre, am_brn, am_brG, am_brL, am_st1, am_no2, am_st2, am_clr]
  refine am_wp_cc rfl rfl rfl (congrArg Prod.fst (s124 hw)) (k _ (fun K hK => ⟨_, rfl, ?_⟩))
  refine am_wp_go rfl (by simp (disch := omega) only [am_tnA, am_tnM, Int.reduceToNat, am_addE, am_subE, am_mulE, am_laddE, am_lsubE, am_upO, am_upS, am_stS, am_stO, am_tnn, am_brl, am_brg, am_bre, am_brn, am_brG, am_brL, am_st1, am_no2, am_st2, am_clr, and_self, true_and, and_true, true_or, or_true, List.length_cons, List.length_nil] <;> omega) ?_
  try simp (disch := omega) only [am_tnA, am_tnM, Int.reduceToNat, am_addE, am_subE, am_mulE, am_laddE, am_lsubE, am_upO, am_upS, am_stS, am_stO, am_tnn, am_brl, am_brg, am_bre, am_brn, am_brG, am_brL, am_st1, am_no2, am_st2, am_clr]
  refine am_wp_pc (pc' := 1653) (if_pos trivial) ?_
  exact L_back ih hx hL hw s1 s2 hm (by omega) (by omega) hK

set_option maxRecDepth 20000 in
theorem L_sentence (hw : wd sh R) (s1 : sh 1 = (32, L)) (s2 : sh 2 = (32, 36)) (hm : 161 ≤ m) (hm2 : m ≤ 161 + 21 * t) (hsl : sl ≤ lawS + 168 * t) (hc : cp X I) (hx : x + 6 ≤ L) (hL : L ≤ 3072) (hX : ∀ k, -2147483648 ≤ X k ∧ X k ≤ 2147483647) (ih : LH X L x t Q) : am_wp 1000 334 1540 [some (.inr (.inr 1)), some (.inr (.inr 4)), some (.inr (.inr 124)), some (.inr (.inr 160)), some (.inl (x : Int)), z5, z6, z7] [] (m, sl, sh, I, R) Q := by
  have e1 : I 1 = X := hc.1.1
  refine am_wp_go rfl (by simp (disch := omega) only [s1, e1, am_tnA, am_tnM, Int.reduceToNat, am_addE, am_subE, am_mulE, am_laddE, am_lsubE, am_upO, am_upS, am_stS, am_stO, am_tnn, am_brl, am_brg, am_bre, am_brn, am_brG, am_brL, am_st1, am_no2, am_st2, am_clr, and_self, true_and, and_true, true_or, or_true, List.length_cons, List.length_nil] <;> omega) ?_
  try simp (disch := omega) only [s1, e1, am_tnA, am_tnM, Int.reduceToNat, am_addE, am_subE, am_mulE, am_laddE, am_lsubE, am_upO, am_upS, am_stS, am_stO, am_tnn, am_brl, am_brg, am_bre, am_brn, am_brG, am_brL, am_st1, am_no2, am_st2, am_clr]
  refine am_wp_cc rfl rfl rfl (congrArg Prod.fst (s4 hw)) (p_sentence hw hm hc (fun J av j1 k => ⟨_, rfl, ?_⟩))
  refine am_wp_go rfl (by simp (disch := omega) only [am_tnA, am_tnM, Int.reduceToNat, am_addE, am_subE, am_mulE, am_laddE, am_lsubE, am_upO, am_upS, am_stS, am_stO, am_tnn, am_brl, am_brg, am_bre, am_brn, am_brG, am_brL, am_st1, am_no2, am_st2, am_clr, and_self, true_and, and_true, true_or, or_true, List.length_cons, List.length_nil] <;> omega) ?_
  try simp (disch := omega) only [am_tnA, am_tnM, Int.reduceToNat, am_addE, am_subE, am_mulE, am_laddE, am_lsubE, am_upO, am_upS, am_stS, am_stO, am_tnn, am_brl, am_brg, am_bre, am_brn, am_brG, am_brL, am_st1, am_no2, am_st2, am_clr]
  refine am_wp_cc rfl rfl rfl (congrArg Prod.fst (s124 hw)) (k _ (fun m' sl' sh' K R' y1 y2 y3 y4 hK => ⟨_, rfl, ?_⟩))
  refine am_wp_go rfl (by simp (disch := omega) only [am_tnA, am_tnM, Int.reduceToNat, am_addE, am_subE, am_mulE, am_laddE, am_lsubE, am_upO, am_upS, am_stS, am_stO, am_tnn, am_brl, am_brg, am_bre, am_brn, am_brG, am_brL, am_st1, am_no2, am_st2, am_clr, and_self, true_and, and_true, true_or, or_true, List.length_cons, List.length_nil] <;> omega) ?_
  try simp (disch := omega) only [am_tnA, am_tnM, Int.reduceToNat, am_addE, am_subE, am_mulE, am_laddE, am_lsubE, am_upO, am_upS, am_stS, am_stO, am_tnn, am_brl, am_brg, am_bre, am_brn, am_brG, am_brL, am_st1, am_no2, am_st2, am_clr]
  refine am_wp_pc (pc' := 1653) (if_pos trivial) ?_
  exact L_back ih hx hL (mo_wd y1 hw) (by rw [y1.1 1 (by decide)]; exact s1) (by rw [y1.1 2 (by decide)]; exact s2) (by omega) (by omega) (by omega) hK

set_option maxRecDepth 20000 in
theorem L_said (hw : wd sh R) (s1 : sh 1 = (32, L)) (s2 : sh 2 = (32, 36)) (hm : 161 ≤ m) (hm2 : m ≤ 161 + 21 * t) (hsl : sl ≤ lawS + 168 * t) (hc : cp X I) (hx : x + 6 ≤ L) (hL : L ≤ 3072) (hX : ∀ k, -2147483648 ≤ X k ∧ X k ≤ 2147483647) (ih : LH X L x t Q) : am_wp 1000 334 1553 [some (.inr (.inr 1)), some (.inr (.inr 4)), some (.inr (.inr 124)), some (.inr (.inr 160)), some (.inl (x : Int)), z5, z6, z7] [] (m, sl, sh, I, R) Q := by
  have e1 : I 1 = X := hc.1.1
  refine am_wp_go rfl (by simp (disch := omega) only [s1, e1, am_tnA, am_tnM, Int.reduceToNat, am_addE, am_subE, am_mulE, am_laddE, am_lsubE, am_upO, am_upS, am_stS, am_stO, am_tnn, am_brl, am_brg, am_bre, am_brn, am_brG, am_brL, am_st1, am_no2, am_st2, am_clr, and_self, true_and, and_true, true_or, or_true, List.length_cons, List.length_nil] <;> omega) ?_
  try simp (disch := omega) only [s1, e1, am_tnA, am_tnM, Int.reduceToNat, am_addE, am_subE, am_mulE, am_laddE, am_lsubE, am_upO, am_upS, am_stS, am_stO, am_tnn, am_brl, am_brg, am_bre, am_brn, am_brG, am_brL, am_st1, am_no2, am_st2, am_clr]
  refine am_wp_cc rfl rfl rfl (congrArg Prod.fst (s4 hw)) (p_said hw hc (fun J av j1 k => ⟨_, rfl, ?_⟩))
  have e1 : J 1 = X := by rw [j1]; exact e1
  refine am_wp_go rfl (by simp (disch := omega) only [s1, e1, am_tnA, am_tnM, Int.reduceToNat, am_addE, am_subE, am_mulE, am_laddE, am_lsubE, am_upO, am_upS, am_stS, am_stO, am_tnn, am_brl, am_brg, am_bre, am_brn, am_brG, am_brL, am_st1, am_no2, am_st2, am_clr, and_self, true_and, and_true, true_or, or_true, List.length_cons, List.length_nil] <;> omega) ?_
  try simp (disch := omega) only [s1, e1, am_tnA, am_tnM, Int.reduceToNat, am_addE, am_subE, am_mulE, am_laddE, am_lsubE, am_upO, am_upS, am_stS, am_stO, am_tnn, am_brl, am_brg, am_bre, am_brn, am_brG, am_brL, am_st1, am_no2, am_st2, am_clr]
  refine am_wp_cc rfl rfl rfl (congrArg Prod.fst (s124 hw)) (k _ (fun K hK => ⟨_, rfl, ?_⟩))
  refine am_wp_go rfl (by simp (disch := omega) only [am_tnA, am_tnM, Int.reduceToNat, am_addE, am_subE, am_mulE, am_laddE, am_lsubE, am_upO, am_upS, am_stS, am_stO, am_tnn, am_brl, am_brg, am_bre, am_brn, am_brG, am_brL, am_st1, am_no2, am_st2, am_clr, and_self, true_and, and_true, true_or, or_true, List.length_cons, List.length_nil] <;> omega) ?_
  try simp (disch := omega) only [am_tnA, am_tnM, Int.reduceToNat, am_addE, am_subE, am_mulE, am_laddE, am_lsubE, am_upO, am_upS, am_stS, am_stO, am_tnn, am_brl, am_brg, am_bre, am_brn, am_brG, am_brL, am_st1, am_no2, am_st2, am_clr]
  refine am_wp_pc (pc' := 1653) (if_pos trivial) ?_
  exact L_back ih hx hL hw s1 s2 hm (by omega) (by omega) hK

set_option maxRecDepth 20000 in
theorem L_image (hw : wd sh R) (s1 : sh 1 = (32, L)) (s2 : sh 2 = (32, 36)) (hm : 161 ≤ m) (hm2 : m ≤ 161 + 21 * t) (hsl : sl ≤ lawS + 168 * t) (hc : cp X I) (hx : x + 6 ≤ L) (hL : L ≤ 3072) (hX : ∀ k, -2147483648 ≤ X k ∧ X k ≤ 2147483647) (ih : LH X L x t Q) : am_wp 1000 334 1578 [some (.inr (.inr 1)), some (.inr (.inr 4)), some (.inr (.inr 124)), some (.inr (.inr 160)), some (.inl (x : Int)), z5, z6, z7] [] (m, sl, sh, I, R) Q := by
  have e1 : I 1 = X := hc.1.1
  refine am_wp_go rfl (by simp (disch := omega) only [s1, e1, am_tnA, am_tnM, Int.reduceToNat, am_addE, am_subE, am_mulE, am_laddE, am_lsubE, am_upO, am_upS, am_stS, am_stO, am_tnn, am_brl, am_brg, am_bre, am_brn, am_brG, am_brL, am_st1, am_no2, am_st2, am_clr, and_self, true_and, and_true, true_or, or_true, List.length_cons, List.length_nil] <;> omega) ?_
  try simp (disch := omega) only [s1, e1, am_tnA, am_tnM, Int.reduceToNat, am_addE, am_subE, am_mulE, am_laddE, am_lsubE, am_upO, am_upS, am_stS, am_stO, am_tnn, am_brl, am_brg, am_bre, am_brn, am_brG, am_brL, am_st1, am_no2, am_st2, am_clr]
  refine am_wp_cc rfl rfl rfl (congrArg Prod.fst (s4 hw)) (p_image hw hc (fun J av j1 k => ⟨_, rfl, ?_⟩))
  have e1 : J 1 = X := by rw [j1]; exact e1
  refine am_wp_go rfl (by simp (disch := omega) only [s1, e1, am_tnA, am_tnM, Int.reduceToNat, am_addE, am_subE, am_mulE, am_laddE, am_lsubE, am_upO, am_upS, am_stS, am_stO, am_tnn, am_brl, am_brg, am_bre, am_brn, am_brG, am_brL, am_st1, am_no2, am_st2, am_clr, and_self, true_and, and_true, true_or, or_true, List.length_cons, List.length_nil] <;> omega) ?_
  try simp (disch := omega) only [s1, e1, am_tnA, am_tnM, Int.reduceToNat, am_addE, am_subE, am_mulE, am_laddE, am_lsubE, am_upO, am_upS, am_stS, am_stO, am_tnn, am_brl, am_brg, am_bre, am_brn, am_brG, am_brL, am_st1, am_no2, am_st2, am_clr]
  refine am_wp_cc rfl rfl rfl (congrArg Prod.fst (s124 hw)) (k _ (fun K hK => ⟨_, rfl, ?_⟩))
  refine am_wp_go rfl (by simp (disch := omega) only [am_tnA, am_tnM, Int.reduceToNat, am_addE, am_subE, am_mulE, am_laddE, am_lsubE, am_upO, am_upS, am_stS, am_stO, am_tnn, am_brl, am_brg, am_bre, am_brn, am_brG, am_brL, am_st1, am_no2, am_st2, am_clr, and_self, true_and, and_true, true_or, or_true, List.length_cons, List.length_nil] <;> omega) ?_
  try simp (disch := omega) only [am_tnA, am_tnM, Int.reduceToNat, am_addE, am_subE, am_mulE, am_laddE, am_lsubE, am_upO, am_upS, am_stS, am_stO, am_tnn, am_brl, am_brg, am_bre, am_brn, am_brG, am_brL, am_st1, am_no2, am_st2, am_clr]
  refine am_wp_pc (pc' := 1653) (if_pos trivial) ?_
  exact L_back ih hx hL hw s1 s2 hm (by omega) (by omega) hK

set_option maxRecDepth 20000 in
theorem L_restore (hw : wd sh R) (s1 : sh 1 = (32, L)) (s2 : sh 2 = (32, 36)) (hm : 161 ≤ m) (hm2 : m ≤ 161 + 21 * t) (hsl : sl ≤ lawS + 168 * t) (hc : cp X I) (hx : x + 6 ≤ L) (hL : L ≤ 3072) (hX : ∀ k, -2147483648 ≤ X k ∧ X k ≤ 2147483647) (ih : LH X L x t Q) : am_wp 1000 334 1603 [some (.inr (.inr 1)), some (.inr (.inr 4)), some (.inr (.inr 124)), some (.inr (.inr 160)), some (.inl (x : Int)), z5, z6, z7] [] (m, sl, sh, I, R) Q := by
  have e1 : I 1 = X := hc.1.1
  refine am_wp_go rfl (by simp (disch := omega) only [s1, e1, am_tnA, am_tnM, Int.reduceToNat, am_addE, am_subE, am_mulE, am_laddE, am_lsubE, am_upO, am_upS, am_stS, am_stO, am_tnn, am_brl, am_brg, am_bre, am_brn, am_brG, am_brL, am_st1, am_no2, am_st2, am_clr, and_self, true_and, and_true, true_or, or_true, List.length_cons, List.length_nil] <;> omega) ?_
  try simp (disch := omega) only [s1, e1, am_tnA, am_tnM, Int.reduceToNat, am_addE, am_subE, am_mulE, am_laddE, am_lsubE, am_upO, am_upS, am_stS, am_stO, am_tnn, am_brl, am_brg, am_bre, am_brn, am_brG, am_brL, am_st1, am_no2, am_st2, am_clr]
  refine am_wp_cc rfl rfl rfl (congrArg Prod.fst (s4 hw)) (p_restore hw hc (fun J av j1 k => ⟨_, rfl, ?_⟩))
  have e1 : J 1 = X := by rw [j1]; exact e1
  refine am_wp_go rfl (by simp (disch := omega) only [s1, e1, am_tnA, am_tnM, Int.reduceToNat, am_addE, am_subE, am_mulE, am_laddE, am_lsubE, am_upO, am_upS, am_stS, am_stO, am_tnn, am_brl, am_brg, am_bre, am_brn, am_brG, am_brL, am_st1, am_no2, am_st2, am_clr, and_self, true_and, and_true, true_or, or_true, List.length_cons, List.length_nil] <;> omega) ?_
  try simp (disch := omega) only [s1, e1, am_tnA, am_tnM, Int.reduceToNat, am_addE, am_subE, am_mulE, am_laddE, am_lsubE, am_upO, am_upS, am_stS, am_stO, am_tnn, am_brl, am_brg, am_bre, am_brn, am_brG, am_brL, am_st1, am_no2, am_st2, am_clr]
  refine am_wp_cc rfl rfl rfl (congrArg Prod.fst (s124 hw)) (k _ (fun K hK => ⟨_, rfl, ?_⟩))
  refine am_wp_go rfl (by simp (disch := omega) only [am_tnA, am_tnM, Int.reduceToNat, am_addE, am_subE, am_mulE, am_laddE, am_lsubE, am_upO, am_upS, am_stS, am_stO, am_tnn, am_brl, am_brg, am_bre, am_brn, am_brG, am_brL, am_st1, am_no2, am_st2, am_clr, and_self, true_and, and_true, true_or, or_true, List.length_cons, List.length_nil] <;> omega) ?_
  try simp (disch := omega) only [am_tnA, am_tnM, Int.reduceToNat, am_addE, am_subE, am_mulE, am_laddE, am_lsubE, am_upO, am_upS, am_stS, am_stO, am_tnn, am_brl, am_brg, am_bre, am_brn, am_brG, am_brL, am_st1, am_no2, am_st2, am_clr]
  refine am_wp_pc (pc' := 1653) (if_pos trivial) ?_
  exact L_back ih hx hL hw s1 s2 hm (by omega) (by omega) hK

set_option maxRecDepth 20000 in
theorem L_count (hw : wd sh R) (s1 : sh 1 = (32, L)) (s2 : sh 2 = (32, 36)) (hm : 161 ≤ m) (hm2 : m ≤ 161 + 21 * t) (hsl : sl ≤ lawS + 168 * t) (hc : cp X I) (hx : x + 6 ≤ L) (hL : L ≤ 3072) (hX : ∀ k, -2147483648 ≤ X k ∧ X k ≤ 2147483647) (ih : LH X L x t Q) : am_wp 1000 334 1628 [some (.inr (.inr 1)), some (.inr (.inr 4)), some (.inr (.inr 124)), some (.inr (.inr 160)), some (.inl (x : Int)), z5, z6, z7] [] (m, sl, sh, I, R) Q := by
  have e1 : I 1 = X := hc.1.1
  refine am_wp_go rfl (by simp (disch := omega) only [s1, e1, am_tnA, am_tnM, Int.reduceToNat, am_addE, am_subE, am_mulE, am_laddE, am_lsubE, am_upO, am_upS, am_stS, am_stO, am_tnn, am_brl, am_brg, am_bre, am_brn, am_brG, am_brL, am_st1, am_no2, am_st2, am_clr, and_self, true_and, and_true, true_or, or_true, List.length_cons, List.length_nil] <;> omega) ?_
  try simp (disch := omega) only [s1, e1, am_tnA, am_tnM, Int.reduceToNat, am_addE, am_subE, am_mulE, am_laddE, am_lsubE, am_upO, am_upS, am_stS, am_stO, am_tnn, am_brl, am_brg, am_bre, am_brn, am_brG, am_brL, am_st1, am_no2, am_st2, am_clr]
  refine am_wp_cc rfl rfl rfl (congrArg Prod.fst (s4 hw)) (p_count hw hc (fun J av j1 k => ⟨_, rfl, ?_⟩))
  have e1 : J 1 = X := by rw [j1]; exact e1
  refine am_wp_go rfl (by simp (disch := omega) only [s1, e1, am_tnA, am_tnM, Int.reduceToNat, am_addE, am_subE, am_mulE, am_laddE, am_lsubE, am_upO, am_upS, am_stS, am_stO, am_tnn, am_brl, am_brg, am_bre, am_brn, am_brG, am_brL, am_st1, am_no2, am_st2, am_clr, and_self, true_and, and_true, true_or, or_true, List.length_cons, List.length_nil] <;> omega) ?_
  try simp (disch := omega) only [s1, e1, am_tnA, am_tnM, Int.reduceToNat, am_addE, am_subE, am_mulE, am_laddE, am_lsubE, am_upO, am_upS, am_stS, am_stO, am_tnn, am_brl, am_brg, am_bre, am_brn, am_brG, am_brL, am_st1, am_no2, am_st2, am_clr]
  refine am_wp_cc rfl rfl rfl (congrArg Prod.fst (s124 hw)) (k _ (fun K hK => ⟨_, rfl, ?_⟩))
  refine am_wp_go rfl (by simp (disch := omega) only [am_tnA, am_tnM, Int.reduceToNat, am_addE, am_subE, am_mulE, am_laddE, am_lsubE, am_upO, am_upS, am_stS, am_stO, am_tnn, am_brl, am_brg, am_bre, am_brn, am_brG, am_brL, am_st1, am_no2, am_st2, am_clr, and_self, true_and, and_true, true_or, or_true, List.length_cons, List.length_nil] <;> omega) ?_
  try simp (disch := omega) only [am_tnA, am_tnM, Int.reduceToNat, am_addE, am_subE, am_mulE, am_laddE, am_lsubE, am_upO, am_upS, am_stS, am_stO, am_tnn, am_brl, am_brg, am_bre, am_brn, am_brG, am_brL, am_st1, am_no2, am_st2, am_clr]
  refine am_wp_pc (pc' := 1653) (if_pos trivial) ?_
  exact L_back ih hx hL hw s1 s2 hm (by omega) (by omega) hK

end LAW
