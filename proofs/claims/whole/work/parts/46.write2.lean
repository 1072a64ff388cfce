/-! write: the reference's pieces; write() on both sides -/
section WRITE
variable {m sl : Nat} {sh : Nat → Nat × Nat} {I : Nat → Nat → Int} {R : Nat → Nat → Nat} {Q : am_R → am_M → Prop} {d : Nat} {T : List Int} {W N : Nat → Int} {G : List Go}
def frR (I J : Nat → Nat → Int) : Prop := (∀ a, a ≠ 124 → a ≠ 135 → a ≠ 136 → J a = I a) ∧ ∀ j, j ≠ 29 → J 124 j = I 124 j
theorem frR_tr {I J K : Nat → Nat → Int} (h : frR I J) (g : frR J K) : frR I K := ⟨fun a h1 h2 h3 => (g.1 a h1 h2 h3).trans (h.1 a h1 h2 h3), fun j hj => (g.2 j hj).trans (h.2 j hj)⟩
theorem w_M_put {v : Int} (hw : wd sh R) (ht : txR I T) (hn : T.length < 7200) (h : ∀ J, frR I J → J 136 = I 136 → txR J (T ++ [v]) → Q am_yv (m, sl, sh, J, R)) : am_wp (d) 256 0 [some (.inr (.inr (124))), some (.inl (v))] [] (m, sl, sh, I, R) Q := by
  obtain ⟨t1, t2, t3⟩ := ht
  refine am_wp_go rfl (by simp (disch := omega) only [s124 hw, r124_27 hw, s135 hw, t1, am_addE, am_subE, am_mulE, am_laddE, am_lsubE, am_upO, am_upS, am_stS, am_stO, am_tnn, am_brl, am_brg, am_bre, am_brn, am_brG, am_brL, am_st1, am_no2, am_st2, am_clr, and_self, true_and, and_true, true_or, or_true, List.length_cons, List.length_nil] <;> omega) ?_
  try simp (disch := omega) only [s124 hw, r124_27 hw, s135 hw, t1, am_addE, am_subE, am_mulE, am_laddE, am_lsubE, am_upO, am_upS, am_stS, am_stO, am_tnn, am_brl, am_brg, am_bre, am_brn, am_brG, am_brL, am_st1, am_no2, am_st2, am_clr]
  refine am_wp_ret rfl rfl ?_
  refine h _ ⟨fun a h1 h2 h3 => by rw [am_upO h1, am_upO h2], fun j hj => by rw [am_upS, am_stO hj, am_upO (by decide)]⟩ (by rw [am_upO (by decide), am_upO (by decide)]) ⟨by rw [am_upS, am_stS rfl]; simp, by simp; omega, fun i hi => ?_⟩
  rw [am_upO (by decide), am_upS, getD_app hi]
  rw [List.length_append, List.length_singleton] at hi
  by_cases h2 : i < T.length
  · rw [if_pos h2, am_stO (by omega)]; exact t3 i h2
  · rw [if_neg h2, am_stS (by omega)]
theorem w_M_putNumber {v : Int} (hv : 0 ≤ v ∧ v ≤ 999) (hw : wd sh R) (ht : txR I T) (hn : T.length + 1 + (numT v).length ≤ 7200) (h : ∀ J, frR I J → txR J (T ++ ([32] ++ numT v)) → Q am_yv (m, sl, sh, J, R)) : am_wp (d + 1) 257 0 [some (.inr (.inr (124))), some (.inl (v))] [] (m, sl, sh, I, R) Q := by
  unfold numT at h hn
  refine am_wp_go rfl (by simp (disch := omega) only [am_divE, am_remE, am_addE, am_subE, am_mulE, am_laddE, am_lsubE, am_upO, am_upS, am_stS, am_stO, am_tnn, am_brl, am_brg, am_bre, am_brn, am_brG, am_brL, am_st1, am_no2, am_st2, am_clr, and_self, true_and, and_true, true_or, or_true, List.length_cons, List.length_nil] <;> omega) ?_
  try simp (disch := omega) only [am_divE, am_remE, am_addE, am_subE, am_mulE, am_laddE, am_lsubE, am_upO, am_upS, am_stS, am_stO, am_tnn, am_brl, am_brg, am_bre, am_brn, am_brG, am_brL, am_st1, am_no2, am_st2, am_clr]
  refine am_wp_cc rfl rfl rfl (congrArg Prod.fst (s124 hw)) (w_M_put hw ht (by simp at hn; omega) (fun J j1 j0 j2 => ⟨_, rfl, ?_⟩))
  refine am_wp_go rfl (by simp (disch := omega) only [am_divE, am_remE, am_addE, am_subE, am_mulE, am_laddE, am_lsubE, am_upO, am_upS, am_stS, am_stO, am_tnn, am_brl, am_brg, am_bre, am_brn, am_brG, am_brL, am_st1, am_no2, am_st2, am_clr, and_self, true_and, and_true, true_or, or_true, List.length_cons, List.length_nil] <;> omega) ?_
  try simp (disch := omega) only [am_divE, am_remE, am_addE, am_subE, am_mulE, am_laddE, am_lsubE, am_upO, am_upS, am_stS, am_stO, am_tnn, am_brl, am_brg, am_bre, am_brn, am_brG, am_brL, am_st1, am_no2, am_st2, am_clr]
  refine am_wp_br (fun b9 => ?_) (fun b9 => ?_)
  · rw [if_neg (by omega)] at h hn
    refine am_wp_go rfl (by simp (disch := omega) only [am_divE, am_remE, am_addE, am_subE, am_mulE, am_laddE, am_lsubE, am_upO, am_upS, am_stS, am_stO, am_tnn, am_brl, am_brg, am_bre, am_brn, am_brG, am_brL, am_st1, am_no2, am_st2, am_clr, and_self, true_and, and_true, true_or, or_true, List.length_cons, List.length_nil] <;> omega) ?_
    try simp (disch := omega) only [am_divE, am_remE, am_addE, am_subE, am_mulE, am_laddE, am_lsubE, am_upO, am_upS, am_stS, am_stO, am_tnn, am_brl, am_brg, am_bre, am_brn, am_brG, am_brL, am_st1, am_no2, am_st2, am_clr]
    refine am_wp_br (fun b26 => ?_) (fun b26 => ?_)
    · rw [if_neg (by omega)] at h hn
      refine am_wp_go rfl (by simp (disch := omega) only [am_divE, am_remE, am_addE, am_subE, am_mulE, am_laddE, am_lsubE, am_upO, am_upS, am_stS, am_stO, am_tnn, am_brl, am_brg, am_bre, am_brn, am_brG, am_brL, am_st1, am_no2, am_st2, am_clr, and_self, true_and, and_true, true_or, or_true, List.length_cons, List.length_nil] <;> omega) ?_
      try simp (disch := omega) only [am_divE, am_remE, am_addE, am_subE, am_mulE, am_laddE, am_lsubE, am_upO, am_upS, am_stS, am_stO, am_tnn, am_brl, am_brg, am_bre, am_brn, am_brG, am_brL, am_st1, am_no2, am_st2, am_clr]
      refine am_wp_cc rfl rfl rfl (congrArg Prod.fst (s124 hw)) (w_M_put hw j2 (by simp at hn ⊢; omega) (fun K k1 k0 k2 => ⟨_, rfl, ?_⟩))
      refine am_wp_ret rfl rfl ?_
      refine h K (frR_tr j1 k1) ?_
      simpa using k2
    · rw [if_pos (by omega)] at h hn
      refine am_wp_go rfl (by simp (disch := omega) only [am_divE, am_remE, am_addE, am_subE, am_mulE, am_laddE, am_lsubE, am_upO, am_upS, am_stS, am_stO, am_tnn, am_brl, am_brg, am_bre, am_brn, am_brG, am_brL, am_st1, am_no2, am_st2, am_clr, and_self, true_and, and_true, true_or, or_true, List.length_cons, List.length_nil] <;> omega) ?_
      try simp (disch := omega) only [am_divE, am_remE, am_addE, am_subE, am_mulE, am_laddE, am_lsubE, am_upO, am_upS, am_stS, am_stO, am_tnn, am_brl, am_brg, am_bre, am_brn, am_brG, am_brL, am_st1, am_no2, am_st2, am_clr]
      refine am_wp_cc rfl rfl rfl (congrArg Prod.fst (s124 hw)) (w_M_put hw j2 (by simp at hn ⊢; omega) (fun K k1 k0 k2 => ⟨_, rfl, ?_⟩))
      refine am_wp_go rfl (by simp (disch := omega) only [am_divE, am_remE, am_addE, am_subE, am_mulE, am_laddE, am_lsubE, am_upO, am_upS, am_stS, am_stO, am_tnn, am_brl, am_brg, am_bre, am_brn, am_brG, am_brL, am_st1, am_no2, am_st2, am_clr, and_self, true_and, and_true, true_or, or_true, List.length_cons, List.length_nil] <;> omega) ?_
      try simp (disch := omega) only [am_divE, am_remE, am_addE, am_subE, am_mulE, am_laddE, am_lsubE, am_upO, am_upS, am_stS, am_stO, am_tnn, am_brl, am_brg, am_bre, am_brn, am_brG, am_brL, am_st1, am_no2, am_st2, am_clr]
      refine am_wp_cc rfl rfl rfl (congrArg Prod.fst (s124 hw)) (w_M_put hw k2 (by simp at hn ⊢; omega) (fun L l1 l0 l2 => ⟨_, rfl, ?_⟩))
      refine am_wp_ret rfl rfl ?_
      refine h L (frR_tr j1 (frR_tr k1 l1)) ?_
      simpa using l2
  · rw [if_pos (by omega), if_pos (by omega)] at h hn
    refine am_wp_go rfl (by simp (disch := omega) only [am_divE, am_remE, am_addE, am_subE, am_mulE, am_laddE, am_lsubE, am_upO, am_upS, am_stS, am_stO, am_tnn, am_brl, am_brg, am_bre, am_brn, am_brG, am_brL, am_st1, am_no2, am_st2, am_clr, and_self, true_and, and_true, true_or, or_true, List.length_cons, List.length_nil] <;> omega) ?_
    try simp (disch := omega) only [am_divE, am_remE, am_addE, am_subE, am_mulE, am_laddE, am_lsubE, am_upO, am_upS, am_stS, am_stO, am_tnn, am_brl, am_brg, am_bre, am_brn, am_brG, am_brL, am_st1, am_no2, am_st2, am_clr]
    refine am_wp_cc rfl rfl rfl (congrArg Prod.fst (s124 hw)) (w_M_put hw j2 (by simp at hn ⊢; omega) (fun K k1 k0 k2 => ⟨_, rfl, ?_⟩))
    refine am_wp_go rfl (by simp (disch := omega) only [am_divE, am_remE, am_addE, am_subE, am_mulE, am_laddE, am_lsubE, am_upO, am_upS, am_stS, am_stO, am_tnn, am_brl, am_brg, am_bre, am_brn, am_brG, am_brL, am_st1, am_no2, am_st2, am_clr, and_self, true_and, and_true, true_or, or_true, List.length_cons, List.length_nil] <;> omega) ?_
    try simp (disch := omega) only [am_divE, am_remE, am_addE, am_subE, am_mulE, am_laddE, am_lsubE, am_upO, am_upS, am_stS, am_stO, am_tnn, am_brl, am_brg, am_bre, am_brn, am_brG, am_brL, am_st1, am_no2, am_st2, am_clr]
    refine am_wp_br (fun b26 => ?_) (fun b26 => ?_)
    · omega
    · refine am_wp_go rfl (by simp (disch := omega) only [am_divE, am_remE, am_addE, am_subE, am_mulE, am_laddE, am_lsubE, am_upO, am_upS, am_stS, am_stO, am_tnn, am_brl, am_brg, am_bre, am_brn, am_brG, am_brL, am_st1, am_no2, am_st2, am_clr, and_self, true_and, and_true, true_or, or_true, List.length_cons, List.length_nil] <;> omega) ?_
      try simp (disch := omega) only [am_divE, am_remE, am_addE, am_subE, am_mulE, am_laddE, am_lsubE, am_upO, am_upS, am_stS, am_stO, am_tnn, am_brl, am_brg, am_bre, am_brn, am_brG, am_brL, am_st1, am_no2, am_st2, am_clr]
      refine am_wp_cc rfl rfl rfl (congrArg Prod.fst (s124 hw)) (w_M_put hw k2 (by simp at hn ⊢; omega) (fun L l1 l0 l2 => ⟨_, rfl, ?_⟩))
      refine am_wp_go rfl (by simp (disch := omega) only [am_divE, am_remE, am_addE, am_subE, am_mulE, am_laddE, am_lsubE, am_upO, am_upS, am_stS, am_stO, am_tnn, am_brl, am_brg, am_bre, am_brn, am_brG, am_brL, am_st1, am_no2, am_st2, am_clr, and_self, true_and, and_true, true_or, or_true, List.length_cons, List.length_nil] <;> omega) ?_
      try simp (disch := omega) only [am_divE, am_remE, am_addE, am_subE, am_mulE, am_laddE, am_lsubE, am_upO, am_upS, am_stS, am_stO, am_tnn, am_brl, am_brg, am_bre, am_brn, am_brG, am_brL, am_st1, am_no2, am_st2, am_clr]
      refine am_wp_cc rfl rfl rfl (congrArg Prod.fst (s124 hw)) (w_M_put hw l2 (by simp at hn ⊢; omega) (fun V v1 v0 v2 => ⟨_, rfl, ?_⟩))
      refine am_wp_ret rfl rfl ?_
      refine h V (frR_tr j1 (frR_tr k1 (frR_tr l1 v1))) ?_
      simpa using v2
theorem w_M_putName {ws : List Nat} (hl : letOk ws) (hw : wd sh R) (ht : txR I T) (hn : T.length + ws.length ≤ 7200) (h : ∀ J, frR I J → txR J (T ++ nameT ws) → Q am_yv (m, sl, sh, J, R)) : am_wp (d + 1) 258 0 [some (.inr (.inr (124))), some (.inr (.inl ((nm27 ws : Int)))), none, none, none, none] [] (m, sl, sh, I, R) Q := by
  have hl2 := hl.2.1
  have hb : ∀ n, n ≤ ws.length → nm27 (ws.take n) < 387420489 := by
    intro n hn
    have h1 := nm27_lt hl n hn
    have h2 : 27 ^ n ≤ 27 ^ 6 := Nat.pow_le_pow_right (by decide) (by omega)
    exact Nat.lt_of_lt_of_le h1 h2
  refine am_wp_go rfl (by simp (disch := omega) only [s124 hw, am_addE, am_subE, am_mulE, am_laddE, am_lsubE, am_upO, am_upS, am_stS, am_stO, am_tnn, am_brl, am_brg, am_bre, am_brn, am_brG, am_brL, am_st1, am_no2, am_st2, am_clr, and_self, true_and, and_true, true_or, or_true, List.length_cons, List.length_nil] <;> omega) ?_
  try simp (disch := omega) only [s124 hw, am_addE, am_subE, am_mulE, am_laddE, am_lsubE, am_upO, am_upS, am_stS, am_stO, am_tnn, am_brl, am_brg, am_bre, am_brn, am_brG, am_brL, am_st1, am_no2, am_st2, am_clr]
  refine am_wp_ls (am_lp0 (P := fun n => ∀ J, frR I J → txR J T → (∀ i, i < n → J 136 i = 96 + ((ws.getD (ws.length - 1 - i) 0 : Nat) : Int)) → am_wp (d + 1) 258 5 [some (.inr (.inr (124))), some (.inr (.inl ((nm27 ws : Int)))), none, some (.inl ((n : Int))), some (.inr (.inl ((nm27 (ws.take (ws.length - n)) : Int)))), none] [] (m, sl, sh, J, R) Q) ws.length (fun n hn1 ih J j1 j2 j3 => ?_) I ⟨fun _ _ _ _ => rfl, fun _ _ => rfl⟩ ht (fun i hi => absurd hi (Nat.not_lt_zero i))) (by rw [Nat.sub_zero, List.take_length]; rfl)
  have hb1 := hb (ws.length - n) (by omega)
  refine am_wp_go rfl (by simp (disch := omega) only [s124 hw, r124_28 hw, s136 hw, am_lcmpG, am_addE, am_subE, am_mulE, am_laddE, am_lsubE, am_upO, am_upS, am_stS, am_stO, am_tnn, am_brl, am_brg, am_bre, am_brn, am_brG, am_brL, am_st1, am_no2, am_st2, am_clr, and_self, true_and, and_true, true_or, or_true, List.length_cons, List.length_nil] <;> omega) ?_
  try simp (disch := omega) only [s124 hw, r124_28 hw, s136 hw, am_lcmpG, am_addE, am_subE, am_mulE, am_laddE, am_lsubE, am_upO, am_upS, am_stS, am_stO, am_tnn, am_brl, am_brg, am_bre, am_brn, am_brG, am_brL, am_st1, am_no2, am_st2, am_clr]
  refine am_wp_br (fun b9 => ?_) (fun b9 => ?_)
  · have hn0 : n = ws.length := by
      rcases Nat.lt_or_ge n ws.length with h1 | h1
      · have h2 := nm27_pos hl (n := ws.length - n - 1) (by omega)
        rw [show ws.length - n - 1 + 1 = ws.length - n by omega] at h2
        omega
      · omega
    subst hn0
    refine am_wp_go rfl (by simp (disch := omega) only [s124 hw, r124_28 hw, s136 hw, am_lcmpG, am_addE, am_subE, am_mulE, am_laddE, am_lsubE, am_upO, am_upS, am_stS, am_stO, am_tnn, am_brl, am_brg, am_bre, am_brn, am_brG, am_brL, am_st1, am_no2, am_st2, am_clr, and_self, true_and, and_true, true_or, or_true, List.length_cons, List.length_nil] <;> omega) ?_
    try simp (disch := omega) only [s124 hw, r124_28 hw, s136 hw, am_lcmpG, am_addE, am_subE, am_mulE, am_laddE, am_lsubE, am_upO, am_upS, am_stS, am_stO, am_tnn, am_brl, am_brg, am_bre, am_brn, am_brG, am_brL, am_st1, am_no2, am_st2, am_clr]
    have L : ∀ i, i ≤ ws.length → ∀ K, frR I K → K 136 = J 136 → txR K (T ++ nameT (ws.take i)) → am_wp (d + 1) 258 47 [some (.inr (.inr (124))), some (.inr (.inl ((nm27 ws : Int)))), none, some (.inl ((ws.length : Int))), some (.inl ((ws.length : Int) - 1 - i)), none] [] (m, sl, sh, K, R) Q := by
      refine am_lp ws.length (fun i hi ih2 K k1 k0 k2 => ?_)
      refine am_wp_go rfl (by simp (disch := omega) only [s124 hw, r124_28 hw, s136 hw, am_lcmpG, am_addE, am_subE, am_mulE, am_laddE, am_lsubE, am_upO, am_upS, am_stS, am_stO, am_tnn, am_brl, am_brg, am_bre, am_brn, am_brG, am_brL, am_st1, am_no2, am_st2, am_clr, and_self, true_and, and_true, true_or, or_true, List.length_cons, List.length_nil] <;> omega) ?_
      try simp (disch := omega) only [s124 hw, r124_28 hw, s136 hw, am_lcmpG, am_addE, am_subE, am_mulE, am_laddE, am_lsubE, am_upO, am_upS, am_stS, am_stO, am_tnn, am_brl, am_brg, am_bre, am_brn, am_brG, am_brL, am_st1, am_no2, am_st2, am_clr]
      refine am_wp_br (fun b49 => ?_) (fun b49 => ?_)
      · have h0 : i = ws.length := by omega
        subst h0
        refine am_wp_ret rfl rfl ?_
        rw [List.take_length] at k2
        exact h K k1 k2
      · have e0 : (ws.length : Int) - 1 - i = ((ws.length - 1 - i : Nat) : Int) := by omega
        have e1 : K 136 (ws.length - 1 - i) = 96 + ((ws.getD i 0 : Nat) : Int) := by
          rw [k0, j3 _ (by omega), show ws.length - 1 - (ws.length - 1 - i) = i by omega]
        have e2 : (ws.length : Int) - 1 - i + -1 = (ws.length : Int) - 1 - ((i + 1 : Nat) : Int) := by omega
        rw [e0]
        refine am_wp_go rfl (by simp (disch := omega) only [s124 hw, r124_28 hw, s136 hw, e1, am_lcmpG, am_addE, am_subE, am_mulE, am_laddE, am_lsubE, am_upO, am_upS, am_stS, am_stO, am_tnn, am_brl, am_brg, am_bre, am_brn, am_brG, am_brL, am_st1, am_no2, am_st2, am_clr, and_self, true_and, and_true, true_or, or_true, List.length_cons, List.length_nil] <;> omega) ?_
        try simp (disch := omega) only [s124 hw, r124_28 hw, s136 hw, e1, am_lcmpG, am_addE, am_subE, am_mulE, am_laddE, am_lsubE, am_upO, am_upS, am_stS, am_stO, am_tnn, am_brl, am_brg, am_bre, am_brn, am_brG, am_brL, am_st1, am_no2, am_st2, am_clr]
        refine am_wp_cc rfl rfl rfl (congrArg Prod.fst (s124 hw)) (w_M_put hw k2 (by simp [nameT]; omega) (fun L l1 l0 l2 => ⟨_, rfl, ?_⟩))
        rw [← e0]
        refine am_wp_go rfl (by simp (disch := omega) only [s124 hw, r124_28 hw, s136 hw, e1, am_lcmpG, am_addE, am_subE, am_mulE, am_laddE, am_lsubE, am_upO, am_upS, am_stS, am_stO, am_tnn, am_brl, am_brg, am_bre, am_brn, am_brG, am_brL, am_st1, am_no2, am_st2, am_clr, and_self, true_and, and_true, true_or, or_true, List.length_cons, List.length_nil] <;> omega) ?_
        try simp (disch := omega) only [s124 hw, r124_28 hw, s136 hw, e1, am_lcmpG, am_addE, am_subE, am_mulE, am_laddE, am_lsubE, am_upO, am_upS, am_stS, am_stO, am_tnn, am_brl, am_brg, am_bre, am_brn, am_brG, am_brL, am_st1, am_no2, am_st2, am_clr]
        rw [e2]
        refine am_wp_ls (ih2 (by omega) L (frR_tr k1 l1) (l0.trans k0) ?_) rfl
        have e6 : nameT (ws.take (i + 1)) = nameT (ws.take i) ++ [96 + ((ws.getD i 0 : Nat) : Int)] := by
          unfold nameT
          rw [List.take_succ, List.map_append, List.getD_eq_getElem?_getD, List.getElem?_eq_getElem (show i < ws.length by omega)]
          rfl
        rw [e6, ← List.append_assoc]
        exact l2
    refine am_wp_ls (L 0 (by omega) J j1 rfl (by simpa [nameT] using j2)) (by rw [Int.natCast_zero, Int.sub_zero])
  · have hlt : n < ws.length := by
      rcases Nat.lt_or_ge n ws.length with h1 | h1
      · exact h1
      · rw [show ws.length - n = 0 by omega, List.take_zero] at b9
        exact absurd (by decide) b9
    obtain ⟨p, hp⟩ : ∃ p, ws.length - n = p + 1 := ⟨ws.length - n - 1, by omega⟩
    have e3 := nm27_take (ws := ws) (n := p) (by omega)
    have e4 := hl.2.2 p (by omega)
    rw [hp] at hb1 ⊢
    have e5 : ((nm27 (ws.take (p + 1)) : Nat) : Int) % 27 = ((ws.getD p 0 : Nat) : Int) := by omega
    have e6 : ((nm27 (ws.take (p + 1)) : Nat) : Int) / 27 = ((nm27 (ws.take p) : Nat) : Int) := by omega
    refine am_wp_go rfl (by simp (disch := omega) only [s124 hw, r124_28 hw, s136 hw, am_lremE, am_ldivE, e5, e6, am_l2iE, am_addE, am_subE, am_mulE, am_laddE, am_lsubE, am_upO, am_upS, am_stS, am_stO, am_tnn, am_brl, am_brg, am_bre, am_brn, am_brG, am_brL, am_st1, am_no2, am_st2, am_clr, and_self, true_and, and_true, true_or, or_true, List.length_cons, List.length_nil] <;> omega) ?_
    rw [r124_28 hw]
    simp (disch := omega) only [s124 hw, r124_28 hw, s136 hw, am_lremE, am_ldivE, e5, e6, am_l2iE, am_addE, am_subE, am_mulE, am_laddE, am_lsubE, am_upO, am_upS, am_stS, am_stO, am_tnn, am_brl, am_brg, am_bre, am_brn, am_brG, am_brL, am_st1, am_no2, am_st2, am_clr]
    refine am_wp_ls (ih (by omega) _ ⟨fun a h1 h2 h3 => by rw [am_upO h3, j1.1 a h1 h2 h3], fun j hj => by rw [am_upO (by decide), j1.2 j hj]⟩ ⟨by rw [am_upO (by decide)]; exact j2.1, j2.2.1, fun i hi => by rw [am_upO (by decide)]; exact j2.2.2 i hi⟩ (fun i hi => ?_)) (by rw [show ws.length - (n + 1) = p by omega]; rfl)
    rw [am_upS]
    by_cases hin : i = n
    · subst hin
      rw [am_stS rfl, show ws.length - 1 - i = p by omega]
      omega
    · rw [am_stO hin]; exact j3 i (by omega)
/-- GO k as a text; the first k GOES -/
def goT (ls : Nat → List Nat) (G : List Go) (k : Nat) : List Int := nameT (ls (gS G k).toNat) ++ ([32] ++ ([if gU G k = 0 then 116 else 117] ++ ([32] ++ numT (gB G k) ++ ([32] ++ numT (gL G k) ++ ([32] ++ numT (gN G k) ++ [59])))))
def wrT (ls : Nat → List Nat) (G : List Go) : Nat → List Int
  | 0 => []
  | k + 1 => wrT ls G k ++ goT ls G k
theorem goT_len {ls : Nat → List Nat} {k : Nat} (hl : letOk (ls (gS G k).toNat)) (h1 : gL G k ≤ 9) (h2 : gN G k ≤ 99) : (goT ls G k).length ≤ 18 := by
  have a1 := (numT_len (v := gB G k)).1
  have a2 := (numT_len (v := gL G k)).2.2 h1
  have a3 := (numT_len (v := gN G k)).2.1 h2
  have a4 := hl.2.1
  unfold goT nameT
  simp
  omega
theorem wrT_len {ls : Nat → List Nat} (hg : gok G) (hl : ∀ k, k < G.length → letOk (ls (gS G k).toNat)) : ∀ k, k ≤ G.length → (wrT ls G k).length ≤ 18 * k := by
  intro k
  induction k with
  | zero => intro _; exact Nat.le_refl 0
  | succ k ih =>
    intro hk
    have h1 := ih (by omega)
    have g1 := hg.2 k (by omega)
    have h2 := goT_len (hl k (by omega)) (by omega) (by omega)
    unfold wrT
    rw [List.length_append]
    omega
end WRITE
