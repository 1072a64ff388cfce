/-! served() by the reference; the two together -/
section SV
variable {m sl : Nat} {sh : Nat → Nat × Nat} {I : Nat → Nat → Int} {R : Nat → Nat → Nat} {Q : am_R → am_M → Prop} {d n P : Nat}
set_option maxRecDepth 8000 in
set_option maxHeartbeats 4000000 in
theorem r_served {x : Int} (hw : wd sh R) (hb : beg I) (hk : wk (lw I)) (hn : n = nG (lw I)) (hP : lw I 0 = (P : Int)) (h0 : ¬ (1 ≤ x ∧ x ≤ 40) → ∀ J, rq I J → Q (am_yi (-1)) (m, sl, sh, J, R)) (h1 : ∀ u : Nat, x = (u : Int) → 1 ≤ u → u ≤ 40 → ∀ J a B, (∀ a, ¬ (a = 124 ∨ a = 126 ∨ 152 ≤ a ∧ a ≤ 154) → J a = I a) → (∀ j, j ≠ 0 → j ≠ 23 → j ≠ 49 → J 124 j = I 124 j) → now_same I J → J 124 49 = (n : Int) → gzT n P (341 / u + 1) gzAll (gzv (lw I) u) B → gzTr n P (341 / u + 1) gzAll (gzv (lw I) u) B a → (∀ g, g < n → J 153 g = if a g = 0 then -1 else ((a g * u : Nat) : Int)) → Q (am_yi (B 1 0)) (m, sl, sh, J, R)) : am_wp (d + 3) 297 0 [some (.inr (.inr (124))), some (.inl (x)), none, none, none, none, none, none, none, none] [] (m, sl, sh, I, R) Q := by
  have n3 := wk_nG hk
  rw [← hn] at n3
  refine am_wp_go rfl (by simp (disch := omega) only [s124 hw, am_upO, am_upS, and_self, true_and, and_true] <;> omega) ?_
  have q0 := rq_thrown (I := I) (x := 0)
  have z0 : ∀ a, a ≠ 124 → am_up I 124 0 0 a = I a := fun a ha => am_upO ha
  have z1 : ∀ j, j ≠ 0 → am_up I 124 0 0 124 j = I 124 j := fun j hj => by rw [am_upS, am_stO hj]
  generalize am_up I 124 0 0 = I0 at q0 z0 z1 ⊢
  refine am_wp_cc rfl rfl rfl (congrArg Prod.fst (s124 hw)) (w_M_lay hw (beg_rq q0 hb) (fun J j1 j2 j3 j4 => ⟨_, rfl, ?_⟩))
  have q1 := rq_trans q0 (rq_lay j1 j2 j3 j4)
  rw [rq_lw q0] at j4
  rw [← j4] at hk h1 n3 hn hP
  refine am_wp_go rfl (by simp (disch := omega) only [s124 hw, r124_14 hw, s126 hw, am_b0, am_bn0, Int.reduceToNat, am_addE, am_subE, am_mulE, am_laddE, am_lsubE, am_upO, am_upS, am_stS, am_stO, am_tnn, am_brl, am_brg, am_bre, am_brn, am_brG, am_brL, am_st1, am_no2, am_st2, am_clr, and_self, true_and, and_true, true_or, or_true, List.length_cons, List.length_nil] <;> omega) ?_
  try simp (disch := omega) only [s124 hw, r124_14 hw, s126 hw, am_b0, am_bn0, Int.reduceToNat, am_addE, am_subE, am_mulE, am_laddE, am_lsubE, am_upO, am_upS, am_stS, am_stO, am_tnn, am_brl, am_brg, am_bre, am_brn, am_brG, am_brL, am_st1, am_no2, am_st2, am_clr]
  refine am_wp_cc rfl rfl rfl (trivial) (w_M_isIn ⟨_, rfl, ?_⟩)
  refine am_wp_go rfl (by simp (disch := omega) only [s124 hw, r124_14 hw, s126 hw, am_b0, am_bn0, Int.reduceToNat, am_addE, am_subE, am_mulE, am_laddE, am_lsubE, am_upO, am_upS, am_stS, am_stO, am_tnn, am_brl, am_brg, am_bre, am_brn, am_brG, am_brL, am_st1, am_no2, am_st2, am_clr, and_self, true_and, and_true, true_or, or_true, List.length_cons, List.length_nil] <;> omega) ?_
  try simp (disch := omega) only [s124 hw, r124_14 hw, s126 hw, am_b0, am_bn0, Int.reduceToNat, am_addE, am_subE, am_mulE, am_laddE, am_lsubE, am_upO, am_upS, am_stS, am_stO, am_tnn, am_brl, am_brg, am_bre, am_brn, am_brG, am_brL, am_st1, am_no2, am_st2, am_clr]
  refine am_wp_br (fun b16 => ?_) (fun b16 => ?_)
  · obtain ⟨u, hu⟩ : ∃ u : Nat, x = (u : Int) := ⟨x.toNat, by omega⟩
    have h2 := h1 u hu (by omega) (by omega)
    clear h1 h0
    subst hu
    have p8 : 2 ^ n ≤ 256 := Nat.pow_le_pow_right (n := 2) (by decide) n3.2
    have dE : (341 : Int) / (u : Int) = ((341 / u : Nat) : Int) := (Int.natCast_ediv 341 u).symm
    have lE := Nat.div_le_self 341 u
    generalize 341 / u = E at *
    have n4 := n3.1
    -- from the table on
    have L2 : ∀ (K : Nat → Nat → Int), (∀ x, x ≠ 152 → K x = J x) → (∀ S, S < 2 ^ n → K 152 (256 * E + S) = 0) → am_wp (d + 3) 297 76 [some (.inr (.inr (124))), some (.inl ((u : Int))), some (.inl ((n : Int))), some (.inl (((2 ^ n : Nat) : Int))), some (.inl ((E : Int))), some (.inl (((E : Int) - 1))), none, none, none, none] [] (m, sl, sh, K, R) Q := by
      intro K k1 k2
      have K126 : K 126 = J 126 := k1 126 (by decide)
      refine w_M_svtab (d := d + 1) hw (by rw [K126]; exact hk) (by rw [K126]; exact hn) (by rw [K126]; exact hP) (by omega) lE k2 (fun L z6 z7 z8 z9 l1 l2 l3 l4 => ?_)
      have L3 : ∀ g : Nat, g ≤ n → ∀ (V : Nat → Nat → Int), (∀ x, x ≠ 153 → V x = L x) → (∀ h, h < g → V 153 h = -1) → am_wp (d + 3) 297 260 [some (.inr (.inr (124))), some (.inl ((u : Int))), some (.inl ((n : Int))), some (.inl (((2 ^ n : Nat) : Int))), some (.inl ((E : Int))), some (.inl ((g : Int))), z6, z7, z8, z9] [] (m, sl, sh, V, R) Q := by
        refine am_lp n (fun g hg ih V v1 v2 => ?_)
        refine am_wp_go rfl (by simp (disch := omega) only [s124 hw, r124_48 hw, s153 hw, am_b0, am_bn0, Int.reduceToNat, am_addE, am_subE, am_mulE, am_laddE, am_lsubE, am_upO, am_upS, am_stS, am_stO, am_tnn, am_brl, am_brg, am_bre, am_brn, am_brG, am_brL, am_st1, am_no2, am_st2, am_clr, and_self, true_and, and_true, true_or, or_true, List.length_cons, List.length_nil] <;> omega) ?_
        try simp (disch := omega) only [s124 hw, r124_48 hw, s153 hw, am_b0, am_bn0, Int.reduceToNat, am_addE, am_subE, am_mulE, am_laddE, am_lsubE, am_upO, am_upS, am_stS, am_stO, am_tnn, am_brl, am_brg, am_bre, am_brn, am_brG, am_brL, am_st1, am_no2, am_st2, am_clr]
        refine am_wp_br (fun b263 => ?_) (fun b263 => ?_)
        · refine am_wp_go rfl (by simp (disch := omega) only [s124 hw, r124_48 hw, s153 hw, am_b0, am_bn0, Int.reduceToNat, am_addE, am_subE, am_mulE, am_laddE, am_lsubE, am_upO, am_upS, am_stS, am_stO, am_tnn, am_brl, am_brg, am_bre, am_brn, am_brG, am_brL, am_st1, am_no2, am_st2, am_clr, and_self, true_and, and_true, true_or, or_true, List.length_cons, List.length_nil] <;> omega) ?_
          simp (disch := omega) only [s124 hw, r124_48 hw, s153 hw, am_b0, am_bn0, Int.reduceToNat, am_addE, am_subE, am_mulE, am_laddE, am_lsubE, am_upO, am_upS, am_stS, am_stO, am_tnn, am_brl, am_brg, am_bre, am_brn, am_brG, am_brL, am_st1, am_no2, am_st2, am_clr]
          have F : ∀ x, x ≠ 124 → am_up V 124 49 (n : Int) x = V x := fun x hx => am_upO hx
          have F2 : ∀ j, j ≠ 49 → am_up V 124 49 (n : Int) 124 j = V 124 j := fun j hj => by rw [am_upS, am_stO hj]
          have F3 : am_up V 124 49 (n : Int) 124 49 = (n : Int) := by rw [am_upS, am_stS rfl]
          generalize am_up V 124 49 (n : Int) = Z at *
          have Z126 : Z 126 = J 126 := by rw [F 126 (by decide), v1 126 (by decide), l1 126 (by decide), K126]
          have Z152 : Z 152 = L 152 := by rw [F 152 (by decide), v1 152 (by decide)]
          refine w_M_svtrace (d := d + 1) (n := n) (P := P) (u := u) (E := E) (z5 := none) (z6 := none) hw (by rw [Z126]; exact hk) (by rw [Z126]; exact hn) (by rw [Z126]; exact hP) (by omega) lE (by rw [Z126, Z152, ← K126]; exact l2) (by rw [Z152]; exact l3) (fun h hh => by rw [F 153 (by decide)]; exact v2 h (by omega)) (fun Y a y1 y2 y3 => ?_)
          have hT : gzT n P (E + 1) gzAll (gzv (J 126) u) (gzBR (L 152)) := gz_tabR (by rw [← K126]; exact l2) l4
          rw [Z126, Z152] at y2
          have h3 := h2 Y a _ (fun x hx => ?_) (fun j a1 a2 a3 => ?_) (Or.inr ⟨?_, ?_⟩) ?_ hT y2 y3
          · rw [Z152]
            unfold gzBR at h3
            exact h3
          · rw [y1 x (by omega), F x (by omega), v1 x (by omega), l1 x (by omega), k1 x (by omega), j1 x (by omega) (by omega), z0 x (by omega)]
          · rw [y1 124 (by decide), F2 j a3, v1 124 (by decide), l1 124 (by decide), k1 124 (by decide), j2 j a2, z1 j a1]
          · rw [y1 124 (by decide), F2 23 (by decide), v1 124 (by decide), l1 124 (by decide), k1 124 (by decide)]; exact j3
          · rw [y1 126 (by decide), Z126]; exact j4
          · rw [y1 124 (by decide)]; exact F3
        · refine am_wp_go rfl (by simp (disch := omega) only [s124 hw, r124_48 hw, s153 hw, am_b0, am_bn0, Int.reduceToNat, am_addE, am_subE, am_mulE, am_laddE, am_lsubE, am_upO, am_upS, am_stS, am_stO, am_tnn, am_brl, am_brg, am_bre, am_brn, am_brG, am_brL, am_st1, am_no2, am_st2, am_clr, and_self, true_and, and_true, true_or, or_true, List.length_cons, List.length_nil] <;> omega) ?_
          try simp (disch := omega) only [s124 hw, r124_48 hw, s153 hw, am_b0, am_bn0, Int.reduceToNat, am_addE, am_subE, am_mulE, am_laddE, am_lsubE, am_upO, am_upS, am_stS, am_stO, am_tnn, am_brl, am_brg, am_bre, am_brn, am_brG, am_brL, am_st1, am_no2, am_st2, am_clr]
          refine am_wp_ls (ih (by omega) _ (fun y hy => by rw [am_upO hy, v1 y hy]) (fun h hh => ?_)) rfl
          rw [am_upS]
          by_cases e : h = g
          · rw [am_stS e]
          · rw [am_stO e]; exact v2 h (by omega)
      exact am_wp_ls (L3 0 (Nat.zero_le n) L (fun _ _ => rfl) (fun h hh => absurd hh (Nat.not_lt_zero h))) rfl
    have L1 : ∀ S : Nat, S ≤ 2 ^ n → ∀ (K : Nat → Nat → Int), (∀ x, x ≠ 152 → K x = J x) → (∀ X, X < S → K 152 (256 * E + X) = 0) → am_wp (d + 3) 297 43 [some (.inr (.inr (124))), some (.inl ((u : Int))), some (.inl ((n : Int))), some (.inl (((2 ^ n : Nat) : Int))), some (.inl ((E : Int))), some (.inl ((S : Int))), none, none, none, none] [] (m, sl, sh, K, R) Q := by
      refine am_lp (2 ^ n) (fun S hS ih K k1 k2 => ?_)
      refine am_wp_go rfl (by simp (disch := omega) only [s124 hw, r124_47 hw, s152 hw, am_tnA, am_tnM, Int.reduceToNat, am_addE, am_subE, am_mulE, am_laddE, am_lsubE, am_upO, am_upS, am_stS, am_stO, am_tnn, am_brl, am_brg, am_bre, am_brn, am_brG, am_brL, am_st1, am_no2, am_st2, am_clr, and_self, true_and, and_true, true_or, or_true, List.length_cons, List.length_nil] <;> omega) ?_
      try simp (disch := omega) only [s124 hw, r124_47 hw, s152 hw, am_tnA, am_tnM, Int.reduceToNat, am_addE, am_subE, am_mulE, am_laddE, am_lsubE, am_upO, am_upS, am_stS, am_stO, am_tnn, am_brl, am_brg, am_bre, am_brn, am_brG, am_brL, am_st1, am_no2, am_st2, am_clr]
      refine am_wp_br (fun b46 => ?_) (fun b46 => ?_)
      · refine am_wp_go rfl (by simp (disch := omega) only [s124 hw, r124_47 hw, s152 hw, am_tnA, am_tnM, Int.reduceToNat, am_addE, am_subE, am_mulE, am_laddE, am_lsubE, am_upO, am_upS, am_stS, am_stO, am_tnn, am_brl, am_brg, am_bre, am_brn, am_brG, am_brL, am_st1, am_no2, am_st2, am_clr, and_self, true_and, and_true, true_or, or_true, List.length_cons, List.length_nil] <;> omega) ?_
        try simp (disch := omega) only [s124 hw, r124_47 hw, s152 hw, am_tnA, am_tnM, Int.reduceToNat, am_addE, am_subE, am_mulE, am_laddE, am_lsubE, am_upO, am_upS, am_stS, am_stO, am_tnn, am_brl, am_brg, am_bre, am_brn, am_brG, am_brL, am_st1, am_no2, am_st2, am_clr]
        exact am_wp_ls (L2 K k1 (fun X hX => k2 X (by omega))) rfl
      · refine am_wp_go rfl (by simp (disch := omega) only [s124 hw, r124_47 hw, s152 hw, am_tnA, am_tnM, Int.reduceToNat, am_addE, am_subE, am_mulE, am_laddE, am_lsubE, am_upO, am_upS, am_stS, am_stO, am_tnn, am_brl, am_brg, am_bre, am_brn, am_brG, am_brL, am_st1, am_no2, am_st2, am_clr, and_self, true_and, and_true, true_or, or_true, List.length_cons, List.length_nil] <;> omega) ?_
        try simp (disch := omega) only [s124 hw, r124_47 hw, s152 hw, am_tnA, am_tnM, Int.reduceToNat, am_addE, am_subE, am_mulE, am_laddE, am_lsubE, am_upO, am_upS, am_stS, am_stO, am_tnn, am_brl, am_brg, am_bre, am_brn, am_brG, am_brL, am_st1, am_no2, am_st2, am_clr]
        refine am_wp_ls (ih (by omega) _ (fun y hy => by rw [am_upO hy, k1 y hy]) (fun X hX => ?_)) rfl
        rw [am_upS]
        by_cases e : X = S
        · rw [am_stS (by rw [e])]
        · rw [am_stO (by omega)]; exact k2 X (by omega)
    refine am_wp_go rfl (by simp (disch := omega) only [s124 hw, r124_14 hw, s126 hw, n4, Int.reduceToNat, am_shl1, am_divE, dE, am_addE, am_subE, am_mulE, am_laddE, am_lsubE, am_upO, am_upS, am_stS, am_stO, am_tnn, am_brl, am_brg, am_bre, am_brn, am_brG, am_brL, am_st1, am_no2, am_st2, am_clr, and_self, true_and, and_true, true_or, or_true, List.length_cons, List.length_nil] <;> omega) ?_
    try simp (disch := omega) only [s124 hw, r124_14 hw, s126 hw, n4, Int.reduceToNat, am_shl1, am_divE, dE, am_addE, am_subE, am_mulE, am_laddE, am_lsubE, am_upO, am_upS, am_stS, am_stO, am_tnn, am_brl, am_brg, am_bre, am_brn, am_brG, am_brL, am_st1, am_no2, am_st2, am_clr]
    exact am_wp_ls (L1 0 (Nat.zero_le _) J (fun _ _ => rfl) (fun X hX => absurd hX (Nat.not_lt_zero X))) rfl
  · refine am_wp_go rfl (by simp (disch := omega) only [s124 hw, r124_14 hw, s126 hw, am_b0, am_bn0, Int.reduceToNat, am_addE, am_subE, am_mulE, am_laddE, am_lsubE, am_upO, am_upS, am_stS, am_stO, am_tnn, am_brl, am_brg, am_bre, am_brn, am_brG, am_brL, am_st1, am_no2, am_st2, am_clr, and_self, true_and, and_true, true_or, or_true, List.length_cons, List.length_nil] <;> omega) ?_
    try simp (disch := omega) only [s124 hw, r124_14 hw, s126 hw, am_b0, am_bn0, Int.reduceToNat, am_addE, am_subE, am_mulE, am_laddE, am_lsubE, am_upO, am_upS, am_stS, am_stO, am_tnn, am_brl, am_brg, am_bre, am_brn, am_brG, am_brL, am_st1, am_no2, am_st2, am_clr]
    refine am_wp_ret rfl rfl ?_
    exact h0 (by omega) _ q1
end SV
theorem gz_both {W : Nat → Int} {n P u : Nat} {a b : Nat → Nat} {A B : Nat → Nat → Int} (hk : wk W) (hn : n = nG W) (hP : W 0 = (P : Int)) (hu : 1 ≤ u ∧ u ≤ 40) (hT : gzT n P 249 (gzD W u (gzk n P)) (gzv W u) A) (ht : gzTr n P 249 (gzD W u (gzk n P)) (gzv W u) A a) (rT : gzT n P (341 / u + 1) gzAll (gzv W u) B) (rt : gzTr n P (341 / u + 1) gzAll (gzv W u) B b) : (∀ g, g < n → b g = a g) ∧ B 1 0 = A 1 0 := by
  have n3 := wk_nG hk
  rw [← hn] at n3
  have p4 := hk.1
  unfold wk0 at p4
  have kk := gzk_le (n := n) (P := P) (by omega) n3.2
  have G : ∀ g, g < n → ∃ c w : Nat, W (32 + 2 * g) = (c : Int) ∧ W (32 + 2 * g + 1) = (w : Int) ∧ c ≤ 240 ∧ w ≤ 99 ∧ gzla W u g = c / u := fun g hg => by
    have b := hk.2.2.1 g (by omega)
    exact ⟨(W (32 + 2 * g)).toNat, (W (32 + 2 * g + 1)).toNat, by omega, by omega, by omega, by omega, rfl⟩
  have dl : ∀ c r : Nat, r ≤ c / u ↔ r * u ≤ c := fun c r => Nat.le_div_iff_mul_le (by omega)
  have ml : ∀ r q : Nat, r < q → r * u + u ≤ q * u := fun r q h => by rw [← Nat.succ_mul]; exact Nat.mul_le_mul_right u h
  refine gz_same (la := gzla W u) (k := gzk n P) rT rt hT ht (fun g hg r => ?_) kk.2 (fun g hg => ?_) (fun g hg r q h1 h2 h3 => ?_) (fun g hg r q h1 h2 h3 => ?_) (Nat.succ_le_succ (Nat.zero_le _)) (by decide) (fun g hg r hr => ?_) (fun g hg => ?_) (fun g hg r h3 => ?_)
  · obtain ⟨c, w, e1, e2, b1, b2, e3⟩ := G g hg
    exact (wtF_le (by omega)).1
  · obtain ⟨c, w, e1, e2, b1, b2, e3⟩ := G g hg
    rw [e3]
    have : c / u ≤ 341 / u := Nat.div_le_div_right (by omega)
    omega
  · obtain ⟨c, w, e1, e2, b1, b2, e3⟩ := G g hg
    rw [e3, dl] at h2
    have m1 := ml r q h1
    unfold gzv gzf wtF at h3 ⊢
    rw [e1, e2] at h3 ⊢
    generalize r * u = x at *
    generalize q * u = y at *
    by_cases c1 : W 2 < (c : Int) - (x : Int)
    · rw [if_pos c1] at h3; exact absurd h3 (by decide)
    · rw [if_neg c1, if_neg (by omega), if_neg (by omega), if_neg (by omega), if_neg (by omega), if_neg (by omega)]
  · obtain ⟨c, w, e1, e2, b1, b2, e3⟩ := G g hg
    have h1 : ¬ q ≤ c / u := by omega
    rw [dl] at h1
    have m1 := ml q r h2
    unfold gzv gzf wtF at h3 ⊢
    rw [e1, e2] at h3 ⊢
    generalize r * u = x at *
    generalize q * u = y at *
    rw [if_neg (by omega)] at h3 ⊢
    by_cases c1 : (w : Int) < (x : Int) - (c : Int)
    · rw [if_pos c1] at h3; exact absurd h3 (by decide)
    · rw [if_neg c1, if_pos (by omega), if_neg (by omega), if_neg (by omega), if_pos (by omega)]; omega
  · unfold gzD gzv
    rw [decide_eq_true_iff]
    exact ⟨fun h => h.2, fun h => ⟨hr, h⟩⟩
  · obtain ⟨c, w, e1, e2, b1, b2, e3⟩ := G g hg
    rw [e3]
    have := Nat.div_le_self c u
    omega
  · obtain ⟨c, w, e1, e2, b1, b2, e3⟩ := G g hg
    have : r ≤ 341 / u := by
      rw [dl]
      unfold gzv gzf wtF at h3
      rw [e1, e2] at h3
      generalize r * u = x at *
      by_cases c1 : W 2 < (c : Int) - (x : Int)
      · rw [if_pos c1] at h3; exact absurd h3 (by decide)
      · rw [if_neg c1] at h3
        by_cases c2 : (w : Int) < (x : Int) - (c : Int)
        · rw [if_pos c2] at h3; exact absurd h3 (by decide)
        · omega
    omega
theorem cp_served {X : Nat → Int} {I J K : Nat → Nat → Int} {n : Nat} (h : cp X I) (c1 : ∀ x, ¬ (80 ≤ x ∧ x ≤ 85) → J x = I x) (c2 : J 80 5 = (n : Int)) (hn : n ≤ 8) (r1 : ∀ a, ¬ (a = 124 ∨ a = 126 ∨ 152 ≤ a ∧ a ≤ 154) → K a = J a) (r2 : ∀ j, j ≠ 0 → j ≠ 23 → j ≠ 49 → K 124 j = J 124 j) (r3 : now_same J K) (r4 : K 124 49 = (n : Int)) (e : ∀ g, g < n → J 85 g = K 153 g) : cp X K := by
  have e124 : J 124 = I 124 := c1 124 (by omega)
  have e126 : J 126 = I 126 := c1 126 (by omega)
  have eq : ∀ a, ¬ (80 ≤ a ∧ a ≤ 85 ∨ a = 124 ∨ a = 126 ∨ 152 ≤ a ∧ a ≤ 154) → K a = I a := fun a ha => by rw [r1 a (by omega), c1 a (by omega)]
  have ns : now_same I K := by
    unfold now_same at r3 ⊢
    have : lw J = lw I := by unfold lw; rw [e124, e126]
    rw [e124, e126, this] at r3
    exact r3
  obtain ⟨-, -, -, -, -, -, t, x, f, -, p⟩ := id h
  refine core_cp (core_fr (cp_core h) (fun a ha => eq a (by omega)) (by rw [eq 92 (by omega)]) (by rw [eq 108 (by omega)]) (by rw [r2 22 (by decide) (by decide) (by decide), e124]) ns) ?_ ?_ ?_ ⟨n, hn, ?_, r4, fun g hg => ?_⟩ ?_
  · unfold cpT at t ⊢
    rw [eq 55 (by omega), r2 2 (by decide) (by decide) (by decide), e124, eq 125 (by omega), eq 56 (by omega)]; exact t
  · unfold cpX at x ⊢
    rw [eq 4 (by omega), r2 29 (by decide) (by decide) (by decide), e124, eq 135 (by omega), eq 89 (by omega)]; exact x
  · unfold cpF at f ⊢
    rw [eq 4 (by omega), r2 10 (by decide) (by decide) (by decide), r2 26 (by decide) (by decide) (by decide), e124]; exact f
  · rw [r1 80 (by omega)]; exact c2
  · rw [r1 85 (by omega)]; exact e g hg
  · unfold cpP at p ⊢
    rw [eq 86 (by omega), r2 53 (by decide) (by decide) (by decide), e124, eq 88 (by omega), eq 156 (by omega)]; exact p
