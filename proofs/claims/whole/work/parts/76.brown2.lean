/-! BROWN: the class -/
theorem cho_V : ∀ k : Fin 36, am_cho k.val = ((am_nth 0 [1, 0, 0, 0, 0, 0, 1, 1, 0, 0, 0, 0, 1, 2, 1, 0, 0, 0, 1, 3, 3, 1, 0, 0, 1, 4, 6, 4, 1, 0, 1, 5, 10, 10, 5, 1] k.val : Nat) : Int) := by decide +kernel
theorem chV_le : ∀ k : Fin 36, am_nth 0 [1, 0, 0, 0, 0, 0, 1, 1, 0, 0, 0, 0, 1, 2, 1, 0, 0, 0, 1, 3, 3, 1, 0, 0, 1, 4, 6, 4, 1, 0, 1, 5, 10, 10, 5, 1] k.val ≤ 10 := by decide +kernel
theorem fsum_s {f : Nat → Int} {k : Nat} : am_fsum f (k + 1) = am_fsum f k + f k := rfl
theorem fsum_tail {f : Nat → Int} {k n : Nat} (hkn : k ≤ n) (h : ∀ j, k ≤ j → j < n → f j = 0) : am_fsum f n = am_fsum f k := by
  obtain ⟨e, rfl⟩ : ∃ e, n = k + e := ⟨n - k, by omega⟩
  clear hkn
  induction e with
  | zero => rfl
  | succ e ih =>
    rw [← Nat.add_assoc]
    rw [fsum_s]
    rw [ih (fun j h1 h2 => h j h1 (by omega)), h (k + e) (by omega) (by omega)]
    omega
section BROWN
variable {m sl : Nat} {sh : Nat → Nat × Nat} {I : Nat → Nat → Int} {R : Nat → Nat → Nat} {Q : am_R → am_M → Prop} {d : Nat} {F : Nat → Nat → Int} {p : Nat}
theorem w_fillL {a n : Nat} {x : Int} (h4 : 4 ≤ a) (hs : sh a = (35, n)) (hn : n ≤ 100000) (h : ∀ J, (∀ b, b ≠ a → J b = I b) → (∀ j, j < n → J a j = x) → Q am_yv (m, sl, sh, J, R)) : am_wp (d) 327 0 [some (.inr (.inr (a))), some (.inr (.inl (x))), none, none, none] [] (m, sl, sh, I, R) Q := by
  refine am_wp_go rfl (by simp (disch := omega) only [hs, am_addE, am_subE, am_mulE, am_laddE, am_lsubE, am_upO, am_upS, am_stS, am_stO, am_tnn, am_brl, am_brg, am_bre, am_brn, am_brG, am_brL, am_st1, am_no2, am_st2, am_clr, and_self, true_and, and_true, true_or, or_true, List.length_cons, List.length_nil] <;> omega) ?_
  try simp (disch := omega) only [hs, am_addE, am_subE, am_mulE, am_laddE, am_lsubE, am_upO, am_upS, am_stS, am_stO, am_tnn, am_brl, am_brg, am_bre, am_brn, am_brG, am_brL, am_st1, am_no2, am_st2, am_clr]
  refine am_lp0 (P := fun i => ∀ J, (∀ b, b ≠ a → J b = I b) → (∀ j, j < i → J a j = x) → am_wp (d) 327 6 [some (.inr (.inr (a))), some (.inr (.inl (x))), none, some (.inl ((i : Int))), some (.inl ((n : Int)))] [] (m, sl, sh, J, R) Q) n (fun i hi ih J j1 j2 => ?_) I (fun _ _ => rfl) (fun j hj => absurd hj (Nat.not_lt_zero j))
  refine am_wp_go rfl (by simp (disch := omega) only [hs, am_addE, am_subE, am_mulE, am_laddE, am_lsubE, am_upO, am_upS, am_stS, am_stO, am_tnn, am_brl, am_brg, am_bre, am_brn, am_brG, am_brL, am_st1, am_no2, am_st2, am_clr, and_self, true_and, and_true, true_or, or_true, List.length_cons, List.length_nil] <;> omega) ?_
  try simp (disch := omega) only [hs, am_addE, am_subE, am_mulE, am_laddE, am_lsubE, am_upO, am_upS, am_stS, am_stO, am_tnn, am_brl, am_brg, am_bre, am_brn, am_brG, am_brL, am_st1, am_no2, am_st2, am_clr]
  refine am_wp_br (fun b9 => ?_) (fun b9 => ?_)
  · refine am_wp_ret rfl rfl ?_
    exact h J j1 (fun j hj => j2 j (by omega))
  · refine am_wp_go rfl (by simp (disch := omega) only [hs, am_addE, am_subE, am_mulE, am_laddE, am_lsubE, am_upO, am_upS, am_stS, am_stO, am_tnn, am_brl, am_brg, am_bre, am_brn, am_brG, am_brL, am_st1, am_no2, am_st2, am_clr, and_self, true_and, and_true, true_or, or_true, List.length_cons, List.length_nil] <;> omega) ?_
    try simp (disch := omega) only [hs, am_addE, am_subE, am_mulE, am_laddE, am_lsubE, am_upO, am_upS, am_stS, am_stO, am_tnn, am_brl, am_brg, am_bre, am_brn, am_brG, am_brL, am_st1, am_no2, am_st2, am_clr]
    refine am_wp_ls (ih (by omega) _ (fun b hb => by rw [am_upO hb, j1 b hb]) (fun j hj => ?_)) rfl
    rw [am_upS]
    by_cases hji : j = i
    · rw [am_stS hji]
    · rw [am_stO hji]; exact j2 j (by omega)
set_option maxHeartbeats 4000000 in
theorem w_waysOfMinute {B S : Nat} (hw : wd sh R) (hs2 : sh 2 = (32, 36)) (h2 : I 2 = am_cho) (hBS : B + S ≤ 5) (hp : p ≤ 4) (hF : ∀ x y, x + y ≤ 5 → I 90 (6 * x + y) = am_j (F x y)) (h : Q (am_yj (am_j (wom F B S p))) (m, sl, sh, I, R)) : am_wp (d) 182 0 [some (.inr (.inr (4))), some (.inl ((B : Int))), some (.inl ((S : Int))), some (.inl ((p : Int))), none, none, none, none, none, none] [] (m, sl, sh, I, R) Q := by
  refine am_wp_go rfl (by simp (disch := omega) only [am_addE, am_subE, am_mulE, am_laddE, am_lsubE, am_upO, am_upS, am_stS, am_stO, am_tnn, am_brl, am_brg, am_bre, am_brn, am_brG, am_brL, am_st1, am_no2, am_st2, am_clr, and_self, true_and, and_true, true_or, or_true, List.length_cons, List.length_nil] <;> omega) ?_
  try simp (disch := omega) only [am_addE, am_subE, am_mulE, am_laddE, am_lsubE, am_upO, am_upS, am_stS, am_stO, am_tnn, am_brl, am_brg, am_bre, am_brn, am_brG, am_brL, am_st1, am_no2, am_st2, am_clr]
  have z0 : (0 : Int) = am_j (am_fsum (wmI F B S p) 0) := by unfold am_fsum; exact (am_j_sm (by decide)).symm
  rw [z0]
  have L : ∀ i, i ≤ B + 1 → ∀ (z7 z8 z9 : Option am_V), am_wp (d) 182 6 [some (.inr (.inr (4))), some (.inl ((B : Int))), some (.inl ((S : Int))), some (.inl ((p : Int))), some (.inr (.inl (am_j (am_fsum (wmI F B S p) i)))), none, some (.inl ((i : Int))), z7, z8, z9] [] (m, sl, sh, I, R) Q := by
    refine am_lp (B + 1) (fun i hi ih z7 z8 z9 => ?_)
    refine am_wp_go rfl (by simp (disch := omega) only [am_addE, am_subE, am_mulE, am_laddE, am_lsubE, am_upO, am_upS, am_stS, am_stO, am_tnn, am_brl, am_brg, am_bre, am_brn, am_brG, am_brL, am_st1, am_no2, am_st2, am_clr, and_self, true_and, and_true, true_or, or_true, List.length_cons, List.length_nil] <;> omega) ?_
    try simp (disch := omega) only [am_addE, am_subE, am_mulE, am_laddE, am_lsubE, am_upO, am_upS, am_stS, am_stO, am_tnn, am_brl, am_brg, am_bre, am_brn, am_brG, am_brL, am_st1, am_no2, am_st2, am_clr]
    refine am_wp_br (fun b9 => ?_) (fun b9 => ?_)
    · have e : i = B + 1 := by omega
      subst e
      refine am_wp_go rfl (by simp (disch := omega) only [am_addE, am_subE, am_mulE, am_laddE, am_lsubE, am_upO, am_upS, am_stS, am_stO, am_tnn, am_brl, am_brg, am_bre, am_brn, am_brG, am_brL, am_st1, am_no2, am_st2, am_clr, and_self, true_and, and_true, true_or, or_true, List.length_cons, List.length_nil] <;> omega) ?_
      try simp (disch := omega) only [am_addE, am_subE, am_mulE, am_laddE, am_lsubE, am_upO, am_upS, am_stS, am_stO, am_tnn, am_brl, am_brg, am_bre, am_brn, am_brG, am_brL, am_st1, am_no2, am_st2, am_clr]
      refine am_wp_ret rfl rfl ?_
      exact h
    · refine am_wp_go rfl (by simp (disch := omega) only [am_addE, am_subE, am_mulE, am_laddE, am_lsubE, am_upO, am_upS, am_stS, am_stO, am_tnn, am_brl, am_brg, am_bre, am_brn, am_brG, am_brL, am_st1, am_no2, am_st2, am_clr, and_self, true_and, and_true, true_or, or_true, List.length_cons, List.length_nil] <;> omega) ?_
      try simp (disch := omega) only [am_addE, am_subE, am_mulE, am_laddE, am_lsubE, am_upO, am_upS, am_stS, am_stO, am_tnn, am_brl, am_brg, am_bre, am_brn, am_brG, am_brL, am_st1, am_no2, am_st2, am_clr]
      refine am_wp_br (fun b15 => ?_) (fun b15 => ?_)
      · refine am_wp_go rfl (by simp (disch := omega) only [am_addE, am_subE, am_mulE, am_laddE, am_lsubE, am_upO, am_upS, am_stS, am_stO, am_tnn, am_brl, am_brg, am_bre, am_brn, am_brG, am_brL, am_st1, am_no2, am_st2, am_clr, and_self, true_and, and_true, true_or, or_true, List.length_cons, List.length_nil] <;> omega) ?_
        try simp (disch := omega) only [am_addE, am_subE, am_mulE, am_laddE, am_lsubE, am_upO, am_upS, am_stS, am_stO, am_tnn, am_brl, am_brg, am_bre, am_brn, am_brG, am_brL, am_st1, am_no2, am_st2, am_clr]
        refine am_wp_ret rfl rfl ?_
        unfold wom at h
        rwa [fsum_tail (k := i) (by omega) (fun j h1 h2 => by unfold wmI; rw [if_neg (by omega)])] at h
      · have ih := ih (by omega)
        rw [fsum_s] at ih
        have eI : wmI F B S p i = am_fsum (wmJ F B S p i) (S + 1) := by unfold wmI; rw [if_pos (by omega)]
        clear h
        refine am_wp_go rfl (by simp (disch := omega) only [am_addE, am_subE, am_mulE, am_laddE, am_lsubE, am_upO, am_upS, am_stS, am_stO, am_tnn, am_brl, am_brg, am_bre, am_brn, am_brG, am_brL, am_st1, am_no2, am_st2, am_clr, and_self, true_and, and_true, true_or, or_true, List.length_cons, List.length_nil] <;> omega) ?_
        try simp (disch := omega) only [am_addE, am_subE, am_mulE, am_laddE, am_lsubE, am_upO, am_upS, am_stS, am_stO, am_tnn, am_brl, am_brg, am_bre, am_brn, am_brG, am_brL, am_st1, am_no2, am_st2, am_clr]
        have z1 : am_fsum (wmI F B S p) i = am_fsum (wmI F B S p) i + am_fsum (wmJ F B S p i) 0 := by
          conv => rhs; rw [show am_fsum (wmJ F B S p i) 0 = 0 from rfl]
          omega
        have M : ∀ j, j ≤ S + 1 → ∀ (z8 z9 : Option am_V), am_wp (d) 182 21 [some (.inr (.inr (4))), some (.inl ((B : Int))), some (.inl ((S : Int))), some (.inl ((p : Int))), some (.inr (.inl (am_j (am_fsum (wmI F B S p) i + am_fsum (wmJ F B S p i) j)))), none, some (.inl ((i : Int))), some (.inl ((j : Int))), z8, z9] [] (m, sl, sh, I, R) Q := by
          refine am_lp (S + 1) (fun j hj ih2 z8 z9 => ?_)
          refine am_wp_go rfl (by simp (disch := omega) only [am_addE, am_subE, am_mulE, am_laddE, am_lsubE, am_upO, am_upS, am_stS, am_stO, am_tnn, am_brl, am_brg, am_bre, am_brn, am_brG, am_brL, am_st1, am_no2, am_st2, am_clr, and_self, true_and, and_true, true_or, or_true, List.length_cons, List.length_nil] <;> omega) ?_
          try simp (disch := omega) only [am_addE, am_subE, am_mulE, am_laddE, am_lsubE, am_upO, am_upS, am_stS, am_stO, am_tnn, am_brl, am_brg, am_bre, am_brn, am_brG, am_brL, am_st1, am_no2, am_st2, am_clr]
          refine am_wp_br (fun b24 => ?_) (fun b24 => ?_)
          · have e : j = S + 1 := by omega
            subst e
            rw [← eI]
            refine am_wp_go rfl (by simp (disch := omega) only [am_addE, am_subE, am_mulE, am_laddE, am_lsubE, am_upO, am_upS, am_stS, am_stO, am_tnn, am_brl, am_brg, am_bre, am_brn, am_brG, am_brL, am_st1, am_no2, am_st2, am_clr, and_self, true_and, and_true, true_or, or_true, List.length_cons, List.length_nil] <;> omega) ?_
            try simp (disch := omega) only [am_addE, am_subE, am_mulE, am_laddE, am_lsubE, am_upO, am_upS, am_stS, am_stO, am_tnn, am_brl, am_brg, am_bre, am_brn, am_brG, am_brL, am_st1, am_no2, am_st2, am_clr]
            exact am_wp_ls (ih _ _ _) rfl
          · refine am_wp_go rfl (by simp (disch := omega) only [am_addE, am_subE, am_mulE, am_laddE, am_lsubE, am_upO, am_upS, am_stS, am_stO, am_tnn, am_brl, am_brg, am_bre, am_brn, am_brG, am_brL, am_st1, am_no2, am_st2, am_clr, and_self, true_and, and_true, true_or, or_true, List.length_cons, List.length_nil] <;> omega) ?_
            try simp (disch := omega) only [am_addE, am_subE, am_mulE, am_laddE, am_lsubE, am_upO, am_upS, am_stS, am_stO, am_tnn, am_brl, am_brg, am_bre, am_brn, am_brG, am_brL, am_st1, am_no2, am_st2, am_clr]
            refine am_wp_br (fun b33 => ?_) (fun b33 => ?_)
            · rw [fsum_tail (k := j) (by omega) (fun q h1 h2 => by unfold wmJ; rw [if_neg (by omega)])] at eI
              rw [← eI]
              refine am_wp_go rfl (by simp (disch := omega) only [am_addE, am_subE, am_mulE, am_laddE, am_lsubE, am_upO, am_upS, am_stS, am_stO, am_tnn, am_brl, am_brg, am_bre, am_brn, am_brG, am_brL, am_st1, am_no2, am_st2, am_clr, and_self, true_and, and_true, true_or, or_true, List.length_cons, List.length_nil] <;> omega) ?_
              try simp (disch := omega) only [am_addE, am_subE, am_mulE, am_laddE, am_lsubE, am_upO, am_upS, am_stS, am_stO, am_tnn, am_brl, am_brg, am_bre, am_brn, am_brG, am_brL, am_st1, am_no2, am_st2, am_clr]
              exact am_wp_ls (ih _ _ _) rfl
            · have ih2 := ih2 (by omega)
              clear ih
              have c1 : I 2 (6 * B + i) = (chV B i : Int) := by rw [h2]; exact cho_V ⟨6 * B + i, by omega⟩
              have c2 : I 2 (6 * S + j) = (chV S j : Int) := by rw [h2]; exact cho_V ⟨6 * S + j, by omega⟩
              have l1 : chV B i ≤ 10 := chV_le ⟨6 * B + i, by omega⟩
              have l2 : chV S j ≤ 10 := chV_le ⟨6 * S + j, by omega⟩
              have l3 : 2 ^ i ≤ 32 := Nat.le_trans (Nat.pow_le_pow_right (by decide) (show i ≤ 5 by omega)) (by decide)
              have l4 : chV B i * 2 ^ i ≤ 10 * 32 := Nat.mul_le_mul l1 l3
              have l5 : chV B i * 2 ^ i * chV S j ≤ 10 * 32 * 10 := Nat.mul_le_mul l4 l2
              have e1 : am_shl (chV B i : Int) (i : Int) = ((chV B i * 2 ^ i : Nat) : Int) := by
                rw [am_shlN ⟨by omega, by omega, ?_⟩]
                · simp
                · have : ((chV B i : Int)) * 2 ^ i = ((chV B i * 2 ^ i : Nat) : Int) := by simp
                  omega
              have e2 : am_lmul ((chV B i * 2 ^ i : Nat) : Int) (chV S j : Int) = am_j ((chV B i * 2 ^ i * chV S j : Nat) : Int) := by
                unfold am_lmul
                rw [Int.natCast_mul (chV B i * 2 ^ i)]
              have q : (6 : Int) * ((B : Int) - (i : Int)) + (S : Int) - (j : Int) + (i : Int) = ((6 * (B - i) + (S - j + i) : Nat) : Int) := by omega
              have e3 := hF (B - i) (S - j + i) (by omega)
              have e4 : wmJ F B S p i j = ((chV B i * 2 ^ i * chV S j : Nat) : Int) * F (B - i) (S - j + i) := by unfold wmJ; rw [if_pos (by omega)]
              rw [fsum_s, e4, ← Int.add_assoc] at ih2
              refine am_wp_go rfl (by simp (disch := omega) only [s4 hw, r4_13 hw, s90 hw, hs2, c1, c2, e1, e2, e3, am_tnA, am_tnM, Int.reduceToNat, q, am_j_mul, am_j_add, am_addE, am_subE, am_mulE, am_laddE, am_lsubE, am_upO, am_upS, am_stS, am_stO, am_tnn, am_brl, am_brg, am_bre, am_brn, am_brG, am_brL, am_st1, am_no2, am_st2, am_clr, and_self, true_and, and_true, true_or, or_true, List.length_cons, List.length_nil] <;> omega) ?_
              try simp (disch := omega) only [s4 hw, r4_13 hw, s90 hw, hs2, c1, c2, e1, e2, e3, am_tnA, am_tnM, Int.reduceToNat, q, am_j_mul, am_j_add, am_addE, am_subE, am_mulE, am_laddE, am_lsubE, am_upO, am_upS, am_stS, am_stO, am_tnn, am_brl, am_brg, am_bre, am_brn, am_brG, am_brL, am_st1, am_no2, am_st2, am_clr]
              exact am_wp_ls (ih2 _ _) rfl
        rw [z1]
        exact am_wp_ls (M 0 (by omega) _ _) rfl
  exact am_wp_ls (L 0 (by omega) none none none) rfl
/-- the tape's SLICES as two bits each -/
def glN (tb : Nat → Nat) : Nat → Nat
  | 0 => 0
  | k + 1 => glN tb k + tb k * 4 ^ k
theorem glN_lt {tb : Nat → Nat} : ∀ k, (∀ i, i < k → tb i ≤ 3) → glN tb k < 4 ^ k
  | 0, _ => Nat.zero_lt_one
  | k + 1, h => by
    have h1 := glN_lt k (fun i hi => h i (by omega))
    have h2 := h k (by omega)
    have h3 : tb k * 4 ^ k ≤ 3 * 4 ^ k := Nat.mul_le_mul_right _ h2
    unfold glN
    rw [Nat.pow_succ]
    omega
theorem cB_z : ∀ n, cB n 0 = 0
  | 0 => rfl
  | n + 1 => by rw [cB_s, Nat.zero_mod, Nat.zero_div, cB_z n]; rfl
theorem cS_z : ∀ n, cS n 0 = 0
  | 0 => rfl
  | n + 1 => by rw [cS_s, Nat.zero_mod, Nat.zero_div, cS_z n]; rfl
theorem cB_top {t : Nat} (ht : t ≤ 3) : ∀ (k n g : Nat), k < n → g < 4 ^ k → cB n (g + t * 4 ^ k) = cB n g + if t = 3 then 1 else 0
  | 0, n + 1, g, _, hg => by
    have : g = 0 := by simpa using hg
    subst this
    rw [cB_s, cB_z, Nat.pow_zero, Nat.mul_one, Nat.zero_add, show t / 4 = 0 by omega, cB_z, show t % 4 = t by omega]
    omega
  | k + 1, n + 1, g, hk, hg => by
    have e : g + t * 4 ^ (k + 1) = g + 4 * (t * 4 ^ k) := by rw [Nat.pow_succ, Nat.mul_comm (4 ^ k) 4, Nat.mul_left_comm]
    rw [Nat.pow_succ] at hg
    have ih := cB_top ht k n (g / 4) (by omega) (by omega)
    rw [e, cB_s, cB_s (t := g), show (g + 4 * (t * 4 ^ k)) % 4 = g % 4 by omega, show (g + 4 * (t * 4 ^ k)) / 4 = g / 4 + t * 4 ^ k by omega, ih]
    omega
theorem cS_top {t : Nat} (ht : t ≤ 3) : ∀ (k n g : Nat), k < n → g < 4 ^ k → cS n (g + t * 4 ^ k) = cS n g + if t = 1 ∨ t = 2 then 1 else 0
  | 0, n + 1, g, _, hg => by
    have : g = 0 := by simpa using hg
    subst this
    rw [cS_s, cS_z, Nat.pow_zero, Nat.mul_one, Nat.zero_add, show t / 4 = 0 by omega, cS_z, show t % 4 = t by omega]
    omega
  | k + 1, n + 1, g, hk, hg => by
    have e : g + t * 4 ^ (k + 1) = g + 4 * (t * 4 ^ k) := by rw [Nat.pow_succ, Nat.mul_comm (4 ^ k) 4, Nat.mul_left_comm]
    rw [Nat.pow_succ] at hg
    have ih := cS_top ht k n (g / 4) (by omega) (by omega)
    rw [e, cS_s, cS_s (t := g), show (g + 4 * (t * 4 ^ k)) % 4 = g % 4 by omega, show (g + 4 * (t * 4 ^ k)) / 4 = g / 4 + t * 4 ^ k by omega, ih]
    omega
set_option maxHeartbeats 4000000 in
theorem w_waysToBrown {B S n : Nat} (hw : wd sh R) (hs2 : sh 2 = (32, 36)) (h2 : I 2 = am_cho) (hBS : B + S ≤ 5) (hp : p ≤ 4) (hn : n ≤ 10) (h : ∀ J, (∀ a, a ≠ 90 → a ≠ 91 → J a = I a) → Q (am_yj (am_j (brW p n B S))) (m, sl, sh, J, R)) : am_wp (d + 1) 181 0 [some (.inr (.inr (4))), some (.inl ((B : Int))), some (.inl ((S : Int))), some (.inl ((n : Int))), some (.inl ((p : Int))), none, none, none] [] (m, sl, sh, I, R) Q := by
  refine am_wp_go rfl (by simp (disch := omega) only [s4 hw, r4_13 hw, am_addE, am_subE, am_mulE, am_laddE, am_lsubE, am_upO, am_upS, am_stS, am_stO, am_tnn, am_brl, am_brg, am_bre, am_brn, am_brG, am_brL, am_st1, am_no2, am_st2, am_clr, and_self, true_and, and_true, true_or, or_true, List.length_cons, List.length_nil] <;> omega) ?_
  try simp (disch := omega) only [s4 hw, r4_13 hw, am_addE, am_subE, am_mulE, am_laddE, am_lsubE, am_upO, am_upS, am_stS, am_stO, am_tnn, am_brl, am_brg, am_bre, am_brn, am_brG, am_brL, am_st1, am_no2, am_st2, am_clr]
  refine am_wp_cc rfl rfl rfl (trivial) (w_fillL (a := 90) (by decide) (s90 hw) (by decide) (fun J j1 j2 => ⟨_, rfl, ?_⟩))
  refine am_wp_go rfl (by simp (disch := omega) only [s4 hw, r4_13 hw, s90 hw, Int.reduceToNat, am_addE, am_subE, am_mulE, am_laddE, am_lsubE, am_upO, am_upS, am_stS, am_stO, am_tnn, am_brl, am_brg, am_bre, am_brn, am_brG, am_brL, am_st1, am_no2, am_st2, am_clr, and_self, true_and, and_true, true_or, or_true, List.length_cons, List.length_nil] <;> omega) ?_
  try simp (disch := omega) only [s4 hw, r4_13 hw, s90 hw, Int.reduceToNat, am_addE, am_subE, am_mulE, am_laddE, am_lsubE, am_upO, am_upS, am_stS, am_stO, am_tnn, am_brl, am_brg, am_bre, am_brn, am_brG, am_brL, am_st1, am_no2, am_st2, am_clr]
  have L : ∀ t, t ≤ n → ∀ (z6 z7 : Option am_V) (K : Nat → Nat → Int), (∀ a, a ≠ 90 → a ≠ 91 → K a = I a) → (∀ x y, x + y ≤ 5 → K 90 (6 * x + y) = am_j (brW p t x y)) → am_wp (d + 1) 181 18 [some (.inr (.inr (4))), some (.inl ((B : Int))), some (.inl ((S : Int))), some (.inl ((n : Int))), some (.inl ((p : Int))), some (.inl ((t : Int))), z6, z7] [] (m, sl, sh, K, R) Q := by
    refine am_lp n (fun t ht ih z6 z7 K k1 k2 => ?_)
    have e0 := k2 B S hBS
    have q : (6 : Int) * (B : Int) + (S : Int) = ((6 * B + S : Nat) : Int) := by omega
    refine am_wp_go rfl (by simp (disch := omega) only [s4 hw, r4_13 hw, s90 hw, e0, q, am_addE, am_subE, am_mulE, am_laddE, am_lsubE, am_upO, am_upS, am_stS, am_stO, am_tnn, am_brl, am_brg, am_bre, am_brn, am_brG, am_brL, am_st1, am_no2, am_st2, am_clr, and_self, true_and, and_true, true_or, or_true, List.length_cons, List.length_nil] <;> omega) ?_
    try simp (disch := omega) only [s4 hw, r4_13 hw, s90 hw, e0, q, am_addE, am_subE, am_mulE, am_laddE, am_lsubE, am_upO, am_upS, am_stS, am_stO, am_tnn, am_brl, am_brg, am_bre, am_brn, am_brG, am_brL, am_st1, am_no2, am_st2, am_clr]
    refine am_wp_br (fun b21 => ?_) (fun b21 => ?_)
    · refine am_wp_go rfl (by simp (disch := omega) only [s4 hw, r4_13 hw, s90 hw, e0, q, am_addE, am_subE, am_mulE, am_laddE, am_lsubE, am_upO, am_upS, am_stS, am_stO, am_tnn, am_brl, am_brg, am_bre, am_brn, am_brG, am_brL, am_st1, am_no2, am_st2, am_clr, and_self, true_and, and_true, true_or, or_true, List.length_cons, List.length_nil] <;> omega) ?_
      try simp (disch := omega) only [s4 hw, r4_13 hw, s90 hw, e0, q, am_addE, am_subE, am_mulE, am_laddE, am_lsubE, am_upO, am_upS, am_stS, am_stO, am_tnn, am_brl, am_brg, am_bre, am_brn, am_brG, am_brL, am_st1, am_no2, am_st2, am_clr]
      refine am_wp_ret rfl rfl ?_
      rw [show n = t by omega] at h
      exact h K k1
    · have ih := ih (by omega)
      clear h
      refine am_wp_go rfl (by simp (disch := omega) only [s4 hw, r4_13 hw, s90 hw, e0, q, am_addE, am_subE, am_mulE, am_laddE, am_lsubE, am_upO, am_upS, am_stS, am_stO, am_tnn, am_brl, am_brg, am_bre, am_brn, am_brG, am_brL, am_st1, am_no2, am_st2, am_clr, and_self, true_and, and_true, true_or, or_true, List.length_cons, List.length_nil] <;> omega) ?_
      try simp (disch := omega) only [s4 hw, r4_13 hw, s90 hw, e0, q, am_addE, am_subE, am_mulE, am_laddE, am_lsubE, am_upO, am_upS, am_stS, am_stO, am_tnn, am_brl, am_brg, am_bre, am_brn, am_brG, am_brL, am_st1, am_no2, am_st2, am_clr]
      have M : ∀ x, x ≤ 6 → ∀ (z7 : Option am_V) (V : Nat → Nat → Int), (∀ a, a ≠ 91 → V a = K a) → (∀ x' y, x' < x → x' + y ≤ 5 → V 91 (6 * x' + y) = am_j (brW p (t + 1) x' y)) → am_wp (d + 1) 181 27 [some (.inr (.inr (4))), some (.inl ((B : Int))), some (.inl ((S : Int))), some (.inl ((n : Int))), some (.inl ((p : Int))), some (.inl ((t : Int))), some (.inl ((x : Int))), z7] [] (m, sl, sh, V, R) Q := by
        refine am_lp 6 (fun x hx ih2 z7 V v1 v2 => ?_)
        refine am_wp_go rfl (by simp (disch := omega) only [s4 hw, r4_13 hw, s90 hw, r4_14 hw, s91 hw, Int.reduceToNat, am_addE, am_subE, am_mulE, am_laddE, am_lsubE, am_upO, am_upS, am_stS, am_stO, am_tnn, am_brl, am_brg, am_bre, am_brn, am_brG, am_brL, am_st1, am_no2, am_st2, am_clr, and_self, true_and, and_true, true_or, or_true, List.length_cons, List.length_nil] <;> omega) ?_
        try simp (disch := omega) only [s4 hw, r4_13 hw, s90 hw, r4_14 hw, s91 hw, Int.reduceToNat, am_addE, am_subE, am_mulE, am_laddE, am_lsubE, am_upO, am_upS, am_stS, am_stO, am_tnn, am_brl, am_brg, am_bre, am_brn, am_brG, am_brL, am_st1, am_no2, am_st2, am_clr]
        refine am_wp_br (fun b30 => ?_) (fun b30 => ?_)
        · have e : x = 6 := by omega
          subst e
          clear ih2
          refine am_wp_go rfl (by simp (disch := omega) only [s4 hw, r4_13 hw, s90 hw, r4_14 hw, s91 hw, Int.reduceToNat, am_addE, am_subE, am_mulE, am_laddE, am_lsubE, am_upO, am_upS, am_stS, am_stO, am_tnn, am_brl, am_brg, am_bre, am_brn, am_brG, am_brL, am_st1, am_no2, am_st2, am_clr, and_self, true_and, and_true, true_or, or_true, List.length_cons, List.length_nil] <;> omega) ?_
          try simp (disch := omega) only [s4 hw, r4_13 hw, s90 hw, r4_14 hw, s91 hw, Int.reduceToNat, am_addE, am_subE, am_mulE, am_laddE, am_lsubE, am_upO, am_upS, am_stS, am_stO, am_tnn, am_brl, am_brg, am_bre, am_brn, am_brG, am_brL, am_st1, am_no2, am_st2, am_clr]
          refine am_wp_ls (ih _ _ _ (fun a h1 h2 => by rw [am_cpyO h1, v1 a h2, k1 a h1 h2]) (fun x y hxy => ?_)) rfl
          rw [am_cpyS]
          dsimp only
          rw [if_pos (by omega), Nat.zero_add, Nat.sub_zero]
          exact v2 x y (by omega) hxy
        · have ih2 := ih2 (by omega)
          clear ih
          refine am_wp_go rfl (by simp (disch := omega) only [s4 hw, r4_13 hw, s90 hw, r4_14 hw, s91 hw, Int.reduceToNat, am_addE, am_subE, am_mulE, am_laddE, am_lsubE, am_upO, am_upS, am_stS, am_stO, am_tnn, am_brl, am_brg, am_bre, am_brn, am_brG, am_brL, am_st1, am_no2, am_st2, am_clr, and_self, true_and, and_true, true_or, or_true, List.length_cons, List.length_nil] <;> omega) ?_
          try simp (disch := omega) only [s4 hw, r4_13 hw, s90 hw, r4_14 hw, s91 hw, Int.reduceToNat, am_addE, am_subE, am_mulE, am_laddE, am_lsubE, am_upO, am_upS, am_stS, am_stO, am_tnn, am_brl, am_brg, am_bre, am_brn, am_brG, am_brL, am_st1, am_no2, am_st2, am_clr]
          have N : ∀ y, y ≤ 6 - x → ∀ (V : Nat → Nat → Int), (∀ a, a ≠ 91 → V a = K a) → (∀ x' y', (x' < x ∨ x' = x ∧ y' < y) → x' + y' ≤ 5 → V 91 (6 * x' + y') = am_j (brW p (t + 1) x' y')) → am_wp (d + 1) 181 36 [some (.inr (.inr (4))), some (.inl ((B : Int))), some (.inl ((S : Int))), some (.inl ((n : Int))), some (.inl ((p : Int))), some (.inl ((t : Int))), some (.inl ((x : Int))), some (.inl ((y : Int)))] [] (m, sl, sh, V, R) Q := by
            refine am_lp (6 - x) (fun y hy ih3 V v1 v2 => ?_)
            refine am_wp_go rfl (by simp (disch := omega) only [s4 hw, r4_13 hw, s90 hw, r4_14 hw, s91 hw, Int.reduceToNat, am_addE, am_subE, am_mulE, am_laddE, am_lsubE, am_upO, am_upS, am_stS, am_stO, am_tnn, am_brl, am_brg, am_bre, am_brn, am_brG, am_brL, am_st1, am_no2, am_st2, am_clr, and_self, true_and, and_true, true_or, or_true, List.length_cons, List.length_nil] <;> omega) ?_
            try simp (disch := omega) only [s4 hw, r4_13 hw, s90 hw, r4_14 hw, s91 hw, Int.reduceToNat, am_addE, am_subE, am_mulE, am_laddE, am_lsubE, am_upO, am_upS, am_stS, am_stO, am_tnn, am_brl, am_brg, am_bre, am_brn, am_brG, am_brL, am_st1, am_no2, am_st2, am_clr]
            refine am_wp_br (fun b42 => ?_) (fun b42 => ?_)
            · refine am_wp_go rfl (by simp (disch := omega) only [s4 hw, r4_13 hw, s90 hw, r4_14 hw, s91 hw, Int.reduceToNat, am_addE, am_subE, am_mulE, am_laddE, am_lsubE, am_upO, am_upS, am_stS, am_stO, am_tnn, am_brl, am_brg, am_bre, am_brn, am_brG, am_brL, am_st1, am_no2, am_st2, am_clr, and_self, true_and, and_true, true_or, or_true, List.length_cons, List.length_nil] <;> omega) ?_
              try simp (disch := omega) only [s4 hw, r4_13 hw, s90 hw, r4_14 hw, s91 hw, Int.reduceToNat, am_addE, am_subE, am_mulE, am_laddE, am_lsubE, am_upO, am_upS, am_stS, am_stO, am_tnn, am_brl, am_brg, am_bre, am_brn, am_brG, am_brL, am_st1, am_no2, am_st2, am_clr]
              exact am_wp_ls (ih2 _ V v1 (fun x' y' h1 h2 => v2 x' y' (by omega) h2)) rfl
            · have ih3 := ih3 (by omega)
              clear ih2
              refine am_wp_go rfl (by simp (disch := omega) only [s4 hw, r4_13 hw, s90 hw, r4_14 hw, s91 hw, Int.reduceToNat, am_addE, am_subE, am_mulE, am_laddE, am_lsubE, am_upO, am_upS, am_stS, am_stO, am_tnn, am_brl, am_brg, am_bre, am_brn, am_brG, am_brL, am_st1, am_no2, am_st2, am_clr, and_self, true_and, and_true, true_or, or_true, List.length_cons, List.length_nil] <;> omega) ?_
              try simp (disch := omega) only [s4 hw, r4_13 hw, s90 hw, r4_14 hw, s91 hw, Int.reduceToNat, am_addE, am_subE, am_mulE, am_laddE, am_lsubE, am_upO, am_upS, am_stS, am_stO, am_tnn, am_brl, am_brg, am_bre, am_brn, am_brG, am_brL, am_st1, am_no2, am_st2, am_clr]
              refine am_wp_cc rfl rfl rfl (congrArg Prod.fst (s4 hw)) (w_waysOfMinute (F := brW p t) (p := p) hw hs2 (by rw [v1 2 (by decide), k1 2 (by decide) (by decide)]; exact h2) (by omega) hp (by rw [v1 90 (by decide)]; exact k2) ⟨_, rfl, ?_⟩)
              have q2 : (6 : Int) * (x : Int) + (y : Int) = ((6 * x + y : Nat) : Int) := by omega
              refine am_wp_go rfl (by simp (disch := omega) only [s4 hw, r4_13 hw, s90 hw, r4_14 hw, s91 hw, q2, Int.reduceToNat, am_addE, am_subE, am_mulE, am_laddE, am_lsubE, am_upO, am_upS, am_stS, am_stO, am_tnn, am_brl, am_brg, am_bre, am_brn, am_brG, am_brL, am_st1, am_no2, am_st2, am_clr, and_self, true_and, and_true, true_or, or_true, List.length_cons, List.length_nil] <;> omega) ?_
              try simp (disch := omega) only [s4 hw, r4_13 hw, s90 hw, r4_14 hw, s91 hw, q2, Int.reduceToNat, am_addE, am_subE, am_mulE, am_laddE, am_lsubE, am_upO, am_upS, am_stS, am_stO, am_tnn, am_brl, am_brg, am_bre, am_brn, am_brG, am_brL, am_st1, am_no2, am_st2, am_clr]
              refine am_wp_ls (ih3 _ (fun a ha => by rw [am_upO ha, v1 a ha]) (fun x' y' h1 h2 => ?_)) rfl
              rw [am_upS]
              by_cases hxy : 6 * x' + y' = 6 * x + y
              · have e1 : x' = x := by omega
                have e2 : y' = y := by omega
                subst e1
                subst e2
                rw [am_stS rfl, wom_Z _ _ _ _ (by omega) hp]
                rfl
              · rw [am_stO hxy]
                exact v2 x' y' (by omega) h2
          exact am_wp_ls (N 0 (by omega) V v1 (fun x' y' h1 h2 => v2 x' y' (by omega) h2)) rfl
      exact am_wp_ls (M 0 (by omega) _ K (fun _ _ => rfl) (fun x' y h1 => absurd h1 (Nat.not_lt_zero x'))) rfl
  refine am_wp_ls (L 0 (by omega) none none _ (fun a h1 h2 => by rw [am_upO h1, j1 a h1]) (fun x y hxy => ?_)) rfl
  rw [am_upS]
  show _ = am_j (if x = 0 ∧ y = 0 then 1 else 0)
  by_cases h0 : x = 0 ∧ y = 0
  · rw [if_pos h0, am_stS (by omega)]; exact (am_j_sm (by decide)).symm
  · rw [if_neg h0, am_stO (by omega), j2 _ (by omega)]; exact (am_j_sm (by decide)).symm
def brOk (n : Nat) (t p : Int) (tb : Nat → Nat) : Prop := 0 ≤ t ∧ t ≤ 10 ∧ 1 ≤ p ∧ p ≤ 4 ∧ 1 ≤ n ∧ n ≤ 5 ∧ ∀ i, i < n → tb i ≤ 3
def brV (n : Nat) (t p : Int) (tb : Nat → Nat) : Int := am_j (brW p.toNat t.toNat (cB 5 (glN tb n)) (cS 5 (glN tb n)))
def brFC (I J : Nat → Nat → Int) : Prop := (∀ a, a ≠ 55 → a ≠ 90 → a ≠ 91 → J a = I a) ∧ (∀ j, j ≠ 1 → J 55 j = I 55 j) ∧ J 55 1 = 0
set_option maxHeartbeats 4000000 in
theorem c_brown {n : Nat} {t p : Int} {tb : Nat → Nat} (hw : wd sh R) (hs2 : sh 2 = (32, 36)) (h2 : I 2 = am_cho) (hn : n ≤ 640) (hf : I 55 1 = (n : Int)) (htb : ∀ i, i < n → tb i ≤ 255 ∧ I 56 i = sbyte (tb i : Int)) (h0 : ¬ brOk n t p tb → ∀ J, brFC I J → Q (am_yj (-1)) (m, sl, sh, J, R)) (h1 : brOk n t p tb → ∀ J, brFC I J → Q (am_yj (brV n t p tb)) (m, sl, sh, J, R)) : am_wp (d + 2) 180 0 [some (.inr (.inr (4))), some (.inl (t)), some (.inl (p)), none, none, none, none, none] [] (m, sl, sh, I, R) Q := by
  unfold brOk at h0 h1
  have f0 : brFC I (am_up I 55 1 0) := ⟨fun a h1 _ _ => am_upO h1, fun j hj => by rw [am_upS, am_stO hj], by rw [am_upS, am_stS rfl]⟩
  refine am_wp_go rfl (by simp (disch := omega) only [s4 hw, r4_6 hw, s55 hw, hf, am_addE, am_subE, am_mulE, am_laddE, am_lsubE, am_upO, am_upS, am_stS, am_stO, am_tnn, am_brl, am_brg, am_bre, am_brn, am_brG, am_brL, am_st1, am_no2, am_st2, am_clr, and_self, true_and, and_true, true_or, or_true, List.length_cons, List.length_nil] <;> omega) ?_
  try simp (disch := omega) only [s4 hw, r4_6 hw, s55 hw, hf, am_addE, am_subE, am_mulE, am_laddE, am_lsubE, am_upO, am_upS, am_stS, am_stO, am_tnn, am_brl, am_brg, am_bre, am_brn, am_brG, am_brL, am_st1, am_no2, am_st2, am_clr]
  refine am_wp_br (fun b17 => ?_) (fun b17 => ?_)
  · have h := h0 (fun hc => by omega)
    clear h0 h1
    refine am_wp_go rfl (by simp (disch := omega) only [s4 hw, r4_6 hw, s55 hw, hf, am_addE, am_subE, am_mulE, am_laddE, am_lsubE, am_upO, am_upS, am_stS, am_stO, am_tnn, am_brl, am_brg, am_bre, am_brn, am_brG, am_brL, am_st1, am_no2, am_st2, am_clr, and_self, true_and, and_true, true_or, or_true, List.length_cons, List.length_nil] <;> omega) ?_
    try simp (disch := omega) only [s4 hw, r4_6 hw, s55 hw, hf, am_addE, am_subE, am_mulE, am_laddE, am_lsubE, am_upO, am_upS, am_stS, am_stO, am_tnn, am_brl, am_brg, am_bre, am_brn, am_brG, am_brL, am_st1, am_no2, am_st2, am_clr]
    refine am_wp_ret rfl rfl ?_
    exact h _ f0
  · refine am_wp_go rfl (by simp (disch := omega) only [s4 hw, r4_6 hw, s55 hw, hf, am_addE, am_subE, am_mulE, am_laddE, am_lsubE, am_upO, am_upS, am_stS, am_stO, am_tnn, am_brl, am_brg, am_bre, am_brn, am_brG, am_brL, am_st1, am_no2, am_st2, am_clr, and_self, true_and, and_true, true_or, or_true, List.length_cons, List.length_nil] <;> omega) ?_
    try simp (disch := omega) only [s4 hw, r4_6 hw, s55 hw, hf, am_addE, am_subE, am_mulE, am_laddE, am_lsubE, am_upO, am_upS, am_stS, am_stO, am_tnn, am_brl, am_brg, am_bre, am_brn, am_brG, am_brL, am_st1, am_no2, am_st2, am_clr]
    refine am_wp_br (fun b23 => ?_) (fun b23 => ?_)
    · have h := h0 (fun hc => by omega)
      clear h0 h1
      refine am_wp_go rfl (by simp (disch := omega) only [s4 hw, r4_6 hw, s55 hw, hf, am_addE, am_subE, am_mulE, am_laddE, am_lsubE, am_upO, am_upS, am_stS, am_stO, am_tnn, am_brl, am_brg, am_bre, am_brn, am_brG, am_brL, am_st1, am_no2, am_st2, am_clr, and_self, true_and, and_true, true_or, or_true, List.length_cons, List.length_nil] <;> omega) ?_
      try simp (disch := omega) only [s4 hw, r4_6 hw, s55 hw, hf, am_addE, am_subE, am_mulE, am_laddE, am_lsubE, am_upO, am_upS, am_stS, am_stO, am_tnn, am_brl, am_brg, am_bre, am_brn, am_brG, am_brL, am_st1, am_no2, am_st2, am_clr]
      refine am_wp_ret rfl rfl ?_
      exact h _ f0
    · refine am_wp_go rfl (by simp (disch := omega) only [s4 hw, r4_6 hw, s55 hw, hf, am_addE, am_subE, am_mulE, am_laddE, am_lsubE, am_upO, am_upS, am_stS, am_stO, am_tnn, am_brl, am_brg, am_bre, am_brn, am_brG, am_brL, am_st1, am_no2, am_st2, am_clr, and_self, true_and, and_true, true_or, or_true, List.length_cons, List.length_nil] <;> omega) ?_
      try simp (disch := omega) only [s4 hw, r4_6 hw, s55 hw, hf, am_addE, am_subE, am_mulE, am_laddE, am_lsubE, am_upO, am_upS, am_stS, am_stO, am_tnn, am_brl, am_brg, am_bre, am_brn, am_brG, am_brL, am_st1, am_no2, am_st2, am_clr]
      refine am_wp_br (fun b28 => ?_) (fun b28 => ?_)
      · have h := h0 (fun hc => by omega)
        clear h0 h1
        refine am_wp_go rfl (by simp (disch := omega) only [s4 hw, r4_6 hw, s55 hw, hf, am_addE, am_subE, am_mulE, am_laddE, am_lsubE, am_upO, am_upS, am_stS, am_stO, am_tnn, am_brl, am_brg, am_bre, am_brn, am_brG, am_brL, am_st1, am_no2, am_st2, am_clr, and_self, true_and, and_true, true_or, or_true, List.length_cons, List.length_nil] <;> omega) ?_
        try simp (disch := omega) only [s4 hw, r4_6 hw, s55 hw, hf, am_addE, am_subE, am_mulE, am_laddE, am_lsubE, am_upO, am_upS, am_stS, am_stO, am_tnn, am_brl, am_brg, am_bre, am_brn, am_brG, am_brL, am_st1, am_no2, am_st2, am_clr]
        refine am_wp_ret rfl rfl ?_
        exact h _ f0
      · refine am_wp_go rfl (by simp (disch := omega) only [s4 hw, r4_6 hw, s55 hw, hf, am_addE, am_subE, am_mulE, am_laddE, am_lsubE, am_upO, am_upS, am_stS, am_stO, am_tnn, am_brl, am_brg, am_bre, am_brn, am_brG, am_brL, am_st1, am_no2, am_st2, am_clr, and_self, true_and, and_true, true_or, or_true, List.length_cons, List.length_nil] <;> omega) ?_
        try simp (disch := omega) only [s4 hw, r4_6 hw, s55 hw, hf, am_addE, am_subE, am_mulE, am_laddE, am_lsubE, am_upO, am_upS, am_stS, am_stO, am_tnn, am_brl, am_brg, am_bre, am_brn, am_brG, am_brL, am_st1, am_no2, am_st2, am_clr]
        refine am_wp_br (fun b33 => ?_) (fun b33 => ?_)
        · have h := h0 (fun hc => by omega)
          clear h0 h1
          refine am_wp_go rfl (by simp (disch := omega) only [s4 hw, r4_6 hw, s55 hw, hf, am_addE, am_subE, am_mulE, am_laddE, am_lsubE, am_upO, am_upS, am_stS, am_stO, am_tnn, am_brl, am_brg, am_bre, am_brn, am_brG, am_brL, am_st1, am_no2, am_st2, am_clr, and_self, true_and, and_true, true_or, or_true, List.length_cons, List.length_nil] <;> omega) ?_
          try simp (disch := omega) only [s4 hw, r4_6 hw, s55 hw, hf, am_addE, am_subE, am_mulE, am_laddE, am_lsubE, am_upO, am_upS, am_stS, am_stO, am_tnn, am_brl, am_brg, am_bre, am_brn, am_brG, am_brL, am_st1, am_no2, am_st2, am_clr]
          refine am_wp_ret rfl rfl ?_
          exact h _ f0
        · refine am_wp_go rfl (by simp (disch := omega) only [s4 hw, r4_6 hw, s55 hw, hf, am_addE, am_subE, am_mulE, am_laddE, am_lsubE, am_upO, am_upS, am_stS, am_stO, am_tnn, am_brl, am_brg, am_bre, am_brn, am_brG, am_brL, am_st1, am_no2, am_st2, am_clr, and_self, true_and, and_true, true_or, or_true, List.length_cons, List.length_nil] <;> omega) ?_
          try simp (disch := omega) only [s4 hw, r4_6 hw, s55 hw, hf, am_addE, am_subE, am_mulE, am_laddE, am_lsubE, am_upO, am_upS, am_stS, am_stO, am_tnn, am_brl, am_brg, am_bre, am_brn, am_brG, am_brL, am_st1, am_no2, am_st2, am_clr]
          refine am_wp_br (fun b38 => ?_) (fun b38 => ?_)
          · have h := h0 (fun hc => by omega)
            clear h0 h1
            refine am_wp_go rfl (by simp (disch := omega) only [s4 hw, r4_6 hw, s55 hw, hf, am_addE, am_subE, am_mulE, am_laddE, am_lsubE, am_upO, am_upS, am_stS, am_stO, am_tnn, am_brl, am_brg, am_bre, am_brn, am_brG, am_brL, am_st1, am_no2, am_st2, am_clr, and_self, true_and, and_true, true_or, or_true, List.length_cons, List.length_nil] <;> omega) ?_
            try simp (disch := omega) only [s4 hw, r4_6 hw, s55 hw, hf, am_addE, am_subE, am_mulE, am_laddE, am_lsubE, am_upO, am_upS, am_stS, am_stO, am_tnn, am_brl, am_brg, am_bre, am_brn, am_brG, am_brL, am_st1, am_no2, am_st2, am_clr]
            refine am_wp_ret rfl rfl ?_
            exact h _ f0
          · refine am_wp_go rfl (by simp (disch := omega) only [s4 hw, r4_6 hw, s55 hw, hf, am_addE, am_subE, am_mulE, am_laddE, am_lsubE, am_upO, am_upS, am_stS, am_stO, am_tnn, am_brl, am_brg, am_bre, am_brn, am_brG, am_brL, am_st1, am_no2, am_st2, am_clr, and_self, true_and, and_true, true_or, or_true, List.length_cons, List.length_nil] <;> omega) ?_
            try simp (disch := omega) only [s4 hw, r4_6 hw, s55 hw, hf, am_addE, am_subE, am_mulE, am_laddE, am_lsubE, am_upO, am_upS, am_stS, am_stO, am_tnn, am_brl, am_brg, am_bre, am_brn, am_brG, am_brL, am_st1, am_no2, am_st2, am_clr]
            refine am_wp_br (fun b43 => ?_) (fun b43 => ?_)
            · obtain ⟨pn, ep⟩ : ∃ k : Nat, p = (k : Int) := ⟨p.toNat, by omega⟩
              obtain ⟨tn, et⟩ : ∃ k : Nat, t = (k : Int) := ⟨t.toNat, by omega⟩
              subst ep
              subst et
              refine am_wp_go rfl (by simp (disch := omega) only [s4 hw, r4_6 hw, s55 hw, hf, am_addE, am_subE, am_mulE, am_laddE, am_lsubE, am_upO, am_upS, am_stS, am_stO, am_tnn, am_brl, am_brg, am_bre, am_brn, am_brG, am_brL, am_st1, am_no2, am_st2, am_clr, and_self, true_and, and_true, true_or, or_true, List.length_cons, List.length_nil] <;> omega) ?_
              try simp (disch := omega) only [s4 hw, r4_6 hw, s55 hw, hf, am_addE, am_subE, am_mulE, am_laddE, am_lsubE, am_upO, am_upS, am_stS, am_stO, am_tnn, am_brl, am_brg, am_bre, am_brn, am_brG, am_brL, am_st1, am_no2, am_st2, am_clr]
              have L : ∀ k, k ≤ n → ∀ (z7 : Option am_V), (∀ i, i < k → tb i ≤ 3) → am_wp (d + 2) 180 59 [some (.inr (.inr (4))), some (.inl ((tn : Int))), some (.inl ((pn : Int))), some (.inl ((n : Int))), some (.inl ((cB 5 (glN tb k) : Int))), some (.inl ((cS 5 (glN tb k) : Int))), some (.inl ((k : Int))), z7] [] (m, sl, sh, am_up I 55 1 0, R) Q := by
                refine am_lp n (fun k hk ih z7 hk3 => ?_)
                have cl := cBS_le 5 (glN tb k)
                refine am_wp_go rfl (by simp (disch := omega) only [s4 hw, am_addE, am_subE, am_mulE, am_laddE, am_lsubE, am_upO, am_upS, am_stS, am_stO, am_tnn, am_brl, am_brg, am_bre, am_brn, am_brG, am_brL, am_st1, am_no2, am_st2, am_clr, and_self, true_and, and_true, true_or, or_true, List.length_cons, List.length_nil] <;> omega) ?_
                try simp (disch := omega) only [s4 hw, am_addE, am_subE, am_mulE, am_laddE, am_lsubE, am_upO, am_upS, am_stS, am_stO, am_tnn, am_brl, am_brg, am_bre, am_brn, am_brG, am_brL, am_st1, am_no2, am_st2, am_clr]
                refine am_wp_br (fun b62 => ?_) (fun b62 => ?_)
                · have e : k = n := by omega
                  subst e
                  have h := h1 ⟨by omega, by omega, by omega, by omega, by omega, by omega, hk3⟩
                  unfold brV at h
                  rw [am_tnn, am_tnn] at h
                  clear h0 h1
                  refine am_wp_go rfl (by simp (disch := omega) only [s4 hw, am_addE, am_subE, am_mulE, am_laddE, am_lsubE, am_upO, am_upS, am_stS, am_stO, am_tnn, am_brl, am_brg, am_bre, am_brn, am_brG, am_brL, am_st1, am_no2, am_st2, am_clr, and_self, true_and, and_true, true_or, or_true, List.length_cons, List.length_nil] <;> omega) ?_
                  try simp (disch := omega) only [s4 hw, am_addE, am_subE, am_mulE, am_laddE, am_lsubE, am_upO, am_upS, am_stS, am_stO, am_tnn, am_brl, am_brg, am_bre, am_brn, am_brG, am_brL, am_st1, am_no2, am_st2, am_clr]
                  refine am_wp_cc rfl rfl rfl (congrArg Prod.fst (s4 hw)) (w_waysToBrown (B := cB 5 (glN tb k)) (S := cS 5 (glN tb k)) (n := tn) (p := pn) hw hs2 (by rw [am_upO (by decide)]; exact h2) cl (by omega) (by omega) (fun J j1 => ⟨_, rfl, ?_⟩))
                  refine am_wp_ret rfl rfl ?_
                  refine h J ⟨fun a a1 a2 a3 => by rw [j1 a a2 a3, am_upO a1], fun j hj => by rw [j1 55 (by decide) (by decide), am_upS, am_stO hj], by rw [j1 55 (by decide) (by decide), am_upS, am_stS rfl]⟩
                · obtain ⟨b1, b2⟩ := htb k (by omega)
                  have e56 : am_up I 55 1 0 56 k = sbyte (tb k : Int) := by rw [am_upO (by decide)]; exact b2
                  have es : sbyte (tb k : Int) = if (tb k : Int) < 128 then (tb k : Int) else (tb k : Int) - 256 := rfl
                  have ih := ih (by omega)
                  by_cases h3 : tb k ≤ 3
                  · have hlt := glN_lt k hk3
                    have eB : cB 5 (glN tb (k + 1)) = _ := cB_top h3 k 5 (glN tb k) (by omega) hlt
                    have eS : cS 5 (glN tb (k + 1)) = _ := cS_top h3 k 5 (glN tb k) (by omega) hlt
                    have ih := fun z => ih z (fun i hi => by by_cases hik : i = k; (rw [hik]; exact h3); exact hk3 i (by omega))
                    rw [eB, eS] at ih
                    rw [if_pos (by omega)] at es
                    rw [es] at e56
                    clear h0 h1 eB eS
                    refine am_wp_go rfl (by simp (disch := omega) only [s4 hw, r4_6 hw, s55 hw, r55_0 hw, s56 hw, am_tnn, e56, and_self, true_and, and_true] <;> omega) ?_
                    simp (disch := omega) only [s4 hw, r4_6 hw, s55 hw, r55_0 hw, s56 hw, am_tnn, e56, am_st1, am_brg, am_brl]
                    refine am_wp_br (fun b79 => ?_) (fun b79 => ?_)
                    · omega
                    · refine am_wp_go rfl (by simp (disch := omega) only [s4 hw, r4_6 hw, s55 hw, r55_0 hw, s56 hw, am_addE, am_subE, am_mulE, am_laddE, am_lsubE, am_upO, am_upS, am_stS, am_stO, am_tnn, am_brl, am_brg, am_bre, am_brn, am_brG, am_brL, am_st1, am_no2, am_st2, am_clr, and_self, true_and, and_true, true_or, or_true, List.length_cons, List.length_nil] <;> omega) ?_
                      try simp (disch := omega) only [s4 hw, r4_6 hw, s55 hw, r55_0 hw, s56 hw, am_addE, am_subE, am_mulE, am_laddE, am_lsubE, am_upO, am_upS, am_stS, am_stO, am_tnn, am_brl, am_brg, am_bre, am_brn, am_brG, am_brL, am_st1, am_no2, am_st2, am_clr]
                      refine am_wp_br (fun b85 => ?_) (fun b85 => ?_)
                      · refine am_wp_go rfl (by simp (disch := omega) only [s4 hw, r4_6 hw, s55 hw, r55_0 hw, s56 hw, am_addE, am_subE, am_mulE, am_laddE, am_lsubE, am_upO, am_upS, am_stS, am_stO, am_tnn, am_brl, am_brg, am_bre, am_brn, am_brG, am_brL, am_st1, am_no2, am_st2, am_clr, and_self, true_and, and_true, true_or, or_true, List.length_cons, List.length_nil] <;> omega) ?_
                        try simp (disch := omega) only [s4 hw, r4_6 hw, s55 hw, r55_0 hw, s56 hw, am_addE, am_subE, am_mulE, am_laddE, am_lsubE, am_upO, am_upS, am_stS, am_stO, am_tnn, am_brl, am_brg, am_bre, am_brn, am_brG, am_brL, am_st1, am_no2, am_st2, am_clr]
                        refine am_wp_br (fun b97 => ?_) (fun b97 => ?_)
                        · refine am_wp_go rfl (by simp (disch := omega) only [s4 hw, r4_6 hw, s55 hw, r55_0 hw, s56 hw, am_addE, am_subE, am_mulE, am_laddE, am_lsubE, am_upO, am_upS, am_stS, am_stO, am_tnn, am_brl, am_brg, am_bre, am_brn, am_brG, am_brL, am_st1, am_no2, am_st2, am_clr, and_self, true_and, and_true, true_or, or_true, List.length_cons, List.length_nil] <;> omega) ?_
                          try simp (disch := omega) only [s4 hw, r4_6 hw, s55 hw, r55_0 hw, s56 hw, am_addE, am_subE, am_mulE, am_laddE, am_lsubE, am_upO, am_upS, am_stS, am_stO, am_tnn, am_brl, am_brg, am_bre, am_brn, am_brG, am_brL, am_st1, am_no2, am_st2, am_clr]
                          refine am_wp_br (fun b113 => ?_) (fun b113 => ?_)
                          · rw [if_neg (by omega), if_pos (by omega)] at ih
                            refine am_wp_go rfl (by simp (disch := omega) only [s4 hw, r4_6 hw, s55 hw, r55_0 hw, s56 hw, am_addE, am_subE, am_mulE, am_laddE, am_lsubE, am_upO, am_upS, am_stS, am_stO, am_tnn, am_brl, am_brg, am_bre, am_brn, am_brG, am_brL, am_st1, am_no2, am_st2, am_clr, and_self, true_and, and_true, true_or, or_true, List.length_cons, List.length_nil] <;> omega) ?_
                            try simp (disch := omega) only [s4 hw, r4_6 hw, s55 hw, r55_0 hw, s56 hw, am_addE, am_subE, am_mulE, am_laddE, am_lsubE, am_upO, am_upS, am_stS, am_stO, am_tnn, am_brl, am_brg, am_bre, am_brn, am_brG, am_brL, am_st1, am_no2, am_st2, am_clr]
                            refine am_wp_ls (ih (some (.inl (tb k : Int)))) ?_
                            simp only [List.cons.injEq, Option.some.injEq, Sum.inl.injEq, and_true, true_and]
                            omega
                          · refine am_wp_go rfl (by simp (disch := omega) only [s4 hw, r4_6 hw, s55 hw, r55_0 hw, s56 hw, am_addE, am_subE, am_mulE, am_laddE, am_lsubE, am_upO, am_upS, am_stS, am_stO, am_tnn, am_brl, am_brg, am_bre, am_brn, am_brG, am_brL, am_st1, am_no2, am_st2, am_clr, and_self, true_and, and_true, true_or, or_true, List.length_cons, List.length_nil] <;> omega) ?_
                            try simp (disch := omega) only [s4 hw, r4_6 hw, s55 hw, r55_0 hw, s56 hw, am_addE, am_subE, am_mulE, am_laddE, am_lsubE, am_upO, am_upS, am_stS, am_stO, am_tnn, am_brl, am_brg, am_bre, am_brn, am_brG, am_brL, am_st1, am_no2, am_st2, am_clr]
                            refine am_wp_br (fun b119 => ?_) (fun b119 => ?_)
                            · rw [if_neg (by omega), if_neg (by omega)] at ih
                              refine am_wp_go rfl (by simp (disch := omega) only [s4 hw, r4_6 hw, s55 hw, r55_0 hw, s56 hw, am_addE, am_subE, am_mulE, am_laddE, am_lsubE, am_upO, am_upS, am_stS, am_stO, am_tnn, am_brl, am_brg, am_bre, am_brn, am_brG, am_brL, am_st1, am_no2, am_st2, am_clr, and_self, true_and, and_true, true_or, or_true, List.length_cons, List.length_nil] <;> omega) ?_
                              try simp (disch := omega) only [s4 hw, r4_6 hw, s55 hw, r55_0 hw, s56 hw, am_addE, am_subE, am_mulE, am_laddE, am_lsubE, am_upO, am_upS, am_stS, am_stO, am_tnn, am_brl, am_brg, am_bre, am_brn, am_brG, am_brL, am_st1, am_no2, am_st2, am_clr]
                              refine am_wp_ls (ih (some (.inl (tb k : Int)))) ?_
                              simp only [List.cons.injEq, Option.some.injEq, Sum.inl.injEq, and_true, true_and]
                              omega
                            · rw [if_neg (by omega), if_pos (by omega)] at ih
                              refine am_wp_go rfl (by simp (disch := omega) only [s4 hw, r4_6 hw, s55 hw, r55_0 hw, s56 hw, am_addE, am_subE, am_mulE, am_laddE, am_lsubE, am_upO, am_upS, am_stS, am_stO, am_tnn, am_brl, am_brg, am_bre, am_brn, am_brG, am_brL, am_st1, am_no2, am_st2, am_clr, and_self, true_and, and_true, true_or, or_true, List.length_cons, List.length_nil] <;> omega) ?_
                              try simp (disch := omega) only [s4 hw, r4_6 hw, s55 hw, r55_0 hw, s56 hw, am_addE, am_subE, am_mulE, am_laddE, am_lsubE, am_upO, am_upS, am_stS, am_stO, am_tnn, am_brl, am_brg, am_bre, am_brn, am_brG, am_brL, am_st1, am_no2, am_st2, am_clr]
                              refine am_wp_ls (ih (some (.inl (tb k : Int)))) ?_
                              simp only [List.cons.injEq, Option.some.injEq, Sum.inl.injEq, and_true, true_and]
                              omega
                        · refine am_wp_go rfl (by simp (disch := omega) only [s4 hw, r4_6 hw, s55 hw, r55_0 hw, s56 hw, am_addE, am_subE, am_mulE, am_laddE, am_lsubE, am_upO, am_upS, am_stS, am_stO, am_tnn, am_brl, am_brg, am_bre, am_brn, am_brG, am_brL, am_st1, am_no2, am_st2, am_clr, and_self, true_and, and_true, true_or, or_true, List.length_cons, List.length_nil] <;> omega) ?_
                          try simp (disch := omega) only [s4 hw, r4_6 hw, s55 hw, r55_0 hw, s56 hw, am_addE, am_subE, am_mulE, am_laddE, am_lsubE, am_upO, am_upS, am_stS, am_stO, am_tnn, am_brl, am_brg, am_bre, am_brn, am_brG, am_brL, am_st1, am_no2, am_st2, am_clr]
                          refine am_wp_br (fun b113 => ?_) (fun b113 => ?_)
                          · omega
                          · refine am_wp_go rfl (by simp (disch := omega) only [s4 hw, r4_6 hw, s55 hw, r55_0 hw, s56 hw, am_addE, am_subE, am_mulE, am_laddE, am_lsubE, am_upO, am_upS, am_stS, am_stO, am_tnn, am_brl, am_brg, am_bre, am_brn, am_brG, am_brL, am_st1, am_no2, am_st2, am_clr, and_self, true_and, and_true, true_or, or_true, List.length_cons, List.length_nil] <;> omega) ?_
                            try simp (disch := omega) only [s4 hw, r4_6 hw, s55 hw, r55_0 hw, s56 hw, am_addE, am_subE, am_mulE, am_laddE, am_lsubE, am_upO, am_upS, am_stS, am_stO, am_tnn, am_brl, am_brg, am_bre, am_brn, am_brG, am_brL, am_st1, am_no2, am_st2, am_clr]
                            refine am_wp_br (fun b119 => ?_) (fun b119 => ?_)
                            · rw [if_pos (by omega), if_neg (by omega)] at ih
                              refine am_wp_go rfl (by simp (disch := omega) only [s4 hw, r4_6 hw, s55 hw, r55_0 hw, s56 hw, am_addE, am_subE, am_mulE, am_laddE, am_lsubE, am_upO, am_upS, am_stS, am_stO, am_tnn, am_brl, am_brg, am_bre, am_brn, am_brG, am_brL, am_st1, am_no2, am_st2, am_clr, and_self, true_and, and_true, true_or, or_true, List.length_cons, List.length_nil] <;> omega) ?_
                              try simp (disch := omega) only [s4 hw, r4_6 hw, s55 hw, r55_0 hw, s56 hw, am_addE, am_subE, am_mulE, am_laddE, am_lsubE, am_upO, am_upS, am_stS, am_stO, am_tnn, am_brl, am_brg, am_bre, am_brn, am_brG, am_brL, am_st1, am_no2, am_st2, am_clr]
                              refine am_wp_ls (ih (some (.inl (tb k : Int)))) ?_
                              simp only [List.cons.injEq, Option.some.injEq, Sum.inl.injEq, and_true, true_and]
                              omega
                            · omega
                      · omega
                  · have h := h0 (fun hc => h3 (hc.2.2.2.2.2.2 k (by omega)))
                    clear h0 h1 ih
                    generalize hy : sbyte (tb k : Int) = y at *
                    have hy3 : y < 0 ∨ 3 < y := by
                      rw [es]
                      split <;> omega
                    refine am_wp_go rfl (by simp (disch := omega) only [s4 hw, r4_6 hw, s55 hw, r55_0 hw, s56 hw, am_tnn, e56, and_self, true_and, and_true] <;> omega) ?_
                    simp (disch := omega) only [s4 hw, r4_6 hw, s55 hw, r55_0 hw, s56 hw, am_tnn, e56, am_st1, am_brg, am_brl]
                    refine am_wp_br (fun b79 => ?_) (fun b79 => ?_)
                    · refine am_wp_go rfl (by simp (disch := omega) only [s4 hw, r4_6 hw, s55 hw, r55_0 hw, s56 hw, am_addE, am_subE, am_mulE, am_laddE, am_lsubE, am_upO, am_upS, am_stS, am_stO, am_tnn, am_brl, am_brg, am_bre, am_brn, am_brG, am_brL, am_st1, am_no2, am_st2, am_clr, and_self, true_and, and_true, true_or, or_true, List.length_cons, List.length_nil] <;> omega) ?_
                      try simp (disch := omega) only [s4 hw, r4_6 hw, s55 hw, r55_0 hw, s56 hw, am_addE, am_subE, am_mulE, am_laddE, am_lsubE, am_upO, am_upS, am_stS, am_stO, am_tnn, am_brl, am_brg, am_bre, am_brn, am_brG, am_brL, am_st1, am_no2, am_st2, am_clr]
                      refine am_wp_ret rfl rfl ?_
                      exact h _ f0
                    · refine am_wp_go rfl (by simp (disch := omega) only [s4 hw, r4_6 hw, s55 hw, r55_0 hw, s56 hw, am_addE, am_subE, am_mulE, am_laddE, am_lsubE, am_upO, am_upS, am_stS, am_stO, am_tnn, am_brl, am_brg, am_bre, am_brn, am_brG, am_brL, am_st1, am_no2, am_st2, am_clr, and_self, true_and, and_true, true_or, or_true, List.length_cons, List.length_nil] <;> omega) ?_
                      try simp (disch := omega) only [s4 hw, r4_6 hw, s55 hw, r55_0 hw, s56 hw, am_addE, am_subE, am_mulE, am_laddE, am_lsubE, am_upO, am_upS, am_stS, am_stO, am_tnn, am_brl, am_brg, am_bre, am_brn, am_brG, am_brL, am_st1, am_no2, am_st2, am_clr]
                      refine am_wp_br (fun b85 => ?_) (fun b85 => ?_)
                      · omega
                      · refine am_wp_go rfl (by simp (disch := omega) only [s4 hw, r4_6 hw, s55 hw, r55_0 hw, s56 hw, am_addE, am_subE, am_mulE, am_laddE, am_lsubE, am_upO, am_upS, am_stS, am_stO, am_tnn, am_brl, am_brg, am_bre, am_brn, am_brG, am_brL, am_st1, am_no2, am_st2, am_clr, and_self, true_and, and_true, true_or, or_true, List.length_cons, List.length_nil] <;> omega) ?_
                        try simp (disch := omega) only [s4 hw, r4_6 hw, s55 hw, r55_0 hw, s56 hw, am_addE, am_subE, am_mulE, am_laddE, am_lsubE, am_upO, am_upS, am_stS, am_stO, am_tnn, am_brl, am_brg, am_bre, am_brn, am_brG, am_brL, am_st1, am_no2, am_st2, am_clr]
                        refine am_wp_ret rfl rfl ?_
                        exact h _ f0
              refine am_wp_ls (L 0 (by omega) none (fun i hi => absurd hi (Nat.not_lt_zero i))) (by rw [show glN tb 0 = 0 from rfl, cB_z, cS_z]; rfl)
            · have h := h0 (fun hc => by omega)
              clear h0 h1
              refine am_wp_go rfl (by simp (disch := omega) only [s4 hw, r4_6 hw, s55 hw, hf, am_addE, am_subE, am_mulE, am_laddE, am_lsubE, am_upO, am_upS, am_stS, am_stO, am_tnn, am_brl, am_brg, am_bre, am_brn, am_brG, am_brL, am_st1, am_no2, am_st2, am_clr, and_self, true_and, and_true, true_or, or_true, List.length_cons, List.length_nil] <;> omega) ?_
              try simp (disch := omega) only [s4 hw, r4_6 hw, s55 hw, hf, am_addE, am_subE, am_mulE, am_laddE, am_lsubE, am_upO, am_upS, am_stS, am_stO, am_tnn, am_brl, am_brg, am_bre, am_brn, am_brG, am_brL, am_st1, am_no2, am_st2, am_clr]
              refine am_wp_ret rfl rfl ?_
              exact h _ f0
end BROWN
