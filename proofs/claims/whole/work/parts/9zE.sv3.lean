/-! SERVED by the class: collectEnds -/
theorem ct_or_le {p q w : Nat → Bool} : ∀ n, (∀ g, g < n → w g = true → p g = true ∨ q g = true) → ax_ct w n ≤ ax_ct p n + ax_ct q n
  | 0, _ => Nat.zero_le _
  | n + 1, h => by
    have ih := ct_or_le (p := p) (q := q) (w := w) n (fun g hg => h g (by omega))
    have e := h n (by omega)
    unfold ax_ct
    cases hw : w n
    · cases p n <;> cases q n <;> simp only [cond_true, cond_false] <;> omega
    · rcases e hw with hp | hq
      · rw [hp]; cases q n <;> simp only [cond_true, cond_false] <;> omega
      · rw [hq]; cases p n <;> simp only [cond_true, cond_false] <;> omega
theorem ct_iv {A B : Nat} : ∀ n, ax_ct (fun q => decide (A ≤ q ∧ q < B)) n ≤ min n B - A
  | 0 => Nat.zero_le _
  | n + 1 => by
    have ih := ct_iv (A := A) (B := B) n
    unfold ax_ct
    by_cases h : A ≤ n ∧ n < B
    · rw [decide_eq_true h, cond_true]; omega
    · rw [decide_eq_false h, cond_false]; omega
theorem ct_union {D : Nat → Nat → Bool} {M c : Nat} : ∀ n, (∀ g, g < n → ax_ct (fun r => D r g) M ≤ c) → ax_ct (fun r => decide (ax_bs (D r) n ≠ 0)) M ≤ n * c
  | 0, _ => by
    rw [Nat.zero_mul]
    have : ∀ M, ax_ct (fun r => decide (ax_bs (D r) 0 ≠ 0)) M = 0 := fun M => by
      induction M with
      | zero => rfl
      | succ M ih => exact ih
    rw [this]; exact Nat.le_refl 0
  | n + 1, h => by
    have ih := ct_union (D := D) (M := M) (c := c) n (fun g hg => h g (by omega))
    have e := h n (by omega)
    have := ct_or_le (p := fun r => decide (ax_bs (D r) n ≠ 0)) (q := fun r => D r n) (w := fun r => decide (ax_bs (D r) (n + 1) ≠ 0)) M (fun r _ hr => by
      rw [decide_eq_true_iff] at hr
      cases hD : D r n
      · refine Or.inl (decide_eq_true ?_)
        rwa [ax_bs_s, hD, cond_false] at hr
      · exact Or.inr rfl)
    rw [Nat.succ_mul]; omega
theorem bs_none : ∀ n, ax_bs (fun _ => false) n = 0
  | 0 => rfl
  | n + 1 => by rw [ax_bs_s, cond_false]; exact bs_none n
def gzla (W : Nat → Int) (u : Nat) (g : Nat) : Nat := (W (32 + 2 * g)).toNat / u
/-- may GUEST g be served at end r (k: enough ends) -/
def gzD (W : Nat → Int) (u k r g : Nat) : Bool := decide (1 ≤ r ∧ gzla W u g < r + k ∧ r ≤ gzla W u g + k ∧ 0 < gzf W ((r * u : Nat) : Int) g)
def gzi (J : Nat → Int) (r : Nat) : Nat := ax_ct (fun q => decide (J q ≠ 0)) r
theorem gzi_le {J : Nat → Int} {W : Nat → Int} {u k n : Nat} (hk : k ≤ 8) (hn : n ≤ 8) (h : ∀ r, r < 249 → J r = (ax_bs (gzD W u k r) n : Int)) : gzi J 249 ≤ 128 := by
  have a := ct_union (D := gzD W u k) (M := 249) (c := 16) n (fun g _ => by
    refine Nat.le_trans (ct_mono (q := fun q => decide (gzla W u g + 1 - k ≤ q ∧ q < gzla W u g + k + 1)) 249 (fun r _ hr => ?_)) (Nat.le_trans (ct_iv 249) ?_)
    · unfold gzD at hr
      rw [decide_eq_true_iff] at hr ⊢
      omega
    · omega)
  have e : gzi J 249 = ax_ct (fun r => decide (ax_bs (gzD W u k r) n ≠ 0)) 249 := ax_ct_cg (fun r hr => decide_eq_decide.mpr (by rw [h r hr]; omega))
  rw [e]
  have : n * 16 ≤ 8 * 16 := Nat.mul_le_mul_right 16 hn
  omega
theorem gzi_mono {J : Nat → Int} {a b : Nat} (h : a ≤ b) : gzi J a ≤ gzi J b := by
  induction b with
  | zero => rw [show a = 0 by omega]; exact Nat.le_refl _
  | succ b ih =>
    by_cases e : a = b + 1
    · rw [e]; exact Nat.le_refl _
    · have := ih (by omega)
      have e2 : gzi J (b + 1) = bif decide (J b ≠ 0) then gzi J b + 1 else gzi J b := rfl
      rw [e2]
      cases decide (J b ≠ 0) <;> simp only [cond_true, cond_false] <;> omega
theorem gzi_s0 {J : Nat → Int} {r : Nat} (h : J r = 0) : gzi J (r + 1) = gzi J r := by
  have e2 : gzi J (r + 1) = bif decide (J r ≠ 0) then gzi J r + 1 else gzi J r := rfl
  rw [e2, decide_eq_false (by omega)]; rfl
theorem gzi_s1 {J : Nat → Int} {r : Nat} (h : J r ≠ 0) : gzi J (r + 1) = gzi J r + 1 := by
  have e2 : gzi J (r + 1) = bif decide (J r ≠ 0) then gzi J r + 1 else gzi J r := rfl
  rw [e2, decide_eq_true h]; rfl
def gzk (n P : Nat) : Nat := (n - 1) / P + 1
theorem gzk_le {n P : Nat} (h1 : 1 ≤ P) (hn : n ≤ 8) : gzk n P ≤ 8 ∧ n ≤ gzk n P * P := by
  unfold gzk
  have a := Nat.div_le_self (n - 1) P
  have b := Nat.div_add_mod (n - 1) P
  have c := Nat.mod_lt (n - 1) h1
  rw [Nat.add_mul, Nat.one_mul, Nat.mul_comm]
  omega
section SV
variable {m sl : Nat} {sh : Nat → Nat × Nat} {I : Nat → Nat → Int} {R : Nat → Nat → Nat} {Q : am_R → am_M → Prop} {d : Nat} {W N : Nat → Int} {n P u : Nat}
set_option maxHeartbeats 4000000 in
theorem w_collectEnds (hw : wd sh R) (hk : kit I 6 W N) (hn : n = nG W) (hP : W 0 = (P : Int)) (h5 : I 80 5 = (n : Int)) (hu : 1 ≤ u ∧ u ≤ 40) (h : ∀ J, (∀ a, a ≠ 80 → a ≠ 81 → a ≠ 82 → J a = I a) → J 80 5 = (n : Int) → (∀ r : Nat, r < 249 → J 81 r = (ax_bs (gzD W u (gzk n P) r) n : Int)) → J 80 6 = (gzi (J 81) 249 : Int) → (∀ r : Nat, r < 249 → J 81 r ≠ 0 → J 82 (gzi (J 81) r) = (r : Int)) → Q am_yv (m, sl, sh, J, R)) : am_wp (d + 1) 95 0 [some (.inr (.inr (80))), some (.inr (.inr (6))), some (.inl ((u : Int))), none, none, none, none, none] [] (m, sl, sh, I, R) Q := by
  have n3 := wk_nG hk.1
  rw [← hn] at n3
  have p4 := hk.1.1
  unfold wk0 at p4
  have k1 : I 6 1 = (P : Int) := by rw [hk.2.1.1]; exact hP
  have kk := gzk_le (n := n) (P := P) (by omega) n3.2
  have LE : ∀ (y : Int) (z5 z6 z7 : Option am_V) (r : Nat), r ≤ 249 → ∀ (J : Nat → Nat → Int), 1 ≤ r → (∀ a, a ≠ 80 → a ≠ 81 → a ≠ 82 → J a = I a) → J 80 5 = (n : Int) → (∀ r : Nat, r < 249 → J 81 r = (ax_bs (gzD W u (gzk n P) r) n : Int)) → J 80 6 = (gzi (J 81) r : Int) → (∀ q : Nat, q < r → J 81 q ≠ 0 → J 82 (gzi (J 81) q) = (q : Int)) → am_wp (d + 1) 95 149 [some (.inr (.inr (80))), some (.inr (.inr (6))), some (.inl ((u : Int))), some (.inl (y)), some (.inl ((r : Int))), z5, z6, z7] [] (m, sl, sh, J, R) Q := by
    intro y z5 z6 z7
    refine am_lp 249 (fun r hr ih J r1 j1 j2 j3 j4 j5 => ?_)
    have il := gzi_le kk.1 n3.2 j3
    refine am_wp_go rfl (by simp (disch := omega) only [s80 hw, r80_0 hw, r80_1 hw, s81 hw, s82 hw, j4, am_addE, am_subE, am_mulE, am_laddE, am_lsubE, am_upO, am_upS, am_stS, am_stO, am_tnn, am_brl, am_brg, am_bre, am_brn, am_brG, am_brL, am_st1, am_no2, am_st2, am_clr, and_self, true_and, and_true, true_or, or_true, List.length_cons, List.length_nil] <;> omega) ?_
    try simp (disch := omega) only [s80 hw, r80_0 hw, r80_1 hw, s81 hw, s82 hw, j4, am_addE, am_subE, am_mulE, am_laddE, am_lsubE, am_upO, am_upS, am_stS, am_stO, am_tnn, am_brl, am_brg, am_bre, am_brn, am_brG, am_brL, am_st1, am_no2, am_st2, am_clr]
    refine am_wp_br (fun b154 => ?_) (fun b154 => ?_)
    · refine am_wp_ret rfl rfl ?_
      have e : r = 249 := by omega
      rw [e] at j4 j5
      exact h J j1 j2 j3 j4 j5
    · have ih := ih (by omega)
      have mo := gzi_mono (J := J 81) (show r + 1 ≤ 249 by omega)
      refine am_wp_go rfl (by simp (disch := omega) only [s80 hw, r80_0 hw, r80_1 hw, s81 hw, s82 hw, j4, am_addE, am_subE, am_mulE, am_laddE, am_lsubE, am_upO, am_upS, am_stS, am_stO, am_tnn, am_brl, am_brg, am_bre, am_brn, am_brG, am_brL, am_st1, am_no2, am_st2, am_clr, and_self, true_and, and_true, true_or, or_true, List.length_cons, List.length_nil] <;> omega) ?_
      try simp (disch := omega) only [s80 hw, r80_0 hw, r80_1 hw, s81 hw, s82 hw, j4, am_addE, am_subE, am_mulE, am_laddE, am_lsubE, am_upO, am_upS, am_stS, am_stO, am_tnn, am_brl, am_brg, am_bre, am_brn, am_brG, am_brL, am_st1, am_no2, am_st2, am_clr]
      refine am_wp_br (fun b164 => ?_) (fun b164 => ?_)
      · have b164 : J 81 r = 0 := by omega
        have e := gzi_s0 b164
        refine am_wp_go rfl (by simp (disch := omega) only [s80 hw, r80_0 hw, r80_1 hw, s81 hw, s82 hw, j4, am_addE, am_subE, am_mulE, am_laddE, am_lsubE, am_upO, am_upS, am_stS, am_stO, am_tnn, am_brl, am_brg, am_bre, am_brn, am_brG, am_brL, am_st1, am_no2, am_st2, am_clr, and_self, true_and, and_true, true_or, or_true, List.length_cons, List.length_nil] <;> omega) ?_
        try simp (disch := omega) only [s80 hw, r80_0 hw, r80_1 hw, s81 hw, s82 hw, j4, am_addE, am_subE, am_mulE, am_laddE, am_lsubE, am_upO, am_upS, am_stS, am_stO, am_tnn, am_brl, am_brg, am_bre, am_brn, am_brG, am_brL, am_st1, am_no2, am_st2, am_clr]
        refine am_wp_ls (ih J (by omega) j1 j2 j3 (by rw [e]; exact j4) (fun q hq hz => ?_)) rfl
        by_cases e2 : q = r
        · rw [e2] at hz; exact absurd b164 hz
        · exact j5 q (by omega) hz
      · have e := gzi_s1 b164
        refine am_wp_go rfl (by simp (disch := omega) only [s80 hw, r80_0 hw, r80_1 hw, s81 hw, s82 hw, j4, am_addE, am_subE, am_mulE, am_laddE, am_lsubE, am_upO, am_upS, am_stS, am_stO, am_tnn, am_brl, am_brg, am_bre, am_brn, am_brG, am_brL, am_st1, am_no2, am_st2, am_clr, and_self, true_and, and_true, true_or, or_true, List.length_cons, List.length_nil] <;> omega) ?_
        try simp (disch := omega) only [s80 hw, r80_0 hw, r80_1 hw, s81 hw, s82 hw, j4, am_addE, am_subE, am_mulE, am_laddE, am_lsubE, am_upO, am_upS, am_stS, am_stO, am_tnn, am_brl, am_brg, am_bre, am_brn, am_brG, am_brL, am_st1, am_no2, am_st2, am_clr]
        refine am_wp_br (fun b174 => ?_) (fun b174 => ?_)
        · omega
        · refine am_wp_go rfl (by simp (disch := omega) only [s80 hw, r80_0 hw, r80_1 hw, s81 hw, s82 hw, j4, am_addE, am_subE, am_mulE, am_laddE, am_lsubE, am_upO, am_upS, am_stS, am_stO, am_tnn, am_brl, am_brg, am_bre, am_brn, am_brG, am_brL, am_st1, am_no2, am_st2, am_clr, and_self, true_and, and_true, true_or, or_true, List.length_cons, List.length_nil] <;> omega) ?_
          simp (disch := omega) only [s80 hw, r80_0 hw, r80_1 hw, s81 hw, s82 hw, j4, am_addE, am_subE, am_mulE, am_laddE, am_lsubE, am_upO, am_upS, am_stS, am_stO, am_tnn, am_brl, am_brg, am_bre, am_brn, am_brG, am_brL, am_st1, am_no2, am_st2, am_clr]
          have c81 : am_up (am_up J 82 (gzi (J 81) r) (r : Int)) 80 6 ((gzi (J 81) r : Int) + 1) 81 = J 81 := by rw [am_upO (by decide), am_upO (by decide)]
          refine am_wp_ls (ih _ (by omega) (fun a a1 a2 a3 => by rw [am_upO a1, am_upO a3, j1 a a1 a2 a3]) ?_ ?_ ?_ ?_) rfl
          · rw [am_upS, am_stO (by decide), am_upO (by decide)]; exact j2
          · rw [c81]; exact j3
          · rw [c81, am_upS, am_stS rfl, e]; rfl
          · rw [c81]
            intro q hq hz
            rw [am_upO (by decide), am_upS]
            by_cases e2 : q = r
            · rw [am_stS (by rw [e2]), e2]
            · rw [am_stO ?_]
              · exact j5 q (by omega) hz
              · have m2 := gzi_mono (J := J 81) (show q + 1 ≤ r by omega)
                have m3 := gzi_s1 hz
                omega
  have LO : ∀ (y : Int), (1 ≤ n → y = (gzk n P : Int)) → ∀ g : Nat, g ≤ n → ∀ (z5 z6 z7 : Option am_V) (J : Nat → Nat → Int), (∀ a, a ≠ 81 → J a = I a) → (∀ r : Nat, r < 249 → J 81 r = (ax_bs (gzD W u (gzk n P) r) g : Int)) → am_wp (d + 1) 95 40 [some (.inr (.inr (80))), some (.inr (.inr (6))), some (.inl ((u : Int))), some (.inl (y)), some (.inl ((g : Int))), z5, z6, z7] [] (m, sl, sh, J, R) Q := by
    intro y hy
    refine am_lp n (fun g hg ih z5 z6 z7 J j1 j2 => ?_)
    have e5 : J 80 5 = (n : Int) := by rw [j1 80 (by decide)]; exact h5
    refine am_wp_go rfl (by simp (disch := omega) only [s80 hw, e5, am_addE, am_subE, am_mulE, am_laddE, am_lsubE, am_upO, am_upS, am_stS, am_stO, am_tnn, am_brl, am_brg, am_bre, am_brn, am_brG, am_brL, am_st1, am_no2, am_st2, am_clr, and_self, true_and, and_true, true_or, or_true, List.length_cons, List.length_nil] <;> omega) ?_
    try simp (disch := omega) only [s80 hw, e5, am_addE, am_subE, am_mulE, am_laddE, am_lsubE, am_upO, am_upS, am_stS, am_stO, am_tnn, am_brl, am_brg, am_bre, am_brn, am_brG, am_brL, am_st1, am_no2, am_st2, am_clr]
    refine am_wp_br (fun b46 => ?_) (fun b46 => ?_)
    · have e : g = n := by omega
      rw [e] at j2
      refine am_wp_go rfl (by simp (disch := omega) only [s80 hw, e5, am_addE, am_subE, am_mulE, am_laddE, am_lsubE, am_upO, am_upS, am_stS, am_stO, am_tnn, am_brl, am_brg, am_bre, am_brn, am_brG, am_brL, am_st1, am_no2, am_st2, am_clr, and_self, true_and, and_true, true_or, or_true, List.length_cons, List.length_nil] <;> omega) ?_
      simp (disch := omega) only [s80 hw, e5, am_addE, am_subE, am_mulE, am_laddE, am_lsubE, am_upO, am_upS, am_stS, am_stO, am_tnn, am_brl, am_brg, am_bre, am_brn, am_brG, am_brL, am_st1, am_no2, am_st2, am_clr]
      have c81 : am_up J 80 6 0 81 = J 81 := am_upO (by decide)
      refine am_wp_ls (LE y z5 z6 z7 1 (by decide) _ (by decide) (fun a a1 a2 a3 => by rw [am_upO a1, j1 a a2]) ?_ (by rw [c81]; exact j2) ?_ ?_) rfl
      · rw [am_upS, am_stO (by decide)]; exact e5
      · rw [am_upS, am_stS rfl, c81]
        have : J 81 0 = 0 := by
          rw [j2 0 (by decide)]
          have : ax_bs (gzD W u (gzk n P) 0) n = 0 := by
            rw [ax_bs_cg (q := fun _ => false) (fun g _ => by unfold gzD; exact decide_eq_false (by omega))]
            exact bs_none n
          rw [this]; rfl
        rw [gzi_s0 this]; rfl
      · rw [c81]
        intro q hq hz
        refine absurd ?_ hz
        rw [show q = 0 by omega, j2 0 (by decide)]
        have : ax_bs (gzD W u (gzk n P) 0) n = 0 := by
          rw [ax_bs_cg (q := fun _ => false) (fun g _ => by unfold gzD; exact decide_eq_false (by omega))]
          exact bs_none n
        rw [this]; rfl
    · have ih := ih (by omega)
      have hy := hy (by omega)
      have e1 := (hk.2.2.2.2.1 g (by omega)).1
      have b := hk.1.2.2.1 g (by omega)
      have e8 : J 8 g = W (32 + 2 * g) := by rw [j1 8 (by decide)]; exact e1
      have lq : W (32 + 2 * g) / (u : Int) = (gzla W u g : Int) := by
        unfold gzla
        rw [Int.natCast_ediv, Int.toNat_of_nonneg b.1]
      have ll : gzla W u g ≤ 240 := by
        unfold gzla
        exact Nat.le_trans (Nat.div_le_self _ _) (by omega)
      rw [hy]
      refine am_wp_go rfl (by simp (disch := omega) only [s80 hw, s6 hw, r6_12 hw, s8 hw, e8, am_divE, lq, am_addE, am_subE, am_mulE, am_laddE, am_lsubE, am_upO, am_upS, am_stS, am_stO, am_tnn, am_brl, am_brg, am_bre, am_brn, am_brG, am_brL, am_st1, am_no2, am_st2, am_clr, and_self, true_and, and_true, true_or, or_true, List.length_cons, List.length_nil] <;> omega) ?_
      try simp (disch := omega) only [s80 hw, s6 hw, r6_12 hw, s8 hw, e8, am_divE, lq, am_addE, am_subE, am_mulE, am_laddE, am_lsubE, am_upO, am_upS, am_stS, am_stO, am_tnn, am_brl, am_brg, am_bre, am_brn, am_brG, am_brL, am_st1, am_no2, am_st2, am_clr]
      refine am_wp_br (fun b51 => ?_) (fun b51 => ?_)
      · have LI : ∀ r : Nat, r ≤ 249 → ∀ (f : Int) (K : Nat → Nat → Int), 1 ≤ r → (∀ a, a ≠ 81 → K a = I a) → (∀ q, q < 249 → K 81 q = (ax_bs (gzD W u (gzk n P) q) (if q < r then g + 1 else g) : Int)) → (∀ q, q < r → gzD W u (gzk n P) q g = true → True) → (gzla W u g + 1 - gzk n P ≤ r) → am_wp (d + 1) 95 85 [some (.inr (.inr (80))), some (.inr (.inr (6))), some (.inl ((u : Int))), some (.inl ((gzk n P : Int))), some (.inl ((g : Int))), some (.inl ((gzla W u g : Int))), some (.inl (f)), some (.inl ((r : Int)))] [] (m, sl, sh, K, R) Q := by
          refine am_lp 249 (fun r hr ih2 f K r1 k2 k3 _ r2 => ?_)
          have nxtO : (249 ≤ r ∨ gzla W u g + gzk n P < r) → am_wp (d + 1) 95 40 [some (.inr (.inr (80))), some (.inr (.inr (6))), some (.inl ((u : Int))), some (.inl ((gzk n P : Int))), some (.inl (((g : Int) + 1))), some (.inl ((gzla W u g : Int))), some (.inl (f)), some (.inl ((r : Int)))] [] (m, sl, sh, K, R) Q := by
            intro hc
            rw [← hy]
            refine am_wp_ls (ih _ _ _ K k2 (fun q hq => ?_)) rfl
            rw [k3 q hq]
            by_cases hqr : q < r
            · rw [if_pos hqr]
            · rw [if_neg hqr, ax_bs_s]
              have : gzD W u (gzk n P) q g = false := by unfold gzD; exact decide_eq_false (by omega)
              rw [this]; rfl
          refine am_wp_go rfl (by simp (disch := omega) only [am_divE, lq, am_addE, am_subE, am_mulE, am_laddE, am_lsubE, am_upO, am_upS, am_stS, am_stO, am_tnn, am_brl, am_brg, am_bre, am_brn, am_brG, am_brL, am_st1, am_no2, am_st2, am_clr, and_self, true_and, and_true, true_or, or_true, List.length_cons, List.length_nil] <;> omega) ?_
          try simp (disch := omega) only [am_divE, lq, am_addE, am_subE, am_mulE, am_laddE, am_lsubE, am_upO, am_upS, am_stS, am_stO, am_tnn, am_brl, am_brg, am_bre, am_brn, am_brG, am_brL, am_st1, am_no2, am_st2, am_clr]
          refine am_wp_br (fun b91 => ?_) (fun b91 => ?_)
          · refine am_wp_go rfl (by simp (disch := omega) only [am_divE, lq, am_addE, am_subE, am_mulE, am_laddE, am_lsubE, am_upO, am_upS, am_stS, am_stO, am_tnn, am_brl, am_brg, am_bre, am_brn, am_brG, am_brL, am_st1, am_no2, am_st2, am_clr, and_self, true_and, and_true, true_or, or_true, List.length_cons, List.length_nil] <;> omega) ?_
            try simp (disch := omega) only [am_divE, lq, am_addE, am_subE, am_mulE, am_laddE, am_lsubE, am_upO, am_upS, am_stS, am_stO, am_tnn, am_brl, am_brg, am_bre, am_brn, am_brG, am_brL, am_st1, am_no2, am_st2, am_clr]
            exact am_wp_ls (nxtO (by omega)) rfl
          · refine am_wp_go rfl (by simp (disch := omega) only [am_divE, lq, am_addE, am_subE, am_mulE, am_laddE, am_lsubE, am_upO, am_upS, am_stS, am_stO, am_tnn, am_brl, am_brg, am_bre, am_brn, am_brG, am_brL, am_st1, am_no2, am_st2, am_clr, and_self, true_and, and_true, true_or, or_true, List.length_cons, List.length_nil] <;> omega) ?_
            try simp (disch := omega) only [am_divE, lq, am_addE, am_subE, am_mulE, am_laddE, am_lsubE, am_upO, am_upS, am_stS, am_stO, am_tnn, am_brl, am_brg, am_bre, am_brn, am_brG, am_brL, am_st1, am_no2, am_st2, am_clr]
            refine am_wp_br (fun b99 => ?_) (fun b99 => ?_)
            · refine am_wp_go rfl (by simp (disch := omega) only [am_divE, lq, am_addE, am_subE, am_mulE, am_laddE, am_lsubE, am_upO, am_upS, am_stS, am_stO, am_tnn, am_brl, am_brg, am_bre, am_brn, am_brG, am_brL, am_st1, am_no2, am_st2, am_clr, and_self, true_and, and_true, true_or, or_true, List.length_cons, List.length_nil] <;> omega) ?_
              try simp (disch := omega) only [am_divE, lq, am_addE, am_subE, am_mulE, am_laddE, am_lsubE, am_upO, am_upS, am_stS, am_stO, am_tnn, am_brl, am_brg, am_bre, am_brn, am_brG, am_brL, am_st1, am_no2, am_st2, am_clr]
              exact am_wp_ls (nxtO (by omega)) rfl
            · have ru : r * u ≤ 248 * 40 := Nat.mul_le_mul (by omega) hu.2
              have rc : (r : Int) * (u : Int) = ((r * u : Nat) : Int) := (Int.natCast_mul r u).symm
              have ih2 := ih2 (by omega)
              have st : ∀ (K' : Nat → Nat → Int), (∀ a, a ≠ 81 → K' a = I a) → (∀ q, q ≠ r → K' 81 q = K 81 q) → K' 81 r = (ax_bs (gzD W u (gzk n P) r) (g + 1) : Int) → am_wp (d + 1) 95 85 [some (.inr (.inr (80))), some (.inr (.inr (6))), some (.inl ((u : Int))), some (.inl ((gzk n P : Int))), some (.inl ((g : Int))), some (.inl ((gzla W u g : Int))), some (.inl (f)), some (.inl (((r : Int) + 1)))] [] (m, sl, sh, K', R) Q := by
                intro K' a1 a2 a3
                refine am_wp_ls (ih2 f K' (by omega) a1 (fun q hq => ?_) (fun _ _ _ => trivial) (by omega)) rfl
                by_cases e : q = r
                · rw [e, a3, if_pos (by omega)]
                · rw [a2 q e, k3 q hq]
                  by_cases hqr : q < r
                  · rw [if_pos hqr, if_pos (by omega)]
                  · rw [if_neg hqr, if_neg (by omega)]
              have kr := k3 r (by omega)
              rw [if_neg (Nat.lt_irrefl r)] at kr
              have b8 := ax_bs8 (p := gzD W u (gzk n P) r) (n := g) (by omega)
              have p8 := ax_p8 (s := g) (by omega)
              refine am_wp_go rfl (by simp (disch := omega) only [rc, am_addE, am_subE, am_mulE, am_laddE, am_lsubE, am_upO, am_upS, am_stS, am_stO, am_tnn, am_brl, am_brg, am_bre, am_brn, am_brG, am_brL, am_st1, am_no2, am_st2, am_clr, and_self, true_and, and_true, true_or, or_true, List.length_cons, List.length_nil] <;> omega) ?_
              try simp (disch := omega) only [rc, am_addE, am_subE, am_mulE, am_laddE, am_lsubE, am_upO, am_upS, am_stS, am_stO, am_tnn, am_brl, am_brg, am_bre, am_brn, am_brG, am_brL, am_st1, am_no2, am_st2, am_clr]
              refine am_wp_cc rfl rfl rfl (trivial) (w_worthAt (W := W) (N := N) (g := g) hw (kit_fr hk (fun a a1 a2 => k2 a (by omega))) (by omega) (by omega) ⟨_, rfl, ?_⟩)
              refine am_wp_go rfl (by simp (disch := omega) only [rc, am_addE, am_subE, am_mulE, am_laddE, am_lsubE, am_upO, am_upS, am_stS, am_stO, am_tnn, am_brl, am_brg, am_bre, am_brn, am_brG, am_brL, am_st1, am_no2, am_st2, am_clr, and_self, true_and, and_true, true_or, or_true, List.length_cons, List.length_nil] <;> omega) ?_
              try simp (disch := omega) only [rc, am_addE, am_subE, am_mulE, am_laddE, am_lsubE, am_upO, am_upS, am_stS, am_stO, am_tnn, am_brl, am_brg, am_bre, am_brn, am_brG, am_brL, am_st1, am_no2, am_st2, am_clr]
              refine am_wp_br (fun b112 => ?_) (fun b112 => ?_)
              · have dv : gzD W u (gzk n P) r g = false := by unfold gzD; exact decide_eq_false (by omega)
                refine am_wp_go rfl (by simp (disch := omega) only [rc, am_addE, am_subE, am_mulE, am_laddE, am_lsubE, am_upO, am_upS, am_stS, am_stO, am_tnn, am_brl, am_brg, am_bre, am_brn, am_brG, am_brL, am_st1, am_no2, am_st2, am_clr, and_self, true_and, and_true, true_or, or_true, List.length_cons, List.length_nil] <;> omega) ?_
                try simp (disch := omega) only [rc, am_addE, am_subE, am_mulE, am_laddE, am_lsubE, am_upO, am_upS, am_stS, am_stO, am_tnn, am_brl, am_brg, am_bre, am_brn, am_brG, am_brL, am_st1, am_no2, am_st2, am_clr]
                exact am_wp_ls (st K k2 (fun _ _ => rfl) (by rw [kr, ax_bs_s, dv]; rfl)) rfl
              · have dv : gzD W u (gzk n P) r g = true := by unfold gzD; exact decide_eq_true (by omega)
                refine am_wp_go rfl (by simp (disch := omega) only [s80 hw, r80_0 hw, s81 hw, kr, am_shl1, am_orN, ax_bs_or, am_addE, am_subE, am_mulE, am_laddE, am_lsubE, am_upO, am_upS, am_stS, am_stO, am_tnn, am_brl, am_brg, am_bre, am_brn, am_brG, am_brL, am_st1, am_no2, am_st2, am_clr, and_self, true_and, and_true, true_or, or_true, List.length_cons, List.length_nil] <;> omega) ?_
                try simp (disch := omega) only [s80 hw, r80_0 hw, s81 hw, kr, am_shl1, am_orN, ax_bs_or, am_addE, am_subE, am_mulE, am_laddE, am_lsubE, am_upO, am_upS, am_stS, am_stO, am_tnn, am_brl, am_brg, am_bre, am_brn, am_brG, am_brL, am_st1, am_no2, am_st2, am_clr]
                exact am_wp_ls (st _ (fun a ha => by rw [am_upO ha, k2 a ha]) (fun q hq => by rw [am_upS, am_stO hq]) (by rw [am_upS, am_stS rfl, ax_bs_s, dv]; rfl)) rfl
        have j3 : ∀ f : Nat, 1 ≤ f → f ≤ gzla W u g + 1 - gzk n P ∨ f = 1 → ∀ q, q < 249 → J 81 q = (ax_bs (gzD W u (gzk n P) q) (if q < f then g + 1 else g) : Int) := by
          intro f f1 f2 q hq
          rw [j2 q hq]
          by_cases hqf : q < f
          · rw [if_pos hqf, ax_bs_s]
            have : gzD W u (gzk n P) q g = false := by unfold gzD; exact decide_eq_false (by omega)
            rw [this]; rfl
          · rw [if_neg hqf]
        refine am_wp_go rfl (by simp (disch := omega) only [s80 hw, s6 hw, r6_12 hw, s8 hw, e8, am_divE, lq, am_addE, am_subE, am_mulE, am_laddE, am_lsubE, am_upO, am_upS, am_stS, am_stO, am_tnn, am_brl, am_brg, am_bre, am_brn, am_brG, am_brL, am_st1, am_no2, am_st2, am_clr, and_self, true_and, and_true, true_or, or_true, List.length_cons, List.length_nil] <;> omega) ?_
        try simp (disch := omega) only [s80 hw, s6 hw, r6_12 hw, s8 hw, e8, am_divE, lq, am_addE, am_subE, am_mulE, am_laddE, am_lsubE, am_upO, am_upS, am_stS, am_stO, am_tnn, am_brl, am_brg, am_bre, am_brn, am_brG, am_brL, am_st1, am_no2, am_st2, am_clr]
        by_cases hf : gzla W u g + 1 - gzk n P ≤ 1
        · refine am_wp_ls (LI 1 (by decide) 1 J (by decide) j1 (j3 1 (by decide) (Or.inr rfl)) (fun _ _ _ => trivial) (by omega)) ?_
          simp only [List.cons.injEq, Option.some.injEq, Sum.inl.injEq, and_true, true_and]
          constructor <;> (split <;> omega)
        · refine am_wp_ls (LI (gzla W u g + 1 - gzk n P) (by omega) ((gzla W u g + 1 - gzk n P : Nat) : Int) J (by omega) j1 (j3 _ (by omega) (Or.inl (Nat.le_refl _))) (fun _ _ _ => trivial) (by omega)) ?_
          simp only [List.cons.injEq, Option.some.injEq, Sum.inl.injEq, and_true, true_and]
          constructor <;> (split <;> omega)
      · omega
  refine am_wp_go rfl (by simp (disch := omega) only [s80 hw, r80_0 hw, s81 hw, am_addE, am_subE, am_mulE, am_laddE, am_lsubE, am_upO, am_upS, am_stS, am_stO, am_tnn, am_brl, am_brg, am_bre, am_brn, am_brG, am_brL, am_st1, am_no2, am_st2, am_clr, and_self, true_and, and_true, true_or, or_true, List.length_cons, List.length_nil] <;> omega) ?_
  try simp (disch := omega) only [s80 hw, r80_0 hw, s81 hw, am_addE, am_subE, am_mulE, am_laddE, am_lsubE, am_upO, am_upS, am_stS, am_stO, am_tnn, am_brl, am_brg, am_bre, am_brn, am_brG, am_brL, am_st1, am_no2, am_st2, am_clr]
  refine am_wp_cc rfl rfl rfl (trivial) (w_fill (a := 81) (by decide) (s81 hw) (by decide) (fun J j1 j2 j3 => ⟨_, rfl, ?_⟩))
  have e1 : J 6 1 = (P : Int) := by rw [j1 6 (by decide)]; exact k1
  have e5 : J 80 5 = (n : Int) := by rw [j1 80 (by decide)]; exact h5
  refine am_wp_go rfl (by simp (disch := omega) only [s6 hw, s80 hw, e1, e5, am_addE, am_subE, am_mulE, am_laddE, am_lsubE, am_upO, am_upS, am_stS, am_stO, am_tnn, am_brl, am_brg, am_bre, am_brn, am_brG, am_brL, am_st1, am_no2, am_st2, am_clr, and_self, true_and, and_true, true_or, or_true, List.length_cons, List.length_nil] <;> omega) ?_
  try simp (disch := omega) only [s6 hw, s80 hw, e1, e5, am_addE, am_subE, am_mulE, am_laddE, am_lsubE, am_upO, am_upS, am_stS, am_stO, am_tnn, am_brl, am_brg, am_bre, am_brn, am_brG, am_brL, am_st1, am_no2, am_st2, am_clr]
  refine am_wp_br (fun b13 => ?_) (fun b13 => ?_)
  · refine am_wp_go rfl (by simp (disch := omega) only [s6 hw, s80 hw, e1, e5, am_addE, am_subE, am_mulE, am_laddE, am_lsubE, am_upO, am_upS, am_stS, am_stO, am_tnn, am_brl, am_brg, am_bre, am_brn, am_brG, am_brL, am_st1, am_no2, am_st2, am_clr, and_self, true_and, and_true, true_or, or_true, List.length_cons, List.length_nil] <;> omega) ?_
    try simp (disch := omega) only [s6 hw, s80 hw, e1, e5, am_addE, am_subE, am_mulE, am_laddE, am_lsubE, am_upO, am_upS, am_stS, am_stO, am_tnn, am_brl, am_brg, am_bre, am_brn, am_brG, am_brL, am_st1, am_no2, am_st2, am_clr]
    refine am_wp_ls (LO _ (fun h1 => ?_) 0 (Nat.zero_le n) none none none J j1 (fun r hr => j2 r hr)) rfl
    rw [am_divE (by omega), am_addE]
    · unfold gzk
      have : ((n : Int) - 1) = ((n - 1 : Nat) : Int) := by omega
      rw [this]
      omega
    · have := Nat.div_le_self (n - 1) P
      have e : ((n : Int) - 1) = ((n - 1 : Nat) : Int) := by omega
      have h0 : 0 ≤ ((n - 1 : Nat) : Int) / (P : Int) := Int.ediv_nonneg (by omega) (by omega)
      rw [e]
      omega
  · omega
end SV
