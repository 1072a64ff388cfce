/-! SERVED by the class: trace -/
def gzAt (n P : Nat) (D : Nat → Nat → Bool) (v B : Nat → Nat → Int) (a : Nat → Nat) (r : Nat) : Prop := gzOk n P D r (gzS n a r) (gzM n a r) ∧ gzW n v r (gzM n a r) + B (r + 1) (gzS n a r ||| gzM n a r) = B r (gzS n a r) ∧ ∀ U, gzOk n P D r (gzS n a r) U → gzW n v r U + B (r + 1) (gzS n a r ||| U) = B r (gzS n a r) → gzM n a r ≤ U
theorem gzAt_cg {n P : Nat} {D : Nat → Nat → Bool} {v B : Nat → Nat → Int} {a b : Nat → Nat} {r : Nat} (h : gzAt n P D v B a r) (e1 : gzS n b r = gzS n a r) (e2 : gzM n b r = gzM n a r) : gzAt n P D v B b r := by
  unfold gzAt at h ⊢
  rw [e1, e2]; exact h
theorem gzW_0 {n : Nat} {v : Nat → Nat → Int} {r : Nat} : gzW n v r 0 = 0 := by
  unfold gzW
  rw [am_fsum_cg (g := fun _ => 0) (fun g _ => by rw [Nat.zero_testBit, if_neg (by decide)])]
  exact fsum_z n
theorem ct_none : ∀ n, ax_ct (fun _ => false) n = 0
  | 0 => rfl
  | n + 1 => ct_none n
theorem gzAt_0 {n P : Nat} {D : Nat → Nat → Bool} {v B : Nat → Nat → Int} {a : Nat → Nat} {r : Nat} (hB : ∀ S, B (r + 1) S = B r S) (h : ∀ g, g < n → a g ≠ r) : gzAt n P D v B a r := by
  have e : gzM n a r = 0 := by
    unfold gzM
    rw [ax_bs_cg (q := fun _ => false) (fun g hg => decide_eq_false (h g hg))]
    exact bs_none n
  unfold gzAt
  rw [e]
  refine ⟨⟨Nat.two_pow_pos n, fun g hg => ?_, ?_⟩, ?_, fun U _ _ => Nat.zero_le U⟩
  · rw [Nat.zero_testBit] at hg; exact absurd hg (by decide)
  · rw [ax_ct_cg (e := fun _ => false) (fun g _ => Nat.zero_testBit g), ct_none]; exact Nat.zero_le P
  · rw [gzW_0, Nat.or_zero, hB]; omega
def gzv (W : Nat → Int) (u : Nat) (g r : Nat) : Int := gzf W ((r * u : Nat) : Int) g
def gzB (A T : Nat → Int) (r S : Nat) : Int := T (gzi A r * 256 + S)
def gzRw (W : Nat → Int) (u n P : Nat) (A T : Nat → Int) (r : Nat) : Prop := ∀ S, S < 2 ^ n → (∀ U, U &&& dn (A r).toNat S = U → gaF W P ((r * u : Nat) : Int) U n + T ((gzi A r + 1) * 256 + (S ||| U)) ≤ T (gzi A r * 256 + S)) ∧ ∃ U, U &&& dn (A r).toNat S = U ∧ gaF W P ((r * u : Nat) : Int) U n + T ((gzi A r + 1) * 256 + (S ||| U)) = T (gzi A r * 256 + S)
theorem gzi_ex {A : Nat → Int} {e : Nat} : ∀ R, e < gzi A R → ∃ r, r < R ∧ A r ≠ 0 ∧ gzi A r = e
  | 0, h => absurd h (Nat.not_lt_zero e)
  | R + 1, h => by
    by_cases h0 : A R = 0
    · rw [gzi_s0 h0] at h
      obtain ⟨r, r1, r2⟩ := gzi_ex R h
      exact ⟨r, by omega, r2⟩
    · rw [gzi_s1 h0] at h
      by_cases e2 : e = gzi A R
      · exact ⟨R, by omega, h0, e2.symm⟩
      · obtain ⟨r, r1, r2⟩ := gzi_ex R (show e < gzi A R by omega)
        exact ⟨r, by omega, r2⟩
theorem gz_sub {D : Nat → Nat → Bool} {n P r S U : Nat} : (U &&& dn (ax_bs (D r) n) S = U ∧ gzc U n ≤ P) ↔ gzOk n P D r S U := by
  constructor
  · rintro ⟨h, hc⟩
    have l : U < 2 ^ n := by
      have a : U ≤ dn (ax_bs (D r) n) S := by rw [← h]; exact Nat.and_le_right
      have b := dn_le (g := ax_bs (D r) n) (s := S)
      have c := ax_bs_lt (D r) n
      omega
    refine ⟨l, fun g hg => ?_, hc⟩
    have t := sub_tb.mp h g hg
    rw [dn_tb, Bool.and_eq_true, bs_tb, Bool.and_eq_true] at t
    exact ⟨t.1.2, by simpa using t.2⟩
  · rintro ⟨h1, h2, h3⟩
    refine ⟨sub_tb.mpr (fun g hg => ?_), h3⟩
    have t := h2 g hg
    have hgn : g < n := by
      refine Classical.byContradiction (fun hc => ?_)
      rw [Nat.testBit_lt_two_pow (Nat.lt_of_lt_of_le h1 (Nat.pow_le_pow_right (by decide) (by omega)))] at hg
      exact absurd hg (by decide)
    rw [dn_tb, bs_tb, decide_eq_true hgn, t.1, t.2]; rfl
theorem gz_tab {W : Nat → Int} {A T : Nat → Int} {D : Nat → Nat → Bool} {u n P : Nat} (hA : ∀ r, r < 249 → A r = (ax_bs (D r) n : Int)) (hr : ∀ r, r < 249 → A r ≠ 0 → gzRw W u n P A T r) (hz : ∀ S, S < 2 ^ n → T (gzi A 249 * 256 + S) = 0) : gzT n P 249 D (gzv W u) (gzB A T) := by
  refine ⟨fun S hS => hz S hS, fun r h1 h2 S hS U hU => ?_⟩
  unfold gzB
  by_cases h0 : A r = 0
  · have d0 : ax_bs (D r) n = 0 := by have := hA r h2; omega
    have u0 : U = 0 := by
      have := (gz_sub.mpr hU).1
      rw [d0] at this
      have a : U ≤ dn 0 S := by rw [← this]; exact Nat.and_le_right
      have b := dn_le (g := 0) (s := S)
      omega
    rw [u0, gzW_0, Nat.or_zero, gzi_s0 h0]; omega
  · have t := (hr r h2 h0 S hS).1 U (by rw [hA r h2, am_tnn]; exact (gz_sub.mpr hU).1)
    unfold gaF at t
    rw [if_pos (gz_sub.mpr hU).2] at t
    rw [gzi_s1 h0]
    exact t
section SV
variable {m sl : Nat} {sh : Nat → Nat × Nat} {I : Nat → Nat → Int} {R : Nat → Nat → Nat} {Q : am_R → am_M → Prop} {d : Nat} {W N : Nat → Int} {n P u k : Nat}
set_option maxHeartbeats 4000000 in
theorem w_svtrace (hw : wd sh R) (hk : kit I 6 W N) (hn : n = nG W) (hP : W 0 = (P : Int)) (h5 : I 80 5 = (n : Int)) (hu : 1 ≤ u ∧ u ≤ 40) (hk8 : k ≤ 8) (hA : ∀ r : Nat, r < 249 → I 81 r = (ax_bs (gzD W u k r) n : Int)) (h6 : I 80 6 = (gzi (I 81) 249 : Int)) (hR : ∀ r : Nat, r < 249 → I 81 r ≠ 0 → I 82 (gzi (I 81) r) = (r : Int)) (hrw : ∀ r, r < 249 → I 81 r ≠ 0 → gzRw W u n P (I 81) (I 84) r) (hb : ∀ e, e ≤ gzi (I 81) 249 → ∀ S, S < 2 ^ n → 0 ≤ I 84 (e * 256 + S) ∧ I 84 (e * 256 + S) ≤ 200000)
    (h : ∀ J a, (∀ x, x ≠ 83 → x ≠ 85 → J x = I x) → gzTr n P 249 (gzD W u k) (gzv W u) (gzB (I 81) (I 84)) a → (∀ g, g < n → J 85 g = if a g = 0 then -1 else ((a g * u : Nat) : Int)) → Q am_yv (m, sl, sh, J, R)) : am_wp (d + 2) 99 0 [some (.inr (.inr (80))), some (.inr (.inr (6))), some (.inl ((u : Int))), none, none, none, none, none] [] (m, sl, sh, I, R) Q := by
  have n3 := wk_nG hk.1
  rw [← hn] at n3
  have p8 : 2 ^ n ≤ 256 := Nat.pow_le_pow_right (n := 2) (by decide) n3.2
  have il := gzi_le hk8 n3.2 hA
  have bw : ∀ x, x < n → 0 ≤ W (32 + 2 * x + 1) ∧ W (32 + 2 * x + 1) ≤ 99 := fun x hx => by have := hk.1.2.2.1 x (by omega); omega
  have LO : ∀ e : Nat, e ≤ gzi (I 81) 249 → ∀ (a : Nat → Nat) (z5 z6 z7 : Option am_V) (K : Nat → Nat → Int), (∀ x, x ≠ 83 → x ≠ 85 → K x = I x) → (∀ g, g < n → a g = 0 ∨ (a g < 249 ∧ I 81 (a g) ≠ 0 ∧ gzi (I 81) (a g) < e)) → (∀ r, 1 ≤ r → r < 249 → gzi (I 81) (r + 1) ≤ e → gzAt n P (gzD W u k) (gzv W u) (gzB (I 81) (I 84)) a r) → (∀ g, g < n → K 85 g = if a g = 0 then -1 else ((a g * u : Nat) : Int)) → am_wp (d + 2) 99 13 [some (.inr (.inr (80))), some (.inr (.inr (6))), some (.inl ((u : Int))), some (.inl ((ax_bs (fun g => decide (1 ≤ a g)) n : Int))), some (.inl ((e : Int))), z5, z6, z7] [] (m, sl, sh, K, R) Q := by
    refine am_lp (gzi (I 81) 249) (fun e he ih a z5 z6 z7 K k1 k2 k3 k4 => ?_)
    have K6 : K 80 6 = (gzi (I 81) 249 : Int) := by rw [k1 80 (by decide) (by decide)]; exact h6
    have K5 : K 80 5 = (n : Int) := by rw [k1 80 (by decide) (by decide)]; exact h5
    refine am_wp_go rfl (by simp (disch := omega) only [s80 hw, K6, am_addE, am_subE, am_mulE, am_laddE, am_lsubE, am_upO, am_upS, am_stS, am_stO, am_tnn, am_brl, am_brg, am_bre, am_brn, am_brG, am_brL, am_st1, am_no2, am_st2, am_clr, and_self, true_and, and_true, true_or, or_true, List.length_cons, List.length_nil] <;> omega) ?_
    try simp (disch := omega) only [s80 hw, K6, am_addE, am_subE, am_mulE, am_laddE, am_lsubE, am_upO, am_upS, am_stS, am_stO, am_tnn, am_brl, am_brg, am_bre, am_brn, am_brG, am_brL, am_st1, am_no2, am_st2, am_clr]
    refine am_wp_br (fun b19 => ?_) (fun b19 => ?_)
    · refine am_wp_ret rfl rfl ?_
      refine h K a k1 ⟨fun g hg => ?_, fun r r1 r2 => k3 r r1 r2 ?_⟩ k4
      · have := k2 g hg; omega
      · have := gzi_mono (J := I 81) (show r + 1 ≤ 249 by omega); omega
    · have ih := ih (by omega)
      obtain ⟨r, r1, r2, r3⟩ := gzi_ex (A := I 81) 249 (show e < gzi (I 81) 249 by omega)
      have rge : 1 ≤ r := by
        refine Classical.byContradiction (fun hc => r2 ?_)
        rw [show r = 0 by omega, hA 0 (by decide)]
        rw [ax_bs_cg (q := fun _ => false) (fun g _ => by unfold gzD; exact decide_eq_false (by omega)), bs_none]; rfl
      have re := hR r r1 r2
      rw [r3] at re
      have K82 : K 82 e = (r : Int) := by rw [k1 82 (by decide) (by decide)]; exact re
      have ru : r * u ≤ 248 * 40 := Nat.mul_le_mul (by omega) hu.2
      have rc : (r : Int) * (u : Int) = ((r * u : Nat) : Int) := (Int.natCast_mul r u).symm
      have row := hrw r r1 r2
      unfold gzRw at row
      rw [r3, hA r r1, am_tnn] at row
      have Sl : ax_bs (fun g => decide (1 ≤ a g)) n < 2 ^ n := ax_bs_lt _ _
      have mo : ∀ g, g < n → 1 ≤ a g → a g < r := fun g hg h1 => by
        have q := k2 g hg
        refine Classical.byContradiction (fun hc => ?_)
        have := gzi_mono (J := I 81) (show r ≤ a g by omega)
        omega
      have eS : gzS n a r = ax_bs (fun g => decide (1 ≤ a g)) n := ax_bs_cg (fun g hg => decide_eq_decide.mpr ⟨fun h => h.1, fun h => ⟨h, mo g hg h⟩⟩)
      refine am_wp_go rfl (by simp (disch := omega) only [s80 hw, r80_1 hw, s82 hw, K82, rc, am_addE, am_subE, am_mulE, am_laddE, am_lsubE, am_upO, am_upS, am_stS, am_stO, am_tnn, am_brl, am_brg, am_bre, am_brn, am_brG, am_brL, am_st1, am_no2, am_st2, am_clr, and_self, true_and, and_true, true_or, or_true, List.length_cons, List.length_nil] <;> omega) ?_
      try simp (disch := omega) only [s80 hw, r80_1 hw, s82 hw, K82, rc, am_addE, am_subE, am_mulE, am_laddE, am_lsubE, am_upO, am_upS, am_stS, am_stO, am_tnn, am_brl, am_brg, am_bre, am_brn, am_brG, am_brL, am_st1, am_no2, am_st2, am_clr]
      refine am_wp_cc rfl rfl rfl (congrArg Prod.fst (s80 hw)) (w_weigh (W := W) (N := N) (n := n) (P := P) hw (kit_fr hk (fun a a1 a2 => k1 a (by omega) (by omega))) hn hP K5 (by omega) (fun V v1 v2 => ⟨_, rfl, ?_⟩))
      have V84 : V 84 = I 84 := by rw [v1 84 (by decide), k1 84 (by decide) (by decide)]
      have V81 : V 81 = I 81 := by rw [v1 81 (by decide), k1 81 (by decide) (by decide)]
      have V82 : V 82 e = (r : Int) := by rw [v1 82 (by decide)]; exact K82
      have V5 : V 80 5 = (n : Int) := by rw [v1 80 (by decide)]; exact K5
      have ga : ∀ U, U < 2 ^ n → -1000000 ≤ V 83 U ∧ V 83 U ≤ 1000 := fun U hU => by
        rw [v2 U hU]
        have := gzX_le (W := W) (mi := ((r * u : Nat) : Int)) (U := U) (n := n) bw
        unfold gaF
        split <;> omega
      have ul : ∀ U, U &&& dn (ax_bs (gzD W u k r) n) (ax_bs (fun g => decide (1 ≤ a g)) n) = U → U < 2 ^ n := fun U hU => by
        have a1 : U ≤ dn (ax_bs (gzD W u k r) n) (ax_bs (fun g => decide (1 ≤ a g)) n) := by rw [← hU]; exact Nat.and_le_right
        have b1 := dn_le (g := ax_bs (gzD W u k r) n) (s := ax_bs (fun g => decide (1 ≤ a g)) n)
        have c1 := ax_bs_lt (gzD W u k r) n
        omega
      have rowS := row _ Sl
      refine am_wp_go rfl (by simp (disch := omega) only [rc, am_addE, am_subE, am_mulE, am_laddE, am_lsubE, am_upO, am_upS, am_stS, am_stO, am_tnn, am_brl, am_brg, am_bre, am_brn, am_brG, am_brL, am_st1, am_no2, am_st2, am_clr, and_self, true_and, and_true, true_or, or_true, List.length_cons, List.length_nil] <;> omega) ?_
      try simp (disch := omega) only [rc, am_addE, am_subE, am_mulE, am_laddE, am_lsubE, am_upO, am_upS, am_stS, am_stO, am_tnn, am_brl, am_brg, am_bre, am_brn, am_brG, am_brL, am_st1, am_no2, am_st2, am_clr]
      refine am_wp_cc rfl rfl rfl (congrArg Prod.fst (s80 hw)) (w_leastAsGood (n := n) (e := e) (r := r) (S := ax_bs (fun g => decide (1 ≤ a g)) n) (Dm := ax_bs (gzD W u k r) n) hw n3.2 (by omega) V82 r1 (by rw [V81]; exact hA r r1) (ax_bs_lt _ _) Sl ga (fun U hU => by have := hb (e + 1) (by omega) U hU; rw [V84]; omega) (by obtain ⟨U, u1, u2⟩ := rowS.2; exact ⟨U, u1, by rw [v2 U (ul U u1), V84]; exact u2⟩) (fun U u1 u2 u3 => ⟨_, rfl, ?_⟩))
      have Ul := ul U u1
      rw [v2 U Ul, V84] at u2
      have ub := hb e (by omega) _ Sl
      have ut := hb (e + 1) (by omega) (ax_bs (fun g => decide (1 ≤ a g)) n ||| U) (Nat.or_lt_two_pow Sl Ul)
      have uc : gzc U n ≤ P := by
        refine Classical.byContradiction (fun hc => ?_)
        unfold gaF at u2
        rw [if_neg hc] at u2
        omega
      have ok := gz_sub.mp ⟨u1, uc⟩
      have dis : ∀ g, g < n → U.testBit g = true → a g = 0 := fun g hg hU => by
        have := (ok.2.1 g hU).2
        rw [bs_tb, decide_eq_true hg, Bool.true_and, decide_eq_false_iff_not] at this
        omega
      -- what the new a is
      have key : ∀ (L : Nat → Nat → Int) (z7 : Option am_V), (∀ x, x ≠ 83 → x ≠ 85 → L x = I x) → (∀ g, g < n → L 85 g = if U.testBit g = true then ((r * u : Nat) : Int) else K 85 g) → am_wp (d + 2) 99 13 [some (.inr (.inr (80))), some (.inr (.inr (6))), some (.inl ((u : Int))), some (.inl (((ax_bs (fun g => decide (1 ≤ a g)) n ||| U : Nat) : Int))), some (.inl (((e : Int) + 1))), some (.inl (((r * u : Nat) : Int))), some (.inl ((U : Int))), z7] [] (m, sl, sh, L, R) Q := by
        intro L z7 l1 l2
        have b1 : ∀ g, (fun g => if U.testBit g = true then r else a g) g = if U.testBit g = true then r else a g := fun g => rfl
        generalize hb0 : (fun g => if U.testBit g = true then r else a g) = b at b1
        have bM : gzM n b r = U := by
          refine Nat.eq_of_testBit_eq (fun g => ?_)
          rw [gzM_tb]
          by_cases hg : g < n
          · rw [decide_eq_true hg, Bool.true_and, b1]
            cases hU : U.testBit g
            · rw [if_neg (by decide)]
              refine decide_eq_false (fun hc => ?_)
              have := mo g hg (by omega); omega
            · rw [if_pos rfl]; exact decide_eq_true rfl
          · rw [decide_eq_false hg, Bool.false_and]
            exact (Nat.testBit_lt_two_pow (Nat.lt_of_lt_of_le Ul (Nat.pow_le_pow_right (by decide) (by omega)))).symm
        have bS : gzS n b r = gzS n a r := ax_bs_cg (fun g hg => decide_eq_decide.mpr (by
          rw [b1]
          cases hU : U.testBit g
          · rw [if_neg (by decide)]
          · rw [if_pos rfl, dis g hg hU]; omega))
        have e1 : ax_bs (fun g => decide (1 ≤ a g)) n ||| U = ax_bs (fun g => decide (1 ≤ b g)) n := by
          rw [← eS, ← bS, ← bM, gzS_or rge]
          refine ax_bs_cg (fun g hg => decide_eq_decide.mpr ?_)
          rw [b1]
          cases hU : U.testBit g
          · rw [if_neg (by decide)]
            exact ⟨fun h => h.1, fun h => ⟨h, by have := mo g hg h; omega⟩⟩
          · rw [if_pos rfl]; omega
        rw [e1]
        refine am_wp_ls (ih b _ _ z7 L l1 (fun g hg => ?_) (fun q q1 q2 q3 => ?_) (fun g hg => ?_)) rfl
        · rw [b1]
          cases hU : U.testBit g
          · rw [if_neg (by decide)]
            have := k2 g hg; omega
          · rw [if_pos rfl]
            exact Or.inr ⟨r1, r2, by omega⟩
        · by_cases hq : q < r
          · have qe : gzi (I 81) (q + 1) ≤ e := by rw [← r3]; exact gzi_mono (by omega)
            refine gzAt_cg (k3 q q1 q2 qe) (ax_bs_cg (fun g hg => decide_eq_decide.mpr ?_)) (ax_bs_cg (fun g hg => decide_eq_decide.mpr ?_))
            · rw [b1]
              cases hU : U.testBit g
              · rw [if_neg (by decide)]
              · rw [if_pos rfl, dis g hg hU]; omega
            · rw [b1]
              cases hU : U.testBit g
              · rw [if_neg (by decide)]
              · rw [if_pos rfl, dis g hg hU]; omega
          · by_cases hq2 : q = r
            · subst hq2
              unfold gzAt gzB
              rw [bM, bS, eS, gzi_s1 r2, r3]
              refine ⟨ok, ?_, fun V' o' t' => ?_⟩
              · unfold gaF at u2
                rw [if_pos uc] at u2
                exact u2
              · have o2 := gz_sub.mpr o'
                refine u3 V' o2.1 ?_
                rw [v2 V' o'.1, V84]
                unfold gaF
                rw [if_pos o2.2]
                exact t'
            · have z : I 81 q = 0 := by
                refine Classical.byContradiction (fun hc => ?_)
                have a1 := gzi_s1 hc
                have a2 := gzi_s1 r2
                have a3 := gzi_mono (J := I 81) (show r + 1 ≤ q by omega)
                omega
              refine gzAt_0 (fun S => by unfold gzB; rw [gzi_s0 z]) (fun g hg hc => ?_)
              rw [b1] at hc
              cases hU : U.testBit g
              · rw [hU, if_neg (by decide)] at hc
                have := k2 g hg
                rw [hc] at this
                omega
              · rw [hU, if_pos rfl] at hc
                omega
        · rw [l2 g hg, b1]
          cases hU : U.testBit g
          · simp only [Bool.false_eq_true, if_false]
            exact k4 g hg
          · rw [if_pos rfl, if_pos rfl, if_neg (by omega)]
      have LI : ∀ g : Nat, g ≤ n → ∀ (L : Nat → Nat → Int), (∀ x, x ≠ 83 → x ≠ 85 → L x = I x) → (∀ h, h < n → L 85 h = if h < g ∧ U.testBit h = true then ((r * u : Nat) : Int) else K 85 h) → am_wp (d + 2) 99 52 [some (.inr (.inr (80))), some (.inr (.inr (6))), some (.inl ((u : Int))), some (.inl ((ax_bs (fun g => decide (1 ≤ a g)) n : Int))), some (.inl ((e : Int))), some (.inl (((r * u : Nat) : Int))), some (.inl ((U : Int))), some (.inl ((g : Int)))] [] (m, sl, sh, L, R) Q := by
        refine am_lp n (fun g hg ih2 L l1 l2 => ?_)
        have L5 : L 80 5 = (n : Int) := by rw [l1 80 (by decide) (by decide)]; exact h5
        have o4 : U.testBit g = decide (U / 2 ^ g % 2 = 1) := Nat.testBit_eq_decide_div_mod_eq
        have o6 : ((U : Int)) / 2 ^ g = ((U / 2 ^ g : Nat) : Int) := by simp
        have o7 := Nat.div_le_self U (2 ^ g)
        refine am_wp_go rfl (by simp (disch := omega) only [s80 hw, L5, am_ushrN, o6, am_and1, am_orN, am_addE, am_subE, am_mulE, am_laddE, am_lsubE, am_upO, am_upS, am_stS, am_stO, am_tnn, am_brl, am_brg, am_bre, am_brn, am_brG, am_brL, am_st1, am_no2, am_st2, am_clr, and_self, true_and, and_true, true_or, or_true, List.length_cons, List.length_nil] <;> omega) ?_
        try simp (disch := omega) only [s80 hw, L5, am_ushrN, o6, am_and1, am_orN, am_addE, am_subE, am_mulE, am_laddE, am_lsubE, am_upO, am_upS, am_stS, am_stO, am_tnn, am_brl, am_brg, am_bre, am_brn, am_brG, am_brL, am_st1, am_no2, am_st2, am_clr]
        refine am_wp_br (fun b58 => ?_) (fun b58 => ?_)
        · refine am_wp_go rfl (by simp (disch := omega) only [s80 hw, L5, am_ushrN, o6, am_and1, am_orN, am_addE, am_subE, am_mulE, am_laddE, am_lsubE, am_upO, am_upS, am_stS, am_stO, am_tnn, am_brl, am_brg, am_bre, am_brn, am_brG, am_brL, am_st1, am_no2, am_st2, am_clr, and_self, true_and, and_true, true_or, or_true, List.length_cons, List.length_nil] <;> omega) ?_
          try simp (disch := omega) only [s80 hw, L5, am_ushrN, o6, am_and1, am_orN, am_addE, am_subE, am_mulE, am_laddE, am_lsubE, am_upO, am_upS, am_stS, am_stO, am_tnn, am_brl, am_brg, am_bre, am_brn, am_brG, am_brL, am_st1, am_no2, am_st2, am_clr]
          exact am_wp_ls (key L _ l1 (fun x hx => by
            rw [l2 x hx]
            cases hU : U.testBit x
            · rw [if_neg (by rintro ⟨-, h⟩; exact absurd h (by decide)), if_neg (by decide)]
            · rw [if_pos ⟨by omega, rfl⟩, if_pos rfl])) rfl
        · have ih2 := ih2 (by omega)
          generalize U / 2 ^ g = q at o4 o6 o7
          refine am_wp_go rfl (by simp (disch := omega) only [s80 hw, L5, am_ushrN, o6, am_and1, am_orN, am_addE, am_subE, am_mulE, am_laddE, am_lsubE, am_upO, am_upS, am_stS, am_stO, am_tnn, am_brl, am_brg, am_bre, am_brn, am_brG, am_brL, am_st1, am_no2, am_st2, am_clr, and_self, true_and, and_true, true_or, or_true, List.length_cons, List.length_nil] <;> omega) ?_
          try simp (disch := omega) only [s80 hw, L5, am_ushrN, o6, am_and1, am_orN, am_addE, am_subE, am_mulE, am_laddE, am_lsubE, am_upO, am_upS, am_stS, am_stO, am_tnn, am_brl, am_brg, am_bre, am_brn, am_brG, am_brL, am_st1, am_no2, am_st2, am_clr]
          refine am_wp_br (fun b68 => ?_) (fun b68 => ?_)
          · have nb : U.testBit g = false := by rw [o4]; exact decide_eq_false (by omega)
            refine am_wp_go rfl (by simp (disch := omega) only [s80 hw, L5, am_ushrN, o6, am_and1, am_orN, am_addE, am_subE, am_mulE, am_laddE, am_lsubE, am_upO, am_upS, am_stS, am_stO, am_tnn, am_brl, am_brg, am_bre, am_brn, am_brG, am_brL, am_st1, am_no2, am_st2, am_clr, and_self, true_and, and_true, true_or, or_true, List.length_cons, List.length_nil] <;> omega) ?_
            try simp (disch := omega) only [s80 hw, L5, am_ushrN, o6, am_and1, am_orN, am_addE, am_subE, am_mulE, am_laddE, am_lsubE, am_upO, am_upS, am_stS, am_stO, am_tnn, am_brl, am_brg, am_bre, am_brn, am_brG, am_brL, am_st1, am_no2, am_st2, am_clr]
            refine am_wp_ls (ih2 L l1 (fun x hx => ?_)) rfl
            rw [l2 x hx]
            by_cases e2 : x = g
            · rw [e2, nb, if_neg (by rintro ⟨-, h⟩; exact absurd h (by decide)), if_neg (by rintro ⟨-, h⟩; exact absurd h (by decide))]
            · have : (x < g ∧ U.testBit x = true) ↔ (x < g + 1 ∧ U.testBit x = true) := ⟨fun h => ⟨by omega, h.2⟩, fun h => ⟨by omega, h.2⟩⟩
              simp only [this]
          · have nb : U.testBit g = true := by rw [o4]; exact decide_eq_true (by omega)
            refine am_wp_go rfl (by simp (disch := omega) only [s80 hw, r80_4 hw, s85 hw, L5, am_ushrN, o6, am_and1, am_orN, am_addE, am_subE, am_mulE, am_laddE, am_lsubE, am_upO, am_upS, am_stS, am_stO, am_tnn, am_brl, am_brg, am_bre, am_brn, am_brG, am_brL, am_st1, am_no2, am_st2, am_clr, and_self, true_and, and_true, true_or, or_true, List.length_cons, List.length_nil] <;> omega) ?_
            try simp (disch := omega) only [s80 hw, r80_4 hw, s85 hw, L5, am_ushrN, o6, am_and1, am_orN, am_addE, am_subE, am_mulE, am_laddE, am_lsubE, am_upO, am_upS, am_stS, am_stO, am_tnn, am_brl, am_brg, am_bre, am_brn, am_brG, am_brL, am_st1, am_no2, am_st2, am_clr]
            refine am_wp_ls (ih2 _ (fun x x1 x2 => by rw [am_upO x2, l1 x x1 x2]) (fun x hx => ?_)) rfl
            rw [am_upS]
            by_cases e2 : x = g
            · rw [am_stS e2, e2, if_pos ⟨by omega, nb⟩]
            · rw [am_stO e2, l2 x hx]
              have : (x < g ∧ U.testBit x = true) ↔ (x < g + 1 ∧ U.testBit x = true) := ⟨fun h => ⟨by omega, h.2⟩, fun h => ⟨by omega, h.2⟩⟩
              simp only [this]
      refine am_wp_go rfl (by simp (disch := omega) only [rc, am_addE, am_subE, am_mulE, am_laddE, am_lsubE, am_upO, am_upS, am_stS, am_stO, am_tnn, am_brl, am_brg, am_bre, am_brn, am_brG, am_brL, am_st1, am_no2, am_st2, am_clr, and_self, true_and, and_true, true_or, or_true, List.length_cons, List.length_nil] <;> omega) ?_
      try simp (disch := omega) only [rc, am_addE, am_subE, am_mulE, am_laddE, am_lsubE, am_upO, am_upS, am_stS, am_stO, am_tnn, am_brl, am_brg, am_bre, am_brn, am_brG, am_brL, am_st1, am_no2, am_st2, am_clr]
      refine am_wp_ls (LI 0 (Nat.zero_le n) V (fun x x1 x2 => by rw [v1 x x1, k1 x x1 x2]) (fun x hx => ?_)) rfl
      rw [if_neg (by rintro ⟨h, -⟩; exact absurd h (Nat.not_lt_zero x)), v1 85 (by decide)]
  refine am_wp_go rfl (by simp (disch := omega) only [s80 hw, r80_4 hw, s85 hw, am_addE, am_subE, am_mulE, am_laddE, am_lsubE, am_upO, am_upS, am_stS, am_stO, am_tnn, am_brl, am_brg, am_bre, am_brn, am_brG, am_brL, am_st1, am_no2, am_st2, am_clr, and_self, true_and, and_true, true_or, or_true, List.length_cons, List.length_nil] <;> omega) ?_
  try simp (disch := omega) only [s80 hw, r80_4 hw, s85 hw, am_addE, am_subE, am_mulE, am_laddE, am_lsubE, am_upO, am_upS, am_stS, am_stO, am_tnn, am_brl, am_brg, am_bre, am_brn, am_brG, am_brL, am_st1, am_no2, am_st2, am_clr]
  refine am_wp_cc rfl rfl rfl (trivial) (w_fill (a := 85) (by decide) (s85 hw) (by decide) (fun J j1 j2 j3 => ⟨_, rfl, ?_⟩))
  refine am_wp_go rfl (by simp (disch := omega) only [am_addE, am_subE, am_mulE, am_laddE, am_lsubE, am_upO, am_upS, am_stS, am_stO, am_tnn, am_brl, am_brg, am_bre, am_brn, am_brG, am_brL, am_st1, am_no2, am_st2, am_clr, and_self, true_and, and_true, true_or, or_true, List.length_cons, List.length_nil] <;> omega) ?_
  try simp (disch := omega) only [am_addE, am_subE, am_mulE, am_laddE, am_lsubE, am_upO, am_upS, am_stS, am_stO, am_tnn, am_brl, am_brg, am_bre, am_brn, am_brG, am_brL, am_st1, am_no2, am_st2, am_clr]
  have a0 : ax_bs (fun g => decide (1 ≤ (fun _ => 0 : Nat → Nat) g)) n = 0 := by
    rw [ax_bs_cg (q := fun _ => false) (fun g _ => decide_eq_false (Nat.not_succ_le_zero 0))]
    exact bs_none n
  refine am_wp_ls (LO 0 (Nat.zero_le _) (fun _ => 0) none none none J (fun x _ x2 => j1 x x2) (fun g _ => Or.inl rfl) (fun r r1 r2 r3 => ?_) (fun g hg => by rw [j2 g (by omega)]; rfl)) (by rw [a0]; rfl)
  have z : I 81 r = 0 := by
    refine Classical.byContradiction (fun hc => ?_)
    have a1 := gzi_s1 hc
    omega
  exact gzAt_0 (fun S => by unfold gzB; rw [gzi_s0 z]) (fun g hg hc => by omega)
end SV
