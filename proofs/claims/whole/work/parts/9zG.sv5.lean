/-! SERVED by the class: find, served -/
theorem gzi_inj {A : Nat → Int} {r q : Nat} (h1 : A r ≠ 0) (h2 : A q ≠ 0) (h : gzi A r = gzi A q) : r = q := by
  have a := gzi_s1 h1
  have b := gzi_s1 h2
  refine Classical.byContradiction (fun hc => ?_)
  rcases Nat.lt_or_gt_of_ne hc with h3 | h3
  · have := gzi_mono (J := A) (show r + 1 ≤ q by omega); omega
  · have := gzi_mono (J := A) (show q + 1 ≤ r by omega); omega
theorem gz_ul {D n S U : Nat} (hD : D < 2 ^ n) (hU : U &&& dn D S = U) : U < 2 ^ n := by
  have a1 : U ≤ dn D S := by rw [← hU]; exact Nat.and_le_right
  have b1 := dn_le (g := D) (s := S)
  omega
theorem gzRw_cg {W A T V : Nat → Int} {u n P r D : Nat} (hn : n ≤ 8) (hA : A r = (D : Int)) (hD : D < 2 ^ n) (h : gzRw W u n P A T r) (e0 : ∀ S, S < 2 ^ n → V (gzi A r * 256 + S) = T (gzi A r * 256 + S)) (e1 : ∀ S, S < 2 ^ n → V ((gzi A r + 1) * 256 + S) = T ((gzi A r + 1) * 256 + S)) : gzRw W u n P A V r := by
  intro S hS
  obtain ⟨h1, U, h2, h3⟩ := h S hS
  rw [hA, am_tnn] at h1 h2 ⊢
  refine ⟨fun U hU => ?_, U, h2, ?_⟩
  · rw [e0 S hS, e1 _ (Nat.or_lt_two_pow hS (gz_ul hD hU))]; exact h1 U hU
  · rw [e0 S hS, e1 _ (Nat.or_lt_two_pow hS (gz_ul hD h2))]; exact h3
section SV
variable {m sl : Nat} {sh : Nat → Nat × Nat} {I : Nat → Nat → Int} {R : Nat → Nat → Nat} {Q : am_R → am_M → Prop} {d : Nat} {W N : Nat → Int} {n P u : Nat}
set_option maxHeartbeats 4000000 in
theorem w_svfind (hw : wd sh R) (hk : kit I 6 W N) (hn : n = nG W) (hP : W 0 = (P : Int)) (hu : 1 ≤ u ∧ u ≤ 40) (h : ∀ J a B, (∀ x, ¬ (80 ≤ x ∧ x ≤ 85) → J x = I x) → J 80 5 = (n : Int) → gzT n P 249 (gzD W u (gzk n P)) (gzv W u) B → gzTr n P 249 (gzD W u (gzk n P)) (gzv W u) B a → (∀ g, g < n → J 85 g = if a g = 0 then -1 else ((a g * u : Nat) : Int)) → Q (am_yi (B 1 0)) (m, sl, sh, J, R)) : am_wp (d + 3) 94 0 [some (.inr (.inr (80))), some (.inr (.inr (6))), some (.inl ((u : Int))), none, none, none] [] (m, sl, sh, I, R) Q := by
  have n3 := wk_nG hk.1
  rw [← hn] at n3
  have p4 := hk.1.1
  unfold wk0 at p4
  have p8 : 2 ^ n ≤ 256 := Nat.pow_le_pow_right (n := 2) (by decide) n3.2
  have p0 := Nat.two_pow_pos n
  have kk := gzk_le (n := n) (P := P) (by omega) n3.2
  have k7 : I 6 7 = (n : Int) := by rw [hk.2.1.2.2.2.2.2.2.1]; exact n3.1
  have bw : ∀ x, x < n → 0 ≤ W (32 + 2 * x + 1) ∧ W (32 + 2 * x + 1) ≤ 99 := fun x hx => by have := hk.1.2.2.1 x (by omega); omega
  have bX : ∀ mi U, 0 ≤ gzX W mi U n ∧ gzX W mi U n ≤ 800 := fun mi U => by
    have := gzX_le (W := W) (mi := mi) (U := U) (n := n) bw
    omega
  have ga0 : ∀ mi, gaF W P mi 0 n = 0 := fun mi => by
    unfold gaF gzc gzX
    rw [ax_ct_cg (e := fun _ => false) (fun g _ => Nat.zero_testBit g), ct_none, if_pos (Nat.zero_le P), am_fsum_cg (g := fun _ => 0) (fun g _ => by rw [Nat.zero_testBit, if_neg (by decide)])]
    exact fsum_z n
  refine am_wp_go rfl (by simp (disch := omega) only [s80 hw, s6 hw, k7, am_addE, am_subE, am_mulE, am_laddE, am_lsubE, am_upO, am_upS, am_stS, am_stO, am_tnn, am_brl, am_brg, am_bre, am_brn, am_brG, am_brL, am_st1, am_no2, am_st2, am_clr, and_self, true_and, and_true, true_or, or_true, List.length_cons, List.length_nil] <;> omega) ?_
  simp (disch := omega) only [s80 hw, s6 hw, k7, am_addE, am_subE, am_mulE, am_laddE, am_lsubE, am_upO, am_upS, am_stS, am_stO, am_tnn, am_brl, am_brg, am_bre, am_brn, am_brG, am_brL, am_st1, am_no2, am_st2, am_clr]
  refine am_wp_cc rfl rfl rfl (congrArg Prod.fst (s80 hw)) (w_collectEnds (W := W) (N := N) (n := n) (P := P) (u := u) hw (kit_fr hk (fun a a1 a2 => am_upO (by omega))) hn hP (by rw [am_upS, am_stS rfl]) hu (fun J j1 j2 j3 j4 j5 => ⟨_, rfl, ?_⟩))
  have j1 : ∀ a, ¬ (80 ≤ a ∧ a ≤ 82) → J a = I a := fun a ha => by rw [j1 a (by omega) (by omega) (by omega), am_upO (by omega)]
  have il := gzi_le kk.1 n3.2 j3
  generalize hE : gzi (J 81) 249 = E at *
  have A0 : J 81 0 = 0 := by
    rw [j3 0 (by decide), ax_bs_cg (q := fun _ => false) (fun g _ => by unfold gzD; exact decide_eq_false (by omega)), bs_none]; rfl
  -- the rows one by one
  have LE : ∀ j : Nat, j ≤ E → ∀ (z5 : Option am_V) (K : Nat → Nat → Int), (∀ x, x ≠ 83 → x ≠ 84 → K x = J x) → (∀ r, r < 249 → J 81 r ≠ 0 → E - j ≤ gzi (J 81) r → gzRw W u n P (J 81) (K 84) r) → (∀ e, E - j ≤ e → e ≤ E → ∀ S, S < 2 ^ n → 0 ≤ K 84 (e * 256 + S) ∧ K 84 (e * 256 + S) ≤ 1000 * ((E - e : Nat) : Int)) → am_wp (d + 3) 94 61 [some (.inr (.inr (80))), some (.inr (.inr (6))), some (.inl ((u : Int))), some (.inl (((2 ^ n : Nat) : Int))), some (.inl ((((E - j : Nat) : Int) - 1))), z5] [] (m, sl, sh, K, R) Q := by
    refine am_lp E (fun j hj ih z5 K k1 k2 k3 => ?_)
    have K5 : K 80 5 = (n : Int) := by rw [k1 80 (by decide) (by decide)]; exact j2
    have K6 : K 80 6 = (gzi (K 81) 249 : Int) := by rw [k1 80 (by decide) (by decide), k1 81 (by decide) (by decide), hE]; exact j4
    have K81 : K 81 = J 81 := k1 81 (by decide) (by decide)
    have K82 : K 82 = J 82 := k1 82 (by decide) (by decide)
    have kK : kit K 6 W N := kit_fr hk (fun a a1 a2 => by rw [k1 a (by omega) (by omega), j1 a (by omega)])
    refine am_wp_go rfl (by simp (disch := omega) only [am_addE, am_subE, am_mulE, am_laddE, am_lsubE, am_upO, am_upS, am_stS, am_stO, am_tnn, am_brl, am_brg, am_bre, am_brn, am_brG, am_brL, am_st1, am_no2, am_st2, am_clr, and_self, true_and, and_true, true_or, or_true, List.length_cons, List.length_nil] <;> omega) ?_
    try simp (disch := omega) only [am_addE, am_subE, am_mulE, am_laddE, am_lsubE, am_upO, am_upS, am_stS, am_stO, am_tnn, am_brl, am_brg, am_bre, am_brn, am_brG, am_brL, am_st1, am_no2, am_st2, am_clr]
    refine am_wp_br (fun b63 => ?_) (fun b63 => ?_)
    · have ej : j = E := by omega
      rw [ej, Nat.sub_self] at k2 k3
      refine am_wp_go rfl (by simp (disch := omega) only [am_addE, am_subE, am_mulE, am_laddE, am_lsubE, am_upO, am_upS, am_stS, am_stO, am_tnn, am_brl, am_brg, am_bre, am_brn, am_brG, am_brL, am_st1, am_no2, am_st2, am_clr, and_self, true_and, and_true, true_or, or_true, List.length_cons, List.length_nil] <;> omega) ?_
      try simp (disch := omega) only [am_addE, am_subE, am_mulE, am_laddE, am_lsubE, am_upO, am_upS, am_stS, am_stO, am_tnn, am_brl, am_brg, am_bre, am_brn, am_brG, am_brL, am_st1, am_no2, am_st2, am_clr]
      refine am_wp_cc rfl rfl rfl (congrArg Prod.fst (s80 hw)) (w_svtrace (W := W) (N := N) (n := n) (P := P) (u := u) (k := gzk n P) hw kK hn hP K5 hu kk.1 (by rw [K81]; exact j3) K6 (by rw [K81, K82]; exact j5) (by rw [K81]; exact fun r r1 r2 => k2 r r1 r2 (Nat.zero_le _)) (by rw [K81, hE]; exact fun e e1 S hS => by have := k3 e (Nat.zero_le _) e1 S hS; omega) (fun V a v1 v2 v3 => ⟨_, rfl, ?_⟩))
      have V84 : V 84 = K 84 := v1 84 (by decide) (by decide)
      rw [K81] at v2
      have hT : gzT n P 249 (gzD W u (gzk n P)) (gzv W u) (gzB (J 81) (K 84)) := gz_tab j3 (fun r r1 r2 => k2 r r1 r2 (Nat.zero_le _)) (fun S hS => by
        rw [hE]
        have := k3 E (Nat.zero_le _) (Nat.le_refl E) S hS
        rw [Nat.sub_self] at this
        omega)
      have h := h V a _ (fun x hx => by rw [v1 x (by omega) (by omega), k1 x (by omega) (by omega), j1 x (by omega)]) (by rw [v1 80 (by decide) (by decide)]; exact K5) hT v2 v3
      unfold gzB at h
      rw [gzi_s0 A0, show gzi (J 81) 0 = 0 from rfl, Nat.zero_mul, Nat.add_zero] at h
      refine am_wp_go rfl (by simp (disch := omega) only [s80 hw, r80_3 hw, s84 hw, V84, Int.reduceToNat, am_addE, am_subE, am_mulE, am_laddE, am_lsubE, am_upO, am_upS, am_stS, am_stO, am_tnn, am_brl, am_brg, am_bre, am_brn, am_brG, am_brL, am_st1, am_no2, am_st2, am_clr, and_self, true_and, and_true, true_or, or_true, List.length_cons, List.length_nil] <;> omega) ?_
      try simp (disch := omega) only [s80 hw, r80_3 hw, s84 hw, V84, Int.reduceToNat, am_addE, am_subE, am_mulE, am_laddE, am_lsubE, am_upO, am_upS, am_stS, am_stO, am_tnn, am_brl, am_brg, am_bre, am_brn, am_brG, am_brL, am_st1, am_no2, am_st2, am_clr]
      refine am_wp_ret rfl rfl ?_
      exact h
    · obtain ⟨e0, he0⟩ : ∃ e0, E - j = e0 + 1 := ⟨E - j - 1, by omega⟩
      have ih := ih (by omega)
      rw [show E - (j + 1) = e0 by omega] at ih
      rw [he0] at k2 k3
      obtain ⟨r, r1, r2, r3⟩ := gzi_ex (A := J 81) 249 (show e0 < gzi (J 81) 249 by omega)
      have re := j5 r r1 r2
      rw [r3] at re
      have Ke : K 82 e0 = (r : Int) := by rw [K82]; exact re
      have ru : r * u ≤ 248 * 40 := Nat.mul_le_mul (by omega) hu.2
      have rc : (r : Int) * (u : Int) = ((r * u : Nat) : Int) := (Int.natCast_mul r u).symm
      have e1 : ((e0 + 1 : Nat) : Int) - 1 = (e0 : Int) := by omega
      rw [he0, e1]
      refine am_wp_go rfl (by simp (disch := omega) only [s80 hw, r80_1 hw, s82 hw, Ke, rc, am_addE, am_subE, am_mulE, am_laddE, am_lsubE, am_upO, am_upS, am_stS, am_stO, am_tnn, am_brl, am_brg, am_bre, am_brn, am_brG, am_brL, am_st1, am_no2, am_st2, am_clr, and_self, true_and, and_true, true_or, or_true, List.length_cons, List.length_nil] <;> omega) ?_
      try simp (disch := omega) only [s80 hw, r80_1 hw, s82 hw, Ke, rc, am_addE, am_subE, am_mulE, am_laddE, am_lsubE, am_upO, am_upS, am_stS, am_stO, am_tnn, am_brl, am_brg, am_bre, am_brn, am_brG, am_brL, am_st1, am_no2, am_st2, am_clr]
      refine am_wp_cc rfl rfl rfl (congrArg Prod.fst (s80 hw)) (w_weigh (W := W) (N := N) (n := n) (P := P) hw kK hn hP K5 (by omega) (fun V v1 v2 => ⟨_, rfl, ?_⟩))
      have ga : ∀ U, U < 2 ^ n → -1000000 ≤ V 83 U ∧ V 83 U ≤ 1000 := fun U hU => by
        rw [v2 U hU]
        have := bX ((r * u : Nat) : Int) U
        unfold gaF
        split <;> omega
      have LS : ∀ S : Nat, S ≤ 2 ^ n → ∀ (L : Nat → Nat → Int), (∀ x, x ≠ 84 → L x = V x) → (∀ i, ¬ (e0 * 256 ≤ i ∧ i < e0 * 256 + 256) → L 84 i = K 84 i) → (∀ X, X < S → ((∀ U, U &&& dn (ax_bs (gzD W u (gzk n P) r) n) X = U → gaF W P ((r * u : Nat) : Int) U n + K 84 ((e0 + 1) * 256 + (X ||| U)) ≤ L 84 (e0 * 256 + X)) ∧ ∃ U, U &&& dn (ax_bs (gzD W u (gzk n P) r) n) X = U ∧ gaF W P ((r * u : Nat) : Int) U n + K 84 ((e0 + 1) * 256 + (X ||| U)) = L 84 (e0 * 256 + X)) ∧ 0 ≤ L 84 (e0 * 256 + X) ∧ L 84 (e0 * 256 + X) ≤ 1000 * ((E - e0 : Nat) : Int)) → am_wp (d + 3) 94 83 [some (.inr (.inr (80))), some (.inr (.inr (6))), some (.inl ((u : Int))), some (.inl (((2 ^ n : Nat) : Int))), some (.inl ((e0 : Int))), some (.inl ((S : Int)))] [] (m, sl, sh, L, R) Q := by
        refine am_lp (2 ^ n) (fun S hS ih2 L l1 l2 l3 => ?_)
        refine am_wp_go rfl (by simp (disch := omega) only [rc, am_addE, am_subE, am_mulE, am_laddE, am_lsubE, am_upO, am_upS, am_stS, am_stO, am_tnn, am_brl, am_brg, am_bre, am_brn, am_brG, am_brL, am_st1, am_no2, am_st2, am_clr, and_self, true_and, and_true, true_or, or_true, List.length_cons, List.length_nil] <;> omega) ?_
        try simp (disch := omega) only [rc, am_addE, am_subE, am_mulE, am_laddE, am_lsubE, am_upO, am_upS, am_stS, am_stO, am_tnn, am_brl, am_brg, am_bre, am_brn, am_brG, am_brL, am_st1, am_no2, am_st2, am_clr]
        refine am_wp_br (fun b86 => ?_) (fun b86 => ?_)
        · refine am_wp_go rfl (by simp (disch := omega) only [rc, am_addE, am_subE, am_mulE, am_laddE, am_lsubE, am_upO, am_upS, am_stS, am_stO, am_tnn, am_brl, am_brg, am_bre, am_brn, am_brG, am_brL, am_st1, am_no2, am_st2, am_clr, and_self, true_and, and_true, true_or, or_true, List.length_cons, List.length_nil] <;> omega) ?_
          try simp (disch := omega) only [rc, am_addE, am_subE, am_mulE, am_laddE, am_lsubE, am_upO, am_upS, am_stS, am_stO, am_tnn, am_brl, am_brg, am_bre, am_brn, am_brG, am_brL, am_st1, am_no2, am_st2, am_clr]
          refine am_wp_ls (ih _ L (fun x x1 x2 => by rw [l1 x x2, v1 x x1, k1 x x1 x2]) (fun q q1 q2 q3 => ?_) (fun e e2 e3 X hX => ?_)) rfl
          · by_cases eq : gzi (J 81) q = e0
            · have := gzi_inj r2 q2 (by omega)
              subst this
              intro X hX
              rw [r3, j3 r r1, am_tnn]
              have t := (l3 X (by omega)).1
              refine ⟨fun U hU => ?_, ?_⟩
              · have o := Nat.or_lt_two_pow hX (gz_ul (ax_bs_lt _ _) hU)
                rw [l2 _ (by omega)]; exact t.1 U hU
              · obtain ⟨U, u1, u2⟩ := t.2
                have o := Nat.or_lt_two_pow hX (gz_ul (ax_bs_lt _ _) u1)
                exact ⟨U, u1, by rw [l2 _ (by omega)]; exact u2⟩
            · exact gzRw_cg n3.2 (j3 q q1) (ax_bs_lt _ _) (k2 q q1 q2 (by omega)) (fun X hX => l2 _ (by omega)) (fun X hX => l2 _ (by omega))
          · by_cases ee : e = e0
            · rw [ee]; exact (l3 X (by omega)).2
            · rw [l2 _ (by omega)]; exact k3 e (by omega) e3 X hX
        · have ih2 := ih2 (by omega)
          have L81 : L 81 r = (ax_bs (gzD W u (gzk n P) r) n : Int) := by rw [l1 81 (by decide), v1 81 (by decide), K81]; exact j3 r r1
          have L82 : L 82 e0 = (r : Int) := by rw [l1 82 (by decide), v1 82 (by decide)]; exact Ke
          have L83 : L 83 = V 83 := l1 83 (by decide)
          have row : ∀ X, X < 2 ^ n → L 84 ((e0 + 1) * 256 + X) = K 84 ((e0 + 1) * 256 + X) := fun X hX => l2 _ (by omega)
          refine am_wp_go rfl (by simp (disch := omega) only [s80 hw, r80_3 hw, s84 hw, rc, am_addE, am_subE, am_mulE, am_laddE, am_lsubE, am_upO, am_upS, am_stS, am_stO, am_tnn, am_brl, am_brg, am_bre, am_brn, am_brG, am_brL, am_st1, am_no2, am_st2, am_clr, and_self, true_and, and_true, true_or, or_true, List.length_cons, List.length_nil] <;> omega) ?_
          try simp (disch := omega) only [s80 hw, r80_3 hw, s84 hw, rc, am_addE, am_subE, am_mulE, am_laddE, am_lsubE, am_upO, am_upS, am_stS, am_stO, am_tnn, am_brl, am_brg, am_bre, am_brn, am_brG, am_brL, am_st1, am_no2, am_st2, am_clr]
          refine am_wp_cc rfl rfl rfl (congrArg Prod.fst (s80 hw)) (w_mostFrom (n := n) (e := e0) (r := r) (S := S) (Dm := ax_bs (gzD W u (gzk n P) r) n) hw n3.2 (by omega) L82 r1 L81 (ax_bs_lt _ _) (by omega) (by rw [L83, v2 0 p0]; exact ga0 _) (by rw [L83]; exact ga) (fun X hX => by have := k3 (e0 + 1) (Nat.le_refl _) (by omega) X hX; rw [row X hX]; omega) (fun x x1 x2 => ⟨_, rfl, ?_⟩))
          have x1 : ∀ U, U &&& dn (ax_bs (gzD W u (gzk n P) r) n) S = U → gaF W P ((r * u : Nat) : Int) U n + K 84 ((e0 + 1) * 256 + (S ||| U)) ≤ x := fun U hU => by
            have ul := gz_ul (ax_bs_lt _ _) hU
            have := x1 U hU
            rwa [L83, v2 U ul, row _ (Nat.or_lt_two_pow (by omega) ul)] at this
          have x2 : ∃ U, U &&& dn (ax_bs (gzD W u (gzk n P) r) n) S = U ∧ gaF W P ((r * u : Nat) : Int) U n + K 84 ((e0 + 1) * 256 + (S ||| U)) = x := by
            obtain ⟨U, hU, hE⟩ := x2
            have ul := gz_ul (ax_bs_lt _ _) hU
            rw [L83, v2 U ul, row _ (Nat.or_lt_two_pow (by omega) ul)] at hE
            exact ⟨U, hU, hE⟩
          have x3 : 0 ≤ x := by
            have := x1 0 (Nat.zero_and _)
            rw [ga0, Nat.or_zero] at this
            have := k3 (e0 + 1) (Nat.le_refl _) (by omega) S (by omega)
            omega
          have x4 : x ≤ 1000 * ((E - e0 : Nat) : Int) := by
            obtain ⟨U, hU, hE⟩ := x2
            have ul := gz_ul (ax_bs_lt _ _) hU
            have := k3 (e0 + 1) (Nat.le_refl _) (by omega) _ (Nat.or_lt_two_pow (show S < 2 ^ n by omega) ul)
            have := bX ((r * u : Nat) : Int) U
            unfold gaF at hE
            split at hE <;> omega
          refine am_wp_go rfl (by simp (disch := omega) only [s80 hw, r80_3 hw, s84 hw, am_tnA, am_tnM, Int.reduceToNat, am_addE, am_subE, am_mulE, am_laddE, am_lsubE, am_upO, am_upS, am_stS, am_stO, am_tnn, am_brl, am_brg, am_bre, am_brn, am_brG, am_brL, am_st1, am_no2, am_st2, am_clr, and_self, true_and, and_true, true_or, or_true, List.length_cons, List.length_nil] <;> omega) ?_
          try simp (disch := omega) only [s80 hw, r80_3 hw, s84 hw, am_tnA, am_tnM, Int.reduceToNat, am_addE, am_subE, am_mulE, am_laddE, am_lsubE, am_upO, am_upS, am_stS, am_stO, am_tnn, am_brl, am_brg, am_bre, am_brn, am_brG, am_brL, am_st1, am_no2, am_st2, am_clr]
          refine am_wp_ls (ih2 _ (fun y hy => by rw [am_upO hy, l1 y hy]) (fun i hi => by rw [am_upS, am_stO (by omega), l2 i hi]) (fun X hX => ?_)) rfl
          rw [am_upS]
          by_cases eX : X = S
          · subst eX
            rw [am_stS rfl]
            exact ⟨⟨x1, x2⟩, x3, x4⟩
          · rw [am_stO (by omega)]
            exact l3 X (by omega)
      refine am_wp_go rfl (by simp (disch := omega) only [rc, am_addE, am_subE, am_mulE, am_laddE, am_lsubE, am_upO, am_upS, am_stS, am_stO, am_tnn, am_brl, am_brg, am_bre, am_brn, am_brG, am_brL, am_st1, am_no2, am_st2, am_clr, and_self, true_and, and_true, true_or, or_true, List.length_cons, List.length_nil] <;> omega) ?_
      try simp (disch := omega) only [rc, am_addE, am_subE, am_mulE, am_laddE, am_lsubE, am_upO, am_upS, am_stS, am_stO, am_tnn, am_brl, am_brg, am_bre, am_brn, am_brG, am_brL, am_st1, am_no2, am_st2, am_clr]
      exact am_wp_ls (LS 0 (Nat.zero_le _) V (fun _ _ => rfl) (fun i _ => by rw [v1 84 (by decide)]) (fun X hX => absurd hX (Nat.not_lt_zero X))) rfl
  have LZ : ∀ S : Nat, S ≤ 2 ^ n → ∀ (K : Nat → Nat → Int), (∀ x, x ≠ 84 → K x = J x) → (∀ X, X < S → K 84 (E * 256 + X) = 0) → am_wp (d + 3) 94 24 [some (.inr (.inr (80))), some (.inr (.inr (6))), some (.inl ((u : Int))), some (.inl (((2 ^ n : Nat) : Int))), some (.inl ((S : Int))), none] [] (m, sl, sh, K, R) Q := by
    refine am_lp (2 ^ n) (fun S hS ih K k1 k2 => ?_)
    have K6 : K 80 6 = (E : Int) := by rw [k1 80 (by decide)]; exact j4
    refine am_wp_go rfl (by simp (disch := omega) only [s80 hw, r80_3 hw, s84 hw, K6, am_tnA, am_tnM, Int.reduceToNat, am_addE, am_subE, am_mulE, am_laddE, am_lsubE, am_upO, am_upS, am_stS, am_stO, am_tnn, am_brl, am_brg, am_bre, am_brn, am_brG, am_brL, am_st1, am_no2, am_st2, am_clr, and_self, true_and, and_true, true_or, or_true, List.length_cons, List.length_nil] <;> omega) ?_
    try simp (disch := omega) only [s80 hw, r80_3 hw, s84 hw, K6, am_tnA, am_tnM, Int.reduceToNat, am_addE, am_subE, am_mulE, am_laddE, am_lsubE, am_upO, am_upS, am_stS, am_stO, am_tnn, am_brl, am_brg, am_bre, am_brn, am_brG, am_brL, am_st1, am_no2, am_st2, am_clr]
    refine am_wp_br (fun b27 => ?_) (fun b27 => ?_)
    · refine am_wp_go rfl (by simp (disch := omega) only [s80 hw, r80_3 hw, s84 hw, K6, am_tnA, am_tnM, Int.reduceToNat, am_addE, am_subE, am_mulE, am_laddE, am_lsubE, am_upO, am_upS, am_stS, am_stO, am_tnn, am_brl, am_brg, am_bre, am_brn, am_brG, am_brL, am_st1, am_no2, am_st2, am_clr, and_self, true_and, and_true, true_or, or_true, List.length_cons, List.length_nil] <;> omega) ?_
      try simp (disch := omega) only [s80 hw, r80_3 hw, s84 hw, K6, am_tnA, am_tnM, Int.reduceToNat, am_addE, am_subE, am_mulE, am_laddE, am_lsubE, am_upO, am_upS, am_stS, am_stO, am_tnn, am_brl, am_brg, am_bre, am_brn, am_brG, am_brL, am_st1, am_no2, am_st2, am_clr]
      refine am_wp_ls (LE 0 (Nat.zero_le E) none K (fun x _ x2 => k1 x x2) (fun r r1 r2 r3 => ?_) (fun e e1 e2 S' hS' => ?_)) rfl
      · have := gzi_mono (J := J 81) (show r + 1 ≤ 249 by omega)
        rw [gzi_s1 r2] at this
        omega
      · rw [show e = E by omega, k2 S' (by omega)]; omega
    · refine am_wp_go rfl (by simp (disch := omega) only [s80 hw, r80_3 hw, s84 hw, K6, am_tnA, am_tnM, Int.reduceToNat, am_addE, am_subE, am_mulE, am_laddE, am_lsubE, am_upO, am_upS, am_stS, am_stO, am_tnn, am_brl, am_brg, am_bre, am_brn, am_brG, am_brL, am_st1, am_no2, am_st2, am_clr, and_self, true_and, and_true, true_or, or_true, List.length_cons, List.length_nil] <;> omega) ?_
      try simp (disch := omega) only [s80 hw, r80_3 hw, s84 hw, K6, am_tnA, am_tnM, Int.reduceToNat, am_addE, am_subE, am_mulE, am_laddE, am_lsubE, am_upO, am_upS, am_stS, am_stO, am_tnn, am_brl, am_brg, am_bre, am_brn, am_brG, am_brL, am_st1, am_no2, am_st2, am_clr]
      refine am_wp_ls (ih (by omega) _ (fun x hx => by rw [am_upO hx, k1 x hx]) (fun X hX => ?_)) rfl
      rw [am_upS]
      by_cases eX : X = S
      · rw [am_stS (by rw [eX])]
      · rw [am_stO (by omega)]; exact k2 X (by omega)
  have J5 : J 80 5 = (n : Int) := j2
  refine am_wp_go rfl (by simp (disch := omega) only [s80 hw, J5, am_shl1, am_addE, am_subE, am_mulE, am_laddE, am_lsubE, am_upO, am_upS, am_stS, am_stO, am_tnn, am_brl, am_brg, am_bre, am_brn, am_brG, am_brL, am_st1, am_no2, am_st2, am_clr, and_self, true_and, and_true, true_or, or_true, List.length_cons, List.length_nil] <;> omega) ?_
  try simp (disch := omega) only [s80 hw, J5, am_shl1, am_addE, am_subE, am_mulE, am_laddE, am_lsubE, am_upO, am_upS, am_stS, am_stO, am_tnn, am_brl, am_brg, am_bre, am_brn, am_brG, am_brL, am_st1, am_no2, am_st2, am_clr]
  exact am_wp_ls (LZ 0 (Nat.zero_le _) J (fun _ _ => rfl) (fun X hX => absurd hX (Nat.not_lt_zero X))) rfl
theorem c_served {x : Int} (hw : wd sh R) (hk : kit I 6 W N) (hn : n = nG W) (hP : W 0 = (P : Int)) (h0 : ¬ (1 ≤ x ∧ x ≤ 40) → Q (am_yi (-1)) (m, sl, sh, I, R)) (h : ∀ u : Nat, x = (u : Int) → 1 ≤ u → u ≤ 40 → ∀ J a B, (∀ x, ¬ (80 ≤ x ∧ x ≤ 85) → J x = I x) → J 80 5 = (n : Int) → gzT n P 249 (gzD W u (gzk n P)) (gzv W u) B → gzTr n P 249 (gzD W u (gzk n P)) (gzv W u) B a → (∀ g, g < n → J 85 g = if a g = 0 then -1 else ((a g * u : Nat) : Int)) → Q (am_yi (B 1 0)) (m, sl, sh, J, R)) : am_wp (d + 4) 176 0 [some (.inr (.inr (4))), some (.inl (x))] [] (m, sl, sh, I, R) Q := by
  refine am_wp_go rfl (by simp (disch := omega) only [s4 hw, r4_0 hw, r4_10 hw, s5 hw, r5_0 hw, am_addE, am_subE, am_mulE, am_laddE, am_lsubE, am_upO, am_upS, am_stS, am_stO, am_tnn, am_brl, am_brg, am_bre, am_brn, am_brG, am_brL, am_st1, am_no2, am_st2, am_clr, and_self, true_and, and_true, true_or, or_true, List.length_cons, List.length_nil] <;> omega) ?_
  try simp (disch := omega) only [s4 hw, r4_0 hw, r4_10 hw, s5 hw, r5_0 hw, am_addE, am_subE, am_mulE, am_laddE, am_lsubE, am_upO, am_upS, am_stS, am_stO, am_tnn, am_brl, am_brg, am_bre, am_brn, am_brG, am_brL, am_st1, am_no2, am_st2, am_clr]
  refine am_wp_br (fun b2 => ?_) (fun b2 => ?_)
  · refine am_wp_go rfl (by simp (disch := omega) only [s4 hw, r4_0 hw, r4_10 hw, s5 hw, r5_0 hw, am_addE, am_subE, am_mulE, am_laddE, am_lsubE, am_upO, am_upS, am_stS, am_stO, am_tnn, am_brl, am_brg, am_bre, am_brn, am_brG, am_brL, am_st1, am_no2, am_st2, am_clr, and_self, true_and, and_true, true_or, or_true, List.length_cons, List.length_nil] <;> omega) ?_
    try simp (disch := omega) only [s4 hw, r4_0 hw, r4_10 hw, s5 hw, r5_0 hw, am_addE, am_subE, am_mulE, am_laddE, am_lsubE, am_upO, am_upS, am_stS, am_stO, am_tnn, am_brl, am_brg, am_bre, am_brn, am_brG, am_brL, am_st1, am_no2, am_st2, am_clr]
    refine am_wp_ret rfl rfl ?_
    exact h0 (by omega)
  · refine am_wp_go rfl (by simp (disch := omega) only [s4 hw, r4_0 hw, r4_10 hw, s5 hw, r5_0 hw, am_addE, am_subE, am_mulE, am_laddE, am_lsubE, am_upO, am_upS, am_stS, am_stO, am_tnn, am_brl, am_brg, am_bre, am_brn, am_brG, am_brL, am_st1, am_no2, am_st2, am_clr, and_self, true_and, and_true, true_or, or_true, List.length_cons, List.length_nil] <;> omega) ?_
    try simp (disch := omega) only [s4 hw, r4_0 hw, r4_10 hw, s5 hw, r5_0 hw, am_addE, am_subE, am_mulE, am_laddE, am_lsubE, am_upO, am_upS, am_stS, am_stO, am_tnn, am_brl, am_brg, am_bre, am_brn, am_brG, am_brL, am_st1, am_no2, am_st2, am_clr]
    refine am_wp_br (fun b8 => ?_) (fun b8 => ?_)
    · obtain ⟨u, hu⟩ : ∃ u : Nat, x = (u : Int) := ⟨x.toNat, by omega⟩
      have h2 := h u hu (by omega) (by omega)
      clear h h0
      subst hu
      refine am_wp_go rfl (by simp (disch := omega) only [s4 hw, r4_0 hw, r4_10 hw, s5 hw, r5_0 hw, am_addE, am_subE, am_mulE, am_laddE, am_lsubE, am_upO, am_upS, am_stS, am_stO, am_tnn, am_brl, am_brg, am_bre, am_brn, am_brG, am_brL, am_st1, am_no2, am_st2, am_clr, and_self, true_and, and_true, true_or, or_true, List.length_cons, List.length_nil] <;> omega) ?_
      try simp (disch := omega) only [s4 hw, r4_0 hw, r4_10 hw, s5 hw, r5_0 hw, am_addE, am_subE, am_mulE, am_laddE, am_lsubE, am_upO, am_upS, am_stS, am_stO, am_tnn, am_brl, am_brg, am_bre, am_brn, am_brG, am_brL, am_st1, am_no2, am_st2, am_clr]
      refine am_wp_cc rfl rfl rfl (congrArg Prod.fst (s80 hw)) (w_svfind (u := u) hw hk hn hP (by omega) (fun J a B c1 c2 c3 c4 c5 => ⟨_, rfl, ?_⟩))
      refine am_wp_ret rfl rfl ?_
      exact h2 J a B c1 c2 c3 c4 c5
    · refine am_wp_go rfl (by simp (disch := omega) only [s4 hw, r4_0 hw, r4_10 hw, s5 hw, r5_0 hw, am_addE, am_subE, am_mulE, am_laddE, am_lsubE, am_upO, am_upS, am_stS, am_stO, am_tnn, am_brl, am_brg, am_bre, am_brn, am_brG, am_brL, am_st1, am_no2, am_st2, am_clr, and_self, true_and, and_true, true_or, or_true, List.length_cons, List.length_nil] <;> omega) ?_
      try simp (disch := omega) only [s4 hw, r4_0 hw, r4_10 hw, s5 hw, r5_0 hw, am_addE, am_subE, am_mulE, am_laddE, am_lsubE, am_upO, am_upS, am_stS, am_stO, am_tnn, am_brl, am_brg, am_bre, am_brn, am_brG, am_brL, am_st1, am_no2, am_st2, am_clr]
      refine am_wp_ret rfl rfl ?_
      exact h0 (by omega)
end SV
