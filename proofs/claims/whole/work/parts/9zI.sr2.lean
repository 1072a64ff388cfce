/-! SERVED by the reference: the table -/
theorem gzRR_cg {W T V : Nat → Int} {u n P e : Nat} (h : gzRR W u n P T e) (e0 : ∀ S, S < 2 ^ n → V (256 * e + S) = T (256 * e + S)) (e1 : ∀ S, S < 2 ^ n → V (256 * (e + 1) + S) = T (256 * (e + 1) + S)) : gzRR W u n P V e := by
  intro S hS
  obtain ⟨h1, U, h2, h3⟩ := h S hS
  refine ⟨fun U hU => ?_, U, h2, ?_⟩
  · rw [e0 S hS, e1 _ (Nat.or_lt_two_pow hS hU.1)]; exact h1 U hU
  · rw [e0 S hS, e1 _ (Nat.or_lt_two_pow hS h2.1)]; exact h3
/-- hidden from omega -/
def gzAtt (F : Nat → Prop) (f : Nat → Int) (x : Int) : Prop := ∃ U, F U ∧ f U = x
theorem gz_tabR {W T : Nat → Int} {u n P E : Nat} (hr : ∀ e, e < E → gzRR W u n P T e) (hz : ∀ S, S < 2 ^ n → T (256 * E + S) = 0) : gzT n P (E + 1) gzAll (gzv W u) (gzBR T) := by
  refine ⟨fun S hS => ?_, fun r h1 h2 S hS U hU => ?_⟩
  · unfold gzBR
    rw [Nat.add_sub_cancel]; exact hz S hS
  · unfold gzBR
    obtain ⟨e, rfl⟩ : ∃ e, r = e + 1 := ⟨r - 1, by omega⟩
    rw [Nat.add_sub_cancel, Nat.add_sub_cancel]
    exact (hr e (by omega) S hS).1 U hU
section SV
variable {m sl : Nat} {sh : Nat → Nat × Nat} {I : Nat → Nat → Int} {R : Nat → Nat → Nat} {Q : am_R → am_M → Prop} {d n P u E : Nat}
set_option maxRecDepth 8000 in
set_option maxHeartbeats 4000000 in
theorem w_M_svtab (hw : wd sh R) (hk : wk (I 126)) (hn : n = nG (I 126)) (hP : I 126 0 = (P : Int)) (hu : 1 ≤ u ∧ u ≤ 40) (hE : E ≤ 341) (hz : ∀ S, S < 2 ^ n → I 152 (256 * E + S) = 0) (h : ∀ (J : Nat → Nat → Int) (z6 z7 z8 z9 : Option am_V), (∀ x, ¬ (x = 152 ∨ x = 154) → J x = I x) → (∀ e, e < E → gzRR (I 126) u n P (J 152) e) → (∀ e, e ≤ E → ∀ S, S < 2 ^ n → 0 ≤ J 152 (256 * e + S) ∧ J 152 (256 * e + S) ≤ 400000) → (∀ S, S < 2 ^ n → J 152 (256 * E + S) = 0) → am_wp (d + 2) 297 260 [some (.inr (.inr (124))), some (.inl ((u : Int))), some (.inl ((n : Int))), some (.inl (((2 ^ n : Nat) : Int))), some (.inl ((E : Int))), some (.inl (0)), z6, z7, z8, z9] [] (m, sl, sh, J, R) Q) : am_wp (d + 2) 297 76 [some (.inr (.inr (124))), some (.inl ((u : Int))), some (.inl ((n : Int))), some (.inl (((2 ^ n : Nat) : Int))), some (.inl ((E : Int))), some (.inl (((E : Int) - 1))), none, none, none, none] [] (m, sl, sh, I, R) Q := by
  have n3 := wk_nG hk
  rw [← hn] at n3
  have p4 := hk.1
  unfold wk0 at p4
  have p8 : 2 ^ n ≤ 256 := Nat.pow_le_pow_right (n := 2) (by decide) n3.2
  have p0 := Nat.two_pow_pos n
  have eA : ((2 ^ n : Nat) : Int) - 1 = ((2 ^ n - 1 : Nat) : Int) := by omega
  have bw : ∀ x, x < n → 0 ≤ I 126 (32 + 2 * x + 1) ∧ I 126 (32 + 2 * x + 1) ≤ 99 := fun x hx => by have := hk.2.2.1 x (by omega); omega
  have bX : ∀ mi U, 0 ≤ gzX (I 126) mi U n ∧ gzX (I 126) mi U n ≤ 800 := fun mi U => by
    have := gzX_le (W := I 126) (mi := mi) (U := U) (n := n) bw
    omega
  have x0 : ∀ mi, gzX (I 126) mi 0 n = 0 := fun mi => by
    unfold gzX
    rw [am_fsum_cg (g := fun _ => 0) (fun g _ => by rw [Nat.zero_testBit, if_neg (by decide)])]
    exact fsum_z n
  have c0 : gzc 0 n = 0 := by
    unfold gzc
    rw [ax_ct_cg (e := fun _ => false) (fun g _ => Nat.zero_testBit g), ct_none]
  have LE : ∀ j : Nat, j ≤ E → ∀ (z6 z7 z8 z9 : Option am_V) (K : Nat → Nat → Int), (∀ x, ¬ (x = 152 ∨ x = 154) → K x = I x) → (∀ e, E - j ≤ e → e < E → gzRR (I 126) u n P (K 152) e) → (∀ e, E - j ≤ e → e ≤ E → ∀ S, S < 2 ^ n → 0 ≤ K 152 (256 * e + S) ∧ K 152 (256 * e + S) ≤ 1000 * ((E - e : Nat) : Int)) → (∀ S, S < 2 ^ n → K 152 (256 * E + S) = 0) → am_wp (d + 2) 297 76 [some (.inr (.inr (124))), some (.inl ((u : Int))), some (.inl ((n : Int))), some (.inl (((2 ^ n : Nat) : Int))), some (.inl ((E : Int))), some (.inl ((((E - j : Nat) : Int) - 1))), z6, z7, z8, z9] [] (m, sl, sh, K, R) Q := by
    refine am_lp E (fun j hj ih z6 z7 z8 z9 K k1 k2 k3 k4 => ?_)
    have K126 : K 126 = I 126 := k1 126 (by decide)
    refine am_wp_go rfl (by simp (disch := omega) only [am_addE, am_subE, am_mulE, am_laddE, am_lsubE, am_upO, am_upS, am_stS, am_stO, am_tnn, am_brl, am_brg, am_bre, am_brn, am_brG, am_brL, am_st1, am_no2, am_st2, am_clr, and_self, true_and, and_true, true_or, or_true, List.length_cons, List.length_nil] <;> omega) ?_
    try simp (disch := omega) only [am_addE, am_subE, am_mulE, am_laddE, am_lsubE, am_upO, am_upS, am_stS, am_stO, am_tnn, am_brl, am_brg, am_bre, am_brn, am_brG, am_brL, am_st1, am_no2, am_st2, am_clr]
    refine am_wp_br (fun b78 => ?_) (fun b78 => ?_)
    · have ej : j = E := by omega
      rw [ej, Nat.sub_self] at k2 k3
      refine am_wp_go rfl (by simp (disch := omega) only [am_addE, am_subE, am_mulE, am_laddE, am_lsubE, am_upO, am_upS, am_stS, am_stO, am_tnn, am_brl, am_brg, am_bre, am_brn, am_brG, am_brL, am_st1, am_no2, am_st2, am_clr, and_self, true_and, and_true, true_or, or_true, List.length_cons, List.length_nil] <;> omega) ?_
      try simp (disch := omega) only [am_addE, am_subE, am_mulE, am_laddE, am_lsubE, am_upO, am_upS, am_stS, am_stO, am_tnn, am_brl, am_brg, am_bre, am_brn, am_brG, am_brL, am_st1, am_no2, am_st2, am_clr]
      refine am_wp_ls (h K _ _ _ _ k1 (fun e he => k2 e (Nat.zero_le _) he) (fun e he S hS => by have := k3 e (Nat.zero_le _) he S hS; omega) k4) rfl
    · obtain ⟨e0, he0⟩ : ∃ e0, E - j = e0 + 1 := ⟨E - j - 1, by omega⟩
      have ih := ih (by omega)
      rw [show E - (j + 1) = e0 by omega] at ih
      rw [he0] at k2 k3
      have e1 : ((e0 + 1 : Nat) : Int) - 1 = (e0 : Int) := by omega
      have ru : (e0 + 1) * u ≤ 342 * 40 := Nat.mul_le_mul (by omega) hu.2
      have rc : (u : Int) * ((e0 : Int) + 1) = (((e0 + 1) * u : Nat) : Int) := by rw [Int.natCast_mul, Int.natCast_succ, Int.mul_comm]
      rw [he0, e1]
      -- the sets one by one
      have LS : ∀ (V : Nat → Nat → Int), (∀ x, ¬ (x = 152 ∨ x = 154) → V x = I x) → V 152 = K 152 → (∀ U, U < 2 ^ n → V 154 U = if gzc U n ≤ P then gzX (I 126) (((e0 + 1) * u : Nat) : Int) U n else -1) → ∀ S : Nat, S ≤ 2 ^ n → ∀ (z7 z8 z9 : Option am_V) (L : Nat → Nat → Int), (∀ x, x ≠ 152 → L x = V x) → (∀ i, ¬ (256 * e0 ≤ i ∧ i < 256 * e0 + 256) → L 152 i = K 152 i) → (∀ X, X < S → ((∀ U, gzOk n P gzAll (e0 + 1) X U → gzX (I 126) (((e0 + 1) * u : Nat) : Int) U n + K 152 (256 * (e0 + 1) + (X ||| U)) ≤ L 152 (256 * e0 + X)) ∧ ∃ U, gzOk n P gzAll (e0 + 1) X U ∧ gzX (I 126) (((e0 + 1) * u : Nat) : Int) U n + K 152 (256 * (e0 + 1) + (X ||| U)) = L 152 (256 * e0 + X)) ∧ 0 ≤ L 152 (256 * e0 + X) ∧ L 152 (256 * e0 + X) ≤ 1000 * ((E - e0 : Nat) : Int)) → am_wp (d + 2) 297 136 [some (.inr (.inr (124))), some (.inl ((u : Int))), some (.inl ((n : Int))), some (.inl (((2 ^ n : Nat) : Int))), some (.inl ((E : Int))), some (.inl ((e0 : Int))), some (.inl ((S : Int))), z7, z8, z9] [] (m, sl, sh, L, R) Q := by
        intro V v1 v2 v3
        refine am_lp (2 ^ n) (fun S hS ih2 z7 z8 z9 L l1 l2 l3 => ?_)
        refine am_wp_go rfl (by simp (disch := omega) only [am_addE, am_subE, am_mulE, am_laddE, am_lsubE, am_upO, am_upS, am_stS, am_stO, am_tnn, am_brl, am_brg, am_bre, am_brn, am_brG, am_brL, am_st1, am_no2, am_st2, am_clr, and_self, true_and, and_true, true_or, or_true, List.length_cons, List.length_nil] <;> omega) ?_
        try simp (disch := omega) only [am_addE, am_subE, am_mulE, am_laddE, am_lsubE, am_upO, am_upS, am_stS, am_stO, am_tnn, am_brl, am_brg, am_bre, am_brn, am_brG, am_brL, am_st1, am_no2, am_st2, am_clr]
        refine am_wp_br (fun b139 => ?_) (fun b139 => ?_)
        · refine am_wp_go rfl (by simp (disch := omega) only [am_addE, am_subE, am_mulE, am_laddE, am_lsubE, am_upO, am_upS, am_stS, am_stO, am_tnn, am_brl, am_brg, am_bre, am_brn, am_brG, am_brL, am_st1, am_no2, am_st2, am_clr, and_self, true_and, and_true, true_or, or_true, List.length_cons, List.length_nil] <;> omega) ?_
          try simp (disch := omega) only [am_addE, am_subE, am_mulE, am_laddE, am_lsubE, am_upO, am_upS, am_stS, am_stO, am_tnn, am_brl, am_brg, am_bre, am_brn, am_brG, am_brL, am_st1, am_no2, am_st2, am_clr]
          refine am_wp_ls (ih _ _ _ _ L (fun x hx => by rw [l1 x (by omega), v1 x hx]) (fun e q1 q2 => ?_) (fun e q1 q2 X hX => ?_) (fun X hX => ?_)) rfl
          · by_cases eq : e = e0
            · subst eq
              intro X hX
              have t := (l3 X (by omega)).1
              refine ⟨fun U hU => ?_, ?_⟩
              · have o := Nat.or_lt_two_pow hX hU.1
                rw [l2 _ (by omega)]; exact t.1 U hU
              · obtain ⟨U, u1, u2⟩ := t.2
                have o := Nat.or_lt_two_pow hX u1.1
                exact ⟨U, u1, by rw [l2 _ (by omega)]; exact u2⟩
            · exact gzRR_cg (k2 e (by omega) q2) (fun X hX => l2 _ (by omega)) (fun X hX => l2 _ (by omega))
          · by_cases ee : e = e0
            · rw [ee]; exact (l3 X (by omega)).2
            · rw [l2 _ (by omega)]; exact k3 e (by omega) q2 X hX
          · rw [l2 _ (by omega)]; exact k4 X hX
        · have Sl : S < 2 ^ n := by omega
          have ih2 := ih2 Sl
          have L154 : L 154 = V 154 := l1 154 (by decide)
          have row : ∀ X, X < 2 ^ n → L 152 (256 * (e0 + 1) + X) = K 152 (256 * (e0 + 1) + X) := fun X hX => l2 _ (by omega)
          have ol := dn_le (g := 2 ^ n - 1) (s := S)
          refine am_wp_go rfl (by simp (disch := omega) only [am_dnN, eA, am_addE, am_subE, am_mulE, am_laddE, am_lsubE, am_upO, am_upS, am_stS, am_stO, am_tnn, am_brl, am_brg, am_bre, am_brn, am_brG, am_brL, am_st1, am_no2, am_st2, am_clr, and_self, true_and, and_true, true_or, or_true, List.length_cons, List.length_nil] <;> omega) ?_
          try simp (disch := omega) only [am_dnN, eA, am_addE, am_subE, am_mulE, am_laddE, am_lsubE, am_upO, am_upS, am_stS, am_stO, am_tnn, am_brl, am_brg, am_bre, am_brn, am_brG, am_brL, am_st1, am_no2, am_st2, am_clr]
          generalize hop : dn (2 ^ n - 1) S = o at *
          have fin : ∀ (x : Int), (∀ U, gzOk n P gzAll (e0 + 1) S U → gzX (I 126) (((e0 + 1) * u : Nat) : Int) U n + K 152 (256 * (e0 + 1) + (S ||| U)) ≤ x) → (x = 0 ∨ gzAtt (fun U => gzOk n P gzAll (e0 + 1) S U) (fun U => gzX (I 126) (((e0 + 1) * u : Nat) : Int) U n + K 152 (256 * (e0 + 1) + (S ||| U))) x) → am_wp (d + 2) 297 159 [some (.inr (.inr (124))), some (.inl ((u : Int))), some (.inl ((n : Int))), some (.inl (((2 ^ n : Nat) : Int))), some (.inl ((E : Int))), some (.inl ((e0 : Int))), some (.inl ((S : Int))), some (.inl (x)), some (.inl ((o : Int))), some (.inl ((-1)))] [] (m, sl, sh, L, R) Q := by
            intro x x1 x2
            have ok0 : gzOk n P gzAll (e0 + 1) S 0 := gz_okA.mpr ⟨p0, Nat.zero_and S, by rw [c0]; exact Nat.zero_le P⟩
            have t0 := x1 0 ok0
            rw [x0, Nat.or_zero] at t0
            have t1 := k3 (e0 + 1) (Nat.le_refl _) (by omega) S Sl
            have x2 : gzAtt (fun U => gzOk n P gzAll (e0 + 1) S U) (fun U => gzX (I 126) (((e0 + 1) * u : Nat) : Int) U n + K 152 (256 * (e0 + 1) + (S ||| U))) x := by
              rcases x2 with x2 | x2
              · exact ⟨0, ok0, by dsimp only; rw [x0, Nat.or_zero]; omega⟩
              · exact x2
            have x4 : x ≤ 1000 * ((E - e0 : Nat) : Int) := by
              obtain ⟨U, hU, hq⟩ := x2
              dsimp only at hU hq
              have := k3 (e0 + 1) (Nat.le_refl _) (by omega) _ (Nat.or_lt_two_pow Sl hU.1)
              have := bX (((e0 + 1) * u : Nat) : Int) U
              omega
            refine am_wp_go rfl (by simp (disch := omega) only [s124 hw, r124_47 hw, s152 hw, am_tnA, am_tnM, Int.reduceToNat, am_addE, am_subE, am_mulE, am_laddE, am_lsubE, am_upO, am_upS, am_stS, am_stO, am_tnn, am_brl, am_brg, am_bre, am_brn, am_brG, am_brL, am_st1, am_no2, am_st2, am_clr, and_self, true_and, and_true, true_or, or_true, List.length_cons, List.length_nil] <;> omega) ?_
            try simp (disch := omega) only [s124 hw, r124_47 hw, s152 hw, am_tnA, am_tnM, Int.reduceToNat, am_addE, am_subE, am_mulE, am_laddE, am_lsubE, am_upO, am_upS, am_stS, am_stO, am_tnn, am_brl, am_brg, am_bre, am_brn, am_brG, am_brL, am_st1, am_no2, am_st2, am_clr]
            refine am_wp_br (fun b161 => ?_) (fun b161 => ?_)
            · refine am_wp_go rfl (by simp (disch := omega) only [s124 hw, r124_47 hw, s152 hw, am_tnA, am_tnM, Int.reduceToNat, am_addE, am_subE, am_mulE, am_laddE, am_lsubE, am_upO, am_upS, am_stS, am_stO, am_tnn, am_brl, am_brg, am_bre, am_brn, am_brG, am_brL, am_st1, am_no2, am_st2, am_clr, and_self, true_and, and_true, true_or, or_true, List.length_cons, List.length_nil] <;> omega) ?_
              try simp (disch := omega) only [s124 hw, r124_47 hw, s152 hw, am_tnA, am_tnM, Int.reduceToNat, am_addE, am_subE, am_mulE, am_laddE, am_lsubE, am_upO, am_upS, am_stS, am_stO, am_tnn, am_brl, am_brg, am_bre, am_brn, am_brG, am_brL, am_st1, am_no2, am_st2, am_clr]
              refine am_wp_ls (ih2 _ _ _ _ (fun y hy => by rw [am_upO hy, l1 y hy]) (fun i hi => by rw [am_upS, am_stO (by omega), l2 i hi]) (fun X hX => ?_)) rfl
              rw [am_upS]
              by_cases eX : X = S
              · subst eX
                rw [am_stS rfl]
                exact ⟨⟨x1, x2⟩, by omega, x4⟩
              · rw [am_stO (by omega)]
                exact l3 X (by omega)
            · omega
          have LP : ∀ y : Nat, ∀ x : Int, y &&& o = y → 0 ≤ x → x ≤ 400000 → (∀ U, gzOk n P gzAll (e0 + 1) S U → y < U → gzX (I 126) (((e0 + 1) * u : Nat) : Int) U n + K 152 (256 * (e0 + 1) + (S ||| U)) ≤ x) → (x = 0 ∨ gzAtt (fun U => gzOk n P gzAll (e0 + 1) S U) (fun U => gzX (I 126) (((e0 + 1) * u : Nat) : Int) U n + K 152 (256 * (e0 + 1) + (S ||| U))) x) → am_wp (d + 2) 297 159 [some (.inr (.inr (124))), some (.inl ((u : Int))), some (.inl ((n : Int))), some (.inl (((2 ^ n : Nat) : Int))), some (.inl ((E : Int))), some (.inl ((e0 : Int))), some (.inl ((S : Int))), some (.inl (x)), some (.inl ((o : Int))), some (.inl ((y : Int)))] [] (m, sl, sh, L, R) Q := by
            refine am_lm (P := fun y => ∀ x : Int, y &&& o = y → 0 ≤ x → x ≤ 400000 → (∀ U, gzOk n P gzAll (e0 + 1) S U → y < U → gzX (I 126) (((e0 + 1) * u : Nat) : Int) U n + K 152 (256 * (e0 + 1) + (S ||| U)) ≤ x) → (x = 0 ∨ gzAtt (fun U => gzOk n P gzAll (e0 + 1) S U) (fun U => gzX (I 126) (((e0 + 1) * u : Nat) : Int) U n + K 152 (256 * (e0 + 1) + (S ||| U))) x) → am_wp (d + 2) 297 159 [some (.inr (.inr (124))), some (.inl ((u : Int))), some (.inl ((n : Int))), some (.inl (((2 ^ n : Nat) : Int))), some (.inl ((E : Int))), some (.inl ((e0 : Int))), some (.inl ((S : Int))), some (.inl (x)), some (.inl ((o : Int))), some (.inl ((y : Int)))] [] (m, sl, sh, L, R) Q) id (fun y ih3 x hy xp xq h1 h2 => ?_)
            have yo : y ≤ o := by rw [← hy]; exact Nat.and_le_right
            have yl : y < 2 ^ n := by omega
            have y0 : y &&& S = 0 := (gz_subA yl).mp (by rw [hop]; exact hy)
            have Ly : L 154 y = if gzc y n ≤ P then gzX (I 126) (((e0 + 1) * u : Nat) : Int) y n else -1 := by rw [L154]; exact v3 y yl
            have by0 := bX (((e0 + 1) * u : Nat) : Int) y
            -- the next one
            have nxt : y ≠ 0 → ∀ x : Int, 0 ≤ x → x ≤ 400000 → (∀ U, gzOk n P gzAll (e0 + 1) S U → y ≤ U → gzX (I 126) (((e0 + 1) * u : Nat) : Int) U n + K 152 (256 * (e0 + 1) + (S ||| U)) ≤ x) → (x = 0 ∨ gzAtt (fun U => gzOk n P gzAll (e0 + 1) S U) (fun U => gzX (I 126) (((e0 + 1) * u : Nat) : Int) U n + K 152 (256 * (e0 + 1) + (S ||| U))) x) → am_wp (d + 2) 297 159 [some (.inr (.inr (124))), some (.inl ((u : Int))), some (.inl ((n : Int))), some (.inl (((2 ^ n : Nat) : Int))), some (.inl ((E : Int))), some (.inl ((e0 : Int))), some (.inl ((S : Int))), some (.inl (x)), some (.inl ((o : Int))), some (.inl ((((y - 1) &&& o : Nat) : Int)))] [] (m, sl, sh, L, R) Q := by
              intro ny x xp xq h1 h2
              have lt : ((y - 1) &&& o) < y := by have := @Nat.and_le_left (y - 1) o; omega
              refine ih3 _ lt x sub_sub xp xq (fun U hU hc => h1 U hU ?_) h2
              have b := gz_okA.mp hU
              have uo : U &&& o = U := by rw [← hop]; exact (gz_subA b.1).mpr b.2.1
              have := sub_next n o y U (by omega) hy uo (by omega)
              omega
            have y1 : y ≠ 0 → ((y : Int)) - 1 = ((y - 1 : Nat) : Int) := fun _ => by omega
            refine am_wp_go rfl (by simp (disch := omega) only [s124 hw, r124_50 hw, s154 hw, am_dnN, eA, am_addE, am_subE, am_mulE, am_laddE, am_lsubE, am_upO, am_upS, am_stS, am_stO, am_tnn, am_brl, am_brg, am_bre, am_brn, am_brG, am_brL, am_st1, am_no2, am_st2, am_clr, and_self, true_and, and_true, true_or, or_true, List.length_cons, List.length_nil] <;> omega) ?_
            try simp (disch := omega) only [s124 hw, r124_50 hw, s154 hw, am_dnN, eA, am_addE, am_subE, am_mulE, am_laddE, am_lsubE, am_upO, am_upS, am_stS, am_stO, am_tnn, am_brl, am_brg, am_bre, am_brn, am_brG, am_brL, am_st1, am_no2, am_st2, am_clr]
            refine am_wp_br (fun b161 => ?_) (fun b161 => ?_)
            · omega
            · refine am_wp_go rfl (by simp (disch := omega) only [s124 hw, r124_50 hw, s154 hw, am_dnN, eA, am_addE, am_subE, am_mulE, am_laddE, am_lsubE, am_upO, am_upS, am_stS, am_stO, am_tnn, am_brl, am_brg, am_bre, am_brn, am_brG, am_brL, am_st1, am_no2, am_st2, am_clr, and_self, true_and, and_true, true_or, or_true, List.length_cons, List.length_nil] <;> omega) ?_
              try simp (disch := omega) only [s124 hw, r124_50 hw, s154 hw, am_dnN, eA, am_addE, am_subE, am_mulE, am_laddE, am_lsubE, am_upO, am_upS, am_stS, am_stO, am_tnn, am_brl, am_brg, am_bre, am_brn, am_brG, am_brL, am_st1, am_no2, am_st2, am_clr]
              refine am_wp_br (fun b171 => ?_) (fun b171 => ?_)
              · have nok : ¬ gzc y n ≤ P := fun hc => by rw [if_pos hc] at Ly; omega
                have h1' : ∀ U, gzOk n P gzAll (e0 + 1) S U → y ≤ U → gzX (I 126) (((e0 + 1) * u : Nat) : Int) U n + K 152 (256 * (e0 + 1) + (S ||| U)) ≤ x := fun U hU hc => by
                  by_cases eU : U = y
                  · subst eU; exact absurd (gz_okA.mp hU).2.2 nok
                  · exact h1 U hU (by omega)
                refine am_wp_go rfl (by simp (disch := omega) only [am_dnN, eA, am_addE, am_subE, am_mulE, am_laddE, am_lsubE, am_upO, am_upS, am_stS, am_stO, am_tnn, am_brl, am_brg, am_bre, am_brn, am_brG, am_brL, am_st1, am_no2, am_st2, am_clr, and_self, true_and, and_true, true_or, or_true, List.length_cons, List.length_nil] <;> omega) ?_
                try simp (disch := omega) only [am_dnN, eA, am_addE, am_subE, am_mulE, am_laddE, am_lsubE, am_upO, am_upS, am_stS, am_stO, am_tnn, am_brl, am_brg, am_bre, am_brn, am_brG, am_brL, am_st1, am_no2, am_st2, am_clr]
                refine am_wp_br (fun b210 => ?_) (fun b210 => ?_)
                · have ny : y ≠ 0 := by omega
                  have y2 := y1 ny
                  refine am_wp_go rfl (by simp (disch := omega) only [am_andN, y2, am_addE, am_subE, am_mulE, am_laddE, am_lsubE, am_upO, am_upS, am_stS, am_stO, am_tnn, am_brl, am_brg, am_bre, am_brn, am_brG, am_brL, am_st1, am_no2, am_st2, am_clr, and_self, true_and, and_true, true_or, or_true, List.length_cons, List.length_nil] <;> omega) ?_
                  try simp (disch := omega) only [am_andN, y2, am_addE, am_subE, am_mulE, am_laddE, am_lsubE, am_upO, am_upS, am_stS, am_stO, am_tnn, am_brl, am_brg, am_bre, am_brn, am_brG, am_brL, am_st1, am_no2, am_st2, am_clr]
                  exact am_wp_ls (nxt ny x xp xq h1' h2) rfl
                · refine am_wp_go rfl (by simp (disch := omega) only [am_dnN, eA, am_addE, am_subE, am_mulE, am_laddE, am_lsubE, am_upO, am_upS, am_stS, am_stO, am_tnn, am_brl, am_brg, am_bre, am_brn, am_brG, am_brL, am_st1, am_no2, am_st2, am_clr, and_self, true_and, and_true, true_or, or_true, List.length_cons, List.length_nil] <;> omega) ?_
                  try simp (disch := omega) only [am_dnN, eA, am_addE, am_subE, am_mulE, am_laddE, am_lsubE, am_upO, am_upS, am_stS, am_stO, am_tnn, am_brl, am_brg, am_bre, am_brn, am_brG, am_brL, am_st1, am_no2, am_st2, am_clr]
                  exact am_wp_ls (fin x (fun U hU => h1' U hU (by omega)) h2) rfl
              · have ok : gzc y n ≤ P := Classical.byContradiction (fun hc => by rw [if_neg hc] at Ly; omega)
                rw [if_pos ok] at Ly
                have oky : gzOk n P gzAll (e0 + 1) S y := gz_okA.mpr ⟨yl, y0, ok⟩
                have oS := Nat.or_lt_two_pow Sl yl
                have ty := k3 (e0 + 1) (Nat.le_refl _) (by omega) _ oS
                have ry := row _ oS
                refine am_wp_go rfl (by simp (disch := omega) only [s124 hw, r124_50 hw, r124_47 hw, s154 hw, s152 hw, Ly, ry, am_tnA, am_tnM, Int.reduceToNat, am_orN, am_addE, am_subE, am_mulE, am_laddE, am_lsubE, am_upO, am_upS, am_stS, am_stO, am_tnn, am_brl, am_brg, am_bre, am_brn, am_brG, am_brL, am_st1, am_no2, am_st2, am_clr, and_self, true_and, and_true, true_or, or_true, List.length_cons, List.length_nil] <;> omega) ?_
                try simp (disch := omega) only [s124 hw, r124_50 hw, r124_47 hw, s154 hw, s152 hw, Ly, ry, am_tnA, am_tnM, Int.reduceToNat, am_orN, am_addE, am_subE, am_mulE, am_laddE, am_lsubE, am_upO, am_upS, am_stS, am_stO, am_tnn, am_brl, am_brg, am_bre, am_brn, am_brG, am_brL, am_st1, am_no2, am_st2, am_clr]
                refine am_wp_cc rfl rfl rfl (trivial) (w_M_most ⟨_, rfl, ?_⟩)
                generalize hz : (if x < gzX (I 126) (((e0 + 1) * u : Nat) : Int) y n + K 152 (256 * (e0 + 1) + (S ||| y)) then gzX (I 126) (((e0 + 1) * u : Nat) : Int) y n + K 152 (256 * (e0 + 1) + (S ||| y)) else x) = z at *
                have z1 : x ≤ z ∧ gzX (I 126) (((e0 + 1) * u : Nat) : Int) y n + K 152 (256 * (e0 + 1) + (S ||| y)) ≤ z ∧ z ≤ 400000 ∧ (z = x ∨ z = gzX (I 126) (((e0 + 1) * u : Nat) : Int) y n + K 152 (256 * (e0 + 1) + (S ||| y))) := by
                  rw [← hz]
                  split <;> omega
                have h1' : ∀ U, gzOk n P gzAll (e0 + 1) S U → y ≤ U → gzX (I 126) (((e0 + 1) * u : Nat) : Int) U n + K 152 (256 * (e0 + 1) + (S ||| U)) ≤ z := fun U hU hc => by
                  by_cases eU : U = y
                  · subst eU; exact z1.2.1
                  · have := h1 U hU (by omega); omega
                have h2' : z = 0 ∨ gzAtt (fun U => gzOk n P gzAll (e0 + 1) S U) (fun U => gzX (I 126) (((e0 + 1) * u : Nat) : Int) U n + K 152 (256 * (e0 + 1) + (S ||| U))) z := by
                  rcases z1.2.2.2 with e | e
                  · rw [e]; exact h2
                  · exact Or.inr ⟨y, oky, e.symm⟩
                clear hz
                refine am_wp_go rfl (by simp (disch := omega) only [am_tnA, am_tnM, Int.reduceToNat, am_orN, am_addE, am_subE, am_mulE, am_laddE, am_lsubE, am_upO, am_upS, am_stS, am_stO, am_tnn, am_brl, am_brg, am_bre, am_brn, am_brG, am_brL, am_st1, am_no2, am_st2, am_clr, and_self, true_and, and_true, true_or, or_true, List.length_cons, List.length_nil] <;> omega) ?_
                try simp (disch := omega) only [am_tnA, am_tnM, Int.reduceToNat, am_orN, am_addE, am_subE, am_mulE, am_laddE, am_lsubE, am_upO, am_upS, am_stS, am_stO, am_tnn, am_brl, am_brg, am_bre, am_brn, am_brG, am_brL, am_st1, am_no2, am_st2, am_clr]
                refine am_wp_br (fun b210 => ?_) (fun b210 => ?_)
                · have ny : y ≠ 0 := by omega
                  have y2 := y1 ny
                  refine am_wp_go rfl (by simp (disch := omega) only [am_andN, y2, am_addE, am_subE, am_mulE, am_laddE, am_lsubE, am_upO, am_upS, am_stS, am_stO, am_tnn, am_brl, am_brg, am_bre, am_brn, am_brG, am_brL, am_st1, am_no2, am_st2, am_clr, and_self, true_and, and_true, true_or, or_true, List.length_cons, List.length_nil] <;> omega) ?_
                  try simp (disch := omega) only [am_andN, y2, am_addE, am_subE, am_mulE, am_laddE, am_lsubE, am_upO, am_upS, am_stS, am_stO, am_tnn, am_brl, am_brg, am_bre, am_brn, am_brG, am_brL, am_st1, am_no2, am_st2, am_clr]
                  exact am_wp_ls (nxt ny z (by omega) (by omega) h1' h2') rfl
                · refine am_wp_go rfl (by simp (disch := omega) only [am_tnA, am_tnM, Int.reduceToNat, am_orN, am_addE, am_subE, am_mulE, am_laddE, am_lsubE, am_upO, am_upS, am_stS, am_stO, am_tnn, am_brl, am_brg, am_bre, am_brn, am_brG, am_brL, am_st1, am_no2, am_st2, am_clr, and_self, true_and, and_true, true_or, or_true, List.length_cons, List.length_nil] <;> omega) ?_
                  try simp (disch := omega) only [am_tnA, am_tnM, Int.reduceToNat, am_orN, am_addE, am_subE, am_mulE, am_laddE, am_lsubE, am_upO, am_upS, am_stS, am_stO, am_tnn, am_brl, am_brg, am_bre, am_brn, am_brG, am_brL, am_st1, am_no2, am_st2, am_clr]
                  exact am_wp_ls (fin z (fun U hU => h1' U hU (by omega)) h2') rfl
          exact am_wp_ls (LP o 0 (Nat.and_self o) (Int.le_refl 0) (by decide) (fun U hU hc => by
            have b := gz_okA.mp hU
            have uo : U &&& o = U := by rw [← hop]; exact (gz_subA b.1).mpr b.2.1
            have : U ≤ o := by rw [← uo]; exact Nat.and_le_right
            omega) (Or.inl rfl)) rfl
      have LU : ∀ U : Nat, U ≤ 2 ^ n → ∀ (z7 z8 z9 : Option am_V) (V : Nat → Nat → Int), (∀ x, x ≠ 154 → V x = K x) → (∀ X, X < U → V 154 X = if gzc X n ≤ P then gzX (I 126) (((e0 + 1) * u : Nat) : Int) X n else -1) → am_wp (d + 2) 297 84 [some (.inr (.inr (124))), some (.inl ((u : Int))), some (.inl ((n : Int))), some (.inl (((2 ^ n : Nat) : Int))), some (.inl ((E : Int))), some (.inl ((e0 : Int))), some (.inl ((U : Int))), z7, z8, z9] [] (m, sl, sh, V, R) Q := by
        refine am_lp (2 ^ n) (fun U hU ih2 z7 z8 z9 V v1 v2 => ?_)
        refine am_wp_go rfl (by simp (disch := omega) only [am_addE, am_subE, am_mulE, am_laddE, am_lsubE, am_upO, am_upS, am_stS, am_stO, am_tnn, am_brl, am_brg, am_bre, am_brn, am_brG, am_brL, am_st1, am_no2, am_st2, am_clr, and_self, true_and, and_true, true_or, or_true, List.length_cons, List.length_nil] <;> omega) ?_
        try simp (disch := omega) only [am_addE, am_subE, am_mulE, am_laddE, am_lsubE, am_upO, am_upS, am_stS, am_stO, am_tnn, am_brl, am_brg, am_bre, am_brn, am_brG, am_brL, am_st1, am_no2, am_st2, am_clr]
        refine am_wp_br (fun b87 => ?_) (fun b87 => ?_)
        · refine am_wp_go rfl (by simp (disch := omega) only [am_addE, am_subE, am_mulE, am_laddE, am_lsubE, am_upO, am_upS, am_stS, am_stO, am_tnn, am_brl, am_brg, am_bre, am_brn, am_brG, am_brL, am_st1, am_no2, am_st2, am_clr, and_self, true_and, and_true, true_or, or_true, List.length_cons, List.length_nil] <;> omega) ?_
          try simp (disch := omega) only [am_addE, am_subE, am_mulE, am_laddE, am_lsubE, am_upO, am_upS, am_stS, am_stO, am_tnn, am_brl, am_brg, am_bre, am_brn, am_brG, am_brL, am_st1, am_no2, am_st2, am_clr]
          exact am_wp_ls (LS V (fun x hx => by rw [v1 x (by omega), k1 x hx]) (v1 152 (by decide)) (fun X hX => v2 X (by omega)) 0 (Nat.zero_le _) _ _ _ V (fun _ _ => rfl) (fun i _ => by rw [v1 152 (by decide)]) (fun X hX => absurd hX (Nat.not_lt_zero X))) rfl
        · have Ul : U < 2 ^ n := by omega
          have ih2 := ih2 Ul
          have V126 : V 126 = I 126 := by rw [v1 126 (by decide)]; exact K126
          have V0 : V 126 0 = (P : Int) := by rw [V126]; exact hP
          have st : ∀ x : Int, (x = if gzc U n ≤ P then gzX (I 126) (((e0 + 1) * u : Nat) : Int) U n else -1) → am_wp (d + 2) 297 84 [some (.inr (.inr (124))), some (.inl ((u : Int))), some (.inl ((n : Int))), some (.inl (((2 ^ n : Nat) : Int))), some (.inl ((E : Int))), some (.inl ((e0 : Int))), some (.inl (((U : Int) + 1))), z7, z8, z9] [] (m, sl, sh, am_up V 154 U x, R) Q := by
            intro x hx
            refine am_wp_ls (ih2 z7 z8 z9 _ (fun y hy => by rw [am_upO hy, v1 y hy]) (fun X hX => ?_)) rfl
            rw [am_upS]
            by_cases eX : X = U
            · rw [am_stS eX, eX]; exact hx
            · rw [am_stO eX]; exact v2 X (by omega)
          refine am_wp_go rfl (by simp (disch := omega) only [s124 hw, r124_50 hw, s154 hw, am_addE, am_subE, am_mulE, am_laddE, am_lsubE, am_upO, am_upS, am_stS, am_stO, am_tnn, am_brl, am_brg, am_bre, am_brn, am_brG, am_brL, am_st1, am_no2, am_st2, am_clr, and_self, true_and, and_true, true_or, or_true, List.length_cons, List.length_nil] <;> omega) ?_
          try simp (disch := omega) only [s124 hw, r124_50 hw, s154 hw, am_addE, am_subE, am_mulE, am_laddE, am_lsubE, am_upO, am_upS, am_stS, am_stO, am_tnn, am_brl, am_brg, am_bre, am_brn, am_brG, am_brL, am_st1, am_no2, am_st2, am_clr]
          refine am_wp_cc rfl rfl rfl (trivial) (w_M_bits (s := U) (by omega) ⟨_, rfl, ?_⟩)
          rw [pop_gzc Ul n3.2]
          refine am_wp_go rfl (by simp (disch := omega) only [s124 hw, r124_14 hw, s126 hw, V0, Int.reduceToNat, rc, am_addE, am_subE, am_mulE, am_laddE, am_lsubE, am_upO, am_upS, am_stS, am_stO, am_tnn, am_brl, am_brg, am_bre, am_brn, am_brG, am_brL, am_st1, am_no2, am_st2, am_clr, and_self, true_and, and_true, true_or, or_true, List.length_cons, List.length_nil] <;> omega) ?_
          try simp (disch := omega) only [s124 hw, r124_14 hw, s126 hw, V0, Int.reduceToNat, rc, am_addE, am_subE, am_mulE, am_laddE, am_lsubE, am_upO, am_upS, am_stS, am_stO, am_tnn, am_brl, am_brg, am_bre, am_brn, am_brG, am_brL, am_st1, am_no2, am_st2, am_clr]
          refine am_wp_br (fun b107 => ?_) (fun b107 => ?_)
          · refine am_wp_go rfl (by simp (disch := omega) only [s124 hw, r124_14 hw, s126 hw, V0, Int.reduceToNat, rc, am_addE, am_subE, am_mulE, am_laddE, am_lsubE, am_upO, am_upS, am_stS, am_stO, am_tnn, am_brl, am_brg, am_bre, am_brn, am_brG, am_brL, am_st1, am_no2, am_st2, am_clr, and_self, true_and, and_true, true_or, or_true, List.length_cons, List.length_nil] <;> omega) ?_
            try simp (disch := omega) only [s124 hw, r124_14 hw, s126 hw, V0, Int.reduceToNat, rc, am_addE, am_subE, am_mulE, am_laddE, am_lsubE, am_upO, am_upS, am_stS, am_stO, am_tnn, am_brl, am_brg, am_bre, am_brn, am_brG, am_brL, am_st1, am_no2, am_st2, am_clr]
            refine am_wp_cc rfl rfl rfl (congrArg Prod.fst (s124 hw)) (w_M_worthOfSet (n := n) (U := U) hw (by rw [V126]; exact hk) (by rw [V126]; exact hn) (by omega) (by omega) ⟨_, rfl, ?_⟩)
            rw [V126]
            refine am_wp_go rfl (by simp (disch := omega) only [s124 hw, r124_50 hw, s154 hw, Int.reduceToNat, rc, am_addE, am_subE, am_mulE, am_laddE, am_lsubE, am_upO, am_upS, am_stS, am_stO, am_tnn, am_brl, am_brg, am_bre, am_brn, am_brG, am_brL, am_st1, am_no2, am_st2, am_clr, and_self, true_and, and_true, true_or, or_true, List.length_cons, List.length_nil] <;> omega) ?_
            try simp (disch := omega) only [s124 hw, r124_50 hw, s154 hw, Int.reduceToNat, rc, am_addE, am_subE, am_mulE, am_laddE, am_lsubE, am_upO, am_upS, am_stS, am_stO, am_tnn, am_brl, am_brg, am_bre, am_brn, am_brG, am_brL, am_st1, am_no2, am_st2, am_clr]
            exact am_wp_ls (st _ (by rw [if_pos (by omega)])) rfl
          · skip
            refine am_wp_go rfl (by simp (disch := omega) only [s124 hw, r124_50 hw, s154 hw, Int.reduceToNat, rc, am_addE, am_subE, am_mulE, am_laddE, am_lsubE, am_upO, am_upS, am_stS, am_stO, am_tnn, am_brl, am_brg, am_bre, am_brn, am_brG, am_brL, am_st1, am_no2, am_st2, am_clr, and_self, true_and, and_true, true_or, or_true, List.length_cons, List.length_nil] <;> omega) ?_
            try simp (disch := omega) only [s124 hw, r124_50 hw, s154 hw, Int.reduceToNat, rc, am_addE, am_subE, am_mulE, am_laddE, am_lsubE, am_upO, am_upS, am_stS, am_stO, am_tnn, am_brl, am_brg, am_bre, am_brn, am_brG, am_brL, am_st1, am_no2, am_st2, am_clr]
            exact am_wp_ls (st _ (by rw [if_neg (by omega)])) rfl
      refine am_wp_go rfl (by simp (disch := omega) only [am_addE, am_subE, am_mulE, am_laddE, am_lsubE, am_upO, am_upS, am_stS, am_stO, am_tnn, am_brl, am_brg, am_bre, am_brn, am_brG, am_brL, am_st1, am_no2, am_st2, am_clr, and_self, true_and, and_true, true_or, or_true, List.length_cons, List.length_nil] <;> omega) ?_
      try simp (disch := omega) only [am_addE, am_subE, am_mulE, am_laddE, am_lsubE, am_upO, am_upS, am_stS, am_stO, am_tnn, am_brl, am_brg, am_bre, am_brn, am_brG, am_brL, am_st1, am_no2, am_st2, am_clr]
      exact am_wp_ls (LU 0 (Nat.zero_le _) _ _ _ K (fun _ _ => rfl) (fun X hX => absurd hX (Nat.not_lt_zero X))) rfl
  exact am_wp_ls (LE 0 (Nat.zero_le E) none none none none I (fun _ _ => rfl) (fun e e1 e2 => by omega) (fun e e1 e2 S hS => by rw [show e = E by omega, hz S hS]; omega) hz) rfl
end SV
