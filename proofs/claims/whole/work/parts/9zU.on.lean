/-! ONE: the start; make, one by the class -/
def oz0 : Nat → Int := fun _ => -1
noncomputable def ozZ (W : Nat → Int) (P : Nat) (x : Int) : Int × List Nat × (Nat → Int) := ozS (2 * nS W) P (W 1) (ozq W) (2 * nS W) oz0 [] (x, [], fun _ => 0)
section ON
variable {n P : Nat} {ρ : Int} {q : Nat → Int}
theorem oz0_B {t : Int} : ozB n q oz0 t = 0 := by
  unfold ozB
  have e := ax_ct_cg (c := ozI q oz0 t) (e := fun _ => false) (n := n) (fun s hs => by
    unfold ozI oz0
    exact decide_eq_false (by omega))
  rw [e, ct_none]
theorem oz0_V : ozV n P ρ q oz0 := ⟨fun s _ => Or.inl rfl, fun t => by rw [oz0_B]; exact Nat.zero_le P, fun s _ h _ => absurd rfl h⟩
theorem oz0_O : ozO n oz0 = n := by
  unfold ozO
  have c1 : ∀ P, ax_ct (fun _ => true) P = P := fun P => by
    induction P with
    | zero => rfl
    | succ P ih =>
      have e2 : ax_ct (fun _ => true) (P + 1) = ax_ct (fun _ => true) P + 1 := rfl
      rw [e2, ih]
  have e := ax_ct_cg (c := fun s => decide (oz0 s = -1)) (e := fun _ => true) (n := n) (fun s _ => decide_eq_true rfl)
  rw [e, c1]
theorem oz0_M : ozM n q oz0 = 0 := by
  unfold ozM
  have : ∀ n, am_fmax (fun s => if oz0 s = -1 then 0 else oz0 s + q s) n = 0 := fun n => by
    induction n with
    | zero => rfl
    | succ n ih =>
      have e : ∀ f : Nat → Int, am_fmax f (n + 1) = if am_fmax f n < f n then f n else am_fmax f n := fun f => rfl
      rw [e, ih, if_pos (show oz0 n = -1 from rfl)]
      rfl
  exact this n
theorem ct_ex {p : Nat → Bool} : ∀ n, 0 < ax_ct p n → ∃ s, s < n ∧ p s = true
  | 0, h => absurd h (Nat.lt_irrefl 0)
  | n + 1, h => by
    cases hp : p n
    · have e : ax_ct p (n + 1) = bif p n then ax_ct p n + 1 else ax_ct p n := rfl
      rw [e, hp, cond_false] at h
      obtain ⟨s, s1, s2⟩ := ct_ex n h
      exact ⟨s, by omega, s2⟩
    · exact ⟨n, by omega, hp⟩
theorem ozR_ex (hQ : ozQ n P ρ q) : ∀ k (b : Nat → Int), ozO n b = k → ozM n q b + 29 * (k : Int) ≤ 232 → ∃ e, e ≤ 232 ∧ ozR n P ρ q k b e
  | 0, b, _, hM => ⟨ozM n q b, by omega, rfl⟩
  | k + 1, b, hO, hM => by
    obtain ⟨s, hs, hb⟩ := ct_ex (p := fun s => decide (b s = -1)) n (by unfold ozO at hO; omega)
    rw [decide_eq_true_iff] at hb
    have sp := (oze_sp (b := b) hQ hs).1
    have up := ozM_up (b := b) hQ hs hb
    obtain ⟨e, e1, e2⟩ := ozR_ex hQ k _ (ozO_set hs hb sp.1 hO) (by omega)
    exact ⟨e, e1, s, hs, hb, e2⟩
end ON
theorem ozZ_gd {W : Nat → Int} {P : Nat} {x : Int} (hk : wk W) (hP : W 0 = (P : Int)) (h4 : nS W ≤ 4) (hx : 256 ≤ x) : ozGd (2 * nS W) P (W 1) (ozq W) (ozZ W P x) := by
  have hQ := ozQ_W hk hP h4
  have m0 := oz0_M (n := 2 * nS W) (q := ozq W)
  obtain ⟨e, e1, e2⟩ := ozR_ex hQ (2 * nS W) oz0 oz0_O (by rw [m0]; omega)
  have lb := ozS_lb (q := ozq W) hQ (2 * nS W) oz0 [] (x, [], fun _ => 0) e2
  rcases ozS_gd hQ (2 * nS W) oz0 [] (x, [], fun _ => 0) (by simp) oz0_V oz0_O (by rw [m0]; omega) ⟨fun i hi => absurd hi (Nat.not_lt_zero i), fun s _ h => absurd rfl h, fun i _ hi => absurd hi (Nat.not_lt_zero i)⟩ with h | h
  · rw [h] at lb
    dsimp only at lb
    omega
  · exact h
theorem ozZ_eq {W : Nat → Int} {P : Nat} {x y : Int} (hk : wk W) (hP : W 0 = (P : Int)) (h4 : nS W ≤ 4) (hx : 256 ≤ x) (hy : 256 ≤ y) : ozZ W P x = ozZ W P y := by
  have hQ := ozQ_W hk hP h4
  have m0 := oz0_M (n := 2 * nS W) (q := ozq W)
  exact ozS_2 hQ (2 * nS W) oz0 [] _ _ oz0_O (by rw [m0]; omega) hx hy
section ON
variable {m sl : Nat} {sh : Nat → Nat × Nat} {I : Nat → Nat → Int} {R : Nat → Nat → Nat} {Q : am_R → am_M → Prop} {d P : Nat} {W N : Nat → Int} {G : List Go} {H : List (List Go)}
set_option maxHeartbeats 4000000 in
theorem w_shMake (hw : wd sh R) (hk : kit I 6 W N) (hP : W 0 = (P : Int)) (h0 : ¬ (1 ≤ nS W ∧ nS W ≤ 4) → Q (am_yi (-1)) (m, sl, sh, I, R)) (h1 : 1 ≤ nS W → nS W ≤ 4 → ∀ J p F G, (∀ a, ¬ (a = 48 ∨ a = 49 ∨ 64 ≤ a ∧ a ≤ 72) → J a = I a) → pl J 48 G → ozG (2 * nS W) P (ozq W) (fun i => (ozZ W P 256).2.1.getD i 0) (ozZ W P 256).2.2 (2 * nS W) p F G → Q (am_yi (ozZ W P 256).1) (m, sl, sh, J, R)) : am_wp (d + 20) 102 0 [some (.inr (.inr (64))), some (.inr (.inr (6))), some (.inr (.inr (48)))] [] (m, sl, sh, I, R) Q := by
  have n1 := wk_nS hk.1
  have o6 : I 6 6 = (nS W : Int) := by rw [hk.2.1.2.2.2.2.2.1]; exact n1.1
  have o1 : I 6 1 = (P : Int) := by rw [hk.2.1.1]; exact hP
  have o2 : I 6 2 = W 1 := hk.2.1.2.1
  have w0 := hk.1.1
  unfold wk0 at w0
  refine am_wp_go rfl (by simp (disch := omega) only [s6 hw, o6, am_addE, am_subE, am_mulE, am_laddE, am_lsubE, am_upO, am_upS, am_stS, am_stO, am_tnn, am_brl, am_brg, am_bre, am_brn, am_brG, am_brL, am_st1, am_no2, am_st2, am_clr, and_self, true_and, and_true, true_or, or_true, List.length_cons, List.length_nil] <;> omega) ?_
  try simp (disch := omega) only [s6 hw, o6, am_addE, am_subE, am_mulE, am_laddE, am_lsubE, am_upO, am_upS, am_stS, am_stO, am_tnn, am_brl, am_brg, am_bre, am_brn, am_brG, am_brL, am_st1, am_no2, am_st2, am_clr]
  refine am_wp_br (fun b5 => ?_) (fun b5 => ?_)
  · refine am_wp_go rfl (by simp (disch := omega) only [s6 hw, o6, am_addE, am_subE, am_mulE, am_laddE, am_lsubE, am_upO, am_upS, am_stS, am_stO, am_tnn, am_brl, am_brg, am_bre, am_brn, am_brG, am_brL, am_st1, am_no2, am_st2, am_clr, and_self, true_and, and_true, true_or, or_true, List.length_cons, List.length_nil] <;> omega) ?_
    try simp (disch := omega) only [s6 hw, o6, am_addE, am_subE, am_mulE, am_laddE, am_lsubE, am_upO, am_upS, am_stS, am_stO, am_tnn, am_brl, am_brg, am_bre, am_brn, am_brG, am_brL, am_st1, am_no2, am_st2, am_clr]
    refine am_wp_ret rfl rfl ?_
    exact h0 (by omega)
  · refine am_wp_go rfl (by simp (disch := omega) only [s6 hw, o6, am_addE, am_subE, am_mulE, am_laddE, am_lsubE, am_upO, am_upS, am_stS, am_stO, am_tnn, am_brl, am_brg, am_bre, am_brn, am_brG, am_brL, am_st1, am_no2, am_st2, am_clr, and_self, true_and, and_true, true_or, or_true, List.length_cons, List.length_nil] <;> omega) ?_
    try simp (disch := omega) only [s6 hw, o6, am_addE, am_subE, am_mulE, am_laddE, am_lsubE, am_upO, am_upS, am_stS, am_stO, am_tnn, am_brl, am_brg, am_bre, am_brn, am_brG, am_brL, am_st1, am_no2, am_st2, am_clr]
    refine am_wp_br (fun b13 => ?_) (fun b13 => ?_)
    · have h := h1 (by omega) (by omega)
      clear h0 h1
      have hQ := ozQ_W hk.1 hP (show nS W ≤ 4 by omega)
      have hgd := ozZ_gd (x := 256) hk.1 hP (show nS W ≤ 4 by omega) (Int.le_refl _)
      have hlb := fun c hV hc => oz_least (b := c) hk.1 hP (show nS W ≤ 4 by omega) (show 1 ≤ nS W by omega) hV hc
      have e2n : (2 : Int) * (nS W : Int) = ((2 * nS W : Nat) : Int) := by omega
      have lo := lonW_le hk.1
      refine am_wp_go rfl (by simp (disch := omega) only [s6 hw, s64 hw, r6_11 hw, r64_7 hw, s7 hw, s72 hw, r64_0 hw, s65 hw, o6, o1, o2, e2n, Int.reduceToNat, am_cpyO, am_addE, am_subE, am_mulE, am_laddE, am_lsubE, am_upO, am_upS, am_stS, am_stO, am_tnn, am_brl, am_brg, am_bre, am_brn, am_brG, am_brL, am_st1, am_no2, am_st2, am_clr, and_self, true_and, and_true, true_or, or_true, List.length_cons, List.length_nil] <;> omega) ?_
      simp (disch := omega) only [s6 hw, s64 hw, r6_11 hw, r64_7 hw, s7 hw, s72 hw, r64_0 hw, s65 hw, o6, o1, o2, e2n, Int.reduceToNat, am_cpyO, am_addE, am_subE, am_mulE, am_laddE, am_lsubE, am_upO, am_upS, am_stS, am_stO, am_tnn, am_brl, am_brg, am_bre, am_brn, am_brG, am_brL, am_st1, am_no2, am_st2, am_clr]
      generalize hZ : am_cpy (am_up (am_up (am_up I 64 8 ((2 * nS W : Nat) : Int)) 64 9 (P : Int)) 64 10 (W 1)) 7 0 72 0 (2 * nS W) = Z
      have Z0 : ∀ a, a ≠ 64 → a ≠ 72 → Z a = I a := fun a a1 a2 => by rw [← hZ, am_cpyO a2, am_upO a1, am_upO a1, am_upO a1]
      have Z8 : Z 64 8 = ((2 * nS W : Nat) : Int) := by rw [← hZ]; simp (disch := omega) only [am_cpyO, am_upS, am_stO, am_stS]
      have Z9 : Z 64 9 = (P : Int) := by rw [← hZ]; simp (disch := omega) only [am_cpyO, am_upS, am_stO, am_stS]
      have Z10 : Z 64 10 = W 1 := by rw [← hZ]; simp (disch := omega) only [am_cpyO, am_upS, am_stO, am_stS]
      have Z72 : ∀ s, s < 2 * nS W → Z 72 s = ozq W s := fun s hs => by
        rw [← hZ, am_cpyS]
        dsimp only
        rw [if_pos (by omega), am_upO (by decide), am_upO (by decide), am_upO (by decide), show 0 + (s - 0) = s by omega]
        have t := hk.2.2.1 (s / 2) (by omega)
        rcases (show s % 2 = 0 ∨ s % 2 = 1 by omega) with e | e
        · have t := t.1
          rw [show 2 * (s / 2) = s by omega] at t
          rw [show (7 : Nat) = 6 + 1 from rfl, t]
          unfold ozq
          rw [e]; rfl
        · have t := t.2
          rw [show 2 * (s / 2) + 1 = s by omega] at t
          rw [show (7 : Nat) = 6 + 1 from rfl, t]
          unfold ozq
          rw [e]
      clear hZ
      refine am_wp_cc rfl rfl rfl (trivial) (w_fill (a := 65) (by decide) (s65 hw) (by decide) (fun J j1 j2 j3 => ⟨_, rfl, ?_⟩))
      refine am_wp_go rfl (by simp (disch := omega) only [s64 hw, r64_1 hw, s66 hw, am_addE, am_subE, am_mulE, am_laddE, am_lsubE, am_upO, am_upS, am_stS, am_stO, am_tnn, am_brl, am_brg, am_bre, am_brn, am_brG, am_brL, am_st1, am_no2, am_st2, am_clr, and_self, true_and, and_true, true_or, or_true, List.length_cons, List.length_nil] <;> omega) ?_
      try simp (disch := omega) only [s64 hw, r64_1 hw, s66 hw, am_addE, am_subE, am_mulE, am_laddE, am_lsubE, am_upO, am_upS, am_stS, am_stO, am_tnn, am_brl, am_brg, am_bre, am_brn, am_brG, am_brL, am_st1, am_no2, am_st2, am_clr]
      refine am_wp_cc rfl rfl rfl (trivial) (w_fill (a := 66) (by decide) (s66 hw) (by decide) (fun K k1 k2 k3 => ⟨_, rfl, ?_⟩))
      have K0 : ∀ a, ¬ (64 ≤ a ∧ a ≤ 72) → K a = I a := fun a ha => by rw [k1 a (by omega), j1 a (by omega), Z0 a (by omega) (by omega)]
      have kK : kit K 6 W N := kit_fr hk (fun a a1 a2 => K0 a (by omega))
      have K64 : K 64 = Z 64 := by rw [k1 64 (by decide), j1 64 (by decide)]
      have K10 : K 64 10 = W 1 := by rw [K64]; exact Z10
      refine am_wp_go rfl (by simp (disch := omega) only [s64 hw, s6 hw, am_addE, am_subE, am_mulE, am_laddE, am_lsubE, am_upO, am_upS, am_stS, am_stO, am_tnn, am_brl, am_brg, am_bre, am_brn, am_brG, am_brL, am_st1, am_no2, am_st2, am_clr, and_self, true_and, and_true, true_or, or_true, List.length_cons, List.length_nil] <;> omega) ?_
      try simp (disch := omega) only [s64 hw, s6 hw, am_addE, am_subE, am_mulE, am_laddE, am_lsubE, am_upO, am_upS, am_stS, am_stO, am_tnn, am_brl, am_brg, am_bre, am_brn, am_brG, am_brL, am_st1, am_no2, am_st2, am_clr]
      refine am_wp_cc rfl rfl rfl (congrArg Prod.fst (s6 hw)) (w_longest (kt_w hw (by decide)) kK ⟨_, rfl, ?_⟩)
      refine am_wp_go rfl (by simp (disch := omega) only [s64 hw, s6 hw, K10, am_addE, am_subE, am_mulE, am_laddE, am_lsubE, am_upO, am_upS, am_stS, am_stO, am_tnn, am_brl, am_brg, am_bre, am_brn, am_brG, am_brL, am_st1, am_no2, am_st2, am_clr, and_self, true_and, and_true, true_or, or_true, List.length_cons, List.length_nil] <;> omega) ?_
      try simp (disch := omega) only [s64 hw, s6 hw, K10, am_addE, am_subE, am_mulE, am_laddE, am_lsubE, am_upO, am_upS, am_stS, am_stO, am_tnn, am_brl, am_brg, am_bre, am_brn, am_brG, am_brL, am_st1, am_no2, am_st2, am_clr]
      refine am_wp_cc rfl rfl rfl (congrArg Prod.fst (s6 hw)) (w_byPlaces (kt_w hw (by decide)) kK ⟨_, rfl, ?_⟩)
      refine am_wp_go rfl (by simp (disch := omega) only [s64 hw, s6 hw, K10, am_addE, am_subE, am_mulE, am_laddE, am_lsubE, am_upO, am_upS, am_stS, am_stO, am_tnn, am_brl, am_brg, am_bre, am_brn, am_brG, am_brL, am_st1, am_no2, am_st2, am_clr, and_self, true_and, and_true, true_or, or_true, List.length_cons, List.length_nil] <;> omega) ?_
      try simp (disch := omega) only [s64 hw, s6 hw, K10, am_addE, am_subE, am_mulE, am_laddE, am_lsubE, am_upO, am_upS, am_stS, am_stO, am_tnn, am_brl, am_brg, am_bre, am_brn, am_brG, am_brL, am_st1, am_no2, am_st2, am_clr]
      generalize hY : am_up (am_up K 64 11 (if lonW W + W 1 < bypW W then bypW W else lonW W + W 1)) 64 12 256 = Y
      have Y0 : ∀ a, a ≠ 64 → Y a = K a := fun a a1 => by rw [← hY, am_upO a1, am_upO a1]
      have Y1 : ∀ j, j ≠ 11 → j ≠ 12 → Y 64 j = Z 64 j := fun j a1 a2 => by rw [← hY, am_upS, am_stO a2, am_upS, am_stO a1, K64]
      have Y11 : Y 64 11 = if lonW W + W 1 < bypW W then bypW W else lonW W + W 1 := by rw [← hY, am_upS, am_stO (by decide), am_upS, am_stS rfl]
      have Y12 : Y 64 12 = 256 := by rw [← hY, am_upS, am_stS rfl]
      clear hY
      have m0 := oz0_M (n := 2 * nS W) (q := ozq W)
      have goal := w_search (sl := sl) (m := m) (n := 2 * nS W) (P := P) (ρ := W 1) (q := ozq W) (le := if lonW W + W 1 < bypW W then bypW W else lonW W + W 1) hw hQ (fun c hV hc => by have := hlb c hV hc; split <;> omega) (2 * nS W) (d + 19) Y oz0 [] (256, [], fun _ => 0) (fun r M' => ∃ v, r = .inl v ∧ am_wp (d + 20) 102 110 [some (.inr (.inr 64)), some (.inr (.inr 6)), some (.inr (.inr 48))] (v.toList ++ []) M' Q) (by omega) (by simp) ⟨by rw [Y1 8 (by decide) (by decide)]; exact Z8, by rw [Y1 9 (by decide) (by decide)]; exact Z9, by rw [Y1 10 (by decide) (by decide)]; exact Z10, fun s hs => by rw [Y0 72 (by decide), k1 72 (by decide), j1 72 (by decide)]; exact Z72 s hs, fun s hs => by rw [Y0 66 (by decide)]; exact k2 s (by omega), fun t ht => by rw [Y0 65 (by decide), k1 65 (by decide), j2 t ht, oz0_B]; rfl⟩ oz0_V oz0_O (by rw [m0]; omega) Y11 ⟨Y12, fun hc => absurd hc (by decide)⟩ (Int.le_refl _) (by rw [m0]; decide) (fun j hj => absurd hj (Nat.not_lt_zero j)) (fun _ s _ => rfl) (fun hc => absurd hc (by decide)) (fun X x1 x2 x3 x4 _ _ => ⟨none, rfl, ?_⟩)
      · rw [m0] at goal
        exact am_wp_cc rfl rfl rfl (congrArg Prod.fst (s64 hw)) goal
      · have x4 : ozBe X (2 * nS W) (ozZ W P 256) := x4
        have X12 := x4.1
        refine am_wp_go rfl (by simp (disch := omega) only [s64 hw, am_addE, am_subE, am_mulE, am_laddE, am_lsubE, am_upO, am_upS, am_stS, am_stO, am_tnn, am_brl, am_brg, am_bre, am_brn, am_brG, am_brL, am_st1, am_no2, am_st2, am_clr, and_self, true_and, and_true, true_or, or_true, List.length_cons, List.length_nil] <;> omega) ?_
        try simp (disch := omega) only [s64 hw, am_addE, am_subE, am_mulE, am_laddE, am_lsubE, am_upO, am_upS, am_stS, am_stO, am_tnn, am_brl, am_brg, am_bre, am_brn, am_brG, am_brL, am_st1, am_no2, am_st2, am_clr]
        refine am_wp_cc rfl rfl rfl (congrArg Prod.fst (s64 hw)) (w_shFill (n := 2 * nS W) (P := P) (ρ := W 1) (q := ozq W) (B := ozZ W P 256) hw hQ hgd x3.1 x3.2.1 x3.2.2.2.1 x4 (fun V p F G' v1 v2 v3 => ⟨_, rfl, ?_⟩))
        have V12 : V 64 12 = (ozZ W P 256).1 := by rw [v1 64 (by omega)]; exact X12
        refine am_wp_go rfl (by simp (disch := omega) only [s64 hw, V12, am_addE, am_subE, am_mulE, am_laddE, am_lsubE, am_upO, am_upS, am_stS, am_stO, am_tnn, am_brl, am_brg, am_bre, am_brn, am_brG, am_brL, am_st1, am_no2, am_st2, am_clr, and_self, true_and, and_true, true_or, or_true, List.length_cons, List.length_nil] <;> omega) ?_
        try simp (disch := omega) only [s64 hw, V12, am_addE, am_subE, am_mulE, am_laddE, am_lsubE, am_upO, am_upS, am_stS, am_stO, am_tnn, am_brl, am_brg, am_bre, am_brn, am_brG, am_brL, am_st1, am_no2, am_st2, am_clr]
        refine am_wp_ret rfl rfl ?_
        exact h V p F G' (fun a ha => by rw [v1 a (by omega), x1 a (by omega), Y0 a (by omega), K0 a (by omega)]) v2 v3
    · refine am_wp_go rfl (by simp (disch := omega) only [s6 hw, o6, am_addE, am_subE, am_mulE, am_laddE, am_lsubE, am_upO, am_upS, am_stS, am_stO, am_tnn, am_brl, am_brg, am_bre, am_brn, am_brG, am_brL, am_st1, am_no2, am_st2, am_clr, and_self, true_and, and_true, true_or, or_true, List.length_cons, List.length_nil] <;> omega) ?_
      try simp (disch := omega) only [s6 hw, o6, am_addE, am_subE, am_mulE, am_laddE, am_lsubE, am_upO, am_upS, am_stS, am_stO, am_tnn, am_brl, am_brg, am_bre, am_brn, am_brG, am_brL, am_st1, am_no2, am_st2, am_clr]
      refine am_wp_ret rfl rfl ?_
      exact h0 (by omega)
theorem c_one (hw : wd sh R) (hk : kit I 6 W N) (hp : pl I 14 G) (hh : hsC I H) (hP : W 0 = (P : Int)) (h0 : ¬ (1 ≤ nS W ∧ nS W ≤ 4) → Q (am_yi (-1)) (m, sl, sh, I, R)) (h1 : 1 ≤ nS W → nS W ≤ 4 → ∀ J p F Gn, cqp I J → pl J 14 Gn → hsC J (hpush H G) → ozG (2 * nS W) P (ozq W) (fun i => (ozZ W P 256).2.1.getD i 0) (ozZ W P 256).2.2 (2 * nS W) p F Gn → Q (am_yi (ozZ W P 256).1) (m, sl, sh, J, R)) : am_wp (d + 21) 160 0 [some (.inr (.inr (4))), none] [] (m, sl, sh, I, R) Q := by
  refine am_wp_go rfl (by simp (disch := omega) only [s4 hw, r4_8 hw, r4_0 hw, r4_4 hw, s5 hw, r5_0 hw, am_addE, am_subE, am_mulE, am_laddE, am_lsubE, am_upO, am_upS, am_stS, am_stO, am_tnn, am_brl, am_brg, am_bre, am_brn, am_brG, am_brL, am_st1, am_no2, am_st2, am_clr, and_self, true_and, and_true, true_or, or_true, List.length_cons, List.length_nil] <;> omega) ?_
  try simp (disch := omega) only [s4 hw, r4_8 hw, r4_0 hw, r4_4 hw, s5 hw, r5_0 hw, am_addE, am_subE, am_mulE, am_laddE, am_lsubE, am_upO, am_upS, am_stS, am_stO, am_tnn, am_brl, am_brg, am_bre, am_brn, am_brG, am_brL, am_st1, am_no2, am_st2, am_clr]
  refine am_wp_cc rfl rfl rfl (congrArg Prod.fst (s64 hw)) (w_shMake (d := d) (P := P) hw hk hP (fun hc => ⟨_, rfl, ?_⟩) (fun a1 a2 J p F Gn j1 j2 j3 => ⟨_, rfl, ?_⟩))
  · have h := h0 hc
    refine am_wp_go rfl (by simp (disch := omega) only [am_addE, am_subE, am_mulE, am_laddE, am_lsubE, am_upO, am_upS, am_stS, am_stO, am_tnn, am_brl, am_brg, am_bre, am_brn, am_brG, am_brL, am_st1, am_no2, am_st2, am_clr, and_self, true_and, and_true, true_or, or_true, List.length_cons, List.length_nil] <;> omega) ?_
    try simp (disch := omega) only [am_addE, am_subE, am_mulE, am_laddE, am_lsubE, am_upO, am_upS, am_stS, am_stO, am_tnn, am_brl, am_brg, am_bre, am_brn, am_brG, am_brL, am_st1, am_no2, am_st2, am_clr]
    refine am_wp_br (fun b16 => ?_) (fun b16 => ?_)
    · refine am_wp_go rfl (by simp (disch := omega) only [am_addE, am_subE, am_mulE, am_laddE, am_lsubE, am_upO, am_upS, am_stS, am_stO, am_tnn, am_brl, am_brg, am_bre, am_brn, am_brG, am_brL, am_st1, am_no2, am_st2, am_clr, and_self, true_and, and_true, true_or, or_true, List.length_cons, List.length_nil] <;> omega) ?_
      try simp (disch := omega) only [am_addE, am_subE, am_mulE, am_laddE, am_lsubE, am_upO, am_upS, am_stS, am_stO, am_tnn, am_brl, am_brg, am_bre, am_brn, am_brG, am_brL, am_st1, am_no2, am_st2, am_clr]
      refine am_wp_ret rfl rfl ?_
      exact h
    · exact absurd trivial b16
  · have h := h1 a1 a2
    have gd := ozZ_gd (x := 256) hk.1 hP a2 (Int.le_refl _)
    have m0 : 0 ≤ ozM (2 * nS W) (ozq W) (ozZ W P 256).2.2 := fmax_0 _
    have g3 := gd.2.2.1
    refine am_wp_go rfl (by simp (disch := omega) only [am_addE, am_subE, am_mulE, am_laddE, am_lsubE, am_upO, am_upS, am_stS, am_stO, am_tnn, am_brl, am_brg, am_bre, am_brn, am_brG, am_brL, am_st1, am_no2, am_st2, am_clr, and_self, true_and, and_true, true_or, or_true, List.length_cons, List.length_nil] <;> omega) ?_
    try simp (disch := omega) only [am_addE, am_subE, am_mulE, am_laddE, am_lsubE, am_upO, am_upS, am_stS, am_stO, am_tnn, am_brl, am_brg, am_bre, am_brn, am_brG, am_brL, am_st1, am_no2, am_st2, am_clr]
    refine am_wp_br (fun b16 => ?_) (fun b16 => ?_)
    · exfalso; omega
    · refine am_wp_go rfl (by simp (disch := omega) only [am_addE, am_subE, am_mulE, am_laddE, am_lsubE, am_upO, am_upS, am_stS, am_stO, am_tnn, am_brl, am_brg, am_bre, am_brn, am_brG, am_brL, am_st1, am_no2, am_st2, am_clr, and_self, true_and, and_true, true_or, or_true, List.length_cons, List.length_nil] <;> omega) ?_
      try simp (disch := omega) only [am_addE, am_subE, am_mulE, am_laddE, am_lsubE, am_upO, am_upS, am_stS, am_stO, am_tnn, am_brl, am_brg, am_bre, am_brn, am_brG, am_brL, am_st1, am_no2, am_st2, am_clr]
      refine am_wp_cc rfl rfl rfl (congrArg Prod.fst (s4 hw)) (w_adopt hw (pl_fr hp (j1 14 (by omega)) (j1 15 (by omega))) j2 (hsC_fr hh (fun a ha => j1 a (by omega))) (fun K k1 k2 k3 => ⟨_, rfl, ?_⟩))
      refine am_wp_go rfl (by simp (disch := omega) only [am_addE, am_subE, am_mulE, am_laddE, am_lsubE, am_upO, am_upS, am_stS, am_stO, am_tnn, am_brl, am_brg, am_bre, am_brn, am_brG, am_brL, am_st1, am_no2, am_st2, am_clr, and_self, true_and, and_true, true_or, or_true, List.length_cons, List.length_nil] <;> omega) ?_
      try simp (disch := omega) only [am_addE, am_subE, am_mulE, am_laddE, am_lsubE, am_upO, am_upS, am_stS, am_stO, am_tnn, am_brl, am_brg, am_bre, am_brn, am_brG, am_brL, am_st1, am_no2, am_st2, am_clr]
      refine am_wp_ret rfl rfl ?_
      exact h K p F Gn (cqp_of (fun a ha => by rw [k1 a (by omega), j1 a (by omega)])) k2 k3 j3
end ON
