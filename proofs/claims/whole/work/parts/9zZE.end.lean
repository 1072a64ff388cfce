/-! THE LAW -/
section END
variable {L : Nat} {Q : am_R → am_M → Prop} {X : Nat → Int}
set_option maxRecDepth 20000 in
theorem L_loop (hL : L ≤ 3072) (hX : ∀ k, -2147483648 ≤ X k ∧ X k ≤ 2147483647) (hQ : ∀ m sl sh I R, m ≤ 161 + 21 * 512 → sl ≤ lawS + 168 * 512 → Q (am_yi 1) (m, sl, sh, I, R)) : ∀ t, t ≤ L / 6 → ∀ (m sl : Nat) (sh : Nat → Nat × Nat) (I : Nat → Nat → Int) (R : Nat → Nat → Nat) (z5 z6 z7 : Option am_V), wd sh R → sh 1 = (32, L) → sh 2 = (32, 36) → 161 ≤ m → m ≤ 161 + 21 * t → sl ≤ lawS + 168 * t → cp X I → am_wp 1000 334 23 [some (.inr (.inr 1)), some (.inr (.inr 4)), some (.inr (.inr 124)), some (.inr (.inr 160)), some (.inl ((6 * t : Nat) : Int)), z5, z6, z7] [] (m, sl, sh, I, R) Q := by
  refine am_lp (L / 6) (fun t ht ih0 m sl sh I R z5 z6 z7 hw s1 s2 hm hm2 hsl hc => ?_)
  refine am_wp_go rfl (by simp (disch := omega) only [s1, am_addE, am_subE, am_mulE, am_laddE, am_lsubE, am_upO, am_upS, am_stS, am_stO, am_tnn, am_brl, am_brg, am_bre, am_brn, am_brG, am_brL, am_st1, am_no2, am_st2, am_clr, and_self, true_and, and_true, true_or, or_true, List.length_cons, List.length_nil] <;> omega) ?_
  try simp (disch := omega) only [s1, am_addE, am_subE, am_mulE, am_laddE, am_lsubE, am_upO, am_upS, am_stS, am_stO, am_tnn, am_brl, am_brg, am_bre, am_brn, am_brG, am_brL, am_st1, am_no2, am_st2, am_clr]
  refine am_wp_br (fun h1 => ?_) (fun h1 => ?_)
  · refine am_wp_go rfl trivial ?_
    refine am_wp_ret rfl rfl ?_
    exact hQ _ _ _ _ _ (by omega) (by omega)
  · have ih : LH X L (6 * t) t Q := fun m' sl' sh' J R' y5 y6 y7 w1 w2 w3 w4 w5 w6 w7 => by
      have := ih0 (by omega) m' sl' sh' J R' y5 y6 y7 w1 w2 w3 w4 w5 w6 w7
      rw [show 6 * (t + 1) = 6 * t + 6 by omega] at this
      exact this
    clear ih0
    have hx : 6 * t + 6 ≤ L := by omega
    clear h1 ht
    generalize 6 * t = x at ih hx ⊢
    refine am_wp_go rfl (by simp (disch := omega) only [s1, am_addE, am_subE, am_mulE, am_laddE, am_lsubE, am_upO, am_upS, am_stS, am_stO, am_tnn, am_brl, am_brg, am_bre, am_brn, am_brG, am_brL, am_st1, am_no2, am_st2, am_clr, and_self, true_and, and_true, true_or, or_true, List.length_cons, List.length_nil] <;> omega) ?_
    refine am_wp_tsw rfl (fun _ => ?_) ⟨fun _ => L_feed hw s1 s2 hm hm2 hsl hc (by omega) hL hX ih, fun _ => L_end hw s1 s2 hm hm2 hsl hc (by omega) hL hX ih, fun _ => L_kitchen hw s1 s2 hm hm2 hsl hc (by omega) hL hX ih, fun _ => L_fault hw s1 s2 hm hm2 hsl hc (by omega) hL hX ih, fun _ => L_slice hw s1 s2 hm hm2 hsl hc (by omega) hL hX ih, fun _ => L_guest hw s1 s2 hm hm2 hsl hc (by omega) hL hX ih, fun _ => L_sort hw s1 s2 hm hm2 hsl hc (by omega) hL hX ih, fun _ => L_plan hw s1 s2 hm hm2 hsl hc (by omega) hL hX ih, fun _ => L_judge hw s1 s2 hm hm2 hsl hc (by omega) hL hX ih, fun _ => L_why hw s1 s2 hm hm2 hsl hc (by omega) hL hX ih, fun _ => L_go hw s1 s2 hm hm2 hsl hc (by omega) hL hX ih, fun _ => L_left hw s1 s2 hm hm2 hsl hc (by omega) hL hX ih, fun _ => L_ends hw s1 s2 hm hm2 hsl hc (by omega) hL hX ih, fun _ => L_done hw s1 s2 hm hm2 hsl hc (by omega) hL hX ih, fun _ => L_on hw s1 s2 hm hm2 hsl hc (by omega) hL hX ih, fun _ => L_write hw s1 s2 hm hm2 hsl hc (by omega) hL hX ih, fun _ => L_byteAt hw s1 s2 hm hm2 hsl hc (by omega) hL hX ih, fun _ => L_several hw s1 s2 hm hm2 hsl hc (by omega) hL hX ih, fun _ => L_one hw s1 s2 hm hm2 hsl hc (by omega) hL hX ih, fun _ => L_masters hw s1 s2 hm hm2 hsl hc (by omega) hL hX ih, fun _ => L_cook hw s1 s2 hm hm2 hsl hc (by omega) hL hX ih, fun _ => L_best hw s1 s2 hm hm2 hsl hc (by omega) hL hX ih, fun _ => L_bound hw s1 s2 hm hm2 hsl hc (by omega) hL hX ih, fun _ => L_add hw s1 s2 hm hm2 hsl hc (by omega) hL hX ih, fun _ => L_drop hw s1 s2 hm hm2 hsl hc (by omega) hL hX ih, fun _ => L_later hw s1 s2 hm hm2 hsl hc (by omega) hL hX ih, fun _ => L_early hw s1 s2 hm hm2 hsl hc (by omega) hL hX ih, fun _ => L_undo hw s1 s2 hm hm2 hsl hc (by omega) hL hX ih, fun _ => L_idle hw s1 s2 hm hm2 hsl hc (by omega) hL hX ih, fun _ => L_forgotten hw s1 s2 hm hm2 hsl hc (by omega) hL hX ih, fun _ => L_fewest hw s1 s2 hm hm2 hsl hc (by omega) hL hX ih, fun _ => L_alike hw s1 s2 hm hm2 hsl hc (by omega) hL hX ih, fun _ => L_alikeAt hw s1 s2 hm hm2 hsl hc (by omega) hL hX ih, fun _ => L_served hw s1 s2 hm hm2 hsl hc (by omega) hL hX ih, fun _ => L_servedAt hw s1 s2 hm hm2 hsl hc (by omega) hL hX ih, fun _ => L_mean hw s1 s2 hm hm2 hsl hc (by omega) hL hX ih, fun _ => L_hotel hw s1 s2 hm hm2 hsl hc (by omega) hL hX ih, fun _ => L_pans hw s1 s2 hm hm2 hsl hc (by omega) hL hX ih, fun _ => L_brown hw s1 s2 hm hm2 hsl hc (by omega) hL hX ih, fun _ => L_morning hw s1 s2 hm hm2 hsl hc (by omega) hL hX ih, fun _ => L_mornings hw s1 s2 hm hm2 hsl hc (by omega) hL hX ih, fun _ => L_sentence hw s1 s2 hm hm2 hsl hc (by omega) hL hX ih, fun _ => L_said hw s1 s2 hm hm2 hsl hc (by omega) hL hX ih, fun _ => L_image hw s1 s2 hm hm2 hsl hc (by omega) hL hX ih, fun _ => L_restore hw s1 s2 hm hm2 hsl hc (by omega) hL hX ih, fun _ => L_count hw s1 s2 hm hm2 hsl hc (by omega) hL hX ih, trivial⟩
    exact L_back ih hx hL hw s1 s2 hm (by omega) (by omega) hc
theorem law_ok : am_LAW := by
  intro L xs hL
  have hX : ∀ k, -2147483648 ≤ am_I0 L xs 1 k ∧ am_I0 L xs 1 k ≤ 2147483647 := fun k => by
    have : am_I0 L xs 1 k = if k < L then (xs k).toInt else 0 := rfl
    rw [this]
    split
    · have h1 := am_r32_t (xs k)
      exact ⟨h1.1, by have := h1.2; omega⟩
    · decide
  have key : am_wp 1000 334 0 (am_pad 8 (am_ent [.inr (.inr 1)])) [] (am_M0 L xs) (fun r M => r = am_yi 1 ∧ M.1 ≤ 601028 ∧ M.2.1 ≤ 7293034) := by
    have a0 : AT (am_M0 L xs) [] 4 0 (am_sh0 L) (am_I0 L xs) (fun _ _ => 0) := rfl
    show am_wp 1000 334 0 [some (.inr (.inr 1)), none, none, none, none, none, none, none] [] (4, 0, am_sh0 L, am_I0 L xs, fun _ _ => 0) _
    refine am_wp_go rfl ⟨trivial, trivial⟩ ?_
    refine am_wp_cc rfl rfl rfl (show 4 ≤ 4 by decide) (n_Pan (p := 4) (m := 5) (at_l (e := [(0, 11, 18, 4)]) a0 rfl) rfl (by decide) (by decide) rfl (fun m1 sl1 sh1 I1 R1 a1 e1 => ⟨_, rfl, ?_⟩))
    have e1 : m1 = 124 := e1
    subst e1
    refine am_wp_go rfl (by decide) ?_
    refine am_wp_cc rfl rfl rfl (show 4 ≤ 124 by decide) (n_Model (p := 124) (m := 125) (at_l (e := [(0, 12, 62, 124)]) a1 rfl) am_sh1S (by decide) (by decide) (fun m2 sl2 sh2 I2 R2 a2 e2 f2 g2 => ⟨_, rfl, ?_⟩))
    have e2 : m2 = 160 := e2
    subst e2
    refine am_wp_go rfl (by decide) ?_
    have a3 := at_l (e := [(0, 35, 1, 160)]) a2 (m2 := 161) (sl2 := sl2 + 1) (sh2 := am_sh1 sh2 160 (35, 1)) (I2 := am_zero I2 160 0) (R2 := am_zero R2 160 0) rfl
    obtain ⟨-, b2, b3, b4, b5, b6⟩ := start_ok (L := L) (xs := xs) (by unfold bigLog; simp only [← List.append_assoc]; exact a3)
    exact L_loop hL hX (fun m sl sh I R h1 h2 => ⟨rfl, show m ≤ 601028 by omega, show sl ≤ 7293034 by unfold lawS at h2; omega⟩) 0 (Nat.zero_le _) _ _ _ _ _ _ _ _ b3 b4 b5 (by omega) (by omega) (by unfold lawS; omega) b6
  obtain ⟨f, r, M', h1, h2, h3, h4⟩ := key
  subst h2
  exact ⟨f, M', h1, h3, h4⟩
end END
