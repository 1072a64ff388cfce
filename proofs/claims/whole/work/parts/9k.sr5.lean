/-! A SENTENCE's text by the reference: its loops -/
def cRn (b : Nat → Nat) (n lim : Nat) (NM : Nat → List Nat) (q : Nat) (f : SNS → SNR) (k : Nat) (run : Nat → Nat → (Nat → Nat × Nat) → (Nat → Nat → Int) → (Nat → Nat → Nat) → (am_R → am_M → Prop) → Prop) : Prop :=
  ∀ (Q : am_R → am_M → Prop) (m sl : Nat) (sh : Nat → Nat × Nat) (I : Nat → Nat → Int) (R : Nat → Nat → Nat) (S : SNS), wd sh R → 161 ≤ m → rpR I b n lim S.1 → nmR I NM q → ndR I q S → I 124 60 = (k : Int) → S.2.2.length ≤ 2 * S.2.1 → S.2.1 ≤ 20 →
  (∀ e, f S = .inl e → ∀ m' sl' sh' J R', mo sh R sh' R' → m ≤ m' → m' + S.2.1 ≤ m + 21 → sl' + 8 * S.2.1 ≤ sl + 168 → frN I J → J 124 10 = (e.1 : Int) → J 124 11 = (e.2 : Int) → Q (am_yi 0) (m', sl', sh', J, R')) →
  (∀ S', f S = .inr S' → ∀ m' sl' sh' J R', mo sh R sh' R' → m ≤ m' → m' + S.2.1 ≤ m + S'.2.1 → sl' + 8 * S.2.1 ≤ sl + 8 * S'.2.1 → frN I J → J 124 10 = I 124 10 → J 124 60 = (k : Int) → J 124 61 = (S'.2.2.length : Int) - 1 → ndR J q S' → rpR J b n lim S'.1 → Q (am_yi 1) (m', sl', sh', J, R')) → run m sl sh I R Q
theorem nmR_N {I J : Nat → Nat → Int} {NM : Nat → List Nat} {q : Nat} (h : nmR I NM q) (g : frN I J) : nmR J NM q := by
  unfold nmR at h ⊢
  rw [g.1 126 (by decide) (by decide) (by decide), g.1 130 (by decide) (by decide) (by decide)]; exact h
section SR
variable {d : Nat} {b : Nat → Nat} {n lim : Nat} {NM : Nat → List Nat} {q k : Nat} {f : SNS → SNR}
set_option maxHeartbeats 4000000 in
theorem w_M_sAnd (hf : cRn b n lim NM q f k (fun m sl sh I R Q => am_wp (d + 5) 313 0 [some (.inr (.inr (124))), none, none, none] [] (m, sl, sh, I, R) Q)) (hK : ∀ S S', S.2.1 ≤ 20 → f S = .inr S' → sK S S') (hP : ∀ S S', f S = .inr S' → sP S S') : cRn b n lim NM q (sSeq f 15 (lxJ b n lim)) k (fun m sl sh I R Q => am_wp (d + 6) 311 0 [some (.inr (.inr (124))), none] [] (m, sl, sh, I, R) Q) := by
  intro Q m0 sl0 sh0 I R0 S hw hm0 hc hnm hs h60 hl ho h0 h1
  unfold sSeq at h0 h1
  refine am_wp_go rfl (by simp (disch := omega) only [am_addE, am_subE, am_mulE, am_laddE, am_lsubE, am_upO, am_upS, am_stS, am_stO, am_tnn, am_brl, am_brg, am_bre, am_brn, am_brG, am_brL, am_st1, am_no2, am_st2, am_clr, and_self, true_and, and_true, true_or, or_true, List.length_cons, List.length_nil] <;> omega) ?_
  try simp (disch := omega) only [am_addE, am_subE, am_mulE, am_laddE, am_lsubE, am_upO, am_upS, am_stS, am_stO, am_tnn, am_brl, am_brg, am_bre, am_brn, am_brG, am_brL, am_st1, am_no2, am_st2, am_clr]
  refine am_wp_cc rfl rfl rfl (congrArg Prod.fst (s124 hw)) (hf _ m0 sl0 sh0 I R0 S hw hm0 hc hnm hs h60 hl ho (fun e he m1 sl1 sh1 J R1 j0 j1 j2 j3 j4 j5 j6 => ⟨_, rfl, ?_⟩) (fun S' he m1 sl1 sh1 J R1 j0 j1 j2 j3 j4 j5 j6 j7 j8 j9 => ⟨_, rfl, ?_⟩))
  · rw [he] at h0
    refine am_wp_go rfl (by simp (disch := omega) only [am_addE, am_subE, am_mulE, am_laddE, am_lsubE, am_upO, am_upS, am_stS, am_stO, am_tnn, am_brl, am_brg, am_bre, am_brn, am_brG, am_brL, am_st1, am_no2, am_st2, am_clr, and_self, true_and, and_true, true_or, or_true, List.length_cons, List.length_nil] <;> omega) ?_
    refine am_wp_pc (pc' := 7) rfl ?_
    refine am_wp_go rfl (by simp (disch := omega) only [am_addE, am_subE, am_mulE, am_laddE, am_lsubE, am_upO, am_upS, am_stS, am_stO, am_tnn, am_brl, am_brg, am_bre, am_brn, am_brG, am_brL, am_st1, am_no2, am_st2, am_clr, and_self, true_and, and_true, true_or, or_true, List.length_cons, List.length_nil] <;> omega) ?_
    try simp (disch := omega) only [am_addE, am_subE, am_mulE, am_laddE, am_lsubE, am_upO, am_upS, am_stS, am_stO, am_tnn, am_brl, am_brg, am_bre, am_brn, am_brG, am_brL, am_st1, am_no2, am_st2, am_clr]
    refine am_wp_ret rfl rfl ?_
    exact h0 e rfl m1 sl1 sh1 J R1 j0 j1 j2 j3 j4 j5 j6
  · rw [he] at h0 h1
    have k1 := hK _ _ ho he
    have p1 := hP _ _ he
    have hw1 := mo_wd j0 hw
    have LP : ∀ i : Nat, i ≤ 20 → ∀ (Z : SNS) (t : Int) (m sl : Nat) (sh : Nat → Nat × Nat) (X : Nat → Nat → Int) (R : Nat → Nat → Nat), wd sh R → mo sh0 R0 sh R → m0 ≤ m → m + S.2.1 ≤ m0 + Z.2.1 → sl + 8 * S.2.1 ≤ sl0 + 8 * Z.2.1 → frN I X → X 124 10 = I 124 10 → X 124 60 = (k : Int) → t = (Z.2.2.length : Int) - 1 → ndR X q Z → rpR X b n lim Z.1 → sK S Z → sP S Z → i + 1 ≤ Z.2.1 → sLp f 15 (lxJ b n lim) (20 - i) Z = sLp f 15 (lxJ b n lim) 20 S' → am_wp (d + 6) 311 14 [some (.inr (.inr (124))), some (.inl (t))] [] (m, sl, sh, X, R) Q := by
      refine am_lp 20 (fun i hi ih Z t m sl sh X R hw f0 f1 f2 f3 f4 f5 f6 f7 f8 f9 f10 f11 f12 f13 => ?_)
      unfold sK at f10
      refine am_wp_go rfl (by simp (disch := omega) only [s124 hw, am_b0, am_addE, am_subE, am_mulE, am_laddE, am_lsubE, am_upO, am_upS, am_stS, am_stO, am_tnn, am_brl, am_brg, am_bre, am_brn, am_brG, am_brL, am_st1, am_no2, am_st2, am_clr, and_self, true_and, and_true, true_or, or_true, List.length_cons, List.length_nil] <;> omega) ?_
      try simp (disch := omega) only [s124 hw, am_b0, am_addE, am_subE, am_mulE, am_laddE, am_lsubE, am_upO, am_upS, am_stS, am_stO, am_tnn, am_brl, am_brg, am_bre, am_brn, am_brG, am_brL, am_st1, am_no2, am_st2, am_clr]
      refine am_wp_cc rfl rfl rfl (congrArg Prod.fst (s124 hw)) (w_M_isWord' (k := 11) (y := 15) rfl rfl hw (by decide) f9 ⟨_, rfl, ?_⟩)
      refine am_wp_go rfl (by simp (disch := omega) only [s124 hw, am_b0, am_addE, am_subE, am_mulE, am_laddE, am_lsubE, am_upO, am_upS, am_stS, am_stO, am_tnn, am_brl, am_brg, am_bre, am_brn, am_brG, am_brL, am_st1, am_no2, am_st2, am_clr, and_self, true_and, and_true, true_or, or_true, List.length_cons, List.length_nil] <;> omega) ?_
      try simp (disch := omega) only [s124 hw, am_b0, am_addE, am_subE, am_mulE, am_laddE, am_lsubE, am_upO, am_upS, am_stS, am_stO, am_tnn, am_brl, am_brg, am_bre, am_brn, am_brG, am_brL, am_st1, am_no2, am_st2, am_clr]
      refine am_wp_br (fun b20 => ?_) (fun b20 => ?_)
      · rw [sLp_n (Or.inr b20)] at f13
        refine am_wp_go rfl (by simp (disch := omega) only [s124 hw, am_b0, am_addE, am_subE, am_mulE, am_laddE, am_lsubE, am_upO, am_upS, am_stS, am_stO, am_tnn, am_brl, am_brg, am_bre, am_brn, am_brG, am_brL, am_st1, am_no2, am_st2, am_clr, and_self, true_and, and_true, true_or, or_true, List.length_cons, List.length_nil] <;> omega) ?_
        try simp (disch := omega) only [s124 hw, am_b0, am_addE, am_subE, am_mulE, am_laddE, am_lsubE, am_upO, am_upS, am_stS, am_stO, am_tnn, am_brl, am_brg, am_bre, am_brn, am_brG, am_brL, am_st1, am_no2, am_st2, am_clr]
        refine am_wp_ret rfl rfl ?_
        refine h1 Z f13.symm m sl sh _ R f0 f1 f2 f3 (frN_up f4 (by decide)) ?_ ?_ ?_ (ndR_u (S := Z) f8 (by decide)) (rpR_up f9 (Or.inr ⟨rfl, by decide⟩))
        · rw [am_upS, am_stO (by decide)]; exact f5
        · rw [am_upS, am_stO (by decide)]; exact f6
        · rw [am_upS, am_stS rfl]; exact f7
      · have b20 : owC (lxJ b n lim Z.1) = 15 := Classical.not_not.mp b20
        rw [show 20 - i = (20 - (i + 1)) + 1 by omega, sLp_y b20] at f13
        have ih := ih (by omega)
        have t2 := ow_le (t := lxJ b n lim Z.1) (by omega)
        refine am_wp_go rfl (by simp (disch := omega) only [am_b0, am_addE, am_subE, am_mulE, am_laddE, am_lsubE, am_upO, am_upS, am_stS, am_stO, am_tnn, am_brl, am_brg, am_bre, am_brn, am_brG, am_brL, am_st1, am_no2, am_st2, am_clr, and_self, true_and, and_true, true_or, or_true, List.length_cons, List.length_nil] <;> omega) ?_
        try simp (disch := omega) only [am_b0, am_addE, am_subE, am_mulE, am_laddE, am_lsubE, am_upO, am_upS, am_stS, am_stO, am_tnn, am_brl, am_brg, am_bre, am_brn, am_brG, am_brL, am_st1, am_no2, am_st2, am_clr]
        refine am_wp_cc rfl rfl rfl (congrArg Prod.fst (s124 hw)) (w_M_nx hw f9 (by omega) (fun Y y0 y1 => ⟨_, rfl, ?_⟩))
        have fY := frN_Q (frQ_6 y0)
        refine am_wp_go rfl (by simp (disch := omega) only [am_b0, am_addE, am_subE, am_mulE, am_laddE, am_lsubE, am_upO, am_upS, am_stS, am_stO, am_tnn, am_brl, am_brg, am_bre, am_brn, am_brG, am_brL, am_st1, am_no2, am_st2, am_clr, and_self, true_and, and_true, true_or, or_true, List.length_cons, List.length_nil] <;> omega) ?_
        try simp (disch := omega) only [am_b0, am_addE, am_subE, am_mulE, am_laddE, am_lsubE, am_upO, am_upS, am_stS, am_stO, am_tnn, am_brl, am_brg, am_bre, am_brn, am_brG, am_brL, am_st1, am_no2, am_st2, am_clr]
        refine am_wp_cc rfl rfl rfl (congrArg Prod.fst (s124 hw)) (hf _ m sl sh Y R (Z.1 + 1, Z.2) hw (by omega) y1 (nmR_N hnm (frN_tr f4 fY)) (ndR_Q f8 (frQ_6 y0)) (by rw [(frQ_6 y0).2 60 (by decide)]; exact f6) (by dsimp only; omega) f10.2.2 (fun e he m2 sl2 sh2 A R2 a0 a1 a2 a3 a4 a5 a6 => ⟨_, rfl, ?_⟩) (fun S2 he m2 sl2 sh2 A R2 a0 a1 a2 a3 a4 a5 a6 a7 a8 a9 => ⟨_, rfl, ?_⟩))
        · rw [he] at f13
          dsimp only at a2 a3
          refine am_wp_go rfl (by simp (disch := omega) only [am_b0, am_addE, am_subE, am_mulE, am_laddE, am_lsubE, am_upO, am_upS, am_stS, am_stO, am_tnn, am_brl, am_brg, am_bre, am_brn, am_brG, am_brL, am_st1, am_no2, am_st2, am_clr, and_self, true_and, and_true, true_or, or_true, List.length_cons, List.length_nil] <;> omega) ?_
          refine am_wp_pc (pc' := 34) rfl ?_
          refine am_wp_go rfl (by simp (disch := omega) only [am_b0, am_addE, am_subE, am_mulE, am_laddE, am_lsubE, am_upO, am_upS, am_stS, am_stO, am_tnn, am_brl, am_brg, am_bre, am_brn, am_brG, am_brL, am_st1, am_no2, am_st2, am_clr, and_self, true_and, and_true, true_or, or_true, List.length_cons, List.length_nil] <;> omega) ?_
          try simp (disch := omega) only [am_b0, am_addE, am_subE, am_mulE, am_laddE, am_lsubE, am_upO, am_upS, am_stS, am_stO, am_tnn, am_brl, am_brg, am_bre, am_brn, am_brG, am_brL, am_st1, am_no2, am_st2, am_clr]
          refine am_wp_ret rfl rfl ?_
          exact h0 e f13.symm m2 sl2 sh2 A R2 (mo_tr f0 a0) (by omega) (by omega) (by omega) (frN_tr (frN_tr f4 fY) a4) a5 a6
        · rw [he] at f13
          dsimp only at a2 a3
          have k2 := hK (Z.1 + 1, Z.2) S2 f10.2.2 he
          unfold sK at k2
          dsimp only at k2
          have p2 : sP Z S2 := hP (Z.1 + 1, Z.2) S2 he
          have hw2 := mo_wd a0 hw
          have hw := hw2
          refine am_wp_go rfl (by simp (disch := omega) only [am_b0, am_addE, am_subE, am_mulE, am_laddE, am_lsubE, am_upO, am_upS, am_stS, am_stO, am_tnn, am_brl, am_brg, am_bre, am_brn, am_brG, am_brL, am_st1, am_no2, am_st2, am_clr, and_self, true_and, and_true, true_or, or_true, List.length_cons, List.length_nil] <;> omega) ?_
          refine am_wp_pc (pc' := 36) rfl ?_
          refine am_wp_go rfl (by simp (disch := omega) only [s124 hw, a7, am_b0, am_addE, am_subE, am_mulE, am_laddE, am_lsubE, am_upO, am_upS, am_stS, am_stO, am_tnn, am_brl, am_brg, am_bre, am_brn, am_brG, am_brL, am_st1, am_no2, am_st2, am_clr, and_self, true_and, and_true, true_or, or_true, List.length_cons, List.length_nil] <;> omega) ?_
          try simp (disch := omega) only [s124 hw, a7, am_b0, am_addE, am_subE, am_mulE, am_laddE, am_lsubE, am_upO, am_upS, am_stS, am_stO, am_tnn, am_brl, am_brg, am_bre, am_brn, am_brG, am_brL, am_st1, am_no2, am_st2, am_clr]
          refine am_wp_cc rfl rfl rfl (congrArg Prod.fst (s124 hw)) (w_M_saysOne (k := S2.2.2.length) hw a8.1 (by omega) (fun B b0 => ⟨_, rfl, ?_⟩))
          refine am_wp_go rfl (by simp (disch := omega) only [s124 hw, a7, am_b0, am_addE, am_subE, am_mulE, am_laddE, am_lsubE, am_upO, am_upS, am_stS, am_stO, am_tnn, am_brl, am_brg, am_bre, am_brn, am_brG, am_brL, am_st1, am_no2, am_st2, am_clr, and_self, true_and, and_true, true_or, or_true, List.length_cons, List.length_nil] <;> omega) ?_
          try simp (disch := omega) only [s124 hw, a7, am_b0, am_addE, am_subE, am_mulE, am_laddE, am_lsubE, am_upO, am_upS, am_stS, am_stO, am_tnn, am_brl, am_brg, am_bre, am_brn, am_brG, am_brL, am_st1, am_no2, am_st2, am_clr]
          obtain ⟨v0, v1, v2, v3⟩ := frD_v b0
          have lz := f11.2.1
          have l2 := p2.2.1
          have nd : ndR B q (S2.1, S2.2.1, S2.2.2 ++ [(15, 0, 0)]) := nd_say a8 b0 (Or.inr (Or.inl ⟨by rw [st_last.1, v0]; decide, S2.2.2.length - 1, Z.2.2.length - 1, sx_stk (stf S.2.2) S.2.2.length, by rw [stk_pre (Nat.le_refl _), p2.2.2, f11.2.2], by rw [v1]; omega, by rw [v2]; omega⟩))
          refine am_wp_ls (ih (S2.1, S2.2.1, S2.2.2 ++ [(15, 0, 0)]) (S2.2.2.length : Int) m2 sl2 sh2 B R2 hw (mo_tr f0 a0) (by omega) (by dsimp only; omega) (by dsimp only; omega) (frN_tr (frN_tr (frN_tr f4 fY) a4) (frD_N b0)) ?_ ?_ ?_ nd (frD_rp b0 a9) ?_ (sP_two (S2 := (S2.1, S2.2.1, S2.2.2 ++ [(15, 0, 0)])) f11 p2 rfl (by decide)) (by dsimp only; omega) f13) rfl
          · rw [b0.2.1 10 (by decide), a5, fr6_10 y0, f5]
          · rw [b0.2.1 60 (by decide), a6]
          · dsimp only
            rw [List.length_append, List.length_singleton]
            omega
          · unfold sK
            dsimp only
            rw [List.length_append, List.length_singleton]
            omega
    have hw := hw1
    have k1' := k1
    unfold sK at k1'
    refine am_wp_go rfl (by simp (disch := omega) only [am_addE, am_subE, am_mulE, am_laddE, am_lsubE, am_upO, am_upS, am_stS, am_stO, am_tnn, am_brl, am_brg, am_bre, am_brn, am_brG, am_brL, am_st1, am_no2, am_st2, am_clr, and_self, true_and, and_true, true_or, or_true, List.length_cons, List.length_nil] <;> omega) ?_
    refine am_wp_pc (pc' := 9) rfl ?_
    refine am_wp_go rfl (by simp (disch := omega) only [s124 hw, j7, am_addE, am_subE, am_mulE, am_laddE, am_lsubE, am_upO, am_upS, am_stS, am_stO, am_tnn, am_brl, am_brg, am_bre, am_brn, am_brG, am_brL, am_st1, am_no2, am_st2, am_clr, and_self, true_and, and_true, true_or, or_true, List.length_cons, List.length_nil] <;> omega) ?_
    try simp (disch := omega) only [s124 hw, j7, am_addE, am_subE, am_mulE, am_laddE, am_lsubE, am_upO, am_upS, am_stS, am_stO, am_tnn, am_brl, am_brg, am_bre, am_brn, am_brG, am_brL, am_st1, am_no2, am_st2, am_clr]
    exact am_wp_ls (LP 0 (by decide) S' _ m1 sl1 sh1 J R1 hw j0 j1 j2 j3 j4 j5 j6 rfl j8 j9 k1 p1 (by omega) rfl) rfl
set_option maxHeartbeats 4000000 in
theorem w_M_sOr (hf : cRn b n lim NM q f k (fun m sl sh I R Q => am_wp (d + 6) 311 0 [some (.inr (.inr (124))), none] [] (m, sl, sh, I, R) Q)) (hK : ∀ S S', S.2.1 ≤ 20 → f S = .inr S' → sK S S') (hP : ∀ S S', f S = .inr S' → sP S S') : cRn b n lim NM q (sSeq f 16 (lxJ b n lim)) k (fun m sl sh I R Q => am_wp (d + 7) 310 0 [some (.inr (.inr (124))), none] [] (m, sl, sh, I, R) Q) := by
  intro Q m0 sl0 sh0 I R0 S hw hm0 hc hnm hs h60 hl ho h0 h1
  unfold sSeq at h0 h1
  refine am_wp_go rfl (by simp (disch := omega) only [am_addE, am_subE, am_mulE, am_laddE, am_lsubE, am_upO, am_upS, am_stS, am_stO, am_tnn, am_brl, am_brg, am_bre, am_brn, am_brG, am_brL, am_st1, am_no2, am_st2, am_clr, and_self, true_and, and_true, true_or, or_true, List.length_cons, List.length_nil] <;> omega) ?_
  try simp (disch := omega) only [am_addE, am_subE, am_mulE, am_laddE, am_lsubE, am_upO, am_upS, am_stS, am_stO, am_tnn, am_brl, am_brg, am_bre, am_brn, am_brG, am_brL, am_st1, am_no2, am_st2, am_clr]
  refine am_wp_cc rfl rfl rfl (congrArg Prod.fst (s124 hw)) (hf _ m0 sl0 sh0 I R0 S hw hm0 hc hnm hs h60 hl ho (fun e he m1 sl1 sh1 J R1 j0 j1 j2 j3 j4 j5 j6 => ⟨_, rfl, ?_⟩) (fun S' he m1 sl1 sh1 J R1 j0 j1 j2 j3 j4 j5 j6 j7 j8 j9 => ⟨_, rfl, ?_⟩))
  · rw [he] at h0
    refine am_wp_go rfl (by simp (disch := omega) only [am_addE, am_subE, am_mulE, am_laddE, am_lsubE, am_upO, am_upS, am_stS, am_stO, am_tnn, am_brl, am_brg, am_bre, am_brn, am_brG, am_brL, am_st1, am_no2, am_st2, am_clr, and_self, true_and, and_true, true_or, or_true, List.length_cons, List.length_nil] <;> omega) ?_
    refine am_wp_pc (pc' := 7) rfl ?_
    refine am_wp_go rfl (by simp (disch := omega) only [am_addE, am_subE, am_mulE, am_laddE, am_lsubE, am_upO, am_upS, am_stS, am_stO, am_tnn, am_brl, am_brg, am_bre, am_brn, am_brG, am_brL, am_st1, am_no2, am_st2, am_clr, and_self, true_and, and_true, true_or, or_true, List.length_cons, List.length_nil] <;> omega) ?_
    try simp (disch := omega) only [am_addE, am_subE, am_mulE, am_laddE, am_lsubE, am_upO, am_upS, am_stS, am_stO, am_tnn, am_brl, am_brg, am_bre, am_brn, am_brG, am_brL, am_st1, am_no2, am_st2, am_clr]
    refine am_wp_ret rfl rfl ?_
    exact h0 e rfl m1 sl1 sh1 J R1 j0 j1 j2 j3 j4 j5 j6
  · rw [he] at h0 h1
    have k1 := hK _ _ ho he
    have p1 := hP _ _ he
    have hw1 := mo_wd j0 hw
    have LP : ∀ i : Nat, i ≤ 20 → ∀ (Z : SNS) (t : Int) (m sl : Nat) (sh : Nat → Nat × Nat) (X : Nat → Nat → Int) (R : Nat → Nat → Nat), wd sh R → mo sh0 R0 sh R → m0 ≤ m → m + S.2.1 ≤ m0 + Z.2.1 → sl + 8 * S.2.1 ≤ sl0 + 8 * Z.2.1 → frN I X → X 124 10 = I 124 10 → X 124 60 = (k : Int) → t = (Z.2.2.length : Int) - 1 → ndR X q Z → rpR X b n lim Z.1 → sK S Z → sP S Z → i + 1 ≤ Z.2.1 → sLp f 16 (lxJ b n lim) (20 - i) Z = sLp f 16 (lxJ b n lim) 20 S' → am_wp (d + 7) 310 14 [some (.inr (.inr (124))), some (.inl (t))] [] (m, sl, sh, X, R) Q := by
      refine am_lp 20 (fun i hi ih Z t m sl sh X R hw f0 f1 f2 f3 f4 f5 f6 f7 f8 f9 f10 f11 f12 f13 => ?_)
      unfold sK at f10
      refine am_wp_go rfl (by simp (disch := omega) only [s124 hw, am_b0, am_addE, am_subE, am_mulE, am_laddE, am_lsubE, am_upO, am_upS, am_stS, am_stO, am_tnn, am_brl, am_brg, am_bre, am_brn, am_brG, am_brL, am_st1, am_no2, am_st2, am_clr, and_self, true_and, and_true, true_or, or_true, List.length_cons, List.length_nil] <;> omega) ?_
      try simp (disch := omega) only [s124 hw, am_b0, am_addE, am_subE, am_mulE, am_laddE, am_lsubE, am_upO, am_upS, am_stS, am_stO, am_tnn, am_brl, am_brg, am_bre, am_brn, am_brG, am_brL, am_st1, am_no2, am_st2, am_clr]
      refine am_wp_cc rfl rfl rfl (congrArg Prod.fst (s124 hw)) (w_M_isWord' (k := 10) (y := 16) rfl rfl hw (by decide) f9 ⟨_, rfl, ?_⟩)
      refine am_wp_go rfl (by simp (disch := omega) only [s124 hw, am_b0, am_addE, am_subE, am_mulE, am_laddE, am_lsubE, am_upO, am_upS, am_stS, am_stO, am_tnn, am_brl, am_brg, am_bre, am_brn, am_brG, am_brL, am_st1, am_no2, am_st2, am_clr, and_self, true_and, and_true, true_or, or_true, List.length_cons, List.length_nil] <;> omega) ?_
      try simp (disch := omega) only [s124 hw, am_b0, am_addE, am_subE, am_mulE, am_laddE, am_lsubE, am_upO, am_upS, am_stS, am_stO, am_tnn, am_brl, am_brg, am_bre, am_brn, am_brG, am_brL, am_st1, am_no2, am_st2, am_clr]
      refine am_wp_br (fun b20 => ?_) (fun b20 => ?_)
      · rw [sLp_n (Or.inr b20)] at f13
        refine am_wp_go rfl (by simp (disch := omega) only [s124 hw, am_b0, am_addE, am_subE, am_mulE, am_laddE, am_lsubE, am_upO, am_upS, am_stS, am_stO, am_tnn, am_brl, am_brg, am_bre, am_brn, am_brG, am_brL, am_st1, am_no2, am_st2, am_clr, and_self, true_and, and_true, true_or, or_true, List.length_cons, List.length_nil] <;> omega) ?_
        try simp (disch := omega) only [s124 hw, am_b0, am_addE, am_subE, am_mulE, am_laddE, am_lsubE, am_upO, am_upS, am_stS, am_stO, am_tnn, am_brl, am_brg, am_bre, am_brn, am_brG, am_brL, am_st1, am_no2, am_st2, am_clr]
        refine am_wp_ret rfl rfl ?_
        refine h1 Z f13.symm m sl sh _ R f0 f1 f2 f3 (frN_up f4 (by decide)) ?_ ?_ ?_ (ndR_u (S := Z) f8 (by decide)) (rpR_up f9 (Or.inr ⟨rfl, by decide⟩))
        · rw [am_upS, am_stO (by decide)]; exact f5
        · rw [am_upS, am_stO (by decide)]; exact f6
        · rw [am_upS, am_stS rfl]; exact f7
      · have b20 : owC (lxJ b n lim Z.1) = 16 := Classical.not_not.mp b20
        rw [show 20 - i = (20 - (i + 1)) + 1 by omega, sLp_y b20] at f13
        have ih := ih (by omega)
        have t2 := ow_le (t := lxJ b n lim Z.1) (by omega)
        refine am_wp_go rfl (by simp (disch := omega) only [am_b0, am_addE, am_subE, am_mulE, am_laddE, am_lsubE, am_upO, am_upS, am_stS, am_stO, am_tnn, am_brl, am_brg, am_bre, am_brn, am_brG, am_brL, am_st1, am_no2, am_st2, am_clr, and_self, true_and, and_true, true_or, or_true, List.length_cons, List.length_nil] <;> omega) ?_
        try simp (disch := omega) only [am_b0, am_addE, am_subE, am_mulE, am_laddE, am_lsubE, am_upO, am_upS, am_stS, am_stO, am_tnn, am_brl, am_brg, am_bre, am_brn, am_brG, am_brL, am_st1, am_no2, am_st2, am_clr]
        refine am_wp_cc rfl rfl rfl (congrArg Prod.fst (s124 hw)) (w_M_nx hw f9 (by omega) (fun Y y0 y1 => ⟨_, rfl, ?_⟩))
        have fY := frN_Q (frQ_6 y0)
        refine am_wp_go rfl (by simp (disch := omega) only [am_b0, am_addE, am_subE, am_mulE, am_laddE, am_lsubE, am_upO, am_upS, am_stS, am_stO, am_tnn, am_brl, am_brg, am_bre, am_brn, am_brG, am_brL, am_st1, am_no2, am_st2, am_clr, and_self, true_and, and_true, true_or, or_true, List.length_cons, List.length_nil] <;> omega) ?_
        try simp (disch := omega) only [am_b0, am_addE, am_subE, am_mulE, am_laddE, am_lsubE, am_upO, am_upS, am_stS, am_stO, am_tnn, am_brl, am_brg, am_bre, am_brn, am_brG, am_brL, am_st1, am_no2, am_st2, am_clr]
        refine am_wp_cc rfl rfl rfl (congrArg Prod.fst (s124 hw)) (hf _ m sl sh Y R (Z.1 + 1, Z.2) hw (by omega) y1 (nmR_N hnm (frN_tr f4 fY)) (ndR_Q f8 (frQ_6 y0)) (by rw [(frQ_6 y0).2 60 (by decide)]; exact f6) (by dsimp only; omega) f10.2.2 (fun e he m2 sl2 sh2 A R2 a0 a1 a2 a3 a4 a5 a6 => ⟨_, rfl, ?_⟩) (fun S2 he m2 sl2 sh2 A R2 a0 a1 a2 a3 a4 a5 a6 a7 a8 a9 => ⟨_, rfl, ?_⟩))
        · rw [he] at f13
          dsimp only at a2 a3
          refine am_wp_go rfl (by simp (disch := omega) only [am_b0, am_addE, am_subE, am_mulE, am_laddE, am_lsubE, am_upO, am_upS, am_stS, am_stO, am_tnn, am_brl, am_brg, am_bre, am_brn, am_brG, am_brL, am_st1, am_no2, am_st2, am_clr, and_self, true_and, and_true, true_or, or_true, List.length_cons, List.length_nil] <;> omega) ?_
          refine am_wp_pc (pc' := 34) rfl ?_
          refine am_wp_go rfl (by simp (disch := omega) only [am_b0, am_addE, am_subE, am_mulE, am_laddE, am_lsubE, am_upO, am_upS, am_stS, am_stO, am_tnn, am_brl, am_brg, am_bre, am_brn, am_brG, am_brL, am_st1, am_no2, am_st2, am_clr, and_self, true_and, and_true, true_or, or_true, List.length_cons, List.length_nil] <;> omega) ?_
          try simp (disch := omega) only [am_b0, am_addE, am_subE, am_mulE, am_laddE, am_lsubE, am_upO, am_upS, am_stS, am_stO, am_tnn, am_brl, am_brg, am_bre, am_brn, am_brG, am_brL, am_st1, am_no2, am_st2, am_clr]
          refine am_wp_ret rfl rfl ?_
          exact h0 e f13.symm m2 sl2 sh2 A R2 (mo_tr f0 a0) (by omega) (by omega) (by omega) (frN_tr (frN_tr f4 fY) a4) a5 a6
        · rw [he] at f13
          dsimp only at a2 a3
          have k2 := hK (Z.1 + 1, Z.2) S2 f10.2.2 he
          unfold sK at k2
          dsimp only at k2
          have p2 : sP Z S2 := hP (Z.1 + 1, Z.2) S2 he
          have hw2 := mo_wd a0 hw
          have hw := hw2
          refine am_wp_go rfl (by simp (disch := omega) only [am_b0, am_addE, am_subE, am_mulE, am_laddE, am_lsubE, am_upO, am_upS, am_stS, am_stO, am_tnn, am_brl, am_brg, am_bre, am_brn, am_brG, am_brL, am_st1, am_no2, am_st2, am_clr, and_self, true_and, and_true, true_or, or_true, List.length_cons, List.length_nil] <;> omega) ?_
          refine am_wp_pc (pc' := 36) rfl ?_
          refine am_wp_go rfl (by simp (disch := omega) only [s124 hw, a7, am_b0, am_addE, am_subE, am_mulE, am_laddE, am_lsubE, am_upO, am_upS, am_stS, am_stO, am_tnn, am_brl, am_brg, am_bre, am_brn, am_brG, am_brL, am_st1, am_no2, am_st2, am_clr, and_self, true_and, and_true, true_or, or_true, List.length_cons, List.length_nil] <;> omega) ?_
          try simp (disch := omega) only [s124 hw, a7, am_b0, am_addE, am_subE, am_mulE, am_laddE, am_lsubE, am_upO, am_upS, am_stS, am_stO, am_tnn, am_brl, am_brg, am_bre, am_brn, am_brG, am_brL, am_st1, am_no2, am_st2, am_clr]
          refine am_wp_cc rfl rfl rfl (congrArg Prod.fst (s124 hw)) (w_M_saysOne (k := S2.2.2.length) hw a8.1 (by omega) (fun B b0 => ⟨_, rfl, ?_⟩))
          refine am_wp_go rfl (by simp (disch := omega) only [s124 hw, a7, am_b0, am_addE, am_subE, am_mulE, am_laddE, am_lsubE, am_upO, am_upS, am_stS, am_stO, am_tnn, am_brl, am_brg, am_bre, am_brn, am_brG, am_brL, am_st1, am_no2, am_st2, am_clr, and_self, true_and, and_true, true_or, or_true, List.length_cons, List.length_nil] <;> omega) ?_
          try simp (disch := omega) only [s124 hw, a7, am_b0, am_addE, am_subE, am_mulE, am_laddE, am_lsubE, am_upO, am_upS, am_stS, am_stO, am_tnn, am_brl, am_brg, am_bre, am_brn, am_brG, am_brL, am_st1, am_no2, am_st2, am_clr]
          obtain ⟨v0, v1, v2, v3⟩ := frD_v b0
          have lz := f11.2.1
          have l2 := p2.2.1
          have nd : ndR B q (S2.1, S2.2.1, S2.2.2 ++ [(16, 0, 0)]) := nd_say a8 b0 (Or.inr (Or.inl ⟨by rw [st_last.1, v0]; decide, S2.2.2.length - 1, Z.2.2.length - 1, sx_stk (stf S.2.2) S.2.2.length, by rw [stk_pre (Nat.le_refl _), p2.2.2, f11.2.2], by rw [v1]; omega, by rw [v2]; omega⟩))
          refine am_wp_ls (ih (S2.1, S2.2.1, S2.2.2 ++ [(16, 0, 0)]) (S2.2.2.length : Int) m2 sl2 sh2 B R2 hw (mo_tr f0 a0) (by omega) (by dsimp only; omega) (by dsimp only; omega) (frN_tr (frN_tr (frN_tr f4 fY) a4) (frD_N b0)) ?_ ?_ ?_ nd (frD_rp b0 a9) ?_ (sP_two (S2 := (S2.1, S2.2.1, S2.2.2 ++ [(16, 0, 0)])) f11 p2 rfl (by decide)) (by dsimp only; omega) f13) rfl
          · rw [b0.2.1 10 (by decide), a5, fr6_10 y0, f5]
          · rw [b0.2.1 60 (by decide), a6]
          · dsimp only
            rw [List.length_append, List.length_singleton]
            omega
          · unfold sK
            dsimp only
            rw [List.length_append, List.length_singleton]
            omega
    have hw := hw1
    have k1' := k1
    unfold sK at k1'
    refine am_wp_go rfl (by simp (disch := omega) only [am_addE, am_subE, am_mulE, am_laddE, am_lsubE, am_upO, am_upS, am_stS, am_stO, am_tnn, am_brl, am_brg, am_bre, am_brn, am_brG, am_brL, am_st1, am_no2, am_st2, am_clr, and_self, true_and, and_true, true_or, or_true, List.length_cons, List.length_nil] <;> omega) ?_
    refine am_wp_pc (pc' := 9) rfl ?_
    refine am_wp_go rfl (by simp (disch := omega) only [s124 hw, j7, am_addE, am_subE, am_mulE, am_laddE, am_lsubE, am_upO, am_upS, am_stS, am_stO, am_tnn, am_brl, am_brg, am_bre, am_brn, am_brG, am_brL, am_st1, am_no2, am_st2, am_clr, and_self, true_and, and_true, true_or, or_true, List.length_cons, List.length_nil] <;> omega) ?_
    try simp (disch := omega) only [s124 hw, j7, am_addE, am_subE, am_mulE, am_laddE, am_lsubE, am_upO, am_upS, am_stS, am_stO, am_tnn, am_brl, am_brg, am_bre, am_brn, am_brG, am_brL, am_st1, am_no2, am_st2, am_clr]
    exact am_wp_ls (LP 0 (by decide) S' _ m1 sl1 sh1 J R1 hw j0 j1 j2 j3 j4 j5 j6 rfl j8 j9 k1 p1 (by omega) rfl) rfl
end SR
