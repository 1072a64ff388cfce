/-! MORNINGS: the run, on both sides -/
theorem am_dr {y : Int} {k : Nat} (hk : 0 < k ∧ k ≤ 100) : am_rem (am_ushr y 8) (k : Int) = (((am_ushr y 8).toNat % k : Nat) : Int) := by
  have b := am_ushr8 y
  rw [am_remE (by omega), Int.natCast_emod, show (((am_ushr y 8).toNat : Nat) : Int) = am_ushr y 8 by omega]
theorem am_dr2 {y : Int} : am_rem (am_ushr y 8) 2 = (((am_ushr y 8).toNat % 2 : Nat) : Int) := am_dr (k := 2) (by decide)
def mnT (n : Nat) (T : Int × (Nat → Nat) × Nat) : Int × (Nat → Nat) × Nat := (mnX T.1 T.2.1 (mnS n T.1 T.2.1 T.2.2), am_set T.2.1 (mnU T.1 T.2.1 (mnS n T.1 T.2.1 T.2.2)) (T.2.1 (mnU T.1 T.2.1 (mnS n T.1 T.2.1 T.2.2)) - 1), T.2.2 ||| 2 ^ mnS n T.1 T.2.1 T.2.2)
theorem mnP_s {n p : Nat} {T : Int × (Nat → Nat) × Nat} (h : 0 < ax_ct (cdr T.2.1 T.2.2) n) : mnP n (p + 1) T = mnP n p (mnT n T) := by
  conv => lhs; unfold mnP
  rw [if_neg (by omega)]
  rfl
theorem mnP_0 {n p : Nat} {T : Int × (Nat → Nat) × Nat} (h : ax_ct (cdr T.2.1 T.2.2) n = 0) : mnP n p T = T := by
  cases p with
  | zero => rfl
  | succ p => unfold mnP; rw [if_pos h]
theorem mnT_pre {n : Nat} {T : Int × (Nat → Nat) × Nat} (h : 0 < ax_ct (cdr T.2.1 T.2.2) n) : preS (mnT n T).2.1 (2 * n) + 1 = preS T.2.1 (2 * n) := by
  obtain ⟨h1, h2, h3⟩ := mn_draw (x := T.1) h
  have h4 : 0 < T.2.1 (2 * mnS n T.1 T.2.1 T.2.2) + T.2.1 (2 * mnS n T.1 T.2.1 T.2.2 + 1) := by
    unfold cdr at h3
    rw [Bool.and_eq_true, decide_eq_true_iff] at h3
    exact h3.2
  have h5 := mn_side (x := T.1) h4
  have h6 := preS_upd (h := (mnT n T).2.1) (k := T.2.1) (n := 2 * n) (i := mnU T.1 T.2.1 (mnS n T.1 T.2.1 T.2.2)) (by omega) (fun j hj => am_stO hj)
  have h7 : (mnT n T).2.1 (mnU T.1 T.2.1 (mnS n T.1 T.2.1 T.2.2)) = T.2.1 (mnU T.1 T.2.1 (mnS n T.1 T.2.1 T.2.2)) - 1 := am_stS rfl
  omega
theorem mnP_le {n : Nat} : ∀ (p : Nat) (T : Int × (Nat → Nat) × Nat), preS (mnP n p T).2.1 (2 * n) ≤ preS T.2.1 (2 * n)
  | 0, T => Nat.le_refl _
  | p + 1, T => by
    by_cases h : 0 < ax_ct (cdr T.2.1 T.2.2) n
    · rw [mnP_s h]
      have h1 := mnP_le (n := n) p (mnT n T)
      have h2 := mnT_pre h
      omega
    · rw [mnP_0 (by omega)]; exact Nat.le_refl _
theorem ax_ct_pos {c : Nat → Bool} {n s : Nat} (hs : s < n) (h : c s = true) : 0 < ax_ct c n := by
  induction n with
  | zero => omega
  | succ n ih =>
    unfold ax_ct
    by_cases hsn : s = n
    · subst hsn; rw [h, cond_true]; omega
    · have := ih (by omega)
      cases c n
      · rw [cond_false]; exact this
      · rw [cond_true]; omega
theorem preS_ex {l : Nat → Nat} : ∀ {n : Nat}, 0 < preS l n → ∃ i, i < n ∧ 0 < l i
  | 0, h => absurd h (Nat.lt_irrefl 0)
  | n + 1, h => by
    unfold preS at h
    by_cases hl : 0 < l n
    · exact ⟨n, by omega, hl⟩
    · obtain ⟨i, h1, h2⟩ := preS_ex (l := l) (n := n) (by omega)
      exact ⟨i, by omega, h2⟩
theorem mn_open {l : Nat → Nat} {n : Nat} (h : 0 < preS l (2 * n)) : 0 < ax_ct (cdr l 0) n := by
  obtain ⟨i, h1, h2⟩ := preS_ex h
  refine ax_ct_pos (s := i / 2) (by omega) ?_
  unfold cdr
  rw [Nat.zero_testBit, Bool.not_false, Bool.true_and, decide_eq_true_iff]
  rcases (show i = 2 * (i / 2) ∨ i = 2 * (i / 2) + 1 by omega) with e | e
  · rw [← e]; omega
  · rw [← e]; omega
theorem mn_min {n p : Nat} {x : Int} {l : Nat → Nat} (h : 0 < preS l (2 * n)) (hp : 1 ≤ p) : preS (mnP n p (x, l, 0)).2.1 (2 * n) + 1 ≤ preS l (2 * n) := by
  obtain ⟨q, rfl⟩ : ∃ q, p = q + 1 := ⟨p - 1, by omega⟩
  have h0 : 0 < ax_ct (cdr (x, l, 0).2.1 (x, l, (0 : Nat)).2.2) n := mn_open h
  rw [mnP_s h0]
  have h1 := mnP_le (n := n) q (mnT n (x, l, 0))
  have h2 : preS (mnT n (x, l, 0)).2.1 (2 * n) + 1 = preS l (2 * n) := mnT_pre h0
  omega
def mornV (W : Nat → Int) (x : Int) : Nat := mnR (nS W) (W 0).toNat 1000 0 (x, ndW W)
theorem nd_all {W : Nat → Int} (hk : wk W) : preS (ndW W) (2 * nS W) ≤ 320 := by
  have a2 := preS_fsum hk (nS W) (Nat.le_refl _)
  have a3 : am_fsum (fun s => W (8 + 3 * s) + W (8 + 3 * s + 1)) (nS W) = totW W 0 + totW W 1 := allW_eq
  have a4 := totW_le hk (u := 0) (by decide)
  have a5 := totW_le hk (u := 1) (by decide)
  omega
theorem nd_tot {W : Nat → Int} (hk : wk W) : (preS (ndW W) (2 * nS W) : Int) = totW W 0 + totW W 1 := by
  rw [preS_fsum hk (nS W) (Nat.le_refl _)]
  exact allW_eq
section MORN
variable {m sl : Nat} {sh : Nat → Nat × Nat} {I : Nat → Nat → Int} {R : Nat → Nat → Nat} {Q : am_R → am_M → Prop} {d : Nat} {W N : Nat → Int}
set_option maxHeartbeats 4000000 in
theorem w_drawnMinutes {x : Int} (hw : wd sh R) (hk : kit I 6 W N) (h : ∀ J, (∀ a, ¬ (73 ≤ a ∧ a ≤ 79) → J a = I a) → Q (am_yi (mornV W x)) (m, sl, sh, J, R)) : am_wp (d + 2) 52 0 [some (.inr (.inr (73))), some (.inr (.inr (6))), some (.inl (x)), none, none, none, none, none, none] [] (m, sl, sh, I, R) Q := by
  have n1 := wk_nS hk.1
  obtain ⟨w1, w2, -⟩ := hk.1.1
  refine am_wp_go rfl (by simp (disch := omega) only [am_addE, am_subE, am_mulE, am_laddE, am_lsubE, am_upO, am_upS, am_stS, am_stO, am_tnn, am_brl, am_brg, am_bre, am_brn, am_brG, am_brL, am_st1, am_no2, am_st2, am_clr, and_self, true_and, and_true, true_or, or_true, List.length_cons, List.length_nil] <;> omega) ?_
  try simp (disch := omega) only [am_addE, am_subE, am_mulE, am_laddE, am_lsubE, am_upO, am_upS, am_stS, am_stO, am_tnn, am_brl, am_brg, am_bre, am_brn, am_brG, am_brL, am_st1, am_no2, am_st2, am_clr]
  refine am_wp_cc rfl rfl rfl (congrArg Prod.fst (s73 hw)) (w_mbegin hw hk (fun J i1 i2 i3 i4 i5 i6 i7 => ⟨_, rfl, ?_⟩))
  refine am_wp_go rfl (by simp (disch := omega) only [am_addE, am_subE, am_mulE, am_laddE, am_lsubE, am_upO, am_upS, am_stS, am_stO, am_tnn, am_brl, am_brg, am_bre, am_brn, am_brG, am_brL, am_st1, am_no2, am_st2, am_clr, and_self, true_and, and_true, true_or, or_true, List.length_cons, List.length_nil] <;> omega) ?_
  have L : ∀ t, t ≤ 1000 → ∀ (z5 z6 z7 z8 : Option am_V) (K : Nat → Nat → Int) (A : Int × (Nat → Nat)), (∀ a, ¬ (73 ≤ a ∧ a ≤ 79) → K a = I a) → lfC K A.2 (nS W) → K 73 7 = (preS A.2 (2 * nS W) : Int) → t + preS A.2 (2 * nS W) ≤ 320 → mnR (nS W) (W 0).toNat (1000 - t) t A = mornV W x → am_wp (d + 2) 52 10 [some (.inr (.inr (73))), some (.inr (.inr (6))), some (.inl (x)), some (.inl (A.1)), some (.inl ((t : Int))), z5, z6, z7, z8] [] (m, sl, sh, K, R) Q := by
    refine am_lp 1000 (fun t ht ih z5 z6 z7 z8 K A k1 k2 k3 k4 k5 => ?_)
    refine am_wp_go rfl (by simp (disch := omega) only [s73 hw, k3, am_addE, am_subE, am_mulE, am_laddE, am_lsubE, am_upO, am_upS, am_stS, am_stO, am_tnn, am_brl, am_brg, am_bre, am_brn, am_brG, am_brL, am_st1, am_no2, am_st2, am_clr, and_self, true_and, and_true, true_or, or_true, List.length_cons, List.length_nil] <;> omega) ?_
    try simp (disch := omega) only [s73 hw, k3, am_addE, am_subE, am_mulE, am_laddE, am_lsubE, am_upO, am_upS, am_stS, am_stO, am_tnn, am_brl, am_brg, am_bre, am_brn, am_brG, am_brL, am_st1, am_no2, am_st2, am_clr]
    refine am_wp_br (fun b14 => ?_) (fun b14 => ?_)
    · rw [show 1000 - t = (999 - t) + 1 by omega] at k5
      unfold mnR at k5
      rw [if_pos (by omega)] at k5
      refine am_wp_go rfl (by simp (disch := omega) only [s73 hw, k3, am_addE, am_subE, am_mulE, am_laddE, am_lsubE, am_upO, am_upS, am_stS, am_stO, am_tnn, am_brl, am_brg, am_bre, am_brn, am_brG, am_brL, am_st1, am_no2, am_st2, am_clr, and_self, true_and, and_true, true_or, or_true, List.length_cons, List.length_nil] <;> omega) ?_
      try simp (disch := omega) only [s73 hw, k3, am_addE, am_subE, am_mulE, am_laddE, am_lsubE, am_upO, am_upS, am_stS, am_stO, am_tnn, am_brl, am_brg, am_bre, am_brn, am_brG, am_brL, am_st1, am_no2, am_st2, am_clr]
      refine am_wp_ret rfl rfl ?_
      rw [k5]
      exact h K k1
    · refine am_wp_go rfl (by simp (disch := omega) only [s73 hw, k3, am_addE, am_subE, am_mulE, am_laddE, am_lsubE, am_upO, am_upS, am_stS, am_stO, am_tnn, am_brl, am_brg, am_bre, am_brn, am_brG, am_brL, am_st1, am_no2, am_st2, am_clr, and_self, true_and, and_true, true_or, or_true, List.length_cons, List.length_nil] <;> omega) ?_
      try simp (disch := omega) only [s73 hw, k3, am_addE, am_subE, am_mulE, am_laddE, am_lsubE, am_upO, am_upS, am_stS, am_stO, am_tnn, am_brl, am_brg, am_bre, am_brn, am_brG, am_brL, am_st1, am_no2, am_st2, am_clr]
      refine am_wp_br (fun b22 => ?_) (fun b22 => ?_)
      · omega
      · rw [show 1000 - t = (1000 - (t + 1)) + 1 by omega] at k5
        unfold mnR at k5
        rw [if_neg (by omega)] at k5
        have k6 := mn_min (x := A.1) (p := (W 0).toNat) (show 0 < preS A.2 (2 * nS W) by omega) (by omega)
        have ih := ih (by omega)
        clear h
        refine am_wp_go rfl (by simp (disch := omega) only [s73 hw, k3, am_addE, am_subE, am_mulE, am_laddE, am_lsubE, am_upO, am_upS, am_stS, am_stO, am_tnn, am_brl, am_brg, am_bre, am_brn, am_brG, am_brL, am_st1, am_no2, am_st2, am_clr, and_self, true_and, and_true, true_or, or_true, List.length_cons, List.length_nil] <;> omega) ?_
        try simp (disch := omega) only [s73 hw, k3, am_addE, am_subE, am_mulE, am_laddE, am_lsubE, am_upO, am_upS, am_stS, am_stO, am_tnn, am_brl, am_brg, am_bre, am_brn, am_brG, am_brL, am_st1, am_no2, am_st2, am_clr]
        have v1 : ∀ a, ¬ (73 ≤ a ∧ a ≤ 79) → am_up K 73 6 0 a = I a := fun a ha => by rw [am_upO (by omega), k1 a ha]
        have v2 : lfC (am_up K 73 6 0) A.2 (nS W) := fun i hi => by rw [am_upO (by decide)]; exact k2 i hi
        have v3 : am_up K 73 6 0 73 6 = ((0 : Nat) : Int) := by rw [am_upS, am_stS rfl]; rfl
        have v4 : am_up K 73 6 0 73 7 = (preS A.2 (2 * nS W) : Int) := by rw [am_upS, am_stO (by decide), k3]
        generalize am_up K 73 6 0 = V at v1 v2 v3 v4 ⊢
        have hkv : kit V 6 W N := kit_fr hk (fun a h1 h2 => v1 a (by omega))
        refine am_wp_cc rfl rfl rfl (congrArg Prod.fst (s73 hw)) (w_slicesToDraw (l := A.2) (on := 0) hw hkv v2 v3 (by decide) ⟨_, rfl, ?_⟩)
        refine am_wp_go rfl (by simp (disch := omega) only [s73 hw, k3, am_addE, am_subE, am_mulE, am_laddE, am_lsubE, am_upO, am_upS, am_stS, am_stO, am_tnn, am_brl, am_brg, am_bre, am_brn, am_brG, am_brL, am_st1, am_no2, am_st2, am_clr, and_self, true_and, and_true, true_or, or_true, List.length_cons, List.length_nil] <;> omega) ?_
        have M : ∀ p, p ≤ (W 0).toNat → ∀ (z7 z8 : Option am_V) (V : Nat → Nat → Int) (T : Int × (Nat → Nat) × Nat), (∀ a, ¬ (73 ≤ a ∧ a ≤ 79) → V a = I a) → lfC V T.2.1 (nS W) → V 73 6 = (T.2.2 : Int) → T.2.2 < 256 → V 73 7 = (preS T.2.1 (2 * nS W) : Int) → preS T.2.1 (2 * nS W) ≤ 320 → mnP (nS W) ((W 0).toNat - p) T = mnP (nS W) (W 0).toNat (A.1, A.2, 0) → am_wp (d + 2) 52 40 [some (.inr (.inr (73))), some (.inr (.inr (6))), some (.inl (x)), some (.inl (T.1)), some (.inl ((t : Int))), some (.inl ((ax_ct (cdr T.2.1 T.2.2) (nS W) : Int))), some (.inl ((p : Int))), z7, z8] [] (m, sl, sh, V, R) Q := by
          refine am_lp (W 0).toNat (fun p hp ih2 z7 z8 V T v1 v2 v3 v4 v5 v6 v7 => ?_)
          have hkv : kit V 6 W N := kit_fr hk (fun a h1 h2 => v1 a (by omega))
          have o1 : V 6 1 = W 0 := hkv.2.1.1
          have ctl := ax_ct_le (cdr T.2.1 T.2.2) (nS W)
          refine am_wp_go rfl (by simp (disch := omega) only [s6 hw, s73 hw, r73_0 hw, s74 hw, o1, am_addE, am_subE, am_mulE, am_laddE, am_lsubE, am_upO, am_upS, am_stS, am_stO, am_tnn, am_brl, am_brg, am_bre, am_brn, am_brG, am_brL, am_st1, am_no2, am_st2, am_clr, and_self, true_and, and_true, true_or, or_true, List.length_cons, List.length_nil] <;> omega) ?_
          try simp (disch := omega) only [s6 hw, s73 hw, r73_0 hw, s74 hw, o1, am_addE, am_subE, am_mulE, am_laddE, am_lsubE, am_upO, am_upS, am_stS, am_stO, am_tnn, am_brl, am_brg, am_bre, am_brn, am_brG, am_brL, am_st1, am_no2, am_st2, am_clr]
          refine am_wp_br (fun b46 => ?_) (fun b46 => ?_)
          · rw [show (W 0).toNat - p = 0 by omega] at v7
            have v7 : T = mnP (nS W) (W 0).toNat (A.1, A.2, 0) := v7
            rw [← v7] at k5 k6
            refine am_wp_go rfl (by simp (disch := omega) only [s6 hw, s73 hw, r73_0 hw, s74 hw, o1, am_addE, am_subE, am_mulE, am_laddE, am_lsubE, am_upO, am_upS, am_stS, am_stO, am_tnn, am_brl, am_brg, am_bre, am_brn, am_brG, am_brL, am_st1, am_no2, am_st2, am_clr, and_self, true_and, and_true, true_or, or_true, List.length_cons, List.length_nil] <;> omega) ?_
            try simp (disch := omega) only [s6 hw, s73 hw, r73_0 hw, s74 hw, o1, am_addE, am_subE, am_mulE, am_laddE, am_lsubE, am_upO, am_upS, am_stS, am_stO, am_tnn, am_brl, am_brg, am_bre, am_brn, am_brG, am_brL, am_st1, am_no2, am_st2, am_clr]
            exact am_wp_ls (ih _ _ _ _ V (T.1, T.2.1) v1 v2 v5 (by dsimp only at k6 ⊢; omega) k5) rfl
          · refine am_wp_go rfl (by simp (disch := omega) only [s6 hw, s73 hw, r73_0 hw, s74 hw, o1, am_addE, am_subE, am_mulE, am_laddE, am_lsubE, am_upO, am_upS, am_stS, am_stO, am_tnn, am_brl, am_brg, am_bre, am_brn, am_brG, am_brL, am_st1, am_no2, am_st2, am_clr, and_self, true_and, and_true, true_or, or_true, List.length_cons, List.length_nil] <;> omega) ?_
            try simp (disch := omega) only [s6 hw, s73 hw, r73_0 hw, s74 hw, o1, am_addE, am_subE, am_mulE, am_laddE, am_lsubE, am_upO, am_upS, am_stS, am_stO, am_tnn, am_brl, am_brg, am_bre, am_brn, am_brG, am_brL, am_st1, am_no2, am_st2, am_clr]
            refine am_wp_br (fun b51 => ?_) (fun b51 => ?_)
            · rw [mnP_0 (by omega)] at v7
              rw [← v7] at k5 k6
              refine am_wp_go rfl (by simp (disch := omega) only [s6 hw, s73 hw, r73_0 hw, s74 hw, o1, am_addE, am_subE, am_mulE, am_laddE, am_lsubE, am_upO, am_upS, am_stS, am_stO, am_tnn, am_brl, am_brg, am_bre, am_brn, am_brG, am_brL, am_st1, am_no2, am_st2, am_clr, and_self, true_and, and_true, true_or, or_true, List.length_cons, List.length_nil] <;> omega) ?_
              try simp (disch := omega) only [s6 hw, s73 hw, r73_0 hw, s74 hw, o1, am_addE, am_subE, am_mulE, am_laddE, am_lsubE, am_upO, am_upS, am_stS, am_stO, am_tnn, am_brl, am_brg, am_bre, am_brn, am_brG, am_brL, am_st1, am_no2, am_st2, am_clr]
              exact am_wp_ls (ih _ _ _ _ V (T.1, T.2.1) v1 v2 v5 (by dsimp only at k6 ⊢; omega) k5) rfl
            · have hpos : 0 < ax_ct (cdr T.2.1 T.2.2) (nS W) := by omega
              rw [show (W 0).toNat - p = ((W 0).toNat - (p + 1)) + 1 by omega, mnP_s hpos] at v7
              obtain ⟨d1, d2, d3⟩ := mn_draw (x := T.1) hpos
              have d4 : 0 < T.2.1 (2 * mnS (nS W) T.1 T.2.1 T.2.2) + T.2.1 (2 * mnS (nS W) T.1 T.2.1 T.2.2 + 1) := by
                unfold cdr at d3
                rw [Bool.and_eq_true, decide_eq_true_iff] at d3
                exact d3.2
              have d5 := mn_side (x := T.1) d4
              have d6 := mnT_pre hpos
              have d7 := mn_less (x := T.1) hpos (mnT (nS W) T).2.1 (fun i h1 h2 => am_stO (by omega))
              have ih2 := ih2 (by omega)
              refine am_wp_go rfl (by simp (disch := omega) only [s6 hw, s73 hw, r73_0 hw, s74 hw, o1, am_addE, am_subE, am_mulE, am_laddE, am_lsubE, am_upO, am_upS, am_stS, am_stO, am_tnn, am_brl, am_brg, am_bre, am_brn, am_brG, am_brL, am_st1, am_no2, am_st2, am_clr, and_self, true_and, and_true, true_or, or_true, List.length_cons, List.length_nil] <;> omega) ?_
              try simp (disch := omega) only [s6 hw, s73 hw, r73_0 hw, s74 hw, o1, am_addE, am_subE, am_mulE, am_laddE, am_lsubE, am_upO, am_upS, am_stS, am_stO, am_tnn, am_brl, am_brg, am_bre, am_brn, am_brG, am_brL, am_st1, am_no2, am_st2, am_clr]
              refine am_wp_cc rfl rfl rfl (trivial) (w_nextDraw ⟨_, rfl, ?_⟩)
              refine am_wp_go rfl (by simp (disch := omega) only [s6 hw, s73 hw, r73_0 hw, s74 hw, o1, am_dr, am_addE, am_subE, am_mulE, am_laddE, am_lsubE, am_upO, am_upS, am_stS, am_stO, am_tnn, am_brl, am_brg, am_bre, am_brn, am_brG, am_brL, am_st1, am_no2, am_st2, am_clr, and_self, true_and, and_true, true_or, or_true, List.length_cons, List.length_nil] <;> omega) ?_
              try simp (disch := omega) only [s6 hw, s73 hw, r73_0 hw, s74 hw, o1, am_dr, am_addE, am_subE, am_mulE, am_laddE, am_lsubE, am_upO, am_upS, am_stS, am_stO, am_tnn, am_brl, am_brg, am_bre, am_brn, am_brG, am_brL, am_st1, am_no2, am_st2, am_clr]
              refine am_wp_cc rfl rfl rfl (congrArg Prod.fst (s73 hw)) (w_drawnSlice (l := T.2.1) (on := T.2.2) hw hkv v2 v3 v4 ⟨_, rfl, ?_⟩)
              rw [d1, if_neg (by omega)]
              have e3 : mnT (nS W) T = (mnX T.1 T.2.1 (mnS (nS W) T.1 T.2.1 T.2.2), am_set T.2.1 (mnU T.1 T.2.1 (mnS (nS W) T.1 T.2.1 T.2.2)) (T.2.1 (mnU T.1 T.2.1 (mnS (nS W) T.1 T.2.1 T.2.2)) - 1), T.2.2 ||| 2 ^ mnS (nS W) T.1 T.2.1 T.2.2) := rfl
              have eU : mnU T.1 T.2.1 (mnS (nS W) T.1 T.2.1 T.2.2) = if 0 < T.2.1 (2 * (mnS (nS W) T.1 T.2.1 T.2.2)) ∧ 0 < T.2.1 (2 * (mnS (nS W) T.1 T.2.1 T.2.2) + 1) then 2 * (mnS (nS W) T.1 T.2.1 T.2.2) + (am_ushr (nxt (nxt T.1)) 8).toNat % 2 else if 0 < T.2.1 (2 * (mnS (nS W) T.1 T.2.1 T.2.2)) then 2 * (mnS (nS W) T.1 T.2.1 T.2.2) else 2 * (mnS (nS W) T.1 T.2.1 T.2.2) + 1 := rfl
              have eX : mnX T.1 T.2.1 (mnS (nS W) T.1 T.2.1 T.2.2) = if 0 < T.2.1 (2 * (mnS (nS W) T.1 T.2.1 T.2.2)) ∧ 0 < T.2.1 (2 * (mnS (nS W) T.1 T.2.1 T.2.2) + 1) then nxt (nxt T.1) else nxt T.1 := rfl
              generalize mnX T.1 T.2.1 (mnS (nS W) T.1 T.2.1 T.2.2) = x2 at e3 eX
              generalize mnU T.1 T.2.1 (mnS (nS W) T.1 T.2.1 T.2.2) = u at d5 e3 eU
              generalize mnS (nS W) T.1 T.2.1 T.2.2 = s at *
              generalize mnT (nS W) T = T2 at *
              subst e3
              have p8 := ax_p8 (s := s) (by omega)
              have l1 := v2 (2 * s) (by omega)
              have l2 := v2 (2 * s + 1) (by omega)
              have l3 := v2 u (by omega)
              have FIN : ∀ (y : Int) (k : Nat), y = x2 → k = u → am_wp (d + 2) 52 142 [some (.inr (.inr (73))), some (.inr (.inr (6))), some (.inl (x)), some (.inl (y)), some (.inl ((t : Int))), some (.inl ((ax_ct (cdr T.2.1 T.2.2) (nS W) : Int))), some (.inl ((p : Int))), some (.inl ((s : Int))), some (.inl ((k : Int)))] [] (m, sl, sh, V, R) Q := by
                intro y k hy hku
                subst hy
                subst hku
                refine am_wp_go rfl (by simp (disch := omega) only [s73 hw, r73_0 hw, s74 hw, v3, v5, l3.1, am_shl1, am_orN, am_tnA, am_tnM, Int.reduceToNat, am_addE, am_subE, am_mulE, am_laddE, am_lsubE, am_upO, am_upS, am_stS, am_stO, am_tnn, am_brl, am_brg, am_bre, am_brn, am_brG, am_brL, am_st1, am_no2, am_st2, am_clr, and_self, true_and, and_true, true_or, or_true, List.length_cons, List.length_nil] <;> omega) ?_
                try simp (disch := omega) only [s73 hw, r73_0 hw, s74 hw, v3, v5, l3.1, am_shl1, am_orN, am_tnA, am_tnM, Int.reduceToNat, am_addE, am_subE, am_mulE, am_laddE, am_lsubE, am_upO, am_upS, am_stS, am_stO, am_tnn, am_brl, am_brg, am_bre, am_brn, am_brG, am_brL, am_st1, am_no2, am_st2, am_clr]
                refine am_wp_ls (ih2 (some (.inl (s : Int))) (some (.inl (k : Int))) _ (y, am_set T.2.1 k (T.2.1 k - 1), T.2.2 ||| 2 ^ s) (fun a ha => ?_) (fun i hi => ?_) ?_ (ax_or8 v4 p8) ?_ ?_ v7) ?_
                · rw [am_upO (by omega), am_upO (by omega), am_upO (by omega), v1 a ha]
                · rw [am_upO (by decide), am_upS, am_upO (by decide)]
                  dsimp only
                  have := v2 i hi
                  by_cases hik : i = k
                  · rw [am_stS hik, am_stS hik]; omega
                  · rw [am_stO hik, am_stO hik]; exact this
                · rw [am_upS, am_stO (by decide), am_upO (by decide), am_upS, am_stS rfl]
                · rw [am_upS, am_stS rfl]
                  dsimp only at d6 ⊢
                  omega
                · dsimp only at d6 ⊢
                  omega
                · dsimp only at d7 ⊢
                  simp only [List.cons.injEq, Option.some.injEq, Sum.inl.injEq, and_true, true_and]
                  omega
              clear ih2 ih
              refine am_wp_go rfl (by simp (disch := omega) only [s73 hw, r73_0 hw, s74 hw, l1.1, l2.1, am_tnA, am_tnM, Int.reduceToNat, am_addE, am_subE, am_mulE, am_laddE, am_lsubE, am_upO, am_upS, am_stS, am_stO, am_tnn, am_brl, am_brg, am_bre, am_brn, am_brG, am_brL, am_st1, am_no2, am_st2, am_clr, and_self, true_and, and_true, true_or, or_true, List.length_cons, List.length_nil] <;> omega) ?_
              try simp (disch := omega) only [s73 hw, r73_0 hw, s74 hw, l1.1, l2.1, am_tnA, am_tnM, Int.reduceToNat, am_addE, am_subE, am_mulE, am_laddE, am_lsubE, am_upO, am_upS, am_stS, am_stO, am_tnn, am_brl, am_brg, am_bre, am_brn, am_brG, am_brL, am_st1, am_no2, am_st2, am_clr]
              refine am_wp_br (fun b82 => ?_) (fun b82 => ?_)
              · refine am_wp_go rfl (by simp (disch := omega) only [s73 hw, r73_0 hw, s74 hw, l1.1, l2.1, am_tnA, am_tnM, Int.reduceToNat, am_addE, am_subE, am_mulE, am_laddE, am_lsubE, am_upO, am_upS, am_stS, am_stO, am_tnn, am_brl, am_brg, am_bre, am_brn, am_brG, am_brL, am_st1, am_no2, am_st2, am_clr, and_self, true_and, and_true, true_or, or_true, List.length_cons, List.length_nil] <;> omega) ?_
                try simp (disch := omega) only [s73 hw, r73_0 hw, s74 hw, l1.1, l2.1, am_tnA, am_tnM, Int.reduceToNat, am_addE, am_subE, am_mulE, am_laddE, am_lsubE, am_upO, am_upS, am_stS, am_stO, am_tnn, am_brl, am_brg, am_bre, am_brn, am_brG, am_brL, am_st1, am_no2, am_st2, am_clr]
                refine am_wp_br (fun b109 => ?_) (fun b109 => ?_)
                · rw [if_neg (by omega), if_neg (by omega)] at eU
                  rw [if_neg (by omega)] at eX
                  exact am_wp_ls (FIN _ (2 * s + 1) eX.symm eU.symm) rfl
                · omega
              · refine am_wp_go rfl (by simp (disch := omega) only [s73 hw, r73_0 hw, s74 hw, l1.1, l2.1, am_tnA, am_tnM, Int.reduceToNat, am_addE, am_subE, am_mulE, am_laddE, am_lsubE, am_upO, am_upS, am_stS, am_stO, am_tnn, am_brl, am_brg, am_bre, am_brn, am_brG, am_brL, am_st1, am_no2, am_st2, am_clr, and_self, true_and, and_true, true_or, or_true, List.length_cons, List.length_nil] <;> omega) ?_
                try simp (disch := omega) only [s73 hw, r73_0 hw, s74 hw, l1.1, l2.1, am_tnA, am_tnM, Int.reduceToNat, am_addE, am_subE, am_mulE, am_laddE, am_lsubE, am_upO, am_upS, am_stS, am_stO, am_tnn, am_brl, am_brg, am_bre, am_brn, am_brG, am_brL, am_st1, am_no2, am_st2, am_clr]
                refine am_wp_br (fun b109 => ?_) (fun b109 => ?_)
                · omega
                · refine am_wp_go rfl (by simp (disch := omega) only [s73 hw, r73_0 hw, s74 hw, l1.1, l2.1, am_tnA, am_tnM, Int.reduceToNat, am_addE, am_subE, am_mulE, am_laddE, am_lsubE, am_upO, am_upS, am_stS, am_stO, am_tnn, am_brl, am_brg, am_bre, am_brn, am_brG, am_brL, am_st1, am_no2, am_st2, am_clr, and_self, true_and, and_true, true_or, or_true, List.length_cons, List.length_nil] <;> omega) ?_
                  try simp (disch := omega) only [s73 hw, r73_0 hw, s74 hw, l1.1, l2.1, am_tnA, am_tnM, Int.reduceToNat, am_addE, am_subE, am_mulE, am_laddE, am_lsubE, am_upO, am_upS, am_stS, am_stO, am_tnn, am_brl, am_brg, am_bre, am_brn, am_brG, am_brL, am_st1, am_no2, am_st2, am_clr]
                  refine am_wp_br (fun b123 => ?_) (fun b123 => ?_)
                  · rw [if_neg (by omega), if_pos (by omega)] at eU
                    rw [if_neg (by omega)] at eX
                    exact am_wp_ls (FIN _ (2 * s) eX.symm eU.symm) rfl
                  · rw [if_pos (by omega)] at eU eX
                    refine am_wp_go rfl (by simp (disch := omega) only [s73 hw, r73_0 hw, s74 hw, l1.1, l2.1, am_tnA, am_tnM, Int.reduceToNat, am_addE, am_subE, am_mulE, am_laddE, am_lsubE, am_upO, am_upS, am_stS, am_stO, am_tnn, am_brl, am_brg, am_bre, am_brn, am_brG, am_brL, am_st1, am_no2, am_st2, am_clr, and_self, true_and, and_true, true_or, or_true, List.length_cons, List.length_nil] <;> omega) ?_
                    try simp (disch := omega) only [s73 hw, r73_0 hw, s74 hw, l1.1, l2.1, am_tnA, am_tnM, Int.reduceToNat, am_addE, am_subE, am_mulE, am_laddE, am_lsubE, am_upO, am_upS, am_stS, am_stO, am_tnn, am_brl, am_brg, am_bre, am_brn, am_brG, am_brL, am_st1, am_no2, am_st2, am_clr]
                    refine am_wp_cc rfl rfl rfl (trivial) (w_nextDraw ⟨_, rfl, ?_⟩)
                    refine am_wp_goc [142] rfl (by first | trivial | (simp only [and_true, true_and, and_self] <;> omega) | decide) ?_
                    simp (disch := omega) only [am_dr2, am_addE]
                    exact am_wp_ls (FIN _ (2 * s + (am_ushr (nxt (nxt T.1)) 8).toNat % 2) eX.symm eU.symm) rfl
        exact am_wp_ls (M 0 (by omega) _ _ V (A.1, A.2, 0) v1 v2 v3 (show 0 < 256 by decide) v4 (by dsimp only; omega) rfl) rfl
  have t0 := nd_all hk.1
  refine am_wp_ls (L 0 (by decide) none none none none J (x, ndW W) (fun a ha => i1 a (by omega)) (fun i hi => ⟨?_, ?_⟩) ?_ (by dsimp only; omega) rfl) rfl
  · rw [i2 i (by omega)]; exact ndW_kit hk hi
  · exact (nd_pos hk.1 hi).2
  · rw [i7, nd_tot hk.1]
end MORN
