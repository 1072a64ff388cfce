/-! write() on both sides -/
section WRITE
variable {m sl : Nat} {sh : Nat → Nat × Nat} {I : Nat → Nat → Int} {R : Nat → Nat → Nat} {Q : am_R → am_M → Prop} {d : Nat} {T : List Int} {W N : Nat → Int} {G : List Go}
theorem w_nameOfSlice {c s : Nat} (hk : kt_is sh R c) (ho : kit I c W N) (hs : s < nS W) (h : Q (am_yi (I (c + 6) s)) (m, sl, sh, I, R)) : am_wp (d + 1) 23 0 [some (.inr (.inr (c))), some (.inl ((s : Int)))] [] (m, sl, sh, I, R) Q := by
  have n1 := wk_nS ho.1
  have h1 := hk.1
  have h2 := hk.2.1.2.2.2.2.2.1
  have h3 := hk.2.2.1.2.2.2.2.2.1
  refine am_wp_go rfl (by simp (disch := omega) only [h1, h2, h3, am_b0, am_addE, am_subE, am_mulE, am_laddE, am_lsubE, am_upO, am_upS, am_stS, am_stO, am_tnn, am_brl, am_brg, am_bre, am_brn, am_brG, am_brL, am_st1, am_no2, am_st2, am_clr, and_self, true_and, and_true, true_or, or_true, List.length_cons, List.length_nil] <;> omega) ?_
  try simp (disch := omega) only [h1, h2, h3, am_b0, am_addE, am_subE, am_mulE, am_laddE, am_lsubE, am_upO, am_upS, am_stS, am_stO, am_tnn, am_brl, am_brg, am_bre, am_brn, am_brG, am_brL, am_st1, am_no2, am_st2, am_clr]
  refine am_wp_cc rfl rfl rfl (congrArg Prod.fst (h1)) (w_hasSlice hk ho ⟨_, rfl, ?_⟩)
  refine am_wp_go rfl (by simp (disch := omega) only [h1, h2, h3, am_b0, am_addE, am_subE, am_mulE, am_laddE, am_lsubE, am_upO, am_upS, am_stS, am_stO, am_tnn, am_brl, am_brg, am_bre, am_brn, am_brG, am_brL, am_st1, am_no2, am_st2, am_clr, and_self, true_and, and_true, true_or, or_true, List.length_cons, List.length_nil] <;> omega) ?_
  try simp (disch := omega) only [h1, h2, h3, am_b0, am_addE, am_subE, am_mulE, am_laddE, am_lsubE, am_upO, am_upS, am_stS, am_stO, am_tnn, am_brl, am_brg, am_bre, am_brn, am_brG, am_brL, am_st1, am_no2, am_st2, am_clr]
  refine am_wp_br (fun b5 => ?_) (fun b5 => ?_)
  · omega
  · refine am_wp_go rfl (by simp (disch := omega) only [h1, h2, h3, am_b0, am_addE, am_subE, am_mulE, am_laddE, am_lsubE, am_upO, am_upS, am_stS, am_stO, am_tnn, am_brl, am_brg, am_bre, am_brn, am_brG, am_brL, am_st1, am_no2, am_st2, am_clr, and_self, true_and, and_true, true_or, or_true, List.length_cons, List.length_nil] <;> omega) ?_
    try simp (disch := omega) only [h1, h2, h3, am_b0, am_addE, am_subE, am_mulE, am_laddE, am_lsubE, am_upO, am_upS, am_stS, am_stO, am_tnn, am_brl, am_brg, am_bre, am_brn, am_brG, am_brL, am_st1, am_no2, am_st2, am_clr]
    refine am_wp_ret rfl rfl ?_
    exact h
theorem c_write {ls : Nat → List Nat} (hw : wd sh R) (hk : kit I 6 W N) (hp : pl I 14 G) (hgk : gkt W G) (hl : ∀ s, s < nS W → letOk (ls s) ∧ I 12 s = (nm32 (ls s) : Int)) (h : ∀ J, frC I J → txC J (wrT ls G G.length) → Q (am_yi (wrT ls G G.length).length) (m, sl, sh, J, R)) : am_wp (d + 3) 154 0 [some (.inr (.inr (4))), none, none] [] (m, sl, sh, I, R) Q := by
  have n1 := wk_nS hk.1
  have hg := pl_gok hp
  have hls : ∀ k, k < G.length → letOk (ls (gS G k).toNat) := fun k hk => (hl _ (by have := hgk k hk; have := hg.2 k hk; omega)).1
  have hlen := wrT_len hg hls
  refine am_wp_go rfl (by simp (disch := omega) only [s4 hw, am_addE, am_subE, am_mulE, am_laddE, am_lsubE, am_upO, am_upS, am_stS, am_stO, am_tnn, am_brl, am_brg, am_bre, am_brn, am_brG, am_brL, am_st1, am_no2, am_st2, am_clr, and_self, true_and, and_true, true_or, or_true, List.length_cons, List.length_nil] <;> omega) ?_
  refine am_lp0 (P := fun k => ∀ (z : Option am_V) (J : Nat → Nat → Int), frC I J → txC J (wrT ls G k) → am_wp (d + 3) 154 7 [some (.inr (.inr (4))), some (.inl ((k : Int))), z] [] (m, sl, sh, J, R) Q) G.length (fun k hk1 ih z J j1 j2 => ?_) none _ ⟨fun a h1 h2 => am_upO h1, fun j hj => by rw [am_upS, am_stO hj]⟩ ⟨by rw [am_upS, am_stS rfl]; rfl, Nat.zero_le _, fun i hi => absurd hi (Nat.not_lt_zero i)⟩
  have hpj : pl J 14 G := pl_fr hp (j1.1 14 (by decide) (by decide)) (j1.1 15 (by decide) (by decide))
  have p1 := hpj.1
  refine am_wp_go rfl (by simp (disch := omega) only [s4 hw, r4_0 hw, s5 hw, r5_1 hw, r5_0 hw, s14 hw, p1, am_addE, am_subE, am_mulE, am_laddE, am_lsubE, am_upO, am_upS, am_stS, am_stO, am_tnn, am_brl, am_brg, am_bre, am_brn, am_brG, am_brL, am_st1, am_no2, am_st2, am_clr, and_self, true_and, and_true, true_or, or_true, List.length_cons, List.length_nil] <;> omega) ?_
  try simp (disch := omega) only [s4 hw, r4_0 hw, s5 hw, r5_1 hw, r5_0 hw, s14 hw, p1, am_addE, am_subE, am_mulE, am_laddE, am_lsubE, am_upO, am_upS, am_stS, am_stO, am_tnn, am_brl, am_brg, am_bre, am_brn, am_brG, am_brL, am_st1, am_no2, am_st2, am_clr]
  refine am_wp_br (fun b18 => ?_) (fun b18 => ?_)
  · have e0 : k = G.length := by omega
    subst e0
    refine am_wp_go rfl (by simp (disch := omega) only [s4 hw, j2.1, am_addE, am_subE, am_mulE, am_laddE, am_lsubE, am_upO, am_upS, am_stS, am_stO, am_tnn, am_brl, am_brg, am_bre, am_brn, am_brG, am_brL, am_st1, am_no2, am_st2, am_clr, and_self, true_and, and_true, true_or, or_true, List.length_cons, List.length_nil] <;> omega) ?_
    try simp (disch := omega) only [s4 hw, j2.1, am_addE, am_subE, am_mulE, am_laddE, am_lsubE, am_upO, am_upS, am_stS, am_stO, am_tnn, am_brl, am_brg, am_bre, am_brn, am_brG, am_brL, am_st1, am_no2, am_st2, am_clr]
    refine am_wp_ret rfl rfl ?_
    exact h J j1 j2
  · have g1 := hg.2 k (by omega)
    have g2 := hgk k (by omega)
    obtain ⟨s, hs⟩ : ∃ s : Nat, gS G k = (s : Int) := ⟨(gS G k).toNat, by omega⟩
    have es : (gS G k).toNat = s := by omega
    obtain ⟨hl1, hl2⟩ := hl s (by omega)
    have HL := hlen (k + 1) (by omega)
    have kj : kit J 6 W N := kit_fr hk (fun a h1 h2 => j1.1 a (by omega) (by omega))
    have nj : J (6 + 6) s = (nm32 (ls s) : Int) := by rw [j1.1 _ (by decide) (by decide)]; exact hl2
    have es1 : (2 * gS G k + gU G k) / 2 = (s : Int) := by omega
    have es2 : (2 * gS G k + gU G k) % 2 = gU G k := by omega
    rw [wrT, goT, es] at HL
    have gl := hg.1
    refine am_wp_go rfl (by simp (disch := omega) only [s4 hw, r4_0 hw, s5 hw, r5_1 hw, r5_0 hw, s14 hw, p1, am_divE, am_remE, es1, es2, am_addE, am_subE, am_mulE, am_laddE, am_lsubE, am_upO, am_upS, am_stS, am_stO, am_tnn, am_brl, am_brg, am_bre, am_brn, am_brG, am_brL, am_st1, am_no2, am_st2, am_clr, and_self, true_and, and_true, true_or, or_true, List.length_cons, List.length_nil] <;> omega) ?_
    try simp (disch := omega) only [s4 hw, r4_0 hw, s5 hw, r5_1 hw, r5_0 hw, s14 hw, p1, am_divE, am_remE, es1, es2, am_addE, am_subE, am_mulE, am_laddE, am_lsubE, am_upO, am_upS, am_stS, am_stO, am_tnn, am_brl, am_brg, am_bre, am_brn, am_brG, am_brL, am_st1, am_no2, am_st2, am_clr]
    refine am_wp_cc rfl rfl rfl (congrArg Prod.fst (s14 hw)) (w_sideOf (pl_w hw (by decide)) hpj (by omega) ⟨_, rfl, ?_⟩)
    refine am_wp_go rfl (by simp (disch := omega) only [s4 hw, r4_0 hw, s5 hw, r5_1 hw, r5_0 hw, s14 hw, p1, am_divE, am_remE, es1, es2, am_addE, am_subE, am_mulE, am_laddE, am_lsubE, am_upO, am_upS, am_stS, am_stO, am_tnn, am_brl, am_brg, am_bre, am_brn, am_brG, am_brL, am_st1, am_no2, am_st2, am_clr, and_self, true_and, and_true, true_or, or_true, List.length_cons, List.length_nil] <;> omega) ?_
    try simp (disch := omega) only [s4 hw, r4_0 hw, s5 hw, r5_1 hw, r5_0 hw, s14 hw, p1, am_divE, am_remE, es1, es2, am_addE, am_subE, am_mulE, am_laddE, am_lsubE, am_upO, am_upS, am_stS, am_stO, am_tnn, am_brl, am_brg, am_bre, am_brn, am_brG, am_brL, am_st1, am_no2, am_st2, am_clr]
    refine am_wp_cc rfl rfl rfl (congrArg Prod.fst (s6 hw)) (w_nameOfSlice (kt_w hw (by decide)) kj (by omega) ⟨_, rfl, ?_⟩)
    rw [nj]
    refine am_wp_cc rfl rfl rfl (congrArg Prod.fst (s4 hw)) (w_writeName hl1 hw j2 (by simp [nameT, goT] at HL ⊢; omega) (fun J1 a1 a2 => ⟨_, rfl, ?_⟩))
    refine am_wp_go rfl (by simp (disch := omega) only [s4 hw, r4_0 hw, s5 hw, r5_1 hw, r5_0 hw, s14 hw, p1, am_divE, am_remE, es1, es2, am_addE, am_subE, am_mulE, am_laddE, am_lsubE, am_upO, am_upS, am_stS, am_stO, am_tnn, am_brl, am_brg, am_bre, am_brn, am_brG, am_brL, am_st1, am_no2, am_st2, am_clr, and_self, true_and, and_true, true_or, or_true, List.length_cons, List.length_nil] <;> omega) ?_
    try simp (disch := omega) only [s4 hw, r4_0 hw, s5 hw, r5_1 hw, r5_0 hw, s14 hw, p1, am_divE, am_remE, es1, es2, am_addE, am_subE, am_mulE, am_laddE, am_lsubE, am_upO, am_upS, am_stS, am_stO, am_tnn, am_brl, am_brg, am_bre, am_brn, am_brG, am_brL, am_st1, am_no2, am_st2, am_clr]
    refine am_wp_cc rfl rfl rfl (congrArg Prod.fst (s4 hw)) (w_writeByte (by decide) hw a2 (by simp [nameT, goT] at HL ⊢; omega) (fun J2 b1 b2 => ⟨_, rfl, ?_⟩))
    refine am_wp_go rfl (by simp (disch := omega) only [s4 hw, r4_0 hw, s5 hw, r5_1 hw, r5_0 hw, s14 hw, p1, am_divE, am_remE, es1, es2, am_addE, am_subE, am_mulE, am_laddE, am_lsubE, am_upO, am_upS, am_stS, am_stO, am_tnn, am_brl, am_brg, am_bre, am_brn, am_brG, am_brL, am_st1, am_no2, am_st2, am_clr, and_self, true_and, and_true, true_or, or_true, List.length_cons, List.length_nil] <;> omega) ?_
    try simp (disch := omega) only [s4 hw, r4_0 hw, s5 hw, r5_1 hw, r5_0 hw, s14 hw, p1, am_divE, am_remE, es1, es2, am_addE, am_subE, am_mulE, am_laddE, am_lsubE, am_upO, am_upS, am_stS, am_stO, am_tnn, am_brl, am_brg, am_bre, am_brn, am_brG, am_brL, am_st1, am_no2, am_st2, am_clr]
    refine am_wp_br (fun b60 => ?_) (fun b60 => ?_)
    · skip
      refine am_wp_go rfl (by simp (disch := omega) only [s4 hw, r4_0 hw, s5 hw, r5_1 hw, r5_0 hw, s14 hw, p1, am_divE, am_remE, es1, es2, am_addE, am_subE, am_mulE, am_laddE, am_lsubE, am_upO, am_upS, am_stS, am_stO, am_tnn, am_brl, am_brg, am_bre, am_brn, am_brG, am_brL, am_st1, am_no2, am_st2, am_clr, and_self, true_and, and_true, true_or, or_true, List.length_cons, List.length_nil] <;> omega) ?_
      try simp (disch := omega) only [s4 hw, r4_0 hw, s5 hw, r5_1 hw, r5_0 hw, s14 hw, p1, am_divE, am_remE, es1, es2, am_addE, am_subE, am_mulE, am_laddE, am_lsubE, am_upO, am_upS, am_stS, am_stO, am_tnn, am_brl, am_brg, am_bre, am_brn, am_brG, am_brL, am_st1, am_no2, am_st2, am_clr]
      refine am_wp_cc rfl rfl rfl (congrArg Prod.fst (s4 hw)) (w_writeByte (by decide) hw b2 (by simp [nameT, goT] at HL ⊢; omega) (fun J3 c1 c2 => ⟨_, rfl, ?_⟩))
      refine am_wp_go rfl (by simp (disch := omega) only [s4 hw, r4_0 hw, s5 hw, r5_1 hw, r5_0 hw, s14 hw, p1, am_divE, am_remE, es1, es2, am_addE, am_subE, am_mulE, am_laddE, am_lsubE, am_upO, am_upS, am_stS, am_stO, am_tnn, am_brl, am_brg, am_bre, am_brn, am_brG, am_brL, am_st1, am_no2, am_st2, am_clr, and_self, true_and, and_true, true_or, or_true, List.length_cons, List.length_nil] <;> omega) ?_
      try simp (disch := omega) only [s4 hw, r4_0 hw, s5 hw, r5_1 hw, r5_0 hw, s14 hw, p1, am_divE, am_remE, es1, es2, am_addE, am_subE, am_mulE, am_laddE, am_lsubE, am_upO, am_upS, am_stS, am_stO, am_tnn, am_brl, am_brg, am_bre, am_brn, am_brG, am_brL, am_st1, am_no2, am_st2, am_clr]
      refine am_wp_cc rfl rfl rfl (congrArg Prod.fst (s4 hw)) (w_writeByte (by decide) hw c2 (by simp [nameT, goT] at HL ⊢; omega) (fun J4 d1 d2 => ⟨_, rfl, ?_⟩))
      have f4 := frC_tr a1 (frC_tr b1 (frC_tr c1 d1))
      have hp4 : pl J4 14 G := pl_fr hpj (f4.1 14 (by decide) (by decide)) (f4.1 15 (by decide) (by decide))
      refine am_wp_go rfl (by simp (disch := omega) only [s4 hw, r4_0 hw, s5 hw, r5_1 hw, r5_0 hw, s14 hw, p1, am_divE, am_remE, es1, es2, am_addE, am_subE, am_mulE, am_laddE, am_lsubE, am_upO, am_upS, am_stS, am_stO, am_tnn, am_brl, am_brg, am_bre, am_brn, am_brG, am_brL, am_st1, am_no2, am_st2, am_clr, and_self, true_and, and_true, true_or, or_true, List.length_cons, List.length_nil] <;> omega) ?_
      try simp (disch := omega) only [s4 hw, r4_0 hw, s5 hw, r5_1 hw, r5_0 hw, s14 hw, p1, am_divE, am_remE, es1, es2, am_addE, am_subE, am_mulE, am_laddE, am_lsubE, am_upO, am_upS, am_stS, am_stO, am_tnn, am_brl, am_brg, am_bre, am_brn, am_brG, am_brL, am_st1, am_no2, am_st2, am_clr]
      refine am_wp_cc rfl rfl rfl (congrArg Prod.fst (s14 hw)) (w_beginOf (pl_w hw (by decide)) hp4 (by omega) ⟨_, rfl, ?_⟩)
      refine am_wp_cc rfl rfl rfl (congrArg Prod.fst (s4 hw)) (w_writeNumber (by omega) hw d2 (by simp [nameT, goT] at HL ⊢; omega) (fun J5 e1 e2 => ⟨_, rfl, ?_⟩))
      refine am_wp_go rfl (by simp (disch := omega) only [s4 hw, r4_0 hw, s5 hw, r5_1 hw, r5_0 hw, s14 hw, p1, am_divE, am_remE, es1, es2, am_addE, am_subE, am_mulE, am_laddE, am_lsubE, am_upO, am_upS, am_stS, am_stO, am_tnn, am_brl, am_brg, am_bre, am_brn, am_brG, am_brL, am_st1, am_no2, am_st2, am_clr, and_self, true_and, and_true, true_or, or_true, List.length_cons, List.length_nil] <;> omega) ?_
      try simp (disch := omega) only [s4 hw, r4_0 hw, s5 hw, r5_1 hw, r5_0 hw, s14 hw, p1, am_divE, am_remE, es1, es2, am_addE, am_subE, am_mulE, am_laddE, am_lsubE, am_upO, am_upS, am_stS, am_stO, am_tnn, am_brl, am_brg, am_bre, am_brn, am_brG, am_brL, am_st1, am_no2, am_st2, am_clr]
      refine am_wp_cc rfl rfl rfl (congrArg Prod.fst (s4 hw)) (w_writeByte (by decide) hw e2 (by simp [nameT, goT] at HL ⊢; omega) (fun J6 g1 g2 => ⟨_, rfl, ?_⟩))
      have f6 := frC_tr f4 (frC_tr e1 g1)
      have hp6 : pl J6 14 G := pl_fr hpj (f6.1 14 (by decide) (by decide)) (f6.1 15 (by decide) (by decide))
      refine am_wp_go rfl (by simp (disch := omega) only [s4 hw, r4_0 hw, s5 hw, r5_1 hw, r5_0 hw, s14 hw, p1, am_divE, am_remE, es1, es2, am_addE, am_subE, am_mulE, am_laddE, am_lsubE, am_upO, am_upS, am_stS, am_stO, am_tnn, am_brl, am_brg, am_bre, am_brn, am_brG, am_brL, am_st1, am_no2, am_st2, am_clr, and_self, true_and, and_true, true_or, or_true, List.length_cons, List.length_nil] <;> omega) ?_
      try simp (disch := omega) only [s4 hw, r4_0 hw, s5 hw, r5_1 hw, r5_0 hw, s14 hw, p1, am_divE, am_remE, es1, es2, am_addE, am_subE, am_mulE, am_laddE, am_lsubE, am_upO, am_upS, am_stS, am_stO, am_tnn, am_brl, am_brg, am_bre, am_brn, am_brG, am_brL, am_st1, am_no2, am_st2, am_clr]
      refine am_wp_cc rfl rfl rfl (congrArg Prod.fst (s14 hw)) (w_placeOf (pl_w hw (by decide)) hp6 (by omega) ⟨_, rfl, ?_⟩)
      refine am_wp_cc rfl rfl rfl (congrArg Prod.fst (s4 hw)) (w_writeNumber (by omega) hw g2 (by simp [nameT, goT] at HL ⊢; omega) (fun J7 i1 i2 => ⟨_, rfl, ?_⟩))
      refine am_wp_go rfl (by simp (disch := omega) only [s4 hw, r4_0 hw, s5 hw, r5_1 hw, r5_0 hw, s14 hw, p1, am_divE, am_remE, es1, es2, am_addE, am_subE, am_mulE, am_laddE, am_lsubE, am_upO, am_upS, am_stS, am_stO, am_tnn, am_brl, am_brg, am_bre, am_brn, am_brG, am_brL, am_st1, am_no2, am_st2, am_clr, and_self, true_and, and_true, true_or, or_true, List.length_cons, List.length_nil] <;> omega) ?_
      try simp (disch := omega) only [s4 hw, r4_0 hw, s5 hw, r5_1 hw, r5_0 hw, s14 hw, p1, am_divE, am_remE, es1, es2, am_addE, am_subE, am_mulE, am_laddE, am_lsubE, am_upO, am_upS, am_stS, am_stO, am_tnn, am_brl, am_brg, am_bre, am_brn, am_brG, am_brL, am_st1, am_no2, am_st2, am_clr]
      refine am_wp_cc rfl rfl rfl (congrArg Prod.fst (s4 hw)) (w_writeByte (by decide) hw i2 (by simp [nameT, goT] at HL ⊢; omega) (fun J8 k1 k2 => ⟨_, rfl, ?_⟩))
      have f8 := frC_tr f6 (frC_tr i1 k1)
      have hp8 : pl J8 14 G := pl_fr hpj (f8.1 14 (by decide) (by decide)) (f8.1 15 (by decide) (by decide))
      refine am_wp_go rfl (by simp (disch := omega) only [s4 hw, r4_0 hw, s5 hw, r5_1 hw, r5_0 hw, s14 hw, p1, am_divE, am_remE, es1, es2, am_addE, am_subE, am_mulE, am_laddE, am_lsubE, am_upO, am_upS, am_stS, am_stO, am_tnn, am_brl, am_brg, am_bre, am_brn, am_brG, am_brL, am_st1, am_no2, am_st2, am_clr, and_self, true_and, and_true, true_or, or_true, List.length_cons, List.length_nil] <;> omega) ?_
      try simp (disch := omega) only [s4 hw, r4_0 hw, s5 hw, r5_1 hw, r5_0 hw, s14 hw, p1, am_divE, am_remE, es1, es2, am_addE, am_subE, am_mulE, am_laddE, am_lsubE, am_upO, am_upS, am_stS, am_stO, am_tnn, am_brl, am_brg, am_bre, am_brn, am_brG, am_brL, am_st1, am_no2, am_st2, am_clr]
      refine am_wp_cc rfl rfl rfl (congrArg Prod.fst (s14 hw)) (w_minutesOf (pl_w hw (by decide)) hp8 (by omega) ⟨_, rfl, ?_⟩)
      refine am_wp_cc rfl rfl rfl (congrArg Prod.fst (s4 hw)) (w_writeNumber (by omega) hw k2 (by simp [nameT, goT] at HL ⊢; omega) (fun J9 l1 l2 => ⟨_, rfl, ?_⟩))
      refine am_wp_go rfl (by simp (disch := omega) only [s4 hw, r4_0 hw, s5 hw, r5_1 hw, r5_0 hw, s14 hw, p1, am_divE, am_remE, es1, es2, am_addE, am_subE, am_mulE, am_laddE, am_lsubE, am_upO, am_upS, am_stS, am_stO, am_tnn, am_brl, am_brg, am_bre, am_brn, am_brG, am_brL, am_st1, am_no2, am_st2, am_clr, and_self, true_and, and_true, true_or, or_true, List.length_cons, List.length_nil] <;> omega) ?_
      try simp (disch := omega) only [s4 hw, r4_0 hw, s5 hw, r5_1 hw, r5_0 hw, s14 hw, p1, am_divE, am_remE, es1, es2, am_addE, am_subE, am_mulE, am_laddE, am_lsubE, am_upO, am_upS, am_stS, am_stO, am_tnn, am_brl, am_brg, am_bre, am_brn, am_brG, am_brL, am_st1, am_no2, am_st2, am_clr]
      refine am_wp_cc rfl rfl rfl (congrArg Prod.fst (s4 hw)) (w_writeByte (by decide) hw l2 (by simp [nameT, goT] at HL ⊢; omega) (fun Ja n1 n2 => ⟨_, rfl, ?_⟩))
      refine am_wp_go rfl (by simp (disch := omega) only [s4 hw, r4_0 hw, s5 hw, r5_1 hw, r5_0 hw, s14 hw, p1, am_divE, am_remE, es1, es2, am_addE, am_subE, am_mulE, am_laddE, am_lsubE, am_upO, am_upS, am_stS, am_stO, am_tnn, am_brl, am_brg, am_bre, am_brn, am_brG, am_brL, am_st1, am_no2, am_st2, am_clr, and_self, true_and, and_true, true_or, or_true, List.length_cons, List.length_nil] <;> omega) ?_
      try simp (disch := omega) only [s4 hw, r4_0 hw, s5 hw, r5_1 hw, r5_0 hw, s14 hw, p1, am_divE, am_remE, es1, es2, am_addE, am_subE, am_mulE, am_laddE, am_lsubE, am_upO, am_upS, am_stS, am_stO, am_tnn, am_brl, am_brg, am_bre, am_brn, am_brG, am_brL, am_st1, am_no2, am_st2, am_clr]
      refine am_wp_ls (ih (by omega) _ Ja (frC_tr j1 (frC_tr f8 (frC_tr l1 n1))) ?_) rfl
      rw [wrT, goT, if_neg b60, es]
      simpa using n2
    · skip
      refine am_wp_go rfl (by simp (disch := omega) only [s4 hw, r4_0 hw, s5 hw, r5_1 hw, r5_0 hw, s14 hw, p1, am_divE, am_remE, es1, es2, am_addE, am_subE, am_mulE, am_laddE, am_lsubE, am_upO, am_upS, am_stS, am_stO, am_tnn, am_brl, am_brg, am_bre, am_brn, am_brG, am_brL, am_st1, am_no2, am_st2, am_clr, and_self, true_and, and_true, true_or, or_true, List.length_cons, List.length_nil] <;> omega) ?_
      try simp (disch := omega) only [s4 hw, r4_0 hw, s5 hw, r5_1 hw, r5_0 hw, s14 hw, p1, am_divE, am_remE, es1, es2, am_addE, am_subE, am_mulE, am_laddE, am_lsubE, am_upO, am_upS, am_stS, am_stO, am_tnn, am_brl, am_brg, am_bre, am_brn, am_brG, am_brL, am_st1, am_no2, am_st2, am_clr]
      refine am_wp_cc rfl rfl rfl (congrArg Prod.fst (s4 hw)) (w_writeByte (by decide) hw b2 (by simp [nameT, goT] at HL ⊢; omega) (fun J3 c1 c2 => ⟨_, rfl, ?_⟩))
      refine am_wp_go rfl (by simp (disch := omega) only [s4 hw, r4_0 hw, s5 hw, r5_1 hw, r5_0 hw, s14 hw, p1, am_divE, am_remE, es1, es2, am_addE, am_subE, am_mulE, am_laddE, am_lsubE, am_upO, am_upS, am_stS, am_stO, am_tnn, am_brl, am_brg, am_bre, am_brn, am_brG, am_brL, am_st1, am_no2, am_st2, am_clr, and_self, true_and, and_true, true_or, or_true, List.length_cons, List.length_nil] <;> omega) ?_
      try simp (disch := omega) only [s4 hw, r4_0 hw, s5 hw, r5_1 hw, r5_0 hw, s14 hw, p1, am_divE, am_remE, es1, es2, am_addE, am_subE, am_mulE, am_laddE, am_lsubE, am_upO, am_upS, am_stS, am_stO, am_tnn, am_brl, am_brg, am_bre, am_brn, am_brG, am_brL, am_st1, am_no2, am_st2, am_clr]
      refine am_wp_cc rfl rfl rfl (congrArg Prod.fst (s4 hw)) (w_writeByte (by decide) hw c2 (by simp [nameT, goT] at HL ⊢; omega) (fun J4 d1 d2 => ⟨_, rfl, ?_⟩))
      have f4 := frC_tr a1 (frC_tr b1 (frC_tr c1 d1))
      have hp4 : pl J4 14 G := pl_fr hpj (f4.1 14 (by decide) (by decide)) (f4.1 15 (by decide) (by decide))
      refine am_wp_go rfl (by simp (disch := omega) only [s4 hw, r4_0 hw, s5 hw, r5_1 hw, r5_0 hw, s14 hw, p1, am_divE, am_remE, es1, es2, am_addE, am_subE, am_mulE, am_laddE, am_lsubE, am_upO, am_upS, am_stS, am_stO, am_tnn, am_brl, am_brg, am_bre, am_brn, am_brG, am_brL, am_st1, am_no2, am_st2, am_clr, and_self, true_and, and_true, true_or, or_true, List.length_cons, List.length_nil] <;> omega) ?_
      try simp (disch := omega) only [s4 hw, r4_0 hw, s5 hw, r5_1 hw, r5_0 hw, s14 hw, p1, am_divE, am_remE, es1, es2, am_addE, am_subE, am_mulE, am_laddE, am_lsubE, am_upO, am_upS, am_stS, am_stO, am_tnn, am_brl, am_brg, am_bre, am_brn, am_brG, am_brL, am_st1, am_no2, am_st2, am_clr]
      refine am_wp_cc rfl rfl rfl (congrArg Prod.fst (s14 hw)) (w_beginOf (pl_w hw (by decide)) hp4 (by omega) ⟨_, rfl, ?_⟩)
      refine am_wp_cc rfl rfl rfl (congrArg Prod.fst (s4 hw)) (w_writeNumber (by omega) hw d2 (by simp [nameT, goT] at HL ⊢; omega) (fun J5 e1 e2 => ⟨_, rfl, ?_⟩))
      refine am_wp_go rfl (by simp (disch := omega) only [s4 hw, r4_0 hw, s5 hw, r5_1 hw, r5_0 hw, s14 hw, p1, am_divE, am_remE, es1, es2, am_addE, am_subE, am_mulE, am_laddE, am_lsubE, am_upO, am_upS, am_stS, am_stO, am_tnn, am_brl, am_brg, am_bre, am_brn, am_brG, am_brL, am_st1, am_no2, am_st2, am_clr, and_self, true_and, and_true, true_or, or_true, List.length_cons, List.length_nil] <;> omega) ?_
      try simp (disch := omega) only [s4 hw, r4_0 hw, s5 hw, r5_1 hw, r5_0 hw, s14 hw, p1, am_divE, am_remE, es1, es2, am_addE, am_subE, am_mulE, am_laddE, am_lsubE, am_upO, am_upS, am_stS, am_stO, am_tnn, am_brl, am_brg, am_bre, am_brn, am_brG, am_brL, am_st1, am_no2, am_st2, am_clr]
      refine am_wp_cc rfl rfl rfl (congrArg Prod.fst (s4 hw)) (w_writeByte (by decide) hw e2 (by simp [nameT, goT] at HL ⊢; omega) (fun J6 g1 g2 => ⟨_, rfl, ?_⟩))
      have f6 := frC_tr f4 (frC_tr e1 g1)
      have hp6 : pl J6 14 G := pl_fr hpj (f6.1 14 (by decide) (by decide)) (f6.1 15 (by decide) (by decide))
      refine am_wp_go rfl (by simp (disch := omega) only [s4 hw, r4_0 hw, s5 hw, r5_1 hw, r5_0 hw, s14 hw, p1, am_divE, am_remE, es1, es2, am_addE, am_subE, am_mulE, am_laddE, am_lsubE, am_upO, am_upS, am_stS, am_stO, am_tnn, am_brl, am_brg, am_bre, am_brn, am_brG, am_brL, am_st1, am_no2, am_st2, am_clr, and_self, true_and, and_true, true_or, or_true, List.length_cons, List.length_nil] <;> omega) ?_
      try simp (disch := omega) only [s4 hw, r4_0 hw, s5 hw, r5_1 hw, r5_0 hw, s14 hw, p1, am_divE, am_remE, es1, es2, am_addE, am_subE, am_mulE, am_laddE, am_lsubE, am_upO, am_upS, am_stS, am_stO, am_tnn, am_brl, am_brg, am_bre, am_brn, am_brG, am_brL, am_st1, am_no2, am_st2, am_clr]
      refine am_wp_cc rfl rfl rfl (congrArg Prod.fst (s14 hw)) (w_placeOf (pl_w hw (by decide)) hp6 (by omega) ⟨_, rfl, ?_⟩)
      refine am_wp_cc rfl rfl rfl (congrArg Prod.fst (s4 hw)) (w_writeNumber (by omega) hw g2 (by simp [nameT, goT] at HL ⊢; omega) (fun J7 i1 i2 => ⟨_, rfl, ?_⟩))
      refine am_wp_go rfl (by simp (disch := omega) only [s4 hw, r4_0 hw, s5 hw, r5_1 hw, r5_0 hw, s14 hw, p1, am_divE, am_remE, es1, es2, am_addE, am_subE, am_mulE, am_laddE, am_lsubE, am_upO, am_upS, am_stS, am_stO, am_tnn, am_brl, am_brg, am_bre, am_brn, am_brG, am_brL, am_st1, am_no2, am_st2, am_clr, and_self, true_and, and_true, true_or, or_true, List.length_cons, List.length_nil] <;> omega) ?_
      try simp (disch := omega) only [s4 hw, r4_0 hw, s5 hw, r5_1 hw, r5_0 hw, s14 hw, p1, am_divE, am_remE, es1, es2, am_addE, am_subE, am_mulE, am_laddE, am_lsubE, am_upO, am_upS, am_stS, am_stO, am_tnn, am_brl, am_brg, am_bre, am_brn, am_brG, am_brL, am_st1, am_no2, am_st2, am_clr]
      refine am_wp_cc rfl rfl rfl (congrArg Prod.fst (s4 hw)) (w_writeByte (by decide) hw i2 (by simp [nameT, goT] at HL ⊢; omega) (fun J8 k1 k2 => ⟨_, rfl, ?_⟩))
      have f8 := frC_tr f6 (frC_tr i1 k1)
      have hp8 : pl J8 14 G := pl_fr hpj (f8.1 14 (by decide) (by decide)) (f8.1 15 (by decide) (by decide))
      refine am_wp_go rfl (by simp (disch := omega) only [s4 hw, r4_0 hw, s5 hw, r5_1 hw, r5_0 hw, s14 hw, p1, am_divE, am_remE, es1, es2, am_addE, am_subE, am_mulE, am_laddE, am_lsubE, am_upO, am_upS, am_stS, am_stO, am_tnn, am_brl, am_brg, am_bre, am_brn, am_brG, am_brL, am_st1, am_no2, am_st2, am_clr, and_self, true_and, and_true, true_or, or_true, List.length_cons, List.length_nil] <;> omega) ?_
      try simp (disch := omega) only [s4 hw, r4_0 hw, s5 hw, r5_1 hw, r5_0 hw, s14 hw, p1, am_divE, am_remE, es1, es2, am_addE, am_subE, am_mulE, am_laddE, am_lsubE, am_upO, am_upS, am_stS, am_stO, am_tnn, am_brl, am_brg, am_bre, am_brn, am_brG, am_brL, am_st1, am_no2, am_st2, am_clr]
      refine am_wp_cc rfl rfl rfl (congrArg Prod.fst (s14 hw)) (w_minutesOf (pl_w hw (by decide)) hp8 (by omega) ⟨_, rfl, ?_⟩)
      refine am_wp_cc rfl rfl rfl (congrArg Prod.fst (s4 hw)) (w_writeNumber (by omega) hw k2 (by simp [nameT, goT] at HL ⊢; omega) (fun J9 l1 l2 => ⟨_, rfl, ?_⟩))
      refine am_wp_go rfl (by simp (disch := omega) only [s4 hw, r4_0 hw, s5 hw, r5_1 hw, r5_0 hw, s14 hw, p1, am_divE, am_remE, es1, es2, am_addE, am_subE, am_mulE, am_laddE, am_lsubE, am_upO, am_upS, am_stS, am_stO, am_tnn, am_brl, am_brg, am_bre, am_brn, am_brG, am_brL, am_st1, am_no2, am_st2, am_clr, and_self, true_and, and_true, true_or, or_true, List.length_cons, List.length_nil] <;> omega) ?_
      try simp (disch := omega) only [s4 hw, r4_0 hw, s5 hw, r5_1 hw, r5_0 hw, s14 hw, p1, am_divE, am_remE, es1, es2, am_addE, am_subE, am_mulE, am_laddE, am_lsubE, am_upO, am_upS, am_stS, am_stO, am_tnn, am_brl, am_brg, am_bre, am_brn, am_brG, am_brL, am_st1, am_no2, am_st2, am_clr]
      refine am_wp_cc rfl rfl rfl (congrArg Prod.fst (s4 hw)) (w_writeByte (by decide) hw l2 (by simp [nameT, goT] at HL ⊢; omega) (fun Ja n1 n2 => ⟨_, rfl, ?_⟩))
      refine am_wp_go rfl (by simp (disch := omega) only [s4 hw, r4_0 hw, s5 hw, r5_1 hw, r5_0 hw, s14 hw, p1, am_divE, am_remE, es1, es2, am_addE, am_subE, am_mulE, am_laddE, am_lsubE, am_upO, am_upS, am_stS, am_stO, am_tnn, am_brl, am_brg, am_bre, am_brn, am_brG, am_brL, am_st1, am_no2, am_st2, am_clr, and_self, true_and, and_true, true_or, or_true, List.length_cons, List.length_nil] <;> omega) ?_
      try simp (disch := omega) only [s4 hw, r4_0 hw, s5 hw, r5_1 hw, r5_0 hw, s14 hw, p1, am_divE, am_remE, es1, es2, am_addE, am_subE, am_mulE, am_laddE, am_lsubE, am_upO, am_upS, am_stS, am_stO, am_tnn, am_brl, am_brg, am_bre, am_brn, am_brG, am_brL, am_st1, am_no2, am_st2, am_clr]
      refine am_wp_ls (ih (by omega) _ Ja (frC_tr j1 (frC_tr f8 (frC_tr l1 n1))) ?_) rfl
      rw [wrT, goT, if_pos (by omega), es]
      simpa using n2
theorem r_write {ls : Nat → List Nat} (hw : wd sh R) (hr : rf (pw (I 126)) G) (hg : gok G) (hls : ∀ k, k < G.length → letOk (ls (gS G k).toNat) ∧ I 130 (gS G k).toNat = (nm27 (ls (gS G k).toNat) : Int)) (h : ∀ J, frR (am_up I 124 0 0) J → txR J (wrT ls G G.length) → Q (am_yi (wrT ls G G.length).length) (m, sl, sh, J, R)) : am_wp (d + 2) 259 0 [some (.inr (.inr (124))), none, none] [] (m, sl, sh, I, R) Q := by
  have gl := hg.1
  have hlen := wrT_len hg (fun k hk => (hls k hk).1)
  refine am_wp_go rfl (by simp (disch := omega) only [s124 hw, am_addE, am_subE, am_mulE, am_laddE, am_lsubE, am_upO, am_upS, am_stS, am_stO, am_tnn, am_brl, am_brg, am_bre, am_brn, am_brG, am_brL, am_st1, am_no2, am_st2, am_clr, and_self, true_and, and_true, true_or, or_true, List.length_cons, List.length_nil] <;> omega) ?_
  refine am_lp0 (P := fun k => ∀ (z : Option am_V) (J : Nat → Nat → Int), frR (am_up I 124 0 0) J → txR J (wrT ls G k) → am_wp (d + 2) 259 12 [some (.inr (.inr (124))), some (.inl ((k : Int))), z] [] (m, sl, sh, J, R) Q) G.length (fun k hk1 ih z J j1 j2 => ?_) none _ ⟨fun a h1 h2 h3 => am_upO h1, fun j hj => by rw [am_upS, am_stO hj]⟩ ⟨by rw [am_upS, am_stS rfl]; rfl, Nat.zero_le _, fun i hi => absurd hi (Nat.not_lt_zero i)⟩
  have hrj : rf (pw (J 126)) G := by rw [j1.1 126 (by decide) (by decide) (by decide), am_upO (by decide)]; exact hr
  refine am_wp_go rfl (by simp (disch := omega) only [s124 hw, am_addE, am_subE, am_mulE, am_laddE, am_lsubE, am_upO, am_upS, am_stS, am_stO, am_tnn, am_brl, am_brg, am_bre, am_brn, am_brG, am_brL, am_st1, am_no2, am_st2, am_clr, and_self, true_and, and_true, true_or, or_true, List.length_cons, List.length_nil] <;> omega) ?_
  try simp (disch := omega) only [s124 hw, am_addE, am_subE, am_mulE, am_laddE, am_lsubE, am_upO, am_upS, am_stS, am_stO, am_tnn, am_brl, am_brg, am_bre, am_brn, am_brG, am_brL, am_st1, am_no2, am_st2, am_clr]
  refine am_wp_cc rfl rfl rfl (congrArg Prod.fst (s124 hw)) (w_M_goesG hw hrj ⟨_, rfl, ?_⟩)
  refine am_wp_go rfl (by simp (disch := omega) only [s124 hw, am_addE, am_subE, am_mulE, am_laddE, am_lsubE, am_upO, am_upS, am_stS, am_stO, am_tnn, am_brl, am_brg, am_bre, am_brn, am_brG, am_brL, am_st1, am_no2, am_st2, am_clr, and_self, true_and, and_true, true_or, or_true, List.length_cons, List.length_nil] <;> omega) ?_
  try simp (disch := omega) only [s124 hw, am_addE, am_subE, am_mulE, am_laddE, am_lsubE, am_upO, am_upS, am_stS, am_stO, am_tnn, am_brl, am_brg, am_bre, am_brn, am_brG, am_brL, am_st1, am_no2, am_st2, am_clr]
  refine am_wp_br (fun b17 => ?_) (fun b17 => ?_)
  · have e0 : k = G.length := by omega
    subst e0
    refine am_wp_go rfl (by simp (disch := omega) only [s124 hw, j2.1, am_addE, am_subE, am_mulE, am_laddE, am_lsubE, am_upO, am_upS, am_stS, am_stO, am_tnn, am_brl, am_brg, am_bre, am_brn, am_brG, am_brL, am_st1, am_no2, am_st2, am_clr, and_self, true_and, and_true, true_or, or_true, List.length_cons, List.length_nil] <;> omega) ?_
    try simp (disch := omega) only [s124 hw, j2.1, am_addE, am_subE, am_mulE, am_laddE, am_lsubE, am_upO, am_upS, am_stS, am_stO, am_tnn, am_brl, am_brg, am_bre, am_brn, am_brG, am_brL, am_st1, am_no2, am_st2, am_clr]
    refine am_wp_ret rfl rfl ?_
    exact h J j1 j2
  · have g1 := hg.2 k (by omega)
    obtain ⟨hl1, hl2⟩ := hls k (by omega)
    obtain ⟨s, hs⟩ : ∃ s : Nat, gS G k = (s : Int) := ⟨(gS G k).toNat, by omega⟩
    have es : (gS G k).toNat = s := by omega
    rw [es] at hl1 hl2
    have HL := hlen (k + 1) (by omega)
    have nj : J 130 s = (nm27 (ls s) : Int) := by rw [j1.1 130 (by decide) (by decide) (by decide), am_upO (by decide)]; exact hl2
    rw [wrT, goT, es] at HL
    refine am_wp_go rfl (by simp (disch := omega) only [s124 hw, am_addE, am_subE, am_mulE, am_laddE, am_lsubE, am_upO, am_upS, am_stS, am_stO, am_tnn, am_brl, am_brg, am_bre, am_brn, am_brG, am_brL, am_st1, am_no2, am_st2, am_clr, and_self, true_and, and_true, true_or, or_true, List.length_cons, List.length_nil] <;> omega) ?_
    try simp (disch := omega) only [s124 hw, am_addE, am_subE, am_mulE, am_laddE, am_lsubE, am_upO, am_upS, am_stS, am_stO, am_tnn, am_brl, am_brg, am_bre, am_brn, am_brG, am_brL, am_st1, am_no2, am_st2, am_clr]
    refine am_wp_cc rfl rfl rfl (congrArg Prod.fst (s124 hw)) (w_M_go0 hw hrj gl (by omega) ⟨_, rfl, ?_⟩)
    rw [hs]
    refine am_wp_go rfl (by simp (disch := omega) only [s124 hw, r124_18 hw, s130 hw, nj, am_addE, am_subE, am_mulE, am_laddE, am_lsubE, am_upO, am_upS, am_stS, am_stO, am_tnn, am_brl, am_brg, am_bre, am_brn, am_brG, am_brL, am_st1, am_no2, am_st2, am_clr, and_self, true_and, and_true, true_or, or_true, List.length_cons, List.length_nil] <;> omega) ?_
    try simp (disch := omega) only [s124 hw, r124_18 hw, s130 hw, nj, am_addE, am_subE, am_mulE, am_laddE, am_lsubE, am_upO, am_upS, am_stS, am_stO, am_tnn, am_brl, am_brg, am_bre, am_brn, am_brG, am_brL, am_st1, am_no2, am_st2, am_clr]
    refine am_wp_cc rfl rfl rfl (congrArg Prod.fst (s124 hw)) (w_M_putName hl1 hw j2 (by simp [nameT, goT] at HL ⊢; omega) (fun J1 a1 a2 => ⟨_, rfl, ?_⟩))
    refine am_wp_go rfl (by simp (disch := omega) only [s124 hw, am_addE, am_subE, am_mulE, am_laddE, am_lsubE, am_upO, am_upS, am_stS, am_stO, am_tnn, am_brl, am_brg, am_bre, am_brn, am_brG, am_brL, am_st1, am_no2, am_st2, am_clr, and_self, true_and, and_true, true_or, or_true, List.length_cons, List.length_nil] <;> omega) ?_
    try simp (disch := omega) only [s124 hw, am_addE, am_subE, am_mulE, am_laddE, am_lsubE, am_upO, am_upS, am_stS, am_stO, am_tnn, am_brl, am_brg, am_bre, am_brn, am_brG, am_brL, am_st1, am_no2, am_st2, am_clr]
    refine am_wp_cc rfl rfl rfl (congrArg Prod.fst (s124 hw)) (w_M_put hw a2 (by simp [nameT, goT] at HL ⊢; omega) (fun J2 c1 c0 c2 => ⟨_, rfl, ?_⟩))
    have r1 : rf (pw (J2 126)) G := by rw [c1.1 126 (by decide) (by decide) (by decide), a1.1 126 (by decide) (by decide) (by decide)]; exact hrj
    refine am_wp_go rfl (by simp (disch := omega) only [s124 hw, am_addE, am_subE, am_mulE, am_laddE, am_lsubE, am_upO, am_upS, am_stS, am_stO, am_tnn, am_brl, am_brg, am_bre, am_brn, am_brG, am_brL, am_st1, am_no2, am_st2, am_clr, and_self, true_and, and_true, true_or, or_true, List.length_cons, List.length_nil] <;> omega) ?_
    try simp (disch := omega) only [s124 hw, am_addE, am_subE, am_mulE, am_laddE, am_lsubE, am_upO, am_upS, am_stS, am_stO, am_tnn, am_brl, am_brg, am_bre, am_brn, am_brG, am_brL, am_st1, am_no2, am_st2, am_clr]
    refine am_wp_cc rfl rfl rfl (congrArg Prod.fst (s124 hw)) (w_M_go1 hw r1 gl (by omega) ⟨_, rfl, ?_⟩)
    refine am_wp_go rfl (by simp (disch := omega) only [s124 hw, am_addE, am_subE, am_mulE, am_laddE, am_lsubE, am_upO, am_upS, am_stS, am_stO, am_tnn, am_brl, am_brg, am_bre, am_brn, am_brG, am_brL, am_st1, am_no2, am_st2, am_clr, and_self, true_and, and_true, true_or, or_true, List.length_cons, List.length_nil] <;> omega) ?_
    try simp (disch := omega) only [s124 hw, am_addE, am_subE, am_mulE, am_laddE, am_lsubE, am_upO, am_upS, am_stS, am_stO, am_tnn, am_brl, am_brg, am_bre, am_brn, am_brG, am_brL, am_st1, am_no2, am_st2, am_clr]
    refine am_wp_br (fun b48 => ?_) (fun b48 => ?_)
    · skip
      refine am_wp_go rfl (by simp (disch := omega) only [s124 hw, am_addE, am_subE, am_mulE, am_laddE, am_lsubE, am_upO, am_upS, am_stS, am_stO, am_tnn, am_brl, am_brg, am_bre, am_brn, am_brG, am_brL, am_st1, am_no2, am_st2, am_clr, and_self, true_and, and_true, true_or, or_true, List.length_cons, List.length_nil] <;> omega) ?_
      try simp (disch := omega) only [s124 hw, am_addE, am_subE, am_mulE, am_laddE, am_lsubE, am_upO, am_upS, am_stS, am_stO, am_tnn, am_brl, am_brg, am_bre, am_brn, am_brG, am_brL, am_st1, am_no2, am_st2, am_clr]
      refine am_wp_cc rfl rfl rfl (congrArg Prod.fst (s124 hw)) (w_M_put hw c2 (by simp [nameT, goT] at HL ⊢; omega) (fun J3 d1 d0 d2 => ⟨_, rfl, ?_⟩))
      have f2 := frR_tr a1 (frR_tr c1 d1)
      refine am_wp_go rfl (by simp (disch := omega) only [s124 hw, Int.reduceAdd, am_addE, am_subE, am_mulE, am_laddE, am_lsubE, am_upO, am_upS, am_stS, am_stO, am_tnn, am_brl, am_brg, am_bre, am_brn, am_brG, am_brL, am_st1, am_no2, am_st2, am_clr, and_self, true_and, and_true, true_or, or_true, List.length_cons, List.length_nil] <;> omega) ?_
      try simp (disch := omega) only [s124 hw, Int.reduceAdd, am_addE, am_subE, am_mulE, am_laddE, am_lsubE, am_upO, am_upS, am_stS, am_stO, am_tnn, am_brl, am_brg, am_bre, am_brn, am_brG, am_brL, am_st1, am_no2, am_st2, am_clr]
      refine am_wp_go rfl (by simp (disch := omega) only [s124 hw, Int.reduceAdd, am_addE, am_subE, am_mulE, am_laddE, am_lsubE, am_upO, am_upS, am_stS, am_stO, am_tnn, am_brl, am_brg, am_bre, am_brn, am_brG, am_brL, am_st1, am_no2, am_st2, am_clr, and_self, true_and, and_true, true_or, or_true, List.length_cons, List.length_nil] <;> omega) ?_
      refine am_wp_pc (pc' := 68) rfl ?_
      have r2 : rf (pw (J3 126)) G := by rw [f2.1 126 (by decide) (by decide) (by decide)]; exact hrj
      refine am_wp_go rfl (by simp (disch := omega) only [s124 hw, Int.reduceAdd, am_addE, am_subE, am_mulE, am_laddE, am_lsubE, am_upO, am_upS, am_stS, am_stO, am_tnn, am_brl, am_brg, am_bre, am_brn, am_brG, am_brL, am_st1, am_no2, am_st2, am_clr, and_self, true_and, and_true, true_or, or_true, List.length_cons, List.length_nil] <;> omega) ?_
      try simp (disch := omega) only [s124 hw, Int.reduceAdd, am_addE, am_subE, am_mulE, am_laddE, am_lsubE, am_upO, am_upS, am_stS, am_stO, am_tnn, am_brl, am_brg, am_bre, am_brn, am_brG, am_brL, am_st1, am_no2, am_st2, am_clr]
      refine am_wp_cc rfl rfl rfl (congrArg Prod.fst (s124 hw)) (w_M_go2 hw r2 gl (by omega) ⟨_, rfl, ?_⟩)
      refine am_wp_cc rfl rfl rfl (congrArg Prod.fst (s124 hw)) (w_M_putNumber (by omega) hw d2 (by simp [nameT, goT] at HL ⊢; omega) (fun J4 x2 y2 => ⟨_, rfl, ?_⟩))
      have f3 := frR_tr f2 x2
      refine am_wp_go rfl (by simp (disch := omega) only [s124 hw, Int.reduceAdd, am_addE, am_subE, am_mulE, am_laddE, am_lsubE, am_upO, am_upS, am_stS, am_stO, am_tnn, am_brl, am_brg, am_bre, am_brn, am_brG, am_brL, am_st1, am_no2, am_st2, am_clr, and_self, true_and, and_true, true_or, or_true, List.length_cons, List.length_nil] <;> omega) ?_
      try simp (disch := omega) only [s124 hw, Int.reduceAdd, am_addE, am_subE, am_mulE, am_laddE, am_lsubE, am_upO, am_upS, am_stS, am_stO, am_tnn, am_brl, am_brg, am_bre, am_brn, am_brG, am_brL, am_st1, am_no2, am_st2, am_clr]
      refine am_wp_go rfl (by simp (disch := omega) only [s124 hw, Int.reduceAdd, am_addE, am_subE, am_mulE, am_laddE, am_lsubE, am_upO, am_upS, am_stS, am_stO, am_tnn, am_brl, am_brg, am_bre, am_brn, am_brG, am_brL, am_st1, am_no2, am_st2, am_clr, and_self, true_and, and_true, true_or, or_true, List.length_cons, List.length_nil] <;> omega) ?_
      refine am_wp_pc (pc' := 68) rfl ?_
      have r3 : rf (pw (J4 126)) G := by rw [f3.1 126 (by decide) (by decide) (by decide)]; exact hrj
      refine am_wp_go rfl (by simp (disch := omega) only [s124 hw, Int.reduceAdd, am_addE, am_subE, am_mulE, am_laddE, am_lsubE, am_upO, am_upS, am_stS, am_stO, am_tnn, am_brl, am_brg, am_bre, am_brn, am_brG, am_brL, am_st1, am_no2, am_st2, am_clr, and_self, true_and, and_true, true_or, or_true, List.length_cons, List.length_nil] <;> omega) ?_
      try simp (disch := omega) only [s124 hw, Int.reduceAdd, am_addE, am_subE, am_mulE, am_laddE, am_lsubE, am_upO, am_upS, am_stS, am_stO, am_tnn, am_brl, am_brg, am_bre, am_brn, am_brG, am_brL, am_st1, am_no2, am_st2, am_clr]
      refine am_wp_cc rfl rfl rfl (congrArg Prod.fst (s124 hw)) (w_M_go3 hw r3 gl (by omega) ⟨_, rfl, ?_⟩)
      refine am_wp_cc rfl rfl rfl (congrArg Prod.fst (s124 hw)) (w_M_putNumber (by omega) hw y2 (by simp [nameT, goT] at HL ⊢; omega) (fun J5 x3 y3 => ⟨_, rfl, ?_⟩))
      have f4 := frR_tr f3 x3
      refine am_wp_go rfl (by simp (disch := omega) only [s124 hw, Int.reduceAdd, am_addE, am_subE, am_mulE, am_laddE, am_lsubE, am_upO, am_upS, am_stS, am_stO, am_tnn, am_brl, am_brg, am_bre, am_brn, am_brG, am_brL, am_st1, am_no2, am_st2, am_clr, and_self, true_and, and_true, true_or, or_true, List.length_cons, List.length_nil] <;> omega) ?_
      try simp (disch := omega) only [s124 hw, Int.reduceAdd, am_addE, am_subE, am_mulE, am_laddE, am_lsubE, am_upO, am_upS, am_stS, am_stO, am_tnn, am_brl, am_brg, am_bre, am_brn, am_brG, am_brL, am_st1, am_no2, am_st2, am_clr]
      refine am_wp_go rfl (by simp (disch := omega) only [s124 hw, Int.reduceAdd, am_addE, am_subE, am_mulE, am_laddE, am_lsubE, am_upO, am_upS, am_stS, am_stO, am_tnn, am_brl, am_brg, am_bre, am_brn, am_brG, am_brL, am_st1, am_no2, am_st2, am_clr, and_self, true_and, and_true, true_or, or_true, List.length_cons, List.length_nil] <;> omega) ?_
      refine am_wp_pc (pc' := 68) rfl ?_
      have r4 : rf (pw (J5 126)) G := by rw [f4.1 126 (by decide) (by decide) (by decide)]; exact hrj
      refine am_wp_go rfl (by simp (disch := omega) only [s124 hw, Int.reduceAdd, am_addE, am_subE, am_mulE, am_laddE, am_lsubE, am_upO, am_upS, am_stS, am_stO, am_tnn, am_brl, am_brg, am_bre, am_brn, am_brG, am_brL, am_st1, am_no2, am_st2, am_clr, and_self, true_and, and_true, true_or, or_true, List.length_cons, List.length_nil] <;> omega) ?_
      try simp (disch := omega) only [s124 hw, Int.reduceAdd, am_addE, am_subE, am_mulE, am_laddE, am_lsubE, am_upO, am_upS, am_stS, am_stO, am_tnn, am_brl, am_brg, am_bre, am_brn, am_brG, am_brL, am_st1, am_no2, am_st2, am_clr]
      refine am_wp_cc rfl rfl rfl (congrArg Prod.fst (s124 hw)) (w_M_go4 hw r4 gl (by omega) ⟨_, rfl, ?_⟩)
      refine am_wp_cc rfl rfl rfl (congrArg Prod.fst (s124 hw)) (w_M_putNumber (by omega) hw y3 (by simp [nameT, goT] at HL ⊢; omega) (fun J6 x4 y4 => ⟨_, rfl, ?_⟩))
      have f5 := frR_tr f4 x4
      refine am_wp_go rfl (by simp (disch := omega) only [s124 hw, Int.reduceAdd, am_addE, am_subE, am_mulE, am_laddE, am_lsubE, am_upO, am_upS, am_stS, am_stO, am_tnn, am_brl, am_brg, am_bre, am_brn, am_brG, am_brL, am_st1, am_no2, am_st2, am_clr, and_self, true_and, and_true, true_or, or_true, List.length_cons, List.length_nil] <;> omega) ?_
      try simp (disch := omega) only [s124 hw, Int.reduceAdd, am_addE, am_subE, am_mulE, am_laddE, am_lsubE, am_upO, am_upS, am_stS, am_stO, am_tnn, am_brl, am_brg, am_bre, am_brn, am_brG, am_brL, am_st1, am_no2, am_st2, am_clr]
      refine am_wp_go rfl (by simp (disch := omega) only [s124 hw, Int.reduceAdd, am_addE, am_subE, am_mulE, am_laddE, am_lsubE, am_upO, am_upS, am_stS, am_stO, am_tnn, am_brl, am_brg, am_bre, am_brn, am_brG, am_brL, am_st1, am_no2, am_st2, am_clr, and_self, true_and, and_true, true_or, or_true, List.length_cons, List.length_nil] <;> omega) ?_
      refine am_wp_pc (pc' := 84) rfl ?_
      refine am_wp_go rfl (by simp (disch := omega) only [s124 hw, Int.reduceAdd, am_addE, am_subE, am_mulE, am_laddE, am_lsubE, am_upO, am_upS, am_stS, am_stO, am_tnn, am_brl, am_brg, am_bre, am_brn, am_brG, am_brL, am_st1, am_no2, am_st2, am_clr, and_self, true_and, and_true, true_or, or_true, List.length_cons, List.length_nil] <;> omega) ?_
      try simp (disch := omega) only [s124 hw, Int.reduceAdd, am_addE, am_subE, am_mulE, am_laddE, am_lsubE, am_upO, am_upS, am_stS, am_stO, am_tnn, am_brl, am_brg, am_bre, am_brn, am_brG, am_brL, am_st1, am_no2, am_st2, am_clr]
      refine am_wp_cc rfl rfl rfl (congrArg Prod.fst (s124 hw)) (w_M_put hw y4 (by simp [nameT, goT] at HL ⊢; omega) (fun J7 z1 z0 z2 => ⟨_, rfl, ?_⟩))
      refine am_wp_go rfl (by simp (disch := omega) only [s124 hw, Int.reduceAdd, am_addE, am_subE, am_mulE, am_laddE, am_lsubE, am_upO, am_upS, am_stS, am_stO, am_tnn, am_brl, am_brg, am_bre, am_brn, am_brG, am_brL, am_st1, am_no2, am_st2, am_clr, and_self, true_and, and_true, true_or, or_true, List.length_cons, List.length_nil] <;> omega) ?_
      try simp (disch := omega) only [s124 hw, Int.reduceAdd, am_addE, am_subE, am_mulE, am_laddE, am_lsubE, am_upO, am_upS, am_stS, am_stO, am_tnn, am_brl, am_brg, am_bre, am_brn, am_brG, am_brL, am_st1, am_no2, am_st2, am_clr]
      refine am_wp_ls (ih (by omega) _ J7 (frR_tr j1 (frR_tr f5 z1)) ?_) rfl
      rw [wrT, goT, if_neg b48, es]
      simpa using z2
    · skip
      refine am_wp_go rfl (by simp (disch := omega) only [s124 hw, am_addE, am_subE, am_mulE, am_laddE, am_lsubE, am_upO, am_upS, am_stS, am_stO, am_tnn, am_brl, am_brg, am_bre, am_brn, am_brG, am_brL, am_st1, am_no2, am_st2, am_clr, and_self, true_and, and_true, true_or, or_true, List.length_cons, List.length_nil] <;> omega) ?_
      try simp (disch := omega) only [s124 hw, am_addE, am_subE, am_mulE, am_laddE, am_lsubE, am_upO, am_upS, am_stS, am_stO, am_tnn, am_brl, am_brg, am_bre, am_brn, am_brG, am_brL, am_st1, am_no2, am_st2, am_clr]
      refine am_wp_cc rfl rfl rfl (congrArg Prod.fst (s124 hw)) (w_M_put hw c2 (by simp [nameT, goT] at HL ⊢; omega) (fun J3 d1 d0 d2 => ⟨_, rfl, ?_⟩))
      have f2 := frR_tr a1 (frR_tr c1 d1)
      refine am_wp_go rfl (by simp (disch := omega) only [s124 hw, Int.reduceAdd, am_addE, am_subE, am_mulE, am_laddE, am_lsubE, am_upO, am_upS, am_stS, am_stO, am_tnn, am_brl, am_brg, am_bre, am_brn, am_brG, am_brL, am_st1, am_no2, am_st2, am_clr, and_self, true_and, and_true, true_or, or_true, List.length_cons, List.length_nil] <;> omega) ?_
      try simp (disch := omega) only [s124 hw, Int.reduceAdd, am_addE, am_subE, am_mulE, am_laddE, am_lsubE, am_upO, am_upS, am_stS, am_stO, am_tnn, am_brl, am_brg, am_bre, am_brn, am_brG, am_brL, am_st1, am_no2, am_st2, am_clr]
      refine am_wp_go rfl (by simp (disch := omega) only [s124 hw, Int.reduceAdd, am_addE, am_subE, am_mulE, am_laddE, am_lsubE, am_upO, am_upS, am_stS, am_stO, am_tnn, am_brl, am_brg, am_bre, am_brn, am_brG, am_brL, am_st1, am_no2, am_st2, am_clr, and_self, true_and, and_true, true_or, or_true, List.length_cons, List.length_nil] <;> omega) ?_
      refine am_wp_pc (pc' := 68) rfl ?_
      have r2 : rf (pw (J3 126)) G := by rw [f2.1 126 (by decide) (by decide) (by decide)]; exact hrj
      refine am_wp_go rfl (by simp (disch := omega) only [s124 hw, Int.reduceAdd, am_addE, am_subE, am_mulE, am_laddE, am_lsubE, am_upO, am_upS, am_stS, am_stO, am_tnn, am_brl, am_brg, am_bre, am_brn, am_brG, am_brL, am_st1, am_no2, am_st2, am_clr, and_self, true_and, and_true, true_or, or_true, List.length_cons, List.length_nil] <;> omega) ?_
      try simp (disch := omega) only [s124 hw, Int.reduceAdd, am_addE, am_subE, am_mulE, am_laddE, am_lsubE, am_upO, am_upS, am_stS, am_stO, am_tnn, am_brl, am_brg, am_bre, am_brn, am_brG, am_brL, am_st1, am_no2, am_st2, am_clr]
      refine am_wp_cc rfl rfl rfl (congrArg Prod.fst (s124 hw)) (w_M_go2 hw r2 gl (by omega) ⟨_, rfl, ?_⟩)
      refine am_wp_cc rfl rfl rfl (congrArg Prod.fst (s124 hw)) (w_M_putNumber (by omega) hw d2 (by simp [nameT, goT] at HL ⊢; omega) (fun J4 x2 y2 => ⟨_, rfl, ?_⟩))
      have f3 := frR_tr f2 x2
      refine am_wp_go rfl (by simp (disch := omega) only [s124 hw, Int.reduceAdd, am_addE, am_subE, am_mulE, am_laddE, am_lsubE, am_upO, am_upS, am_stS, am_stO, am_tnn, am_brl, am_brg, am_bre, am_brn, am_brG, am_brL, am_st1, am_no2, am_st2, am_clr, and_self, true_and, and_true, true_or, or_true, List.length_cons, List.length_nil] <;> omega) ?_
      try simp (disch := omega) only [s124 hw, Int.reduceAdd, am_addE, am_subE, am_mulE, am_laddE, am_lsubE, am_upO, am_upS, am_stS, am_stO, am_tnn, am_brl, am_brg, am_bre, am_brn, am_brG, am_brL, am_st1, am_no2, am_st2, am_clr]
      refine am_wp_go rfl (by simp (disch := omega) only [s124 hw, Int.reduceAdd, am_addE, am_subE, am_mulE, am_laddE, am_lsubE, am_upO, am_upS, am_stS, am_stO, am_tnn, am_brl, am_brg, am_bre, am_brn, am_brG, am_brL, am_st1, am_no2, am_st2, am_clr, and_self, true_and, and_true, true_or, or_true, List.length_cons, List.length_nil] <;> omega) ?_
      refine am_wp_pc (pc' := 68) rfl ?_
      have r3 : rf (pw (J4 126)) G := by rw [f3.1 126 (by decide) (by decide) (by decide)]; exact hrj
      refine am_wp_go rfl (by simp (disch := omega) only [s124 hw, Int.reduceAdd, am_addE, am_subE, am_mulE, am_laddE, am_lsubE, am_upO, am_upS, am_stS, am_stO, am_tnn, am_brl, am_brg, am_bre, am_brn, am_brG, am_brL, am_st1, am_no2, am_st2, am_clr, and_self, true_and, and_true, true_or, or_true, List.length_cons, List.length_nil] <;> omega) ?_
      try simp (disch := omega) only [s124 hw, Int.reduceAdd, am_addE, am_subE, am_mulE, am_laddE, am_lsubE, am_upO, am_upS, am_stS, am_stO, am_tnn, am_brl, am_brg, am_bre, am_brn, am_brG, am_brL, am_st1, am_no2, am_st2, am_clr]
      refine am_wp_cc rfl rfl rfl (congrArg Prod.fst (s124 hw)) (w_M_go3 hw r3 gl (by omega) ⟨_, rfl, ?_⟩)
      refine am_wp_cc rfl rfl rfl (congrArg Prod.fst (s124 hw)) (w_M_putNumber (by omega) hw y2 (by simp [nameT, goT] at HL ⊢; omega) (fun J5 x3 y3 => ⟨_, rfl, ?_⟩))
      have f4 := frR_tr f3 x3
      refine am_wp_go rfl (by simp (disch := omega) only [s124 hw, Int.reduceAdd, am_addE, am_subE, am_mulE, am_laddE, am_lsubE, am_upO, am_upS, am_stS, am_stO, am_tnn, am_brl, am_brg, am_bre, am_brn, am_brG, am_brL, am_st1, am_no2, am_st2, am_clr, and_self, true_and, and_true, true_or, or_true, List.length_cons, List.length_nil] <;> omega) ?_
      try simp (disch := omega) only [s124 hw, Int.reduceAdd, am_addE, am_subE, am_mulE, am_laddE, am_lsubE, am_upO, am_upS, am_stS, am_stO, am_tnn, am_brl, am_brg, am_bre, am_brn, am_brG, am_brL, am_st1, am_no2, am_st2, am_clr]
      refine am_wp_go rfl (by simp (disch := omega) only [s124 hw, Int.reduceAdd, am_addE, am_subE, am_mulE, am_laddE, am_lsubE, am_upO, am_upS, am_stS, am_stO, am_tnn, am_brl, am_brg, am_bre, am_brn, am_brG, am_brL, am_st1, am_no2, am_st2, am_clr, and_self, true_and, and_true, true_or, or_true, List.length_cons, List.length_nil] <;> omega) ?_
      refine am_wp_pc (pc' := 68) rfl ?_
      have r4 : rf (pw (J5 126)) G := by rw [f4.1 126 (by decide) (by decide) (by decide)]; exact hrj
      refine am_wp_go rfl (by simp (disch := omega) only [s124 hw, Int.reduceAdd, am_addE, am_subE, am_mulE, am_laddE, am_lsubE, am_upO, am_upS, am_stS, am_stO, am_tnn, am_brl, am_brg, am_bre, am_brn, am_brG, am_brL, am_st1, am_no2, am_st2, am_clr, and_self, true_and, and_true, true_or, or_true, List.length_cons, List.length_nil] <;> omega) ?_
      try simp (disch := omega) only [s124 hw, Int.reduceAdd, am_addE, am_subE, am_mulE, am_laddE, am_lsubE, am_upO, am_upS, am_stS, am_stO, am_tnn, am_brl, am_brg, am_bre, am_brn, am_brG, am_brL, am_st1, am_no2, am_st2, am_clr]
      refine am_wp_cc rfl rfl rfl (congrArg Prod.fst (s124 hw)) (w_M_go4 hw r4 gl (by omega) ⟨_, rfl, ?_⟩)
      refine am_wp_cc rfl rfl rfl (congrArg Prod.fst (s124 hw)) (w_M_putNumber (by omega) hw y3 (by simp [nameT, goT] at HL ⊢; omega) (fun J6 x4 y4 => ⟨_, rfl, ?_⟩))
      have f5 := frR_tr f4 x4
      refine am_wp_go rfl (by simp (disch := omega) only [s124 hw, Int.reduceAdd, am_addE, am_subE, am_mulE, am_laddE, am_lsubE, am_upO, am_upS, am_stS, am_stO, am_tnn, am_brl, am_brg, am_bre, am_brn, am_brG, am_brL, am_st1, am_no2, am_st2, am_clr, and_self, true_and, and_true, true_or, or_true, List.length_cons, List.length_nil] <;> omega) ?_
      try simp (disch := omega) only [s124 hw, Int.reduceAdd, am_addE, am_subE, am_mulE, am_laddE, am_lsubE, am_upO, am_upS, am_stS, am_stO, am_tnn, am_brl, am_brg, am_bre, am_brn, am_brG, am_brL, am_st1, am_no2, am_st2, am_clr]
      refine am_wp_go rfl (by simp (disch := omega) only [s124 hw, Int.reduceAdd, am_addE, am_subE, am_mulE, am_laddE, am_lsubE, am_upO, am_upS, am_stS, am_stO, am_tnn, am_brl, am_brg, am_bre, am_brn, am_brG, am_brL, am_st1, am_no2, am_st2, am_clr, and_self, true_and, and_true, true_or, or_true, List.length_cons, List.length_nil] <;> omega) ?_
      refine am_wp_pc (pc' := 84) rfl ?_
      refine am_wp_go rfl (by simp (disch := omega) only [s124 hw, Int.reduceAdd, am_addE, am_subE, am_mulE, am_laddE, am_lsubE, am_upO, am_upS, am_stS, am_stO, am_tnn, am_brl, am_brg, am_bre, am_brn, am_brG, am_brL, am_st1, am_no2, am_st2, am_clr, and_self, true_and, and_true, true_or, or_true, List.length_cons, List.length_nil] <;> omega) ?_
      try simp (disch := omega) only [s124 hw, Int.reduceAdd, am_addE, am_subE, am_mulE, am_laddE, am_lsubE, am_upO, am_upS, am_stS, am_stO, am_tnn, am_brl, am_brg, am_bre, am_brn, am_brG, am_brL, am_st1, am_no2, am_st2, am_clr]
      refine am_wp_cc rfl rfl rfl (congrArg Prod.fst (s124 hw)) (w_M_put hw y4 (by simp [nameT, goT] at HL ⊢; omega) (fun J7 z1 z0 z2 => ⟨_, rfl, ?_⟩))
      refine am_wp_go rfl (by simp (disch := omega) only [s124 hw, Int.reduceAdd, am_addE, am_subE, am_mulE, am_laddE, am_lsubE, am_upO, am_upS, am_stS, am_stO, am_tnn, am_brl, am_brg, am_bre, am_brn, am_brG, am_brL, am_st1, am_no2, am_st2, am_clr, and_self, true_and, and_true, true_or, or_true, List.length_cons, List.length_nil] <;> omega) ?_
      try simp (disch := omega) only [s124 hw, Int.reduceAdd, am_addE, am_subE, am_mulE, am_laddE, am_lsubE, am_upO, am_upS, am_stS, am_stO, am_tnn, am_brl, am_brg, am_bre, am_brn, am_brG, am_brL, am_st1, am_no2, am_st2, am_clr]
      refine am_wp_ls (ih (by omega) _ J7 (frR_tr j1 (frR_tr f5 z1)) ?_) rfl
      rw [wrT, goT, if_pos (by omega), es]
      simpa using z2
end WRITE
