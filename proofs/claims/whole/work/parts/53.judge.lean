/-! WRONG by the board; judge -/
theorem am_xor1 : ∀ s : Fin 16, am_xor ((s.val : Nat) : Int) 1 = (((if s.val % 2 = 0 then s.val + 1 else s.val - 1 : Nat)) : Int) := by decide +kernel
def xr (s : Nat) : Nat := if s % 2 = 0 then s + 1 else s - 1
theorem am_xr {s : Nat} (h : s < 16) : am_xor (s : Int) 1 = (xr s : Int) := am_xor1 ⟨s, h⟩
theorem xr_lt {s : Nat} (h : s < 16) : xr s < 16 := by unfold xr; split <;> omega
section JUDGE
variable {m sl : Nat} {sh : Nat → Nat × Nat} {I : Nat → Nat → Int} {R : Nat → Nat → Nat} {Q : am_R → am_M → Prop} {d k p : Nat} {W N : Nat → Int} {G : List Go}
/-- which GOES a mark of a PLACE, of a SLICE, of the other side is of -/
theorem mk_place {t : Nat} (hg : gok G) (hk : k ≤ G.length) {l : Nat} (hl : l < 4) : (mkG G k t &&& 2 ^ l ≠ 0) ↔ ∃ j, j < k ∧ (gB G j ≤ t ∧ (t : Int) < gB G j + gN G j) ∧ gL G j = (l : Int) := by
  rw [mk_and]
  constructor
  · rintro ⟨j, hj, ho, h⟩
    have := hg.2 j (by omega)
    rw [Nat.testBit_two_pow, Nat.testBit_two_pow, decide_eq_true_iff, decide_eq_true_iff] at h
    exact ⟨j, hj, ho, by omega⟩
  · rintro ⟨j, hj, ho, h⟩
    refine ⟨j, hj, ho, Or.inl ?_⟩
    rw [Nat.testBit_two_pow, decide_eq_true_iff]
    omega
theorem mk_side {t : Nat} (hg : gok G) (hk : k ≤ G.length) {s : Nat} (hs : s < 16) : (mkG G k t &&& 2 ^ (4 + s) ≠ 0) ↔ ∃ j, j < k ∧ (gB G j ≤ t ∧ (t : Int) < gB G j + gN G j) ∧ 2 * gS G j + gU G j = (s : Int) := by
  rw [mk_and]
  constructor
  · rintro ⟨j, hj, ho, h⟩
    have := hg.2 j (by omega)
    rw [Nat.testBit_two_pow, Nat.testBit_two_pow, decide_eq_true_iff, decide_eq_true_iff] at h
    exact ⟨j, hj, ho, by omega⟩
  · rintro ⟨j, hj, ho, h⟩
    refine ⟨j, hj, ho, Or.inr ?_⟩
    rw [Nat.testBit_two_pow, decide_eq_true_iff]
    omega
theorem mk_or {x y z : Nat} : (x &&& (y ||| z) ≠ 0) ↔ (x &&& y ≠ 0) ∨ (x &&& z ≠ 0) := by
  rw [ax_and_ne, ax_and_ne, ax_and_ne]
  constructor
  · rintro ⟨b, h1, h2⟩
    rw [Nat.testBit_or, Bool.or_eq_true] at h2
    rcases h2 with h2 | h2
    · exact Or.inl ⟨b, h1, h2⟩
    · exact Or.inr ⟨b, h1, h2⟩
  · rintro (⟨b, h1, h2⟩ | ⟨b, h1, h2⟩)
    · exact ⟨b, h1, by rw [Nat.testBit_or, h2]; rfl⟩
    · exact ⟨b, h1, by rw [Nat.testBit_or, h2, Bool.or_true]⟩
theorem w_kindOfWrong (hw : wd sh R) (hk : kit I 6 W N) (hp : pl_is sh R p) (ho : pl I p G) (hgk : gkt W G) (hb : bd I G k) (hkl : k < G.length) (h : Q (am_yi (wrF W G k (gB G k))) (m, sl, sh, I, R)) : am_wp (d + 3) 6 0 [some (.inr (.inr (61))), some (.inr (.inr (6))), some (.inr (.inr (p))), some (.inl ((k : Int))), none, none, none, none, none] [] (m, sl, sh, I, R) Q := by
  have hg := pl_gok ho
  have g1 := hg.2 k hkl
  have g2 := hgk k hkl
  have n1 := wk_nS hk.1
  obtain ⟨b, eb⟩ : ∃ b : Nat, gB G k = (b : Int) := ⟨(gB G k).toNat, by omega⟩
  obtain ⟨n, en⟩ : ∃ n : Nat, gN G k = (n : Int) := ⟨(gN G k).toNat, by omega⟩
  obtain ⟨l, el⟩ : ∃ l : Nat, gL G k = (l : Int) := ⟨(gL G k).toNat, by omega⟩
  obtain ⟨s, es⟩ : ∃ s : Nat, 2 * gS G k + gU G k = (s : Int) := ⟨(2 * gS G k + gU G k).toNat, by omega⟩
  have ex := am_xr (s := s) (by omega)
  have lx := xr_lt (s := s) (by omega)
  have xd : xr s = if s % 2 = 0 then s + 1 else s - 1 := rfl
  have p1 := ax_p20 (s := l) (by omega)
  have p2 := ax_p20 (s := 4 + s) (by omega)
  have p3 := ax_p20 (s := 4 + xr s) (by omega)
  have p4 := ax_or20 p2 p3
  have w1 : 0 ≤ W 1 ∧ W 1 ≤ 9 := ⟨hk.1.1.2.2.1, hk.1.1.2.2.2.1⟩
  have k2 : I 6 2 = W 1 := hk.2.1.2.1
  have hsl : s < 2 * nS W := by omega
  have hs2 : ((s / 2 : Nat) : Int) = gS G k := by omega
  -- what the five looks find
  have A1 : exq (wc1 G k (gB G k)) k ↔ ∃ t : Nat, (b : Int) ≤ t ∧ (t : Int) < (b : Int) + n ∧ t < 1000 ∧ mkG G k t &&& 2 ^ l ≠ 0 := by
    constructor
    · rintro ⟨j, hj, ⟨h1, h2⟩, h3⟩
      have gj := hg.2 j (by omega)
      obtain ⟨t, ht⟩ : ∃ t : Nat, (t : Int) = if gB G j < gB G k then gB G k else gB G j := ⟨(if gB G j < gB G k then gB G k else gB G j).toNat, by split <;> omega⟩
      have ht2 : (b : Int) ≤ t ∧ (t : Int) < (b : Int) + n ∧ t < 1000 ∧ gB G j ≤ t ∧ (t : Int) < gB G j + gN G j := by split at ht <;> omega
      exact ⟨t, ht2.1, ht2.2.1, ht2.2.2.1, (mk_place hg (by omega) (by omega)).mpr ⟨j, hj, ht2.2.2.2, by omega⟩⟩
    · rintro ⟨t, h1, h2, h3, h4⟩
      obtain ⟨j, hj, h5, h6⟩ := (mk_place hg (by omega) (by omega)).mp h4
      exact ⟨j, hj, ⟨by omega, by omega⟩, by omega⟩
  have A2 : exq (wc2 G k (gB G k)) k ↔ ∃ t : Nat, (b : Int) ≤ t ∧ (t : Int) < (b : Int) + n ∧ t < 1000 ∧ mkG G k t &&& (2 ^ (4 + s) ||| 2 ^ (4 + xr s)) ≠ 0 := by
    constructor
    · rintro ⟨j, hj, ⟨h1, h2⟩, h3⟩
      have gj := hg.2 j (by omega)
      obtain ⟨t, ht⟩ : ∃ t : Nat, (t : Int) = if gB G j < gB G k then gB G k else gB G j := ⟨(if gB G j < gB G k then gB G k else gB G j).toNat, by split <;> omega⟩
      have ht2 : (b : Int) ≤ t ∧ (t : Int) < (b : Int) + n ∧ t < 1000 ∧ gB G j ≤ t ∧ (t : Int) < gB G j + gN G j := by split at ht <;> omega
      refine ⟨t, ht2.1, ht2.2.1, ht2.2.2.1, mk_or.mpr ?_⟩
      by_cases hu : gU G j = gU G k
      · exact Or.inl ((mk_side hg (by omega) (by omega)).mpr ⟨j, hj, ht2.2.2.2, by omega⟩)
      · exact Or.inr ((mk_side hg (by omega) (by omega)).mpr ⟨j, hj, ht2.2.2.2, by rw [xd]; split <;> omega⟩)
    · rintro ⟨t, h1, h2, h3, h4⟩
      rcases mk_or.mp h4 with h4 | h4
      · obtain ⟨j, hj, h5, h6⟩ := (mk_side hg (by omega) (by omega)).mp h4
        have gj := hg.2 j (by omega)
        exact ⟨j, hj, ⟨by omega, by omega⟩, by omega⟩
      · obtain ⟨j, hj, h5, h6⟩ := (mk_side hg (by omega) (by omega)).mp h4
        have gj := hg.2 j (by omega)
        exact ⟨j, hj, ⟨by omega, by omega⟩, by rw [xd] at h6; split at h6 <;> omega⟩
  have A5 : ¬ exq (wc2 G k (gB G k)) k → (exq (wc5 W G k (gB G k)) k ↔ (∃ t : Nat, (b : Int) - W 1 ≤ t ∧ (t : Int) < b ∧ t < 1000 ∧ mkG G k t &&& 2 ^ (4 + xr s) ≠ 0) ∨ (∃ t : Nat, (b : Int) + n ≤ t ∧ (t : Int) < (b : Int) + n + W 1 ∧ t < 1000 ∧ mkG G k t &&& 2 ^ (4 + xr s) ≠ 0)) := by
    intro hn2
    constructor
    · rintro ⟨j, hj, h1, h2, h3, h4⟩
      have gj := hg.2 j (by omega)
      have hx : 2 * gS G j + gU G j = (xr s : Int) := by rw [xd]; split <;> omega
      unfold ovG at h3
      rcases h4 with ⟨h4, h5⟩ | ⟨h4, h5⟩
      · obtain ⟨t, ht⟩ : ∃ t : Nat, (t : Int) = gB G j + gN G j - 1 := ⟨(gB G j + gN G j - 1).toNat, by omega⟩
        exact Or.inl ⟨t, by omega, by omega, by omega, (mk_side hg (by omega) (by omega)).mpr ⟨j, hj, by omega, hx⟩⟩
      · obtain ⟨t, ht⟩ : ∃ t : Nat, (t : Int) = gB G j := ⟨(gB G j).toNat, by omega⟩
        exact Or.inr ⟨t, by omega, by omega, by omega, (mk_side hg (by omega) (by omega)).mpr ⟨j, hj, by omega, hx⟩⟩
    · have key : ∀ j, j < k → 2 * gS G j + gU G j = (xr s : Int) → gS G j = gS G k ∧ gU G j ≠ gU G k ∧ ¬ ovG G (gB G k) (gN G k) j := by
        intro j hj hx
        have gj := hg.2 j (by omega)
        have hs3 : gS G j = gS G k ∧ gU G j ≠ gU G k := by rw [xd] at hx; split at hx <;> omega
        exact ⟨hs3.1, hs3.2, fun hc => hn2 ⟨j, hj, hc, hs3.1⟩⟩
      rintro (⟨t, h1, h2, h3, h4⟩ | ⟨t, h1, h2, h3, h4⟩)
      · obtain ⟨j, hj, h5, h6⟩ := (mk_side hg (by omega) (by omega)).mp h4
        obtain ⟨c1, c2, c3⟩ := key j hj h6
        have gj := hg.2 j (by omega)
        refine ⟨j, hj, c1, c2, c3, ?_⟩
        unfold ovG at c3
        omega
      · obtain ⟨j, hj, h5, h6⟩ := (mk_side hg (by omega) (by omega)).mp h4
        obtain ⟨c1, c2, c3⟩ := key j hj h6
        have gj := hg.2 j (by omega)
        refine ⟨j, hj, c1, c2, c3, ?_⟩
        unfold ovG at c3
        omega
  unfold wrF at h
  refine am_wp_go rfl (by simp (disch := omega) only [s6 hw, k2, ex, am_b0, am_bn0, am_orN, am_addE, am_subE, am_mulE, am_laddE, am_lsubE, am_upO, am_upS, am_stS, am_stO, am_tnn, am_brl, am_brg, am_bre, am_brn, am_brG, am_brL, am_st1, am_no2, am_st2, am_clr, and_self, true_and, and_true, true_or, or_true, List.length_cons, List.length_nil] <;> omega) ?_
  try simp (disch := omega) only [s6 hw, k2, ex, am_b0, am_bn0, am_orN, am_addE, am_subE, am_mulE, am_laddE, am_lsubE, am_upO, am_upS, am_stS, am_stO, am_tnn, am_brl, am_brg, am_bre, am_brn, am_brG, am_brL, am_st1, am_no2, am_st2, am_clr]
  refine am_wp_cc rfl rfl rfl (congrArg Prod.fst (hp.1)) (w_sideOf hp ho hkl ⟨_, rfl, ?_⟩)
  rw [es]
  refine am_wp_go rfl (by simp (disch := omega) only [s6 hw, k2, ex, am_b0, am_bn0, am_orN, am_addE, am_subE, am_mulE, am_laddE, am_lsubE, am_upO, am_upS, am_stS, am_stO, am_tnn, am_brl, am_brg, am_bre, am_brn, am_brG, am_brL, am_st1, am_no2, am_st2, am_clr, and_self, true_and, and_true, true_or, or_true, List.length_cons, List.length_nil] <;> omega) ?_
  try simp (disch := omega) only [s6 hw, k2, ex, am_b0, am_bn0, am_orN, am_addE, am_subE, am_mulE, am_laddE, am_lsubE, am_upO, am_upS, am_stS, am_stO, am_tnn, am_brl, am_brg, am_bre, am_brn, am_brG, am_brL, am_st1, am_no2, am_st2, am_clr]
  refine am_wp_cc rfl rfl rfl (congrArg Prod.fst (hp.1)) (w_beginOf hp ho hkl ⟨_, rfl, ?_⟩)
  rw [eb]
  refine am_wp_go rfl (by simp (disch := omega) only [s6 hw, k2, ex, am_b0, am_bn0, am_orN, am_addE, am_subE, am_mulE, am_laddE, am_lsubE, am_upO, am_upS, am_stS, am_stO, am_tnn, am_brl, am_brg, am_bre, am_brn, am_brG, am_brL, am_st1, am_no2, am_st2, am_clr, and_self, true_and, and_true, true_or, or_true, List.length_cons, List.length_nil] <;> omega) ?_
  try simp (disch := omega) only [s6 hw, k2, ex, am_b0, am_bn0, am_orN, am_addE, am_subE, am_mulE, am_laddE, am_lsubE, am_upO, am_upS, am_stS, am_stO, am_tnn, am_brl, am_brg, am_bre, am_brn, am_brG, am_brL, am_st1, am_no2, am_st2, am_clr]
  refine am_wp_cc rfl rfl rfl (congrArg Prod.fst (hp.1)) (w_endOf hp ho hkl ⟨_, rfl, ?_⟩)
  rw [eb, en]
  refine am_wp_go rfl (by simp (disch := omega) only [s6 hw, k2, ex, am_b0, am_bn0, am_orN, am_addE, am_subE, am_mulE, am_laddE, am_lsubE, am_upO, am_upS, am_stS, am_stO, am_tnn, am_brl, am_brg, am_bre, am_brn, am_brG, am_brL, am_st1, am_no2, am_st2, am_clr, and_self, true_and, and_true, true_or, or_true, List.length_cons, List.length_nil] <;> omega) ?_
  try simp (disch := omega) only [s6 hw, k2, ex, am_b0, am_bn0, am_orN, am_addE, am_subE, am_mulE, am_laddE, am_lsubE, am_upO, am_upS, am_stS, am_stO, am_tnn, am_brl, am_brg, am_bre, am_brn, am_brG, am_brL, am_st1, am_no2, am_st2, am_clr]
  refine am_wp_cc rfl rfl rfl (trivial) (w_sideMark lx ⟨_, rfl, ?_⟩)
  refine am_wp_go rfl (by simp (disch := omega) only [s6 hw, k2, ex, am_b0, am_bn0, am_orN, am_addE, am_subE, am_mulE, am_laddE, am_lsubE, am_upO, am_upS, am_stS, am_stO, am_tnn, am_brl, am_brg, am_bre, am_brn, am_brG, am_brL, am_st1, am_no2, am_st2, am_clr, and_self, true_and, and_true, true_or, or_true, List.length_cons, List.length_nil] <;> omega) ?_
  try simp (disch := omega) only [s6 hw, k2, ex, am_b0, am_bn0, am_orN, am_addE, am_subE, am_mulE, am_laddE, am_lsubE, am_upO, am_upS, am_stS, am_stO, am_tnn, am_brl, am_brg, am_bre, am_brn, am_brG, am_brL, am_st1, am_no2, am_st2, am_clr]
  refine am_wp_cc rfl rfl rfl (congrArg Prod.fst (hp.1)) (w_placeOf hp ho hkl ⟨_, rfl, ?_⟩)
  rw [el]
  refine am_wp_cc rfl rfl rfl (trivial) (w_placeMark (by omega) ⟨_, rfl, ?_⟩)
  refine am_wp_cc rfl rfl rfl (congrArg Prod.fst (s61 hw)) (w_isMarked hw hb hg (by omega) (by omega) p1 (fun t t1 t2 t3 t4 => ⟨_, rfl, ?_⟩) (fun t0 => ⟨_, rfl, ?_⟩))
  · rw [if_pos (A1.mpr ⟨t, t1, t2, t3, t4⟩)] at h
    refine am_wp_go rfl (by simp (disch := omega) only [s6 hw, k2, ex, am_b0, am_bn0, am_orN, am_addE, am_subE, am_mulE, am_laddE, am_lsubE, am_upO, am_upS, am_stS, am_stO, am_tnn, am_brl, am_brg, am_bre, am_brn, am_brG, am_brL, am_st1, am_no2, am_st2, am_clr, and_self, true_and, and_true, true_or, or_true, List.length_cons, List.length_nil] <;> omega) ?_
    refine am_wp_pc (pc' := 49) rfl ?_
    refine am_wp_go rfl (by simp (disch := omega) only [s6 hw, k2, ex, am_b0, am_bn0, am_orN, am_addE, am_subE, am_mulE, am_laddE, am_lsubE, am_upO, am_upS, am_stS, am_stO, am_tnn, am_brl, am_brg, am_bre, am_brn, am_brG, am_brL, am_st1, am_no2, am_st2, am_clr, and_self, true_and, and_true, true_or, or_true, List.length_cons, List.length_nil] <;> omega) ?_
    try simp (disch := omega) only [s6 hw, k2, ex, am_b0, am_bn0, am_orN, am_addE, am_subE, am_mulE, am_laddE, am_lsubE, am_upO, am_upS, am_stS, am_stO, am_tnn, am_brl, am_brg, am_bre, am_brn, am_brG, am_brL, am_st1, am_no2, am_st2, am_clr]
    refine am_wp_ret rfl rfl ?_
    exact h
  · rw [if_neg (fun hc => by obtain ⟨t, t1, t2, t3, t4⟩ := A1.mp hc; exact t4 (t0 t t1 t2 t3))] at h
    refine am_wp_go rfl (by simp (disch := omega) only [s6 hw, k2, ex, am_b0, am_bn0, am_orN, am_addE, am_subE, am_mulE, am_laddE, am_lsubE, am_upO, am_upS, am_stS, am_stO, am_tnn, am_brl, am_brg, am_bre, am_brn, am_brG, am_brL, am_st1, am_no2, am_st2, am_clr, and_self, true_and, and_true, true_or, or_true, List.length_cons, List.length_nil] <;> omega) ?_
    refine am_wp_pc (pc' := 51) rfl ?_
    refine am_wp_go rfl (by simp (disch := omega) only [s6 hw, k2, ex, am_b0, am_bn0, am_orN, am_addE, am_subE, am_mulE, am_laddE, am_lsubE, am_upO, am_upS, am_stS, am_stO, am_tnn, am_brl, am_brg, am_bre, am_brn, am_brG, am_brL, am_st1, am_no2, am_st2, am_clr, and_self, true_and, and_true, true_or, or_true, List.length_cons, List.length_nil] <;> omega) ?_
    try simp (disch := omega) only [s6 hw, k2, ex, am_b0, am_bn0, am_orN, am_addE, am_subE, am_mulE, am_laddE, am_lsubE, am_upO, am_upS, am_stS, am_stO, am_tnn, am_brl, am_brg, am_bre, am_brn, am_brG, am_brL, am_st1, am_no2, am_st2, am_clr]
    refine am_wp_cc rfl rfl rfl (trivial) (w_sideMark (by omega) ⟨_, rfl, ?_⟩)
    refine am_wp_go rfl (by simp (disch := omega) only [s6 hw, k2, ex, am_b0, am_bn0, am_orN, am_addE, am_subE, am_mulE, am_laddE, am_lsubE, am_upO, am_upS, am_stS, am_stO, am_tnn, am_brl, am_brg, am_bre, am_brn, am_brG, am_brL, am_st1, am_no2, am_st2, am_clr, and_self, true_and, and_true, true_or, or_true, List.length_cons, List.length_nil] <;> omega) ?_
    try simp (disch := omega) only [s6 hw, k2, ex, am_b0, am_bn0, am_orN, am_addE, am_subE, am_mulE, am_laddE, am_lsubE, am_upO, am_upS, am_stS, am_stO, am_tnn, am_brl, am_brg, am_bre, am_brn, am_brG, am_brL, am_st1, am_no2, am_st2, am_clr]
    refine am_wp_cc rfl rfl rfl (congrArg Prod.fst (s61 hw)) (w_isMarked hw hb hg (by omega) (by omega) p4 (fun t t1 t2 t3 t4 => ⟨_, rfl, ?_⟩) (fun t0 => ⟨_, rfl, ?_⟩))
    · rw [if_pos (A2.mpr ⟨t, t1, t2, t3, t4⟩)] at h
      refine am_wp_go rfl (by simp (disch := omega) only [s6 hw, k2, ex, am_b0, am_bn0, am_orN, am_addE, am_subE, am_mulE, am_laddE, am_lsubE, am_upO, am_upS, am_stS, am_stO, am_tnn, am_brl, am_brg, am_bre, am_brn, am_brG, am_brL, am_st1, am_no2, am_st2, am_clr, and_self, true_and, and_true, true_or, or_true, List.length_cons, List.length_nil] <;> omega) ?_
      refine am_wp_pc (pc' := 70) rfl ?_
      refine am_wp_go rfl (by simp (disch := omega) only [s6 hw, k2, ex, am_b0, am_bn0, am_orN, am_addE, am_subE, am_mulE, am_laddE, am_lsubE, am_upO, am_upS, am_stS, am_stO, am_tnn, am_brl, am_brg, am_bre, am_brn, am_brG, am_brL, am_st1, am_no2, am_st2, am_clr, and_self, true_and, and_true, true_or, or_true, List.length_cons, List.length_nil] <;> omega) ?_
      try simp (disch := omega) only [s6 hw, k2, ex, am_b0, am_bn0, am_orN, am_addE, am_subE, am_mulE, am_laddE, am_lsubE, am_upO, am_upS, am_stS, am_stO, am_tnn, am_brl, am_brg, am_bre, am_brn, am_brG, am_brL, am_st1, am_no2, am_st2, am_clr]
      refine am_wp_ret rfl rfl ?_
      exact h
    · have hn2 : ¬ exq (wc2 G k (gB G k)) k := fun hc => by obtain ⟨t, t1, t2, t3, t4⟩ := A2.mp hc; exact t4 (t0 t t1 t2 t3)
      rw [if_neg hn2] at h
      refine am_wp_go rfl (by simp (disch := omega) only [s6 hw, k2, ex, am_b0, am_bn0, am_orN, am_addE, am_subE, am_mulE, am_laddE, am_lsubE, am_upO, am_upS, am_stS, am_stO, am_tnn, am_brl, am_brg, am_bre, am_brn, am_brG, am_brL, am_st1, am_no2, am_st2, am_clr, and_self, true_and, and_true, true_or, or_true, List.length_cons, List.length_nil] <;> omega) ?_
      refine am_wp_pc (pc' := 72) rfl ?_
      refine am_wp_go rfl (by simp (disch := omega) only [s6 hw, k2, ex, am_b0, am_bn0, am_orN, am_addE, am_subE, am_mulE, am_laddE, am_lsubE, am_upO, am_upS, am_stS, am_stO, am_tnn, am_brl, am_brg, am_bre, am_brn, am_brG, am_brL, am_st1, am_no2, am_st2, am_clr, and_self, true_and, and_true, true_or, or_true, List.length_cons, List.length_nil] <;> omega) ?_
      try simp (disch := omega) only [s6 hw, k2, ex, am_b0, am_bn0, am_orN, am_addE, am_subE, am_mulE, am_laddE, am_lsubE, am_upO, am_upS, am_stS, am_stO, am_tnn, am_brl, am_brg, am_bre, am_brn, am_brG, am_brL, am_st1, am_no2, am_st2, am_clr]
      refine am_wp_cc rfl rfl rfl (congrArg Prod.fst (s61 hw)) (w_hasTooMany hw hk hp ho hgk hb hkl ⟨_, rfl, ?_⟩)
      refine am_wp_go rfl (by simp (disch := omega) only [s6 hw, k2, ex, am_b0, am_bn0, am_orN, am_addE, am_subE, am_mulE, am_laddE, am_lsubE, am_upO, am_upS, am_stS, am_stO, am_tnn, am_brl, am_brg, am_bre, am_brn, am_brG, am_brL, am_st1, am_no2, am_st2, am_clr, and_self, true_and, and_true, true_or, or_true, List.length_cons, List.length_nil] <;> omega) ?_
      try simp (disch := omega) only [s6 hw, k2, ex, am_b0, am_bn0, am_orN, am_addE, am_subE, am_mulE, am_laddE, am_lsubE, am_upO, am_upS, am_stS, am_stO, am_tnn, am_brl, am_brg, am_bre, am_brn, am_brG, am_brL, am_st1, am_no2, am_st2, am_clr]
      refine am_wp_br (fun b79 => ?_) (fun b79 => ?_)
      · rw [if_neg (show ¬ wp3 W G k from b79)] at h
        refine am_wp_go rfl (by simp (disch := omega) only [s6 hw, k2, ex, am_b0, am_bn0, am_orN, am_addE, am_subE, am_mulE, am_laddE, am_lsubE, am_upO, am_upS, am_stS, am_stO, am_tnn, am_brl, am_brg, am_bre, am_brn, am_brG, am_brL, am_st1, am_no2, am_st2, am_clr, and_self, true_and, and_true, true_or, or_true, List.length_cons, List.length_nil] <;> omega) ?_
        try simp (disch := omega) only [s6 hw, k2, ex, am_b0, am_bn0, am_orN, am_addE, am_subE, am_mulE, am_laddE, am_lsubE, am_upO, am_upS, am_stS, am_stO, am_tnn, am_brl, am_brg, am_bre, am_brn, am_brG, am_brL, am_st1, am_no2, am_st2, am_clr]
        refine am_wp_cc rfl rfl rfl (congrArg Prod.fst (s61 hw)) (w_isOnAgain hw hk hb hsl ⟨_, rfl, ?_⟩)
        have A4 : exq (wc4 W G k) k ↔ W (8 + 3 * (s / 2) + 2) = 1 ∧ 0 < hadG G k s := by
          have b0 := hk.1.2.1 (s / 2) (by omega)
          rw [hadG_pos hg (by omega)]
          have e0 : (gS G k).toNat = s / 2 := by omega
          constructor
          · rintro ⟨j, hj, h1, h2, h3⟩
            rw [e0] at h1
            exact ⟨by omega, j, hj, by omega⟩
          · rintro ⟨h1, j, hj, h2⟩
            have gj := hg.2 j (by omega)
            exact ⟨j, hj, by rw [e0]; omega, by omega, by omega⟩
        refine am_wp_go rfl (by simp (disch := omega) only [s6 hw, k2, ex, am_b0, am_bn0, am_orN, am_addE, am_subE, am_mulE, am_laddE, am_lsubE, am_upO, am_upS, am_stS, am_stO, am_tnn, am_brl, am_brg, am_bre, am_brn, am_brG, am_brL, am_st1, am_no2, am_st2, am_clr, and_self, true_and, and_true, true_or, or_true, List.length_cons, List.length_nil] <;> omega) ?_
        try simp (disch := omega) only [s6 hw, k2, ex, am_b0, am_bn0, am_orN, am_addE, am_subE, am_mulE, am_laddE, am_lsubE, am_upO, am_upS, am_stS, am_stO, am_tnn, am_brl, am_brg, am_bre, am_brn, am_brG, am_brL, am_st1, am_no2, am_st2, am_clr]
        refine am_wp_br (fun b91 => ?_) (fun b91 => ?_)
        · rw [if_neg (fun hc => b91 (A4.mp hc))] at h
          have A5 := A5 hn2
          refine am_wp_go rfl (by simp (disch := omega) only [s6 hw, k2, ex, am_b0, am_bn0, am_orN, am_addE, am_subE, am_mulE, am_laddE, am_lsubE, am_upO, am_upS, am_stS, am_stO, am_tnn, am_brl, am_brg, am_bre, am_brn, am_brG, am_brL, am_st1, am_no2, am_st2, am_clr, and_self, true_and, and_true, true_or, or_true, List.length_cons, List.length_nil] <;> omega) ?_
          try simp (disch := omega) only [s6 hw, k2, ex, am_b0, am_bn0, am_orN, am_addE, am_subE, am_mulE, am_laddE, am_lsubE, am_upO, am_upS, am_stS, am_stO, am_tnn, am_brl, am_brg, am_bre, am_brn, am_brG, am_brL, am_st1, am_no2, am_st2, am_clr]
          refine am_wp_cc rfl rfl rfl (congrArg Prod.fst (s61 hw)) (w_isMarked hw hb hg (by omega) (by omega) p3 (fun t t1 t2 t3 t4 => ⟨_, rfl, ?_⟩) (fun t0 => ⟨_, rfl, ?_⟩))
          · rw [if_pos (A5.mpr (Or.inl ⟨t, t1, t2, t3, t4⟩))] at h
            refine am_wp_go rfl (by simp (disch := omega) only [s6 hw, k2, ex, am_b0, am_bn0, am_orN, am_addE, am_subE, am_mulE, am_laddE, am_lsubE, am_upO, am_upS, am_stS, am_stO, am_tnn, am_brl, am_brg, am_bre, am_brn, am_brG, am_brL, am_st1, am_no2, am_st2, am_clr, and_self, true_and, and_true, true_or, or_true, List.length_cons, List.length_nil] <;> omega) ?_
            refine am_wp_pc (pc' := 132) rfl ?_
            refine am_wp_go rfl (by simp (disch := omega) only [s6 hw, k2, ex, am_b0, am_bn0, am_orN, am_addE, am_subE, am_mulE, am_laddE, am_lsubE, am_upO, am_upS, am_stS, am_stO, am_tnn, am_brl, am_brg, am_bre, am_brn, am_brG, am_brL, am_st1, am_no2, am_st2, am_clr, and_self, true_and, and_true, true_or, or_true, List.length_cons, List.length_nil] <;> omega) ?_
            refine am_wp_pc (pc' := 144) rfl ?_
            refine am_wp_go rfl (by simp (disch := omega) only [s6 hw, k2, ex, am_b0, am_bn0, am_orN, am_addE, am_subE, am_mulE, am_laddE, am_lsubE, am_upO, am_upS, am_stS, am_stO, am_tnn, am_brl, am_brg, am_bre, am_brn, am_brG, am_brL, am_st1, am_no2, am_st2, am_clr, and_self, true_and, and_true, true_or, or_true, List.length_cons, List.length_nil] <;> omega) ?_
            try simp (disch := omega) only [s6 hw, k2, ex, am_b0, am_bn0, am_orN, am_addE, am_subE, am_mulE, am_laddE, am_lsubE, am_upO, am_upS, am_stS, am_stO, am_tnn, am_brl, am_brg, am_bre, am_brn, am_brG, am_brL, am_st1, am_no2, am_st2, am_clr]
            refine am_wp_ret rfl rfl ?_
            exact h
          · refine am_wp_go rfl (by simp (disch := omega) only [s6 hw, k2, ex, am_b0, am_bn0, am_orN, am_addE, am_subE, am_mulE, am_laddE, am_lsubE, am_upO, am_upS, am_stS, am_stO, am_tnn, am_brl, am_brg, am_bre, am_brn, am_brG, am_brL, am_st1, am_no2, am_st2, am_clr, and_self, true_and, and_true, true_or, or_true, List.length_cons, List.length_nil] <;> omega) ?_
            refine am_wp_pc (pc' := 114) rfl ?_
            refine am_wp_go rfl (by simp (disch := omega) only [s6 hw, k2, ex, am_b0, am_bn0, am_orN, am_addE, am_subE, am_mulE, am_laddE, am_lsubE, am_upO, am_upS, am_stS, am_stO, am_tnn, am_brl, am_brg, am_bre, am_brn, am_brG, am_brL, am_st1, am_no2, am_st2, am_clr, and_self, true_and, and_true, true_or, or_true, List.length_cons, List.length_nil] <;> omega) ?_
            try simp (disch := omega) only [s6 hw, k2, ex, am_b0, am_bn0, am_orN, am_addE, am_subE, am_mulE, am_laddE, am_lsubE, am_upO, am_upS, am_stS, am_stO, am_tnn, am_brl, am_brg, am_bre, am_brn, am_brG, am_brL, am_st1, am_no2, am_st2, am_clr]
            refine am_wp_cc rfl rfl rfl (congrArg Prod.fst (s61 hw)) (w_isMarked hw hb hg (by omega) (by omega) p3 (fun t t1 t2 t3 t4 => ⟨_, rfl, ?_⟩) (fun u0 => ⟨_, rfl, ?_⟩))
            · rw [if_pos (A5.mpr (Or.inr ⟨t, t1, t2, t3, t4⟩))] at h
              refine am_wp_go rfl (by simp (disch := omega) only [s6 hw, k2, ex, am_b0, am_bn0, am_orN, am_addE, am_subE, am_mulE, am_laddE, am_lsubE, am_upO, am_upS, am_stS, am_stO, am_tnn, am_brl, am_brg, am_bre, am_brn, am_brG, am_brL, am_st1, am_no2, am_st2, am_clr, and_self, true_and, and_true, true_or, or_true, List.length_cons, List.length_nil] <;> omega) ?_
              refine am_wp_pc (pc' := 132) rfl ?_
              refine am_wp_go rfl (by simp (disch := omega) only [s6 hw, k2, ex, am_b0, am_bn0, am_orN, am_addE, am_subE, am_mulE, am_laddE, am_lsubE, am_upO, am_upS, am_stS, am_stO, am_tnn, am_brl, am_brg, am_bre, am_brn, am_brG, am_brL, am_st1, am_no2, am_st2, am_clr, and_self, true_and, and_true, true_or, or_true, List.length_cons, List.length_nil] <;> omega) ?_
              refine am_wp_pc (pc' := 144) rfl ?_
              refine am_wp_go rfl (by simp (disch := omega) only [s6 hw, k2, ex, am_b0, am_bn0, am_orN, am_addE, am_subE, am_mulE, am_laddE, am_lsubE, am_upO, am_upS, am_stS, am_stO, am_tnn, am_brl, am_brg, am_bre, am_brn, am_brG, am_brL, am_st1, am_no2, am_st2, am_clr, and_self, true_and, and_true, true_or, or_true, List.length_cons, List.length_nil] <;> omega) ?_
              try simp (disch := omega) only [s6 hw, k2, ex, am_b0, am_bn0, am_orN, am_addE, am_subE, am_mulE, am_laddE, am_lsubE, am_upO, am_upS, am_stS, am_stO, am_tnn, am_brl, am_brg, am_bre, am_brn, am_brG, am_brL, am_st1, am_no2, am_st2, am_clr]
              refine am_wp_ret rfl rfl ?_
              exact h
            · rw [if_neg (fun hc => by rcases A5.mp hc with ⟨t, t1, t2, t3, t4⟩ | ⟨t, t1, t2, t3, t4⟩; exact t4 (t0 t t1 t2 t3); exact t4 (u0 t t1 t2 t3))] at h
              refine am_wp_go rfl (by simp (disch := omega) only [s6 hw, k2, ex, am_b0, am_bn0, am_orN, am_addE, am_subE, am_mulE, am_laddE, am_lsubE, am_upO, am_upS, am_stS, am_stO, am_tnn, am_brl, am_brg, am_bre, am_brn, am_brG, am_brL, am_st1, am_no2, am_st2, am_clr, and_self, true_and, and_true, true_or, or_true, List.length_cons, List.length_nil] <;> omega) ?_
              refine am_wp_pc (pc' := 136) rfl ?_
              refine am_wp_go rfl (by simp (disch := omega) only [s6 hw, k2, ex, am_b0, am_bn0, am_orN, am_addE, am_subE, am_mulE, am_laddE, am_lsubE, am_upO, am_upS, am_stS, am_stO, am_tnn, am_brl, am_brg, am_bre, am_brn, am_brG, am_brL, am_st1, am_no2, am_st2, am_clr, and_self, true_and, and_true, true_or, or_true, List.length_cons, List.length_nil] <;> omega) ?_
              refine am_wp_pc (pc' := 148) rfl ?_
              refine am_wp_go rfl (by simp (disch := omega) only [s6 hw, k2, ex, am_b0, am_bn0, am_orN, am_addE, am_subE, am_mulE, am_laddE, am_lsubE, am_upO, am_upS, am_stS, am_stO, am_tnn, am_brl, am_brg, am_bre, am_brn, am_brG, am_brL, am_st1, am_no2, am_st2, am_clr, and_self, true_and, and_true, true_or, or_true, List.length_cons, List.length_nil] <;> omega) ?_
              try simp (disch := omega) only [s6 hw, k2, ex, am_b0, am_bn0, am_orN, am_addE, am_subE, am_mulE, am_laddE, am_lsubE, am_upO, am_upS, am_stS, am_stO, am_tnn, am_brl, am_brg, am_bre, am_brn, am_brG, am_brL, am_st1, am_no2, am_st2, am_clr]
              refine am_wp_ret rfl rfl ?_
              exact h
        · rw [if_pos (A4.mpr (Classical.not_not.mp b91))] at h
          refine am_wp_go rfl (by simp (disch := omega) only [s6 hw, k2, ex, am_b0, am_bn0, am_orN, am_addE, am_subE, am_mulE, am_laddE, am_lsubE, am_upO, am_upS, am_stS, am_stO, am_tnn, am_brl, am_brg, am_bre, am_brn, am_brG, am_brL, am_st1, am_no2, am_st2, am_clr, and_self, true_and, and_true, true_or, or_true, List.length_cons, List.length_nil] <;> omega) ?_
          try simp (disch := omega) only [s6 hw, k2, ex, am_b0, am_bn0, am_orN, am_addE, am_subE, am_mulE, am_laddE, am_lsubE, am_upO, am_upS, am_stS, am_stO, am_tnn, am_brl, am_brg, am_bre, am_brn, am_brG, am_brL, am_st1, am_no2, am_st2, am_clr]
          refine am_wp_ret rfl rfl ?_
          exact h
      · rw [if_pos (show wp3 W G k from Classical.not_not.mp b79)] at h
        refine am_wp_go rfl (by simp (disch := omega) only [s6 hw, k2, ex, am_b0, am_bn0, am_orN, am_addE, am_subE, am_mulE, am_laddE, am_lsubE, am_upO, am_upS, am_stS, am_stO, am_tnn, am_brl, am_brg, am_bre, am_brn, am_brG, am_brL, am_st1, am_no2, am_st2, am_clr, and_self, true_and, and_true, true_or, or_true, List.length_cons, List.length_nil] <;> omega) ?_
        try simp (disch := omega) only [s6 hw, k2, ex, am_b0, am_bn0, am_orN, am_addE, am_subE, am_mulE, am_laddE, am_lsubE, am_upO, am_upS, am_stS, am_stO, am_tnn, am_brl, am_brg, am_bre, am_brn, am_brG, am_brL, am_st1, am_no2, am_st2, am_clr]
        refine am_wp_ret rfl rfl ?_
        exact h
noncomputable def jdK (W : Nat → Int) (G : List Go) : Int := am_ff (fun k => decide (wrF W G k (gB G k) ≠ 0)) G.length 0
noncomputable def jdY (W : Nat → Int) (G : List Go) : Int := if jdK W G = -1 then 0 else wrF W G (jdK W G).toNat (gB G (jdK W G).toNat)
theorem am_ff_v {p : Nat → Bool} {n : Nat} : ∀ k, am_ff p n k = -1 ∨ ∃ j : Nat, am_ff p n k = (j : Int) ∧ k ≤ j ∧ j < n ∧ p j = true := by
  have : ∀ c k, n - k ≤ c → am_ff p n k = -1 ∨ ∃ j : Nat, am_ff p n k = (j : Int) ∧ k ≤ j ∧ j < n ∧ p j = true := by
    intro c
    induction c with
    | zero => intro k hk; exact Or.inl (am_ff_end (by omega))
    | succ c ih =>
      intro k hk
      by_cases hkn : k < n
      · cases hp : p k with
        | true => exact Or.inr ⟨k, am_ff_hit hkn hp, Nat.le_refl k, hkn, hp⟩
        | false =>
          rw [am_ff_on hp]
          rcases ih (k + 1) (by omega) with h | ⟨j, h1, h2, h3, h4⟩
          · exact Or.inl h
          · exact Or.inr ⟨j, h1, by omega, h3, h4⟩
      · exact Or.inl (am_ff_end (by omega))
  exact fun k => this (n - k) k (Nat.le_refl _)
theorem c_judge (hw : wd sh R) (hk : kit I 6 W N) (hp : pl I 14 G) (hgk : gkt W G) (h : ∀ J, (∀ a, a ≠ 4 → a ≠ 62 → a ≠ 63 → J a = I a) → (∀ j, j ≠ 17 → J 4 j = I 4 j) → J 4 17 = jdY W G → Q (am_yi (jdK W G)) (m, sl, sh, J, R)) : am_wp (d + 4) 145 0 [some (.inr (.inr (4))), none] [] (m, sl, sh, I, R) Q := by
  have h4 := (pl_gok hp).1
  refine am_wp_go rfl (by simp (disch := omega) only [s4 hw, r4_7 hw, am_addE, am_subE, am_mulE, am_laddE, am_lsubE, am_upO, am_upS, am_stS, am_stO, am_tnn, am_brl, am_brg, am_bre, am_brn, am_brG, am_brL, am_st1, am_no2, am_st2, am_clr, and_self, true_and, and_true, true_or, or_true, List.length_cons, List.length_nil] <;> omega) ?_
  try simp (disch := omega) only [s4 hw, r4_7 hw, am_addE, am_subE, am_mulE, am_laddE, am_lsubE, am_upO, am_upS, am_stS, am_stO, am_tnn, am_brl, am_brg, am_bre, am_brn, am_brG, am_brL, am_st1, am_no2, am_st2, am_clr]
  refine am_wp_cc rfl rfl rfl (congrArg Prod.fst (s61 hw)) (w_bclear hw (fun J j1 j2 => ⟨_, rfl, ?_⟩))
  refine am_wp_go rfl (by simp (disch := omega) only [s4 hw, r4_7 hw, am_addE, am_subE, am_mulE, am_laddE, am_lsubE, am_upO, am_upS, am_stS, am_stO, am_tnn, am_brl, am_brg, am_bre, am_brn, am_brG, am_brL, am_st1, am_no2, am_st2, am_clr, and_self, true_and, and_true, true_or, or_true, List.length_cons, List.length_nil] <;> omega) ?_
  have L : ∀ k, k ≤ G.length → ∀ K, (∀ a, a ≠ 4 → a ≠ 62 → a ≠ 63 → K a = I a) → (∀ j, j ≠ 17 → K 4 j = I 4 j) → K 4 17 = 0 → bd K G k → jdK W G = am_ff (fun k => decide (wrF W G k (gB G k) ≠ 0)) G.length k → am_wp (d + 4) 145 14 [some (.inr (.inr (4))), some (.inl ((k : Int)))] [] (m, sl, sh, K, R) Q := by
    refine am_lp G.length (fun k hkl ih K k1 k2 k3 k4 k5 => ?_)
    have hpk : pl K 14 G := pl_fr hp (k1 14 (by decide) (by decide) (by decide)) (k1 15 (by decide) (by decide) (by decide))
    have hkk : kit K 6 W N := kit_fr hk (fun a h1 h2 => k1 a (by omega) (by omega) (by omega))
    have p1 := hpk.1
    refine am_wp_go rfl (by simp (disch := omega) only [s4 hw, r4_0 hw, s5 hw, r5_1 hw, r5_0 hw, s14 hw, r4_7 hw, p1, am_addE, am_subE, am_mulE, am_laddE, am_lsubE, am_upO, am_upS, am_stS, am_stO, am_tnn, am_brl, am_brg, am_bre, am_brn, am_brG, am_brL, am_st1, am_no2, am_st2, am_clr, and_self, true_and, and_true, true_or, or_true, List.length_cons, List.length_nil] <;> omega) ?_
    try simp (disch := omega) only [s4 hw, r4_0 hw, s5 hw, r5_1 hw, r5_0 hw, s14 hw, r4_7 hw, p1, am_addE, am_subE, am_mulE, am_laddE, am_lsubE, am_upO, am_upS, am_stS, am_stO, am_tnn, am_brl, am_brg, am_bre, am_brn, am_brG, am_brL, am_st1, am_no2, am_st2, am_clr]
    refine am_wp_br (fun b25 => ?_) (fun b25 => ?_)
    · refine am_wp_go rfl (by simp (disch := omega) only [s4 hw, r4_0 hw, s5 hw, r5_1 hw, r5_0 hw, s14 hw, r4_7 hw, p1, am_addE, am_subE, am_mulE, am_laddE, am_lsubE, am_upO, am_upS, am_stS, am_stO, am_tnn, am_brl, am_brg, am_bre, am_brn, am_brG, am_brL, am_st1, am_no2, am_st2, am_clr, and_self, true_and, and_true, true_or, or_true, List.length_cons, List.length_nil] <;> omega) ?_
      try simp (disch := omega) only [s4 hw, r4_0 hw, s5 hw, r5_1 hw, r5_0 hw, s14 hw, r4_7 hw, p1, am_addE, am_subE, am_mulE, am_laddE, am_lsubE, am_upO, am_upS, am_stS, am_stO, am_tnn, am_brl, am_brg, am_bre, am_brn, am_brG, am_brL, am_st1, am_no2, am_st2, am_clr]
      refine am_wp_ret rfl rfl ?_
      rw [am_ff_end (by omega)] at k5
      have h := h K k1 k2 (by rw [k3, jdY, if_pos k5])
      rwa [k5] at h
    · refine am_wp_go rfl (by simp (disch := omega) only [s4 hw, r4_0 hw, s5 hw, r5_1 hw, r5_0 hw, s14 hw, r4_7 hw, p1, am_addE, am_subE, am_mulE, am_laddE, am_lsubE, am_upO, am_upS, am_stS, am_stO, am_tnn, am_brl, am_brg, am_bre, am_brn, am_brG, am_brL, am_st1, am_no2, am_st2, am_clr, and_self, true_and, and_true, true_or, or_true, List.length_cons, List.length_nil] <;> omega) ?_
      try simp (disch := omega) only [s4 hw, r4_0 hw, s5 hw, r5_1 hw, r5_0 hw, s14 hw, r4_7 hw, p1, am_addE, am_subE, am_mulE, am_laddE, am_lsubE, am_upO, am_upS, am_stS, am_stO, am_tnn, am_brl, am_brg, am_bre, am_brn, am_brG, am_brL, am_st1, am_no2, am_st2, am_clr]
      refine am_wp_cc rfl rfl rfl (congrArg Prod.fst (s61 hw)) (w_kindOfWrong hw hkk (pl_w hw (by decide)) hpk hgk k4 (by omega) ⟨_, rfl, ?_⟩)
      refine am_wp_go rfl (by simp (disch := omega) only [s4 hw, r4_0 hw, s5 hw, r5_1 hw, r5_0 hw, r4_7 hw, am_addE, am_subE, am_mulE, am_laddE, am_lsubE, am_upO, am_upS, am_stS, am_stO, am_tnn, am_brl, am_brg, am_bre, am_brn, am_brG, am_brL, am_st1, am_no2, am_st2, am_clr, and_self, true_and, and_true, true_or, or_true, List.length_cons, List.length_nil] <;> omega) ?_
      try simp (disch := omega) only [s4 hw, r4_0 hw, s5 hw, r5_1 hw, r5_0 hw, r4_7 hw, am_addE, am_subE, am_mulE, am_laddE, am_lsubE, am_upO, am_upS, am_stS, am_stO, am_tnn, am_brl, am_brg, am_bre, am_brn, am_brG, am_brL, am_st1, am_no2, am_st2, am_clr]
      refine am_wp_br (fun b57 => ?_) (fun b57 => ?_)
      · rw [am_ff_on (decide_eq_false (by omega))] at k5
        refine am_wp_go rfl (by simp (disch := omega) only [s4 hw, r4_0 hw, s5 hw, r5_1 hw, r5_0 hw, r4_7 hw, am_addE, am_subE, am_mulE, am_laddE, am_lsubE, am_upO, am_upS, am_stS, am_stO, am_tnn, am_brl, am_brg, am_bre, am_brn, am_brG, am_brL, am_st1, am_no2, am_st2, am_clr, and_self, true_and, and_true, true_or, or_true, List.length_cons, List.length_nil] <;> omega) ?_
        try simp (disch := omega) only [s4 hw, r4_0 hw, s5 hw, r5_1 hw, r5_0 hw, r4_7 hw, am_addE, am_subE, am_mulE, am_laddE, am_lsubE, am_upO, am_upS, am_stS, am_stO, am_tnn, am_brl, am_brg, am_bre, am_brn, am_brG, am_brL, am_st1, am_no2, am_st2, am_clr]
        have e14 := fun a (h : a ≠ 4) => am_upO (f := K) (a := 4) (k := 17) (x := wrF W G k (gB G k)) h
        refine am_wp_cc rfl rfl rfl (congrArg Prod.fst (s61 hw)) (w_bput hw (pl_w hw (p := 14) (by decide)) (by decide) (by decide) (pl_fr hpk (e14 14 (by decide)) (e14 15 (by decide))) (k := k) ⟨fun t ht => by rw [e14 62 (by decide)]; exact k4.1 t ht, fun s hs => by rw [e14 63 (by decide)]; exact k4.2 s hs⟩ (by omega) (fun L l1 l2 => ⟨_, rfl, ?_⟩))
        refine am_wp_go rfl (by simp (disch := omega) only [s4 hw, r4_0 hw, s5 hw, r5_1 hw, r5_0 hw, r4_7 hw, am_addE, am_subE, am_mulE, am_laddE, am_lsubE, am_upO, am_upS, am_stS, am_stO, am_tnn, am_brl, am_brg, am_bre, am_brn, am_brG, am_brL, am_st1, am_no2, am_st2, am_clr, and_self, true_and, and_true, true_or, or_true, List.length_cons, List.length_nil] <;> omega) ?_
        try simp (disch := omega) only [s4 hw, r4_0 hw, s5 hw, r5_1 hw, r5_0 hw, r4_7 hw, am_addE, am_subE, am_mulE, am_laddE, am_lsubE, am_upO, am_upS, am_stS, am_stO, am_tnn, am_brl, am_brg, am_bre, am_brn, am_brG, am_brL, am_st1, am_no2, am_st2, am_clr]
        refine am_wp_ls (ih (by omega) L (fun a h1 h2 h3 => by rw [l1 a h2 h3, e14 a h1, k1 a h1 h2 h3]) (fun j hj => by rw [l1 4 (by decide) (by decide), am_upS, am_stO hj, k2 j hj]) (by rw [l1 4 (by decide) (by decide), am_upS, am_stS rfl]; omega) l2 k5) rfl
      · rw [am_ff_hit (by omega) (decide_eq_true (by omega))] at k5
        refine am_wp_go rfl (by simp (disch := omega) only [s4 hw, r4_0 hw, s5 hw, r5_1 hw, r5_0 hw, r4_7 hw, am_addE, am_subE, am_mulE, am_laddE, am_lsubE, am_upO, am_upS, am_stS, am_stO, am_tnn, am_brl, am_brg, am_bre, am_brn, am_brG, am_brL, am_st1, am_no2, am_st2, am_clr, and_self, true_and, and_true, true_or, or_true, List.length_cons, List.length_nil] <;> omega) ?_
        try simp (disch := omega) only [s4 hw, r4_0 hw, s5 hw, r5_1 hw, r5_0 hw, r4_7 hw, am_addE, am_subE, am_mulE, am_laddE, am_lsubE, am_upO, am_upS, am_stS, am_stO, am_tnn, am_brl, am_brg, am_bre, am_brn, am_brG, am_brL, am_st1, am_no2, am_st2, am_clr]
        refine am_wp_ret rfl rfl ?_
        have h := h (am_up K 4 17 (wrF W G k (gB G k))) (fun a h1 h2 h3 => by rw [am_upO h1, k1 a h1 h2 h3]) (fun j hj => by rw [am_upS, am_stO hj, k2 j hj]) (by rw [am_upS, am_stS rfl, jdY, k5, if_neg (by omega), am_tnn])
        rwa [k5] at h
  refine L 0 (Nat.zero_le _) _ (fun a h1 h2 h3 => by rw [am_upO h1, j1 a h2 h3]) (fun j hj => by rw [am_upS, am_stO hj, j1 4 (by decide) (by decide)]) (by rw [am_upS, am_stS rfl]) ⟨fun t ht => by rw [am_upO (by decide)]; exact (j2 G).1 t ht, fun s hs => by rw [am_upO (by decide)]; exact (j2 G).2 s hs⟩ rfl
theorem r_judge (hw : wd sh R) (hb : beg I) (hk : wk (lw I)) (hr : rf (pw (lw I)) G) (hg : gok G) (hgk : gkt (lw I) G) (h : ∀ J, (∀ a, a ≠ 124 → a ≠ 126 → J a = I a) → (∀ j, j ≠ 0 → j ≠ 23 → j ≠ 26 → J 124 j = I 124 j) → now_same I J → J 124 26 = jdY (lw I) G → Q (am_yi (jdK (lw I) G)) (m, sl, sh, J, R)) : am_wp (d + 3) 246 0 [some (.inr (.inr (124))), none] [] (m, sl, sh, I, R) Q := by
  have h4 := hg.1
  refine am_wp_go rfl (by simp (disch := omega) only [s124 hw, am_upO, am_upS, and_self, true_and, and_true] <;> omega) ?_
  have q0 := rq_thrown (I := I) (x := 0)
  have z0 : ∀ a, a ≠ 124 → am_up I 124 0 0 a = I a := fun a ha => am_upO ha
  have z1 : ∀ j, j ≠ 0 → am_up I 124 0 0 124 j = I 124 j := fun j hj => by rw [am_upS, am_stO hj]
  generalize am_up I 124 0 0 = I0 at q0 z0 z1 ⊢
  refine am_wp_cc rfl rfl rfl (congrArg Prod.fst (s124 hw)) (w_M_lay hw (beg_rq q0 hb) (fun J j1 j2 j3 j4 => ⟨_, rfl, ?_⟩))
  rw [rq_lw q0] at j4
  rw [← j4] at hk hr hgk h
  refine am_wp_go rfl (by simp (disch := omega) only [s124 hw, r124_14 hw, s126 hw, am_addE, am_subE, am_mulE, am_laddE, am_lsubE, am_upO, am_upS, am_stS, am_stO, am_tnn, am_brl, am_brg, am_bre, am_brn, am_brG, am_brL, am_st1, am_no2, am_st2, am_clr, and_self, true_and, and_true, true_or, or_true, List.length_cons, List.length_nil] <;> omega) ?_
  have L : ∀ k, k ≤ G.length → ∀ K, (∀ a, a ≠ 124 → K a = J a) → (∀ j, j ≠ 26 → K 124 j = J 124 j) → K 124 26 = 0 → jdK (J 126) G = am_ff (fun k => decide (wrF (J 126) G k (gB G k) ≠ 0)) G.length k → am_wp (d + 3) 246 16 [some (.inr (.inr (124))), some (.inl ((k : Int)))] [] (m, sl, sh, K, R) Q := by
    refine am_lp G.length (fun k hkl ih K k1 k2 k3 k5 => ?_)
    have e126 : K 126 = J 126 := k1 126 (by decide)
    have hrk : rf (pw (K 126)) G := by rw [e126]; exact hr
    have FIN : ∀ V : Nat → Nat → Int, (∀ a, a ≠ 124 → V a = J a) → (∀ j, j ≠ 26 → V 124 j = J 124 j) → V 124 26 = jdY (J 126) G → Q (am_yi (jdK (J 126) G)) (m, sl, sh, V, R) := fun V v1 v2 v3 => h V (fun a h1 h2 => by rw [v1 a h1, j1 a h1 h2, z0 a h1]) (fun j h1 h2 h3 => by rw [v2 j h3, j2 j h2, z1 j h1]) (Or.inr ⟨by rw [v2 23 (by decide)]; exact j3, by rw [v1 126 (by decide)]; exact j4⟩) v3
    refine am_wp_go rfl (by simp (disch := omega) only [s124 hw, r124_14 hw, s126 hw, am_addE, am_subE, am_mulE, am_laddE, am_lsubE, am_upO, am_upS, am_stS, am_stO, am_tnn, am_brl, am_brg, am_bre, am_brn, am_brG, am_brL, am_st1, am_no2, am_st2, am_clr, and_self, true_and, and_true, true_or, or_true, List.length_cons, List.length_nil] <;> omega) ?_
    try simp (disch := omega) only [s124 hw, r124_14 hw, s126 hw, am_addE, am_subE, am_mulE, am_laddE, am_lsubE, am_upO, am_upS, am_stS, am_stO, am_tnn, am_brl, am_brg, am_bre, am_brn, am_brG, am_brL, am_st1, am_no2, am_st2, am_clr]
    refine am_wp_cc rfl rfl rfl (congrArg Prod.fst (s124 hw)) (w_M_goesG hw hrk ⟨_, rfl, ?_⟩)
    refine am_wp_go rfl (by simp (disch := omega) only [s124 hw, r124_14 hw, s126 hw, am_addE, am_subE, am_mulE, am_laddE, am_lsubE, am_upO, am_upS, am_stS, am_stO, am_tnn, am_brl, am_brg, am_bre, am_brn, am_brG, am_brL, am_st1, am_no2, am_st2, am_clr, and_self, true_and, and_true, true_or, or_true, List.length_cons, List.length_nil] <;> omega) ?_
    try simp (disch := omega) only [s124 hw, r124_14 hw, s126 hw, am_addE, am_subE, am_mulE, am_laddE, am_lsubE, am_upO, am_upS, am_stS, am_stO, am_tnn, am_brl, am_brg, am_bre, am_brn, am_brG, am_brL, am_st1, am_no2, am_st2, am_clr]
    refine am_wp_br (fun b21 => ?_) (fun b21 => ?_)
    · refine am_wp_go rfl (by simp (disch := omega) only [s124 hw, r124_14 hw, s126 hw, am_addE, am_subE, am_mulE, am_laddE, am_lsubE, am_upO, am_upS, am_stS, am_stO, am_tnn, am_brl, am_brg, am_bre, am_brn, am_brG, am_brL, am_st1, am_no2, am_st2, am_clr, and_self, true_and, and_true, true_or, or_true, List.length_cons, List.length_nil] <;> omega) ?_
      try simp (disch := omega) only [s124 hw, r124_14 hw, s126 hw, am_addE, am_subE, am_mulE, am_laddE, am_lsubE, am_upO, am_upS, am_stS, am_stO, am_tnn, am_brl, am_brg, am_bre, am_brn, am_brG, am_brL, am_st1, am_no2, am_st2, am_clr]
      refine am_wp_ret rfl rfl ?_
      rw [am_ff_end (by omega)] at k5
      have h := FIN K k1 k2 (by rw [k3, jdY, if_pos k5])
      rwa [k5] at h
    · have gk := hg.2 k (by omega)
      refine am_wp_go rfl (by simp (disch := omega) only [s124 hw, r124_14 hw, s126 hw, am_addE, am_subE, am_mulE, am_laddE, am_lsubE, am_upO, am_upS, am_stS, am_stO, am_tnn, am_brl, am_brg, am_bre, am_brn, am_brG, am_brL, am_st1, am_no2, am_st2, am_clr, and_self, true_and, and_true, true_or, or_true, List.length_cons, List.length_nil] <;> omega) ?_
      try simp (disch := omega) only [s124 hw, r124_14 hw, s126 hw, am_addE, am_subE, am_mulE, am_laddE, am_lsubE, am_upO, am_upS, am_stS, am_stO, am_tnn, am_brl, am_brg, am_bre, am_brn, am_brG, am_brL, am_st1, am_no2, am_st2, am_clr]
      refine am_wp_cc rfl rfl rfl (congrArg Prod.fst (s124 hw)) (w_M_from hw hrk h4 (by omega) ⟨_, rfl, ?_⟩)
      refine am_wp_cc rfl rfl rfl (congrArg Prod.fst (s124 hw)) (w_M_wrong hw (by rw [e126]; exact hk) hrk hg (by rw [e126]; exact hgk) (by omega) (by omega) ⟨_, rfl, ?_⟩)
      rw [e126]
      have wv : wrF (J 126) G k (gB G k) = 0 ∨ 0 < wrF (J 126) G k (gB G k) := by
        unfold wrF
        by_cases a1 : exq (wc1 G k (gB G k)) k
        · rw [if_pos a1]; simp
        · rw [if_neg a1]
          by_cases a2 : exq (wc2 G k (gB G k)) k
          · rw [if_pos a2]; simp
          · rw [if_neg a2]
            by_cases a3 : wp3 (J 126) G k
            · rw [if_pos a3]; simp
            · rw [if_neg a3]
              by_cases a4 : exq (wc4 (J 126) G k) k
              · rw [if_pos a4]; simp
              · rw [if_neg a4]
                by_cases a5 : exq (wc5 (J 126) G k (gB G k)) k
                · rw [if_pos a5]; simp
                · rw [if_neg a5]; simp
      refine am_wp_go rfl (by simp (disch := omega) only [s124 hw, r124_14 hw, s126 hw, am_addE, am_subE, am_mulE, am_laddE, am_lsubE, am_upO, am_upS, am_stS, am_stO, am_tnn, am_brl, am_brg, am_bre, am_brn, am_brG, am_brL, am_st1, am_no2, am_st2, am_clr, and_self, true_and, and_true, true_or, or_true, List.length_cons, List.length_nil] <;> omega) ?_
      try simp (disch := omega) only [s124 hw, r124_14 hw, s126 hw, am_addE, am_subE, am_mulE, am_laddE, am_lsubE, am_upO, am_upS, am_stS, am_stO, am_tnn, am_brl, am_brg, am_bre, am_brn, am_brG, am_brL, am_st1, am_no2, am_st2, am_clr]
      refine am_wp_br (fun b40 => ?_) (fun b40 => ?_)
      · rw [am_ff_on (decide_eq_false (by omega))] at k5
        refine am_wp_go rfl (by simp (disch := omega) only [s124 hw, r124_14 hw, s126 hw, am_addE, am_subE, am_mulE, am_laddE, am_lsubE, am_upO, am_upS, am_stS, am_stO, am_tnn, am_brl, am_brg, am_bre, am_brn, am_brG, am_brL, am_st1, am_no2, am_st2, am_clr, and_self, true_and, and_true, true_or, or_true, List.length_cons, List.length_nil] <;> omega) ?_
        try simp (disch := omega) only [s124 hw, r124_14 hw, s126 hw, am_addE, am_subE, am_mulE, am_laddE, am_lsubE, am_upO, am_upS, am_stS, am_stO, am_tnn, am_brl, am_brg, am_bre, am_brn, am_brG, am_brL, am_st1, am_no2, am_st2, am_clr]
        refine am_wp_ls (ih (by omega) _ (fun a h1 => by rw [am_upO h1, k1 a h1]) (fun j hj => by rw [am_upS, am_stO hj, k2 j hj]) (by rw [am_upS, am_stS rfl]; omega) k5) rfl
      · rw [am_ff_hit (by omega) (decide_eq_true (by omega))] at k5
        refine am_wp_go rfl (by simp (disch := omega) only [s124 hw, r124_14 hw, s126 hw, am_addE, am_subE, am_mulE, am_laddE, am_lsubE, am_upO, am_upS, am_stS, am_stO, am_tnn, am_brl, am_brg, am_bre, am_brn, am_brG, am_brL, am_st1, am_no2, am_st2, am_clr, and_self, true_and, and_true, true_or, or_true, List.length_cons, List.length_nil] <;> omega) ?_
        try simp (disch := omega) only [s124 hw, r124_14 hw, s126 hw, am_addE, am_subE, am_mulE, am_laddE, am_lsubE, am_upO, am_upS, am_stS, am_stO, am_tnn, am_brl, am_brg, am_bre, am_brn, am_brG, am_brL, am_st1, am_no2, am_st2, am_clr]
        refine am_wp_ret rfl rfl ?_
        have h := FIN (am_up K 124 26 (wrF (J 126) G k (gB G k))) (fun a h1 => by rw [am_upO h1, k1 a h1]) (fun j hj => by rw [am_upS, am_stO hj, k2 j hj]) (by rw [am_upS, am_stS rfl, jdY, k5, if_neg (by omega), am_tnn])
        rwa [k5] at h
  exact L 0 (Nat.zero_le _) _ (fun a h1 => am_upO h1) (fun j hj => by rw [am_upS, am_stO hj]) (by rw [am_upS, am_stS rfl]) rfl
end JUDGE
