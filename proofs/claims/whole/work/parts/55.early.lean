/-! early: the first minute in which a GO is not WRONG -/
noncomputable def elW (W : Nat → Int) (G : List Go) (k : Nat) : Int := if am_ff (fun m => decide (wrF W G k m = 0)) (gB G k).toNat 0 = -1 then gB G k else am_ff (fun m => decide (wrF W G k m = 0)) (gB G k).toNat 0
theorem am_ff_skip {p : Nat → Bool} {n : Nat} : ∀ b, (∀ i, i < b → p i = false) → am_ff p n 0 = am_ff p n b
  | 0, _ => rfl
  | b + 1, h => by rw [am_ff_skip b (fun i hi => h i (by omega)), am_ff_on (h b (by omega))]
theorem el_char {W : Nat → Int} {G : List Go} {k b : Nat} (h0 : 0 ≤ gB G k) (hb : (b : Int) ≤ gB G k) (h1 : ∀ i : Nat, i < b → wrF W G k i ≠ 0) (h2 : (b : Int) = gB G k ∨ wrF W G k b = 0) : elW W G k = b := by
  have e := am_ff_skip (p := fun m => decide (wrF W G k m = 0)) (n := (gB G k).toNat) b (fun i hi => decide_eq_false (h1 i hi))
  unfold elW
  rw [e]
  by_cases hbn : (b : Int) = gB G k
  · rw [am_ff_end (by omega), if_pos rfl, hbn]
  · have h3 : wrF W G k b = 0 := by rcases h2 with h | h; exact absurd h hbn; exact h
    rw [am_ff_hit (by omega) (decide_eq_true h3), if_neg (by omega)]
section EARLY
variable {m sl : Nat} {sh : Nat → Nat × Nat} {I : Nat → Nat → Int} {R : Nat → Nat → Nat} {Q : am_R → am_M → Prop} {d k p : Nat} {W N : Nat → Int} {G : List Go}
theorem wrF_34 {x : Int} (h : wp3 W G k ∨ exq (wc4 W G k) k) : wrF W G k x ≠ 0 := by
  unfold wrF
  by_cases a1 : exq (wc1 G k x) k
  · rw [if_pos a1]; decide
  · rw [if_neg a1]
    by_cases a2 : exq (wc2 G k x) k
    · rw [if_pos a2]; decide
    · rw [if_neg a2]
      by_cases a3 : wp3 W G k
      · rw [if_pos a3]; decide
      · rw [if_neg a3, if_pos (h.resolve_left a3)]; decide
theorem wrF_0 {x : Int} (h3 : ¬ wp3 W G k) (h4 : ¬ exq (wc4 W G k) k) : wrF W G k x = 0 ↔ ¬ exq (wc1 G k x) k ∧ ¬ exq (wc2 G k x) k ∧ ¬ exq (wc5 W G k x) k := by
  unfold wrF
  by_cases a1 : exq (wc1 G k x) k
  · rw [if_pos a1]; exact ⟨fun h => by omega, fun h => absurd a1 h.1⟩
  · rw [if_neg a1]
    by_cases a2 : exq (wc2 G k x) k
    · rw [if_pos a2]; exact ⟨fun h => by omega, fun h => absurd a2 h.2.1⟩
    · rw [if_neg a2, if_neg h3, if_neg h4]
      by_cases a5 : exq (wc5 W G k x) k
      · rw [if_pos a5]; exact ⟨fun h => by omega, fun h => absurd a5 h.2.2⟩
      · rw [if_neg a5]; exact ⟨fun _ => ⟨a1, a2, a5⟩, fun _ => rfl⟩
/-- GO k can't begin at b: by the marks -/
theorem cf_iff {b n l s r : Nat} (hg : gok G) (hkl : k < G.length) (en : gN G k = (n : Int)) (el : gL G k = (l : Int)) (es : 2 * gS G k + gU G k = (s : Int)) (er : W 1 = (r : Int)) (hr : r ≤ 9) (hb : b ≤ 900) : (exq (wc1 G k b) k ∨ exq (wc2 G k b) k ∨ exq (wc5 W G k b) k) ↔ ∃ t, t < 1000 ∧ ((b ≤ t ∧ t < b + n ∧ mkG G k t &&& (2 ^ l ||| 2 ^ (4 + s)) ≠ 0) ∨ (b ≤ t + r ∧ t < b + n + r ∧ mkG G k t &&& 2 ^ (4 + xr s) ≠ 0)) := by
  have g1 := hg.2 k hkl
  have xd : xr s = if s % 2 = 0 then s + 1 else s - 1 := rfl
  have lx := xr_lt (s := s) (by omega)
  have oth : ∀ j, j < k → gS G j = gS G k → gU G j ≠ gU G k → 2 * gS G j + gU G j = (xr s : Int) := fun j hj h1 h2 => by
    have gj := hg.2 j (by omega)
    rw [xd]; split <;> omega
  constructor
  · rintro (⟨j, hj, ⟨h1, h2⟩, h3⟩ | ⟨j, hj, ⟨h1, h2⟩, h3⟩ | ⟨j, hj, h1, h2, h3, h4⟩)
    · have gj := hg.2 j (by omega)
      obtain ⟨t, ht⟩ : ∃ t : Nat, (t : Int) = if gB G j < b then (b : Int) else gB G j := ⟨(if gB G j < b then (b : Int) else gB G j).toNat, by split <;> omega⟩
      have ht2 : b ≤ t ∧ t < b + n ∧ t < 1000 ∧ gB G j ≤ t ∧ (t : Int) < gB G j + gN G j := by split at ht <;> omega
      exact ⟨t, by omega, Or.inl ⟨ht2.1, ht2.2.1, mk_or.mpr (Or.inl ((mk_place hg (by omega) (by omega)).mpr ⟨j, hj, ht2.2.2.2, by omega⟩))⟩⟩
    · have gj := hg.2 j (by omega)
      obtain ⟨t, ht⟩ : ∃ t : Nat, (t : Int) = if gB G j < b then (b : Int) else gB G j := ⟨(if gB G j < b then (b : Int) else gB G j).toNat, by split <;> omega⟩
      have ht2 : b ≤ t ∧ t < b + n ∧ t < 1000 ∧ gB G j ≤ t ∧ (t : Int) < gB G j + gN G j := by split at ht <;> omega
      by_cases hu : gU G j = gU G k
      · exact ⟨t, by omega, Or.inl ⟨ht2.1, ht2.2.1, mk_or.mpr (Or.inr ((mk_side hg (by omega) (by omega)).mpr ⟨j, hj, ht2.2.2.2, by omega⟩))⟩⟩
      · exact ⟨t, by omega, Or.inr ⟨by omega, by omega, (mk_side hg (by omega) (by omega)).mpr ⟨j, hj, ht2.2.2.2, oth j hj h3 hu⟩⟩⟩
    · have gj := hg.2 j (by omega)
      unfold ovG at h3
      rcases h4 with ⟨h4, h5⟩ | ⟨h4, h5⟩
      · obtain ⟨t, ht⟩ : ∃ t : Nat, (t : Int) = gB G j + gN G j - 1 := ⟨(gB G j + gN G j - 1).toNat, by omega⟩
        exact ⟨t, by omega, Or.inr ⟨by omega, by omega, (mk_side hg (by omega) (by omega)).mpr ⟨j, hj, by omega, oth j hj h1 h2⟩⟩⟩
      · obtain ⟨t, ht⟩ : ∃ t : Nat, (t : Int) = gB G j := ⟨(gB G j).toNat, by omega⟩
        exact ⟨t, by omega, Or.inr ⟨by omega, by omega, (mk_side hg (by omega) (by omega)).mpr ⟨j, hj, by omega, oth j hj h1 h2⟩⟩⟩
  · rintro ⟨t, ht, ⟨h1, h2, h3⟩ | ⟨h1, h2, h3⟩⟩
    · rcases mk_or.mp h3 with h3 | h3
      · obtain ⟨j, hj, h5, h6⟩ := (mk_place hg (by omega) (by omega)).mp h3
        exact Or.inl ⟨j, hj, ⟨by omega, by omega⟩, by omega⟩
      · obtain ⟨j, hj, h5, h6⟩ := (mk_side hg (by omega) (by omega)).mp h3
        have gj := hg.2 j (by omega)
        exact Or.inr (Or.inl ⟨j, hj, ⟨by omega, by omega⟩, by omega⟩)
    · obtain ⟨j, hj, h5, h6⟩ := (mk_side hg (by omega) (by omega)).mp h3
      have gj := hg.2 j (by omega)
      have hs3 : gS G j = gS G k ∧ gU G j ≠ gU G k := by rw [xd] at h6; split at h6 <;> omega
      by_cases hov : ovG G b (gN G k) j
      · exact Or.inr (Or.inl ⟨j, hj, hov, hs3.1⟩)
      · refine Or.inr (Or.inr ⟨j, hj, hs3.1, hs3.2, hov, ?_⟩)
        unfold ovG at hov
        omega
theorem w_firstBegin (hw : wd sh R) (hk : kit I 6 W N) (hp : pl_is sh R p) (ho : pl I p G) (hgk : gkt W G) (hb : bd I G k) (hkl : k < G.length) (h : Q (am_yi (elW W G k)) (m, sl, sh, I, R)) : am_wp (d + 3) 9 0 [some (.inr (.inr (61))), some (.inr (.inr (6))), some (.inr (.inr (p))), some (.inl ((k : Int))), none, none, none, none, none, none, none] [] (m, sl, sh, I, R) Q := by
  have hg := pl_gok ho
  have g1 := hg.2 k hkl
  have g2 := hgk k hkl
  have n1 := wk_nS hk.1
  obtain ⟨o, eo⟩ : ∃ b : Nat, gB G k = (b : Int) := ⟨(gB G k).toNat, by omega⟩
  obtain ⟨n, en⟩ : ∃ n : Nat, gN G k = (n : Int) := ⟨(gN G k).toNat, by omega⟩
  obtain ⟨l, el⟩ : ∃ l : Nat, gL G k = (l : Int) := ⟨(gL G k).toNat, by omega⟩
  obtain ⟨s, es⟩ : ∃ s : Nat, 2 * gS G k + gU G k = (s : Int) := ⟨(2 * gS G k + gU G k).toNat, by omega⟩
  have w1 : 0 ≤ W 1 ∧ W 1 ≤ 9 := ⟨hk.1.1.2.2.1, hk.1.1.2.2.2.1⟩
  obtain ⟨r, er⟩ : ∃ r : Nat, W 1 = (r : Int) := ⟨(W 1).toNat, by omega⟩
  have ex := am_xr (s := s) (by omega)
  have lx := xr_lt (s := s) (by omega)
  have p1 := ax_p20 (s := l) (by omega)
  have p2 := ax_p20 (s := 4 + s) (by omega)
  have p3 := ax_p20 (s := 4 + xr s) (by omega)
  have p4 := ax_or20 p1 p2
  have k2 : I 6 2 = (r : Int) := by rw [hk.2.1.2.1]; exact er
  have hsl : s < 2 * nS W := by omega
  have A4 : exq (wc4 W G k) k ↔ W (8 + 3 * (s / 2) + 2) = 1 ∧ 0 < hadG G k s := by
    have b0 := hk.1.2.1 (s / 2) (by omega)
    rw [hadG_pos hg (by omega)]
    have e0 : (gS G k).toNat = s / 2 := by omega
    constructor
    · rintro ⟨j, hj, h1, h2, h3⟩
      rw [e0] at h1
      exact ⟨by omega, j, hj, by omega⟩
    · rintro ⟨h1, j, hj, h2⟩
      have gj := hg.2 j (by omega)
      exact ⟨j, hj, by rw [e0]; omega, by omega, by omega⟩
  have OWN : (wp3 W G k ∨ exq (wc4 W G k) k) → elW W G k = (o : Int) := fun hc => el_char (by omega) (by omega) (fun i hi => wrF_34 hc) (Or.inl eo.symm)
  refine am_wp_go rfl (by simp (disch := omega) only [s6 hw, k2, ex, am_b0, am_bn0, am_orN, am_addE, am_subE, am_mulE, am_laddE, am_lsubE, am_upO, am_upS, am_stS, am_stO, am_tnn, am_brl, am_brg, am_bre, am_brn, am_brG, am_brL, am_st1, am_no2, am_st2, am_clr, and_self, true_and, and_true, true_or, or_true, List.length_cons, List.length_nil] <;> omega) ?_
  try simp (disch := omega) only [s6 hw, k2, ex, am_b0, am_bn0, am_orN, am_addE, am_subE, am_mulE, am_laddE, am_lsubE, am_upO, am_upS, am_stS, am_stO, am_tnn, am_brl, am_brg, am_bre, am_brn, am_brG, am_brL, am_st1, am_no2, am_st2, am_clr]
  refine am_wp_cc rfl rfl rfl (congrArg Prod.fst (hp.1)) (w_beginOf hp ho hkl ⟨_, rfl, ?_⟩)
  rw [eo]
  refine am_wp_go rfl (by simp (disch := omega) only [s6 hw, k2, ex, am_b0, am_bn0, am_orN, am_addE, am_subE, am_mulE, am_laddE, am_lsubE, am_upO, am_upS, am_stS, am_stO, am_tnn, am_brl, am_brg, am_bre, am_brn, am_brG, am_brL, am_st1, am_no2, am_st2, am_clr, and_self, true_and, and_true, true_or, or_true, List.length_cons, List.length_nil] <;> omega) ?_
  try simp (disch := omega) only [s6 hw, k2, ex, am_b0, am_bn0, am_orN, am_addE, am_subE, am_mulE, am_laddE, am_lsubE, am_upO, am_upS, am_stS, am_stO, am_tnn, am_brl, am_brg, am_bre, am_brn, am_brG, am_brL, am_st1, am_no2, am_st2, am_clr]
  refine am_wp_cc rfl rfl rfl (congrArg Prod.fst (hp.1)) (w_sideOf hp ho hkl ⟨_, rfl, ?_⟩)
  rw [es]
  refine am_wp_go rfl (by simp (disch := omega) only [s6 hw, k2, ex, am_b0, am_bn0, am_orN, am_addE, am_subE, am_mulE, am_laddE, am_lsubE, am_upO, am_upS, am_stS, am_stO, am_tnn, am_brl, am_brg, am_bre, am_brn, am_brG, am_brL, am_st1, am_no2, am_st2, am_clr, and_self, true_and, and_true, true_or, or_true, List.length_cons, List.length_nil] <;> omega) ?_
  try simp (disch := omega) only [s6 hw, k2, ex, am_b0, am_bn0, am_orN, am_addE, am_subE, am_mulE, am_laddE, am_lsubE, am_upO, am_upS, am_stS, am_stO, am_tnn, am_brl, am_brg, am_bre, am_brn, am_brG, am_brL, am_st1, am_no2, am_st2, am_clr]
  refine am_wp_cc rfl rfl rfl (congrArg Prod.fst (s61 hw)) (w_hasTooMany hw hk hp ho hgk hb hkl ⟨_, rfl, ?_⟩)
  refine am_wp_go rfl (by simp (disch := omega) only [s6 hw, k2, ex, am_b0, am_bn0, am_orN, am_addE, am_subE, am_mulE, am_laddE, am_lsubE, am_upO, am_upS, am_stS, am_stO, am_tnn, am_brl, am_brg, am_bre, am_brn, am_brG, am_brL, am_st1, am_no2, am_st2, am_clr, and_self, true_and, and_true, true_or, or_true, List.length_cons, List.length_nil] <;> omega) ?_
  try simp (disch := omega) only [s6 hw, k2, ex, am_b0, am_bn0, am_orN, am_addE, am_subE, am_mulE, am_laddE, am_lsubE, am_upO, am_upS, am_stS, am_stO, am_tnn, am_brl, am_brg, am_bre, am_brn, am_brG, am_brL, am_st1, am_no2, am_st2, am_clr]
  refine am_wp_br (fun b21 => ?_) (fun b21 => ?_)
  · refine am_wp_go rfl (by simp (disch := omega) only [s6 hw, k2, ex, am_b0, am_bn0, am_orN, am_addE, am_subE, am_mulE, am_laddE, am_lsubE, am_upO, am_upS, am_stS, am_stO, am_tnn, am_brl, am_brg, am_bre, am_brn, am_brG, am_brL, am_st1, am_no2, am_st2, am_clr, and_self, true_and, and_true, true_or, or_true, List.length_cons, List.length_nil] <;> omega) ?_
    try simp (disch := omega) only [s6 hw, k2, ex, am_b0, am_bn0, am_orN, am_addE, am_subE, am_mulE, am_laddE, am_lsubE, am_upO, am_upS, am_stS, am_stO, am_tnn, am_brl, am_brg, am_bre, am_brn, am_brG, am_brL, am_st1, am_no2, am_st2, am_clr]
    refine am_wp_ret rfl rfl ?_
    rwa [OWN (Or.inl b21)] at h
  · refine am_wp_go rfl (by simp (disch := omega) only [s6 hw, k2, ex, am_b0, am_bn0, am_orN, am_addE, am_subE, am_mulE, am_laddE, am_lsubE, am_upO, am_upS, am_stS, am_stO, am_tnn, am_brl, am_brg, am_bre, am_brn, am_brG, am_brL, am_st1, am_no2, am_st2, am_clr, and_self, true_and, and_true, true_or, or_true, List.length_cons, List.length_nil] <;> omega) ?_
    try simp (disch := omega) only [s6 hw, k2, ex, am_b0, am_bn0, am_orN, am_addE, am_subE, am_mulE, am_laddE, am_lsubE, am_upO, am_upS, am_stS, am_stO, am_tnn, am_brl, am_brg, am_bre, am_brn, am_brG, am_brL, am_st1, am_no2, am_st2, am_clr]
    refine am_wp_cc rfl rfl rfl (congrArg Prod.fst (s61 hw)) (w_isOnAgain hw hk hb hsl ⟨_, rfl, ?_⟩)
    refine am_wp_go rfl (by simp (disch := omega) only [s6 hw, k2, ex, am_b0, am_bn0, am_orN, am_addE, am_subE, am_mulE, am_laddE, am_lsubE, am_upO, am_upS, am_stS, am_stO, am_tnn, am_brl, am_brg, am_bre, am_brn, am_brG, am_brL, am_st1, am_no2, am_st2, am_clr, and_self, true_and, and_true, true_or, or_true, List.length_cons, List.length_nil] <;> omega) ?_
    try simp (disch := omega) only [s6 hw, k2, ex, am_b0, am_bn0, am_orN, am_addE, am_subE, am_mulE, am_laddE, am_lsubE, am_upO, am_upS, am_stS, am_stO, am_tnn, am_brl, am_brg, am_bre, am_brn, am_brG, am_brL, am_st1, am_no2, am_st2, am_clr]
    refine am_wp_br (fun b31 => ?_) (fun b31 => ?_)
    · have n3 : ¬ wp3 W G k := b21
      have n4 : ¬ exq (wc4 W G k) k := fun hc => b31 (A4.mp hc)
      have cf := fun (b : Nat) (hb : b ≤ 900) => cf_iff (W := W) hg hkl en el es er (by omega) hb
      refine am_wp_go rfl (by simp (disch := omega) only [s6 hw, k2, ex, am_b0, am_bn0, am_orN, am_addE, am_subE, am_mulE, am_laddE, am_lsubE, am_upO, am_upS, am_stS, am_stO, am_tnn, am_brl, am_brg, am_bre, am_brn, am_brG, am_brL, am_st1, am_no2, am_st2, am_clr, and_self, true_and, and_true, true_or, or_true, List.length_cons, List.length_nil] <;> omega) ?_
      try simp (disch := omega) only [s6 hw, k2, ex, am_b0, am_bn0, am_orN, am_addE, am_subE, am_mulE, am_laddE, am_lsubE, am_upO, am_upS, am_stS, am_stO, am_tnn, am_brl, am_brg, am_bre, am_brn, am_brG, am_brL, am_st1, am_no2, am_st2, am_clr]
      refine am_wp_cc rfl rfl rfl (congrArg Prod.fst (hp.1)) (w_minutesOf hp ho hkl ⟨_, rfl, ?_⟩)
      rw [en]
      refine am_wp_go rfl (by simp (disch := omega) only [s6 hw, k2, ex, am_b0, am_bn0, am_orN, am_addE, am_subE, am_mulE, am_laddE, am_lsubE, am_upO, am_upS, am_stS, am_stO, am_tnn, am_brl, am_brg, am_bre, am_brn, am_brG, am_brL, am_st1, am_no2, am_st2, am_clr, and_self, true_and, and_true, true_or, or_true, List.length_cons, List.length_nil] <;> omega) ?_
      try simp (disch := omega) only [s6 hw, k2, ex, am_b0, am_bn0, am_orN, am_addE, am_subE, am_mulE, am_laddE, am_lsubE, am_upO, am_upS, am_stS, am_stO, am_tnn, am_brl, am_brg, am_bre, am_brn, am_brG, am_brL, am_st1, am_no2, am_st2, am_clr]
      refine am_wp_cc rfl rfl rfl (trivial) (w_sideMark lx ⟨_, rfl, ?_⟩)
      refine am_wp_go rfl (by simp (disch := omega) only [s6 hw, k2, ex, am_b0, am_bn0, am_orN, am_addE, am_subE, am_mulE, am_laddE, am_lsubE, am_upO, am_upS, am_stS, am_stO, am_tnn, am_brl, am_brg, am_bre, am_brn, am_brG, am_brL, am_st1, am_no2, am_st2, am_clr, and_self, true_and, and_true, true_or, or_true, List.length_cons, List.length_nil] <;> omega) ?_
      try simp (disch := omega) only [s6 hw, k2, ex, am_b0, am_bn0, am_orN, am_addE, am_subE, am_mulE, am_laddE, am_lsubE, am_upO, am_upS, am_stS, am_stO, am_tnn, am_brl, am_brg, am_bre, am_brn, am_brG, am_brL, am_st1, am_no2, am_st2, am_clr]
      refine am_wp_cc rfl rfl rfl (congrArg Prod.fst (hp.1)) (w_placeOf hp ho hkl ⟨_, rfl, ?_⟩)
      rw [el]
      refine am_wp_cc rfl rfl rfl (trivial) (w_placeMark (by omega) ⟨_, rfl, ?_⟩)
      refine am_wp_go rfl (by simp (disch := omega) only [s6 hw, k2, ex, am_b0, am_bn0, am_orN, am_addE, am_subE, am_mulE, am_laddE, am_lsubE, am_upO, am_upS, am_stS, am_stO, am_tnn, am_brl, am_brg, am_bre, am_brn, am_brG, am_brL, am_st1, am_no2, am_st2, am_clr, and_self, true_and, and_true, true_or, or_true, List.length_cons, List.length_nil] <;> omega) ?_
      try simp (disch := omega) only [s6 hw, k2, ex, am_b0, am_bn0, am_orN, am_addE, am_subE, am_mulE, am_laddE, am_lsubE, am_upO, am_upS, am_stS, am_stO, am_tnn, am_brl, am_brg, am_bre, am_brn, am_brG, am_brL, am_st1, am_no2, am_st2, am_clr]
      refine am_wp_cc rfl rfl rfl (trivial) (w_sideMark (by omega) ⟨_, rfl, ?_⟩)
      refine am_wp_go rfl (by simp (disch := omega) only [s6 hw, k2, ex, am_b0, am_bn0, am_orN, am_addE, am_subE, am_mulE, am_laddE, am_lsubE, am_upO, am_upS, am_stS, am_stO, am_tnn, am_brl, am_brg, am_bre, am_brn, am_brG, am_brL, am_st1, am_no2, am_st2, am_clr, and_self, true_and, and_true, true_or, or_true, List.length_cons, List.length_nil] <;> omega) ?_
      try simp (disch := omega) only [s6 hw, k2, ex, am_b0, am_bn0, am_orN, am_addE, am_subE, am_mulE, am_laddE, am_lsubE, am_upO, am_upS, am_stS, am_stO, am_tnn, am_brl, am_brg, am_bre, am_brn, am_brG, am_brL, am_st1, am_no2, am_st2, am_clr]
      have L : ∀ t, t ≤ 1000 → ∀ b : Nat, b ≤ 1010 → (∀ i : Nat, i < b → i < o → wrF W G k i ≠ 0) → (∀ u, u < t → ¬ ((b ≤ u ∧ u < b + n ∧ mkG G k u &&& (2 ^ l ||| 2 ^ (4 + s)) ≠ 0) ∨ (b ≤ u + r ∧ u < b + n + r ∧ mkG G k u &&& 2 ^ (4 + xr s) ≠ 0))) → am_wp (d + 3) 9 75 [some (.inr (.inr (61))), some (.inr (.inr (6))), some (.inr (.inr (p))), some (.inl ((k : Int))), some (.inl ((o : Int))), some (.inl ((s : Int))), some (.inl ((n : Int))), some (.inl (((2 ^ (4 + xr s) : Nat) : Int))), some (.inl (((2 ^ l ||| 2 ^ (4 + s) : Nat) : Int))), some (.inl ((b : Int))), some (.inl ((t : Int)))] [] (m, sl, sh, I, R) Q := by
        refine am_lp 1000 (fun t ht ih b hb1 hb2 hb3 => ?_)
        -- the end
        have END : (b < o → b + n + r ≤ t ∨ 1000 ≤ t) → Q (am_yi (if (o : Int) < (b : Int) then (o : Int) else (b : Int))) (m, sl, sh, I, R) := fun hc => by
          by_cases hbo : b < o
          · rw [if_neg (by omega)]
            have : elW W G k = (b : Int) := by
              refine el_char (by omega) (by omega) (fun i hi => hb2 i hi (by omega)) (Or.inr ((wrF_0 n3 n4).mpr ?_))
              have hn : ¬ (exq (wc1 G k b) k ∨ exq (wc2 G k b) k ∨ exq (wc5 W G k b) k) := fun hx => by
                obtain ⟨u, hu, hu2⟩ := (cf b (by omega)).mp hx
                refine hb3 u ?_ hu2
                rcases hc hbo with h | h
                · rcases hu2 with h2 | h2 <;> omega
                · omega
              exact ⟨fun hx => hn (Or.inl hx), fun hx => hn (Or.inr (Or.inl hx)), fun hx => hn (Or.inr (Or.inr hx))⟩
            rwa [this] at h
          · have : elW W G k = (o : Int) := el_char (by omega) (by omega) (fun i hi => hb2 i (by omega) hi) (Or.inl eo.symm)
            rw [this] at h
            by_cases h2 : (o : Int) < b
            · rw [if_pos h2]; exact h
            · rw [if_neg h2, show (b : Int) = o by omega]; exact h
        refine am_wp_go rfl (by simp (disch := omega) only [s6 hw, k2, am_andN, am_addE, am_subE, am_mulE, am_laddE, am_lsubE, am_upO, am_upS, am_stS, am_stO, am_tnn, am_brl, am_brg, am_bre, am_brn, am_brG, am_brL, am_st1, am_no2, am_st2, am_clr, and_self, true_and, and_true, true_or, or_true, List.length_cons, List.length_nil] <;> omega) ?_
        try simp (disch := omega) only [s6 hw, k2, am_andN, am_addE, am_subE, am_mulE, am_laddE, am_lsubE, am_upO, am_upS, am_stS, am_stO, am_tnn, am_brl, am_brg, am_bre, am_brn, am_brG, am_brL, am_st1, am_no2, am_st2, am_clr]
        refine am_wp_br (fun b87 => ?_) (fun b87 => ?_)
        · refine am_wp_go rfl (by simp (disch := omega) only [s6 hw, k2, am_andN, am_addE, am_subE, am_mulE, am_laddE, am_lsubE, am_upO, am_upS, am_stS, am_stO, am_tnn, am_brl, am_brg, am_bre, am_brn, am_brG, am_brL, am_st1, am_no2, am_st2, am_clr, and_self, true_and, and_true, true_or, or_true, List.length_cons, List.length_nil] <;> omega) ?_
          try simp (disch := omega) only [s6 hw, k2, am_andN, am_addE, am_subE, am_mulE, am_laddE, am_lsubE, am_upO, am_upS, am_stS, am_stO, am_tnn, am_brl, am_brg, am_bre, am_brn, am_brG, am_brL, am_st1, am_no2, am_st2, am_clr]
          refine am_wp_ret rfl rfl ?_
          exact END (fun _ => by omega)
        · refine am_wp_go rfl (by simp (disch := omega) only [s6 hw, k2, am_andN, am_addE, am_subE, am_mulE, am_laddE, am_lsubE, am_upO, am_upS, am_stS, am_stO, am_tnn, am_brl, am_brg, am_bre, am_brn, am_brG, am_brL, am_st1, am_no2, am_st2, am_clr, and_self, true_and, and_true, true_or, or_true, List.length_cons, List.length_nil] <;> omega) ?_
          try simp (disch := omega) only [s6 hw, k2, am_andN, am_addE, am_subE, am_mulE, am_laddE, am_lsubE, am_upO, am_upS, am_stS, am_stO, am_tnn, am_brl, am_brg, am_bre, am_brn, am_brG, am_brL, am_st1, am_no2, am_st2, am_clr]
          refine am_wp_br (fun b94 => ?_) (fun b94 => ?_)
          · refine am_wp_go rfl (by simp (disch := omega) only [s6 hw, k2, am_andN, am_addE, am_subE, am_mulE, am_laddE, am_lsubE, am_upO, am_upS, am_stS, am_stO, am_tnn, am_brl, am_brg, am_bre, am_brn, am_brG, am_brL, am_st1, am_no2, am_st2, am_clr, and_self, true_and, and_true, true_or, or_true, List.length_cons, List.length_nil] <;> omega) ?_
            try simp (disch := omega) only [s6 hw, k2, am_andN, am_addE, am_subE, am_mulE, am_laddE, am_lsubE, am_upO, am_upS, am_stS, am_stO, am_tnn, am_brl, am_brg, am_bre, am_brn, am_brG, am_brL, am_st1, am_no2, am_st2, am_clr]
            refine am_wp_ret rfl rfl ?_
            exact END (fun _ => by omega)
          · refine am_wp_go rfl (by simp (disch := omega) only [s6 hw, k2, am_andN, am_addE, am_subE, am_mulE, am_laddE, am_lsubE, am_upO, am_upS, am_stS, am_stO, am_tnn, am_brl, am_brg, am_bre, am_brn, am_brG, am_brL, am_st1, am_no2, am_st2, am_clr, and_self, true_and, and_true, true_or, or_true, List.length_cons, List.length_nil] <;> omega) ?_
            try simp (disch := omega) only [s6 hw, k2, am_andN, am_addE, am_subE, am_mulE, am_laddE, am_lsubE, am_upO, am_upS, am_stS, am_stO, am_tnn, am_brl, am_brg, am_bre, am_brn, am_brG, am_brL, am_st1, am_no2, am_st2, am_clr]
            refine am_wp_br (fun b102 => ?_) (fun b102 => ?_)
            · refine am_wp_go rfl (by simp (disch := omega) only [s6 hw, k2, am_andN, am_addE, am_subE, am_mulE, am_laddE, am_lsubE, am_upO, am_upS, am_stS, am_stO, am_tnn, am_brl, am_brg, am_bre, am_brn, am_brG, am_brL, am_st1, am_no2, am_st2, am_clr, and_self, true_and, and_true, true_or, or_true, List.length_cons, List.length_nil] <;> omega) ?_
              try simp (disch := omega) only [s6 hw, k2, am_andN, am_addE, am_subE, am_mulE, am_laddE, am_lsubE, am_upO, am_upS, am_stS, am_stO, am_tnn, am_brl, am_brg, am_bre, am_brn, am_brG, am_brL, am_st1, am_no2, am_st2, am_clr]
              refine am_wp_ret rfl rfl ?_
              exact END (fun _ => by omega)
            · have e62 := hb.1 t (by omega)
              have l62 := mkG_lt hg (k := k) (t := t) (by omega)
              have CF : ∀ i : Nat, i < o → ((i ≤ t ∧ t < i + n ∧ mkG G k t &&& (2 ^ l ||| 2 ^ (4 + s)) ≠ 0) ∨ (i ≤ t + r ∧ t < i + n + r ∧ mkG G k t &&& 2 ^ (4 + xr s) ≠ 0)) → wrF W G k i ≠ 0 := fun i hi hc hz => by
                have := (wrF_0 n3 n4).mp hz
                rcases (cf i (by omega)).mpr ⟨t, by omega, hc⟩ with h | h | h
                · exact this.1 h
                · exact this.2.1 h
                · exact this.2.2 h
              clear h END
              refine am_wp_go rfl (by simp (disch := omega) only [s6 hw, s61 hw, r61_0 hw, s62 hw, k2, e62, am_andN, am_addE, am_subE, am_mulE, am_laddE, am_lsubE, am_upO, am_upS, am_stS, am_stO, am_tnn, am_brl, am_brg, am_bre, am_brn, am_brG, am_brL, am_st1, am_no2, am_st2, am_clr, and_self, true_and, and_true, true_or, or_true, List.length_cons, List.length_nil] <;> omega) ?_
              try simp (disch := omega) only [s6 hw, s61 hw, r61_0 hw, s62 hw, k2, e62, am_andN, am_addE, am_subE, am_mulE, am_laddE, am_lsubE, am_upO, am_upS, am_stS, am_stO, am_tnn, am_brl, am_brg, am_bre, am_brn, am_brG, am_brL, am_st1, am_no2, am_st2, am_clr]
              refine am_wp_br (fun b115 => ?_) (fun b115 => ?_)
              · have b115' : mkG G k t &&& 2 ^ (4 + xr s) = 0 := by omega
                -- nothing new for b
                have SAME : ¬ (b ≤ t ∧ t < b + n ∧ mkG G k t &&& (2 ^ l ||| 2 ^ (4 + s)) ≠ 0) → am_wp (d + 3) 9 75 [some (.inr (.inr (61))), some (.inr (.inr (6))), some (.inr (.inr (p))), some (.inl ((k : Int))), some (.inl ((o : Int))), some (.inl ((s : Int))), some (.inl ((n : Int))), some (.inl (((2 ^ (4 + xr s) : Nat) : Int))), some (.inl (((2 ^ l ||| 2 ^ (4 + s) : Nat) : Int))), some (.inl ((b : Int))), some (.inl ((t : Int) + 1))] [] (m, sl, sh, I, R) Q := fun hn => by
                  refine am_wp_ls (ih (by omega) b hb1 hb2 (fun u hu => ?_)) rfl
                  by_cases hut : u = t
                  · subst hut
                    rintro (hc | hc)
                    · exact hn hc
                    · exact hc.2.2 b115'
                  · exact hb3 u (by omega)
                refine am_wp_go rfl (by simp (disch := omega) only [s6 hw, s61 hw, r61_0 hw, s62 hw, k2, e62, am_andN, am_addE, am_subE, am_mulE, am_laddE, am_lsubE, am_upO, am_upS, am_stS, am_stO, am_tnn, am_brl, am_brg, am_bre, am_brn, am_brG, am_brL, am_st1, am_no2, am_st2, am_clr, and_self, true_and, and_true, true_or, or_true, List.length_cons, List.length_nil] <;> omega) ?_
                try simp (disch := omega) only [s6 hw, s61 hw, r61_0 hw, s62 hw, k2, e62, am_andN, am_addE, am_subE, am_mulE, am_laddE, am_lsubE, am_upO, am_upS, am_stS, am_stO, am_tnn, am_brl, am_brg, am_bre, am_brn, am_brG, am_brL, am_st1, am_no2, am_st2, am_clr]
                refine am_wp_br (fun b141 => ?_) (fun b141 => ?_)
                · refine am_wp_go rfl (by simp (disch := omega) only [s6 hw, s61 hw, r61_0 hw, s62 hw, k2, e62, am_andN, am_addE, am_subE, am_mulE, am_laddE, am_lsubE, am_upO, am_upS, am_stS, am_stO, am_tnn, am_brl, am_brg, am_bre, am_brn, am_brG, am_brL, am_st1, am_no2, am_st2, am_clr, and_self, true_and, and_true, true_or, or_true, List.length_cons, List.length_nil] <;> omega) ?_
                  try simp (disch := omega) only [s6 hw, s61 hw, r61_0 hw, s62 hw, k2, e62, am_andN, am_addE, am_subE, am_mulE, am_laddE, am_lsubE, am_upO, am_upS, am_stS, am_stO, am_tnn, am_brl, am_brg, am_bre, am_brn, am_brG, am_brL, am_st1, am_no2, am_st2, am_clr]
                  exact SAME (fun hc => by omega)
                · refine am_wp_go rfl (by simp (disch := omega) only [s6 hw, s61 hw, r61_0 hw, s62 hw, k2, e62, am_andN, am_addE, am_subE, am_mulE, am_laddE, am_lsubE, am_upO, am_upS, am_stS, am_stO, am_tnn, am_brl, am_brg, am_bre, am_brn, am_brG, am_brL, am_st1, am_no2, am_st2, am_clr, and_self, true_and, and_true, true_or, or_true, List.length_cons, List.length_nil] <;> omega) ?_
                  try simp (disch := omega) only [s6 hw, s61 hw, r61_0 hw, s62 hw, k2, e62, am_andN, am_addE, am_subE, am_mulE, am_laddE, am_lsubE, am_upO, am_upS, am_stS, am_stO, am_tnn, am_brl, am_brg, am_bre, am_brn, am_brG, am_brL, am_st1, am_no2, am_st2, am_clr]
                  refine am_wp_br (fun b151 => ?_) (fun b151 => ?_)
                  · refine am_wp_go rfl (by simp (disch := omega) only [s6 hw, s61 hw, r61_0 hw, s62 hw, k2, e62, am_andN, am_addE, am_subE, am_mulE, am_laddE, am_lsubE, am_upO, am_upS, am_stS, am_stO, am_tnn, am_brl, am_brg, am_bre, am_brn, am_brG, am_brL, am_st1, am_no2, am_st2, am_clr, and_self, true_and, and_true, true_or, or_true, List.length_cons, List.length_nil] <;> omega) ?_
                    try simp (disch := omega) only [s6 hw, s61 hw, r61_0 hw, s62 hw, k2, e62, am_andN, am_addE, am_subE, am_mulE, am_laddE, am_lsubE, am_upO, am_upS, am_stS, am_stO, am_tnn, am_brl, am_brg, am_bre, am_brn, am_brG, am_brL, am_st1, am_no2, am_st2, am_clr]
                    exact SAME (fun hc => by omega)
                  · refine am_wp_go rfl (by simp (disch := omega) only [s6 hw, s61 hw, r61_0 hw, s62 hw, k2, e62, am_andN, am_addE, am_subE, am_mulE, am_laddE, am_lsubE, am_upO, am_upS, am_stS, am_stO, am_tnn, am_brl, am_brg, am_bre, am_brn, am_brG, am_brL, am_st1, am_no2, am_st2, am_clr, and_self, true_and, and_true, true_or, or_true, List.length_cons, List.length_nil] <;> omega) ?_
                    try simp (disch := omega) only [s6 hw, s61 hw, r61_0 hw, s62 hw, k2, e62, am_andN, am_addE, am_subE, am_mulE, am_laddE, am_lsubE, am_upO, am_upS, am_stS, am_stO, am_tnn, am_brl, am_brg, am_bre, am_brn, am_brG, am_brL, am_st1, am_no2, am_st2, am_clr]
                    refine am_wp_br (fun b164 => ?_) (fun b164 => ?_)
                    · refine am_wp_go rfl (by simp (disch := omega) only [s6 hw, s61 hw, r61_0 hw, s62 hw, k2, e62, am_andN, am_addE, am_subE, am_mulE, am_laddE, am_lsubE, am_upO, am_upS, am_stS, am_stO, am_tnn, am_brl, am_brg, am_bre, am_brn, am_brG, am_brL, am_st1, am_no2, am_st2, am_clr, and_self, true_and, and_true, true_or, or_true, List.length_cons, List.length_nil] <;> omega) ?_
                      try simp (disch := omega) only [s6 hw, s61 hw, r61_0 hw, s62 hw, k2, e62, am_andN, am_addE, am_subE, am_mulE, am_laddE, am_lsubE, am_upO, am_upS, am_stS, am_stO, am_tnn, am_brl, am_brg, am_bre, am_brn, am_brG, am_brL, am_st1, am_no2, am_st2, am_clr]
                      exact SAME (fun hc => by omega)
                    · refine am_wp_go rfl (by simp (disch := omega) only [s6 hw, s61 hw, r61_0 hw, s62 hw, k2, e62, am_andN, am_addE, am_subE, am_mulE, am_laddE, am_lsubE, am_upO, am_upS, am_stS, am_stO, am_tnn, am_brl, am_brg, am_bre, am_brn, am_brG, am_brL, am_st1, am_no2, am_st2, am_clr, and_self, true_and, and_true, true_or, or_true, List.length_cons, List.length_nil] <;> omega) ?_
                      try simp (disch := omega) only [s6 hw, s61 hw, r61_0 hw, s62 hw, k2, e62, am_andN, am_addE, am_subE, am_mulE, am_laddE, am_lsubE, am_upO, am_upS, am_stS, am_stO, am_tnn, am_brl, am_brg, am_bre, am_brn, am_brG, am_brL, am_st1, am_no2, am_st2, am_clr]
                      refine am_wp_ls (ih (by omega) (t + 1) (by omega) (fun i hi hio => ?_) (fun u hu => ?_)) rfl
                      · by_cases hib : i < b
                        · exact hb2 i hib hio
                        · exact CF i hio (Or.inl ⟨by omega, by omega, by omega⟩)
                      · rintro (hc | hc)
                        · omega
                        · by_cases hut : u = t
                          · subst hut; exact hc.2.2 b115'
                          · exact hb3 u (by omega) (Or.inr ⟨by omega, by omega, hc.2.2⟩)
              · have em : (if (b : Int) < (t : Int) + 1 + (r : Int) then (t : Int) + 1 + (r : Int) else (b : Int)) = ((max b (t + 1 + r) : Nat) : Int) := by split <;> omega
                have hmx : b ≤ max b (t + 1 + r) ∧ t + 1 + r ≤ max b (t + 1 + r) ∧ max b (t + 1 + r) ≤ 1010 ∧ (max b (t + 1 + r) = b ∨ max b (t + 1 + r) = t + 1 + r) := by omega
                refine am_wp_go rfl (by simp (disch := omega) only [s6 hw, s61 hw, r61_0 hw, s62 hw, k2, e62, em, am_addE, am_subE, am_mulE, am_laddE, am_lsubE, am_upO, am_upS, am_stS, am_stO, am_tnn, am_brl, am_brg, am_bre, am_brn, am_brG, am_brL, am_st1, am_no2, am_st2, am_clr, and_self, true_and, and_true, true_or, or_true, List.length_cons, List.length_nil] <;> omega) ?_
                try simp (disch := omega) only [s6 hw, s61 hw, r61_0 hw, s62 hw, k2, e62, em, am_addE, am_subE, am_mulE, am_laddE, am_lsubE, am_upO, am_upS, am_stS, am_stO, am_tnn, am_brl, am_brg, am_bre, am_brn, am_brG, am_brL, am_st1, am_no2, am_st2, am_clr]
                refine am_wp_ls (ih (by omega) (max b (t + 1 + r)) hmx.2.2.1 (fun i hi hio => ?_) (fun u hu => ?_)) rfl
                · by_cases hib : i < b
                  · exact hb2 i hib hio
                  · exact CF i hio (Or.inr ⟨by omega, by omega, by omega⟩)
                · rintro (hc | hc)
                  · omega
                  · omega
      exact am_wp_ls (L 0 (by decide) 0 (by decide) (fun i hi => absurd hi (Nat.not_lt_zero i)) (fun u hu => absurd hu (Nat.not_lt_zero u))) rfl
    · refine am_wp_go rfl (by simp (disch := omega) only [s6 hw, k2, ex, am_b0, am_bn0, am_orN, am_addE, am_subE, am_mulE, am_laddE, am_lsubE, am_upO, am_upS, am_stS, am_stO, am_tnn, am_brl, am_brg, am_bre, am_brn, am_brG, am_brL, am_st1, am_no2, am_st2, am_clr, and_self, true_and, and_true, true_or, or_true, List.length_cons, List.length_nil] <;> omega) ?_
      try simp (disch := omega) only [s6 hw, k2, ex, am_b0, am_bn0, am_orN, am_addE, am_subE, am_mulE, am_laddE, am_lsubE, am_upO, am_upS, am_stS, am_stO, am_tnn, am_brl, am_brg, am_bre, am_brn, am_brG, am_brL, am_st1, am_no2, am_st2, am_clr]
      refine am_wp_ret rfl rfl ?_
      rwa [OWN (Or.inr (A4.mpr (Classical.not_not.mp b31)))] at h
end EARLY
