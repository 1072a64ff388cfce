/-! ONE by the class: leaves -/
def ozX (I : Nat → Nat → Int) (n P : Nat) (ρ : Int) (q b : Nat → Int) : Prop := I 64 8 = (n : Int) ∧ I 64 9 = (P : Int) ∧ I 64 10 = ρ ∧ (∀ s, s < n → I 72 s = q s) ∧ (∀ s, s < n → I 66 s = b s) ∧ ∀ t : Nat, t < 256 → I 65 t = (ozB n q b (t : Int) : Int)
theorem ozX_fr {I J : Nat → Nat → Int} {n P : Nat} {ρ : Int} {q b : Nat → Int} (h : ozX I n P ρ q b) (e64 : ∀ j, 8 ≤ j → j ≤ 10 → J 64 j = I 64 j) (e72 : J 72 = I 72) (e66 : J 66 = I 66) (e65 : J 65 = I 65) : ozX J n P ρ q b := by
  unfold ozX at h ⊢
  rw [e64 8 (by omega) (by omega), e64 9 (by omega) (by omega), e64 10 (by omega) (by omega), e72, e66, e65]; exact h
theorem oz_xor1 : ∀ s : Fin 8, am_xor (s.val : Int) 1 = (ozP s.val : Int) := by decide +kernel
section SH
variable {m sl : Nat} {sh : Nat → Nat × Nat} {I : Nat → Nat → Int} {R : Nat → Nat → Nat} {Q : am_R → am_M → Prop} {d n P : Nat} {ρ : Int} {q b : Nat → Int}
theorem w_firstRoom {s fr y : Nat} (hw : wd sh R) (hQ : ozQ n P ρ q) (hX : ozX I n P ρ q b) (hs : s < n) (hy : ∀ t : Int, (y : Int) ≤ t → t < (y : Int) + q s → ozB n q b t < P) (hfy : fr ≤ y) (h256 : (y : Int) + q s ≤ 256) (h : ∀ x : Nat, fr ≤ x → x ≤ y → (∀ t : Int, (x : Int) ≤ t → t < (x : Int) + q s → ozB n q b t < P) → Q (am_yi x) (m, sl, sh, I, R)) : am_wp (d) 111 0 [some (.inr (.inr (64))), some (.inl ((fr : Int))), some (.inl (q s)), none, none] [] (m, sl, sh, I, R) Q := by
  have q1 := hQ.2.2.2.2.2.2 s hs
  have hP4 := hQ.2.2.2.1
  have h9 := hX.2.1
  refine am_wp_go rfl (by simp (disch := omega) only [am_addE, am_subE, am_mulE, am_laddE, am_lsubE, am_upO, am_upS, am_stS, am_stO, am_tnn, am_brl, am_brg, am_bre, am_brn, am_brG, am_brL, am_st1, am_no2, am_st2, am_clr, and_self, true_and, and_true, true_or, or_true, List.length_cons, List.length_nil] <;> omega) ?_
  try simp (disch := omega) only [am_addE, am_subE, am_mulE, am_laddE, am_lsubE, am_upO, am_upS, am_stS, am_stO, am_tnn, am_brl, am_brg, am_bre, am_brn, am_brG, am_brL, am_st1, am_no2, am_st2, am_clr]
  have LP : ∀ t : Nat, t ≤ 257 → ∀ x : Nat, fr ≤ x → x ≤ t → (∀ u : Int, (x : Int) ≤ u → u < (t : Int) → ozB n q b u < P) → x ≤ y → (t : Int) ≤ (x : Int) + q s → am_wp (d) 111 5 [some (.inr (.inr (64))), some (.inl ((fr : Int))), some (.inl (q s)), some (.inl ((x : Int))), some (.inl ((t : Int)))] [] (m, sl, sh, I, R) Q := by
    refine am_lp 257 (fun t ht ih x x1 x2 x3 x4 x5 => ?_)
    refine am_wp_go rfl (by simp (disch := omega) only [am_addE, am_subE, am_mulE, am_laddE, am_lsubE, am_upO, am_upS, am_stS, am_stO, am_tnn, am_brl, am_brg, am_bre, am_brn, am_brG, am_brL, am_st1, am_no2, am_st2, am_clr, and_self, true_and, and_true, true_or, or_true, List.length_cons, List.length_nil] <;> omega) ?_
    try simp (disch := omega) only [am_addE, am_subE, am_mulE, am_laddE, am_lsubE, am_upO, am_upS, am_stS, am_stO, am_tnn, am_brl, am_brg, am_bre, am_brn, am_brG, am_brL, am_st1, am_no2, am_st2, am_clr]
    refine am_wp_br (fun b10 => ?_) (fun b10 => ?_)
    · refine am_wp_go rfl (by simp (disch := omega) only [am_addE, am_subE, am_mulE, am_laddE, am_lsubE, am_upO, am_upS, am_stS, am_stO, am_tnn, am_brl, am_brg, am_bre, am_brn, am_brG, am_brL, am_st1, am_no2, am_st2, am_clr, and_self, true_and, and_true, true_or, or_true, List.length_cons, List.length_nil] <;> omega) ?_
      try simp (disch := omega) only [am_addE, am_subE, am_mulE, am_laddE, am_lsubE, am_upO, am_upS, am_stS, am_stO, am_tnn, am_brl, am_brg, am_bre, am_brn, am_brG, am_brL, am_st1, am_no2, am_st2, am_clr]
      refine am_wp_ret rfl rfl ?_
      exact h x x1 x4 (fun u u1 u2 => x3 u u1 (by omega))
    · refine am_wp_go rfl (by simp (disch := omega) only [am_addE, am_subE, am_mulE, am_laddE, am_lsubE, am_upO, am_upS, am_stS, am_stO, am_tnn, am_brl, am_brg, am_bre, am_brn, am_brG, am_brL, am_st1, am_no2, am_st2, am_clr, and_self, true_and, and_true, true_or, or_true, List.length_cons, List.length_nil] <;> omega) ?_
      try simp (disch := omega) only [am_addE, am_subE, am_mulE, am_laddE, am_lsubE, am_upO, am_upS, am_stS, am_stO, am_tnn, am_brl, am_brg, am_bre, am_brn, am_brG, am_brL, am_st1, am_no2, am_st2, am_clr]
      refine am_wp_br (fun b18 => ?_) (fun b18 => ?_)
      · omega
      · have bt := hX.2.2.2.2.2 t (by omega)
        have ih := ih (by omega)
        refine am_wp_go rfl (by simp (disch := omega) only [s64 hw, r64_0 hw, s65 hw, bt, h9, am_addE, am_subE, am_mulE, am_laddE, am_lsubE, am_upO, am_upS, am_stS, am_stO, am_tnn, am_brl, am_brg, am_bre, am_brn, am_brG, am_brL, am_st1, am_no2, am_st2, am_clr, and_self, true_and, and_true, true_or, or_true, List.length_cons, List.length_nil] <;> omega) ?_
        try simp (disch := omega) only [s64 hw, r64_0 hw, s65 hw, bt, h9, am_addE, am_subE, am_mulE, am_laddE, am_lsubE, am_upO, am_upS, am_stS, am_stO, am_tnn, am_brl, am_brg, am_bre, am_brn, am_brG, am_brL, am_st1, am_no2, am_st2, am_clr]
        refine am_wp_br (fun b32 => ?_) (fun b32 => ?_)
        · refine am_wp_go rfl (by simp (disch := omega) only [s64 hw, r64_0 hw, s65 hw, bt, h9, am_addE, am_subE, am_mulE, am_laddE, am_lsubE, am_upO, am_upS, am_stS, am_stO, am_tnn, am_brl, am_brg, am_bre, am_brn, am_brG, am_brL, am_st1, am_no2, am_st2, am_clr, and_self, true_and, and_true, true_or, or_true, List.length_cons, List.length_nil] <;> omega) ?_
          try simp (disch := omega) only [s64 hw, r64_0 hw, s65 hw, bt, h9, am_addE, am_subE, am_mulE, am_laddE, am_lsubE, am_upO, am_upS, am_stS, am_stO, am_tnn, am_brl, am_brg, am_bre, am_brn, am_brG, am_brL, am_st1, am_no2, am_st2, am_clr]
          refine am_wp_ls (ih x x1 (by omega) (fun u u1 u2 => ?_) x4 (by omega)) rfl
          by_cases e : u = (t : Int)
          · rw [e]; omega
          · exact x3 u u1 (by omega)
        · refine am_wp_go rfl (by simp (disch := omega) only [s64 hw, r64_0 hw, s65 hw, bt, h9, am_addE, am_subE, am_mulE, am_laddE, am_lsubE, am_upO, am_upS, am_stS, am_stO, am_tnn, am_brl, am_brg, am_bre, am_brn, am_brG, am_brL, am_st1, am_no2, am_st2, am_clr, and_self, true_and, and_true, true_or, or_true, List.length_cons, List.length_nil] <;> omega) ?_
          try simp (disch := omega) only [s64 hw, r64_0 hw, s65 hw, bt, h9, am_addE, am_subE, am_mulE, am_laddE, am_lsubE, am_upO, am_upS, am_stS, am_stO, am_tnn, am_brl, am_brg, am_bre, am_brn, am_brG, am_brL, am_st1, am_no2, am_st2, am_clr]
          have yt : t < y := by
            refine Classical.byContradiction (fun hc => ?_)
            have := hy (t : Int) (by omega) (by omega)
            omega
          refine am_wp_ls (ih (t + 1) (by omega) (Nat.le_refl _) (fun u u1 u2 => by omega) (by omega) (by omega)) rfl
  exact am_wp_ls (LP fr (by omega) fr (Nat.le_refl _) (Nat.le_refl _) (fun u u1 u2 => by omega) hfy (by omega)) rfl
theorem w_earliest {s fr : Nat} (hw : wd sh R) (hQ : ozQ n P ρ q) (hV : ozV n P ρ q b) (hX : ozX I n P ρ q b) (hs : s < n) (hM : ozM n q b ≤ 203) (hf : (fr : Int) ≤ oze n P ρ q b s) (h : Q (am_yi (oze n P ρ q b s)) (m, sl, sh, I, R)) : am_wp (d + 1) 110 0 [some (.inr (.inr (64))), some (.inl ((s : Int))), some (.inl ((fr : Int))), none, none, none, none, none] [] (m, sl, sh, I, R) Q := by
  have q1 := hQ.2.2.2.2.2.2 s hs
  have n8 := hQ.1
  have r0 := hQ.2.2.2.2.1
  have r9 := hQ.2.2.2.2.2.1
  have sp := oze_sp (b := b) hQ hs
  have ps := ozP_lt hQ.2.1 hs
  have qp := hQ.2.2.2.2.2.2 (ozP s) ps
  have ns72 := hX.2.2.2.1 s hs
  have p72 := hX.2.2.2.1 (ozP s) ps
  have p66 := hX.2.2.2.2.1 (ozP s) ps
  have h10 := hX.2.2.1
  have xr := oz_xor1 ⟨s, by omega⟩
  dsimp only at xr
  obtain ⟨y, hy⟩ : ∃ y : Nat, oze n P ρ q b s = (y : Int) := ⟨(oze n P ρ q b s).toNat, by have := sp.1.1; omega⟩
  have sp1 := sp.1
  rw [hy] at sp1 hf h
  have yb : (y : Int) ≤ 212 := by have := sp.2; omega
  clear sp
  have fin : ∀ x : Nat, x ≤ y → ozC n P ρ q b s (x : Int) → x = y := fun x h1 h2 => by
    refine Classical.byContradiction (fun hc => ?_)
    exact sp1.2.2 (x : Int) (by omega) (by omega) h2
  refine am_wp_go rfl (by simp (disch := omega) only [s64 hw, r64_1 hw, r64_7 hw, s66 hw, s72 hw, ns72, xr, am_addE, am_subE, am_mulE, am_laddE, am_lsubE, am_upO, am_upS, am_stS, am_stO, am_tnn, am_brl, am_brg, am_bre, am_brn, am_brG, am_brL, am_st1, am_no2, am_st2, am_clr, and_self, true_and, and_true, true_or, or_true, List.length_cons, List.length_nil] <;> omega) ?_
  try simp (disch := omega) only [s64 hw, r64_1 hw, r64_7 hw, s66 hw, s72 hw, ns72, xr, am_addE, am_subE, am_mulE, am_laddE, am_lsubE, am_upO, am_upS, am_stS, am_stO, am_tnn, am_brl, am_brg, am_bre, am_brn, am_brG, am_brL, am_st1, am_no2, am_st2, am_clr]
  refine am_wp_cc rfl rfl rfl (congrArg Prod.fst (s64 hw)) (w_firstRoom (n := n) (P := P) (ρ := ρ) (q := q) (b := b) (s := s) (y := y) hw hQ hX hs sp1.2.1.1 (by omega) (by omega) (fun x x1 x2 x3 => ⟨_, rfl, ?_⟩))
  have pv := hV.1 (ozP s) ps
  have pm : b (ozP s) ≠ -1 → b (ozP s) + q (ozP s) ≤ ozM n q b := fun hc => ozM_ge ps hc
  refine am_wp_go rfl (by simp (disch := omega) only [s64 hw, r64_1 hw, r64_7 hw, s66 hw, s72 hw, ns72, p72, p66, h10, xr, am_addE, am_subE, am_mulE, am_laddE, am_lsubE, am_upO, am_upS, am_stS, am_stO, am_tnn, am_brl, am_brg, am_bre, am_brn, am_brG, am_brL, am_st1, am_no2, am_st2, am_clr, and_self, true_and, and_true, true_or, or_true, List.length_cons, List.length_nil] <;> omega) ?_
  try simp (disch := omega) only [s64 hw, r64_1 hw, r64_7 hw, s66 hw, s72 hw, ns72, p72, p66, h10, xr, am_addE, am_subE, am_mulE, am_laddE, am_lsubE, am_upO, am_upS, am_stS, am_stO, am_tnn, am_brl, am_brg, am_bre, am_brn, am_brG, am_brL, am_st1, am_no2, am_st2, am_clr]
  refine am_wp_br (fun b28 => ?_) (fun b28 => ?_)
  · have pm := pm b28
    refine am_wp_go rfl (by simp (disch := omega) only [s64 hw, r64_1 hw, r64_7 hw, s66 hw, s72 hw, ns72, p72, p66, h10, xr, am_addE, am_subE, am_mulE, am_laddE, am_lsubE, am_upO, am_upS, am_stS, am_stO, am_tnn, am_brl, am_brg, am_bre, am_brn, am_brG, am_brL, am_st1, am_no2, am_st2, am_clr, and_self, true_and, and_true, true_or, or_true, List.length_cons, List.length_nil] <;> omega) ?_
    try simp (disch := omega) only [s64 hw, r64_1 hw, r64_7 hw, s66 hw, s72 hw, ns72, p72, p66, h10, xr, am_addE, am_subE, am_mulE, am_laddE, am_lsubE, am_upO, am_upS, am_stS, am_stO, am_tnn, am_brl, am_brg, am_bre, am_brn, am_brG, am_brL, am_st1, am_no2, am_st2, am_clr]
    refine am_wp_br (fun b60 => ?_) (fun b60 => ?_)
    · have e := fin x x2 ⟨x3, Or.inr (Or.inl (by omega))⟩
      refine am_wp_go rfl (by simp (disch := omega) only [s64 hw, r64_1 hw, r64_7 hw, s66 hw, s72 hw, ns72, p72, p66, h10, xr, am_addE, am_subE, am_mulE, am_laddE, am_lsubE, am_upO, am_upS, am_stS, am_stO, am_tnn, am_brl, am_brg, am_bre, am_brn, am_brG, am_brL, am_st1, am_no2, am_st2, am_clr, and_self, true_and, and_true, true_or, or_true, List.length_cons, List.length_nil] <;> omega) ?_
      refine am_wp_pc (pc' := 104) rfl ?_
      refine am_wp_go rfl (by simp (disch := omega) only [s64 hw, r64_1 hw, r64_7 hw, s66 hw, s72 hw, ns72, p72, p66, h10, xr, am_addE, am_subE, am_mulE, am_laddE, am_lsubE, am_upO, am_upS, am_stS, am_stO, am_tnn, am_brl, am_brg, am_bre, am_brn, am_brG, am_brL, am_st1, am_no2, am_st2, am_clr, and_self, true_and, and_true, true_or, or_true, List.length_cons, List.length_nil] <;> omega) ?_
      try simp (disch := omega) only [s64 hw, r64_1 hw, r64_7 hw, s66 hw, s72 hw, ns72, p72, p66, h10, xr, am_addE, am_subE, am_mulE, am_laddE, am_lsubE, am_upO, am_upS, am_stS, am_stO, am_tnn, am_brl, am_brg, am_bre, am_brn, am_brG, am_brL, am_st1, am_no2, am_st2, am_clr]
      refine am_wp_ret rfl rfl ?_
      rw [e]; exact h
    · refine am_wp_go rfl (by simp (disch := omega) only [s64 hw, r64_1 hw, r64_7 hw, s66 hw, s72 hw, ns72, p72, p66, h10, xr, am_addE, am_subE, am_mulE, am_laddE, am_lsubE, am_upO, am_upS, am_stS, am_stO, am_tnn, am_brl, am_brg, am_bre, am_brn, am_brG, am_brL, am_st1, am_no2, am_st2, am_clr, and_self, true_and, and_true, true_or, or_true, List.length_cons, List.length_nil] <;> omega) ?_
      try simp (disch := omega) only [s64 hw, r64_1 hw, r64_7 hw, s66 hw, s72 hw, ns72, p72, p66, h10, xr, am_addE, am_subE, am_mulE, am_laddE, am_lsubE, am_upO, am_upS, am_stS, am_stO, am_tnn, am_brl, am_brg, am_bre, am_brn, am_brG, am_brL, am_st1, am_no2, am_st2, am_clr]
      refine am_wp_br (fun b79 => ?_) (fun b79 => ?_)
      · have e := fin x x2 ⟨x3, Or.inr (Or.inr (by omega))⟩
        refine am_wp_go rfl (by simp (disch := omega) only [s64 hw, r64_1 hw, r64_7 hw, s66 hw, s72 hw, ns72, p72, p66, h10, xr, am_addE, am_subE, am_mulE, am_laddE, am_lsubE, am_upO, am_upS, am_stS, am_stO, am_tnn, am_brl, am_brg, am_bre, am_brn, am_brG, am_brL, am_st1, am_no2, am_st2, am_clr, and_self, true_and, and_true, true_or, or_true, List.length_cons, List.length_nil] <;> omega) ?_
        refine am_wp_pc (pc' := 104) rfl ?_
        refine am_wp_go rfl (by simp (disch := omega) only [s64 hw, r64_1 hw, r64_7 hw, s66 hw, s72 hw, ns72, p72, p66, h10, xr, am_addE, am_subE, am_mulE, am_laddE, am_lsubE, am_upO, am_upS, am_stS, am_stO, am_tnn, am_brl, am_brg, am_bre, am_brn, am_brG, am_brL, am_st1, am_no2, am_st2, am_clr, and_self, true_and, and_true, true_or, or_true, List.length_cons, List.length_nil] <;> omega) ?_
        try simp (disch := omega) only [s64 hw, r64_1 hw, r64_7 hw, s66 hw, s72 hw, ns72, p72, p66, h10, xr, am_addE, am_subE, am_mulE, am_laddE, am_lsubE, am_upO, am_upS, am_stS, am_stO, am_tnn, am_brl, am_brg, am_bre, am_brn, am_brG, am_brL, am_st1, am_no2, am_st2, am_clr]
        refine am_wp_ret rfl rfl ?_
        rw [e]; exact h
      · have c2 := sp1.2.1.2
        obtain ⟨cl, hcl⟩ : ∃ cl : Nat, b (ozP s) + q (ozP s) + ρ = (cl : Int) := ⟨(b (ozP s) + q (ozP s) + ρ).toNat, by omega⟩
        refine am_wp_go rfl (by simp (disch := omega) only [s64 hw, r64_1 hw, r64_7 hw, s66 hw, s72 hw, ns72, p72, p66, h10, xr, am_addE, am_subE, am_mulE, am_laddE, am_lsubE, am_upO, am_upS, am_stS, am_stO, am_tnn, am_brl, am_brg, am_bre, am_brn, am_brG, am_brL, am_st1, am_no2, am_st2, am_clr, and_self, true_and, and_true, true_or, or_true, List.length_cons, List.length_nil] <;> omega) ?_
        refine am_wp_pc (pc' := 94) rfl ?_
        refine am_wp_go rfl (by simp (disch := omega) only [s64 hw, r64_1 hw, r64_7 hw, s66 hw, s72 hw, ns72, p72, p66, h10, xr, am_addE, am_subE, am_mulE, am_laddE, am_lsubE, am_upO, am_upS, am_stS, am_stO, am_tnn, am_brl, am_brg, am_bre, am_brn, am_brG, am_brL, am_st1, am_no2, am_st2, am_clr, and_self, true_and, and_true, true_or, or_true, List.length_cons, List.length_nil] <;> omega) ?_
        try simp (disch := omega) only [s64 hw, r64_1 hw, r64_7 hw, s66 hw, s72 hw, ns72, p72, p66, h10, xr, am_addE, am_subE, am_mulE, am_laddE, am_lsubE, am_upO, am_upS, am_stS, am_stO, am_tnn, am_brl, am_brg, am_bre, am_brn, am_brG, am_brL, am_st1, am_no2, am_st2, am_clr]
        rw [hcl]
        refine am_wp_cc rfl rfl rfl (congrArg Prod.fst (s64 hw)) (w_firstRoom (n := n) (P := P) (ρ := ρ) (q := q) (b := b) (s := s) (y := y) hw hQ hX hs sp1.2.1.1 (by omega) (by omega) (fun z z1 z2 z3 => ⟨_, rfl, ?_⟩))
        have e := fin z z2 ⟨z3, Or.inr (Or.inl (by omega))⟩
        refine am_wp_go rfl (by simp (disch := omega) only [s64 hw, r64_1 hw, r64_7 hw, s66 hw, s72 hw, ns72, p72, p66, h10, xr, am_addE, am_subE, am_mulE, am_laddE, am_lsubE, am_upO, am_upS, am_stS, am_stO, am_tnn, am_brl, am_brg, am_bre, am_brn, am_brG, am_brL, am_st1, am_no2, am_st2, am_clr, and_self, true_and, and_true, true_or, or_true, List.length_cons, List.length_nil] <;> omega) ?_
        try simp (disch := omega) only [s64 hw, r64_1 hw, r64_7 hw, s66 hw, s72 hw, ns72, p72, p66, h10, xr, am_addE, am_subE, am_mulE, am_laddE, am_lsubE, am_upO, am_upS, am_stS, am_stO, am_tnn, am_brl, am_brg, am_bre, am_brn, am_brG, am_brL, am_st1, am_no2, am_st2, am_clr]
        refine am_wp_ret rfl rfl ?_
        rw [e]; exact h
  · have e := fin x x2 ⟨x3, Or.inl (by omega)⟩
    refine am_wp_go rfl (by simp (disch := omega) only [s64 hw, r64_1 hw, r64_7 hw, s66 hw, s72 hw, ns72, p72, p66, h10, xr, am_addE, am_subE, am_mulE, am_laddE, am_lsubE, am_upO, am_upS, am_stS, am_stO, am_tnn, am_brl, am_brg, am_bre, am_brn, am_brG, am_brL, am_st1, am_no2, am_st2, am_clr, and_self, true_and, and_true, true_or, or_true, List.length_cons, List.length_nil] <;> omega) ?_
    try simp (disch := omega) only [s64 hw, r64_1 hw, r64_7 hw, s66 hw, s72 hw, ns72, p72, p66, h10, xr, am_addE, am_subE, am_mulE, am_laddE, am_lsubE, am_upO, am_upS, am_stS, am_stO, am_tnn, am_brl, am_brg, am_bre, am_brn, am_brG, am_brL, am_st1, am_no2, am_st2, am_clr]
    refine am_wp_ret rfl rfl ?_
    rw [e]; exact h
theorem w_isInTheWay {l s : Nat} {x : Int} (hw : wd sh R) (hQ : ozQ n P ρ q) (hX : ozX I n P ρ q b) (hl : l < n) (hs : s < n) (hx : 0 ≤ x ∧ x ≤ 1000) (hb : 0 ≤ b l ∧ b l ≤ 1000) (h : Q (am_yi (am_b (l = ozP s ∨ (b l < x + q s ∧ x < b l + q l)))) (m, sl, sh, I, R)) : am_wp (d) 105 0 [some (.inr (.inr (64))), some (.inl ((l : Int))), some (.inl ((s : Int))), some (.inl (x))] [] (m, sl, sh, I, R) Q := by
  have n8 := hQ.1
  have q1 := hQ.2.2.2.2.2.2 s hs
  have q2 := hQ.2.2.2.2.2.2 l hl
  have ns72 := hX.2.2.2.1 s hs
  have l72 := hX.2.2.2.1 l hl
  have l66 := hX.2.2.2.2.1 l hl
  have xr := oz_xor1 ⟨s, by omega⟩
  dsimp only at xr
  refine am_wp_go rfl (by simp (disch := omega) only [s64 hw, r64_1 hw, r64_7 hw, s66 hw, s72 hw, ns72, l72, l66, xr, am_addE, am_subE, am_mulE, am_laddE, am_lsubE, am_upO, am_upS, am_stS, am_stO, am_tnn, am_brl, am_brg, am_bre, am_brn, am_brG, am_brL, am_st1, am_no2, am_st2, am_clr, and_self, true_and, and_true, true_or, or_true, List.length_cons, List.length_nil] <;> omega) ?_
  try simp (disch := omega) only [s64 hw, r64_1 hw, r64_7 hw, s66 hw, s72 hw, ns72, l72, l66, xr, am_addE, am_subE, am_mulE, am_laddE, am_lsubE, am_upO, am_upS, am_stS, am_stO, am_tnn, am_brl, am_brg, am_bre, am_brn, am_brG, am_brL, am_st1, am_no2, am_st2, am_clr]
  refine am_wp_br (fun b4 => ?_) (fun b4 => ?_)
  · refine am_wp_go rfl (by simp (disch := omega) only [s64 hw, r64_1 hw, r64_7 hw, s66 hw, s72 hw, ns72, l72, l66, xr, am_addE, am_subE, am_mulE, am_laddE, am_lsubE, am_upO, am_upS, am_stS, am_stO, am_tnn, am_brl, am_brg, am_bre, am_brn, am_brG, am_brL, am_st1, am_no2, am_st2, am_clr, and_self, true_and, and_true, true_or, or_true, List.length_cons, List.length_nil] <;> omega) ?_
    try simp (disch := omega) only [s64 hw, r64_1 hw, r64_7 hw, s66 hw, s72 hw, ns72, l72, l66, xr, am_addE, am_subE, am_mulE, am_laddE, am_lsubE, am_upO, am_upS, am_stS, am_stO, am_tnn, am_brl, am_brg, am_bre, am_brn, am_brG, am_brL, am_st1, am_no2, am_st2, am_clr]
    refine am_wp_ret rfl rfl ?_
    rwa [am_bT (Or.inl (by omega))] at h
  · refine am_wp_go rfl (by simp (disch := omega) only [s64 hw, r64_1 hw, r64_7 hw, s66 hw, s72 hw, ns72, l72, l66, xr, am_addE, am_subE, am_mulE, am_laddE, am_lsubE, am_upO, am_upS, am_stS, am_stO, am_tnn, am_brl, am_brg, am_bre, am_brn, am_brG, am_brL, am_st1, am_no2, am_st2, am_clr, and_self, true_and, and_true, true_or, or_true, List.length_cons, List.length_nil] <;> omega) ?_
    try simp (disch := omega) only [s64 hw, r64_1 hw, r64_7 hw, s66 hw, s72 hw, ns72, l72, l66, xr, am_addE, am_subE, am_mulE, am_laddE, am_lsubE, am_upO, am_upS, am_stS, am_stO, am_tnn, am_brl, am_brg, am_bre, am_brn, am_brG, am_brL, am_st1, am_no2, am_st2, am_clr]
    refine am_wp_br (fun b21 => ?_) (fun b21 => ?_)
    · refine am_wp_go rfl (by simp (disch := omega) only [s64 hw, r64_1 hw, r64_7 hw, s66 hw, s72 hw, ns72, l72, l66, xr, am_addE, am_subE, am_mulE, am_laddE, am_lsubE, am_upO, am_upS, am_stS, am_stO, am_tnn, am_brl, am_brg, am_bre, am_brn, am_brG, am_brL, am_st1, am_no2, am_st2, am_clr, and_self, true_and, and_true, true_or, or_true, List.length_cons, List.length_nil] <;> omega) ?_
      try simp (disch := omega) only [s64 hw, r64_1 hw, r64_7 hw, s66 hw, s72 hw, ns72, l72, l66, xr, am_addE, am_subE, am_mulE, am_laddE, am_lsubE, am_upO, am_upS, am_stS, am_stO, am_tnn, am_brl, am_brg, am_bre, am_brn, am_brG, am_brL, am_st1, am_no2, am_st2, am_clr]
      refine am_wp_ret rfl rfl ?_
      rwa [am_bF (by omega)] at h
    · refine am_wp_go rfl (by simp (disch := omega) only [s64 hw, r64_1 hw, r64_7 hw, s66 hw, s72 hw, ns72, l72, l66, xr, am_addE, am_subE, am_mulE, am_laddE, am_lsubE, am_upO, am_upS, am_stS, am_stO, am_tnn, am_brl, am_brg, am_bre, am_brn, am_brG, am_brL, am_st1, am_no2, am_st2, am_clr, and_self, true_and, and_true, true_or, or_true, List.length_cons, List.length_nil] <;> omega) ?_
      try simp (disch := omega) only [s64 hw, r64_1 hw, r64_7 hw, s66 hw, s72 hw, ns72, l72, l66, xr, am_addE, am_subE, am_mulE, am_laddE, am_lsubE, am_upO, am_upS, am_stS, am_stO, am_tnn, am_brl, am_brg, am_bre, am_brn, am_brG, am_brL, am_st1, am_no2, am_st2, am_clr]
      refine am_wp_br (fun b38 => ?_) (fun b38 => ?_)
      · refine am_wp_go rfl (by simp (disch := omega) only [s64 hw, r64_1 hw, r64_7 hw, s66 hw, s72 hw, ns72, l72, l66, xr, am_addE, am_subE, am_mulE, am_laddE, am_lsubE, am_upO, am_upS, am_stS, am_stO, am_tnn, am_brl, am_brg, am_bre, am_brn, am_brG, am_brL, am_st1, am_no2, am_st2, am_clr, and_self, true_and, and_true, true_or, or_true, List.length_cons, List.length_nil] <;> omega) ?_
        try simp (disch := omega) only [s64 hw, r64_1 hw, r64_7 hw, s66 hw, s72 hw, ns72, l72, l66, xr, am_addE, am_subE, am_mulE, am_laddE, am_lsubE, am_upO, am_upS, am_stS, am_stO, am_tnn, am_brl, am_brg, am_bre, am_brn, am_brG, am_brL, am_st1, am_no2, am_st2, am_clr]
        refine am_wp_ret rfl rfl ?_
        rwa [am_bF (by omega)] at h
      · refine am_wp_go rfl (by simp (disch := omega) only [s64 hw, r64_1 hw, r64_7 hw, s66 hw, s72 hw, ns72, l72, l66, xr, am_addE, am_subE, am_mulE, am_laddE, am_lsubE, am_upO, am_upS, am_stS, am_stO, am_tnn, am_brl, am_brg, am_bre, am_brn, am_brG, am_brL, am_st1, am_no2, am_st2, am_clr, and_self, true_and, and_true, true_or, or_true, List.length_cons, List.length_nil] <;> omega) ?_
        try simp (disch := omega) only [s64 hw, r64_1 hw, r64_7 hw, s66 hw, s72 hw, ns72, l72, l66, xr, am_addE, am_subE, am_mulE, am_laddE, am_lsubE, am_upO, am_upS, am_stS, am_stO, am_tnn, am_brl, am_brg, am_bre, am_brn, am_brG, am_brL, am_st1, am_no2, am_st2, am_clr]
        refine am_wp_ret rfl rfl ?_
        rwa [am_bT (by omega)] at h
theorem w_occupy {x : Nat} {y c : Int} (hw : wd sh R) (hy : 0 ≤ y ∧ y ≤ 20) (hx : (x : Int) + y ≤ 256) (hc : c = 1 ∨ c = -1) (hb : ∀ t : Nat, t < 256 → -100 ≤ I 65 t ∧ I 65 t ≤ 100) (h : ∀ J, (∀ a, a ≠ 65 → J a = I a) → (∀ t : Nat, t < 256 → J 65 t = I 65 t + if (x : Int) ≤ (t : Int) ∧ (t : Int) < (x : Int) + y then c else 0) → Q am_yv (m, sl, sh, J, R)) : am_wp (d) 109 0 [some (.inr (.inr (64))), some (.inl ((x : Int))), some (.inl (y)), some (.inl (c)), none] [] (m, sl, sh, I, R) Q := by
  have LP : ∀ t : Nat, t ≤ 257 → ∀ (J : Nat → Nat → Int), x ≤ t → (t : Int) ≤ (x : Int) + y → (∀ a, a ≠ 65 → J a = I a) → (∀ u : Nat, u < 256 → J 65 u = I 65 u + if (x : Int) ≤ (u : Int) ∧ (u : Int) < (t : Int) then c else 0) → am_wp (d) 109 3 [some (.inr (.inr (64))), some (.inl ((x : Int))), some (.inl (y)), some (.inl (c)), some (.inl ((t : Int)))] [] (m, sl, sh, J, R) Q := by
    refine am_lp 257 (fun t ht ih J t1 t2 j1 j2 => ?_)
    refine am_wp_go rfl (by simp (disch := omega) only [am_addE, am_subE, am_mulE, am_laddE, am_lsubE, am_upO, am_upS, am_stS, am_stO, am_tnn, am_brl, am_brg, am_bre, am_brn, am_brG, am_brL, am_st1, am_no2, am_st2, am_clr, and_self, true_and, and_true, true_or, or_true, List.length_cons, List.length_nil] <;> omega) ?_
    try simp (disch := omega) only [am_addE, am_subE, am_mulE, am_laddE, am_lsubE, am_upO, am_upS, am_stS, am_stO, am_tnn, am_brl, am_brg, am_bre, am_brn, am_brG, am_brL, am_st1, am_no2, am_st2, am_clr]
    refine am_wp_br (fun b8 => ?_) (fun b8 => ?_)
    · refine am_wp_ret rfl rfl ?_
      refine h J j1 (fun u hu => ?_)
      rw [j2 u hu, show (t : Int) = (x : Int) + y by omega]
    · refine am_wp_go rfl (by simp (disch := omega) only [am_addE, am_subE, am_mulE, am_laddE, am_lsubE, am_upO, am_upS, am_stS, am_stO, am_tnn, am_brl, am_brg, am_bre, am_brn, am_brG, am_brL, am_st1, am_no2, am_st2, am_clr, and_self, true_and, and_true, true_or, or_true, List.length_cons, List.length_nil] <;> omega) ?_
      try simp (disch := omega) only [am_addE, am_subE, am_mulE, am_laddE, am_lsubE, am_upO, am_upS, am_stS, am_stO, am_tnn, am_brl, am_brg, am_bre, am_brn, am_brG, am_brL, am_st1, am_no2, am_st2, am_clr]
      refine am_wp_br (fun b16 => ?_) (fun b16 => ?_)
      · omega
      · have jt := j2 t (by omega)
        rw [if_neg (by omega), Int.add_zero] at jt
        have bt := hb t (by omega)
        refine am_wp_go rfl (by simp (disch := omega) only [s64 hw, r64_0 hw, s65 hw, jt, am_addE, am_subE, am_mulE, am_laddE, am_lsubE, am_upO, am_upS, am_stS, am_stO, am_tnn, am_brl, am_brg, am_bre, am_brn, am_brG, am_brL, am_st1, am_no2, am_st2, am_clr, and_self, true_and, and_true, true_or, or_true, List.length_cons, List.length_nil] <;> omega) ?_
        try simp (disch := omega) only [s64 hw, r64_0 hw, s65 hw, jt, am_addE, am_subE, am_mulE, am_laddE, am_lsubE, am_upO, am_upS, am_stS, am_stO, am_tnn, am_brl, am_brg, am_bre, am_brn, am_brG, am_brL, am_st1, am_no2, am_st2, am_clr]
        refine am_wp_ls (ih (by omega) _ (by omega) (by omega) (fun a ha => by rw [am_upO ha, j1 a ha]) (fun u hu => ?_)) rfl
        rw [am_upS]
        by_cases e : u = t
        · subst e
          rw [am_stS rfl, if_pos (by omega)]
        · rw [am_stO e, j2 u hu]
          have : ((x : Int) ≤ (u : Int) ∧ (u : Int) < (t : Int)) ↔ ((x : Int) ≤ (u : Int) ∧ (u : Int) < ((t + 1 : Nat) : Int)) := by omega
          simp only [this]
  refine am_wp_go rfl (by simp (disch := omega) only [am_addE, am_subE, am_mulE, am_laddE, am_lsubE, am_upO, am_upS, am_stS, am_stO, am_tnn, am_brl, am_brg, am_bre, am_brn, am_brG, am_brL, am_st1, am_no2, am_st2, am_clr, and_self, true_and, and_true, true_or, or_true, List.length_cons, List.length_nil] <;> omega) ?_
  try simp (disch := omega) only [am_addE, am_subE, am_mulE, am_laddE, am_lsubE, am_upO, am_upS, am_stS, am_stO, am_tnn, am_brl, am_brg, am_bre, am_brn, am_brG, am_brL, am_st1, am_no2, am_st2, am_clr]
  refine am_wp_ls (LP x (by omega) I (Nat.le_refl _) (by omega) (fun _ _ => rfl) (fun u hu => ?_)) rfl
  rw [if_neg (by omega), Int.add_zero]
end SH
