/-! ONE by the reference: canStart, trySides -/
def ozY (I : Nat → Nat → Int) (n P : Nat) (ρ : Int) (b : Nat → Int) (S : Nat) : Prop := wk (I 126) ∧ n = 2 * nS (I 126) ∧ I 126 0 = (P : Int) ∧ I 126 1 = ρ ∧ S < 256 ∧ (∀ s, s < n → S.testBit s = decide (b s ≠ -1)) ∧ (∀ s, s < n → b s ≠ -1 → I 139 s = b s) ∧ ∀ t : Nat, t < 400 → I 141 t = (ozB n (ozq (I 126)) b (t : Int) : Int)
def ozBr (I : Nat → Nat → Int) (n : Nat) (B : Int × List Nat × (Nat → Int)) : Prop := I 124 35 = B.1 ∧ (B.1 < 9999 → (∀ j, j < n → I 138 j = (B.2.1.getD j 0 : Int)) ∧ ∀ s, s < n → I 140 s = B.2.2 s)
section TR
variable {m sl : Nat} {sh : Nat → Nat × Nat} {I : Nat → Nat → Int} {R : Nat → Nat → Nat} {Q : am_R → am_M → Prop} {d n P : Nat} {ρ : Int} {q b : Nat → Int}
theorem w_M_needsq {s : Nat} (hw : wd sh R) (hs : s < 8) (h : Q (am_yi (ozq (I 126) s)) (m, sl, sh, I, R)) : am_wp (d) 230 0 [some (.inr (.inr (124))), some (.inl (((s / 2 : Nat) : Int))), some (.inl (((s % 2 : Nat) : Int)))] [] (m, sl, sh, I, R) Q := w_M_needs hw (by omega) (by omega) h
theorem w_M_canStart {s x S : Nat} (hw : wd sh R) (hY : ozY I n P ρ b S) (hQ : ozQ n P ρ (ozq (I 126))) (hV : ozV n P ρ (ozq (I 126)) b) (hM : ozM n (ozq (I 126)) b ≤ 232) (hs : s < n) (hx : x ≤ 300) (h1 : ozC n P ρ (ozq (I 126)) b s (x : Int) → Q (am_yi 1) (m, sl, sh, I, R)) (h0 : ¬ ozC n P ρ (ozq (I 126)) b s (x : Int) → Q (am_yi 0) (m, sl, sh, I, R)) : am_wp (d + 1) 265 0 [some (.inr (.inr (124))), some (.inl ((s : Int))), some (.inl ((x : Int))), some (.inl ((S : Int))), none, none, none, none] [] (m, sl, sh, I, R) Q := by
  obtain ⟨y1, y2, y3, y4, y5, y6, y7, y8⟩ := hY
  have n8 := hQ.1
  have q1 := hQ.2.2.2.2.2.2 s hs
  have r0 := hQ.2.2.2.2.1
  have r9 := hQ.2.2.2.2.2.1
  have ps := ozP_lt hQ.2.1 hs
  have qp := hQ.2.2.2.2.2.2 (ozP s) ps
  have xr := oz_xor1 ⟨s, by omega⟩
  dsimp only at xr
  have sd : (s : Int) / 2 = ((s / 2 : Nat) : Int) := by omega
  have sm : (s : Int) % 2 = ((s % 2 : Nat) : Int) := by omega
  have pd : (ozP s : Int) / 2 = ((ozP s / 2 : Nat) : Int) := by omega
  have pm : (ozP s : Int) % 2 = ((ozP s % 2 : Nat) : Int) := by omega
  refine am_wp_go rfl (by simp (disch := omega) only [am_divE, am_remE, sd, sm, am_addE, am_subE, am_mulE, am_laddE, am_lsubE, am_upO, am_upS, am_stS, am_stO, am_tnn, am_brl, am_brg, am_bre, am_brn, am_brG, am_brL, am_st1, am_no2, am_st2, am_clr, and_self, true_and, and_true, true_or, or_true, List.length_cons, List.length_nil] <;> omega) ?_
  try simp (disch := omega) only [am_divE, am_remE, sd, sm, am_addE, am_subE, am_mulE, am_laddE, am_lsubE, am_upO, am_upS, am_stS, am_stO, am_tnn, am_brl, am_brg, am_bre, am_brn, am_brG, am_brL, am_st1, am_no2, am_st2, am_clr]
  refine am_wp_cc rfl rfl rfl (congrArg Prod.fst (s124 hw)) (w_M_needsq (s := s) hw (by omega) ⟨_, rfl, ?_⟩)
  refine am_wp_go rfl (by simp (disch := omega) only [am_divE, am_remE, sd, sm, am_addE, am_subE, am_mulE, am_laddE, am_lsubE, am_upO, am_upS, am_stS, am_stO, am_tnn, am_brl, am_brg, am_bre, am_brn, am_brG, am_brL, am_st1, am_no2, am_st2, am_clr, and_self, true_and, and_true, true_or, or_true, List.length_cons, List.length_nil] <;> omega) ?_
  try simp (disch := omega) only [am_divE, am_remE, sd, sm, am_addE, am_subE, am_mulE, am_laddE, am_lsubE, am_upO, am_upS, am_stS, am_stO, am_tnn, am_brl, am_brg, am_bre, am_brn, am_brG, am_brL, am_st1, am_no2, am_st2, am_clr]
  have LP : ∀ t : Nat, t ≤ 400 → x ≤ t → (t : Int) ≤ (x : Int) + ozq (I 126) s → (∀ u : Int, (x : Int) ≤ u → u < (t : Int) → ozB n (ozq (I 126)) b u < P) → am_wp (d + 1) 265 15 [some (.inr (.inr (124))), some (.inl ((s : Int))), some (.inl ((x : Int))), some (.inl ((S : Int))), some (.inl (ozq (I 126) s)), some (.inl ((t : Int))), none, none] [] (m, sl, sh, I, R) Q := by
    refine am_lp 400 (fun t ht ih t1 t2 t3 => ?_)
    refine am_wp_go rfl (by simp (disch := omega) only [am_divE, am_remE, sd, sm, am_addE, am_subE, am_mulE, am_laddE, am_lsubE, am_upO, am_upS, am_stS, am_stO, am_tnn, am_brl, am_brg, am_bre, am_brn, am_brG, am_brL, am_st1, am_no2, am_st2, am_clr, and_self, true_and, and_true, true_or, or_true, List.length_cons, List.length_nil] <;> omega) ?_
    try simp (disch := omega) only [am_divE, am_remE, sd, sm, am_addE, am_subE, am_mulE, am_laddE, am_lsubE, am_upO, am_upS, am_stS, am_stO, am_tnn, am_brl, am_brg, am_bre, am_brn, am_brG, am_brL, am_st1, am_no2, am_st2, am_clr]
    refine am_wp_br (fun b21 => ?_) (fun b21 => ?_)
    · have room : ∀ u : Int, (x : Int) ≤ u → u < (x : Int) + ozq (I 126) s → ozB n (ozq (I 126)) b u < P := fun u u1 u2 => t3 u u1 (by omega)
      have tb := y6 (ozP s) ps
      refine am_wp_go rfl (by simp (disch := omega) only [xr, am_addE, am_subE, am_mulE, am_laddE, am_lsubE, am_upO, am_upS, am_stS, am_stO, am_tnn, am_brl, am_brg, am_bre, am_brn, am_brG, am_brL, am_st1, am_no2, am_st2, am_clr, and_self, true_and, and_true, true_or, or_true, List.length_cons, List.length_nil] <;> omega) ?_
      try simp (disch := omega) only [xr, am_addE, am_subE, am_mulE, am_laddE, am_lsubE, am_upO, am_upS, am_stS, am_stO, am_tnn, am_brl, am_brg, am_bre, am_brn, am_brG, am_brL, am_st1, am_no2, am_st2, am_clr]
      refine am_wp_cc rfl rfl rfl (trivial) (w_M_has (s := S) (k := ozP s) (by omega) (by omega) ⟨_, rfl, ?_⟩)
      rw [tb]
      refine am_wp_go rfl (by simp (disch := omega) only [am_b0, am_bn0, decide_eq_true_eq, am_addE, am_subE, am_mulE, am_laddE, am_lsubE, am_upO, am_upS, am_stS, am_stO, am_tnn, am_brl, am_brg, am_bre, am_brn, am_brG, am_brL, am_st1, am_no2, am_st2, am_clr, and_self, true_and, and_true, true_or, or_true, List.length_cons, List.length_nil] <;> omega) ?_
      try simp (disch := omega) only [am_b0, am_bn0, decide_eq_true_eq, am_addE, am_subE, am_mulE, am_laddE, am_lsubE, am_upO, am_upS, am_stS, am_stO, am_tnn, am_brl, am_brg, am_bre, am_brn, am_brG, am_brL, am_st1, am_no2, am_st2, am_clr]
      refine am_wp_br (fun b59 => ?_) (fun b59 => ?_)
      · have s139' := y7 (ozP s) ps b59
        have pv := hV.1 (ozP s) ps
        have pM := ozM_ge (q := ozq (I 126)) ps b59
        refine am_wp_go rfl (by simp (disch := omega) only [s124 hw, r124_32 hw, s139 hw, s139', am_divE, am_remE, pd, pm, am_addE, am_subE, am_mulE, am_laddE, am_lsubE, am_upO, am_upS, am_stS, am_stO, am_tnn, am_brl, am_brg, am_bre, am_brn, am_brG, am_brL, am_st1, am_no2, am_st2, am_clr, and_self, true_and, and_true, true_or, or_true, List.length_cons, List.length_nil] <;> omega) ?_
        try simp (disch := omega) only [s124 hw, r124_32 hw, s139 hw, s139', am_divE, am_remE, pd, pm, am_addE, am_subE, am_mulE, am_laddE, am_lsubE, am_upO, am_upS, am_stS, am_stO, am_tnn, am_brl, am_brg, am_bre, am_brn, am_brG, am_brL, am_st1, am_no2, am_st2, am_clr]
        refine am_wp_cc rfl rfl rfl (congrArg Prod.fst (s124 hw)) (w_M_needsq (s := ozP s) hw (by omega) ⟨_, rfl, ?_⟩)
        refine am_wp_go rfl (by simp (disch := omega) only [s124 hw, r124_14 hw, s126 hw, y4, Int.reduceToNat, am_addE, am_subE, am_mulE, am_laddE, am_lsubE, am_upO, am_upS, am_stS, am_stO, am_tnn, am_brl, am_brg, am_bre, am_brn, am_brG, am_brL, am_st1, am_no2, am_st2, am_clr, and_self, true_and, and_true, true_or, or_true, List.length_cons, List.length_nil] <;> omega) ?_
        try simp (disch := omega) only [s124 hw, r124_14 hw, s126 hw, y4, Int.reduceToNat, am_addE, am_subE, am_mulE, am_laddE, am_lsubE, am_upO, am_upS, am_stS, am_stO, am_tnn, am_brl, am_brg, am_bre, am_brn, am_brG, am_brL, am_st1, am_no2, am_st2, am_clr]
        refine am_wp_br (fun b100 => ?_) (fun b100 => ?_)
        · refine am_wp_go rfl (by simp (disch := omega) only [s124 hw, r124_14 hw, s126 hw, y4, Int.reduceToNat, am_addE, am_subE, am_mulE, am_laddE, am_lsubE, am_upO, am_upS, am_stS, am_stO, am_tnn, am_brl, am_brg, am_bre, am_brn, am_brG, am_brL, am_st1, am_no2, am_st2, am_clr, and_self, true_and, and_true, true_or, or_true, List.length_cons, List.length_nil] <;> omega) ?_
          try simp (disch := omega) only [s124 hw, r124_14 hw, s126 hw, y4, Int.reduceToNat, am_addE, am_subE, am_mulE, am_laddE, am_lsubE, am_upO, am_upS, am_stS, am_stO, am_tnn, am_brl, am_brg, am_bre, am_brn, am_brG, am_brL, am_st1, am_no2, am_st2, am_clr]
          refine am_wp_ret rfl rfl ?_
          exact h1 ⟨room, Or.inr (Or.inl (by omega))⟩
        · refine am_wp_go rfl (by simp (disch := omega) only [s124 hw, r124_14 hw, s126 hw, y4, Int.reduceToNat, am_addE, am_subE, am_mulE, am_laddE, am_lsubE, am_upO, am_upS, am_stS, am_stO, am_tnn, am_brl, am_brg, am_bre, am_brn, am_brG, am_brL, am_st1, am_no2, am_st2, am_clr, and_self, true_and, and_true, true_or, or_true, List.length_cons, List.length_nil] <;> omega) ?_
          try simp (disch := omega) only [s124 hw, r124_14 hw, s126 hw, y4, Int.reduceToNat, am_addE, am_subE, am_mulE, am_laddE, am_lsubE, am_upO, am_upS, am_stS, am_stO, am_tnn, am_brl, am_brg, am_bre, am_brn, am_brG, am_brL, am_st1, am_no2, am_st2, am_clr]
          refine am_wp_br (fun b116 => ?_) (fun b116 => ?_)
          · refine am_wp_go rfl (by simp (disch := omega) only [s124 hw, r124_14 hw, s126 hw, y4, Int.reduceToNat, am_addE, am_subE, am_mulE, am_laddE, am_lsubE, am_upO, am_upS, am_stS, am_stO, am_tnn, am_brl, am_brg, am_bre, am_brn, am_brG, am_brL, am_st1, am_no2, am_st2, am_clr, and_self, true_and, and_true, true_or, or_true, List.length_cons, List.length_nil] <;> omega) ?_
            try simp (disch := omega) only [s124 hw, r124_14 hw, s126 hw, y4, Int.reduceToNat, am_addE, am_subE, am_mulE, am_laddE, am_lsubE, am_upO, am_upS, am_stS, am_stO, am_tnn, am_brl, am_brg, am_bre, am_brn, am_brG, am_brL, am_st1, am_no2, am_st2, am_clr]
            refine am_wp_ret rfl rfl ?_
            exact h0 (fun hc => by have := hc.2; omega)
          · refine am_wp_go rfl (by simp (disch := omega) only [s124 hw, r124_14 hw, s126 hw, y4, Int.reduceToNat, am_addE, am_subE, am_mulE, am_laddE, am_lsubE, am_upO, am_upS, am_stS, am_stO, am_tnn, am_brl, am_brg, am_bre, am_brn, am_brG, am_brL, am_st1, am_no2, am_st2, am_clr, and_self, true_and, and_true, true_or, or_true, List.length_cons, List.length_nil] <;> omega) ?_
            try simp (disch := omega) only [s124 hw, r124_14 hw, s126 hw, y4, Int.reduceToNat, am_addE, am_subE, am_mulE, am_laddE, am_lsubE, am_upO, am_upS, am_stS, am_stO, am_tnn, am_brl, am_brg, am_bre, am_brn, am_brG, am_brL, am_st1, am_no2, am_st2, am_clr]
            refine am_wp_ret rfl rfl ?_
            exact h1 ⟨room, Or.inr (Or.inr (by omega))⟩
      · refine am_wp_go rfl (by simp (disch := omega) only [am_b0, am_bn0, decide_eq_true_eq, am_addE, am_subE, am_mulE, am_laddE, am_lsubE, am_upO, am_upS, am_stS, am_stO, am_tnn, am_brl, am_brg, am_bre, am_brn, am_brG, am_brL, am_st1, am_no2, am_st2, am_clr, and_self, true_and, and_true, true_or, or_true, List.length_cons, List.length_nil] <;> omega) ?_
        try simp (disch := omega) only [am_b0, am_bn0, decide_eq_true_eq, am_addE, am_subE, am_mulE, am_laddE, am_lsubE, am_upO, am_upS, am_stS, am_stO, am_tnn, am_brl, am_brg, am_bre, am_brn, am_brG, am_brL, am_st1, am_no2, am_st2, am_clr]
        refine am_wp_ret rfl rfl ?_
        exact h1 ⟨room, Or.inl (by omega)⟩
    · have bt := y8 t (by omega)
      have bp := hV.2.1 (t : Int)
      have ih := ih (by omega)
      refine am_wp_go rfl (by simp (disch := omega) only [s124 hw, r124_34 hw, r124_14 hw, s141 hw, s126 hw, bt, y3, Int.reduceToNat, am_addE, am_subE, am_mulE, am_laddE, am_lsubE, am_upO, am_upS, am_stS, am_stO, am_tnn, am_brl, am_brg, am_bre, am_brn, am_brG, am_brL, am_st1, am_no2, am_st2, am_clr, and_self, true_and, and_true, true_or, or_true, List.length_cons, List.length_nil] <;> omega) ?_
      try simp (disch := omega) only [s124 hw, r124_34 hw, r124_14 hw, s141 hw, s126 hw, bt, y3, Int.reduceToNat, am_addE, am_subE, am_mulE, am_laddE, am_lsubE, am_upO, am_upS, am_stS, am_stO, am_tnn, am_brl, am_brg, am_bre, am_brn, am_brG, am_brL, am_st1, am_no2, am_st2, am_clr]
      refine am_wp_br (fun b37 => ?_) (fun b37 => ?_)
      · refine am_wp_go rfl (by simp (disch := omega) only [s124 hw, r124_34 hw, r124_14 hw, s141 hw, s126 hw, bt, y3, Int.reduceToNat, am_addE, am_subE, am_mulE, am_laddE, am_lsubE, am_upO, am_upS, am_stS, am_stO, am_tnn, am_brl, am_brg, am_bre, am_brn, am_brG, am_brL, am_st1, am_no2, am_st2, am_clr, and_self, true_and, and_true, true_or, or_true, List.length_cons, List.length_nil] <;> omega) ?_
        try simp (disch := omega) only [s124 hw, r124_34 hw, r124_14 hw, s141 hw, s126 hw, bt, y3, Int.reduceToNat, am_addE, am_subE, am_mulE, am_laddE, am_lsubE, am_upO, am_upS, am_stS, am_stO, am_tnn, am_brl, am_brg, am_bre, am_brn, am_brG, am_brL, am_st1, am_no2, am_st2, am_clr]
        refine am_wp_ls (ih (by omega) (by omega) (fun u u1 u2 => ?_)) rfl
        by_cases e : u = (t : Int)
        · rw [e]; omega
        · exact t3 u u1 (by omega)
      · refine am_wp_go rfl (by simp (disch := omega) only [s124 hw, r124_34 hw, r124_14 hw, s141 hw, s126 hw, bt, y3, Int.reduceToNat, am_addE, am_subE, am_mulE, am_laddE, am_lsubE, am_upO, am_upS, am_stS, am_stO, am_tnn, am_brl, am_brg, am_bre, am_brn, am_brG, am_brL, am_st1, am_no2, am_st2, am_clr, and_self, true_and, and_true, true_or, or_true, List.length_cons, List.length_nil] <;> omega) ?_
        try simp (disch := omega) only [s124 hw, r124_34 hw, r124_14 hw, s141 hw, s126 hw, bt, y3, Int.reduceToNat, am_addE, am_subE, am_mulE, am_laddE, am_lsubE, am_upO, am_upS, am_stS, am_stO, am_tnn, am_brl, am_brg, am_bre, am_brn, am_brG, am_brL, am_st1, am_no2, am_st2, am_clr]
        refine am_wp_ret rfl rfl ?_
        refine h0 (fun hc => ?_)
        have := hc.1 (t : Int) (by omega) (by omega)
        omega
  exact am_wp_ls (LP x (by omega) (Nat.le_refl x) (by omega) (fun u u1 u2 => by omega)) rfl
set_option maxHeartbeats 4000000 in
theorem w_M_trySides (hw : wd sh R) : ∀ (k D : Nat) (I : Nat → Nat → Int) (b : Nat → Int) (S : Nat) (od : List Nat) (B : Int × List Nat × (Nat → Int)) (Q : am_R → am_M → Prop), k + 4 ≤ D → od.length + k = n → ozY I n P ρ b S → ozQ n P ρ (ozq (I 126)) → ozV n P ρ (ozq (I 126)) b → ozO n b = k → ozM n (ozq (I 126)) b + 29 * (k : Int) ≤ 232 → ozBr I n B → (∀ j, j < od.length → I 137 j = (od.getD j 0 : Int)) → (∀ j, j < od.length → od.getD j 0 < n ∧ b (od.getD j 0) ≠ -1) → (∀ s, s < n → b s ≠ -1 → ∃ j, j < od.length ∧ od.getD j 0 = s) →
    (∀ J, (∀ x, ¬ (x = 124 ∨ 137 ≤ x ∧ x ≤ 141) → J x = I x) → (∀ j, j ≠ 35 → J 124 j = I 124 j) → ozY J n P ρ b S → ozBr J n (ozS n P ρ (ozq (I 126)) k b od B) → (∀ j, j < od.length → J 137 j = I 137 j) → (∀ s, s < n → b s ≠ -1 → J 139 s = I 139 s) → Q am_yv (m, sl, sh, J, R)) → am_wp (D) 266 0 [some (.inr (.inr (124))), some (.inl ((od.length : Int))), some (.inl ((S : Int))), some (.inl (ozM n (ozq (I 126)) b)), none, none, none, none] [] (m, sl, sh, I, R) Q := by
  intro k
  induction k with
  | zero =>
    intro D I b S od B Q hD hlen hY hQ hV hO hM hB ho ho2 ho3 h
    obtain ⟨d, rfl⟩ : ∃ d, D = d + 4 := ⟨D - 4, by omega⟩
    obtain ⟨y1, y2, y3, y4, y5, y6, y7, y8⟩ := id hY
    have n8 := hQ.1
    have nd := (wk_nS y1).1
    have B1 := hB.1
    have al := ozO_0 hO
    unfold ozS at h
    refine am_wp_go rfl (by simp (disch := omega) only [s124 hw, B1, am_addE, am_subE, am_mulE, am_laddE, am_lsubE, am_upO, am_upS, am_stS, am_stO, am_tnn, am_brl, am_brg, am_bre, am_brn, am_brG, am_brL, am_st1, am_no2, am_st2, am_clr, and_self, true_and, and_true, true_or, or_true, List.length_cons, List.length_nil] <;> omega) ?_
    try simp (disch := omega) only [s124 hw, B1, am_addE, am_subE, am_mulE, am_laddE, am_lsubE, am_upO, am_upS, am_stS, am_stO, am_tnn, am_brl, am_brg, am_bre, am_brn, am_brG, am_brL, am_st1, am_no2, am_st2, am_clr]
    refine am_wp_br (fun b5 => ?_) (fun b5 => ?_)
    · rw [if_neg (by omega)] at h
      refine am_wp_go rfl (by simp (disch := omega) only [s124 hw, B1, am_addE, am_subE, am_mulE, am_laddE, am_lsubE, am_upO, am_upS, am_stS, am_stO, am_tnn, am_brl, am_brg, am_bre, am_brn, am_brG, am_brL, am_st1, am_no2, am_st2, am_clr, and_self, true_and, and_true, true_or, or_true, List.length_cons, List.length_nil] <;> omega) ?_
      try simp (disch := omega) only [s124 hw, B1, am_addE, am_subE, am_mulE, am_laddE, am_lsubE, am_upO, am_upS, am_stS, am_stO, am_tnn, am_brl, am_brg, am_bre, am_brn, am_brG, am_brL, am_st1, am_no2, am_st2, am_clr]
      refine am_wp_cc rfl rfl rfl (congrArg Prod.fst (s124 hw)) (w_M_slicesN hw (wk_w y1) ⟨_, rfl, ?_⟩)
      refine am_wp_go rfl (by simp (disch := omega) only [s124 hw, B1, am_addE, am_subE, am_mulE, am_laddE, am_lsubE, am_upO, am_upS, am_stS, am_stO, am_tnn, am_brl, am_brg, am_bre, am_brn, am_brG, am_brL, am_st1, am_no2, am_st2, am_clr, and_self, true_and, and_true, true_or, or_true, List.length_cons, List.length_nil] <;> omega) ?_
      try simp (disch := omega) only [s124 hw, B1, am_addE, am_subE, am_mulE, am_laddE, am_lsubE, am_upO, am_upS, am_stS, am_stO, am_tnn, am_brl, am_brg, am_bre, am_brn, am_brG, am_brL, am_st1, am_no2, am_st2, am_clr]
      refine am_wp_br (fun b16 => ?_) (fun b16 => ?_)
      · omega
      · refine am_wp_go rfl (by simp (disch := omega) only [s124 hw, B1, am_addE, am_subE, am_mulE, am_laddE, am_lsubE, am_upO, am_upS, am_stS, am_stO, am_tnn, am_brl, am_brg, am_bre, am_brn, am_brG, am_brL, am_st1, am_no2, am_st2, am_clr, and_self, true_and, and_true, true_or, or_true, List.length_cons, List.length_nil] <;> omega) ?_
        simp (disch := omega) only [s124 hw, B1, am_addE, am_subE, am_mulE, am_laddE, am_lsubE, am_upO, am_upS, am_stS, am_stO, am_tnn, am_brl, am_brg, am_bre, am_brn, am_brG, am_brL, am_st1, am_no2, am_st2, am_clr]
        generalize hZ : am_up I 124 35 (ozM n (ozq (I 126)) b) = Z
        have Z0 : ∀ y, y ≠ 124 → Z y = I y := fun y h1 => by rw [← hZ, am_upO h1]
        have Z1 : ∀ j, j ≠ 35 → Z 124 j = I 124 j := fun j h1 => by rw [← hZ, am_upS, am_stO h1]
        have Z2 : Z 124 35 = ozM n (ozq (I 126)) b := by rw [← hZ, am_upS, am_stS rfl]
        clear hZ
        have LP : ∀ j : Nat, j ≤ od.length → ∀ (K : Nat → Nat → Int), (∀ x, x ≠ 138 → x ≠ 140 → K x = Z x) → (∀ i, i < j → K 138 i = (od.getD i 0 : Int)) → (∀ i, i < j → K 140 (od.getD i 0) = b (od.getD i 0)) → am_wp (d + 4) 266 27 [some (.inr (.inr (124))), some (.inl ((od.length : Int))), some (.inl ((S : Int))), some (.inl (ozM n (ozq (I 126)) b)), some (.inl ((j : Int))), none, none, none] [] (m, sl, sh, K, R) Q := by
          refine am_lp od.length (fun j hj ih K k1 k2 k3 => ?_)
          refine am_wp_go rfl (by simp (disch := omega) only [am_addE, am_subE, am_mulE, am_laddE, am_lsubE, am_upO, am_upS, am_stS, am_stO, am_tnn, am_brl, am_brg, am_bre, am_brn, am_brG, am_brL, am_st1, am_no2, am_st2, am_clr, and_self, true_and, and_true, true_or, or_true, List.length_cons, List.length_nil] <;> omega) ?_
          try simp (disch := omega) only [am_addE, am_subE, am_mulE, am_laddE, am_lsubE, am_upO, am_upS, am_stS, am_stO, am_tnn, am_brl, am_brg, am_bre, am_brn, am_brG, am_brL, am_st1, am_no2, am_st2, am_clr]
          refine am_wp_br (fun b30 => ?_) (fun b30 => ?_)
          · refine am_wp_ret rfl rfl ?_
            refine h K (fun x hx => ?_) (fun j hj => ?_) ⟨?_, ?_, ?_, ?_, y5, y6, fun s hs hb => ?_, fun t ht => ?_⟩ ⟨?_, fun _ => ⟨fun i hi => ?_, fun s hs => ?_⟩⟩ (fun i hi => ?_) (fun s hs hb => ?_)
            · rw [k1 x (by omega) (by omega), Z0 x (by omega)]
            · rw [k1 124 (by decide) (by decide), Z1 j hj]
            · rw [k1 126 (by decide) (by decide), Z0 126 (by decide)]; exact y1
            · rw [k1 126 (by decide) (by decide), Z0 126 (by decide)]; exact y2
            · rw [k1 126 (by decide) (by decide), Z0 126 (by decide)]; exact y3
            · rw [k1 126 (by decide) (by decide), Z0 126 (by decide)]; exact y4
            · rw [k1 139 (by decide) (by decide), Z0 139 (by decide)]; exact y7 s hs hb
            · rw [k1 141 (by decide) (by decide), Z0 141 (by decide), k1 126 (by decide) (by decide), Z0 126 (by decide)]; exact y8 t ht
            · rw [k1 124 (by decide) (by decide)]; exact Z2
            · exact k2 i (by omega)
            · obtain ⟨i, i1, i2⟩ := ho3 s hs (al s hs)
              rw [← i2]; exact k3 i (by omega)
            · rw [k1 137 (by decide) (by decide), Z0 137 (by decide)]
            · rw [k1 139 (by decide) (by decide), Z0 139 (by decide)]
          · have hj2 : j < od.length := by omega
            have oj := ho2 j hj2
            have K137 : K 137 j = (od.getD j 0 : Int) := by rw [k1 137 (by decide) (by decide), Z0 137 (by decide)]; exact ho j hj2
            have K139 : K 139 (od.getD j 0) = b (od.getD j 0) := by rw [k1 139 (by decide) (by decide), Z0 139 (by decide)]; exact y7 _ oj.1 oj.2
            generalize hg : od.getD j 0 = g at *
            refine am_wp_go rfl (by simp (disch := omega) only [s124 hw, r124_30 hw, r124_31 hw, r124_32 hw, r124_33 hw, s137 hw, s138 hw, s139 hw, s140 hw, K137, K139, am_addE, am_subE, am_mulE, am_laddE, am_lsubE, am_upO, am_upS, am_stS, am_stO, am_tnn, am_brl, am_brg, am_bre, am_brn, am_brG, am_brL, am_st1, am_no2, am_st2, am_clr, and_self, true_and, and_true, true_or, or_true, List.length_cons, List.length_nil] <;> omega) ?_
            try simp (disch := omega) only [s124 hw, r124_30 hw, r124_31 hw, r124_32 hw, r124_33 hw, s137 hw, s138 hw, s139 hw, s140 hw, K137, K139, am_addE, am_subE, am_mulE, am_laddE, am_lsubE, am_upO, am_upS, am_stS, am_stO, am_tnn, am_brl, am_brg, am_bre, am_brn, am_brG, am_brL, am_st1, am_no2, am_st2, am_clr]
            refine am_wp_ls (ih hj2 _ (fun x x1 x2 => by rw [am_upO x2, am_upO x1, k1 x x1 x2]) (fun i hi => ?_) (fun i hi => ?_)) rfl
            · rw [am_upO (by decide), am_upS]
              by_cases e : i = j
              · rw [am_stS e, e, hg]
              · rw [am_stO e]; exact k2 i (by omega)
            · rw [am_upS, am_upO (by decide)]
              by_cases e : od.getD i 0 = g
              · rw [am_stS e, e]
              · rw [am_stO e]
                refine k3 i ?_
                have : i ≠ j := fun hc => e (by rw [hc]; exact hg)
                omega
        exact am_wp_ls (LP 0 (Nat.zero_le _) Z (fun _ _ _ => rfl) (fun i hi => absurd hi (Nat.not_lt_zero i)) (fun i hi => absurd hi (Nat.not_lt_zero i))) rfl
    · rw [if_pos (by omega)] at h
      refine am_wp_ret rfl rfl ?_
      exact h I (fun _ _ => rfl) (fun _ _ => rfl) hY hB (fun _ _ => rfl) (fun _ _ _ => rfl)
  | succ k ihk =>
    intro D I b S od B Q hD hlen hY hQ hV hO hM hB ho ho2 ho3 h
    obtain ⟨d, rfl⟩ : ∃ d, D = d + 4 := ⟨D - 4, by omega⟩
    obtain ⟨y1, y2, y3, y4, y5, y6, y7, y8⟩ := id hY
    have n8 := hQ.1
    have nd := (wk_nS y1).1
    have B1 := hB.1
    unfold ozS at h
    refine am_wp_go rfl (by simp (disch := omega) only [s124 hw, B1, am_addE, am_subE, am_mulE, am_laddE, am_lsubE, am_upO, am_upS, am_stS, am_stO, am_tnn, am_brl, am_brg, am_bre, am_brn, am_brG, am_brL, am_st1, am_no2, am_st2, am_clr, and_self, true_and, and_true, true_or, or_true, List.length_cons, List.length_nil] <;> omega) ?_
    try simp (disch := omega) only [s124 hw, B1, am_addE, am_subE, am_mulE, am_laddE, am_lsubE, am_upO, am_upS, am_stS, am_stO, am_tnn, am_brl, am_brg, am_bre, am_brn, am_brG, am_brL, am_st1, am_no2, am_st2, am_clr]
    refine am_wp_br (fun b5 => ?_) (fun b5 => ?_)
    · rw [if_neg (by omega)] at h
      generalize hf : (fun s B => if b s = -1 then ozS n P ρ (ozq (I 126)) k (am_set b s (oze n P ρ (ozq (I 126)) b s)) (od ++ [s]) B else B) = f at h
      have fe : ∀ s B, f s B = if b s = -1 then ozS n P ρ (ozq (I 126)) k (am_set b s (oze n P ρ (ozq (I 126)) b s)) (od ++ [s]) B else B := fun s B => by rw [← hf]
      clear hf
      refine am_wp_go rfl (by simp (disch := omega) only [s124 hw, B1, am_addE, am_subE, am_mulE, am_laddE, am_lsubE, am_upO, am_upS, am_stS, am_stO, am_tnn, am_brl, am_brg, am_bre, am_brn, am_brG, am_brL, am_st1, am_no2, am_st2, am_clr, and_self, true_and, and_true, true_or, or_true, List.length_cons, List.length_nil] <;> omega) ?_
      try simp (disch := omega) only [s124 hw, B1, am_addE, am_subE, am_mulE, am_laddE, am_lsubE, am_upO, am_upS, am_stS, am_stO, am_tnn, am_brl, am_brg, am_bre, am_brn, am_brG, am_brL, am_st1, am_no2, am_st2, am_clr]
      refine am_wp_cc rfl rfl rfl (congrArg Prod.fst (s124 hw)) (w_M_slicesN hw (wk_w y1) ⟨_, rfl, ?_⟩)
      refine am_wp_go rfl (by simp (disch := omega) only [s124 hw, B1, am_addE, am_subE, am_mulE, am_laddE, am_lsubE, am_upO, am_upS, am_stS, am_stO, am_tnn, am_brl, am_brg, am_bre, am_brn, am_brG, am_brL, am_st1, am_no2, am_st2, am_clr, and_self, true_and, and_true, true_or, or_true, List.length_cons, List.length_nil] <;> omega) ?_
      try simp (disch := omega) only [s124 hw, B1, am_addE, am_subE, am_mulE, am_laddE, am_lsubE, am_upO, am_upS, am_stS, am_stO, am_tnn, am_brl, am_brg, am_bre, am_brn, am_brG, am_brL, am_st1, am_no2, am_st2, am_clr]
      refine am_wp_br (fun b16 => ?_) (fun b16 => ?_)
      · have LP : ∀ s : Nat, s ≤ n → ∀ (z5 z6 z7 : Option am_V) (K : Nat → Nat → Int), (∀ x, ¬ (x = 124 ∨ 137 ≤ x ∧ x ≤ 141) → K x = I x) → (∀ j, j ≠ 35 → K 124 j = I 124 j) → ozY K n P ρ b S → ozBr K n (ozF f s B) → (∀ j, j < od.length → K 137 j = I 137 j) → (∀ s, s < n → b s ≠ -1 → K 139 s = I 139 s) → am_wp (d + 4) 266 81 [some (.inr (.inr (124))), some (.inl ((od.length : Int))), some (.inl ((S : Int))), some (.inl (ozM n (ozq (I 126)) b)), some (.inl ((s : Int))), z5, z6, z7] [] (m, sl, sh, K, R) Q := by
          refine am_lp n (fun s hs ih z5 z6 z7 K k1 k2 k3 k4 k5 k6 => ?_)
          have K126 : K 126 = I 126 := k1 126 (by omega)
          refine am_wp_go rfl (by simp (disch := omega) only [am_addE, am_subE, am_mulE, am_laddE, am_lsubE, am_upO, am_upS, am_stS, am_stO, am_tnn, am_brl, am_brg, am_bre, am_brn, am_brG, am_brL, am_st1, am_no2, am_st2, am_clr, and_self, true_and, and_true, true_or, or_true, List.length_cons, List.length_nil] <;> omega) ?_
          try simp (disch := omega) only [am_addE, am_subE, am_mulE, am_laddE, am_lsubE, am_upO, am_upS, am_stS, am_stO, am_tnn, am_brl, am_brg, am_bre, am_brn, am_brG, am_brL, am_st1, am_no2, am_st2, am_clr]
          refine am_wp_cc rfl rfl rfl (congrArg Prod.fst (s124 hw)) (w_M_slicesN hw (by rw [K126]; exact wk_w y1) ⟨_, rfl, ?_⟩)
          rw [K126]
          refine am_wp_go rfl (by simp (disch := omega) only [am_addE, am_subE, am_mulE, am_laddE, am_lsubE, am_upO, am_upS, am_stS, am_stO, am_tnn, am_brl, am_brg, am_bre, am_brn, am_brG, am_brL, am_st1, am_no2, am_st2, am_clr, and_self, true_and, and_true, true_or, or_true, List.length_cons, List.length_nil] <;> omega) ?_
          try simp (disch := omega) only [am_addE, am_subE, am_mulE, am_laddE, am_lsubE, am_upO, am_upS, am_stS, am_stO, am_tnn, am_brl, am_brg, am_bre, am_brn, am_brG, am_brL, am_st1, am_no2, am_st2, am_clr]
          refine am_wp_br (fun b89 => ?_) (fun b89 => ?_)
          · refine am_wp_ret rfl rfl ?_
            rw [show s = n by omega] at k4
            exact h K k1 k2 k3 k4 k5 k6
          · have hsn : s < n := by omega
            have ih := ih hsn
            have es : ozF f (s + 1) B = f s (ozF f s B) := rfl
            have tb := y6 s hsn
            refine am_wp_go rfl (by simp (disch := omega) only [am_addE, am_subE, am_mulE, am_laddE, am_lsubE, am_upO, am_upS, am_stS, am_stO, am_tnn, am_brl, am_brg, am_bre, am_brn, am_brG, am_brL, am_st1, am_no2, am_st2, am_clr, and_self, true_and, and_true, true_or, or_true, List.length_cons, List.length_nil] <;> omega) ?_
            try simp (disch := omega) only [am_addE, am_subE, am_mulE, am_laddE, am_lsubE, am_upO, am_upS, am_stS, am_stO, am_tnn, am_brl, am_brg, am_bre, am_brn, am_brG, am_brL, am_st1, am_no2, am_st2, am_clr]
            refine am_wp_cc rfl rfl rfl (trivial) (w_M_has (s := S) (k := s) (by omega) (by omega) ⟨_, rfl, ?_⟩)
            rw [tb]
            refine am_wp_go rfl (by simp (disch := omega) only [am_b0, am_bn0, decide_eq_true_eq, Classical.not_not, am_addE, am_subE, am_mulE, am_laddE, am_lsubE, am_upO, am_upS, am_stS, am_stO, am_tnn, am_brl, am_brg, am_bre, am_brn, am_brG, am_brL, am_st1, am_no2, am_st2, am_clr, and_self, true_and, and_true, true_or, or_true, List.length_cons, List.length_nil] <;> omega) ?_
            try simp (disch := omega) only [am_b0, am_bn0, decide_eq_true_eq, Classical.not_not, am_addE, am_subE, am_mulE, am_laddE, am_lsubE, am_upO, am_upS, am_stS, am_stO, am_tnn, am_brl, am_brg, am_bre, am_brn, am_brG, am_brL, am_st1, am_no2, am_st2, am_clr]
            refine am_wp_br (fun b98 => ?_) (fun b98 => ?_)
            · have hb : b s = -1 := b98
              rw [fe, if_pos hb] at es
              have sp := oze_sp (b := b) hQ hsn
              have up := ozM_up (b := b) hQ hsn hb
              have qs := hQ.2.2.2.2.2.2 s hsn
              have ms := ozM_set (b := b) (q := ozq (I 126)) (x := oze n P ρ (ozq (I 126)) b s) hsn hb sp.1.1
              have vs := ozV_set hQ hV hsn hb sp.1.1 sp.1.2.1
              have os := ozO_set hsn hb sp.1.1 hO
              have bs := fun t : Int => ozB_set (q := ozq (I 126)) (t := t) (x := oze n P ρ (ozq (I 126)) b s) hsn hb sp.1.1
              obtain ⟨x, hx⟩ : ∃ x : Nat, oze n P ρ (ozq (I 126)) b s = (x : Int) := ⟨(oze n P ρ (ozq (I 126)) b s).toNat, by have := sp.1.1; omega⟩
              rw [hx] at sp up ms vs os bs es
              have xb : x ≤ 220 := by have := sp.2; have := hQ.2.2.2.2.2.1; omega
              have sd : (s : Int) / 2 = ((s / 2 : Nat) : Int) := by omega
              have sm : (s : Int) % 2 = ((s % 2 : Nat) : Int) := by omega
              have bt : ∀ t : Nat, t < 400 → K 141 t = (ozB n (ozq (I 126)) b (t : Int) : Int) := by rw [← K126]; exact k3.2.2.2.2.2.2.2
              have bP := hV.2.1
              have P4 := hQ.2.2.2.1
              refine am_wp_go rfl (by simp (disch := omega) only [am_divE, am_remE, sd, sm, am_addE, am_subE, am_mulE, am_laddE, am_lsubE, am_upO, am_upS, am_stS, am_stO, am_tnn, am_brl, am_brg, am_bre, am_brn, am_brG, am_brL, am_st1, am_no2, am_st2, am_clr, and_self, true_and, and_true, true_or, or_true, List.length_cons, List.length_nil] <;> omega) ?_
              try simp (disch := omega) only [am_divE, am_remE, sd, sm, am_addE, am_subE, am_mulE, am_laddE, am_lsubE, am_upO, am_upS, am_stS, am_stO, am_tnn, am_brl, am_brg, am_bre, am_brn, am_brG, am_brL, am_st1, am_no2, am_st2, am_clr]
              refine am_wp_cc rfl rfl rfl (congrArg Prod.fst (s124 hw)) (w_M_needsq (s := s) hw (by omega) ⟨_, rfl, ?_⟩)
              rw [K126]
              refine am_wp_go rfl (by simp (disch := omega) only [am_divE, am_remE, sd, sm, am_addE, am_subE, am_mulE, am_laddE, am_lsubE, am_upO, am_upS, am_stS, am_stO, am_tnn, am_brl, am_brg, am_bre, am_brn, am_brG, am_brL, am_st1, am_no2, am_st2, am_clr, and_self, true_and, and_true, true_or, or_true, List.length_cons, List.length_nil] <;> omega) ?_
              try simp (disch := omega) only [am_divE, am_remE, sd, sm, am_addE, am_subE, am_mulE, am_laddE, am_lsubE, am_upO, am_upS, am_stS, am_stO, am_tnn, am_brl, am_brg, am_bre, am_brn, am_brG, am_brL, am_st1, am_no2, am_st2, am_clr]
              -- from where it is put on
              have L3 : ∀ t : Nat, t ≤ 400 → ∀ (V : Nat → Nat → Int), x ≤ t → (t : Int) ≤ (x : Int) + ozq (I 126) s → (∀ y, y ≠ 141 → V y = K y) → (∀ u : Nat, u < 400 → V 141 u = K 141 u + if x ≤ u ∧ u < t then 1 else 0) → am_wp (d + 4) 266 143 [some (.inr (.inr (124))), some (.inl ((od.length : Int))), some (.inl ((S : Int))), some (.inl (ozM n (ozq (I 126)) b)), some (.inl ((s : Int))), some (.inl (ozq (I 126) s)), some (.inl ((x : Int))), some (.inl ((t : Int)))] [] (m, sl, sh, V, R) Q := by
                refine am_lp 400 (fun t ht ih3 V t1 t2 v1 v2 => ?_)
                refine am_wp_go rfl (by simp (disch := omega) only [am_divE, am_remE, sd, sm, am_addE, am_subE, am_mulE, am_laddE, am_lsubE, am_upO, am_upS, am_stS, am_stO, am_tnn, am_brl, am_brg, am_bre, am_brn, am_brG, am_brL, am_st1, am_no2, am_st2, am_clr, and_self, true_and, and_true, true_or, or_true, List.length_cons, List.length_nil] <;> omega) ?_
                try simp (disch := omega) only [am_divE, am_remE, sd, sm, am_addE, am_subE, am_mulE, am_laddE, am_lsubE, am_upO, am_upS, am_stS, am_stO, am_tnn, am_brl, am_brg, am_bre, am_brn, am_brG, am_brL, am_st1, am_no2, am_st2, am_clr]
                refine am_wp_br (fun b150 => ?_) (fun b150 => ?_)
                · have te : (t : Int) = (x : Int) + ozq (I 126) s := by omega
                  have hmax : (if ozM n (ozq (I 126)) b < (x : Int) + ozq (I 126) s then (x : Int) + ozq (I 126) s else ozM n (ozq (I 126)) b) = ozM n (ozq (I 126)) (am_set b s (x : Int)) := ms.symm
                  have ol : (od ++ [s]).length = od.length + 1 := by rw [List.length_append]; rfl
                  have olc : (od.length : Int) + 1 = ((od ++ [s]).length : Int) := by rw [ol]; rfl
                  have p8 := ax_p8 (s := s) (by omega)
                  refine am_wp_go rfl (by simp (disch := omega) only [s124 hw, r124_32 hw, r124_30 hw, s139 hw, s137 hw, am_shl1, am_orN, am_addE, am_subE, am_mulE, am_laddE, am_lsubE, am_upO, am_upS, am_stS, am_stO, am_tnn, am_brl, am_brg, am_bre, am_brn, am_brG, am_brL, am_st1, am_no2, am_st2, am_clr, and_self, true_and, and_true, true_or, or_true, List.length_cons, List.length_nil] <;> omega) ?_
                  try simp (disch := omega) only [s124 hw, r124_32 hw, r124_30 hw, s139 hw, s137 hw, am_shl1, am_orN, am_addE, am_subE, am_mulE, am_laddE, am_lsubE, am_upO, am_upS, am_stS, am_stO, am_tnn, am_brl, am_brg, am_bre, am_brn, am_brG, am_brL, am_st1, am_no2, am_st2, am_clr]
                  refine am_wp_cc rfl rfl rfl (trivial) (w_M_most ⟨_, rfl, ?_⟩)
                  rw [hmax, olc]
                  generalize hZ : am_up (am_up V 139 s (x : Int)) 137 od.length (s : Int) = Z
                  have Z0 : ∀ y, y ≠ 139 → y ≠ 137 → Z y = V y := fun y h1 h2 => by rw [← hZ, am_upO h2, am_upO h1]
                  have Z139 : Z 139 = am_set (V 139) s (x : Int) := by rw [← hZ, am_upO (by decide), am_upS]
                  have Z137 : Z 137 = am_set (V 137) od.length (s : Int) := by rw [← hZ, am_upS, am_upO (by decide)]
                  clear hZ
                  have Z126 : Z 126 = I 126 := by rw [Z0 126 (by decide) (by decide), v1 126 (by decide)]; exact K126
                  have Z124 : Z 124 = K 124 := by rw [Z0 124 (by decide) (by decide), v1 124 (by decide)]
                  have YZ : ozY Z n P ρ (am_set b s (x : Int)) (S ||| 2 ^ s) := by
                    refine ⟨by rw [Z126]; exact y1, by rw [Z126]; exact y2, by rw [Z126]; exact y3, by rw [Z126]; exact y4, Nat.or_lt_two_pow (n := 8) y5 (by omega), fun r hr => ?_, fun r hr hbr => ?_, fun u hu => ?_⟩
                    · rw [Nat.testBit_or, Nat.testBit_two_pow, y6 r hr]
                      by_cases e : r = s
                      · rw [am_stS e, decide_eq_true (p := s = r) e.symm, Bool.or_true]
                        exact (decide_eq_true (by omega)).symm
                      · rw [am_stO e, decide_eq_false (p := s = r) (fun hc => e hc.symm), Bool.or_false]
                    · rw [Z139]
                      by_cases e : r = s
                      · rw [am_stS e, am_stS e]
                      · rw [am_stO e] at hbr ⊢
                        rw [am_stO e, v1 139 (by decide)]
                        rw [k6 r hr hbr]; exact y7 r hr hbr
                    · rw [Z0 141 (by decide) (by decide), v2 u hu, bt u hu, Z126, bs]
                      by_cases e : x ≤ u ∧ u < t
                      · rw [if_pos e, if_pos (by omega)]; rfl
                      · rw [if_neg e, if_neg (by omega)]; simp
                  have e126 : ozq (Z 126) = ozq (I 126) := by rw [Z126]
                  have goal := ihk (d + 3) Z (am_set b s (x : Int)) (S ||| 2 ^ s) (od ++ [s]) (ozF f s B) (fun r M' => ∃ v, r = .inl v ∧ am_wp (d + 4) 266 209 [some (.inr (.inr 124)), some (.inl (od.length : Int)), some (.inl (S : Int)), some (.inl (ozM n (ozq (I 126)) b)), some (.inl (s : Int)), some (.inl (ozq (I 126) s)), some (.inl (x : Int)), some (.inl (t : Int))] (v.toList ++ []) M' Q) (by omega) (by omega) YZ (by rw [e126]; exact hQ) (by rw [e126]; exact vs) os (by rw [e126]; omega) ⟨?_, fun hc => ⟨fun j hj => ?_, fun r hr => ?_⟩⟩ (fun j hj => ?_) (fun j hj => ?_) (fun r hr hbr => ?_) (fun J w1 w2 w3 w4 w5 w6 => ⟨none, rfl, ?_⟩)
                  · rw [e126] at goal
                    exact am_wp_cc rfl rfl rfl (congrArg Prod.fst (s124 hw)) goal
                  · rw [Z124]; exact k4.1
                  · rw [Z0 138 (by decide) (by decide), v1 138 (by decide)]; exact (k4.2 hc).1 j hj
                  · rw [Z0 140 (by decide) (by decide), v1 140 (by decide)]; exact (k4.2 hc).2 r hr
                  · rw [Z137, getD_snoc]
                    by_cases e : j < od.length
                    · rw [am_stO (by omega), if_pos e, v1 137 (by decide), k5 j e]; exact ho j e
                    · rw [am_stS (by omega), if_neg e, if_pos (by omega)]
                  · rw [getD_snoc]
                    by_cases e : j < od.length
                    · rw [if_pos e]
                      have := ho2 j e
                      refine ⟨this.1, ?_⟩
                      rw [am_stO (fun hc => this.2 (by rw [hc]; exact hb))]; exact this.2
                    · rw [if_neg e, if_pos (by omega)]
                      exact ⟨hsn, by rw [am_stS rfl]; omega⟩
                  · by_cases e : r = s
                    · exact ⟨od.length, by omega, by rw [getD_snoc, if_neg (Nat.lt_irrefl _), if_pos rfl, e]⟩
                    · rw [am_stO e] at hbr
                      obtain ⟨j, j1, j2⟩ := ho3 r hr hbr
                      exact ⟨j, by omega, by rw [getD_snoc, if_pos j1, j2]⟩
                  · -- and taken off
                    have wJ : ∀ u : Nat, u < 400 → J 141 u = (ozB n (ozq (I 126)) (am_set b s (x : Int)) (u : Int) : Int) := by
                      have := w3.2.2.2.2.2.2.2
                      rwa [w1 126 (by omega), Z126] at this
                    have L4 : ∀ t : Nat, t ≤ 400 → ∀ (U : Nat → Nat → Int), x ≤ t → (t : Int) ≤ (x : Int) + ozq (I 126) s → (∀ y, y ≠ 141 → U y = J y) → (∀ u : Nat, u < 400 → U 141 u = J 141 u - if x ≤ u ∧ u < t then 1 else 0) → am_wp (d + 4) 266 213 [some (.inr (.inr (124))), some (.inl ((od.length : Int))), some (.inl ((S : Int))), some (.inl (ozM n (ozq (I 126)) b)), some (.inl ((s : Int))), some (.inl (ozq (I 126) s)), some (.inl ((x : Int))), some (.inl ((t : Int)))] [] (m, sl, sh, U, R) Q := by
                      refine am_lp 400 (fun t ht ih4 U t1 t2 u1 u2 => ?_)
                      refine am_wp_go rfl (by simp (disch := omega) only [am_addE, am_subE, am_mulE, am_laddE, am_lsubE, am_upO, am_upS, am_stS, am_stO, am_tnn, am_brl, am_brg, am_bre, am_brn, am_brG, am_brL, am_st1, am_no2, am_st2, am_clr, and_self, true_and, and_true, true_or, or_true, List.length_cons, List.length_nil] <;> omega) ?_
                      try simp (disch := omega) only [am_addE, am_subE, am_mulE, am_laddE, am_lsubE, am_upO, am_upS, am_stS, am_stO, am_tnn, am_brl, am_brg, am_bre, am_brn, am_brG, am_brL, am_st1, am_no2, am_st2, am_clr]
                      refine am_wp_br (fun b220 => ?_) (fun b220 => ?_)
                      · refine am_wp_go rfl (by simp (disch := omega) only [am_addE, am_subE, am_mulE, am_laddE, am_lsubE, am_upO, am_upS, am_stS, am_stO, am_tnn, am_brl, am_brg, am_bre, am_brn, am_brG, am_brL, am_st1, am_no2, am_st2, am_clr, and_self, true_and, and_true, true_or, or_true, List.length_cons, List.length_nil] <;> omega) ?_
                        try simp (disch := omega) only [am_addE, am_subE, am_mulE, am_laddE, am_lsubE, am_upO, am_upS, am_stS, am_stO, am_tnn, am_brl, am_brg, am_bre, am_brn, am_brG, am_brL, am_st1, am_no2, am_st2, am_clr]
                        refine am_wp_ls (ih _ _ _ U (fun y hy => ?_) (fun j hj => ?_) ⟨?_, ?_, ?_, ?_, y5, y6, fun r hr hbr => ?_, fun u hu => ?_⟩ ?_ (fun j hj => ?_) (fun r hr hbr => ?_)) rfl
                        · rw [u1 y (by omega), w1 y hy, Z0 y (by omega) (by omega), v1 y (by omega), k1 y hy]
                        · rw [u1 124 (by decide), w2 j hj, Z124, k2 j hj]
                        · rw [u1 126 (by decide), w1 126 (by omega), Z126]; exact y1
                        · rw [u1 126 (by decide), w1 126 (by omega), Z126]; exact y2
                        · rw [u1 126 (by decide), w1 126 (by omega), Z126]; exact y3
                        · rw [u1 126 (by decide), w1 126 (by omega), Z126]; exact y4
                        · have ne : r ≠ s := fun hc => hbr (by rw [hc]; exact hb)
                          rw [u1 139 (by decide), w6 r hr (by rw [am_stO ne]; exact hbr), Z139, am_stO ne, v1 139 (by decide), k6 r hr hbr]; exact y7 r hr hbr
                        · rw [u2 u hu, wJ u hu, u1 126 (by decide), w1 126 (by omega), Z126, bs]
                          by_cases e : x ≤ u ∧ u < t
                          · rw [if_pos e, if_pos (by omega)]; omega
                          · rw [if_neg e, if_neg (by omega)]; omega
                        · rw [es]
                          have w4 := w4
                          rw [e126] at w4
                          refine ⟨?_, fun hc => ⟨fun j hj => ?_, fun r hr => ?_⟩⟩
                          · rw [u1 124 (by decide)]; exact w4.1
                          · rw [u1 138 (by decide)]; exact (w4.2 hc).1 j hj
                          · rw [u1 140 (by decide)]; exact (w4.2 hc).2 r hr
                        · rw [u1 137 (by decide), w5 j (by omega), Z137, am_stO (by omega), v1 137 (by decide), k5 j hj]
                        · have ne : r ≠ s := fun hc => hbr (by rw [hc]; exact hb)
                          rw [u1 139 (by decide), w6 r hr (by rw [am_stO ne]; exact hbr), Z139, am_stO ne, v1 139 (by decide), k6 r hr hbr]
                      · have ut := u2 t (by omega)
                        rw [if_neg (by omega)] at ut
                        have jt := wJ t (by omega)
                        have jb := vs.2.1 (t : Int)
                        refine am_wp_go rfl (by simp (disch := omega) only [s124 hw, r124_34 hw, s141 hw, ut, am_addE, am_subE, am_mulE, am_laddE, am_lsubE, am_upO, am_upS, am_stS, am_stO, am_tnn, am_brl, am_brg, am_bre, am_brn, am_brG, am_brL, am_st1, am_no2, am_st2, am_clr, and_self, true_and, and_true, true_or, or_true, List.length_cons, List.length_nil] <;> omega) ?_
                        try simp (disch := omega) only [s124 hw, r124_34 hw, s141 hw, ut, am_addE, am_subE, am_mulE, am_laddE, am_lsubE, am_upO, am_upS, am_stS, am_stO, am_tnn, am_brl, am_brg, am_bre, am_brn, am_brG, am_brL, am_st1, am_no2, am_st2, am_clr]
                        refine am_wp_ls (ih4 (by omega) _ (by omega) (by omega) (fun y hy => by rw [am_upO hy, u1 y hy]) (fun u hu => ?_)) rfl
                        rw [am_upS]
                        by_cases e : u = t
                        · subst e
                          rw [am_stS rfl, if_pos (by omega)]; omega
                        · rw [am_stO e, u2 u hu]
                          have : (x ≤ u ∧ u < t) ↔ (x ≤ u ∧ u < t + 1) := by omega
                          simp only [this]
                    refine am_wp_go rfl (by simp (disch := omega) only [am_addE, am_subE, am_mulE, am_laddE, am_lsubE, am_upO, am_upS, am_stS, am_stO, am_tnn, am_brl, am_brg, am_bre, am_brn, am_brG, am_brL, am_st1, am_no2, am_st2, am_clr, and_self, true_and, and_true, true_or, or_true, List.length_cons, List.length_nil] <;> omega) ?_
                    try simp (disch := omega) only [am_addE, am_subE, am_mulE, am_laddE, am_lsubE, am_upO, am_upS, am_stS, am_stO, am_tnn, am_brl, am_brg, am_bre, am_brn, am_brG, am_brL, am_st1, am_no2, am_st2, am_clr]
                    refine am_wp_ls (L4 x (by omega) J (Nat.le_refl _) (by omega) (fun _ _ => rfl) (fun u hu => ?_)) rfl
                    rw [if_neg (by omega)]; omega
                · have vt := v2 t (by omega)
                  rw [if_neg (by omega)] at vt
                  have kt := bt t (by omega)
                  have kb := bP (t : Int)
                  refine am_wp_go rfl (by simp (disch := omega) only [s124 hw, r124_34 hw, s141 hw, vt, am_divE, am_remE, sd, sm, am_addE, am_subE, am_mulE, am_laddE, am_lsubE, am_upO, am_upS, am_stS, am_stO, am_tnn, am_brl, am_brg, am_bre, am_brn, am_brG, am_brL, am_st1, am_no2, am_st2, am_clr, and_self, true_and, and_true, true_or, or_true, List.length_cons, List.length_nil] <;> omega) ?_
                  try simp (disch := omega) only [s124 hw, r124_34 hw, s141 hw, vt, am_divE, am_remE, sd, sm, am_addE, am_subE, am_mulE, am_laddE, am_lsubE, am_upO, am_upS, am_stS, am_stO, am_tnn, am_brl, am_brg, am_bre, am_brn, am_brG, am_brL, am_st1, am_no2, am_st2, am_clr]
                  refine am_wp_ls (ih3 (by omega) _ (by omega) (by omega) (fun y hy => by rw [am_upO hy, v1 y hy]) (fun u hu => ?_)) rfl
                  rw [am_upS]
                  by_cases e : u = t
                  · subst e
                    rw [am_stS rfl, if_pos (by omega)]; omega
                  · rw [am_stO e, v2 u hu]
                    have : (x ≤ u ∧ u < t) ↔ (x ≤ u ∧ u < t + 1) := by omega
                    simp only [this]
              have L2 : ∀ t : Nat, t ≤ x → am_wp (d + 4) 266 121 [some (.inr (.inr (124))), some (.inl ((od.length : Int))), some (.inl ((S : Int))), some (.inl (ozM n (ozq (I 126)) b)), some (.inl ((s : Int))), some (.inl (ozq (I 126) s)), some (.inl ((t : Int))), z7] [] (m, sl, sh, K, R) Q := by
                refine am_lp x (fun t ht ih2 => ?_)
                refine am_wp_go rfl (by simp (disch := omega) only [am_bn0, am_addE, am_subE, am_mulE, am_laddE, am_lsubE, am_upO, am_upS, am_stS, am_stO, am_tnn, am_brl, am_brg, am_bre, am_brn, am_brG, am_brL, am_st1, am_no2, am_st2, am_clr, and_self, true_and, and_true, true_or, or_true, List.length_cons, List.length_nil] <;> omega) ?_
                try simp (disch := omega) only [am_bn0, am_addE, am_subE, am_mulE, am_laddE, am_lsubE, am_upO, am_upS, am_stS, am_stO, am_tnn, am_brl, am_brg, am_bre, am_brn, am_brG, am_brL, am_st1, am_no2, am_st2, am_clr]
                refine am_wp_cc rfl rfl rfl (congrArg Prod.fst (s124 hw)) (w_M_canStart (d := d + 2) (n := n) (P := P) (ρ := ρ) (b := b) (s := s) (x := t) hw k3 (by rw [K126]; exact hQ) (by rw [K126]; exact hV) (by rw [K126]; omega) hsn (by omega) (fun hc => ⟨_, rfl, ?_⟩) (fun hc => ⟨_, rfl, ?_⟩))
                · rw [K126] at hc
                  have te : t = x := by
                    refine Classical.byContradiction (fun hne => ?_)
                    exact sp.1.2.2 (t : Int) (by omega) (by omega) hc
                  refine am_wp_go rfl (by simp (disch := omega) only [am_addE, am_subE, am_mulE, am_laddE, am_lsubE, am_upO, am_upS, am_stS, am_stO, am_tnn, am_brl, am_brg, am_bre, am_brn, am_brG, am_brL, am_st1, am_no2, am_st2, am_clr, and_self, true_and, and_true, true_or, or_true, List.length_cons, List.length_nil] <;> omega) ?_
                  try simp (disch := omega) only [am_addE, am_subE, am_mulE, am_laddE, am_lsubE, am_upO, am_upS, am_stS, am_stO, am_tnn, am_brl, am_brg, am_bre, am_brn, am_brG, am_brL, am_st1, am_no2, am_st2, am_clr]
                  refine am_wp_br (fun b130 => ?_) (fun b130 => ?_)
                  · refine am_wp_go rfl (by simp (disch := omega) only [am_addE, am_subE, am_mulE, am_laddE, am_lsubE, am_upO, am_upS, am_stS, am_stO, am_tnn, am_brl, am_brg, am_bre, am_brn, am_brG, am_brL, am_st1, am_no2, am_st2, am_clr, and_self, true_and, and_true, true_or, or_true, List.length_cons, List.length_nil] <;> omega) ?_
                    try simp (disch := omega) only [am_addE, am_subE, am_mulE, am_laddE, am_lsubE, am_upO, am_upS, am_stS, am_stO, am_tnn, am_brl, am_brg, am_bre, am_brn, am_brG, am_brL, am_st1, am_no2, am_st2, am_clr]
                    rw [te]
                    refine am_wp_ls (L3 x (by omega) K (Nat.le_refl _) (by omega) (fun _ _ => rfl) (fun u hu => ?_)) rfl
                    rw [if_neg (by omega), Int.add_zero]
                  · omega
                · rw [K126] at hc
                  have te : t ≠ x := fun he => hc (by rw [he]; exact sp.1.2.1)
                  refine am_wp_go rfl (by simp (disch := omega) only [am_addE, am_subE, am_mulE, am_laddE, am_lsubE, am_upO, am_upS, am_stS, am_stO, am_tnn, am_brl, am_brg, am_bre, am_brn, am_brG, am_brL, am_st1, am_no2, am_st2, am_clr, and_self, true_and, and_true, true_or, or_true, List.length_cons, List.length_nil] <;> omega) ?_
                  try simp (disch := omega) only [am_addE, am_subE, am_mulE, am_laddE, am_lsubE, am_upO, am_upS, am_stS, am_stO, am_tnn, am_brl, am_brg, am_bre, am_brn, am_brG, am_brL, am_st1, am_no2, am_st2, am_clr]
                  refine am_wp_br (fun b130 => ?_) (fun b130 => ?_)
                  · omega
                  · refine am_wp_go rfl (by simp (disch := omega) only [am_addE, am_subE, am_mulE, am_laddE, am_lsubE, am_upO, am_upS, am_stS, am_stO, am_tnn, am_brl, am_brg, am_bre, am_brn, am_brG, am_brL, am_st1, am_no2, am_st2, am_clr, and_self, true_and, and_true, true_or, or_true, List.length_cons, List.length_nil] <;> omega) ?_
                    try simp (disch := omega) only [am_addE, am_subE, am_mulE, am_laddE, am_lsubE, am_upO, am_upS, am_stS, am_stO, am_tnn, am_brl, am_brg, am_bre, am_brn, am_brG, am_brL, am_st1, am_no2, am_st2, am_clr]
                    exact am_wp_ls (ih2 (by omega)) rfl
              exact am_wp_ls (L2 0 (Nat.zero_le x)) rfl
            · refine am_wp_go rfl (by simp (disch := omega) only [am_b0, am_bn0, decide_eq_true_eq, Classical.not_not, am_addE, am_subE, am_mulE, am_laddE, am_lsubE, am_upO, am_upS, am_stS, am_stO, am_tnn, am_brl, am_brg, am_bre, am_brn, am_brG, am_brL, am_st1, am_no2, am_st2, am_clr, and_self, true_and, and_true, true_or, or_true, List.length_cons, List.length_nil] <;> omega) ?_
              try simp (disch := omega) only [am_b0, am_bn0, decide_eq_true_eq, Classical.not_not, am_addE, am_subE, am_mulE, am_laddE, am_lsubE, am_upO, am_upS, am_stS, am_stO, am_tnn, am_brl, am_brg, am_bre, am_brn, am_brG, am_brL, am_st1, am_no2, am_st2, am_clr]
              refine am_wp_ls (ih _ _ _ K k1 k2 k3 ?_ k5 k6) rfl
              rw [es, fe, if_neg b98]; exact k4
        refine am_wp_go rfl (by simp (disch := omega) only [am_addE, am_subE, am_mulE, am_laddE, am_lsubE, am_upO, am_upS, am_stS, am_stO, am_tnn, am_brl, am_brg, am_bre, am_brn, am_brG, am_brL, am_st1, am_no2, am_st2, am_clr, and_self, true_and, and_true, true_or, or_true, List.length_cons, List.length_nil] <;> omega) ?_
        try simp (disch := omega) only [am_addE, am_subE, am_mulE, am_laddE, am_lsubE, am_upO, am_upS, am_stS, am_stO, am_tnn, am_brl, am_brg, am_bre, am_brn, am_brG, am_brL, am_st1, am_no2, am_st2, am_clr]
        exact am_wp_ls (LP 0 (Nat.zero_le n) none none none I (fun _ _ => rfl) (fun _ _ => rfl) hY hB (fun _ _ => rfl) (fun _ _ _ => rfl)) rfl
      · omega
    · rw [if_pos (by omega)] at h
      refine am_wp_ret rfl rfl ?_
      exact h I (fun _ _ => rfl) (fun _ _ => rfl) hY hB (fun _ _ => rfl) (fun _ _ _ => rfl)
end TR
