/-! COOKS: the reference's minute -/
def gInc (G : List Go) (j : Nat) : List Go := G.set j (gS G j, gU G j, gB G j, gL G j, gN G j + 1)
theorem rf_inc {T V : Nat → Int} {G : List Go} {j : Nat} (h : rf T G) (hj : j < G.length) (e : V = am_set T (5 * j + 5) (gN G j + 1)) : rf V (gInc G j) := by
  subst e
  unfold gInc
  refine ⟨?_, fun k hk => ?_⟩
  · rw [List.length_set, am_stO (by omega)]; exact h.1
  · rw [List.length_set] at hk
    have t := h.2 k hk
    unfold gS gU gB gL gN at t ⊢
    by_cases hkj : k = j
    · subst hkj
      rw [gs_set hj, am_stO (by omega), am_stO (by omega), am_stO (by omega), am_stO (by omega), am_stS rfl]
      exact ⟨t.1, t.2.1, t.2.2.1, t.2.2.2.1, rfl⟩
    · rw [gs_set2 hkj, am_stO (by omega), am_stO (by omega), am_stO (by omega), am_stO (by omega), am_stO (by omega)]
      exact t
section COOK
variable {m sl : Nat} {sh : Nat → Nat × Nat} {I : Nat → Nat → Int} {R : Nat → Nat → Nat} {Q : am_R → am_M → Prop} {d : Nat} {W : Nat → Int} {b : Nat → Int} {t p : Nat} {r : Int} {G : List Go} {S : CK}
theorem w_M_tells0 (hw : wd sh R) (hp : p < 4) (e : I 143 p = -1) (h : ∀ J, (∀ a, a ≠ 149 → a ≠ 150 → J a = I a) → J 149 = am_set (I 149) p (-1) → J 150 = am_set (I 150) p (-1) → Q am_yv (m, sl, sh, J, R)) : am_wp (d + 2) 278 0 [some (.inr (.inr (124))), some (.inl ((p : Int))), some (.inl ((t : Int))), none, none] [] (m, sl, sh, I, R) Q := by
  refine am_wp_go rfl (by simp (disch := omega) only [s124 hw, r124_37 hw, s143 hw, r124_44 hw, s149 hw, r124_45 hw, s150 hw, e, am_addE, am_subE, am_mulE, am_laddE, am_lsubE, am_upO, am_upS, am_stS, am_stO, am_tnn, am_brl, am_brg, am_bre, am_brn, am_brG, am_brL, am_st1, am_no2, am_st2, am_clr, and_self, true_and, and_true, true_or, or_true, List.length_cons, List.length_nil] <;> omega) ?_
  try simp (disch := omega) only [s124 hw, r124_37 hw, s143 hw, r124_44 hw, s149 hw, r124_45 hw, s150 hw, e, am_addE, am_subE, am_mulE, am_laddE, am_lsubE, am_upO, am_upS, am_stS, am_stO, am_tnn, am_brl, am_brg, am_bre, am_brn, am_brG, am_brL, am_st1, am_no2, am_st2, am_clr]
  refine am_wp_br (fun b9 => ?_) (fun b9 => ?_)
  · refine am_wp_go rfl (by simp (disch := omega) only [s124 hw, r124_37 hw, s143 hw, r124_44 hw, s149 hw, r124_45 hw, s150 hw, e, am_addE, am_subE, am_mulE, am_laddE, am_lsubE, am_upO, am_upS, am_stS, am_stO, am_tnn, am_brl, am_brg, am_bre, am_brn, am_brG, am_brL, am_st1, am_no2, am_st2, am_clr, and_self, true_and, and_true, true_or, or_true, List.length_cons, List.length_nil] <;> omega) ?_
    refine am_wp_pc (pc' := 71) rfl ?_
    refine am_wp_go rfl (by simp (disch := omega) only [s124 hw, r124_37 hw, s143 hw, r124_44 hw, s149 hw, r124_45 hw, s150 hw, e, am_addE, am_subE, am_mulE, am_laddE, am_lsubE, am_upO, am_upS, am_stS, am_stO, am_tnn, am_brl, am_brg, am_bre, am_brn, am_brG, am_brL, am_st1, am_no2, am_st2, am_clr, and_self, true_and, and_true, true_or, or_true, List.length_cons, List.length_nil] <;> omega) ?_
    try simp (disch := omega) only [s124 hw, r124_37 hw, s143 hw, r124_44 hw, s149 hw, r124_45 hw, s150 hw, e, am_addE, am_subE, am_mulE, am_laddE, am_lsubE, am_upO, am_upS, am_stS, am_stO, am_tnn, am_brl, am_brg, am_bre, am_brn, am_brG, am_brL, am_st1, am_no2, am_st2, am_clr]
    refine am_wp_br (fun b73 => ?_) (fun b73 => ?_)
    · refine am_wp_go rfl (by simp (disch := omega) only [s124 hw, r124_37 hw, s143 hw, r124_44 hw, s149 hw, r124_45 hw, s150 hw, e, am_addE, am_subE, am_mulE, am_laddE, am_lsubE, am_upO, am_upS, am_stS, am_stO, am_tnn, am_brl, am_brg, am_bre, am_brn, am_brG, am_brL, am_st1, am_no2, am_st2, am_clr, and_self, true_and, and_true, true_or, or_true, List.length_cons, List.length_nil] <;> omega) ?_
      try simp (disch := omega) only [s124 hw, r124_37 hw, s143 hw, r124_44 hw, s149 hw, r124_45 hw, s150 hw, e, am_addE, am_subE, am_mulE, am_laddE, am_lsubE, am_upO, am_upS, am_stS, am_stO, am_tnn, am_brl, am_brg, am_bre, am_brn, am_brG, am_brL, am_st1, am_no2, am_st2, am_clr]
      refine am_wp_br (fun b119 => ?_) (fun b119 => ?_)
      · omega
      · refine am_wp_go rfl (by simp (disch := omega) only [s124 hw, r124_37 hw, s143 hw, r124_44 hw, s149 hw, r124_45 hw, s150 hw, e, am_addE, am_subE, am_mulE, am_laddE, am_lsubE, am_upO, am_upS, am_stS, am_stO, am_tnn, am_brl, am_brg, am_bre, am_brn, am_brG, am_brL, am_st1, am_no2, am_st2, am_clr, and_self, true_and, and_true, true_or, or_true, List.length_cons, List.length_nil] <;> omega) ?_
        try simp (disch := omega) only [s124 hw, r124_37 hw, s143 hw, r124_44 hw, s149 hw, r124_45 hw, s150 hw, e, am_addE, am_subE, am_mulE, am_laddE, am_lsubE, am_upO, am_upS, am_stS, am_stO, am_tnn, am_brl, am_brg, am_bre, am_brn, am_brG, am_brL, am_st1, am_no2, am_st2, am_clr]
        refine am_wp_ret rfl rfl ?_
        refine h _ (fun a h1 h2 => by rw [am_upO h2, am_upO h1]) ?_ ?_
        · rw [am_upO (by decide), am_upS]
        · rw [am_upS, am_upO (by decide)]
    · first | omega | exact absurd trivial b73 | exact absurd rfl b73
  · first | omega | exact absurd trivial b9 | exact absurd rfl b9
theorem w_M_tells1 {i g : Nat} (hw : wd sh R) (hp : p < 4) (e : I 143 p = ((i / 2 : Nat) : Int)) (e2 : I 144 p = ((i % 2 : Nat) : Int)) (e3 : I 149 p = ((i / 2 : Nat) : Int)) (e4 : I 150 p = ((i % 2 : Nat) : Int)) (e5 : I 146 p = (g : Int)) (hr : rf (pw (I 126)) G) (hG : gok G) (hg : g < G.length) (h : ∀ J, (∀ a, a ≠ 126 → a ≠ 149 → a ≠ 150 → J a = I a) → (∀ j, (j < 58 ∨ 2059 ≤ j) → J 126 j = I 126 j) → J 149 = am_set (I 149) p ((i / 2 : Nat) : Int) → J 150 = am_set (I 150) p ((i % 2 : Nat) : Int) → rf (pw (J 126)) (gInc G g) → Q am_yv (m, sl, sh, J, R)) : am_wp (d + 2) 278 0 [some (.inr (.inr (124))), some (.inl ((p : Int))), some (.inl ((t : Int))), none, none] [] (m, sl, sh, I, R) Q := by
  have l4 := hG.1
  have x1 := (rf_at hr hg).2.2.2.2
  have x2 := hG.2 g hg
  refine am_wp_go rfl (by simp (disch := omega) only [s124 hw, r124_14 hw, s126 hw, r124_37 hw, s143 hw, r124_38 hw, s144 hw, r124_44 hw, s149 hw, r124_45 hw, s150 hw, r124_40 hw, s146 hw, e, e2, e3, e4, e5, x1, am_tnA, am_tnM, Int.reduceToNat, am_addE, am_subE, am_mulE, am_laddE, am_lsubE, am_upO, am_upS, am_stS, am_stO, am_tnn, am_brl, am_brg, am_bre, am_brn, am_brG, am_brL, am_st1, am_no2, am_st2, am_clr, and_self, true_and, and_true, true_or, or_true, List.length_cons, List.length_nil] <;> omega) ?_
  try simp (disch := omega) only [s124 hw, r124_14 hw, s126 hw, r124_37 hw, s143 hw, r124_38 hw, s144 hw, r124_44 hw, s149 hw, r124_45 hw, s150 hw, r124_40 hw, s146 hw, e, e2, e3, e4, e5, x1, am_tnA, am_tnM, Int.reduceToNat, am_addE, am_subE, am_mulE, am_laddE, am_lsubE, am_upO, am_upS, am_stS, am_stO, am_tnn, am_brl, am_brg, am_bre, am_brn, am_brG, am_brL, am_st1, am_no2, am_st2, am_clr]
  refine am_wp_br (fun b9 => ?_) (fun b9 => ?_)
  · omega
  · refine am_wp_go rfl (by simp (disch := omega) only [s124 hw, r124_14 hw, s126 hw, r124_37 hw, s143 hw, r124_38 hw, s144 hw, r124_44 hw, s149 hw, r124_45 hw, s150 hw, r124_40 hw, s146 hw, e, e2, e3, e4, e5, x1, am_tnA, am_tnM, Int.reduceToNat, am_addE, am_subE, am_mulE, am_laddE, am_lsubE, am_upO, am_upS, am_stS, am_stO, am_tnn, am_brl, am_brg, am_bre, am_brn, am_brG, am_brL, am_st1, am_no2, am_st2, am_clr, and_self, true_and, and_true, true_or, or_true, List.length_cons, List.length_nil] <;> omega) ?_
    try simp (disch := omega) only [s124 hw, r124_14 hw, s126 hw, r124_37 hw, s143 hw, r124_38 hw, s144 hw, r124_44 hw, s149 hw, r124_45 hw, s150 hw, r124_40 hw, s146 hw, e, e2, e3, e4, e5, x1, am_tnA, am_tnM, Int.reduceToNat, am_addE, am_subE, am_mulE, am_laddE, am_lsubE, am_upO, am_upS, am_stS, am_stO, am_tnn, am_brl, am_brg, am_bre, am_brn, am_brG, am_brL, am_st1, am_no2, am_st2, am_clr]
    refine am_wp_br (fun b19 => ?_) (fun b19 => ?_)
    · omega
    · refine am_wp_go rfl (by simp (disch := omega) only [s124 hw, r124_14 hw, s126 hw, r124_37 hw, s143 hw, r124_38 hw, s144 hw, r124_44 hw, s149 hw, r124_45 hw, s150 hw, r124_40 hw, s146 hw, e, e2, e3, e4, e5, x1, am_tnA, am_tnM, Int.reduceToNat, am_addE, am_subE, am_mulE, am_laddE, am_lsubE, am_upO, am_upS, am_stS, am_stO, am_tnn, am_brl, am_brg, am_bre, am_brn, am_brG, am_brL, am_st1, am_no2, am_st2, am_clr, and_self, true_and, and_true, true_or, or_true, List.length_cons, List.length_nil] <;> omega) ?_
      try simp (disch := omega) only [s124 hw, r124_14 hw, s126 hw, r124_37 hw, s143 hw, r124_38 hw, s144 hw, r124_44 hw, s149 hw, r124_45 hw, s150 hw, r124_40 hw, s146 hw, e, e2, e3, e4, e5, x1, am_tnA, am_tnM, Int.reduceToNat, am_addE, am_subE, am_mulE, am_laddE, am_lsubE, am_upO, am_upS, am_stS, am_stO, am_tnn, am_brl, am_brg, am_bre, am_brn, am_brG, am_brL, am_st1, am_no2, am_st2, am_clr]
      refine am_wp_br (fun b34 => ?_) (fun b34 => ?_)
      · omega
      · refine am_wp_go rfl (by simp (disch := omega) only [s124 hw, r124_14 hw, s126 hw, r124_37 hw, s143 hw, r124_38 hw, s144 hw, r124_44 hw, s149 hw, r124_45 hw, s150 hw, r124_40 hw, s146 hw, e, e2, e3, e4, e5, x1, am_tnA, am_tnM, Int.reduceToNat, am_addE, am_subE, am_mulE, am_laddE, am_lsubE, am_upO, am_upS, am_stS, am_stO, am_tnn, am_brl, am_brg, am_bre, am_brn, am_brG, am_brL, am_st1, am_no2, am_st2, am_clr, and_self, true_and, and_true, true_or, or_true, List.length_cons, List.length_nil] <;> omega) ?_
        refine am_wp_pc (pc' := 49) rfl ?_
        refine am_wp_go rfl (by simp (disch := omega) only [s124 hw, r124_14 hw, s126 hw, r124_37 hw, s143 hw, r124_38 hw, s144 hw, r124_44 hw, s149 hw, r124_45 hw, s150 hw, r124_40 hw, s146 hw, e, e2, e3, e4, e5, x1, am_tnA, am_tnM, Int.reduceToNat, am_addE, am_subE, am_mulE, am_laddE, am_lsubE, am_upO, am_upS, am_stS, am_stO, am_tnn, am_brl, am_brg, am_bre, am_brn, am_brG, am_brL, am_st1, am_no2, am_st2, am_clr, and_self, true_and, and_true, true_or, or_true, List.length_cons, List.length_nil] <;> omega) ?_
        try simp (disch := omega) only [s124 hw, r124_14 hw, s126 hw, r124_37 hw, s143 hw, r124_38 hw, s144 hw, r124_44 hw, s149 hw, r124_45 hw, s150 hw, r124_40 hw, s146 hw, e, e2, e3, e4, e5, x1, am_tnA, am_tnM, Int.reduceToNat, am_addE, am_subE, am_mulE, am_laddE, am_lsubE, am_upO, am_upS, am_stS, am_stO, am_tnn, am_brl, am_brg, am_bre, am_brn, am_brG, am_brL, am_st1, am_no2, am_st2, am_clr]
        refine am_wp_br (fun b73 => ?_) (fun b73 => ?_)
        · omega
        · refine am_wp_go rfl (by simp (disch := omega) only [s124 hw, r124_14 hw, s126 hw, r124_37 hw, s143 hw, r124_38 hw, s144 hw, r124_44 hw, s149 hw, r124_45 hw, s150 hw, r124_40 hw, s146 hw, e, e2, e3, e4, e5, x1, am_tnA, am_tnM, Int.reduceToNat, am_addE, am_subE, am_mulE, am_laddE, am_lsubE, am_upO, am_upS, am_stS, am_stO, am_tnn, am_brl, am_brg, am_bre, am_brn, am_brG, am_brL, am_st1, am_no2, am_st2, am_clr, and_self, true_and, and_true, true_or, or_true, List.length_cons, List.length_nil] <;> omega) ?_
          refine am_wp_pc (pc' := 105) rfl ?_
          refine am_wp_go rfl (by simp (disch := omega) only [s124 hw, r124_14 hw, s126 hw, r124_37 hw, s143 hw, r124_38 hw, s144 hw, r124_44 hw, s149 hw, r124_45 hw, s150 hw, r124_40 hw, s146 hw, e, e2, e3, e4, e5, x1, am_tnA, am_tnM, Int.reduceToNat, am_addE, am_subE, am_mulE, am_laddE, am_lsubE, am_upO, am_upS, am_stS, am_stO, am_tnn, am_brl, am_brg, am_bre, am_brn, am_brG, am_brL, am_st1, am_no2, am_st2, am_clr, and_self, true_and, and_true, true_or, or_true, List.length_cons, List.length_nil] <;> omega) ?_
          try simp (disch := omega) only [s124 hw, r124_14 hw, s126 hw, r124_37 hw, s143 hw, r124_38 hw, s144 hw, r124_44 hw, s149 hw, r124_45 hw, s150 hw, r124_40 hw, s146 hw, e, e2, e3, e4, e5, x1, am_tnA, am_tnM, Int.reduceToNat, am_addE, am_subE, am_mulE, am_laddE, am_lsubE, am_upO, am_upS, am_stS, am_stO, am_tnn, am_brl, am_brg, am_bre, am_brn, am_brG, am_brL, am_st1, am_no2, am_st2, am_clr]
          refine am_wp_br (fun b119 => ?_) (fun b119 => ?_)
          · refine am_wp_go rfl (by simp (disch := omega) only [s124 hw, r124_14 hw, s126 hw, r124_37 hw, s143 hw, r124_38 hw, s144 hw, r124_44 hw, s149 hw, r124_45 hw, s150 hw, r124_40 hw, s146 hw, e, e2, e3, e4, e5, x1, am_tnA, am_tnM, Int.reduceToNat, am_addE, am_subE, am_mulE, am_laddE, am_lsubE, am_upO, am_upS, am_stS, am_stO, am_tnn, am_brl, am_brg, am_bre, am_brn, am_brG, am_brL, am_st1, am_no2, am_st2, am_clr, and_self, true_and, and_true, true_or, or_true, List.length_cons, List.length_nil] <;> omega) ?_
            try simp (disch := omega) only [s124 hw, r124_14 hw, s126 hw, r124_37 hw, s143 hw, r124_38 hw, s144 hw, r124_44 hw, s149 hw, r124_45 hw, s150 hw, r124_40 hw, s146 hw, e, e2, e3, e4, e5, x1, am_tnA, am_tnM, Int.reduceToNat, am_addE, am_subE, am_mulE, am_laddE, am_lsubE, am_upO, am_upS, am_stS, am_stO, am_tnn, am_brl, am_brg, am_bre, am_brn, am_brG, am_brL, am_st1, am_no2, am_st2, am_clr]
            refine am_wp_ret rfl rfl ?_
            refine h _ (fun a h1 h2 h3 => by rw [am_upO h3, am_upO h2, am_upO h1]) (fun j hj => ?_) ?_ ?_ (rf_inc (T := pw (I 126)) hr hg ?_)
            · rw [am_upO (by decide), am_upO (by decide), am_upS, am_stO (by omega)]
            · rw [am_upO (by decide), am_upS, am_upO (by decide)]
            · rw [am_upS, am_upO (by decide), am_upO (by decide)]
            · rw [am_upO (by decide), am_upO (by decide), am_upS]
              funext j
              unfold pw am_set
              by_cases hj : j = 5 * g + 5
              · rw [if_pos hj, if_pos (by omega)]
              · rw [if_neg hj, if_neg (by omega)]
          · omega
theorem w_M_tells2 {i : Nat} (hw : wd sh R) (hp : p < 4) (e : I 143 p = ((i / 2 : Nat) : Int)) (e2 : I 144 p = ((i % 2 : Nat) : Int)) (hb : ckQ (I 149) (I 150) b p) (hbw : b p = -1 ∨ ∃ i : Nat, b p = (i : Int)) (hbi : b p ≠ (i : Int)) (hr : rf (pw (I 126)) G) (hG : G.length < 400) (h : ∀ J, (∀ a, a ≠ 126 → a ≠ 146 → a ≠ 149 → a ≠ 150 → J a = I a) → (∀ j, (j < 58 ∨ 2059 ≤ j) → J 126 j = I 126 j) → J 146 = am_set (I 146) p (G.length : Int) → J 149 = am_set (I 149) p ((i / 2 : Nat) : Int) → J 150 = am_set (I 150) p ((i % 2 : Nat) : Int) → rf (pw (J 126)) (G ++ [(((i / 2 : Nat) : Int), ((i % 2 : Nat) : Int), (t : Int), (p : Int), 1)]) → Q am_yv (m, sl, sh, J, R)) : am_wp (d + 2) 278 0 [some (.inr (.inr (124))), some (.inl ((p : Int))), some (.inl ((t : Int))), none, none] [] (m, sl, sh, I, R) Q := by
  have T : am_wp (d + 2) 278 81 [some (.inr (.inr (124))), some (.inl ((p : Int))), some (.inl ((t : Int))), some (.inl (((i / 2 : Nat) : Int))), some (.inl (0))] [] (m, sl, sh, I, R) Q := by
    clear hb
    refine am_wp_go rfl (by simp (disch := omega) only [s124 hw, r124_40 hw, s146 hw, r124_38 hw, s144 hw, e2, am_addE, am_subE, am_mulE, am_laddE, am_lsubE, am_upO, am_upS, am_stS, am_stO, am_tnn, am_brl, am_brg, am_bre, am_brn, am_brG, am_brL, am_st1, am_no2, am_st2, am_clr, and_self, true_and, and_true, true_or, or_true, List.length_cons, List.length_nil] <;> omega) ?_
    try simp (disch := omega) only [s124 hw, r124_40 hw, s146 hw, r124_38 hw, s144 hw, e2, am_addE, am_subE, am_mulE, am_laddE, am_lsubE, am_upO, am_upS, am_stS, am_stO, am_tnn, am_brl, am_brg, am_bre, am_brn, am_brG, am_brL, am_st1, am_no2, am_st2, am_clr]
    refine am_wp_cc rfl rfl rfl (congrArg Prod.fst (s124 hw)) (w_M_goesG hw hr ⟨_, rfl, ?_⟩)
    refine am_wp_go rfl (by simp (disch := omega) only [s124 hw, r124_40 hw, s146 hw, r124_38 hw, s144 hw, e2, am_addE, am_subE, am_mulE, am_laddE, am_lsubE, am_upO, am_upS, am_stS, am_stO, am_tnn, am_brl, am_brg, am_bre, am_brn, am_brG, am_brL, am_st1, am_no2, am_st2, am_clr, and_self, true_and, and_true, true_or, or_true, List.length_cons, List.length_nil] <;> omega) ?_
    try simp (disch := omega) only [s124 hw, r124_40 hw, s146 hw, r124_38 hw, s144 hw, e2, am_addE, am_subE, am_mulE, am_laddE, am_lsubE, am_upO, am_upS, am_stS, am_stO, am_tnn, am_brl, am_brg, am_bre, am_brn, am_brG, am_brL, am_st1, am_no2, am_st2, am_clr]
    refine am_wp_cc rfl rfl rfl (congrArg Prod.fst (s124 hw)) (w_M_lays (g := (((i / 2 : Nat) : Int), ((i % 2 : Nat) : Int), (t : Int), (p : Int), 1)) (G := G) hw (by rw [am_upO (by decide)]; exact hr) hG rfl rfl rfl rfl rfl (fun Y y1 y2 y3 => ⟨_, rfl, ?_⟩))
    have z2 : Y 144 p = ((i % 2 : Nat) : Int) := by rw [y1 144 (by decide), am_upO (by decide)]; exact e2
    refine am_wp_go rfl (by simp (disch := omega) only [s124 hw, r124_44 hw, s149 hw, r124_45 hw, s150 hw, r124_38 hw, s144 hw, z2, am_addE, am_subE, am_mulE, am_laddE, am_lsubE, am_upO, am_upS, am_stS, am_stO, am_tnn, am_brl, am_brg, am_bre, am_brn, am_brG, am_brL, am_st1, am_no2, am_st2, am_clr, and_self, true_and, and_true, true_or, or_true, List.length_cons, List.length_nil] <;> omega) ?_
    try simp (disch := omega) only [s124 hw, r124_44 hw, s149 hw, r124_45 hw, s150 hw, r124_38 hw, s144 hw, z2, am_addE, am_subE, am_mulE, am_laddE, am_lsubE, am_upO, am_upS, am_stS, am_stO, am_tnn, am_brl, am_brg, am_bre, am_brn, am_brG, am_brL, am_st1, am_no2, am_st2, am_clr]
    refine am_wp_br (fun b119 => ?_) (fun b119 => ?_)
    · refine am_wp_go rfl (by simp (disch := omega) only [s124 hw, r124_44 hw, s149 hw, r124_45 hw, s150 hw, r124_38 hw, s144 hw, z2, am_addE, am_subE, am_mulE, am_laddE, am_lsubE, am_upO, am_upS, am_stS, am_stO, am_tnn, am_brl, am_brg, am_bre, am_brn, am_brG, am_brL, am_st1, am_no2, am_st2, am_clr, and_self, true_and, and_true, true_or, or_true, List.length_cons, List.length_nil] <;> omega) ?_
      try simp (disch := omega) only [s124 hw, r124_44 hw, s149 hw, r124_45 hw, s150 hw, r124_38 hw, s144 hw, z2, am_addE, am_subE, am_mulE, am_laddE, am_lsubE, am_upO, am_upS, am_stS, am_stO, am_tnn, am_brl, am_brg, am_bre, am_brn, am_brG, am_brL, am_st1, am_no2, am_st2, am_clr]
      refine am_wp_ret rfl rfl ?_
      refine h _ (fun a h1 h2 h3 h4 => by rw [am_upO h4, am_upO h3, y1 a h1, am_upO h2]) (fun j hj => ?_) ?_ ?_ ?_ ?_
      · rw [am_upO (by decide), am_upO (by decide), y2 j hj, am_upO (by decide)]
      · rw [am_upO (by decide), am_upO (by decide), y1 146 (by decide), am_upS]
      · rw [am_upO (by decide), am_upS, y1 149 (by decide), am_upO (by decide)]
      · rw [am_upS, am_upO (by decide), y1 150 (by decide), am_upO (by decide)]
      · rw [am_upO (by decide), am_upO (by decide)]; exact y3
    · omega
  clear h
  rcases hbw with z | ⟨j, z⟩
  · have e3 := hb.1 z
    clear hb
    refine am_wp_go rfl (by simp (disch := omega) only [s124 hw, r124_37 hw, s143 hw, r124_44 hw, s149 hw, e, e3, am_addE, am_subE, am_mulE, am_laddE, am_lsubE, am_upO, am_upS, am_stS, am_stO, am_tnn, am_brl, am_brg, am_bre, am_brn, am_brG, am_brL, am_st1, am_no2, am_st2, am_clr, and_self, true_and, and_true, true_or, or_true, List.length_cons, List.length_nil] <;> omega) ?_
    try simp (disch := omega) only [s124 hw, r124_37 hw, s143 hw, r124_44 hw, s149 hw, e, e3, am_addE, am_subE, am_mulE, am_laddE, am_lsubE, am_upO, am_upS, am_stS, am_stO, am_tnn, am_brl, am_brg, am_bre, am_brn, am_brG, am_brL, am_st1, am_no2, am_st2, am_clr]
    refine am_wp_br (fun b9 => ?_) (fun b9 => ?_)
    · omega
    · refine am_wp_go rfl (by simp (disch := omega) only [s124 hw, r124_37 hw, s143 hw, r124_44 hw, s149 hw, e, e3, am_addE, am_subE, am_mulE, am_laddE, am_lsubE, am_upO, am_upS, am_stS, am_stO, am_tnn, am_brl, am_brg, am_bre, am_brn, am_brG, am_brL, am_st1, am_no2, am_st2, am_clr, and_self, true_and, and_true, true_or, or_true, List.length_cons, List.length_nil] <;> omega) ?_
      try simp (disch := omega) only [s124 hw, r124_37 hw, s143 hw, r124_44 hw, s149 hw, e, e3, am_addE, am_subE, am_mulE, am_laddE, am_lsubE, am_upO, am_upS, am_stS, am_stO, am_tnn, am_brl, am_brg, am_bre, am_brn, am_brG, am_brL, am_st1, am_no2, am_st2, am_clr]
      refine am_wp_br (fun b19 => ?_) (fun b19 => ?_)
      · refine am_wp_go rfl (by simp (disch := omega) only [s124 hw, r124_37 hw, s143 hw, r124_44 hw, s149 hw, e, e3, am_addE, am_subE, am_mulE, am_laddE, am_lsubE, am_upO, am_upS, am_stS, am_stO, am_tnn, am_brl, am_brg, am_bre, am_brn, am_brG, am_brL, am_st1, am_no2, am_st2, am_clr, and_self, true_and, and_true, true_or, or_true, List.length_cons, List.length_nil] <;> omega) ?_
        refine am_wp_pc (pc' := 71) rfl ?_
        refine am_wp_go rfl (by simp (disch := omega) only [s124 hw, r124_37 hw, s143 hw, r124_44 hw, s149 hw, e, e3, am_addE, am_subE, am_mulE, am_laddE, am_lsubE, am_upO, am_upS, am_stS, am_stO, am_tnn, am_brl, am_brg, am_bre, am_brn, am_brG, am_brL, am_st1, am_no2, am_st2, am_clr, and_self, true_and, and_true, true_or, or_true, List.length_cons, List.length_nil] <;> omega) ?_
        try simp (disch := omega) only [s124 hw, r124_37 hw, s143 hw, r124_44 hw, s149 hw, e, e3, am_addE, am_subE, am_mulE, am_laddE, am_lsubE, am_upO, am_upS, am_stS, am_stO, am_tnn, am_brl, am_brg, am_bre, am_brn, am_brG, am_brL, am_st1, am_no2, am_st2, am_clr]
        refine am_wp_br (fun b73 => ?_) (fun b73 => ?_)
        · omega
        · refine am_wp_go rfl (by simp (disch := omega) only [s124 hw, r124_37 hw, s143 hw, r124_44 hw, s149 hw, e, e3, am_addE, am_subE, am_mulE, am_laddE, am_lsubE, am_upO, am_upS, am_stS, am_stO, am_tnn, am_brl, am_brg, am_bre, am_brn, am_brG, am_brL, am_st1, am_no2, am_st2, am_clr, and_self, true_and, and_true, true_or, or_true, List.length_cons, List.length_nil] <;> omega) ?_
          refine am_wp_pc (pc' := 81) rfl ?_
          exact am_wp_ls T rfl
      · omega
  · obtain ⟨e3, e4⟩ := hb.2 j z
    clear hb
    refine am_wp_go rfl (by simp (disch := omega) only [s124 hw, r124_37 hw, s143 hw, r124_38 hw, s144 hw, r124_44 hw, s149 hw, r124_45 hw, s150 hw, e, e2, e3, e4, am_addE, am_subE, am_mulE, am_laddE, am_lsubE, am_upO, am_upS, am_stS, am_stO, am_tnn, am_brl, am_brg, am_bre, am_brn, am_brG, am_brL, am_st1, am_no2, am_st2, am_clr, and_self, true_and, and_true, true_or, or_true, List.length_cons, List.length_nil] <;> omega) ?_
    try simp (disch := omega) only [s124 hw, r124_37 hw, s143 hw, r124_38 hw, s144 hw, r124_44 hw, s149 hw, r124_45 hw, s150 hw, e, e2, e3, e4, am_addE, am_subE, am_mulE, am_laddE, am_lsubE, am_upO, am_upS, am_stS, am_stO, am_tnn, am_brl, am_brg, am_bre, am_brn, am_brG, am_brL, am_st1, am_no2, am_st2, am_clr]
    refine am_wp_br (fun b9 => ?_) (fun b9 => ?_)
    · omega
    · refine am_wp_go rfl (by simp (disch := omega) only [s124 hw, r124_37 hw, s143 hw, r124_38 hw, s144 hw, r124_44 hw, s149 hw, r124_45 hw, s150 hw, e, e2, e3, e4, am_addE, am_subE, am_mulE, am_laddE, am_lsubE, am_upO, am_upS, am_stS, am_stO, am_tnn, am_brl, am_brg, am_bre, am_brn, am_brG, am_brL, am_st1, am_no2, am_st2, am_clr, and_self, true_and, and_true, true_or, or_true, List.length_cons, List.length_nil] <;> omega) ?_
      try simp (disch := omega) only [s124 hw, r124_37 hw, s143 hw, r124_38 hw, s144 hw, r124_44 hw, s149 hw, r124_45 hw, s150 hw, e, e2, e3, e4, am_addE, am_subE, am_mulE, am_laddE, am_lsubE, am_upO, am_upS, am_stS, am_stO, am_tnn, am_brl, am_brg, am_bre, am_brn, am_brG, am_brL, am_st1, am_no2, am_st2, am_clr]
      refine am_wp_br (fun b19 => ?_) (fun b19 => ?_)
      · refine am_wp_go rfl (by simp (disch := omega) only [s124 hw, r124_37 hw, s143 hw, r124_38 hw, s144 hw, r124_44 hw, s149 hw, r124_45 hw, s150 hw, e, e2, e3, e4, am_addE, am_subE, am_mulE, am_laddE, am_lsubE, am_upO, am_upS, am_stS, am_stO, am_tnn, am_brl, am_brg, am_bre, am_brn, am_brG, am_brL, am_st1, am_no2, am_st2, am_clr, and_self, true_and, and_true, true_or, or_true, List.length_cons, List.length_nil] <;> omega) ?_
        refine am_wp_pc (pc' := 71) rfl ?_
        refine am_wp_go rfl (by simp (disch := omega) only [s124 hw, r124_37 hw, s143 hw, r124_38 hw, s144 hw, r124_44 hw, s149 hw, r124_45 hw, s150 hw, e, e2, e3, e4, am_addE, am_subE, am_mulE, am_laddE, am_lsubE, am_upO, am_upS, am_stS, am_stO, am_tnn, am_brl, am_brg, am_bre, am_brn, am_brG, am_brL, am_st1, am_no2, am_st2, am_clr, and_self, true_and, and_true, true_or, or_true, List.length_cons, List.length_nil] <;> omega) ?_
        try simp (disch := omega) only [s124 hw, r124_37 hw, s143 hw, r124_38 hw, s144 hw, r124_44 hw, s149 hw, r124_45 hw, s150 hw, e, e2, e3, e4, am_addE, am_subE, am_mulE, am_laddE, am_lsubE, am_upO, am_upS, am_stS, am_stO, am_tnn, am_brl, am_brg, am_bre, am_brn, am_brG, am_brL, am_st1, am_no2, am_st2, am_clr]
        refine am_wp_br (fun b73 => ?_) (fun b73 => ?_)
        · omega
        · refine am_wp_go rfl (by simp (disch := omega) only [s124 hw, r124_37 hw, s143 hw, r124_38 hw, s144 hw, r124_44 hw, s149 hw, r124_45 hw, s150 hw, e, e2, e3, e4, am_addE, am_subE, am_mulE, am_laddE, am_lsubE, am_upO, am_upS, am_stS, am_stO, am_tnn, am_brl, am_brg, am_bre, am_brn, am_brG, am_brL, am_st1, am_no2, am_st2, am_clr, and_self, true_and, and_true, true_or, or_true, List.length_cons, List.length_nil] <;> omega) ?_
          refine am_wp_pc (pc' := 81) rfl ?_
          exact am_wp_ls T rfl
      · refine am_wp_go rfl (by simp (disch := omega) only [s124 hw, r124_37 hw, s143 hw, r124_38 hw, s144 hw, r124_44 hw, s149 hw, r124_45 hw, s150 hw, e, e2, e3, e4, am_addE, am_subE, am_mulE, am_laddE, am_lsubE, am_upO, am_upS, am_stS, am_stO, am_tnn, am_brl, am_brg, am_bre, am_brn, am_brG, am_brL, am_st1, am_no2, am_st2, am_clr, and_self, true_and, and_true, true_or, or_true, List.length_cons, List.length_nil] <;> omega) ?_
        try simp (disch := omega) only [s124 hw, r124_37 hw, s143 hw, r124_38 hw, s144 hw, r124_44 hw, s149 hw, r124_45 hw, s150 hw, e, e2, e3, e4, am_addE, am_subE, am_mulE, am_laddE, am_lsubE, am_upO, am_upS, am_stS, am_stO, am_tnn, am_brl, am_brg, am_bre, am_brn, am_brG, am_brL, am_st1, am_no2, am_st2, am_clr]
        refine am_wp_br (fun b34 => ?_) (fun b34 => ?_)
        · refine am_wp_go rfl (by simp (disch := omega) only [s124 hw, r124_37 hw, s143 hw, r124_38 hw, s144 hw, r124_44 hw, s149 hw, r124_45 hw, s150 hw, e, e2, e3, e4, am_addE, am_subE, am_mulE, am_laddE, am_lsubE, am_upO, am_upS, am_stS, am_stO, am_tnn, am_brl, am_brg, am_bre, am_brn, am_brG, am_brL, am_st1, am_no2, am_st2, am_clr, and_self, true_and, and_true, true_or, or_true, List.length_cons, List.length_nil] <;> omega) ?_
          refine am_wp_pc (pc' := 71) rfl ?_
          refine am_wp_go rfl (by simp (disch := omega) only [s124 hw, r124_37 hw, s143 hw, r124_38 hw, s144 hw, r124_44 hw, s149 hw, r124_45 hw, s150 hw, e, e2, e3, e4, am_addE, am_subE, am_mulE, am_laddE, am_lsubE, am_upO, am_upS, am_stS, am_stO, am_tnn, am_brl, am_brg, am_bre, am_brn, am_brG, am_brL, am_st1, am_no2, am_st2, am_clr, and_self, true_and, and_true, true_or, or_true, List.length_cons, List.length_nil] <;> omega) ?_
          try simp (disch := omega) only [s124 hw, r124_37 hw, s143 hw, r124_38 hw, s144 hw, r124_44 hw, s149 hw, r124_45 hw, s150 hw, e, e2, e3, e4, am_addE, am_subE, am_mulE, am_laddE, am_lsubE, am_upO, am_upS, am_stS, am_stO, am_tnn, am_brl, am_brg, am_bre, am_brn, am_brG, am_brL, am_st1, am_no2, am_st2, am_clr]
          refine am_wp_br (fun b73 => ?_) (fun b73 => ?_)
          · omega
          · refine am_wp_go rfl (by simp (disch := omega) only [s124 hw, r124_37 hw, s143 hw, r124_38 hw, s144 hw, r124_44 hw, s149 hw, r124_45 hw, s150 hw, e, e2, e3, e4, am_addE, am_subE, am_mulE, am_laddE, am_lsubE, am_upO, am_upS, am_stS, am_stO, am_tnn, am_brl, am_brg, am_bre, am_brn, am_brG, am_brL, am_st1, am_no2, am_st2, am_clr, and_self, true_and, and_true, true_or, or_true, List.length_cons, List.length_nil] <;> omega) ?_
            refine am_wp_pc (pc' := 81) rfl ?_
            exact am_wp_ls T rfl
        · omega
/-- when a side was on last -/
def ckA (W : Nat → Int) (l f : Nat → Nat) (A : Nat → Int) (s : Nat) : Prop := (l (2 * s + 1) = ndW W (2 * s + 1) → A (2 * s + 1) = -1) ∧ (l (2 * s) = 0 → l (2 * s + 1) = ndW W (2 * s + 1) → A (2 * s) = (f s : Int) - 1 ∧ 1 ≤ f s)
/-- minutes left, and when a side was on last, while what is on in a minute is being found -/
def ckH (W : Nat → Int) (l : Nat → Nat) (A B : Nat → Int) (nw : Nat → Int) (P t : Nat) (V X : Nat → Int) : Prop := ∀ i, i < 2 * nS W → ((∀ p, p < P → nw p ≠ (i : Int)) → V i = (l i : Int) ∧ X i = A i) ∧ ((∃ p, p < P ∧ nw p = (i : Int)) → V i = (l i : Int) - 1 ∧ X i = (t : Int))
def ckRf (W : Nat → Int) (K : Nat → Nat → Int) (S : CK) : Prop := (∀ i, i < 2 * nS W → K 145 i = (S.1 i : Int)) ∧ (∀ p, p < (W 0).toNat → ckQ (K 149) (K 150) S.2.1 p) ∧ (∀ p, p < (W 0).toNat → S.2.1 p ≠ -1 → K 146 p = (S.2.2.2.1 p : Int)) ∧ (∀ s, s < nS W → ckA W S.1 S.2.2.1 (K 147) s) ∧ (∀ j, (j < 58 ∨ 2059 ≤ j) → K 126 j = W j) ∧ rf (pw (K 126)) S.2.2.2.2
theorem ckH_set {l : Nat → Nat} {A B nw V X V2 X2 : Nat → Int} {P q i : Nat} (hi : i < 2 * nS W) (hli : 0 < l i) (hH : ckH W l A B nw P t V X) (hq : q < P) (hn : nw q = -1) (hno : ∀ p, p < P → nw p ≠ (i : Int)) (eV : V2 = am_set V i (V i - 1)) (eX : X2 = am_set X i (t : Int)) : ckH W l A B (am_set nw q (i : Int)) P t V2 X2 := by
  subst eV
  subst eX
  intro j hj
  obtain ⟨a, c⟩ := hH j hj
  by_cases hji : j = i
  · subst hji
    have := (a hno).1
    refine ⟨fun hc => absurd (am_stS rfl) (hc q hq), fun _ => ?_⟩
    rw [am_stS rfl, am_stS rfl]
    exact ⟨by omega, rfl⟩
  · rw [am_stO hji, am_stO hji]
    refine ⟨fun hc => a (fun p hp hx => ?_), fun hc => c ?_⟩
    · by_cases hpq : p = q
      · rw [hpq, hn] at hx; omega
      · exact hc p hp (by rw [am_stO hpq]; exact hx)
    · obtain ⟨p, hp, hx⟩ := hc
      by_cases hpq : p = q
      · rw [am_stS hpq] at hx; omega
      · exact ⟨p, hp, by rw [am_stO hpq] at hx; exact hx⟩
theorem ckQ_set {A B nw : Nat → Int} {q i p : Nat} (h : p ≠ q → ckQ A B nw p) : ckQ (am_set A q ((i / 2 : Nat) : Int)) (am_set B q ((i % 2 : Nat) : Int)) (am_set nw q (i : Int)) p := by
  by_cases hpq : p = q
  · refine ⟨fun hc => by rw [am_stS hpq] at hc; omega, fun j hj => ?_⟩
    rw [am_stS hpq] at hj
    rw [am_stS hpq, am_stS hpq]
    have : i = j := by omega
    subst this
    exact ⟨rfl, rfl⟩
  · have := h hpq
    unfold ckQ
    rw [am_stO hpq, am_stO hpq, am_stO hpq]
    exact this
set_option maxHeartbeats 16000000 in
theorem w_M_cookMinute (hw : wd sh R) (hk : wk W) (hr : 0 ≤ r ∧ r ≤ 2) (hI : ckI W t S) (ht : t ≤ 900) (hf : ∀ s, s < nS W → S.2.2.1 s ≤ t) (hC : ckRf W I S) (h : ∀ J, (∀ a, ¬ (a = 126 ∨ 143 ≤ a ∧ a ≤ 150) → J a = I a) → ckRf W J (ckMin W r t S) → Q am_yv (m, sl, sh, J, R)) : am_wp (d + 4) 277 0 [some (.inr (.inr (124))), some (.inl (r)), some (.inl ((t : Int))), none, none, none, none] [] (m, sl, sh, I, R) Q := by
  have n1 := wk_nS hk
  obtain ⟨w1, w2, -⟩ := hk.1
  have w3 : ((W 0).toNat : Int) = W 0 := by omega
  obtain ⟨c1, c2, c3, c4, c5, c6⟩ := id hC
  have J0 := ck0_J hk hI.2.1 hI.2.2.1 hI.2.2.2.1
  have JJ := ckI_J (r := r) hk hI
  have e0 : I 126 0 = ((W 0).toNat : Int) := by rw [c5 0 (by decide)]; omega
  have bW : ckW S.2.1 (W 0).toNat := fun p hp => (hI.2.2.1 p hp).imp id (fun ⟨i, _, e, _⟩ => ⟨i, e⟩)
  have nd := fun i (h : i < 2 * nS W) => nd_pos hk h
  refine am_wp_go rfl (by simp (disch := omega) only [s124 hw, r124_14 hw, s126 hw, e0, Int.reduceToNat, am_addE, am_subE, am_mulE, am_laddE, am_lsubE, am_upO, am_upS, am_stS, am_stO, am_tnn, am_brl, am_brg, am_bre, am_brn, am_brG, am_brL, am_st1, am_no2, am_st2, am_clr, and_self, true_and, and_true, true_or, or_true, List.length_cons, List.length_nil] <;> omega) ?_
  try simp (disch := omega) only [s124 hw, r124_14 hw, s126 hw, e0, Int.reduceToNat, am_addE, am_subE, am_mulE, am_laddE, am_lsubE, am_upO, am_upS, am_stS, am_stO, am_tnn, am_brl, am_brg, am_bre, am_brn, am_brG, am_brL, am_st1, am_no2, am_st2, am_clr]
  -- what is on is told, PLACE by PLACE
  have C : ∀ k, k ≤ (W 0).toNat → ∀ (z3 z4 z6 : Option am_V) (K : Nat → Nat → Int), (∀ a, ¬ (a = 126 ∨ 143 ≤ a ∧ a ≤ 150) → K a = I a) → (∀ j, (j < 58 ∨ 2059 ≤ j) → K 126 j = W j) → (∀ p, p < (W 0).toNat → ckQ (K 143) (K 144) (ckNw W r t S).1 p) → ckH W S.1 (I 147) (I 147) (ckNw W r t S).1 (W 0).toNat t (K 145) (K 147) → (∀ p, p < k → ckQ (K 149) (K 150) (ckNw W r t S).1 p) → (∀ p, k ≤ p → p < (W 0).toNat → ckQ (K 149) (K 150) S.2.1 p) → (∀ p, p < k → (ckNw W r t S).1 p ≠ -1 → K 146 p = ((ckFr W r t S k).2.2.1 p : Int)) → (∀ p, k ≤ p → p < (W 0).toNat → S.2.1 p ≠ -1 → K 146 p = ((ckFr W r t S k).2.2.1 p : Int)) → rf (pw (K 126)) (ckFr W r t S k).2.2.2 → am_wp (d + 4) 277 169 [some (.inr (.inr (124))), some (.inl (r)), some (.inl ((t : Int))), z3, z4, some (.inl ((k : Int))), z6] [] (m, sl, sh, K, R) Q := by
    refine am_lp (W 0).toNat (fun k hkP ih z3 z4 z6 K k1 k2 k3 k4 k5 k6 k7 k8 k9 => ?_)
    have e0 : K 126 0 = ((W 0).toNat : Int) := by rw [k2 0 (by omega)]; omega
    refine am_wp_go rfl (by simp (disch := omega) only [s124 hw, r124_14 hw, s126 hw, e0, Int.reduceToNat, am_addE, am_subE, am_mulE, am_laddE, am_lsubE, am_upO, am_upS, am_stS, am_stO, am_tnn, am_brl, am_brg, am_bre, am_brn, am_brG, am_brL, am_st1, am_no2, am_st2, am_clr, and_self, true_and, and_true, true_or, or_true, List.length_cons, List.length_nil] <;> omega) ?_
    try simp (disch := omega) only [s124 hw, r124_14 hw, s126 hw, e0, Int.reduceToNat, am_addE, am_subE, am_mulE, am_laddE, am_lsubE, am_upO, am_upS, am_stS, am_stO, am_tnn, am_brl, am_brg, am_bre, am_brn, am_brG, am_brL, am_st1, am_no2, am_st2, am_clr]
    refine am_wp_br (fun b177 => ?_) (fun b177 => ?_)
    · have : k = (W 0).toNat := by omega
      subst this
      refine am_wp_ret rfl rfl ?_
      refine h K k1 ⟨fun i hi => ?_, fun p hp => k5 p hp, fun p hp hn => k7 p hp hn, fun s hs => ⟨fun a1 => ?_, fun a1 a2 => ?_⟩, k2, k9⟩
      · rcases ckMin_l (r := r) hk hI i with ⟨x1, x2⟩ | ⟨x1, x2⟩
        · rw [x2]; exact ((k4 i hi).1 x1).1
        · obtain ⟨p, hp, hx⟩ := x1
          have z := ((k4 i hi).2 ⟨p, hp, hx⟩).1
          rcases JJ.1 p hp with y | ⟨i2, y1, y2, y3, y4, y5⟩
          · omega
          · have : i2 = i := by omega
            subst this
            rw [x2]; omega
      · rcases ckMin_l (r := r) hk hI (2 * s + 1) with ⟨x1, x2⟩ | ⟨⟨p, hp, x1⟩, x2⟩
        · rw [((k4 (2 * s + 1) (by omega)).1 x1).2]
          exact (c4 s hs).1 (by rw [← x2]; exact a1)
        · have := hI.1 (2 * s + 1) (by omega)
          have := nd (2 * s + 1) (by omega)
          omega
      · rcases ckMin_l (r := r) hk hI (2 * s + 1) with ⟨x1, x2⟩ | ⟨⟨p, hp, x1⟩, x2⟩
        · rcases ckMin_l (r := r) hk hI (2 * s) with ⟨y1, y2⟩ | ⟨⟨p, hp, y1⟩, y2⟩
          · have ff : (ckMin W r t S).2.2.1 s = S.2.2.1 s := ckR_f1 _ (ckJ_W JJ) (fun p hp i hi he => by
              rcases (show i = 2 * s ∨ i = 2 * s + 1 by omega) with e | e
              · subst e; exact y1 p hp hi
              · subst e; exact x1 p hp hi)
            rw [((k4 (2 * s) (by omega)).1 y1).2, ff]
            exact (c4 s hs).2 (by omega) (by omega)
          · have ff : (ckMin W r t S).2.2.1 s = t + 1 := ckR_f2 _ (ckJ_W JJ) ⟨p, 2 * s, hp, y1, by omega⟩
            rw [((k4 (2 * s) (by omega)).2 ⟨p, hp, y1⟩).2, ff]
            omega
        · have := hI.1 (2 * s + 1) (by omega)
          have := nd (2 * s + 1) (by omega)
          omega
    · have hkP2 : k < (W 0).toNat := by omega
      have KS := ckK_s (r := r) hk hI ht hkP2 (ckK_all hk hI ht k hkP)
      have KA := ckK_all (r := r) hk hI ht k hkP
      have ih := ih hkP2
      have q1 := k3 k hkP2
      have q2 := k6 k (Nat.le_refl _) hkP2
      have gk : gok (ckFr W r t S k).2.2.2 := ⟨by have := KA.2.2.2.1; omega, fun j hj => (gs_all KA.2.2.1 hj).1⟩
      clear h
      refine am_wp_go rfl (by simp (disch := omega) only [s124 hw, r124_14 hw, s126 hw, e0, Int.reduceToNat, am_addE, am_subE, am_mulE, am_laddE, am_lsubE, am_upO, am_upS, am_stS, am_stO, am_tnn, am_brl, am_brg, am_bre, am_brn, am_brG, am_brL, am_st1, am_no2, am_st2, am_clr, and_self, true_and, and_true, true_or, or_true, List.length_cons, List.length_nil] <;> omega) ?_
      try simp (disch := omega) only [s124 hw, r124_14 hw, s126 hw, e0, Int.reduceToNat, am_addE, am_subE, am_mulE, am_laddE, am_lsubE, am_upO, am_upS, am_stS, am_stO, am_tnn, am_brl, am_brg, am_bre, am_brn, am_brG, am_brL, am_st1, am_no2, am_st2, am_clr]
      rcases JJ.1 k hkP2 with z | ⟨i, i1, i2, i3, i4, i5⟩
      · have e : ckFr W r t S (k + 1) = ckFr W r t S k := ckR_n z
        rw [e] at ih
        refine am_wp_cc rfl rfl rfl (congrArg Prod.fst (s124 hw)) (w_M_tells0 (p := k) (t := t) hw (by omega) (q1.1 z) (fun X x1 x2 x3 => ⟨_, rfl, ?_⟩))
        refine am_wp_go rfl (by simp (disch := omega) only [s124 hw, r124_14 hw, s126 hw, e0, Int.reduceToNat, am_addE, am_subE, am_mulE, am_laddE, am_lsubE, am_upO, am_upS, am_stS, am_stO, am_tnn, am_brl, am_brg, am_bre, am_brn, am_brG, am_brL, am_st1, am_no2, am_st2, am_clr, and_self, true_and, and_true, true_or, or_true, List.length_cons, List.length_nil] <;> omega) ?_
        try simp (disch := omega) only [s124 hw, r124_14 hw, s126 hw, e0, Int.reduceToNat, am_addE, am_subE, am_mulE, am_laddE, am_lsubE, am_upO, am_upS, am_stS, am_stO, am_tnn, am_brl, am_brg, am_bre, am_brn, am_brG, am_brL, am_st1, am_no2, am_st2, am_clr]
        refine am_wp_ls (ih _ _ _ X (fun a ha => by rw [x1 a (by omega) (by omega), k1 a ha]) (by rw [x1 126 (by decide) (by decide)]; exact k2) (by rw [x1 143 (by decide) (by decide), x1 144 (by decide) (by decide)]; exact k3) (by rw [x1 145 (by decide) (by decide), x1 147 (by decide) (by decide)]; exact k4) (fun p hp => ?_) (fun p hp hp2 => ?_) (fun p hp hn => ?_) (fun p hp hp2 hn => ?_) (by rw [x1 126 (by decide) (by decide)]; exact k9)) rfl
        · by_cases hpk : p = k
          · refine ⟨fun _ => by rw [x2, am_stS hpk], fun j hj => by rw [hpk, z] at hj; omega⟩
          · have := k5 p (by omega)
            unfold ckQ at this ⊢
            rw [x2, x3, am_stO hpk, am_stO hpk]; exact this
        · have := k6 p (by omega) hp2
          unfold ckQ at this ⊢
          rw [x2, x3, am_stO (by omega), am_stO (by omega)]; exact this
        · rw [x1 146 (by decide) (by decide)]
          by_cases hpk : p = k
          · rw [hpk] at hn; exact absurd z hn
          · exact k7 p (by omega) hn
        · rw [x1 146 (by decide) (by decide)]; exact k8 p (by omega) hp2 hn
      · have e : ckFr W r t S (k + 1) = ckR1 k i t (decide (S.2.1 k = (ckNw W r t S).1 k)) (ckFr W r t S k) := ckR_s i2
        obtain ⟨u2, u3, u4, u5, u6, u7⟩ := KS.2 i i2
        rw [e] at ih
        rw [i2] at ih
        obtain ⟨q3, q4⟩ := q1.2 i i2
        have sQ : ∀ X : Nat → Nat → Int, X 149 = am_set (K 149) k ((i / 2 : Nat) : Int) → X 150 = am_set (K 150) k ((i % 2 : Nat) : Int) → (∀ p, p < k + 1 → ckQ (X 149) (X 150) (ckNw W r t S).1 p) ∧ (∀ p, k + 1 ≤ p → p < (W 0).toNat → ckQ (X 149) (X 150) S.2.1 p) := fun X hx hy => by
          refine ⟨fun p hp => ?_, fun p hp hp2 => ?_⟩
          · by_cases hpk : p = k
            · refine ⟨fun hc => by rw [hpk, i2] at hc; omega, fun j hj => ?_⟩
              rw [hpk, i2] at hj
              have : i = j := by omega
              subst this
              rw [hx, hy, am_stS hpk, am_stS hpk]
              exact ⟨rfl, rfl⟩
            · have := k5 p (by omega)
              unfold ckQ at this ⊢
              rw [hx, hy, am_stO hpk, am_stO hpk]; exact this
          · have := k6 p (by omega) hp2
            unfold ckQ at this ⊢
            rw [hx, hy, am_stO (by omega), am_stO (by omega)]; exact this
        clear KS KA q1
        generalize ckFr W r t S k = T at *
        obtain ⟨Tl, Tf, Tg, TG⟩ := T
        dsimp only at *
        by_cases hb : S.2.1 k = (i : Int)
        · rw [decide_eq_true hb] at ih
          unfold ckR1 at ih
          simp only [cond_true] at ih
          obtain ⟨g1, g2⟩ := u7 hb
          obtain ⟨q5, q6⟩ := q2.2 i hb
          refine am_wp_cc rfl rfl rfl (congrArg Prod.fst (s124 hw)) (w_M_tells1 (p := k) (t := t) (i := i) (g := Tg k) hw (by omega) q3 q4 q5 q6 (k8 k (Nat.le_refl _) hkP2 (by omega)) k9 gk g1 (fun X x1 x2 x3 x4 x5 => ⟨_, rfl, ?_⟩))
          have sq := sQ X x3 x4
          refine am_wp_go rfl (by simp (disch := omega) only [s124 hw, r124_14 hw, s126 hw, e0, Int.reduceToNat, am_addE, am_subE, am_mulE, am_laddE, am_lsubE, am_upO, am_upS, am_stS, am_stO, am_tnn, am_brl, am_brg, am_bre, am_brn, am_brG, am_brL, am_st1, am_no2, am_st2, am_clr, and_self, true_and, and_true, true_or, or_true, List.length_cons, List.length_nil] <;> omega) ?_
          try simp (disch := omega) only [s124 hw, r124_14 hw, s126 hw, e0, Int.reduceToNat, am_addE, am_subE, am_mulE, am_laddE, am_lsubE, am_upO, am_upS, am_stS, am_stO, am_tnn, am_brl, am_brg, am_bre, am_brn, am_brG, am_brL, am_st1, am_no2, am_st2, am_clr]
          refine am_wp_ls (ih _ _ _ X (fun a ha => by rw [x1 a (by omega) (by omega) (by omega), k1 a ha]) (fun j hj => by rw [x2 j hj, k2 j hj]) (by rw [x1 143 (by decide) (by decide) (by decide), x1 144 (by decide) (by decide) (by decide)]; exact k3) (by rw [x1 145 (by decide) (by decide) (by decide), x1 147 (by decide) (by decide) (by decide)]; exact k4) sq.1 sq.2 (fun p hp hn => ?_) (fun p hp hp2 hn => ?_) x5) rfl
          · rw [x1 146 (by decide) (by decide) (by decide)]
            by_cases hpk : p = k
            · rw [hpk]; exact k8 k (Nat.le_refl _) hkP2 (by omega)
            · exact k7 p (by omega) hn
          · rw [x1 146 (by decide) (by decide) (by decide)]; exact k8 p (by omega) hp2 hn
        · rw [decide_eq_false hb] at ih
          unfold ckR1 at ih
          simp only [cond_false] at ih
          refine am_wp_cc rfl rfl rfl (congrArg Prod.fst (s124 hw)) (w_M_tells2 (p := k) (t := t) (i := i) (b := S.2.1) hw (by omega) q3 q4 q2 (bW k hkP2) hb k9 u5 (fun X x1 x2 x3 x4 x5 x6 => ⟨_, rfl, ?_⟩))
          have sq := sQ X x4 x5
          refine am_wp_go rfl (by simp (disch := omega) only [s124 hw, r124_14 hw, s126 hw, e0, Int.reduceToNat, am_addE, am_subE, am_mulE, am_laddE, am_lsubE, am_upO, am_upS, am_stS, am_stO, am_tnn, am_brl, am_brg, am_bre, am_brn, am_brG, am_brL, am_st1, am_no2, am_st2, am_clr, and_self, true_and, and_true, true_or, or_true, List.length_cons, List.length_nil] <;> omega) ?_
          try simp (disch := omega) only [s124 hw, r124_14 hw, s126 hw, e0, Int.reduceToNat, am_addE, am_subE, am_mulE, am_laddE, am_lsubE, am_upO, am_upS, am_stS, am_stO, am_tnn, am_brl, am_brg, am_bre, am_brn, am_brG, am_brL, am_st1, am_no2, am_st2, am_clr]
          refine am_wp_ls (ih _ _ _ X (fun a ha => by rw [x1 a (by omega) (by omega) (by omega) (by omega), k1 a ha]) (fun j hj => by rw [x2 j hj, k2 j hj]) (by rw [x1 143 (by decide) (by decide) (by decide) (by decide), x1 144 (by decide) (by decide) (by decide) (by decide)]; exact k3) (by rw [x1 145 (by decide) (by decide) (by decide) (by decide), x1 147 (by decide) (by decide) (by decide) (by decide)]; exact k4) sq.1 sq.2 (fun p hp hn => ?_) (fun p hp hp2 hn => ?_) x6) rfl
          · rw [x3]
            by_cases hpk : p = k
            · rw [am_stS hpk, am_stS hpk]
            · rw [am_stO hpk, am_stO hpk]; exact k7 p (by omega) hn
          · rw [x3, am_stO (by omega), am_stO (by omega)]; exact k8 p (by omega) hp2 hn
  have CC : ∀ (z3 z4 z6 : Option am_V) (K : Nat → Nat → Int), (∀ a, ¬ (143 ≤ a ∧ a ≤ 147 ∧ a ≠ 146) → K a = I a) → (∀ p, p < (W 0).toNat → ckQ (K 143) (K 144) (ckNw W r t S).1 p) → ckH W S.1 (I 147) (I 147) (ckNw W r t S).1 (W 0).toNat t (K 145) (K 147) → am_wp (d + 4) 277 169 [some (.inr (.inr (124))), some (.inl (r)), some (.inl ((t : Int))), z3, z4, some (.inl (0)), z6] [] (m, sl, sh, K, R) Q := fun z3 z4 z6 K k1 k2 k3 => by
    refine am_wp_ls (C 0 (by omega) z3 z4 z6 K (fun a ha => k1 a (by omega)) (by rw [k1 126 (by omega)]; exact c5) k2 k3 (fun p hp => absurd hp (Nat.not_lt_zero p)) (by rw [k1 149 (by omega), k1 150 (by omega)]; exact fun p _ hp => c2 p hp) (fun p hp => absurd hp (Nat.not_lt_zero p)) (by rw [k1 146 (by omega)]; exact fun p _ hp hn => c3 p hp hn) (by rw [k1 126 (by omega)]; exact c6)) rfl
  clear C h
  -- on free PLACES
  have B : ∀ c, ∀ (z5 z6 : Option am_V) (K : Nat → Nat → Int) (T : PS), (∀ a, ¬ (143 ≤ a ∧ a ≤ 147 ∧ a ≠ 146) → K a = I a) → ckC T.1 (W 0).toNat = c → (∀ p, p < (W 0).toNat → ckQ (K 143) (K 144) T.1 p) → ckH W S.1 (I 147) (I 147) T.1 (W 0).toNat t (K 145) (K 147) → ckJ W S.1 T → ckPut W r S.1 S.2.2.1 S.2.1 t c T = ckNw W r t S → am_wp (d + 4) 277 111 [some (.inr (.inr (124))), some (.inl (r)), some (.inl ((t : Int))), some (.inl ((T.2 : Int))), some (.inl ((c : Int))), z5, z6] [] (m, sl, sh, K, R) Q := by
    intro c
    induction c with
    | zero =>
      intro z5 z6 K T k1 k2 k3 k4 k5 k6
      have k6 : T = ckNw W r t S := k6
      rw [k6] at k3 k4
      refine am_wp_go rfl (by simp (disch := omega) only [Int.reduceToNat, am_addE, am_subE, am_mulE, am_laddE, am_lsubE, am_upO, am_upS, am_stS, am_stO, am_tnn, am_brl, am_brg, am_bre, am_brn, am_brG, am_brL, am_st1, am_no2, am_st2, am_clr, and_self, true_and, and_true, true_or, or_true, List.length_cons, List.length_nil] <;> omega) ?_
      refine am_wp_pc (pc' := 166) rfl ?_
      refine am_wp_go rfl (by simp (disch := omega) only [Int.reduceToNat, am_addE, am_subE, am_mulE, am_laddE, am_lsubE, am_upO, am_upS, am_stS, am_stO, am_tnn, am_brl, am_brg, am_bre, am_brn, am_brG, am_brL, am_st1, am_no2, am_st2, am_clr, and_self, true_and, and_true, true_or, or_true, List.length_cons, List.length_nil] <;> omega) ?_
      try simp (disch := omega) only [Int.reduceToNat, am_addE, am_subE, am_mulE, am_laddE, am_lsubE, am_upO, am_upS, am_stS, am_stO, am_tnn, am_brl, am_brg, am_bre, am_brn, am_brG, am_brL, am_st1, am_no2, am_st2, am_clr]
      exact am_wp_ls (CC _ _ _ K k1 k3 k4) rfl
    | succ c ih =>
      intro z5 z6 K T k1 k2 k3 k4 k5 k6
      have hv : ∀ j, j < 58 → K 126 j = W j := fun j hj => by rw [k1 126 (by omega)]; exact c5 j (by omega)
      have cl : ckC T.1 (W 0).toNat ≤ (W 0).toNat := ax_ct_le _ _
      have hof : ∀ s, s < nS W → T.2.testBit s = false → ∀ i : Nat, i / 2 = s → i < 2 * nS W → K 145 i = (S.1 i : Int) ∧ K 147 i = I 147 i := fun s hs hb i hi hi2 => by
        refine (k4 i hi2).1 (fun p hp hx => ?_)
        rcases k5.1 p hp with y | ⟨i2, y1, y2, y3, y4, y5⟩
        · omega
        · rw [show i2 = i by omega, hi, hb] at y5
          cases y5
      have nF : ckF T.1 (W 0).toNat ≠ -1 := fun hc => by have := ckC_n hc; omega
      rw [ckPut_s] at k6
      refine am_wp_go rfl (by simp (disch := omega) only [Int.reduceToNat, am_addE, am_subE, am_mulE, am_laddE, am_lsubE, am_upO, am_upS, am_stS, am_stO, am_tnn, am_brl, am_brg, am_bre, am_brn, am_brG, am_brL, am_st1, am_no2, am_st2, am_clr, and_self, true_and, and_true, true_or, or_true, List.length_cons, List.length_nil] <;> omega) ?_
      try simp (disch := omega) only [Int.reduceToNat, am_addE, am_subE, am_mulE, am_laddE, am_lsubE, am_upO, am_upS, am_stS, am_stO, am_tnn, am_brl, am_brg, am_bre, am_brn, am_brG, am_brL, am_st1, am_no2, am_st2, am_clr]
      refine am_wp_br (fun b113 => ?_) (fun b113 => ?_)
      · omega
      · refine am_wp_go rfl (by simp (disch := omega) only [Int.reduceToNat, am_addE, am_subE, am_mulE, am_laddE, am_lsubE, am_upO, am_upS, am_stS, am_stO, am_tnn, am_brl, am_brg, am_bre, am_brn, am_brG, am_brL, am_st1, am_no2, am_st2, am_clr, and_self, true_and, and_true, true_or, or_true, List.length_cons, List.length_nil] <;> omega) ?_
        try simp (disch := omega) only [Int.reduceToNat, am_addE, am_subE, am_mulE, am_laddE, am_lsubE, am_upO, am_upS, am_stS, am_stO, am_tnn, am_brl, am_brg, am_bre, am_brn, am_brG, am_brL, am_st1, am_no2, am_st2, am_clr]
        refine am_wp_cc rfl rfl rfl (congrArg Prod.fst (s124 hw)) (w_M_takesCook (r := r) (l := S.1) (f := S.2.2.1) (t := t) (on := T.2) hw hk hv hr (fun s hs hb => ⟨(hof s hs hb _ (by omega) (by omega)).1, (hof s hs hb _ (by omega) (by omega)).1⟩) hI.1 hI.2.1 (fun s hs hb hx => by rw [(hof s hs hb _ (by omega) (by omega)).2]; exact (c4 s hs).1 hx) (fun s hs hb hx hy => by rw [(hof s hs hb _ (by omega) (by omega)).2]; exact (c4 s hs).2 hx hy) (fun s hs => by have := hf s hs; omega) (by omega) k5.2.2.1 ⟨_, rfl, ?_⟩)
        refine am_wp_go rfl (by simp (disch := omega) only [Int.reduceToNat, am_addE, am_subE, am_mulE, am_laddE, am_lsubE, am_upO, am_upS, am_stS, am_stO, am_tnn, am_brl, am_brg, am_bre, am_brn, am_brG, am_brL, am_st1, am_no2, am_st2, am_clr, and_self, true_and, and_true, true_or, or_true, List.length_cons, List.length_nil] <;> omega) ?_
        try simp (disch := omega) only [Int.reduceToNat, am_addE, am_subE, am_mulE, am_laddE, am_lsubE, am_upO, am_upS, am_stS, am_stO, am_tnn, am_brl, am_brg, am_bre, am_brn, am_brG, am_brL, am_st1, am_no2, am_st2, am_clr]
        refine am_wp_br (fun b128 => ?_) (fun b128 => ?_)
        · have ne : ¬ (ckF T.1 (W 0).toNat = -1 ∨ ckB W r S.1 S.2.2.1 t T.2 (nS W) = -1) := fun hc => by rcases hc with hc | hc; exact nF hc; exact b128 hc
          rw [if_neg ne] at k6
          have J2 := ckT_J (b := S.2.1) hk hI.2.1 k5 ne
          obtain ⟨s, q, t1, t2, t3, t4, t5, t6, t7⟩ := ckT_v (b := S.2.1) ne
          rw [t7] at k6 J2
          rw [t1]
          have p8 := ax_p8 (s := s) (by omega)
          have hb := (ckM_t.mp t3).1
          have x1 := (hof s t2 hb (2 * s) (by omega) (by omega)).1
          have x2 := (hof s t2 hb (2 * s + 1) (by omega) (by omega)).1
          obtain ⟨u1, u2, u3⟩ := ckS_v (l := S.1) (s := s)
          have x3 := (hof s t2 hb (ckS S.1 s) (by omega) (by omega)).1
          have x4 : S.1 (ckS S.1 s) ≤ 20 := by have := hI.1 (ckS S.1 s) (by omega); have := nd (ckS S.1 s) (by omega); omega
          have x5 : 0 < S.1 (ckS S.1 s) := by
            have := (ckM_t.mp t3).2.1
            unfold ckS
            split
            · assumption
            · omega
          have hno : ∀ p, p < (W 0).toNat → T.1 p ≠ (ckS S.1 s : Int) := fun p hp hx => by
            rcases k5.1 p hp with y | ⟨i2, y1, y2, y3, y4, y5⟩
            · omega
            · rw [show i2 = ckS S.1 s by omega, u1, hb] at y5
              cases y5
          have o7 := k5.2.2.1
          refine am_wp_go rfl (by simp (disch := omega) only [Int.reduceToNat, am_addE, am_subE, am_mulE, am_laddE, am_lsubE, am_upO, am_upS, am_stS, am_stO, am_tnn, am_brl, am_brg, am_bre, am_brn, am_brG, am_brL, am_st1, am_no2, am_st2, am_clr, and_self, true_and, and_true, true_or, or_true, List.length_cons, List.length_nil] <;> omega) ?_
          try simp (disch := omega) only [Int.reduceToNat, am_addE, am_subE, am_mulE, am_laddE, am_lsubE, am_upO, am_upS, am_stS, am_stO, am_tnn, am_brl, am_brg, am_bre, am_brn, am_brG, am_brL, am_st1, am_no2, am_st2, am_clr]
          refine am_wp_cc rfl rfl rfl (congrArg Prod.fst (s124 hw)) (w_M_sideOf (l := S.1) hw hk hv t2 x1 x2 (hI.2.1 s t2) ⟨_, rfl, ?_⟩)
          refine am_wp_go rfl (by simp (disch := omega) only [Int.reduceToNat, am_addE, am_subE, am_mulE, am_laddE, am_lsubE, am_upO, am_upS, am_stS, am_stO, am_tnn, am_brl, am_brg, am_bre, am_brn, am_brG, am_brL, am_st1, am_no2, am_st2, am_clr, and_self, true_and, and_true, true_or, or_true, List.length_cons, List.length_nil] <;> omega) ?_
          try simp (disch := omega) only [Int.reduceToNat, am_addE, am_subE, am_mulE, am_laddE, am_lsubE, am_upO, am_upS, am_stS, am_stO, am_tnn, am_brl, am_brg, am_bre, am_brn, am_brG, am_brL, am_st1, am_no2, am_st2, am_clr]
          refine am_wp_cc rfl rfl rfl (congrArg Prod.fst (s124 hw)) (w_M_placeFor (l := S.1) (b := S.2.1) (nw := T.1) hw hk hv t2 x1 x2 (hI.2.1 s t2) bW (ckJ_W k5) (by rw [k1 149 (by omega), k1 150 (by omega)]; exact c2) k3 ⟨_, rfl, ?_⟩)
          rw [t4]
          refine am_wp_go rfl (by simp (disch := omega) only [Int.reduceToNat, am_addE, am_subE, am_mulE, am_laddE, am_lsubE, am_upO, am_upS, am_stS, am_stO, am_tnn, am_brl, am_brg, am_bre, am_brn, am_brG, am_brL, am_st1, am_no2, am_st2, am_clr, and_self, true_and, and_true, true_or, or_true, List.length_cons, List.length_nil] <;> omega) ?_
          try simp (disch := omega) only [Int.reduceToNat, am_addE, am_subE, am_mulE, am_laddE, am_lsubE, am_upO, am_upS, am_stS, am_stO, am_tnn, am_brl, am_brg, am_bre, am_brn, am_brG, am_brL, am_st1, am_no2, am_st2, am_clr]
          refine am_wp_cc rfl rfl rfl (congrArg Prod.fst (s124 hw)) (w_M_isOn (i := ckS S.1 s) (p := q) (t := t) (x := (S.1 (ckS S.1 s) : Int)) hw (by omega) (by omega) (by rw [u1]) rfl x3 (by omega) (fun X y => ⟨_, rfl, ?_⟩))
          obtain ⟨y1, y2, y3, y4, y5⟩ := y
          have cs := ckC_set (i := ckS S.1 s) t5 t6
          refine am_wp_go rfl (by simp (disch := omega) only [am_shl1, am_orN, am_addE, am_subE, am_mulE, am_laddE, am_lsubE, am_upO, am_upS, am_stS, am_stO, am_tnn, am_brl, am_brg, am_bre, am_brn, am_brG, am_brL, am_st1, am_no2, am_st2, am_clr, and_self, true_and, and_true, true_or, or_true, List.length_cons, List.length_nil] <;> omega) ?_
          try simp (disch := omega) only [am_shl1, am_orN, am_addE, am_subE, am_mulE, am_laddE, am_lsubE, am_upO, am_upS, am_stS, am_stO, am_tnn, am_brl, am_brg, am_bre, am_brn, am_brG, am_brL, am_st1, am_no2, am_st2, am_clr]
          refine am_wp_ls (ih (some (.inl (s : Int))) z6 X _ (fun a ha => by rw [y1 a (by omega) (by omega) (by omega) (by omega), k1 a ha]) (by dsimp only; omega) (fun p hp => ?_) ?_ J2 k6) ?_
          · dsimp only
            rw [y2, y3]
            exact ckQ_set (fun _ => k3 p hp)
          · dsimp only
            exact ckH_set (by omega) x5 k4 t5 t6 hno (by rw [y4, x3]) y5
          · simp only [List.cons.injEq, Option.some.injEq, Sum.inl.injEq, and_true, true_and]
            omega
        · have k6 : T = ckNw W r t S := by rw [if_pos (Or.inr (by omega))] at k6; exact k6
          rw [k6] at k3 k4
          refine am_wp_go rfl (by simp (disch := omega) only [Int.reduceToNat, am_addE, am_subE, am_mulE, am_laddE, am_lsubE, am_upO, am_upS, am_stS, am_stO, am_tnn, am_brl, am_brg, am_bre, am_brn, am_brG, am_brL, am_st1, am_no2, am_st2, am_clr, and_self, true_and, and_true, true_or, or_true, List.length_cons, List.length_nil] <;> omega) ?_
          try simp (disch := omega) only [Int.reduceToNat, am_addE, am_subE, am_mulE, am_laddE, am_lsubE, am_upO, am_upS, am_stS, am_stO, am_tnn, am_brl, am_brg, am_bre, am_brn, am_brG, am_brL, am_st1, am_no2, am_st2, am_clr]
          exact am_wp_ls (CC _ _ _ K k1 k3 k4) rfl
  clear CC
  -- what stays
  have A : ∀ k, k ≤ (W 0).toNat → ∀ (z6 : Option am_V) (c : Nat) (K : Nat → Nat → Int), (∀ a, ¬ (143 ≤ a ∧ a ≤ 147 ∧ a ≠ 146) → K a = I a) → c + k = (W 0).toNat + ckC (ckY W S.1 S.2.1) k → ckO (ckY W S.1 S.2.1) k < 256 → (∀ p, p < k → ckQ (K 143) (K 144) (ckY W S.1 S.2.1) p) → ckH W S.1 (I 147) (I 147) (ckY W S.1 S.2.1) k t (K 145) (K 147) → am_wp (d + 4) 277 13 [some (.inr (.inr (124))), some (.inl (r)), some (.inl ((t : Int))), some (.inl ((ckO (ckY W S.1 S.2.1) k : Int))), some (.inl ((c : Int))), some (.inl ((k : Int))), z6] [] (m, sl, sh, K, R) Q := by
    refine am_lp (W 0).toNat (fun k hkP ih z6 c K k1 k2 k3 k4 k5 => ?_)
    have e0 : K 126 0 = ((W 0).toNat : Int) := by rw [k1 126 (by omega)]; exact e0
    have ckle : ckC (ckY W S.1 S.2.1) k ≤ k := ax_ct_le _ _
    refine am_wp_go rfl (by simp (disch := omega) only [s124 hw, r124_14 hw, s126 hw, e0, Int.reduceToNat, am_addE, am_subE, am_mulE, am_laddE, am_lsubE, am_upO, am_upS, am_stS, am_stO, am_tnn, am_brl, am_brg, am_bre, am_brn, am_brG, am_brL, am_st1, am_no2, am_st2, am_clr, and_self, true_and, and_true, true_or, or_true, List.length_cons, List.length_nil] <;> omega) ?_
    try simp (disch := omega) only [s124 hw, r124_14 hw, s126 hw, e0, Int.reduceToNat, am_addE, am_subE, am_mulE, am_laddE, am_lsubE, am_upO, am_upS, am_stS, am_stO, am_tnn, am_brl, am_brg, am_bre, am_brn, am_brG, am_brL, am_st1, am_no2, am_st2, am_clr]
    refine am_wp_br (fun b21 => ?_) (fun b21 => ?_)
    · have : k = (W 0).toNat := by omega
      subst this
      refine am_wp_ls (B c _ _ K (ck0 W S.1 S.2.1) k1 (by show ckC (ckY W S.1 S.2.1) (W 0).toNat = c; omega) k4 k5 J0 ?_) rfl
      have : ckC (ck0 W S.1 S.2.1).1 (W 0).toNat = c := by show ckC (ckY W S.1 S.2.1) (W 0).toNat = c; omega
      unfold ckNw
      have := ckPut_more (W := W) (r := r) (l := S.1) (f := S.2.2.1) (b := S.2.1) (t := t) (S := ck0 W S.1 S.2.1) (c := c) (by omega) ((W 0).toNat - c)
      rw [← this]
      congr 1
      omega
    · have hkP2 : k < (W 0).toNat := by omega
      have ih := ih hkP2
      clear B
      have eO : ckO (ckY W S.1 S.2.1) (k + 1) = ckO (ckY W S.1 S.2.1) k ||| (if ckY W S.1 S.2.1 k = -1 then 0 else 2 ^ ((ckY W S.1 S.2.1 k).toNat / 2)) := rfl
      have eC : ckC (ckY W S.1 S.2.1) (k + 1) = bif decide (ckY W S.1 S.2.1 k = -1) then ckC (ckY W S.1 S.2.1) k + 1 else ckC (ckY W S.1 S.2.1) k := rfl
      have q := c2 k hkP2
      have NO : ckY W S.1 S.2.1 k = -1 → ∀ z6 : Option am_V, am_wp (d + 4) 277 13 [some (.inr (.inr (124))), some (.inl (r)), some (.inl ((t : Int))), some (.inl ((ckO (ckY W S.1 S.2.1) k : Int))), some (.inl ((c : Int))), some (.inl (((k + 1 : Nat) : Int))), z6] [] (m, sl, sh, am_up K 143 k (-1), R) Q := fun hy z6 => by
        rw [if_pos hy, Nat.or_zero] at eO
        rw [decide_eq_true hy, cond_true] at eC
        rw [eO] at ih
        refine ih z6 c _ (fun a ha => by rw [am_upO (by omega), k1 a ha]) (by omega) k3 (fun p hp => ?_) ?_
        · rw [am_upS, am_upO (by decide)]
          by_cases hpk : p = k
          · exact ⟨fun _ => am_stS hpk, fun j hj => by rw [hpk, hy] at hj; omega⟩
          · have := k4 p (by omega)
            unfold ckQ at this ⊢
            rw [am_stO hpk]; exact this
        · rw [am_upO (by decide), am_upO (by decide)]
          intro i hi
          refine ⟨fun hc => (k5 i hi).1 (fun p hp => hc p (by omega)), fun hc => (k5 i hi).2 ?_⟩
          obtain ⟨p, hp, hx⟩ := hc
          refine ⟨p, ?_, hx⟩
          by_cases hpk : p = k
          · rw [hpk, hy] at hx; omega
          · omega
      rcases hI.2.2.1 k hkP2 with z | ⟨i, i1, i2, i3⟩
      · have e149 : K 149 k = -1 := by rw [k1 149 (by omega)]; exact q.1 z
        refine am_wp_go rfl (by simp (disch := omega) only [s124 hw, r124_14 hw, s126 hw, r124_37 hw, s143 hw, r124_44 hw, s149 hw, e0, e149, Int.reduceToNat, am_addE, am_subE, am_mulE, am_laddE, am_lsubE, am_upO, am_upS, am_stS, am_stO, am_tnn, am_brl, am_brg, am_bre, am_brn, am_brG, am_brL, am_st1, am_no2, am_st2, am_clr, and_self, true_and, and_true, true_or, or_true, List.length_cons, List.length_nil] <;> omega) ?_
        try simp (disch := omega) only [s124 hw, r124_14 hw, s126 hw, r124_37 hw, s143 hw, r124_44 hw, s149 hw, e0, e149, Int.reduceToNat, am_addE, am_subE, am_mulE, am_laddE, am_lsubE, am_upO, am_upS, am_stS, am_stO, am_tnn, am_brl, am_brg, am_bre, am_brn, am_brG, am_brL, am_st1, am_no2, am_st2, am_clr]
        refine am_wp_br (fun b44 => ?_) (fun b44 => ?_)
        · refine am_wp_go rfl (by simp (disch := omega) only [s124 hw, r124_14 hw, s126 hw, r124_37 hw, s143 hw, r124_44 hw, s149 hw, e0, e149, Int.reduceToNat, am_addE, am_subE, am_mulE, am_laddE, am_lsubE, am_upO, am_upS, am_stS, am_stO, am_tnn, am_brl, am_brg, am_bre, am_brn, am_brG, am_brL, am_st1, am_no2, am_st2, am_clr, and_self, true_and, and_true, true_or, or_true, List.length_cons, List.length_nil] <;> omega) ?_
          try simp (disch := omega) only [s124 hw, r124_14 hw, s126 hw, r124_37 hw, s143 hw, r124_44 hw, s149 hw, e0, e149, Int.reduceToNat, am_addE, am_subE, am_mulE, am_laddE, am_lsubE, am_upO, am_upS, am_stS, am_stO, am_tnn, am_brl, am_brg, am_bre, am_brn, am_brG, am_brL, am_st1, am_no2, am_st2, am_clr]
          exact am_wp_ls (NO (by unfold ckY; rw [if_neg (fun hc => hc.1 z)]) _) rfl
        · first | omega | exact absurd trivial b44 | exact absurd rfl b44
      · obtain ⟨q3, q4⟩ := q.2 i i2
        have e149 : K 149 k = ((i / 2 : Nat) : Int) := by rw [k1 149 (by omega)]; exact q3
        have e150 : K 150 k = ((i % 2 : Nat) : Int) := by rw [k1 150 (by omega)]; exact q4
        have hno : ∀ p, p < k → ckY W S.1 S.2.1 p ≠ (i : Int) := fun p hp hx => by
          unfold ckY at hx
          split at hx
          · exact hI.2.2.2.1 p k (by omega) hkP2 (by omega) i i hx i2 rfl
          · omega
        have e145 := ((k5 i i1).1 hno).1
        have ey : ckY W S.1 S.2.1 k = if 0 < S.1 i ∧ W (8 + 3 * (i / 2) + 2) = 1 then (i : Int) else -1 := by
          unfold ckY
          rw [i2, am_tnn]
          by_cases hc : 0 < S.1 i ∧ W (8 + 3 * (i / 2) + 2) = 1
          · rw [if_pos hc, if_pos ⟨by omega, hc⟩]
          · rw [if_neg hc, if_neg (fun hx => hc hx.2)]
        have q5 : (2 : Int) * ((i / 2 : Nat) : Int) + ((i % 2 : Nat) : Int) = (i : Int) := by omega
        have l20 : S.1 i ≤ 20 := by have := hI.1 i i1; have := nd i i1; omega
        have on1 : K 126 (8 + 3 * (i / 2) + 2) = W (8 + 3 * (i / 2) + 2) := by rw [k1 126 (by omega)]; exact c5 _ (by omega)
        have on2 := hk.2.1 (i / 2) (by omega)
        have e145' : am_up K 143 k (-1) 145 i = (S.1 i : Int) := by rw [am_upO (by decide)]; exact e145
        have e150' : am_up K 143 k (-1) 150 k = ((i % 2 : Nat) : Int) := by rw [am_upO (by decide)]; exact e150
        refine am_wp_go rfl (by simp (disch := omega) only [s124 hw, r124_14 hw, s126 hw, r124_37 hw, s143 hw, r124_44 hw, s149 hw, r124_45 hw, s150 hw, r124_39 hw, s145 hw, e0, e149, am_b0, Int.reduceToNat, am_addE, am_subE, am_mulE, am_laddE, am_lsubE, am_upO, am_upS, am_stS, am_stO, am_tnn, am_brl, am_brg, am_bre, am_brn, am_brG, am_brL, am_st1, am_no2, am_st2, am_clr, and_self, true_and, and_true, true_or, or_true, List.length_cons, List.length_nil] <;> omega) ?_
        try simp (disch := omega) only [s124 hw, r124_14 hw, s126 hw, r124_37 hw, s143 hw, r124_44 hw, s149 hw, r124_45 hw, s150 hw, r124_39 hw, s145 hw, e0, e149, am_b0, Int.reduceToNat, am_addE, am_subE, am_mulE, am_laddE, am_lsubE, am_upO, am_upS, am_stS, am_stO, am_tnn, am_brl, am_brg, am_bre, am_brn, am_brG, am_brL, am_st1, am_no2, am_st2, am_clr]
        refine am_wp_br (fun b44 => ?_) (fun b44 => ?_)
        · omega
        · refine am_wp_go rfl (by simp (disch := omega) only [s124 hw, r124_14 hw, s126 hw, r124_37 hw, s143 hw, r124_44 hw, s149 hw, r124_45 hw, s150 hw, r124_39 hw, s145 hw, e0, e149, am_b0, Int.reduceToNat, am_addE, am_subE, am_mulE, am_laddE, am_lsubE, am_upO, am_upS, am_stS, am_stO, am_tnn, am_brl, am_brg, am_bre, am_brn, am_brG, am_brL, am_st1, am_no2, am_st2, am_clr, and_self, true_and, and_true, true_or, or_true, List.length_cons, List.length_nil] <;> omega) ?_
          try simp (disch := omega) only [s124 hw, r124_14 hw, s126 hw, r124_37 hw, s143 hw, r124_44 hw, s149 hw, r124_45 hw, s150 hw, r124_39 hw, s145 hw, e0, e149, am_b0, Int.reduceToNat, am_addE, am_subE, am_mulE, am_laddE, am_lsubE, am_upO, am_upS, am_stS, am_stO, am_tnn, am_brl, am_brg, am_bre, am_brn, am_brG, am_brL, am_st1, am_no2, am_st2, am_clr]
          refine am_wp_cc rfl rfl rfl (congrArg Prod.fst (s124 hw)) (w_M_isOnce (s := i / 2) hw (by omega) ⟨_, rfl, ?_⟩)
          rw [am_upO (show (126 : Nat) ≠ 143 by decide), on1]
          refine am_wp_go rfl (by simp (disch := omega) only [s124 hw, r124_14 hw, s126 hw, r124_37 hw, s143 hw, r124_44 hw, s149 hw, r124_45 hw, s150 hw, r124_39 hw, s145 hw, e0, e149, am_b0, Int.reduceToNat, am_addE, am_subE, am_mulE, am_laddE, am_lsubE, am_upO, am_upS, am_stS, am_stO, am_tnn, am_brl, am_brg, am_bre, am_brn, am_brG, am_brL, am_st1, am_no2, am_st2, am_clr, and_self, true_and, and_true, true_or, or_true, List.length_cons, List.length_nil] <;> omega) ?_
          try simp (disch := omega) only [s124 hw, r124_14 hw, s126 hw, r124_37 hw, s143 hw, r124_44 hw, s149 hw, r124_45 hw, s150 hw, r124_39 hw, s145 hw, e0, e149, am_b0, Int.reduceToNat, am_addE, am_subE, am_mulE, am_laddE, am_lsubE, am_upO, am_upS, am_stS, am_stO, am_tnn, am_brl, am_brg, am_bre, am_brn, am_brG, am_brL, am_st1, am_no2, am_st2, am_clr]
          refine am_wp_br (fun b53 => ?_) (fun b53 => ?_)
          · refine am_wp_go rfl (by simp (disch := omega) only [s124 hw, r124_14 hw, s126 hw, r124_37 hw, s143 hw, r124_44 hw, s149 hw, r124_45 hw, s150 hw, r124_39 hw, s145 hw, e0, e149, am_b0, Int.reduceToNat, am_addE, am_subE, am_mulE, am_laddE, am_lsubE, am_upO, am_upS, am_stS, am_stO, am_tnn, am_brl, am_brg, am_bre, am_brn, am_brG, am_brL, am_st1, am_no2, am_st2, am_clr, and_self, true_and, and_true, true_or, or_true, List.length_cons, List.length_nil] <;> omega) ?_
            try simp (disch := omega) only [s124 hw, r124_14 hw, s126 hw, r124_37 hw, s143 hw, r124_44 hw, s149 hw, r124_45 hw, s150 hw, r124_39 hw, s145 hw, e0, e149, am_b0, Int.reduceToNat, am_addE, am_subE, am_mulE, am_laddE, am_lsubE, am_upO, am_upS, am_stS, am_stO, am_tnn, am_brl, am_brg, am_bre, am_brn, am_brG, am_brL, am_st1, am_no2, am_st2, am_clr]
            exact am_wp_ls (NO (by rw [ey, if_neg (fun hc => b53 (by omega))]) _) rfl
          · have b53 := Classical.not_not.mp b53
            refine am_wp_go rfl (by simp (disch := omega) only [s124 hw, r124_45 hw, s150 hw, r124_39 hw, s145 hw, e150', q5, am_addE, am_mulE, am_tnn, e145', and_self, true_and, and_true] <;> omega) ?_
            simp (disch := omega) only [s124 hw, r124_45 hw, s150 hw, r124_39 hw, s145 hw, e150', q5, am_addE, am_mulE, am_tnn, e145', am_brn, am_bre]
            refine am_wp_br (fun b73 => ?_) (fun b73 => ?_)
            · rw [if_pos ⟨by omega, by omega⟩] at ey
              rw [ey, if_neg (by omega), am_tnn] at eO
              rw [ey, decide_eq_false (by omega), cond_false] at eC
              have p8 := ax_p8 (s := i / 2) (by omega)
              rw [eO] at ih
              clear NO
              refine am_wp_go rfl (by simp (disch := omega) only [s124 hw, r124_45 hw, s150 hw, e150', am_tnn, and_self, true_and, and_true] <;> omega) ?_
              simp (disch := omega) only [s124 hw, r124_45 hw, s150 hw, e150', am_tnn]
              refine am_wp_cc rfl rfl rfl (congrArg Prod.fst (s124 hw)) (w_M_isOn (i := i) (p := k) (t := t) (x := (S.1 i : Int)) hw (by omega) (by omega) rfl rfl e145' (by omega) (fun X y => ⟨_, rfl, ?_⟩))
              obtain ⟨y1, y2, y3, y4, y5⟩ := y
              refine am_wp_go rfl (by simp (disch := omega) only [s124 hw, r124_37 hw, s143 hw, r124_44 hw, s149 hw, r124_45 hw, s150 hw, r124_39 hw, s145 hw, e150', e145', am_shl1, am_orN, am_addE, am_subE, am_mulE, am_laddE, am_lsubE, am_upO, am_upS, am_stS, am_stO, am_tnn, am_brl, am_brg, am_bre, am_brn, am_brG, am_brL, am_st1, am_no2, am_st2, am_clr, and_self, true_and, and_true, true_or, or_true, List.length_cons, List.length_nil] <;> omega) ?_
              try simp (disch := omega) only [s124 hw, r124_37 hw, s143 hw, r124_44 hw, s149 hw, r124_45 hw, s150 hw, r124_39 hw, s145 hw, e150', e145', am_shl1, am_orN, am_addE, am_subE, am_mulE, am_laddE, am_lsubE, am_upO, am_upS, am_stS, am_stO, am_tnn, am_brl, am_brg, am_bre, am_brn, am_brG, am_brL, am_st1, am_no2, am_st2, am_clr]
              refine am_wp_ls (ih (some (.inl ((i / 2 : Nat) : Int))) (c - 1) X (fun a ha => by rw [y1 a (by omega) (by omega) (by omega) (by omega), am_upO (by omega), k1 a ha]) (by omega) (ax_or8 k3 p8) (fun p hp => ?_) ?_) ?_
              · rw [y2, y3, am_upS, am_upO (by decide)]
                by_cases hpk : p = k
                · refine ⟨fun hc => by rw [hpk, ey] at hc; omega, fun j hj => ?_⟩
                  rw [hpk, ey] at hj
                  have : i = j := by omega
                  subst this
                  rw [am_stS hpk, am_stS hpk]
                  exact ⟨rfl, rfl⟩
                · have := k4 p (by omega)
                  unfold ckQ at this ⊢
                  rw [am_stO hpk, am_stO hpk, am_stO hpk]; exact this
              · rw [y4, y5, am_upO (by decide), am_upO (by decide)]
                intro j hj
                obtain ⟨a, a2⟩ := k5 j hj
                by_cases hji : j = i
                · subst hji
                  refine ⟨fun hc => absurd ey (hc k (by omega)), fun _ => ?_⟩
                  rw [am_stS rfl, am_stS rfl]
                  exact ⟨rfl, rfl⟩
                · rw [am_stO hji, am_stO hji]
                  refine ⟨fun hc => a (fun p hp => hc p (by omega)), fun hc => a2 ?_⟩
                  obtain ⟨p, hp, hx⟩ := hc
                  refine ⟨p, ?_, hx⟩
                  by_cases hpk : p = k
                  · rw [hpk, ey] at hx; omega
                  · omega
              · simp only [List.cons.injEq, Option.some.injEq, Sum.inl.injEq, and_true, true_and]
                omega
            · refine am_wp_go rfl (by simp (disch := omega) only [s124 hw, r124_37 hw, s143 hw, r124_44 hw, s149 hw, r124_45 hw, s150 hw, r124_39 hw, s145 hw, e150', e145', q5, am_addE, am_subE, am_mulE, am_laddE, am_lsubE, am_upO, am_upS, am_stS, am_stO, am_tnn, am_brl, am_brg, am_bre, am_brn, am_brG, am_brL, am_st1, am_no2, am_st2, am_clr, and_self, true_and, and_true, true_or, or_true, List.length_cons, List.length_nil] <;> omega) ?_
              try simp (disch := omega) only [s124 hw, r124_37 hw, s143 hw, r124_44 hw, s149 hw, r124_45 hw, s150 hw, r124_39 hw, s145 hw, e150', e145', q5, am_addE, am_subE, am_mulE, am_laddE, am_lsubE, am_upO, am_upS, am_stS, am_stO, am_tnn, am_brl, am_brg, am_bre, am_brn, am_brG, am_brL, am_st1, am_no2, am_st2, am_clr]
              exact am_wp_ls (NO (by rw [ey, if_neg (fun hc => by omega)]) _) rfl
  refine am_wp_ls (A 0 (by omega) none (W 0).toNat I (fun _ _ => rfl) (by rfl) (show 0 < 256 by decide) (fun p hp => absurd hp (Nat.not_lt_zero p)) (fun i hi => ⟨fun _ => ⟨c1 i hi, rfl⟩, fun ⟨p, hp, _⟩ => absurd hp (Nat.not_lt_zero p)⟩)) rfl
end COOK
