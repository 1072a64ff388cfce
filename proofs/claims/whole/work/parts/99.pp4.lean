/-! A PLAN's text by the reference -/
def ln (T : Nat → Int) (G : List Go) : Prop := ∀ k, k < G.length → T (5 * k) = gS G k ∧ T (5 * k + 1) = gU G k ∧ T (5 * k + 2) = gB G k ∧ T (5 * k + 3) = gL G k ∧ T (5 * k + 4) = gN G k
theorem ln_app {T : Nat → Int} {G : List Go} {s u b l n : Int} (h : ln T G) : ln (am_set (am_set (am_set (am_set (am_set T (5 * G.length) s) (5 * G.length + 1) u) (5 * G.length + 2) b) (5 * G.length + 3) l) (5 * G.length + 4) n) (G ++ [(s, u, b, l, n)]) := fun k hk => by
  rw [List.length_append, List.length_singleton] at hk
  unfold gS gU gB gL gN
  by_cases hk2 : k < G.length
  · have t := h k hk2
    unfold gS gU gB gL gN at t
    rw [gs_app hk2]
    simp (disch := omega) only [am_stO]
    exact t
  · have : k = G.length := by omega
    subst this
    rw [gs_app2]
    simp (disch := omega) only [am_stO, am_stS, and_self]
def frL (I J : Nat → Nat → Int) : Prop := (∀ a, a ≠ 124 → a ≠ 134 → J a = I a) ∧ ∀ j, ¬ (5 ≤ j ∧ j ≤ 13) → J 124 j = I 124 j
theorem frL_tr {I J K : Nat → Nat → Int} (h : frL I J) (g : frL J K) : frL I K := ⟨fun a a1 a2 => (g.1 a a1 a2).trans (h.1 a a1 a2), fun j hj => (g.2 j hj).trans (h.2 j hj)⟩
theorem frL_Q {I J : Nat → Nat → Int} (h : frQ I J) : frL I J := ⟨fun a a1 _ => h.1 a a1, h.2⟩
theorem frL_up {I J : Nat → Nat → Int} {k : Nat} {x : Int} (h : frL I J) : frL I (am_up J 134 k x) := ⟨fun c c1 c2 => by rw [am_upO c2, h.1 c c1 c2], fun j hj => by rw [am_upO (by decide), h.2 j hj]⟩
def nmR (I : Nat → Nat → Int) (NM : Nat → List Nat) (q : Nat) : Prop := I 126 5 = (q : Int) ∧ q ≤ 8 ∧ ∀ s, s < q → letOk (NM (0 + s)) ∧ I 130 (0 + s) = (nm27 (NM (0 + s)) : Int)
theorem nmR_fr {I J : Nat → Nat → Int} {NM : Nat → List Nat} {q : Nat} (h : nmR I NM q) (g : frL I J) : nmR J NM q := by
  unfold nmR at h ⊢
  rw [g.1 126 (by decide) (by decide), g.1 130 (by decide) (by decide)]; exact h
theorem pEnd_l {T : Nat → Tk} {e : Nat × Nat} : pEnd T (.inl e) = .inl e := rfl
section RP
variable {m sl : Nat} {sh : Nat → Nat × Nat} {I : Nat → Nat → Int} {R : Nat → Nat → Nat} {Q : am_R → am_M → Prop} {d : Nat} {b : Nat → Nat} {n lim : Nat} {S : PLS} {NM : Nat → List Nat} {q P : Nat}
set_option maxHeartbeats 4000000 in
theorem w_M_readGo (hw : wd sh R) (hc : rpR I b n lim S.1) (hm : nmR I NM q) (hP : I 126 0 = (P : Int) + 1) (hP4 : P < 4) (hl : S.2.length ≤ 30) (hln : ln (I 134) S.2)
    (h0 : ∀ e, pEnd (lxJ b n lim) (pGo (lxJ b n lim) NM q P S) = .inl e → ∀ J, frL I J → J 124 10 = (e.1 : Int) → J 124 11 = (e.2 : Int) → Q (am_yi 0) (m, sl, sh, J, R))
    (h1 : ∀ S', pEnd (lxJ b n lim) (pGo (lxJ b n lim) NM q P S) = .inr S' → S'.2.length = S.2.length + 1 → ∀ J, frL I J → J 124 10 = I 124 10 → ln (J 134) S'.2 → rpR J b n lim S'.1 → Q (am_yi 1) (m, sl, sh, J, R)) : am_wp (d + 4) 242 0 [some (.inr (.inr (124))), some (.inl ((S.2.length : Int))), none] [] (m, sl, sh, I, R) Q := by
  obtain ⟨m1, m2, m3⟩ := hm
  unfold pGo at h0 h1
  refine am_wp_go rfl (by simp (disch := omega) only [s124 hw, am_bn0, am_b0, am_addE, am_subE, am_mulE, am_laddE, am_lsubE, am_upO, am_upS, am_stS, am_stO, am_tnn, am_brl, am_brg, am_bre, am_brn, am_brG, am_brL, am_st1, am_no2, am_st2, am_clr, and_self, true_and, and_true, true_or, or_true, List.length_cons, List.length_nil] <;> omega) ?_
  try simp (disch := omega) only [s124 hw, am_bn0, am_b0, am_addE, am_subE, am_mulE, am_laddE, am_lsubE, am_upO, am_upS, am_stS, am_stO, am_tnn, am_brl, am_brg, am_bre, am_brn, am_brG, am_brL, am_st1, am_no2, am_st2, am_clr]
  refine am_wp_cc rfl rfl rfl (congrArg Prod.fst (s124 hw)) (w_M_isName hw hc ⟨_, rfl, ?_⟩)
  refine am_wp_go rfl (by simp (disch := omega) only [s124 hw, am_bn0, am_b0, am_addE, am_subE, am_mulE, am_laddE, am_lsubE, am_upO, am_upS, am_stS, am_stO, am_tnn, am_brl, am_brg, am_bre, am_brn, am_brG, am_brL, am_st1, am_no2, am_st2, am_clr, and_self, true_and, and_true, true_or, or_true, List.length_cons, List.length_nil] <;> omega) ?_
  try simp (disch := omega) only [s124 hw, am_bn0, am_b0, am_addE, am_subE, am_mulE, am_laddE, am_lsubE, am_upO, am_upS, am_stS, am_stO, am_tnn, am_brl, am_brg, am_bre, am_brn, am_brG, am_brL, am_st1, am_no2, am_st2, am_clr]
  refine am_wp_br (fun b4 => ?_) (fun b4 => ?_)
  · rw [if_neg (fun hx => hx b4)] at h0 h1
    have nmj := cK_2.mp b4
    have lo := (lxJ_ok (b := b) (n := n) (lim := lim) S.1).1 nmj.1
    have e12 := hc.2.2.2.2.1.2.2.1 nmj.1
    have t2 := nmj.1
    clear nmj b4
    refine am_wp_go rfl (by simp (disch := omega) only [s124 hw, r124_18 hw, e12, Int.reduceToNat, am_addE, am_subE, am_mulE, am_laddE, am_lsubE, am_upO, am_upS, am_stS, am_stO, am_tnn, am_brl, am_brg, am_bre, am_brn, am_brG, am_brL, am_st1, am_no2, am_st2, am_clr, and_self, true_and, and_true, true_or, or_true, List.length_cons, List.length_nil] <;> omega) ?_
    try simp (disch := omega) only [s124 hw, r124_18 hw, e12, Int.reduceToNat, am_addE, am_subE, am_mulE, am_laddE, am_lsubE, am_upO, am_upS, am_stS, am_stO, am_tnn, am_brl, am_brg, am_bre, am_brn, am_brG, am_brL, am_st1, am_no2, am_st2, am_clr]
    refine am_wp_cc rfl rfl rfl (congrArg Prod.fst (s124 hw)) (w_M_slices hw ⟨_, rfl, ?_⟩)
    refine am_wp_go rfl (by simp (disch := omega) only [s124 hw, r124_18 hw, e12, m1, Int.reduceToNat, am_addE, am_subE, am_mulE, am_laddE, am_lsubE, am_upO, am_upS, am_stS, am_stO, am_tnn, am_brl, am_brg, am_bre, am_brn, am_brG, am_brL, am_st1, am_no2, am_st2, am_clr, and_self, true_and, and_true, true_or, or_true, List.length_cons, List.length_nil] <;> omega) ?_
    try simp (disch := omega) only [s124 hw, r124_18 hw, e12, m1, Int.reduceToNat, am_addE, am_subE, am_mulE, am_laddE, am_lsubE, am_upO, am_upS, am_stS, am_stO, am_tnn, am_brl, am_brg, am_bre, am_brn, am_brG, am_brL, am_st1, am_no2, am_st2, am_clr]
    refine am_wp_cc rfl rfl rfl (trivial) (w_M_findIn (a := 130) (o := 0) (q := q) (NM := NM) (ws := (lxJ b n lim S.1).2.2.1) rfl (by decide) (s130 hw) (by omega) m3 lo ⟨_, rfl, ?_⟩)
    have kv := kFd_v (NM := NM) (n := q) (ws := (lxJ b n lim S.1).2.2.1)
    generalize kFd NM 0 q (lxJ b n lim S.1).2.2.1 = s at *
    refine am_wp_go rfl (by simp (disch := omega) only [am_addE, am_subE, am_mulE, am_laddE, am_lsubE, am_upO, am_upS, am_stS, am_stO, am_tnn, am_brl, am_brg, am_bre, am_brn, am_brG, am_brL, am_st1, am_no2, am_st2, am_clr, and_self, true_and, and_true, true_or, or_true, List.length_cons, List.length_nil] <;> omega) ?_
    try simp (disch := omega) only [am_addE, am_subE, am_mulE, am_laddE, am_lsubE, am_upO, am_upS, am_stS, am_stO, am_tnn, am_brl, am_brg, am_bre, am_brn, am_brG, am_brL, am_st1, am_no2, am_st2, am_clr]
    refine am_wp_br (fun b32 => ?_) (fun b32 => ?_)
    · rw [if_neg b32] at h0 h1
      have kv := kv b32
      refine am_wp_go rfl (by simp (disch := omega) only [am_addE, am_subE, am_mulE, am_laddE, am_lsubE, am_upO, am_upS, am_stS, am_stO, am_tnn, am_brl, am_brg, am_bre, am_brn, am_brG, am_brL, am_st1, am_no2, am_st2, am_clr, and_self, true_and, and_true, true_or, or_true, List.length_cons, List.length_nil] <;> omega) ?_
      try simp (disch := omega) only [am_addE, am_subE, am_mulE, am_laddE, am_lsubE, am_upO, am_upS, am_stS, am_stO, am_tnn, am_brl, am_brg, am_bre, am_brn, am_brG, am_brL, am_st1, am_no2, am_st2, am_clr]
      refine am_wp_br (fun b44 => ?_) (fun b44 => ?_)
      · rw [if_neg (by omega)] at h0 h1
        refine am_wp_go rfl (by simp (disch := omega) only [am_addE, am_subE, am_mulE, am_laddE, am_lsubE, am_upO, am_upS, am_stS, am_stO, am_tnn, am_brl, am_brg, am_bre, am_brn, am_brG, am_brL, am_st1, am_no2, am_st2, am_clr, and_self, true_and, and_true, true_or, or_true, List.length_cons, List.length_nil] <;> omega) ?_
        try simp (disch := omega) only [am_addE, am_subE, am_mulE, am_laddE, am_lsubE, am_upO, am_upS, am_stS, am_stO, am_tnn, am_brl, am_brg, am_bre, am_brn, am_brG, am_brL, am_st1, am_no2, am_st2, am_clr]
        refine am_wp_cc rfl rfl rfl (congrArg Prod.fst (s124 hw)) (w_M_nx hw hc (by omega) (fun J j0 j1 => ⟨_, rfl, ?_⟩))
        have fJ := frL_Q (frQ_6 j0)
        have t10 := fr6_10 j0
        have J126 : J 126 0 = (P : Int) + 1 := by rw [fJ.1 126 (by decide) (by decide)]; exact hP
        have J134 : J 134 = I 134 := j0.1 134 (by decide)
        clear j0
        have U : ∀ u : Int, (if owC (lxJ b n lim (S.1 + 1)) = 8 then (0 : Int) else 1) = u → (owC (lxJ b n lim (S.1 + 1)) = 8 ∨ owC (lxJ b n lim (S.1 + 1)) = 9) → am_wp (d + 4) 242 115 [some (.inr (.inr (124))), some (.inl ((S.2.length : Int))), some (.inl (s))] [.inr (.inr (124))] (m, sl, sh, am_up (am_up J 134 (5 * S.2.length) s) 134 (5 * S.2.length + 1) u, R) Q := by
          intro u hu hou
          rw [if_neg (fun hx => hx hou), hu] at h0 h1
          have t3 := ow_le (t := lxJ b n lim (S.1 + 1)) (by omega)
          clear hu hou
          have c1 := rpR_up (a := 134) (k := 5 * S.2.length + 1) (x := u) (rpR_up (a := 134) (k := 5 * S.2.length) (x := s) j1 (Or.inl (by decide))) (Or.inl (by decide))
          have f1 : frL I (am_up (am_up J 134 (5 * S.2.length) s) 134 (5 * S.2.length + 1) u) := frL_up (frL_up fJ)
          have z134 : am_up (am_up J 134 (5 * S.2.length) s) 134 (5 * S.2.length + 1) u 134 = am_set (am_set (I 134) (5 * S.2.length) s) (5 * S.2.length + 1) u := by rw [am_upS, am_upS, J134]
          have z10 : am_up (am_up J 134 (5 * S.2.length) s) 134 (5 * S.2.length + 1) u 124 10 = I 124 10 := by rw [am_upO (by decide), am_upO (by decide)]; exact t10
          generalize am_up (am_up J 134 (5 * S.2.length) s) 134 (5 * S.2.length + 1) u = Z at c1 f1 z134 z10 ⊢
          clear fJ t10 J126 J134 j1
          refine am_wp_cc rfl rfl rfl (congrArg Prod.fst (s124 hw)) (w_M_nx hw c1 (by omega) (fun K k0 k1 => ⟨_, rfl, ?_⟩))
          have fK := frL_tr f1 (frL_Q (frQ_6 k0))
          have K134 : K 134 = Z 134 := k0.1 134 (by decide)
          have K10 := fr6_10 k0
          clear k0
          refine am_wp_go rfl (by simp (disch := omega) only [am_addE, am_subE, am_mulE, am_laddE, am_lsubE, am_upO, am_upS, am_stS, am_stO, am_tnn, am_brl, am_brg, am_bre, am_brn, am_brG, am_brL, am_st1, am_no2, am_st2, am_clr, and_self, true_and, and_true, true_or, or_true, List.length_cons, List.length_nil] <;> omega) ?_
          try simp (disch := omega) only [am_addE, am_subE, am_mulE, am_laddE, am_lsubE, am_upO, am_upS, am_stS, am_stO, am_tnn, am_brl, am_brg, am_bre, am_brn, am_brG, am_brL, am_st1, am_no2, am_st2, am_clr]
          refine am_wp_cc rfl rfl rfl (congrArg Prod.fst (s124 hw)) (w_M_readNumber (a := 0) (c := 240) rfl rfl hw k1 (fun n1 V v0 v1 v2 => ⟨_, rfl, ?_⟩) (fun n1 l1 l2 V v0 v1 v2 v3 => ⟨_, rfl, ?_⟩))
          · rw [pN_0 (j := S.1 + 2) n1, pEnd_l] at h0
            refine am_wp_go rfl (by simp (disch := omega) only [am_addE, am_subE, am_mulE, am_laddE, am_lsubE, am_upO, am_upS, am_stS, am_stO, am_tnn, am_brl, am_brg, am_bre, am_brn, am_brG, am_brL, am_st1, am_no2, am_st2, am_clr, and_self, true_and, and_true, true_or, or_true, List.length_cons, List.length_nil] <;> omega) ?_
            refine am_wp_pc (pc' := 129) rfl ?_
            refine am_wp_go rfl (by simp (disch := omega) only [am_addE, am_subE, am_mulE, am_laddE, am_lsubE, am_upO, am_upS, am_stS, am_stO, am_tnn, am_brl, am_brg, am_bre, am_brn, am_brG, am_brL, am_st1, am_no2, am_st2, am_clr, and_self, true_and, and_true, true_or, or_true, List.length_cons, List.length_nil] <;> omega) ?_
            try simp (disch := omega) only [am_addE, am_subE, am_mulE, am_laddE, am_lsubE, am_upO, am_upS, am_stS, am_stO, am_tnn, am_brl, am_brg, am_bre, am_brn, am_brG, am_brL, am_st1, am_no2, am_st2, am_clr]
            refine am_wp_ret rfl rfl ?_
            exact h0 _ rfl V (frL_tr fK (frL_Q v0)) v1 v2
          · rw [pN_1 (j := S.1 + 2) n1] at h0 h1
            have fV := frL_up (k := 5 * S.2.length + 2) (x := ((lxJ b n lim (S.1 + 2)).2.2.2 : Int)) (frL_tr fK (frL_Q v0))
            have V0 : am_up V 134 (5 * S.2.length + 2) ((lxJ b n lim (S.1 + 2)).2.2.2 : Int) 126 0 = (P : Int) + 1 := by rw [fV.1 126 (by decide) (by decide)]; exact hP
            refine am_wp_go rfl (by simp (disch := omega) only [am_addE, am_subE, am_mulE, am_laddE, am_lsubE, am_upO, am_upS, am_stS, am_stO, am_tnn, am_brl, am_brg, am_bre, am_brn, am_brG, am_brL, am_st1, am_no2, am_st2, am_clr, and_self, true_and, and_true, true_or, or_true, List.length_cons, List.length_nil] <;> omega) ?_
            refine am_wp_pc (pc' := 131) rfl ?_
            have v2 : V 124 13 = ((lxJ b n lim (S.1 + 2)).2.2.2 : Int) := v2
            refine am_wp_go rfl (by simp (disch := omega) only [s124 hw, r124_25 hw, s134 hw, r124_14 hw, s126 hw, v2, V0, am_tnA, am_tnM, Int.reduceToNat, am_addE, am_subE, am_mulE, am_laddE, am_lsubE, am_upO, am_upS, am_stS, am_stO, am_tnn, am_brl, am_brg, am_bre, am_brn, am_brG, am_brL, am_st1, am_no2, am_st2, am_clr, and_self, true_and, and_true, true_or, or_true, List.length_cons, List.length_nil] <;> omega) ?_
            try simp (disch := omega) only [s124 hw, r124_25 hw, s134 hw, r124_14 hw, s126 hw, v2, V0, am_tnA, am_tnM, Int.reduceToNat, am_addE, am_subE, am_mulE, am_laddE, am_lsubE, am_upO, am_upS, am_stS, am_stO, am_tnn, am_brl, am_brg, am_bre, am_brn, am_brG, am_brL, am_st1, am_no2, am_st2, am_clr]
            refine am_wp_cc rfl rfl rfl (congrArg Prod.fst (s124 hw)) (w_M_readNumber (a := 0) (c := P) rfl (by omega) hw (rpR_up v3 (Or.inl (by decide))) (fun n2 X x0 x1 x2 => ⟨_, rfl, ?_⟩) (fun n2 l3 l4 X x0 x1 x2 x3 => ⟨_, rfl, ?_⟩))
            · rw [pN_0 (j := S.1 + 3) n2, pEnd_l] at h0
              refine am_wp_go rfl (by simp (disch := omega) only [s124 hw, r124_25 hw, s134 hw, r124_14 hw, s126 hw, v2, V0, am_tnA, am_tnM, Int.reduceToNat, am_addE, am_subE, am_mulE, am_laddE, am_lsubE, am_upO, am_upS, am_stS, am_stO, am_tnn, am_brl, am_brg, am_bre, am_brn, am_brG, am_brL, am_st1, am_no2, am_st2, am_clr, and_self, true_and, and_true, true_or, or_true, List.length_cons, List.length_nil] <;> omega) ?_
              refine am_wp_pc (pc' := 161) rfl ?_
              refine am_wp_go rfl (by simp (disch := omega) only [s124 hw, r124_25 hw, s134 hw, r124_14 hw, s126 hw, v2, V0, am_tnA, am_tnM, Int.reduceToNat, am_addE, am_subE, am_mulE, am_laddE, am_lsubE, am_upO, am_upS, am_stS, am_stO, am_tnn, am_brl, am_brg, am_bre, am_brn, am_brG, am_brL, am_st1, am_no2, am_st2, am_clr, and_self, true_and, and_true, true_or, or_true, List.length_cons, List.length_nil] <;> omega) ?_
              try simp (disch := omega) only [s124 hw, r124_25 hw, s134 hw, r124_14 hw, s126 hw, v2, V0, am_tnA, am_tnM, Int.reduceToNat, am_addE, am_subE, am_mulE, am_laddE, am_lsubE, am_upO, am_upS, am_stS, am_stO, am_tnn, am_brl, am_brg, am_bre, am_brn, am_brG, am_brL, am_st1, am_no2, am_st2, am_clr]
              refine am_wp_ret rfl rfl ?_
              exact h0 _ rfl X (frL_tr fV (frL_Q x0)) x1 x2
            · rw [pN_1 (j := S.1 + 3) n2] at h0 h1
              have fX := frL_up (k := 5 * S.2.length + 3) (x := ((lxJ b n lim (S.1 + 3)).2.2.2 : Int)) (frL_tr fV (frL_Q x0))
              refine am_wp_go rfl (by simp (disch := omega) only [s124 hw, r124_25 hw, s134 hw, r124_14 hw, s126 hw, v2, V0, am_tnA, am_tnM, Int.reduceToNat, am_addE, am_subE, am_mulE, am_laddE, am_lsubE, am_upO, am_upS, am_stS, am_stO, am_tnn, am_brl, am_brg, am_bre, am_brn, am_brG, am_brL, am_st1, am_no2, am_st2, am_clr, and_self, true_and, and_true, true_or, or_true, List.length_cons, List.length_nil] <;> omega) ?_
              refine am_wp_pc (pc' := 163) rfl ?_
              have x2 : X 124 13 = ((lxJ b n lim (S.1 + 3)).2.2.2 : Int) := x2
              refine am_wp_go rfl (by simp (disch := omega) only [s124 hw, r124_25 hw, s134 hw, x2, am_tnA, am_tnM, Int.reduceToNat, am_addE, am_subE, am_mulE, am_laddE, am_lsubE, am_upO, am_upS, am_stS, am_stO, am_tnn, am_brl, am_brg, am_bre, am_brn, am_brG, am_brL, am_st1, am_no2, am_st2, am_clr, and_self, true_and, and_true, true_or, or_true, List.length_cons, List.length_nil] <;> omega) ?_
              try simp (disch := omega) only [s124 hw, r124_25 hw, s134 hw, x2, am_tnA, am_tnM, Int.reduceToNat, am_addE, am_subE, am_mulE, am_laddE, am_lsubE, am_upO, am_upS, am_stS, am_stO, am_tnn, am_brl, am_brg, am_bre, am_brn, am_brG, am_brL, am_st1, am_no2, am_st2, am_clr]
              refine am_wp_cc rfl rfl rfl (congrArg Prod.fst (s124 hw)) (w_M_readNumber (a := 1) (c := 20) rfl rfl hw (rpR_up x3 (Or.inl (by decide))) (fun n3 Y y0 y1 y2 => ⟨_, rfl, ?_⟩) (fun n3 l5 l6 Y y0 y1 y2 y3 => ⟨_, rfl, ?_⟩))
              · rw [pN_0 (j := S.1 + 4) n3, pEnd_l] at h0
                refine am_wp_go rfl (by simp (disch := omega) only [s124 hw, r124_25 hw, s134 hw, x2, am_tnA, am_tnM, Int.reduceToNat, am_addE, am_subE, am_mulE, am_laddE, am_lsubE, am_upO, am_upS, am_stS, am_stO, am_tnn, am_brl, am_brg, am_bre, am_brn, am_brG, am_brL, am_st1, am_no2, am_st2, am_clr, and_self, true_and, and_true, true_or, or_true, List.length_cons, List.length_nil] <;> omega) ?_
                refine am_wp_pc (pc' := 187) rfl ?_
                refine am_wp_go rfl (by simp (disch := omega) only [s124 hw, r124_25 hw, s134 hw, x2, am_tnA, am_tnM, Int.reduceToNat, am_addE, am_subE, am_mulE, am_laddE, am_lsubE, am_upO, am_upS, am_stS, am_stO, am_tnn, am_brl, am_brg, am_bre, am_brn, am_brG, am_brL, am_st1, am_no2, am_st2, am_clr, and_self, true_and, and_true, true_or, or_true, List.length_cons, List.length_nil] <;> omega) ?_
                try simp (disch := omega) only [s124 hw, r124_25 hw, s134 hw, x2, am_tnA, am_tnM, Int.reduceToNat, am_addE, am_subE, am_mulE, am_laddE, am_lsubE, am_upO, am_upS, am_stS, am_stO, am_tnn, am_brl, am_brg, am_bre, am_brn, am_brG, am_brL, am_st1, am_no2, am_st2, am_clr]
                refine am_wp_ret rfl rfl ?_
                exact h0 _ rfl Y (frL_tr fX (frL_Q y0)) y1 y2
              · rw [pN_1 (j := S.1 + 4) n3] at h0 h1
                have fY := frL_up (k := 5 * S.2.length + 4) (x := ((lxJ b n lim (S.1 + 4)).2.2.2 : Int)) (frL_tr fX (frL_Q y0))
                refine am_wp_go rfl (by simp (disch := omega) only [s124 hw, r124_25 hw, s134 hw, x2, am_tnA, am_tnM, Int.reduceToNat, am_addE, am_subE, am_mulE, am_laddE, am_lsubE, am_upO, am_upS, am_stS, am_stO, am_tnn, am_brl, am_brg, am_bre, am_brn, am_brG, am_brL, am_st1, am_no2, am_st2, am_clr, and_self, true_and, and_true, true_or, or_true, List.length_cons, List.length_nil] <;> omega) ?_
                refine am_wp_pc (pc' := 189) rfl ?_
                have y2 : Y 124 13 = ((lxJ b n lim (S.1 + 4)).2.2.2 : Int) := y2
                refine am_wp_go rfl (by simp (disch := omega) only [s124 hw, r124_25 hw, s134 hw, y2, am_tnA, am_tnM, Int.reduceToNat, am_addE, am_subE, am_mulE, am_laddE, am_lsubE, am_upO, am_upS, am_stS, am_stO, am_tnn, am_brl, am_brg, am_bre, am_brn, am_brG, am_brL, am_st1, am_no2, am_st2, am_clr, and_self, true_and, and_true, true_or, or_true, List.length_cons, List.length_nil] <;> omega) ?_
                try simp (disch := omega) only [s124 hw, r124_25 hw, s134 hw, y2, am_tnA, am_tnM, Int.reduceToNat, am_addE, am_subE, am_mulE, am_laddE, am_lsubE, am_upO, am_upS, am_stS, am_stO, am_tnn, am_brl, am_brg, am_bre, am_brn, am_brG, am_brL, am_st1, am_no2, am_st2, am_clr]
                have y3 : rpR Y b n lim (S.1 + 5) := y3
                refine am_wp_cc rfl rfl rfl (congrArg Prod.fst (s124 hw)) (w_M_readEnd hw (rpR_up y3 (Or.inl (by decide))) (fun ns A a0 a1 a2 => ⟨_, rfl, ?_⟩) (fun ys A a0 a1 a2 => ⟨_, rfl, ?_⟩))
                · unfold pEnd at h0
                  dsimp only at h0
                  rw [if_neg ns] at h0
                  refine am_wp_ret rfl rfl ?_
                  exact h0 _ rfl A (frL_tr fY (frL_Q a0)) a1 a2
                · unfold pEnd at h1
                  dsimp only at h1
                  rw [if_pos ys] at h1
                  refine am_wp_ret rfl rfl ?_
                  refine h1 _ rfl (by rw [List.length_append]; rfl) A (frL_tr fY (frL_Q a0)) ?_ ?_ a2
                  · rw [a1, am_upO (by decide), y1, am_upO (by decide), x1, am_upO (by decide), v1, K10, z10]
                  · dsimp only
                    rw [a0.1 134 (by decide), am_upS, y0.1 134 (by decide), am_upS, x0.1 134 (by decide), am_upS, v0.1 134 (by decide), K134, z134]
                    exact ln_app hln
        refine am_wp_go rfl (by simp (disch := omega) only [s124 hw, am_bn0, am_b0, am_addE, am_subE, am_mulE, am_laddE, am_lsubE, am_upO, am_upS, am_stS, am_stO, am_tnn, am_brl, am_brg, am_bre, am_brn, am_brG, am_brL, am_st1, am_no2, am_st2, am_clr, and_self, true_and, and_true, true_or, or_true, List.length_cons, List.length_nil] <;> omega) ?_
        try simp (disch := omega) only [s124 hw, am_bn0, am_b0, am_addE, am_subE, am_mulE, am_laddE, am_lsubE, am_upO, am_upS, am_stS, am_stO, am_tnn, am_brl, am_brg, am_bre, am_brn, am_brG, am_brL, am_st1, am_no2, am_st2, am_clr]
        refine am_wp_cc rfl rfl rfl (congrArg Prod.fst (s124 hw)) (w_M_isWord' (k := 8) (y := 8) rfl rfl hw (by decide) j1 ⟨_, rfl, ?_⟩)
        refine am_wp_go rfl (by simp (disch := omega) only [s124 hw, am_bn0, am_b0, am_addE, am_subE, am_mulE, am_laddE, am_lsubE, am_upO, am_upS, am_stS, am_stO, am_tnn, am_brl, am_brg, am_bre, am_brn, am_brG, am_brL, am_st1, am_no2, am_st2, am_clr, and_self, true_and, and_true, true_or, or_true, List.length_cons, List.length_nil] <;> omega) ?_
        try simp (disch := omega) only [s124 hw, am_bn0, am_b0, am_addE, am_subE, am_mulE, am_laddE, am_lsubE, am_upO, am_upS, am_stS, am_stO, am_tnn, am_brl, am_brg, am_bre, am_brn, am_brG, am_brL, am_st1, am_no2, am_st2, am_clr]
        have fin : ∀ u : Int, (if owC (lxJ b n lim (S.1 + 1)) = 8 then (0 : Int) else 1) = u → (owC (lxJ b n lim (S.1 + 1)) = 8 ∨ owC (lxJ b n lim (S.1 + 1)) = 9) → am_wp (d + 4) 242 81 [some (.inr (.inr (124))), some (.inl ((S.2.length : Int))), some (.inl (s))] [] (m, sl, sh, J, R) Q := by
          intro u hu hou
          have U := U u hu hou
          clear h0 h1
          refine am_wp_go rfl (by simp (disch := omega) only [s124 hw, r124_25 hw, s134 hw, am_tnA, am_tnM, Int.reduceToNat, am_b0, am_addE, am_subE, am_mulE, am_laddE, am_lsubE, am_upO, am_upS, am_stS, am_stO, am_tnn, am_brl, am_brg, am_bre, am_brn, am_brG, am_brL, am_st1, am_no2, am_st2, am_clr, and_self, true_and, and_true, true_or, or_true, List.length_cons, List.length_nil] <;> omega) ?_
          try simp (disch := omega) only [s124 hw, r124_25 hw, s134 hw, am_tnA, am_tnM, Int.reduceToNat, am_b0, am_addE, am_subE, am_mulE, am_laddE, am_lsubE, am_upO, am_upS, am_stS, am_stO, am_tnn, am_brl, am_brg, am_bre, am_brn, am_brG, am_brL, am_st1, am_no2, am_st2, am_clr]
          refine am_wp_cc rfl rfl rfl (congrArg Prod.fst (s124 hw)) (w_M_isWord' (k := 8) (y := 8) rfl rfl hw (by decide) (rpR_up j1 (Or.inl (by decide))) ⟨_, rfl, ?_⟩)
          refine am_wp_go rfl (by simp (disch := omega) only [s124 hw, r124_25 hw, s134 hw, am_tnA, am_tnM, Int.reduceToNat, am_b0, am_addE, am_subE, am_mulE, am_laddE, am_lsubE, am_upO, am_upS, am_stS, am_stO, am_tnn, am_brl, am_brg, am_bre, am_brn, am_brG, am_brL, am_st1, am_no2, am_st2, am_clr, and_self, true_and, and_true, true_or, or_true, List.length_cons, List.length_nil] <;> omega) ?_
          try simp (disch := omega) only [s124 hw, r124_25 hw, s134 hw, am_tnA, am_tnM, Int.reduceToNat, am_b0, am_addE, am_subE, am_mulE, am_laddE, am_lsubE, am_upO, am_upS, am_stS, am_stO, am_tnn, am_brl, am_brg, am_bre, am_brn, am_brG, am_brL, am_st1, am_no2, am_st2, am_clr]
          refine am_wp_br (fun b105 => ?_) (fun b105 => ?_)
          · refine am_wp_go rfl (by simp (disch := omega) only [s124 hw, r124_25 hw, s134 hw, am_tnA, am_tnM, Int.reduceToNat, am_b0, am_addE, am_subE, am_mulE, am_laddE, am_lsubE, am_upO, am_upS, am_stS, am_stO, am_tnn, am_brl, am_brg, am_bre, am_brn, am_brG, am_brL, am_st1, am_no2, am_st2, am_clr, and_self, true_and, and_true, true_or, or_true, List.length_cons, List.length_nil] <;> omega) ?_
            try simp (disch := omega) only [s124 hw, r124_25 hw, s134 hw, am_tnA, am_tnM, Int.reduceToNat, am_b0, am_addE, am_subE, am_mulE, am_laddE, am_lsubE, am_upO, am_upS, am_stS, am_stO, am_tnn, am_brl, am_brg, am_bre, am_brn, am_brG, am_brL, am_st1, am_no2, am_st2, am_clr]
            rw [if_neg b105] at hu
            subst hu
            exact am_wp_ls U rfl
          · refine am_wp_go rfl (by simp (disch := omega) only [s124 hw, r124_25 hw, s134 hw, am_tnA, am_tnM, Int.reduceToNat, am_b0, am_addE, am_subE, am_mulE, am_laddE, am_lsubE, am_upO, am_upS, am_stS, am_stO, am_tnn, am_brl, am_brg, am_bre, am_brn, am_brG, am_brL, am_st1, am_no2, am_st2, am_clr, and_self, true_and, and_true, true_or, or_true, List.length_cons, List.length_nil] <;> omega) ?_
            try simp (disch := omega) only [s124 hw, r124_25 hw, s134 hw, am_tnA, am_tnM, Int.reduceToNat, am_b0, am_addE, am_subE, am_mulE, am_laddE, am_lsubE, am_upO, am_upS, am_stS, am_stO, am_tnn, am_brl, am_brg, am_bre, am_brn, am_brG, am_brL, am_st1, am_no2, am_st2, am_clr]
            rw [if_pos (Classical.not_not.mp b105)] at hu
            subst hu
            exact am_wp_ls U rfl
        refine am_wp_br (fun b63 => ?_) (fun b63 => ?_)
        · exact am_wp_ls (fin _ rfl (Or.inl b63)) rfl
        · refine am_wp_go rfl (by simp (disch := omega) only [s124 hw, am_bn0, am_b0, am_addE, am_subE, am_mulE, am_laddE, am_lsubE, am_upO, am_upS, am_stS, am_stO, am_tnn, am_brl, am_brg, am_bre, am_brn, am_brG, am_brL, am_st1, am_no2, am_st2, am_clr, and_self, true_and, and_true, true_or, or_true, List.length_cons, List.length_nil] <;> omega) ?_
          try simp (disch := omega) only [s124 hw, am_bn0, am_b0, am_addE, am_subE, am_mulE, am_laddE, am_lsubE, am_upO, am_upS, am_stS, am_stO, am_tnn, am_brl, am_brg, am_bre, am_brn, am_brG, am_brL, am_st1, am_no2, am_st2, am_clr]
          refine am_wp_cc rfl rfl rfl (congrArg Prod.fst (s124 hw)) (w_M_isWord' (k := 9) (y := 9) rfl rfl hw (by decide) j1 ⟨_, rfl, ?_⟩)
          refine am_wp_go rfl (by simp (disch := omega) only [s124 hw, am_bn0, am_b0, am_addE, am_subE, am_mulE, am_laddE, am_lsubE, am_upO, am_upS, am_stS, am_stO, am_tnn, am_brl, am_brg, am_bre, am_brn, am_brG, am_brL, am_st1, am_no2, am_st2, am_clr, and_self, true_and, and_true, true_or, or_true, List.length_cons, List.length_nil] <;> omega) ?_
          try simp (disch := omega) only [s124 hw, am_bn0, am_b0, am_addE, am_subE, am_mulE, am_laddE, am_lsubE, am_upO, am_upS, am_stS, am_stO, am_tnn, am_brl, am_brg, am_bre, am_brn, am_brG, am_brL, am_st1, am_no2, am_st2, am_clr]
          refine am_wp_br (fun b72 => ?_) (fun b72 => ?_)
          · exact am_wp_ls (fin _ rfl (Or.inr b72)) rfl
          · rw [if_pos (fun hx => by rcases hx with hx | hx; exact b63 hx; exact b72 hx), pEnd_l] at h0
            refine am_wp_go rfl (by simp (disch := omega) only [s124 hw, am_bn0, am_b0, am_addE, am_subE, am_mulE, am_laddE, am_lsubE, am_upO, am_upS, am_stS, am_stO, am_tnn, am_brl, am_brg, am_bre, am_brn, am_brG, am_brL, am_st1, am_no2, am_st2, am_clr, and_self, true_and, and_true, true_or, or_true, List.length_cons, List.length_nil] <;> omega) ?_
            try simp (disch := omega) only [s124 hw, am_bn0, am_b0, am_addE, am_subE, am_mulE, am_laddE, am_lsubE, am_upO, am_upS, am_stS, am_stO, am_tnn, am_brl, am_brg, am_bre, am_brn, am_brG, am_brL, am_st1, am_no2, am_st2, am_clr]
            refine am_wp_cc rfl rfl rfl (congrArg Prod.fst (s124 hw)) (w_M_bad' (k := 1) rfl hw j1 (Or.inl rfl) (fun K k0 k1 k2 => ⟨_, rfl, ?_⟩))
            refine am_wp_ret rfl rfl ?_
            exact h0 _ rfl K (frL_tr fJ (frL_Q k0)) k1 k2
      · rw [if_pos (by omega), pEnd_l] at h0
        refine am_wp_go rfl (by simp (disch := omega) only [am_addE, am_subE, am_mulE, am_laddE, am_lsubE, am_upO, am_upS, am_stS, am_stO, am_tnn, am_brl, am_brg, am_bre, am_brn, am_brG, am_brL, am_st1, am_no2, am_st2, am_clr, and_self, true_and, and_true, true_or, or_true, List.length_cons, List.length_nil] <;> omega) ?_
        try simp (disch := omega) only [am_addE, am_subE, am_mulE, am_laddE, am_lsubE, am_upO, am_upS, am_stS, am_stO, am_tnn, am_brl, am_brg, am_bre, am_brn, am_brG, am_brL, am_st1, am_no2, am_st2, am_clr]
        refine am_wp_cc rfl rfl rfl (congrArg Prod.fst (s124 hw)) (w_M_bad' (k := 4) rfl hw hc (Or.inr (by omega)) (fun J j0 j1 j2 => ⟨_, rfl, ?_⟩))
        refine am_wp_ret rfl rfl ?_
        exact h0 _ rfl J (frL_Q j0) j1 j2
    · rw [if_pos (Classical.not_not.mp b32), pEnd_l] at h0
      refine am_wp_go rfl (by simp (disch := omega) only [am_addE, am_subE, am_mulE, am_laddE, am_lsubE, am_upO, am_upS, am_stS, am_stO, am_tnn, am_brl, am_brg, am_bre, am_brn, am_brG, am_brL, am_st1, am_no2, am_st2, am_clr, and_self, true_and, and_true, true_or, or_true, List.length_cons, List.length_nil] <;> omega) ?_
      try simp (disch := omega) only [am_addE, am_subE, am_mulE, am_laddE, am_lsubE, am_upO, am_upS, am_stS, am_stO, am_tnn, am_brl, am_brg, am_bre, am_brn, am_brG, am_brL, am_st1, am_no2, am_st2, am_clr]
      refine am_wp_cc rfl rfl rfl (congrArg Prod.fst (s124 hw)) (w_M_bad' (k := 3) rfl hw hc (Or.inr (by omega)) (fun J j0 j1 j2 => ⟨_, rfl, ?_⟩))
      refine am_wp_ret rfl rfl ?_
      exact h0 _ rfl J (frL_Q j0) j1 j2
  · rw [if_pos b4, pEnd_l] at h0
    refine am_wp_go rfl (by simp (disch := omega) only [s124 hw, am_bn0, am_b0, am_addE, am_subE, am_mulE, am_laddE, am_lsubE, am_upO, am_upS, am_stS, am_stO, am_tnn, am_brl, am_brg, am_bre, am_brn, am_brG, am_brL, am_st1, am_no2, am_st2, am_clr, and_self, true_and, and_true, true_or, or_true, List.length_cons, List.length_nil] <;> omega) ?_
    try simp (disch := omega) only [s124 hw, am_bn0, am_b0, am_addE, am_subE, am_mulE, am_laddE, am_lsubE, am_upO, am_upS, am_stS, am_stO, am_tnn, am_brl, am_brg, am_bre, am_brn, am_brG, am_brL, am_st1, am_no2, am_st2, am_clr]
    refine am_wp_cc rfl rfl rfl (congrArg Prod.fst (s124 hw)) (w_M_bad' (k := 1) rfl hw hc (Or.inl rfl) (fun J j0 j1 j2 => ⟨_, rfl, ?_⟩))
    refine am_wp_ret rfl rfl ?_
    exact h0 _ rfl J (frL_Q j0) j1 j2
end RP
