/-! A SENTENCE's text by the reference: its leaves -/
def frN (I J : Nat → Nat → Int) : Prop := (∀ a, a < 161 → a ≠ 124 → a ≠ 159 → J a = I a) ∧ ∀ j, ¬ (5 ≤ j ∧ j ≤ 13 ∨ 58 ≤ j) → J 124 j = I 124 j
theorem frN_rf {I : Nat → Nat → Int} : frN I I := ⟨fun _ _ _ _ => rfl, fun _ _ => rfl⟩
theorem frN_tr {I J K : Nat → Nat → Int} (h : frN I J) (g : frN J K) : frN I K := ⟨fun a a1 a2 a3 => (g.1 a a1 a2 a3).trans (h.1 a a1 a2 a3), fun j hj => (g.2 j hj).trans (h.2 j hj)⟩
theorem frN_Q {I J : Nat → Nat → Int} (h : frQ I J) : frN I J := ⟨fun a _ a2 _ => h.1 a a2, fun j hj => h.2 j (by omega)⟩
theorem frN_up {I J : Nat → Nat → Int} {k : Nat} {x : Int} (h : frN I J) (hk : 58 ≤ k) : frN I (am_up J 124 k x) := ⟨fun a a1 a2 a3 => by rw [am_upO a2, h.1 a a1 a2 a3], fun j hj => by rw [am_upS, am_stO (by omega), h.2 j hj]⟩
/-- what a node more changes -/
def frD (I J : Nat → Nat → Int) (k : Nat) (w a x r : Int) : Prop := (∀ c, c ≠ 124 → c ≠ 159 → J c = I c) ∧ (∀ j, j ≠ 58 → J 124 j = I 124 j) ∧ J 124 58 = ((k + 1 : Nat) : Int) ∧ J 159 = am_set (am_set (am_set (am_set (I 159) (4 * k) w) (4 * k + 1) a) (4 * k + 2) x) (4 * k + 3) r
theorem frD_N {I J : Nat → Nat → Int} {k : Nat} {w a x r : Int} (h : frD I J k w a x r) : frN I J := ⟨fun c _ c2 c3 => h.1 c c2 c3, fun j hj => h.2.1 j (by omega)⟩
theorem frD_rp {I J : Nat → Nat → Int} {k : Nat} {w a x r : Int} {b : Nat → Nat} {n lim j : Nat} (h : frD I J k w a x r) (hc : rpR I b n lim j) : rpR J b n lim j := by
  unfold rpR rTk at hc ⊢
  obtain ⟨h1, h2, h3, h4⟩ := h
  rw [h1 125 (by decide) (by decide), h2 3 (by decide), h2 4 (by decide), h2 5 (by decide), h2 6 (by decide), h2 7 (by decide), h2 8 (by decide), h2 9 (by decide), h2 12 (by decide)]
  exact hc
theorem nd_say {I J : Nat → Nat → Int} {q j : Nat} {S : SNS} {g : SnP} {w a x r : Int} (hs : ndR I q S) (h : frD I J S.2.2.length w a x r) (hn : sx_node (stf (S.2.2 ++ [g])) (stg (S.2.2 ++ [g])) (stx (S.2.2 ++ [g])) (q : Int) (J 159) S.2.2.length) : ndR J q (j, S.2.1, S.2.2 ++ [g]) := by
  obtain ⟨s1, s2, s3⟩ := hs
  obtain ⟨h1, h2, h3, h4⟩ := h
  refine ⟨by rw [h3]; dsimp only; rw [List.length_append]; rfl, by rw [h2 59 (by decide)]; exact s2, nd_app s3 (fun i hi => ?_) hn⟩
  rw [h4]
  simp (disch := omega) only [am_stO]
theorem st_last {L : List SnP} {g : SnP} : stf (L ++ [g]) L.length = g.1 ∧ stg (L ++ [g]) L.length = g.2.1 ∧ stx (L ++ [g]) L.length = g.2.2 := by
  unfold stf stg stx
  rw [tS_app2]
  exact ⟨rfl, rfl, rfl⟩
theorem frD_v {I J : Nat → Nat → Int} {k : Nat} {w a x r : Int} (h : frD I J k w a x r) : J 159 (4 * k) = w ∧ J 159 (4 * k + 1) = a ∧ J 159 (4 * k + 2) = x ∧ J 159 (4 * k + 3) = r := by
  rw [h.2.2.2]
  simp (disch := omega) only [am_stO, am_stS, and_self]
section SR
variable {m sl : Nat} {sh : Nat → Nat × Nat} {I : Nat → Nat → Int} {R : Nat → Nat → Nat} {Q : am_R → am_M → Prop} {d : Nat} {b : Nat → Nat} {n lim : Nat} {NM : Nat → List Nat} {q : Nat} {S : SNS}
theorem w_M_saysOne {k : Nat} {w a x r : Int} (hw : wd sh R) (h58 : I 124 58 = (k : Int)) (hk : k < 60) (h : ∀ J, frD I J k w a x r → Q (am_yi (k : Int)) (m, sl, sh, J, R)) : am_wp (d) 309 0 [some (.inr (.inr (124))), some (.inl (w)), some (.inl (a)), some (.inl (x)), some (.inl (r)), none] [] (m, sl, sh, I, R) Q := by
  refine am_wp_go rfl (by simp (disch := omega) only [s124 hw, r124_57 hw, s159 hw, h58, am_tnA, am_tnM, Int.reduceToNat, am_addE, am_subE, am_mulE, am_laddE, am_lsubE, am_upO, am_upS, am_stS, am_stO, am_tnn, am_brl, am_brg, am_bre, am_brn, am_brG, am_brL, am_st1, am_no2, am_st2, am_clr, and_self, true_and, and_true, true_or, or_true, List.length_cons, List.length_nil] <;> omega) ?_
  try simp (disch := omega) only [s124 hw, r124_57 hw, s159 hw, h58, am_tnA, am_tnM, Int.reduceToNat, am_addE, am_subE, am_mulE, am_laddE, am_lsubE, am_upO, am_upS, am_stS, am_stO, am_tnn, am_brl, am_brg, am_bre, am_brn, am_brG, am_brL, am_st1, am_no2, am_st2, am_clr]
  refine am_wp_ret rfl rfl ?_
  rw [show (k : Int) + 1 - 1 = (k : Int) by omega]
  refine h _ ⟨fun c c1 c2 => ?_, fun j hj => ?_, ?_, ?_⟩
  · simp (disch := omega) only [am_upO]
  · simp (disch := omega) only [am_upO, am_upS, am_stO]
  · rw [am_upS, am_stS rfl]; omega
  · rw [am_upO (by decide), am_upS, am_upS, am_upS, am_upS]
theorem w_M_sAfter (hw : wd sh R) (hc : rpR I b n lim S.1) (hm : nmR I NM q) (hs : ndR I q S) (hl : S.2.2.length < 40)
    (h0 : ∀ e, sLeaf (lxJ b n lim) NM q 14 S = .inl e → ∀ J, frN I J → J 124 10 = (e.1 : Int) → J 124 11 = (e.2 : Int) → Q (am_yi 0) (m, sl, sh, J, R))
    (h1 : ∀ S', sLeaf (lxJ b n lim) NM q 14 S = .inr S' → ∀ J, frN I J → J 124 10 = I 124 10 → J 124 60 = I 124 60 → J 124 61 = (S'.2.2.length : Int) - 1 → ndR J q S' → rpR J b n lim S'.1 → Q (am_yi 1) (m, sl, sh, J, R)) : am_wp (d + 3) 316 0 [some (.inr (.inr (124))), none] [] (m, sl, sh, I, R) Q := by
  obtain ⟨m1, m2, m3⟩ := hm
  unfold sLeaf at h0 h1
  rw [if_neg (by decide), if_pos rfl] at h0 h1
  refine am_wp_go rfl (by simp (disch := omega) only [s124 hw, am_bn0, am_b0, am_addE, am_subE, am_mulE, am_laddE, am_lsubE, am_upO, am_upS, am_stS, am_stO, am_tnn, am_brl, am_brg, am_bre, am_brn, am_brG, am_brL, am_st1, am_no2, am_st2, am_clr, and_self, true_and, and_true, true_or, or_true, List.length_cons, List.length_nil] <;> omega) ?_
  try simp (disch := omega) only [s124 hw, am_bn0, am_b0, am_addE, am_subE, am_mulE, am_laddE, am_lsubE, am_upO, am_upS, am_stS, am_stO, am_tnn, am_brl, am_brg, am_bre, am_brn, am_brG, am_brL, am_st1, am_no2, am_st2, am_clr]
  refine am_wp_cc rfl rfl rfl (congrArg Prod.fst (s124 hw)) (w_M_isName hw hc ⟨_, rfl, ?_⟩)
  refine am_wp_go rfl (by simp (disch := omega) only [s124 hw, am_bn0, am_b0, am_addE, am_subE, am_mulE, am_laddE, am_lsubE, am_upO, am_upS, am_stS, am_stO, am_tnn, am_brl, am_brg, am_bre, am_brn, am_brG, am_brL, am_st1, am_no2, am_st2, am_clr, and_self, true_and, and_true, true_or, or_true, List.length_cons, List.length_nil] <;> omega) ?_
  try simp (disch := omega) only [s124 hw, am_bn0, am_b0, am_addE, am_subE, am_mulE, am_laddE, am_lsubE, am_upO, am_upS, am_stS, am_stO, am_tnn, am_brl, am_brg, am_bre, am_brn, am_brG, am_brL, am_st1, am_no2, am_st2, am_clr]
  refine am_wp_br (fun b4 => ?_) (fun b4 => ?_)
  · rw [if_neg (fun hx => hx b4)] at h0 h1
    have nmj := cK_2.mp b4
    have lo := (lxJ_ok (b := b) (n := n) (lim := lim) S.1).1 nmj.1
    have e12 := hc.2.2.2.2.1.2.2.1 nmj.1
    have t2 := nmj.1
    clear nmj b4
    refine am_wp_go rfl (by simp (disch := omega) only [s124 hw, r124_18 hw, e12, Int.reduceToNat, am_addE, am_subE, am_mulE, am_laddE, am_lsubE, am_upO, am_upS, am_stS, am_stO, am_tnn, am_brl, am_brg, am_bre, am_brn, am_brG, am_brL, am_st1, am_no2, am_st2, am_clr, and_self, true_and, and_true, true_or, or_true, List.length_cons, List.length_nil] <;> omega) ?_
    try simp (disch := omega) only [s124 hw, r124_18 hw, e12, Int.reduceToNat, am_addE, am_subE, am_mulE, am_laddE, am_lsubE, am_upO, am_upS, am_stS, am_stO, am_tnn, am_brl, am_brg, am_bre, am_brn, am_brG, am_brL, am_st1, am_no2, am_st2, am_clr]
    refine am_wp_cc rfl rfl rfl (congrArg Prod.fst (s124 hw)) (w_M_slices hw ⟨_, rfl, ?_⟩)
    refine am_wp_go rfl (by simp (disch := omega) only [s124 hw, r124_18 hw, e12, m1, Int.reduceToNat, am_addE, am_subE, am_mulE, am_laddE, am_lsubE, am_upO, am_upS, am_stS, am_stO, am_tnn, am_brl, am_brg, am_bre, am_brn, am_brG, am_brL, am_st1, am_no2, am_st2, am_clr, and_self, true_and, and_true, true_or, or_true, List.length_cons, List.length_nil] <;> omega) ?_
    try simp (disch := omega) only [s124 hw, r124_18 hw, e12, m1, Int.reduceToNat, am_addE, am_subE, am_mulE, am_laddE, am_lsubE, am_upO, am_upS, am_stS, am_stO, am_tnn, am_brl, am_brg, am_bre, am_brn, am_brG, am_brL, am_st1, am_no2, am_st2, am_clr]
    refine am_wp_cc rfl rfl rfl (trivial) (w_M_findIn (a := 130) (o := 0) (q := q) (NM := NM) (ws := (lxJ b n lim S.1).2.2.1) rfl (by decide) (s130 hw) (by omega) m3 lo ⟨_, rfl, ?_⟩)
    have kv := kFd_v (NM := NM) (n := q) (ws := (lxJ b n lim S.1).2.2.1)
    generalize kFd NM 0 q (lxJ b n lim S.1).2.2.1 = s at *
    refine am_wp_go rfl (by simp (disch := omega) only [am_addE, am_subE, am_mulE, am_laddE, am_lsubE, am_upO, am_upS, am_stS, am_stO, am_tnn, am_brl, am_brg, am_bre, am_brn, am_brG, am_brL, am_st1, am_no2, am_st2, am_clr, and_self, true_and, and_true, true_or, or_true, List.length_cons, List.length_nil] <;> omega) ?_
    try simp (disch := omega) only [am_addE, am_subE, am_mulE, am_laddE, am_lsubE, am_upO, am_upS, am_stS, am_stO, am_tnn, am_brl, am_brg, am_bre, am_brn, am_brG, am_brL, am_st1, am_no2, am_st2, am_clr]
    refine am_wp_br (fun b32 => ?_) (fun b32 => ?_)
    · rw [if_neg b32] at h0 h1
      have kv := kv b32
      refine am_wp_go rfl (by simp (disch := omega) only [s124 hw, am_addE, am_subE, am_mulE, am_laddE, am_lsubE, am_upO, am_upS, am_stS, am_stO, am_tnn, am_brl, am_brg, am_bre, am_brn, am_brG, am_brL, am_st1, am_no2, am_st2, am_clr, and_self, true_and, and_true, true_or, or_true, List.length_cons, List.length_nil] <;> omega) ?_
      try simp (disch := omega) only [s124 hw, am_addE, am_subE, am_mulE, am_laddE, am_lsubE, am_upO, am_upS, am_stS, am_stO, am_tnn, am_brl, am_brg, am_bre, am_brn, am_brG, am_brL, am_st1, am_no2, am_st2, am_clr]
      refine am_wp_cc rfl rfl rfl (congrArg Prod.fst (s124 hw)) (w_M_saysOne (k := S.2.2.length) hw hs.1 (by omega) (fun J j0 => ⟨_, rfl, ?_⟩))
      refine am_wp_go rfl (by simp (disch := omega) only [s124 hw, am_addE, am_subE, am_mulE, am_laddE, am_lsubE, am_upO, am_upS, am_stS, am_stO, am_tnn, am_brl, am_brg, am_bre, am_brn, am_brG, am_brL, am_st1, am_no2, am_st2, am_clr, and_self, true_and, and_true, true_or, or_true, List.length_cons, List.length_nil] <;> omega) ?_
      try simp (disch := omega) only [s124 hw, am_addE, am_subE, am_mulE, am_laddE, am_lsubE, am_upO, am_upS, am_stS, am_stO, am_tnn, am_brl, am_brg, am_bre, am_brn, am_brG, am_brL, am_st1, am_no2, am_st2, am_clr]
      obtain ⟨v0, v1, v2, v3⟩ := frD_v j0
      have nd : ndR J q (S.1 + 1, S.2.1, S.2.2 ++ [(14, 0, s)]) := nd_say hs j0 (Or.inr (Or.inr (Or.inr (Or.inr (Or.inl ⟨by rw [st_last.1], v0, by rw [st_last.2.2, v1], by rw [st_last.2.2]; exact kv.1, by rw [st_last.2.2]; exact kv.2⟩)))))
      refine am_wp_cc rfl rfl rfl (congrArg Prod.fst (s124 hw)) (w_M_nx hw (rpR_up (a := 124) (k := 61) (x := (S.2.2.length : Int)) (frD_rp j0 hc) (Or.inr ⟨rfl, by decide⟩)) (by omega) (fun K k0 k1 => ⟨_, rfl, ?_⟩))
      refine am_wp_go rfl (by simp (disch := omega) only [s124 hw, am_addE, am_subE, am_mulE, am_laddE, am_lsubE, am_upO, am_upS, am_stS, am_stO, am_tnn, am_brl, am_brg, am_bre, am_brn, am_brG, am_brL, am_st1, am_no2, am_st2, am_clr, and_self, true_and, and_true, true_or, or_true, List.length_cons, List.length_nil] <;> omega) ?_
      try simp (disch := omega) only [s124 hw, am_addE, am_subE, am_mulE, am_laddE, am_lsubE, am_upO, am_upS, am_stS, am_stO, am_tnn, am_brl, am_brg, am_bre, am_brn, am_brG, am_brL, am_st1, am_no2, am_st2, am_clr]
      refine am_wp_ret rfl rfl ?_
      refine h1 _ rfl K (frN_tr (frN_up (frD_N j0) (by decide)) (frN_Q (frQ_6 k0))) ?_ ?_ ?_ ?_ k1
      · rw [fr6_10 k0, am_upS, am_stO (by decide), j0.2.1 10 (by decide)]
      · rw [k0.2 60 (by decide) (by decide) (by decide) (by decide) (by decide) (by decide), am_upS, am_stO (by decide), j0.2.1 60 (by decide)]
      · rw [k0.2 61 (by decide) (by decide) (by decide) (by decide) (by decide) (by decide), am_upS, am_stS rfl]
        dsimp only
        rw [List.length_append, List.length_singleton]
        omega
      · obtain ⟨n1, n2, n3⟩ := nd
        refine ⟨?_, ?_, ?_⟩
        · rw [k0.2 58 (by decide) (by decide) (by decide) (by decide) (by decide) (by decide), am_upS, am_stO (by decide)]; exact n1
        · rw [k0.2 59 (by decide) (by decide) (by decide) (by decide) (by decide) (by decide), am_upS, am_stO (by decide)]; exact n2
        · rw [k0.1 159 (by decide), am_upO (by decide)]; exact n3
    · rw [if_pos (Classical.not_not.mp b32)] at h0
      refine am_wp_go rfl (by simp (disch := omega) only [am_addE, am_subE, am_mulE, am_laddE, am_lsubE, am_upO, am_upS, am_stS, am_stO, am_tnn, am_brl, am_brg, am_bre, am_brn, am_brG, am_brL, am_st1, am_no2, am_st2, am_clr, and_self, true_and, and_true, true_or, or_true, List.length_cons, List.length_nil] <;> omega) ?_
      try simp (disch := omega) only [am_addE, am_subE, am_mulE, am_laddE, am_lsubE, am_upO, am_upS, am_stS, am_stO, am_tnn, am_brl, am_brg, am_bre, am_brn, am_brG, am_brL, am_st1, am_no2, am_st2, am_clr]
      refine am_wp_cc rfl rfl rfl (congrArg Prod.fst (s124 hw)) (w_M_bad' (k := 3) rfl hw hc (Or.inr (by omega)) (fun J j0 j1 j2 => ⟨_, rfl, ?_⟩))
      refine am_wp_ret rfl rfl ?_
      exact h0 _ rfl J (frN_Q j0) j1 j2
  · rw [if_pos b4] at h0
    refine am_wp_go rfl (by simp (disch := omega) only [s124 hw, am_bn0, am_b0, am_addE, am_subE, am_mulE, am_laddE, am_lsubE, am_upO, am_upS, am_stS, am_stO, am_tnn, am_brl, am_brg, am_bre, am_brn, am_brG, am_brL, am_st1, am_no2, am_st2, am_clr, and_self, true_and, and_true, true_or, or_true, List.length_cons, List.length_nil] <;> omega) ?_
    try simp (disch := omega) only [s124 hw, am_bn0, am_b0, am_addE, am_subE, am_mulE, am_laddE, am_lsubE, am_upO, am_upS, am_stS, am_stO, am_tnn, am_brl, am_brg, am_bre, am_brn, am_brG, am_brL, am_st1, am_no2, am_st2, am_clr]
    refine am_wp_cc rfl rfl rfl (congrArg Prod.fst (s124 hw)) (w_M_bad' (k := 1) rfl hw hc (Or.inl rfl) (fun J j0 j1 j2 => ⟨_, rfl, ?_⟩))
    refine am_wp_ret rfl rfl ?_
    exact h0 _ rfl J (frN_Q j0) j1 j2
end SR
