/-! A KITCHEN's text: the class's lines -/
theorem fr55 {I J : Nat → Nat → Int} (h : frA I J) : J 55 1 = I 55 1 := h.2 1 (by decide) (by decide) (by decide) (by decide) (by decide) (by decide)
theorem tpC_up {I : Nat → Nat → Int} {T : Nat → Tk} {N j a k : Nat} {x : Int} (h : tpC I T N j) (ha : a ≠ 55 ∧ a ≠ 58 ∧ a ≠ 59 ∧ a ≠ 60) : tpC (am_up I a k x) T N j := tpC_fr h (fun k _ _ _ => by rw [am_upO (by omega)]) (am_upO (by omega)) (am_upO (by omega)) (am_upO (by omega))
theorem frK_up {I J : Nat → Nat → Int} {a k : Nat} {x : Int} (h : frK I J) (ha : 40 ≤ a ∧ a ≤ 47) : frK I (am_up J a k x) := ⟨fun b hb => by rw [am_upO (by omega), h.1 b hb], by rw [am_upO (by omega), h.2]⟩
theorem kN_0 {T : Nat → Tk} {j a b : Nat} {k : Nat → KR} (h : nmF (T j) a b ≠ 0) : kN T j a b k = .inl (nmF (T j) a b, plT T j) := if_pos h
theorem kN_1 {T : Nat → Tk} {j a b : Nat} {k : Nat → KR} (h : nmF (T j) a b = 0) : kN T j a b k = k (T j).2.2.2 := if_neg (fun hx => hx h)
def kSet (T : Nat → Tk) (S : KS) (w : Nat) : KR := if w = 0 then kPlain T S 0 1 4 else if w = 1 then kPlain T S 1 0 9 else if w = 2 then kPlain T S 2 0 99 else kBurn T S
section KP
variable {m sl : Nat} {sh : Nat → Nat × Nat} {I : Nat → Nat → Int} {R : Nat → Nat → Nat} {Q : am_R → am_M → Prop} {d : Nat} {N j : Nat} {T : Nat → Tk} {S : KS}
theorem w_readBurn (hw : wd sh R) (hc : tpC I T N j)
    (h0 : ∀ J (k p : Nat), frK I J → J 55 11 = (k : Int) → J 55 12 = (p : Int) → (nmF (T j) 0 19 ≠ 0 ∧ k = nmF (T j) 0 19 ∧ p = plT T j ∨ nmF (T j) 0 19 = 0 ∧ nmF (T (j + 1)) ((T j).2.2.2 + 1) 20 ≠ 0 ∧ k = nmF (T (j + 1)) ((T j).2.2.2 + 1) 20 ∧ p = plT T (j + 1)) → Q (am_yi 0) (m, sl, sh, J, R))
    (h1 : nmF (T j) 0 19 = 0 → nmF (T (j + 1)) ((T j).2.2.2 + 1) 20 = 0 → (T j).2.2.2 < (T (j + 1)).2.2.2 → (T (j + 1)).2.2.2 ≤ 20 → ∀ J, (∀ a, a ≠ 40 → a ≠ 55 → J a = I a) → J 55 1 = I 55 1 → J 40 = am_set (am_set (I 40) 4 ((T j).2.2.2 : Int)) 5 ((T (j + 1)).2.2.2 : Int) → tpC J T N (j + 2) → Q (am_yi 1) (m, sl, sh, J, R)) : am_wp (d + 2) 32 0 [some (.inr (.inr (40))), some (.inr (.inr (55)))] [] (m, sl, sh, I, R) Q := by
  have w0 := fun (Q : am_R → am_M → Prop) h0 h1 => w_takeNumber (m := m) (sl := sl) (R := R) (Q := Q) (d := d) (a := 0) (b := 19) hw hc h0 h1
  simp only [Int.natCast_zero, show ((19 : Nat) : Int) = 19 from rfl] at w0
  refine am_wp_go rfl (by simp (disch := omega) only [s40 hw, am_addE, am_subE, am_mulE, am_laddE, am_lsubE, am_upO, am_upS, am_stS, am_stO, am_tnn, am_brl, am_brg, am_bre, am_brn, am_brG, am_brL, am_st1, am_no2, am_st2, am_clr, and_self, true_and, and_true, true_or, or_true, List.length_cons, List.length_nil] <;> omega) ?_
  try simp (disch := omega) only [s40 hw, am_addE, am_subE, am_mulE, am_laddE, am_lsubE, am_upO, am_upS, am_stS, am_stO, am_tnn, am_brl, am_brg, am_bre, am_brn, am_brG, am_brL, am_st1, am_no2, am_st2, am_clr]
  refine am_wp_cc rfl rfl rfl (congrArg Prod.fst (s55 hw)) (w0 _ (fun n0 J j0 j1 j2 => ⟨_, rfl, ?_⟩) (fun n0 l1 l2 J j0 j1 j2 j3 => ⟨_, rfl, ?_⟩))
  · refine am_wp_go rfl (by simp (disch := omega) only [s40 hw, am_addE, am_subE, am_mulE, am_laddE, am_lsubE, am_upO, am_upS, am_stS, am_stO, am_tnn, am_brl, am_brg, am_bre, am_brn, am_brG, am_brL, am_st1, am_no2, am_st2, am_clr, and_self, true_and, and_true, true_or, or_true, List.length_cons, List.length_nil] <;> omega) ?_
    try simp (disch := omega) only [s40 hw, am_addE, am_subE, am_mulE, am_laddE, am_lsubE, am_upO, am_upS, am_stS, am_stO, am_tnn, am_brl, am_brg, am_bre, am_brn, am_brG, am_brL, am_st1, am_no2, am_st2, am_clr]
    refine am_wp_br (fun b16 => ?_) (fun b16 => ?_)
    · first | omega | exact absurd trivial b16 | exact absurd rfl b16 | exact absurd b16 (by decide)
    · refine am_wp_go rfl (by simp (disch := omega) only [s40 hw, am_addE, am_subE, am_mulE, am_laddE, am_lsubE, am_upO, am_upS, am_stS, am_stO, am_tnn, am_brl, am_brg, am_bre, am_brn, am_brG, am_brL, am_st1, am_no2, am_st2, am_clr, and_self, true_and, and_true, true_or, or_true, List.length_cons, List.length_nil] <;> omega) ?_
      try simp (disch := omega) only [s40 hw, am_addE, am_subE, am_mulE, am_laddE, am_lsubE, am_upO, am_upS, am_stS, am_stO, am_tnn, am_brl, am_brg, am_bre, am_brn, am_brG, am_brL, am_st1, am_no2, am_st2, am_clr]
      refine am_wp_ret rfl rfl ?_
      exact h0 _ _ _ (frK_up (frK_A j0) (by decide)) (by rw [am_upO (by decide)]; exact j1) (by rw [am_upO (by decide)]; exact j2) (Or.inl ⟨n0, rfl, rfl⟩)
  · have v40 : am_up J 40 4 ((T j).2.2.2 : Int) 40 4 = ((T j).2.2.2 : Int) := by rw [am_upS, am_stS rfl]
    refine am_wp_go rfl (by simp (disch := omega) only [s40 hw, v40, am_addE, am_subE, am_mulE, am_laddE, am_lsubE, am_upO, am_upS, am_stS, am_stO, am_tnn, am_brl, am_brg, am_bre, am_brn, am_brG, am_brL, am_st1, am_no2, am_st2, am_clr, and_self, true_and, and_true, true_or, or_true, List.length_cons, List.length_nil] <;> omega) ?_
    try simp (disch := omega) only [s40 hw, v40, am_addE, am_subE, am_mulE, am_laddE, am_lsubE, am_upO, am_upS, am_stS, am_stO, am_tnn, am_brl, am_brg, am_bre, am_brn, am_brG, am_brL, am_st1, am_no2, am_st2, am_clr]
    refine am_wp_br (fun b16 => ?_) (fun b16 => ?_)
    · have tc := tpC_up (a := 40) (k := 4) (x := ((T j).2.2.2 : Int)) j3 (by decide)
      have w1 := fun (Q : am_R → am_M → Prop) h0 h1 => w_takeNumber (m := m) (sl := sl) (R := R) (Q := Q) (d := d) (a := (T j).2.2.2 + 1) (b := 20) hw tc h0 h1
      simp only [Int.natCast_add, Int.natCast_one, show ((20 : Nat) : Int) = 20 from rfl] at w1
      refine am_wp_go rfl (by simp (disch := omega) only [s40 hw, v40, am_addE, am_subE, am_mulE, am_laddE, am_lsubE, am_upO, am_upS, am_stS, am_stO, am_tnn, am_brl, am_brg, am_bre, am_brn, am_brG, am_brL, am_st1, am_no2, am_st2, am_clr, and_self, true_and, and_true, true_or, or_true, List.length_cons, List.length_nil] <;> omega) ?_
      try simp (disch := omega) only [s40 hw, v40, am_addE, am_subE, am_mulE, am_laddE, am_lsubE, am_upO, am_upS, am_stS, am_stO, am_tnn, am_brl, am_brg, am_bre, am_brn, am_brG, am_brL, am_st1, am_no2, am_st2, am_clr]
      refine am_wp_cc rfl rfl rfl (congrArg Prod.fst (s55 hw)) (w1 _ (fun n1 K k0 k1 k2 => ⟨_, rfl, ?_⟩) (fun n1 l3 l4 K k0 k1 k2 k3 => ⟨_, rfl, ?_⟩))
      · skip
        refine am_wp_go rfl (by simp (disch := omega) only [s40 hw, am_addE, am_subE, am_mulE, am_laddE, am_lsubE, am_upO, am_upS, am_stS, am_stO, am_tnn, am_brl, am_brg, am_bre, am_brn, am_brG, am_brL, am_st1, am_no2, am_st2, am_clr, and_self, true_and, and_true, true_or, or_true, List.length_cons, List.length_nil] <;> omega) ?_
        try simp (disch := omega) only [s40 hw, am_addE, am_subE, am_mulE, am_laddE, am_lsubE, am_upO, am_upS, am_stS, am_stO, am_tnn, am_brl, am_brg, am_bre, am_brn, am_brG, am_brL, am_st1, am_no2, am_st2, am_clr]
        refine am_wp_br (fun b42 => ?_) (fun b42 => ?_)
        · refine am_wp_go rfl (by simp (disch := omega) only [s40 hw, am_addE, am_subE, am_mulE, am_laddE, am_lsubE, am_upO, am_upS, am_stS, am_stO, am_tnn, am_brl, am_brg, am_bre, am_brn, am_brG, am_brL, am_st1, am_no2, am_st2, am_clr, and_self, true_and, and_true, true_or, or_true, List.length_cons, List.length_nil] <;> omega) ?_
          try simp (disch := omega) only [s40 hw, am_addE, am_subE, am_mulE, am_laddE, am_lsubE, am_upO, am_upS, am_stS, am_stO, am_tnn, am_brl, am_brg, am_bre, am_brn, am_brG, am_brL, am_st1, am_no2, am_st2, am_clr]
          refine am_wp_ret rfl rfl ?_
          exact h0 _ _ _ (frK_up (frK_tr (frK_up (frK_A j0) (by decide)) (frK_A k0)) (by decide)) (by rw [am_upO (by decide)]; exact k1) (by rw [am_upO (by decide)]; exact k2) (Or.inr ⟨n0, n1, rfl, rfl⟩)
        · first | omega | exact absurd trivial b42 | exact absurd rfl b42 | exact absurd b42 (by decide)
      · have v5 : am_up K 40 5 ((T (j + 1)).2.2.2 : Int) 40 5 = ((T (j + 1)).2.2.2 : Int) := by rw [am_upS, am_stS rfl]
        refine am_wp_go rfl (by simp (disch := omega) only [s40 hw, v5, am_addE, am_subE, am_mulE, am_laddE, am_lsubE, am_upO, am_upS, am_stS, am_stO, am_tnn, am_brl, am_brg, am_bre, am_brn, am_brG, am_brL, am_st1, am_no2, am_st2, am_clr, and_self, true_and, and_true, true_or, or_true, List.length_cons, List.length_nil] <;> omega) ?_
        try simp (disch := omega) only [s40 hw, v5, am_addE, am_subE, am_mulE, am_laddE, am_lsubE, am_upO, am_upS, am_stS, am_stO, am_tnn, am_brl, am_brg, am_bre, am_brn, am_brG, am_brL, am_st1, am_no2, am_st2, am_clr]
        refine am_wp_br (fun b42 => ?_) (fun b42 => ?_)
        · omega
        · refine am_wp_go rfl (by simp (disch := omega) only [s40 hw, v5, am_addE, am_subE, am_mulE, am_laddE, am_lsubE, am_upO, am_upS, am_stS, am_stO, am_tnn, am_brl, am_brg, am_bre, am_brn, am_brG, am_brL, am_st1, am_no2, am_st2, am_clr, and_self, true_and, and_true, true_or, or_true, List.length_cons, List.length_nil] <;> omega) ?_
          try simp (disch := omega) only [s40 hw, v5, am_addE, am_subE, am_mulE, am_laddE, am_lsubE, am_upO, am_upS, am_stS, am_stO, am_tnn, am_brl, am_brg, am_bre, am_brn, am_brG, am_brL, am_st1, am_no2, am_st2, am_clr]
          refine am_wp_ret rfl rfl ?_
          refine h1 n0 n1 (by omega) l4 _ (fun a a1 a2 => by rw [am_upO a1, k0.1 a a2, am_upO a1, j0.1 a a2]) ?_ ?_ (tpC_up k3 (by decide))
          · rw [am_upO (by decide), fr55 k0, am_upO (by decide), fr55 j0]
          · rw [am_upS, k0.1 40 (by decide), am_upS, j0.1 40 (by decide)]
    · omega
set_option maxHeartbeats 4000000 in
theorem w_readSetting {w : Nat} (hw : wd sh R) (hw3 : w ≤ 3) (hc : tpC I T N S.1) (ho : owC (T S.1) = (w : Int)) (hr : krC I S)
    (h0 : ∀ e, kSet T S w = .inl e → ∀ J, frK I J → J 55 11 = (e.1 : Int) → J 55 12 = (e.2 : Int) → Q (am_yi 0) (m, sl, sh, J, R))
    (h1 : ∀ S', kSet T S w = .inr S' → ∀ J, frK I J → krC J S' → J 40 0 = I 40 0 → tpC J T N S'.1 → Q (am_yi 1) (m, sl, sh, J, R)) : am_wp (d + 3) 31 0 [some (.inr (.inr (40))), some (.inr (.inr (55))), none] [] (m, sl, sh, I, R) Q := by
  obtain ⟨r1, ⟨r2, r2'⟩, r3, r4⟩ := id hr
  have e10 : I 55 10 = (w : Int) := by rw [hc.2.2.2.2.2.2.2, ho]
  have k2 : 2 ≤ (T S.1).1 := by have := ow_le (t := T S.1) (by omega); omega
  have o4 : S.2.2.1.testBit w = decide (S.2.2.1 / 2 ^ w % 2 = 1) := Nat.testBit_eq_decide_div_mod_eq
  have o6 : ((S.2.2.1 : Int)) / 2 ^ w = ((S.2.2.1 / 2 ^ w : Nat) : Int) := by simp
  have o7 := Nat.div_le_self S.2.2.1 (2 ^ w)
  generalize S.2.2.1 / 2 ^ w = q at o4 o6 o7
  have p2 : 2 ^ w ≤ 8 := Nat.le_trans (Nat.pow_le_pow_right (by decide) hw3) (by decide)
  have ob : S.2.2.1 ||| 2 ^ w < 16 := Nat.or_lt_two_pow (n := 4) r2' (by omega)
  refine am_wp_go rfl (by simp (disch := omega) only [s40 hw, s55 hw, e10, r2, am_ushrN, o6, am_and1, am_addE, am_subE, am_mulE, am_laddE, am_lsubE, am_upO, am_upS, am_stS, am_stO, am_tnn, am_brl, am_brg, am_bre, am_brn, am_brG, am_brL, am_st1, am_no2, am_st2, am_clr, and_self, true_and, and_true, true_or, or_true, List.length_cons, List.length_nil] <;> omega) ?_
  try simp (disch := omega) only [s40 hw, s55 hw, e10, r2, am_ushrN, o6, am_and1, am_addE, am_subE, am_mulE, am_laddE, am_lsubE, am_upO, am_upS, am_stS, am_stO, am_tnn, am_brl, am_brg, am_bre, am_brn, am_brG, am_brL, am_st1, am_no2, am_st2, am_clr]
  refine am_wp_br (fun b13 => ?_) (fun b13 => ?_)
  · have nt : ¬ S.2.2.1.testBit w = true := by rw [o4, decide_eq_true_iff]; omega
    refine am_wp_go rfl (by simp (disch := omega) only [s40 hw, s55 hw, e10, r2, am_shl1, am_orN, am_addE, am_subE, am_mulE, am_laddE, am_lsubE, am_upO, am_upS, am_stS, am_stO, am_tnn, am_brl, am_brg, am_bre, am_brn, am_brG, am_brL, am_st1, am_no2, am_st2, am_clr, and_self, true_and, and_true, true_or, or_true, List.length_cons, List.length_nil] <;> omega) ?_
    try simp (disch := omega) only [s40 hw, s55 hw, e10, r2, am_shl1, am_orN, am_addE, am_subE, am_mulE, am_laddE, am_lsubE, am_upO, am_upS, am_stS, am_stO, am_tnn, am_brl, am_brg, am_bre, am_brn, am_brG, am_brL, am_st1, am_no2, am_st2, am_clr]
    have tc := tpC_up (a := 40) (k := 10) (x := ((S.2.2.1 ||| 2 ^ w : Nat) : Int)) hc (by decide)
    refine am_wp_cc rfl rfl rfl (congrArg Prod.fst (s55 hw)) (w_advance hw tc k2 (fun J j0 j1 j2 j3 => ⟨_, rfl, ?_⟩))
    have fJ : frK I J := frK_tr (frK_up ⟨fun _ _ => rfl, rfl⟩ (by decide)) (frK_A j0)
    have aJ : ∀ a, a ≠ 40 → a ≠ 55 → J a = I a := fun a a1 a2 => by rw [j0.1 a a2, am_upO a1]
    have hJ : J 40 = am_set (I 40) 10 ((S.2.2.1 ||| 2 ^ w : Nat) : Int) := by rw [j0.1 40 (by decide), am_upS]
    -- another number
    have PL : ∀ (w' : Nat) (v : Int) (K : Nat → Nat → Int), w' ≤ 2 → w' = w → ((w' = 0 → 1 ≤ v ∧ v ≤ 4) ∧ (w' = 1 → 0 ≤ v ∧ v ≤ 9) ∧ (w' = 2 → 0 ≤ v ∧ v ≤ 99)) → (∀ a, a ≠ 40 → a ≠ 55 → K a = I a) → K 40 = am_set (am_set (I 40) 10 ((S.2.2.1 ||| 2 ^ w : Nat) : Int)) (w' + 1) v → krC K (S.1 + 2, am_set S.2.1 w' v, S.2.2.1 ||| 2 ^ w, S.2.2.2) := fun w' v K hw2 hww hv ka k40 => by
      refine ⟨kit_hd r1 hw2 hv (fun a a1 a2 => ka a (by omega) (by omega)) (fun j hj => ?_), ⟨?_, ob⟩, ?_, ?_⟩
      · rw [k40]
        by_cases hjw : j = w' + 1
        · rw [am_stS hjw, am_stS hjw]
        · rw [am_stO hjw, am_stO hjw, am_stO (by omega)]
      · rw [k40, am_stO (by omega), am_stS rfl]
      · have e : nS (am_set S.2.1 w' v) = nS S.2.1 := by unfold nS; rw [am_stO (by omega)]
        dsimp only
        rw [e, ka 46 (by decide) (by decide)]; exact r3
      · have e : nG (am_set S.2.1 w' v) = nG S.2.1 := by unfold nG; rw [am_stO (by omega)]
        dsimp only
        rw [e, ka 47 (by decide) (by decide)]; exact r4
    clear hr r2
    unfold kSet at h0 h1
    refine am_wp_go rfl (by simp (disch := omega) only [s40 hw, s55 hw, am_addE, am_subE, am_mulE, am_laddE, am_lsubE, am_upO, am_upS, am_stS, am_stO, am_tnn, am_brl, am_brg, am_bre, am_brn, am_brG, am_brL, am_st1, am_no2, am_st2, am_clr, and_self, true_and, and_true, true_or, or_true, List.length_cons, List.length_nil] <;> omega) ?_
    refine am_wp_tsw rfl (fun q39 => ?_) ⟨fun q39 => ?_, fun q39 => ?_, fun q39 => ?_, trivial⟩
    · refine am_wp_pc (pc' := 138) rfl ?_
      have e3 : w = 3 := by omega
      subst e3
      rw [if_neg (by decide), if_neg (by decide), if_neg (by decide)] at h0 h1
      unfold kBurn at h0 h1
      rw [if_neg nt] at h0 h1
      clear PL
      refine am_wp_go rfl (by simp (disch := omega) only [s40 hw, s55 hw, am_addE, am_subE, am_mulE, am_laddE, am_lsubE, am_upO, am_upS, am_stS, am_stO, am_tnn, am_brl, am_brg, am_bre, am_brn, am_brG, am_brL, am_st1, am_no2, am_st2, am_clr, and_self, true_and, and_true, true_or, or_true, List.length_cons, List.length_nil] <;> omega) ?_
      try simp (disch := omega) only [s40 hw, s55 hw, am_addE, am_subE, am_mulE, am_laddE, am_lsubE, am_upO, am_upS, am_stS, am_stO, am_tnn, am_brl, am_brg, am_bre, am_brn, am_brG, am_brL, am_st1, am_no2, am_st2, am_clr]
      refine am_wp_cc rfl rfl rfl (congrArg Prod.fst (s40 hw)) (w_readBurn hw j3 (fun K k p f1 f2 f3 hca => ⟨_, rfl, ?_⟩) (fun n0 n1 l1 l2 K ka kf k40 kt => ⟨_, rfl, ?_⟩))
      · refine am_wp_ret rfl rfl ?_
        rcases hca with ⟨a1, a2, a3⟩ | ⟨a0, a1, a2, a3⟩
        · rw [kN_0 a1] at h0
          exact h0 _ rfl K (frK_tr fJ f1) (by rw [f2, a2]) (by rw [f3, a3])
        · rw [kN_1 a0, kN_0 (j := S.1 + 2) a1] at h0
          exact h0 _ rfl K (frK_tr fJ f1) (by rw [f2, a2]) (by rw [f3, a3])
      · refine am_wp_ret rfl rfl ?_
        rw [kN_1 n0, kN_1 (j := S.1 + 2) n1] at h1
        have ka' : ∀ a, a ≠ 40 → a ≠ 55 → K a = I a := fun a a1 a2 => by rw [ka a a1 a2, aJ a a1 a2]
        rw [hJ] at k40
        rw [show S.1 + 1 + 1 = S.1 + 2 from rfl] at k40 l1 l2
        refine h1 _ rfl K ⟨fun a ha => ka' a (by omega) (by omega), by rw [kf, fJ.2]⟩ ⟨kit_bn r1 ⟨by omega, by omega, by omega⟩ (fun a a1 a2 => ka' a (by omega) (by omega)) (fun j hj => ?_), ⟨?_, ob⟩, ?_, ?_⟩ ?_ kt
        · rw [k40]
          by_cases h5 : j = 5
          · rw [am_stS h5, am_stS h5]
          · rw [am_stO h5, am_stO h5]
            by_cases h4 : j = 4
            · rw [am_stS h4, am_stS h4]
            · rw [am_stO h4, am_stO h4, am_stO (by omega)]
        · rw [k40, am_stO (by decide), am_stO (by decide), am_stS rfl]
        · have e : nS (am_set (am_set S.2.1 3 ((T (S.1 + 1)).2.2.2 : Int)) 4 ((T (S.1 + 2)).2.2.2 : Int)) = nS S.2.1 := by unfold nS; rw [am_stO (by decide), am_stO (by decide)]
          dsimp only
          rw [e, ka' 46 (by decide) (by decide)]; exact r3
        · have e : nG (am_set (am_set S.2.1 3 ((T (S.1 + 1)).2.2.2 : Int)) 4 ((T (S.1 + 2)).2.2.2 : Int)) = nG S.2.1 := by unfold nG; rw [am_stO (by decide), am_stO (by decide)]
          dsimp only
          rw [e, ka' 47 (by decide) (by decide)]; exact r4
        · rw [k40, am_stO (by decide), am_stO (by decide), am_stO (by decide)]
    · refine am_wp_pc (pc' := 64) rfl ?_
      have e3 : w = 0 := by omega
      subst e3
      rw [if_pos rfl] at h0 h1
      unfold kPlain at h0 h1
      rw [if_neg nt] at h0 h1
      unfold kN at h0 h1
      have w1 := fun (Q : am_R → am_M → Prop) h0 h1 => w_takeNumber (m := m) (sl := sl) (R := R) (Q := Q) (d := d + 1) (a := 1) (b := 4) hw j3 h0 h1
      simp only [show ((1 : Nat) : Int) = 1 from rfl, show ((4 : Nat) : Int) = 4 from rfl] at w1
      refine am_wp_go rfl (by simp (disch := omega) only [s40 hw, s55 hw, am_addE, am_subE, am_mulE, am_laddE, am_lsubE, am_upO, am_upS, am_stS, am_stO, am_tnn, am_brl, am_brg, am_bre, am_brn, am_brG, am_brL, am_st1, am_no2, am_st2, am_clr, and_self, true_and, and_true, true_or, or_true, List.length_cons, List.length_nil] <;> omega) ?_
      try simp (disch := omega) only [s40 hw, s55 hw, am_addE, am_subE, am_mulE, am_laddE, am_lsubE, am_upO, am_upS, am_stS, am_stO, am_tnn, am_brl, am_brg, am_bre, am_brn, am_brG, am_brL, am_st1, am_no2, am_st2, am_clr]
      refine am_wp_cc rfl rfl rfl (congrArg Prod.fst (s55 hw)) (w1 _ (fun n0 K k0 k1 k2 => ⟨_, rfl, ?_⟩) (fun n0 l1 l2 K k0 k1 k2 k3 => ⟨_, rfl, ?_⟩))
      · rw [if_pos n0] at h0
        refine am_wp_go rfl (by simp (disch := omega) only [s40 hw, s55 hw, am_addE, am_subE, am_mulE, am_laddE, am_lsubE, am_upO, am_upS, am_stS, am_stO, am_tnn, am_brl, am_brg, am_bre, am_brn, am_brG, am_brL, am_st1, am_no2, am_st2, am_clr, and_self, true_and, and_true, true_or, or_true, List.length_cons, List.length_nil] <;> omega) ?_
        try simp (disch := omega) only [s40 hw, s55 hw, am_addE, am_subE, am_mulE, am_laddE, am_lsubE, am_upO, am_upS, am_stS, am_stO, am_tnn, am_brl, am_brg, am_bre, am_brn, am_brG, am_brL, am_st1, am_no2, am_st2, am_clr]
        refine am_wp_br (fun b79 => ?_) (fun b79 => ?_)
        · refine am_wp_go rfl (by simp (disch := omega) only [s40 hw, s55 hw, am_addE, am_subE, am_mulE, am_laddE, am_lsubE, am_upO, am_upS, am_stS, am_stO, am_tnn, am_brl, am_brg, am_bre, am_brn, am_brG, am_brL, am_st1, am_no2, am_st2, am_clr, and_self, true_and, and_true, true_or, or_true, List.length_cons, List.length_nil] <;> omega) ?_
          try simp (disch := omega) only [s40 hw, s55 hw, am_addE, am_subE, am_mulE, am_laddE, am_lsubE, am_upO, am_upS, am_stS, am_stO, am_tnn, am_brl, am_brg, am_bre, am_brn, am_brG, am_brL, am_st1, am_no2, am_st2, am_clr]
          refine am_wp_ret rfl rfl ?_
          exact h0 _ rfl _ (frK_up (frK_tr fJ (frK_A k0)) (by decide)) (by rw [am_upO (by decide)]; exact k1) (by rw [am_upO (by decide)]; exact k2)
        · first | omega | exact absurd trivial b79 | exact absurd rfl b79 | exact absurd b79 (by decide)
      · rw [if_neg (fun hx => hx n0)] at h1
        have v40 : am_up K 40 1 ((T (S.1 + 1)).2.2.2 : Int) 40 1 = ((T (S.1 + 1)).2.2.2 : Int) := by rw [am_upS, am_stS rfl]
        refine am_wp_go rfl (by simp (disch := omega) only [s40 hw, s55 hw, v40, am_addE, am_subE, am_mulE, am_laddE, am_lsubE, am_upO, am_upS, am_stS, am_stO, am_tnn, am_brl, am_brg, am_bre, am_brn, am_brG, am_brL, am_st1, am_no2, am_st2, am_clr, and_self, true_and, and_true, true_or, or_true, List.length_cons, List.length_nil] <;> omega) ?_
        try simp (disch := omega) only [s40 hw, s55 hw, v40, am_addE, am_subE, am_mulE, am_laddE, am_lsubE, am_upO, am_upS, am_stS, am_stO, am_tnn, am_brl, am_brg, am_bre, am_brn, am_brG, am_brL, am_st1, am_no2, am_st2, am_clr]
        refine am_wp_br (fun b79 => ?_) (fun b79 => ?_)
        · omega
        · refine am_wp_go rfl (by simp (disch := omega) only [s40 hw, s55 hw, v40, am_addE, am_subE, am_mulE, am_laddE, am_lsubE, am_upO, am_upS, am_stS, am_stO, am_tnn, am_brl, am_brg, am_bre, am_brn, am_brG, am_brL, am_st1, am_no2, am_st2, am_clr, and_self, true_and, and_true, true_or, or_true, List.length_cons, List.length_nil] <;> omega) ?_
          try simp (disch := omega) only [s40 hw, s55 hw, v40, am_addE, am_subE, am_mulE, am_laddE, am_lsubE, am_upO, am_upS, am_stS, am_stO, am_tnn, am_brl, am_brg, am_bre, am_brn, am_brG, am_brL, am_st1, am_no2, am_st2, am_clr]
          refine am_wp_ret rfl rfl ?_
          refine h1 _ rfl _ (frK_up (frK_tr fJ (frK_A k0)) (by decide)) (PL 0 ((T (S.1 + 1)).2.2.2 : Int) _ (by decide) rfl ⟨fun hx => by omega, fun hx => by omega, fun hx => by omega⟩ (fun a a1 a2 => by rw [am_upO a1, k0.1 a a2, aJ a a1 a2]) ?_) ?_ (tpC_up k3 (by decide))
          · rw [am_upS, k0.1 40 (by decide), hJ]
          · rw [am_upS, am_stO (by decide), k0.1 40 (by decide), hJ, am_stO (by decide)]
    · refine am_wp_pc (pc' := 88) rfl ?_
      have e3 : w = 1 := by omega
      subst e3
      rw [if_neg (by decide), if_pos rfl] at h0 h1
      unfold kPlain at h0 h1
      rw [if_neg nt] at h0 h1
      unfold kN at h0 h1
      have w1 := fun (Q : am_R → am_M → Prop) h0 h1 => w_takeNumber (m := m) (sl := sl) (R := R) (Q := Q) (d := d + 1) (a := 0) (b := 9) hw j3 h0 h1
      simp only [show ((0 : Nat) : Int) = 0 from rfl, show ((9 : Nat) : Int) = 9 from rfl] at w1
      refine am_wp_go rfl (by simp (disch := omega) only [s40 hw, s55 hw, am_addE, am_subE, am_mulE, am_laddE, am_lsubE, am_upO, am_upS, am_stS, am_stO, am_tnn, am_brl, am_brg, am_bre, am_brn, am_brG, am_brL, am_st1, am_no2, am_st2, am_clr, and_self, true_and, and_true, true_or, or_true, List.length_cons, List.length_nil] <;> omega) ?_
      try simp (disch := omega) only [s40 hw, s55 hw, am_addE, am_subE, am_mulE, am_laddE, am_lsubE, am_upO, am_upS, am_stS, am_stO, am_tnn, am_brl, am_brg, am_bre, am_brn, am_brG, am_brL, am_st1, am_no2, am_st2, am_clr]
      refine am_wp_cc rfl rfl rfl (congrArg Prod.fst (s55 hw)) (w1 _ (fun n0 K k0 k1 k2 => ⟨_, rfl, ?_⟩) (fun n0 l1 l2 K k0 k1 k2 k3 => ⟨_, rfl, ?_⟩))
      · rw [if_pos n0] at h0
        refine am_wp_go rfl (by simp (disch := omega) only [s40 hw, s55 hw, am_addE, am_subE, am_mulE, am_laddE, am_lsubE, am_upO, am_upS, am_stS, am_stO, am_tnn, am_brl, am_brg, am_bre, am_brn, am_brG, am_brL, am_st1, am_no2, am_st2, am_clr, and_self, true_and, and_true, true_or, or_true, List.length_cons, List.length_nil] <;> omega) ?_
        try simp (disch := omega) only [s40 hw, s55 hw, am_addE, am_subE, am_mulE, am_laddE, am_lsubE, am_upO, am_upS, am_stS, am_stO, am_tnn, am_brl, am_brg, am_bre, am_brn, am_brG, am_brL, am_st1, am_no2, am_st2, am_clr]
        refine am_wp_br (fun b104 => ?_) (fun b104 => ?_)
        · refine am_wp_go rfl (by simp (disch := omega) only [s40 hw, s55 hw, am_addE, am_subE, am_mulE, am_laddE, am_lsubE, am_upO, am_upS, am_stS, am_stO, am_tnn, am_brl, am_brg, am_bre, am_brn, am_brG, am_brL, am_st1, am_no2, am_st2, am_clr, and_self, true_and, and_true, true_or, or_true, List.length_cons, List.length_nil] <;> omega) ?_
          try simp (disch := omega) only [s40 hw, s55 hw, am_addE, am_subE, am_mulE, am_laddE, am_lsubE, am_upO, am_upS, am_stS, am_stO, am_tnn, am_brl, am_brg, am_bre, am_brn, am_brG, am_brL, am_st1, am_no2, am_st2, am_clr]
          refine am_wp_ret rfl rfl ?_
          exact h0 _ rfl _ (frK_up (frK_tr fJ (frK_A k0)) (by decide)) (by rw [am_upO (by decide)]; exact k1) (by rw [am_upO (by decide)]; exact k2)
        · first | omega | exact absurd trivial b104 | exact absurd rfl b104 | exact absurd b104 (by decide)
      · rw [if_neg (fun hx => hx n0)] at h1
        have v40 : am_up K 40 2 ((T (S.1 + 1)).2.2.2 : Int) 40 2 = ((T (S.1 + 1)).2.2.2 : Int) := by rw [am_upS, am_stS rfl]
        refine am_wp_go rfl (by simp (disch := omega) only [s40 hw, s55 hw, v40, am_addE, am_subE, am_mulE, am_laddE, am_lsubE, am_upO, am_upS, am_stS, am_stO, am_tnn, am_brl, am_brg, am_bre, am_brn, am_brG, am_brL, am_st1, am_no2, am_st2, am_clr, and_self, true_and, and_true, true_or, or_true, List.length_cons, List.length_nil] <;> omega) ?_
        try simp (disch := omega) only [s40 hw, s55 hw, v40, am_addE, am_subE, am_mulE, am_laddE, am_lsubE, am_upO, am_upS, am_stS, am_stO, am_tnn, am_brl, am_brg, am_bre, am_brn, am_brG, am_brL, am_st1, am_no2, am_st2, am_clr]
        refine am_wp_br (fun b104 => ?_) (fun b104 => ?_)
        · omega
        · refine am_wp_go rfl (by simp (disch := omega) only [s40 hw, s55 hw, v40, am_addE, am_subE, am_mulE, am_laddE, am_lsubE, am_upO, am_upS, am_stS, am_stO, am_tnn, am_brl, am_brg, am_bre, am_brn, am_brG, am_brL, am_st1, am_no2, am_st2, am_clr, and_self, true_and, and_true, true_or, or_true, List.length_cons, List.length_nil] <;> omega) ?_
          try simp (disch := omega) only [s40 hw, s55 hw, v40, am_addE, am_subE, am_mulE, am_laddE, am_lsubE, am_upO, am_upS, am_stS, am_stO, am_tnn, am_brl, am_brg, am_bre, am_brn, am_brG, am_brL, am_st1, am_no2, am_st2, am_clr]
          refine am_wp_ret rfl rfl ?_
          refine h1 _ rfl _ (frK_up (frK_tr fJ (frK_A k0)) (by decide)) (PL 1 ((T (S.1 + 1)).2.2.2 : Int) _ (by decide) rfl ⟨fun hx => by omega, fun hx => by omega, fun hx => by omega⟩ (fun a a1 a2 => by rw [am_upO a1, k0.1 a a2, aJ a a1 a2]) ?_) ?_ (tpC_up k3 (by decide))
          · rw [am_upS, k0.1 40 (by decide), hJ]
          · rw [am_upS, am_stO (by decide), k0.1 40 (by decide), hJ, am_stO (by decide)]
    · refine am_wp_pc (pc' := 113) rfl ?_
      have e3 : w = 2 := by omega
      subst e3
      rw [if_neg (by decide), if_neg (by decide), if_pos rfl] at h0 h1
      unfold kPlain at h0 h1
      rw [if_neg nt] at h0 h1
      unfold kN at h0 h1
      have w1 := fun (Q : am_R → am_M → Prop) h0 h1 => w_takeNumber (m := m) (sl := sl) (R := R) (Q := Q) (d := d + 1) (a := 0) (b := 99) hw j3 h0 h1
      simp only [show ((0 : Nat) : Int) = 0 from rfl, show ((99 : Nat) : Int) = 99 from rfl] at w1
      refine am_wp_go rfl (by simp (disch := omega) only [s40 hw, s55 hw, am_addE, am_subE, am_mulE, am_laddE, am_lsubE, am_upO, am_upS, am_stS, am_stO, am_tnn, am_brl, am_brg, am_bre, am_brn, am_brG, am_brL, am_st1, am_no2, am_st2, am_clr, and_self, true_and, and_true, true_or, or_true, List.length_cons, List.length_nil] <;> omega) ?_
      try simp (disch := omega) only [s40 hw, s55 hw, am_addE, am_subE, am_mulE, am_laddE, am_lsubE, am_upO, am_upS, am_stS, am_stO, am_tnn, am_brl, am_brg, am_bre, am_brn, am_brG, am_brL, am_st1, am_no2, am_st2, am_clr]
      refine am_wp_cc rfl rfl rfl (congrArg Prod.fst (s55 hw)) (w1 _ (fun n0 K k0 k1 k2 => ⟨_, rfl, ?_⟩) (fun n0 l1 l2 K k0 k1 k2 k3 => ⟨_, rfl, ?_⟩))
      · rw [if_pos n0] at h0
        refine am_wp_go rfl (by simp (disch := omega) only [s40 hw, s55 hw, am_addE, am_subE, am_mulE, am_laddE, am_lsubE, am_upO, am_upS, am_stS, am_stO, am_tnn, am_brl, am_brg, am_bre, am_brn, am_brG, am_brL, am_st1, am_no2, am_st2, am_clr, and_self, true_and, and_true, true_or, or_true, List.length_cons, List.length_nil] <;> omega) ?_
        try simp (disch := omega) only [s40 hw, s55 hw, am_addE, am_subE, am_mulE, am_laddE, am_lsubE, am_upO, am_upS, am_stS, am_stO, am_tnn, am_brl, am_brg, am_bre, am_brn, am_brG, am_brL, am_st1, am_no2, am_st2, am_clr]
        refine am_wp_br (fun b129 => ?_) (fun b129 => ?_)
        · refine am_wp_go rfl (by simp (disch := omega) only [s40 hw, s55 hw, am_addE, am_subE, am_mulE, am_laddE, am_lsubE, am_upO, am_upS, am_stS, am_stO, am_tnn, am_brl, am_brg, am_bre, am_brn, am_brG, am_brL, am_st1, am_no2, am_st2, am_clr, and_self, true_and, and_true, true_or, or_true, List.length_cons, List.length_nil] <;> omega) ?_
          try simp (disch := omega) only [s40 hw, s55 hw, am_addE, am_subE, am_mulE, am_laddE, am_lsubE, am_upO, am_upS, am_stS, am_stO, am_tnn, am_brl, am_brg, am_bre, am_brn, am_brG, am_brL, am_st1, am_no2, am_st2, am_clr]
          refine am_wp_ret rfl rfl ?_
          exact h0 _ rfl _ (frK_up (frK_tr fJ (frK_A k0)) (by decide)) (by rw [am_upO (by decide)]; exact k1) (by rw [am_upO (by decide)]; exact k2)
        · first | omega | exact absurd trivial b129 | exact absurd rfl b129 | exact absurd b129 (by decide)
      · rw [if_neg (fun hx => hx n0)] at h1
        have v40 : am_up K 40 3 ((T (S.1 + 1)).2.2.2 : Int) 40 3 = ((T (S.1 + 1)).2.2.2 : Int) := by rw [am_upS, am_stS rfl]
        refine am_wp_go rfl (by simp (disch := omega) only [s40 hw, s55 hw, v40, am_addE, am_subE, am_mulE, am_laddE, am_lsubE, am_upO, am_upS, am_stS, am_stO, am_tnn, am_brl, am_brg, am_bre, am_brn, am_brG, am_brL, am_st1, am_no2, am_st2, am_clr, and_self, true_and, and_true, true_or, or_true, List.length_cons, List.length_nil] <;> omega) ?_
        try simp (disch := omega) only [s40 hw, s55 hw, v40, am_addE, am_subE, am_mulE, am_laddE, am_lsubE, am_upO, am_upS, am_stS, am_stO, am_tnn, am_brl, am_brg, am_bre, am_brn, am_brG, am_brL, am_st1, am_no2, am_st2, am_clr]
        refine am_wp_br (fun b129 => ?_) (fun b129 => ?_)
        · omega
        · refine am_wp_go rfl (by simp (disch := omega) only [s40 hw, s55 hw, v40, am_addE, am_subE, am_mulE, am_laddE, am_lsubE, am_upO, am_upS, am_stS, am_stO, am_tnn, am_brl, am_brg, am_bre, am_brn, am_brG, am_brL, am_st1, am_no2, am_st2, am_clr, and_self, true_and, and_true, true_or, or_true, List.length_cons, List.length_nil] <;> omega) ?_
          try simp (disch := omega) only [s40 hw, s55 hw, v40, am_addE, am_subE, am_mulE, am_laddE, am_lsubE, am_upO, am_upS, am_stS, am_stO, am_tnn, am_brl, am_brg, am_bre, am_brn, am_brG, am_brL, am_st1, am_no2, am_st2, am_clr]
          refine am_wp_ret rfl rfl ?_
          refine h1 _ rfl _ (frK_up (frK_tr fJ (frK_A k0)) (by decide)) (PL 2 ((T (S.1 + 1)).2.2.2 : Int) _ (by decide) rfl ⟨fun hx => by omega, fun hx => by omega, fun hx => by omega⟩ (fun a a1 a2 => by rw [am_upO a1, k0.1 a a2, aJ a a1 a2]) ?_) ?_ (tpC_up k3 (by decide))
          · rw [am_upS, k0.1 40 (by decide), hJ]
          · rw [am_upS, am_stO (by decide), k0.1 40 (by decide), hJ, am_stO (by decide)]
  · have yt : S.2.2.1.testBit w = true := by rw [o4, decide_eq_true_iff]; omega
    have hk : kSet T S w = .inl (3, plT T S.1) := by
      unfold kSet kPlain kBurn
      rcases (show w = 0 ∨ w = 1 ∨ w = 2 ∨ w = 3 by omega) with rfl | rfl | rfl | rfl
      · rw [if_pos rfl, if_pos yt]
      · rw [if_neg (by decide), if_pos rfl, if_pos yt]
      · rw [if_neg (by decide), if_neg (by decide), if_pos rfl, if_pos yt]
      · rw [if_neg (by decide), if_neg (by decide), if_neg (by decide), if_pos yt]
    refine am_wp_go rfl (by simp (disch := omega) only [s40 hw, s55 hw, e10, r2, am_ushrN, o6, am_and1, am_addE, am_subE, am_mulE, am_laddE, am_lsubE, am_upO, am_upS, am_stS, am_stO, am_tnn, am_brl, am_brg, am_bre, am_brn, am_brG, am_brL, am_st1, am_no2, am_st2, am_clr, and_self, true_and, and_true, true_or, or_true, List.length_cons, List.length_nil] <;> omega) ?_
    try simp (disch := omega) only [s40 hw, s55 hw, e10, r2, am_ushrN, o6, am_and1, am_addE, am_subE, am_mulE, am_laddE, am_lsubE, am_upO, am_upS, am_stS, am_stO, am_tnn, am_brl, am_brg, am_bre, am_brn, am_brG, am_brL, am_st1, am_no2, am_st2, am_clr]
    refine am_wp_cc rfl rfl rfl (congrArg Prod.fst (s55 hw)) (w_tfail (k := 3) hw hc (fun J j0 j1 j2 => ⟨_, rfl, ?_⟩))
    refine am_wp_ret rfl rfl ?_
    exact h0 _ hk J (frK_A j0) j1 j2
end KP
