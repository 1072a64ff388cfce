/-! THE LAW'S CASES: what throws, and the SENTENCE (there memory grows) -/
theorem am_wp_ch {d mi pc nx ta tb y hd : Nat} {i : Instr} {ls : am_L} {st : List am_V} {M : am_M} {Q : am_R → am_M → Prop} (hi : am_ins mi pc = some (nx, ta, tb, i)) (hc : am_cal i ta = some y) (hl : am_cok st y = true) (hrc : am_rcv i y (st.take (am_na y)).reverse M) (hh : am_hd mi = some hd)
    (hw : am_wp d y 0 (am_pad (am_ml y) (am_ent (st.take (am_na y)).reverse)) [] M (fun r M' => (∃ v, r = .inl v ∧ am_wp (d + 1) mi nx ls (v.toList ++ st.drop (am_na y)) M' Q) ∨ (∃ u, r = .inr u ∧ am_wp (d + 1) mi hd ls [.inr (.inr (M'.1 - 1))] M' Q))) : am_wp (d + 1) mi pc ls st M Q := by
  obtain ⟨f1, r1, M1, h1, q1⟩ := hw
  have he : am_end i st M = none := by cases i <;> first | rfl | cases hc
  rcases q1 with ⟨v, rfl, f2, r2, M2, h2, q2⟩ | ⟨u, rfl, f2, r2, M2, h2, q2⟩
  all_goals
    refine ⟨(f1 + f2) + 1, r2, M2, ?_, q2⟩
    unfold am_ex
    rw [hi]
    dsimp only
    rw [he]
    dsimp only
    rw [hc]
    dsimp only
    rw [hl, if_pos hrc, am_ex_more f1 f2 _ _ _ _ _ _ _ h1]
    simp only [Bool.not_true, cond_false]
    try rw [hh]
    try dsimp only
    rw [Nat.add_comm]
    exact am_ex_more f2 f1 _ _ _ _ _ _ _ h2
theorem cp_hi {X : Nat → Int} {I K : Nat → Nat → Int} (h : cp X I) (f : ∀ a, a < 160 → K a = I a) : cp X K :=
  cp_mix h (fun a ha => f a (by omega)) (by rw [f 92 (by omega)]) (by rw [f 108 (by omega)]) (by rw [f 124 (by omega)]) (Or.inl ⟨by rw [f 124 (by omega)], f 126 (by omega)⟩)
    (Or.inl ⟨by rw [f 55 (by omega)], by rw [f 124 (by omega)], f 125 (by omega), f 56 (by omega)⟩)
    (Or.inl ⟨by rw [f 4 (by omega)], by rw [f 124 (by omega)], f 135 (by omega), f 89 (by omega)⟩)
    (Or.inl ⟨by rw [f 4 (by omega)], by rw [f 124 (by omega)], by rw [f 4 (by omega)], by rw [f 124 (by omega)]⟩)
    (Or.inl ⟨by rw [f 80 (by omega)], by rw [f 124 (by omega)], f 85 (by omega), f 153 (by omega)⟩)
    (Or.inl ⟨by rw [f 86 (by omega)], by rw [f 124 (by omega)], f 88 (by omega), f 156 (by omega)⟩)
theorem hi_lw {I J : Nat → Nat → Int} (e : ∀ a, a < 160 → J a = I a) : lw J = lw I := by
  unfold lw; rw [e 124 (by decide), e 126 (by decide)]
theorem hi_beg {I J : Nat → Nat → Int} (e : ∀ a, a < 160 → J a = I a) (h : beg I) : beg J := by
  unfold beg at h ⊢; rw [e 124 (by decide), e 126 (by decide)]; exact h
theorem mo_mk {sh : Nat → Nat × Nat} {R : Nat → Nat → Nat} {m : Nat} {x : Nat × Nat} (hm : 161 ≤ m) : mo sh R (am_sh1 sh m x) (am_zero R m 0) :=
  ⟨fun a ha => if_neg (by omega), fun a ha => funext (fun j => if_neg (by omega))⟩
section PAIRS
variable {m sl : Nat} {sh : Nat → Nat × Nat} {I : Nat → Nat → Int} {R : Nat → Nat → Nat} {Q : am_R → am_M → Prop} {X : Nat → Int}

theorem l_slice {s w : Int} {W N : Nat → Int} {G : List Go} (hw : wd sh R) (hm : 161 ≤ m) (kk : kit I 6 W N) (hp : pl I 14 G) (h1 : ¬ (0 ≤ s ∧ s < W 5 ∧ 0 ≤ w ∧ w ≤ 2) → Q (am_yi 1) (am_mk (m, sl, sh, I, R) 13 6)) (h0 : 0 ≤ s ∧ s < W 5 ∧ 0 ≤ w ∧ w ≤ 2 → Q (am_yi 0) (m, sl, sh, am_up I 160 0 (W (8 + 3 * s.toNat + w.toNat)), R)) : am_wp 999 329 0 [some (.inr (.inr 4)), some (.inl s), some (.inl w), some (.inr (.inr 160)), none] [] (m, sl, sh, I, R) Q := by
  refine am_wp_go rfl (by simp (disch := omega) only [s160 hw, am_addE, am_subE, am_mulE, am_laddE, am_lsubE, am_upO, am_upS, am_stS, am_stO, am_tnn, am_brl, am_brg, am_bre, am_brn, am_brG, am_brL, am_st1, am_no2, am_st2, am_clr, and_self, true_and, and_true, true_or, or_true, List.length_cons, List.length_nil] <;> omega) ?_
  try simp (disch := omega) only [s160 hw, am_addE, am_subE, am_mulE, am_laddE, am_lsubE, am_upO, am_upS, am_stS, am_stO, am_tnn, am_brl, am_brg, am_bre, am_brn, am_brG, am_brL, am_st1, am_no2, am_st2, am_clr]
  refine am_wp_ch rfl rfl rfl (congrArg Prod.fst (s4 hw)) rfl (c_slice hw kk (fun z => Or.inr ⟨_, rfl, ?_⟩) (fun z => Or.inl ⟨_, rfl, ?_⟩))
  · have h := h1 z
    refine am_wp_go rfl (by simp (disch := omega) only [am_mk, List.length_cons, List.length_nil, and_self, and_true, true_and] <;> omega) ?_
    refine am_wp_ret rfl rfl ?_
    exact h
  · have h := h0 z
    refine am_wp_go rfl (by simp (disch := omega) only [s160 hw, am_addE, am_subE, am_mulE, am_laddE, am_lsubE, am_upO, am_upS, am_stS, am_stO, am_tnn, am_brl, am_brg, am_bre, am_brn, am_brG, am_brL, am_st1, am_no2, am_st2, am_clr, and_self, true_and, and_true, true_or, or_true, List.length_cons, List.length_nil] <;> omega) ?_
    try simp (disch := omega) only [s160 hw, am_addE, am_subE, am_mulE, am_laddE, am_lsubE, am_upO, am_upS, am_stS, am_stO, am_tnn, am_brl, am_brg, am_bre, am_brn, am_brG, am_brL, am_st1, am_no2, am_st2, am_clr]
    refine am_wp_ret rfl rfl ?_
    exact h
theorem p_slice {s w : Int} (hw : wd sh R) (hm : 161 ≤ m) (hc : cp X I) (h : ∀ m' sl' sh' J R' ex av, mo sh R sh' R' → m ≤ m' → m' ≤ m + 1 → sl' ≤ sl + 6 → J 1 = I 1 → (ex = 0 → J 160 0 = av) → (∀ Q2 : am_R → am_M → Prop, (∀ K, cp X K → K 1 = J 1 → K 160 = J 160 → K 124 0 = ex → Q2 (am_yi av) (m', sl', sh', K, R')) → am_wp 999 232 0 [some (.inr (.inr 124)), some (.inl s), some (.inl w)] [] (m', sl', sh', J, R') Q2) → Q (am_yi ex) (m', sl', sh', J, R')) : am_wp 999 329 0 [some (.inr (.inr 4)), some (.inl s), some (.inl w), some (.inr (.inr 160)), none] [] (m, sl, sh, I, R) Q := by
  obtain ⟨G, H, kk, hb, hp, hr, hr2, hg, hgk, hhC, hhR, hH, hG, hgH⟩ := cp_get hc
  have hk := kk.1
  refine l_slice hw hm kk hp (fun z => h (m + 1) (sl + 6) (am_sh1 sh m (13, 6)) (am_zero I m 0) (am_zero R m 0) 1 0 (mo_mk hm) (by omega) (by omega) (by omega) (funext (fun j => if_neg (by omega))) (fun hx => absurd hx (by decide)) (fun Q2 h2 => ?_)) (fun z => h m sl sh _ R 0 _ mo_rf (by omega) (by omega) (by omega) (am_upO (by decide)) (fun _ => by rw [am_upS, am_stS rfl]) (fun Q2 h2 => ?_))
  · have e : ∀ a, a < 160 → am_zero I m 0 a = I a := fun a ha => funext (fun j => if_neg (by omega))
    have hc2 := cp_hi hc e
    have el := hi_lw e
    have hbJ := hi_beg e hb
    have hw2 := mo_wd (mo_mk (x := (13, 6)) (R := R) hm) hw
    generalize am_zero I m 0 = J at h2 hc2 el hbJ e ⊢
    exact r_slice hw2 hbJ (by rw [el]; exact hk) (fun _ K q t => h2 K (cp_rq hc2 q) (q.1 1 (by omega)) (q.1 160 (by omega)) t) (fun z2 => absurd z2 (by rw [el]; exact z))
  · have e : ∀ a, a < 160 → am_up I 160 0 (lw I (8 + 3 * s.toNat + w.toNat)) a = I a := fun a ha => am_upO (by omega)
    have hc2 := cp_hi hc e
    have el := hi_lw e
    have hbJ := hi_beg e hb
    generalize am_up I 160 0 (lw I (8 + 3 * s.toNat + w.toNat)) = J at h2 hc2 el hbJ e ⊢
    refine r_slice hw hbJ (by rw [el]; exact hk) (fun z2 => absurd z (by rw [el] at z2; exact z2)) (fun _ K q t => ?_)
    rw [el]
    exact h2 K (cp_rq hc2 q) (q.1 1 (by omega)) (q.1 160 (by omega)) t

theorem l_guest {s w : Int} {W N : Nat → Int} {G : List Go} (hw : wd sh R) (hm : 161 ≤ m) (kk : kit I 6 W N) (hp : pl I 14 G) (h1 : ¬ (0 ≤ s ∧ s < W 6 ∧ 0 ≤ w ∧ w ≤ 1) → Q (am_yi 1) (am_mk (m, sl, sh, I, R) 13 6)) (h0 : 0 ≤ s ∧ s < W 6 ∧ 0 ≤ w ∧ w ≤ 1 → Q (am_yi 0) (m, sl, sh, am_up I 160 0 (W (32 + 2 * s.toNat + w.toNat)), R)) : am_wp 999 330 0 [some (.inr (.inr 4)), some (.inl s), some (.inl w), some (.inr (.inr 160)), none] [] (m, sl, sh, I, R) Q := by
  refine am_wp_go rfl (by simp (disch := omega) only [s160 hw, am_addE, am_subE, am_mulE, am_laddE, am_lsubE, am_upO, am_upS, am_stS, am_stO, am_tnn, am_brl, am_brg, am_bre, am_brn, am_brG, am_brL, am_st1, am_no2, am_st2, am_clr, and_self, true_and, and_true, true_or, or_true, List.length_cons, List.length_nil] <;> omega) ?_
  try simp (disch := omega) only [s160 hw, am_addE, am_subE, am_mulE, am_laddE, am_lsubE, am_upO, am_upS, am_stS, am_stO, am_tnn, am_brl, am_brg, am_bre, am_brn, am_brG, am_brL, am_st1, am_no2, am_st2, am_clr]
  refine am_wp_ch rfl rfl rfl (congrArg Prod.fst (s4 hw)) rfl (c_guest hw kk (fun z => Or.inr ⟨_, rfl, ?_⟩) (fun z => Or.inl ⟨_, rfl, ?_⟩))
  · have h := h1 z
    refine am_wp_go rfl (by simp (disch := omega) only [am_mk, List.length_cons, List.length_nil, and_self, and_true, true_and] <;> omega) ?_
    refine am_wp_ret rfl rfl ?_
    exact h
  · have h := h0 z
    refine am_wp_go rfl (by simp (disch := omega) only [s160 hw, am_addE, am_subE, am_mulE, am_laddE, am_lsubE, am_upO, am_upS, am_stS, am_stO, am_tnn, am_brl, am_brg, am_bre, am_brn, am_brG, am_brL, am_st1, am_no2, am_st2, am_clr, and_self, true_and, and_true, true_or, or_true, List.length_cons, List.length_nil] <;> omega) ?_
    try simp (disch := omega) only [s160 hw, am_addE, am_subE, am_mulE, am_laddE, am_lsubE, am_upO, am_upS, am_stS, am_stO, am_tnn, am_brl, am_brg, am_bre, am_brn, am_brG, am_brL, am_st1, am_no2, am_st2, am_clr]
    refine am_wp_ret rfl rfl ?_
    exact h
theorem p_guest {s w : Int} (hw : wd sh R) (hm : 161 ≤ m) (hc : cp X I) (h : ∀ m' sl' sh' J R' ex av, mo sh R sh' R' → m ≤ m' → m' ≤ m + 1 → sl' ≤ sl + 6 → J 1 = I 1 → (ex = 0 → J 160 0 = av) → (∀ Q2 : am_R → am_M → Prop, (∀ K, cp X K → K 1 = J 1 → K 160 = J 160 → K 124 0 = ex → Q2 (am_yi av) (m', sl', sh', K, R')) → am_wp 999 233 0 [some (.inr (.inr 124)), some (.inl s), some (.inl w)] [] (m', sl', sh', J, R') Q2) → Q (am_yi ex) (m', sl', sh', J, R')) : am_wp 999 330 0 [some (.inr (.inr 4)), some (.inl s), some (.inl w), some (.inr (.inr 160)), none] [] (m, sl, sh, I, R) Q := by
  obtain ⟨G, H, kk, hb, hp, hr, hr2, hg, hgk, hhC, hhR, hH, hG, hgH⟩ := cp_get hc
  have hk := kk.1
  refine l_guest hw hm kk hp (fun z => h (m + 1) (sl + 6) (am_sh1 sh m (13, 6)) (am_zero I m 0) (am_zero R m 0) 1 0 (mo_mk hm) (by omega) (by omega) (by omega) (funext (fun j => if_neg (by omega))) (fun hx => absurd hx (by decide)) (fun Q2 h2 => ?_)) (fun z => h m sl sh _ R 0 _ mo_rf (by omega) (by omega) (by omega) (am_upO (by decide)) (fun _ => by rw [am_upS, am_stS rfl]) (fun Q2 h2 => ?_))
  · have e : ∀ a, a < 160 → am_zero I m 0 a = I a := fun a ha => funext (fun j => if_neg (by omega))
    have hc2 := cp_hi hc e
    have el := hi_lw e
    have hbJ := hi_beg e hb
    have hw2 := mo_wd (mo_mk (x := (13, 6)) (R := R) hm) hw
    generalize am_zero I m 0 = J at h2 hc2 el hbJ e ⊢
    exact r_guest hw2 hbJ (by rw [el]; exact hk) (fun _ K q t => h2 K (cp_rq hc2 q) (q.1 1 (by omega)) (q.1 160 (by omega)) t) (fun z2 => absurd z2 (by rw [el]; exact z))
  · have e : ∀ a, a < 160 → am_up I 160 0 (lw I (32 + 2 * s.toNat + w.toNat)) a = I a := fun a ha => am_upO (by omega)
    have hc2 := cp_hi hc e
    have el := hi_lw e
    have hbJ := hi_beg e hb
    generalize am_up I 160 0 (lw I (32 + 2 * s.toNat + w.toNat)) = J at h2 hc2 el hbJ e ⊢
    refine r_guest hw hbJ (by rw [el]; exact hk) (fun z2 => absurd z (by rw [el] at z2; exact z2)) (fun _ K q t => ?_)
    rw [el]
    exact h2 K (cp_rq hc2 q) (q.1 1 (by omega)) (q.1 160 (by omega)) t

theorem l_sort {s w : Int} {W N : Nat → Int} {G : List Go} (hw : wd sh R) (hm : 161 ≤ m) (kk : kit I 6 W N) (hp : pl I 14 G) (h1 : ¬ (0 ≤ s ∧ s < W 7 ∧ 0 ≤ w ∧ w ≤ 1) → Q (am_yi 1) (am_mk (m, sl, sh, I, R) 13 6)) (h0 : 0 ≤ s ∧ s < W 7 ∧ 0 ≤ w ∧ w ≤ 1 → Q (am_yi 0) (m, sl, sh, am_up I 160 0 (W (48 + 2 * s.toNat + w.toNat)), R)) : am_wp 999 331 0 [some (.inr (.inr 4)), some (.inl s), some (.inl w), some (.inr (.inr 160)), none] [] (m, sl, sh, I, R) Q := by
  refine am_wp_go rfl (by simp (disch := omega) only [s160 hw, am_addE, am_subE, am_mulE, am_laddE, am_lsubE, am_upO, am_upS, am_stS, am_stO, am_tnn, am_brl, am_brg, am_bre, am_brn, am_brG, am_brL, am_st1, am_no2, am_st2, am_clr, and_self, true_and, and_true, true_or, or_true, List.length_cons, List.length_nil] <;> omega) ?_
  try simp (disch := omega) only [s160 hw, am_addE, am_subE, am_mulE, am_laddE, am_lsubE, am_upO, am_upS, am_stS, am_stO, am_tnn, am_brl, am_brg, am_bre, am_brn, am_brG, am_brL, am_st1, am_no2, am_st2, am_clr]
  refine am_wp_ch rfl rfl rfl (congrArg Prod.fst (s4 hw)) rfl (c_sort hw kk (fun z => Or.inr ⟨_, rfl, ?_⟩) (fun z => Or.inl ⟨_, rfl, ?_⟩))
  · have h := h1 z
    refine am_wp_go rfl (by simp (disch := omega) only [am_mk, List.length_cons, List.length_nil, and_self, and_true, true_and] <;> omega) ?_
    refine am_wp_ret rfl rfl ?_
    exact h
  · have h := h0 z
    refine am_wp_go rfl (by simp (disch := omega) only [s160 hw, am_addE, am_subE, am_mulE, am_laddE, am_lsubE, am_upO, am_upS, am_stS, am_stO, am_tnn, am_brl, am_brg, am_bre, am_brn, am_brG, am_brL, am_st1, am_no2, am_st2, am_clr, and_self, true_and, and_true, true_or, or_true, List.length_cons, List.length_nil] <;> omega) ?_
    try simp (disch := omega) only [s160 hw, am_addE, am_subE, am_mulE, am_laddE, am_lsubE, am_upO, am_upS, am_stS, am_stO, am_tnn, am_brl, am_brg, am_bre, am_brn, am_brG, am_brL, am_st1, am_no2, am_st2, am_clr]
    refine am_wp_ret rfl rfl ?_
    exact h
theorem p_sort {s w : Int} (hw : wd sh R) (hm : 161 ≤ m) (hc : cp X I) (h : ∀ m' sl' sh' J R' ex av, mo sh R sh' R' → m ≤ m' → m' ≤ m + 1 → sl' ≤ sl + 6 → J 1 = I 1 → (ex = 0 → J 160 0 = av) → (∀ Q2 : am_R → am_M → Prop, (∀ K, cp X K → K 1 = J 1 → K 160 = J 160 → K 124 0 = ex → Q2 (am_yi av) (m', sl', sh', K, R')) → am_wp 999 234 0 [some (.inr (.inr 124)), some (.inl s), some (.inl w)] [] (m', sl', sh', J, R') Q2) → Q (am_yi ex) (m', sl', sh', J, R')) : am_wp 999 331 0 [some (.inr (.inr 4)), some (.inl s), some (.inl w), some (.inr (.inr 160)), none] [] (m, sl, sh, I, R) Q := by
  obtain ⟨G, H, kk, hb, hp, hr, hr2, hg, hgk, hhC, hhR, hH, hG, hgH⟩ := cp_get hc
  have hk := kk.1
  refine l_sort hw hm kk hp (fun z => h (m + 1) (sl + 6) (am_sh1 sh m (13, 6)) (am_zero I m 0) (am_zero R m 0) 1 0 (mo_mk hm) (by omega) (by omega) (by omega) (funext (fun j => if_neg (by omega))) (fun hx => absurd hx (by decide)) (fun Q2 h2 => ?_)) (fun z => h m sl sh _ R 0 _ mo_rf (by omega) (by omega) (by omega) (am_upO (by decide)) (fun _ => by rw [am_upS, am_stS rfl]) (fun Q2 h2 => ?_))
  · have e : ∀ a, a < 160 → am_zero I m 0 a = I a := fun a ha => funext (fun j => if_neg (by omega))
    have hc2 := cp_hi hc e
    have el := hi_lw e
    have hbJ := hi_beg e hb
    have hw2 := mo_wd (mo_mk (x := (13, 6)) (R := R) hm) hw
    generalize am_zero I m 0 = J at h2 hc2 el hbJ e ⊢
    exact r_sort hw2 hbJ (by rw [el]; exact hk) (fun _ K q t => h2 K (cp_rq hc2 q) (q.1 1 (by omega)) (q.1 160 (by omega)) t) (fun z2 => absurd z2 (by rw [el]; exact z))
  · have e : ∀ a, a < 160 → am_up I 160 0 (lw I (48 + 2 * s.toNat + w.toNat)) a = I a := fun a ha => am_upO (by omega)
    have hc2 := cp_hi hc e
    have el := hi_lw e
    have hbJ := hi_beg e hb
    generalize am_up I 160 0 (lw I (48 + 2 * s.toNat + w.toNat)) = J at h2 hc2 el hbJ e ⊢
    refine r_sort hw hbJ (by rw [el]; exact hk) (fun z2 => absurd z (by rw [el] at z2; exact z2)) (fun _ K q t => ?_)
    rw [el]
    exact h2 K (cp_rq hc2 q) (q.1 1 (by omega)) (q.1 160 (by omega)) t

theorem l_left {s w : Int} {W N : Nat → Int} {G : List Go} (hw : wd sh R) (hm : 161 ≤ m) (kk : kit I 6 W N) (hp : pl I 14 G) (h1 : ¬ (0 ≤ s ∧ s < W 5 ∧ 0 ≤ w ∧ w ≤ 1) → Q (am_yi 1) (am_mk (m, sl, sh, I, R) 13 6)) (h0 : 0 ≤ s ∧ s < W 5 ∧ 0 ≤ w ∧ w ≤ 1 → Q (am_yi 0) (m, sl, sh, am_up I 160 0 (lkW W G s.toNat w.toNat), R)) : am_wp 999 332 0 [some (.inr (.inr 4)), some (.inl s), some (.inl w), some (.inr (.inr 160)), none] [] (m, sl, sh, I, R) Q := by
  refine am_wp_go rfl (by simp (disch := omega) only [s160 hw, am_addE, am_subE, am_mulE, am_laddE, am_lsubE, am_upO, am_upS, am_stS, am_stO, am_tnn, am_brl, am_brg, am_bre, am_brn, am_brG, am_brL, am_st1, am_no2, am_st2, am_clr, and_self, true_and, and_true, true_or, or_true, List.length_cons, List.length_nil] <;> omega) ?_
  try simp (disch := omega) only [s160 hw, am_addE, am_subE, am_mulE, am_laddE, am_lsubE, am_upO, am_upS, am_stS, am_stO, am_tnn, am_brl, am_brg, am_bre, am_brn, am_brG, am_brL, am_st1, am_no2, am_st2, am_clr]
  refine am_wp_ch rfl rfl rfl (congrArg Prod.fst (s4 hw)) rfl (c_left hw kk hp (fun z => Or.inr ⟨_, rfl, ?_⟩) (fun z => Or.inl ⟨_, rfl, ?_⟩))
  · have h := h1 z
    refine am_wp_go rfl (by simp (disch := omega) only [am_mk, List.length_cons, List.length_nil, and_self, and_true, true_and] <;> omega) ?_
    refine am_wp_ret rfl rfl ?_
    exact h
  · have h := h0 z
    refine am_wp_go rfl (by simp (disch := omega) only [s160 hw, am_addE, am_subE, am_mulE, am_laddE, am_lsubE, am_upO, am_upS, am_stS, am_stO, am_tnn, am_brl, am_brg, am_bre, am_brn, am_brG, am_brL, am_st1, am_no2, am_st2, am_clr, and_self, true_and, and_true, true_or, or_true, List.length_cons, List.length_nil] <;> omega) ?_
    try simp (disch := omega) only [s160 hw, am_addE, am_subE, am_mulE, am_laddE, am_lsubE, am_upO, am_upS, am_stS, am_stO, am_tnn, am_brl, am_brg, am_bre, am_brn, am_brG, am_brL, am_st1, am_no2, am_st2, am_clr]
    refine am_wp_ret rfl rfl ?_
    exact h
theorem p_left {s w : Int} (hw : wd sh R) (hm : 161 ≤ m) (hc : cp X I) (h : ∀ m' sl' sh' J R' ex av, mo sh R sh' R' → m ≤ m' → m' ≤ m + 1 → sl' ≤ sl + 6 → J 1 = I 1 → (ex = 0 → J 160 0 = av) → (∀ Q2 : am_R → am_M → Prop, (∀ K, cp X K → K 1 = J 1 → K 160 = J 160 → K 124 0 = ex → Q2 (am_yi av) (m', sl', sh', K, R')) → am_wp 999 250 0 [some (.inr (.inr 124)), some (.inl s), some (.inl w)] [] (m', sl', sh', J, R') Q2) → Q (am_yi ex) (m', sl', sh', J, R')) : am_wp 999 332 0 [some (.inr (.inr 4)), some (.inl s), some (.inl w), some (.inr (.inr 160)), none] [] (m, sl, sh, I, R) Q := by
  obtain ⟨G, H, kk, hb, hp, hr, hr2, hg, hgk, hhC, hhR, hH, hG, hgH⟩ := cp_get hc
  have hk := kk.1
  refine l_left hw hm kk hp (fun z => h (m + 1) (sl + 6) (am_sh1 sh m (13, 6)) (am_zero I m 0) (am_zero R m 0) 1 0 (mo_mk hm) (by omega) (by omega) (by omega) (funext (fun j => if_neg (by omega))) (fun hx => absurd hx (by decide)) (fun Q2 h2 => ?_)) (fun z => h m sl sh _ R 0 _ mo_rf (by omega) (by omega) (by omega) (am_upO (by decide)) (fun _ => by rw [am_upS, am_stS rfl]) (fun Q2 h2 => ?_))
  · have e : ∀ a, a < 160 → am_zero I m 0 a = I a := fun a ha => funext (fun j => if_neg (by omega))
    have hc2 := cp_hi hc e
    have el := hi_lw e
    have hbJ := hi_beg e hb
    have hw2 := mo_wd (mo_mk (x := (13, 6)) (R := R) hm) hw
    generalize am_zero I m 0 = J at h2 hc2 el hbJ e ⊢
    exact r_left hw2 hbJ (by rw [el]; exact hk) (by rw [el]; exact hr2) hg (fun _ K q t => h2 K (cp_rq hc2 q) (q.1 1 (by omega)) (q.1 160 (by omega)) t) (fun z2 => absurd z2 (by rw [el]; exact z))
  · have e : ∀ a, a < 160 → am_up I 160 0 (lkW (lw I) G s.toNat w.toNat) a = I a := fun a ha => am_upO (by omega)
    have hc2 := cp_hi hc e
    have el := hi_lw e
    have hbJ := hi_beg e hb
    generalize am_up I 160 0 (lkW (lw I) G s.toNat w.toNat) = J at h2 hc2 el hbJ e ⊢
    refine r_left hw hbJ (by rw [el]; exact hk) (by rw [el]; exact hr2) hg (fun z2 => absurd z (by rw [el] at z2; exact z2)) (fun _ K q t => ?_)
    rw [el]
    exact h2 K (cp_rq hc2 q) (q.1 1 (by omega)) (q.1 160 (by omega)) t

theorem l_mean {s w : Int} {W N : Nat → Int} {G : List Go} (hw : wd sh R) (hm : 161 ≤ m) (kk : kit I 6 W N) (hp : pl I 14 G) (h1 : ¬ (0 ≤ s ∧ s < W 5 ∧ 0 ≤ w ∧ w ≤ 1) → Q (am_yi 1) (am_mk (m, sl, sh, I, R) 13 6)) (h0 : 0 ≤ s ∧ s < W 5 ∧ 0 ≤ w ∧ w ≤ 1 → Q (am_yi 0) (m, sl, sh, am_up I 160 0 (mnV W s.toNat w), R)) : am_wp 999 333 0 [some (.inr (.inr 4)), some (.inl s), some (.inl w), some (.inr (.inr 160)), none] [] (m, sl, sh, I, R) Q := by
  refine am_wp_go rfl (by simp (disch := omega) only [s160 hw, am_addE, am_subE, am_mulE, am_laddE, am_lsubE, am_upO, am_upS, am_stS, am_stO, am_tnn, am_brl, am_brg, am_bre, am_brn, am_brG, am_brL, am_st1, am_no2, am_st2, am_clr, and_self, true_and, and_true, true_or, or_true, List.length_cons, List.length_nil] <;> omega) ?_
  try simp (disch := omega) only [s160 hw, am_addE, am_subE, am_mulE, am_laddE, am_lsubE, am_upO, am_upS, am_stS, am_stO, am_tnn, am_brl, am_brg, am_bre, am_brn, am_brG, am_brL, am_st1, am_no2, am_st2, am_clr]
  refine am_wp_ch rfl rfl rfl (congrArg Prod.fst (s4 hw)) rfl (c_mean hw kk (fun z => Or.inr ⟨_, rfl, ?_⟩) (fun z => Or.inl ⟨_, rfl, ?_⟩))
  · have h := h1 z
    refine am_wp_go rfl (by simp (disch := omega) only [am_mk, List.length_cons, List.length_nil, and_self, and_true, true_and] <;> omega) ?_
    refine am_wp_ret rfl rfl ?_
    exact h
  · have h := h0 z
    refine am_wp_go rfl (by simp (disch := omega) only [s160 hw, am_addE, am_subE, am_mulE, am_laddE, am_lsubE, am_upO, am_upS, am_stS, am_stO, am_tnn, am_brl, am_brg, am_bre, am_brn, am_brG, am_brL, am_st1, am_no2, am_st2, am_clr, and_self, true_and, and_true, true_or, or_true, List.length_cons, List.length_nil] <;> omega) ?_
    try simp (disch := omega) only [s160 hw, am_addE, am_subE, am_mulE, am_laddE, am_lsubE, am_upO, am_upS, am_stS, am_stO, am_tnn, am_brl, am_brg, am_bre, am_brn, am_brG, am_brL, am_st1, am_no2, am_st2, am_clr]
    refine am_wp_ret rfl rfl ?_
    exact h
theorem p_mean {s w : Int} (hw : wd sh R) (hm : 161 ≤ m) (hc : cp X I) (h : ∀ m' sl' sh' J R' ex av, mo sh R sh' R' → m ≤ m' → m' ≤ m + 1 → sl' ≤ sl + 6 → J 1 = I 1 → (ex = 0 → J 160 0 = av) → (∀ Q2 : am_R → am_M → Prop, (∀ K, cp X K → K 1 = J 1 → K 160 = J 160 → K 124 0 = ex → Q2 (am_yj av) (m', sl', sh', K, R')) → am_wp 999 299 0 [some (.inr (.inr 124)), some (.inl s), some (.inl w), none, none, none, none, none, none, none, none] [] (m', sl', sh', J, R') Q2) → Q (am_yi ex) (m', sl', sh', J, R')) : am_wp 999 333 0 [some (.inr (.inr 4)), some (.inl s), some (.inl w), some (.inr (.inr 160)), none] [] (m, sl, sh, I, R) Q := by
  obtain ⟨G, H, kk, hb, hp, hr, hr2, hg, hgk, hhC, hhR, hH, hG, hgH⟩ := cp_get hc
  have hk := kk.1
  refine l_mean hw hm kk hp (fun z => h (m + 1) (sl + 6) (am_sh1 sh m (13, 6)) (am_zero I m 0) (am_zero R m 0) 1 0 (mo_mk hm) (by omega) (by omega) (by omega) (funext (fun j => if_neg (by omega))) (fun hx => absurd hx (by decide)) (fun Q2 h2 => ?_)) (fun z => h m sl sh _ R 0 _ mo_rf (by omega) (by omega) (by omega) (am_upO (by decide)) (fun _ => by rw [am_upS, am_stS rfl]) (fun Q2 h2 => ?_))
  · have e : ∀ a, a < 160 → am_zero I m 0 a = I a := fun a ha => funext (fun j => if_neg (by omega))
    have hc2 := cp_hi hc e
    have el := hi_lw e
    have hbJ := hi_beg e hb
    have hw2 := mo_wd (mo_mk (x := (13, 6)) (R := R) hm) hw
    generalize am_zero I m 0 = J at h2 hc2 el hbJ e ⊢
    exact r_mean hw2 hbJ (by rw [el]; exact hk) (fun _ K q t => h2 K (cp_rq hc2 q) (q.1 1 (by omega)) (q.1 160 (by omega)) t) (fun z2 => absurd z2 (by rw [el]; exact z))
  · have e : ∀ a, a < 160 → am_up I 160 0 (mnV (lw I) s.toNat w) a = I a := fun a ha => am_upO (by omega)
    have hc2 := cp_hi hc e
    have el := hi_lw e
    have hbJ := hi_beg e hb
    generalize am_up I 160 0 (mnV (lw I) s.toNat w) = J at h2 hc2 el hbJ e ⊢
    refine r_mean hw hbJ (by rw [el]; exact hk) (fun z2 => absurd z (by rw [el] at z2; exact z2)) (fun _ K q t => ?_)
    rw [el]
    exact h2 K (cp_rq hc2 q) (q.1 1 (by omega)) (q.1 160 (by omega)) t

theorem p_sentence (hw : wd sh R) (hm1 : 161 ≤ m) (hc : cp X I) (h : ∀ J av, J 1 = I 1 → (∀ Q2 : am_R → am_M → Prop, (∀ m' sl' sh' K R', mo sh R sh' R' → m ≤ m' → m' ≤ m + 21 → sl' ≤ sl + 168 → cp X K → Q2 (am_yi av) (m', sl', sh', K, R')) → am_wp 999 318 0 [some (.inr (.inr 124)), none] [] (m, sl, sh, J, R) Q2) → Q (am_yi av) (m, sl, sh, J, R)) : am_wp 999 138 0 [some (.inr (.inr 4))] [] (m, sl, sh, I, R) Q := by
  obtain ⟨G, H, kk, hb, hp, hr, hr2, hg, hgk, hhC, hhR, hH, hG, hgH⟩ := cp_get hc
  have hk := kk.1
  obtain ⟨n, n1, t1, t2, t3⟩ := hc.2.2.2.2.2.2.1
  have h57 : I 57 = ownR := hc.1.2.2
  have hbr : ∀ k, k < n → I 125 k = (((I 125 k).toNat : Nat) : Int) ∧ (I 125 k).toNat ≤ 255 := fun k hk => by have a := t3 k hk; omega
  have hbt : ∀ k, k < n → I 56 k = sbyte (((I 125 k).toNat : Nat) : Int) ∧ (I 125 k).toNat ≤ 255 := fun k hk => by have a := t3 k hk; rw [← (hbr k hk).1]; exact ⟨a.2.2, (hbr k hk).2⟩
  obtain ⟨NM, nm⟩ := nm_get kk
  have nk := wk_nS hk
  have w0 := hk.1
  unfold wk0 at w0
  have o6 : I 6 6 = (nS (lw I) : Int) := by rw [kk.2.1.2.2.2.2.2.1]; exact nk.1
  have hm : nmC I NM (nS (lw I)) := ⟨o6, nk.2, fun s hs => ⟨(nm s hs).1, (nm s hs).2.1⟩⟩
  have hm3 : ∀ s, s < nS (lw I) → letOk (NM (0 + s)) ∧ I 130 (0 + s) = (nm27 (NM (0 + s)) : Int) := fun s hs => by rw [Nat.zero_add]; exact ⟨(nm s hs).1, (nm s hs).2.2⟩
  refine c_sentence (b := fun k => (I 125 k).toNat) (NM := NM) (q := nS (lw I)) hw n1 t1 h57 hbt hm (fun er z J f => h J _ (f.1 1 (by omega)) (fun Q2 h2 => ?_)) (fun S z J f => h J _ (f.1 1 (by omega)) (fun Q2 h2 => ?_))
  · have e : ∀ a, 124 ≤ a → J a = I a := fun a ha => f.1 a (by omega)
    have el := sr_lw e
    refine r_sentence (b := fun k => (I 125 k).toNat) (NM := NM) (q := nS (lw I)) hw hm1 (sr_beg e hb) n1 (by rw [e 124 (by decide)]; exact t2) (fun k hk => by rw [e 125 (by decide)]; exact hbr k hk) (by rw [el]; exact nk.1) nk.2 (by rw [e 130 (by decide)]; exact hm3) (fun e2 z2 m' sl' sh' K R' y1 y2 y3 y4 r => ?_) (fun S2 z2 => by rw [z] at z2; cases z2)
    rw [z] at z2; cases z2
    exact h2 m' sl' sh' K R' y1 y2 y3 y4 (cp_fault3 hc f r)
  · have e : ∀ a, 124 ≤ a → J a = I a := fun a ha => f.1 a (by omega)
    have el := sr_lw e
    refine r_sentence (b := fun k => (I 125 k).toNat) (NM := NM) (q := nS (lw I)) hw hm1 (sr_beg e hb) n1 (by rw [e 124 (by decide)]; exact t2) (fun k hk => by rw [e 125 (by decide)]; exact hbr k hk) (by rw [el]; exact nk.1) nk.2 (by rw [e 130 (by decide)]; exact hm3) (fun e2 z2 => by rw [z] at z2; cases z2) (fun S2 z2 m' sl' sh' K R' y1 y2 y3 y4 r => ?_)
    rw [z] at z2; cases z2
    exact h2 m' sl' sh' K R' y1 y2 y3 y4 (cp_sentence hc f r nk.1 (sTxt_K z) (sTxt_P z))
end PAIRS
