/-! ONE by the class: tryAll, couldChange, hasLesserTwin, isTooLate -/
section SH
variable {m sl : Nat} {sh : Nat → Nat × Nat} {I : Nat → Nat → Int} {R : Nat → Nat → Nat} {Q : am_R → am_M → Prop} {d n P k : Nat} {ρ : Int} {q b : Nat → Int}
theorem oze_0 (hQ : ozQ n P ρ q) (h : ∀ s, s < n → b s = -1) {s : Nat} (hs : s < n) : oze n P ρ q b s = 0 := by
  refine oze_eq ⟨Int.le_refl 0, ⟨fun t _ _ => ?_, Or.inl (h _ (ozP_lt hQ.2.1 hs))⟩, fun y h1 h2 => by omega⟩
  have e : ozB n q b t = 0 := by
    unfold ozB
    have e := ax_ct_cg (c := ozI q b t) (e := fun _ => false) (n := n) (fun s hs => by
      unfold ozI
      refine decide_eq_false (fun hc => ?_)
      have := h s hs
      omega)
    rw [e, ct_none]
  have := hQ.2.2.1
  omega
/-- what was ahead of the side set last: k sides are set -/
def ozA (I : Nat → Nat → Int) (n P : Nat) (ρ : Int) (q b : Nat → Int) (k : Nat) (a : Nat → Int) (l : Nat) : Prop := l < n ∧ a l = -1 ∧ b = am_set a l (oze n P ρ q a l) ∧ I 67 (k - 1) = (l : Int) ∧ ∀ s, s < n → a s = -1 → I 70 ((k - 1) * 8 + s) = oze n P ρ q a s
theorem w_tryAll (hw : wd sh R) (hQ : ozQ n P ρ q) (hV : ozV n P ρ q b) (hX : ozX I n P ρ q b) (hM : ozM n q b ≤ 203) (hk : k < 8) (h0 : k = 0 → ∀ s, s < n → b s = -1) (hA : 1 ≤ k → ∃ a l, ozA I n P ρ q b k a l) (h : ∀ J, (∀ a, a ≠ 70 → J a = I a) → (∀ i, ¬ (k * 8 ≤ i ∧ i < k * 8 + 8) → J 70 i = I 70 i) → (∀ s, s < n → b s = -1 → J 70 (k * 8 + s) = oze n P ρ q b s) → Q am_yv (m, sl, sh, J, R)) : am_wp (d + 2) 104 0 [some (.inr (.inr (64))), some (.inl ((k : Int))), none, none, none] [] (m, sl, sh, I, R) Q := by
  have n8 := hQ.1
  have h8 := hX.1
  have kc : (k : Int) * 8 = ((k * 8 : Nat) : Int) := by omega
  have LP : ∀ s : Nat, s ≤ n → ∀ (z4 : Option am_V) (J : Nat → Nat → Int), (∀ a, a ≠ 70 → J a = I a) → (∀ i, ¬ (k * 8 ≤ i ∧ i < k * 8 + 8) → J 70 i = I 70 i) → (∀ r, r < s → b r = -1 → J 70 (k * 8 + r) = oze n P ρ q b r) → am_wp (d + 2) 104 7 [some (.inr (.inr (64))), some (.inl ((k : Int))), some (.inl (((k * 8 : Nat) : Int))), some (.inl ((s : Int))), z4] [] (m, sl, sh, J, R) Q := by
    refine am_lp n (fun s hs ih z4 J j1 j2 j3 => ?_)
    have J8 : J 64 8 = (n : Int) := by rw [j1 64 (by decide)]; exact h8
    refine am_wp_go rfl (by simp (disch := omega) only [s64 hw, J8, am_addE, am_subE, am_mulE, am_laddE, am_lsubE, am_upO, am_upS, am_stS, am_stO, am_tnn, am_brl, am_brg, am_bre, am_brn, am_brG, am_brL, am_st1, am_no2, am_st2, am_clr, and_self, true_and, and_true, true_or, or_true, List.length_cons, List.length_nil] <;> omega) ?_
    try simp (disch := omega) only [s64 hw, J8, am_addE, am_subE, am_mulE, am_laddE, am_lsubE, am_upO, am_upS, am_stS, am_stO, am_tnn, am_brl, am_brg, am_bre, am_brn, am_brG, am_brL, am_st1, am_no2, am_st2, am_clr]
    refine am_wp_br (fun b12 => ?_) (fun b12 => ?_)
    · refine am_wp_ret rfl rfl ?_
      exact h J j1 j2 (fun r hr hb => j3 r (by omega) hb)
    · have ih := ih (by omega)
      have hsn : s < n := by omega
      have J66 : J 66 s = b s := by rw [j1 66 (by decide)]; exact hX.2.2.2.2.1 s hsn
      have JX : ozX J n P ρ q b := ozX_fr hX (fun j _ _ => by rw [j1 64 (by decide)]) (j1 72 (by decide)) (j1 66 (by decide)) (j1 65 (by decide))
      have st : ∀ (z4 : Option am_V) (x : Int), (b s = -1 → x = oze n P ρ q b s) → am_wp (d + 2) 104 7 [some (.inr (.inr (64))), some (.inl ((k : Int))), some (.inl (((k * 8 : Nat) : Int))), some (.inl (((s : Int) + 1))), z4] [] (m, sl, sh, am_up J 70 (k * 8 + s) x, R) Q := by
        intro z4 x hx
        refine am_wp_ls (ih z4 _ (fun a ha => by rw [am_upO ha, j1 a ha]) (fun i hi => by rw [am_upS, am_stO (by omega), j2 i hi]) (fun r hr hb => ?_)) rfl
        rw [am_upS]
        by_cases e : r = s
        · rw [am_stS (by rw [e]), hx (by rw [← e]; exact hb), e]
        · rw [am_stO (by omega)]; exact j3 r (by omega) hb
      refine am_wp_go rfl (by simp (disch := omega) only [s64 hw, r64_1 hw, s66 hw, r64_5 hw, s70 hw, J66, am_tnA, am_addE, am_subE, am_mulE, am_laddE, am_lsubE, am_upO, am_upS, am_stS, am_stO, am_tnn, am_brl, am_brg, am_bre, am_brn, am_brG, am_brL, am_st1, am_no2, am_st2, am_clr, and_self, true_and, and_true, true_or, or_true, List.length_cons, List.length_nil] <;> omega) ?_
      try simp (disch := omega) only [s64 hw, r64_1 hw, s66 hw, r64_5 hw, s70 hw, J66, am_tnA, am_addE, am_subE, am_mulE, am_laddE, am_lsubE, am_upO, am_upS, am_stS, am_stO, am_tnn, am_brl, am_brg, am_bre, am_brn, am_brG, am_brL, am_st1, am_no2, am_st2, am_clr]
      refine am_wp_br (fun b22 => ?_) (fun b22 => ?_)
      · refine am_wp_go rfl (by simp (disch := omega) only [s64 hw, r64_1 hw, s66 hw, r64_5 hw, s70 hw, J66, am_tnA, am_addE, am_subE, am_mulE, am_laddE, am_lsubE, am_upO, am_upS, am_stS, am_stO, am_tnn, am_brl, am_brg, am_bre, am_brn, am_brG, am_brL, am_st1, am_no2, am_st2, am_clr, and_self, true_and, and_true, true_or, or_true, List.length_cons, List.length_nil] <;> omega) ?_
        try simp (disch := omega) only [s64 hw, r64_1 hw, s66 hw, r64_5 hw, s70 hw, J66, am_tnA, am_addE, am_subE, am_mulE, am_laddE, am_lsubE, am_upO, am_upS, am_stS, am_stO, am_tnn, am_brl, am_brg, am_bre, am_brn, am_brG, am_brL, am_st1, am_no2, am_st2, am_clr]
        refine am_wp_br (fun b38 => ?_) (fun b38 => ?_)
        · obtain ⟨a, l, l1, l2, l3, l4, l5⟩ := hA (by omega)
          have sp := (oze_sp (b := a) hQ l1)
          have spm := ozM_up (b := a) hQ l1 l2
          rw [← l3] at spm
          have bl : b l = oze n P ρ q a l := by rw [l3, am_stS rfl]
          have sl0 : s ≠ l := fun e => by rw [e, bl] at b22; have := sp.1.1; omega
          have as : a s = -1 := by rw [l3, am_stO sl0] at b22; exact b22
          have ss := oze_sp (b := a) hQ hsn
          have ql := hQ.2.2.2.2.2.2 l l1
          have r9 := hQ.2.2.2.2.2.1
          have mo := oze_mono (b := a) (x := oze n P ρ q a l) hQ hsn l1 sl0 l2 sp.1.1
          rw [← l3] at mo
          obtain ⟨y, hy⟩ : ∃ y : Nat, oze n P ρ q a s = (y : Int) := ⟨(oze n P ρ q a s).toNat, by have := ss.1.1; omega⟩
          have k1 : (k : Int) - 1 = ((k - 1 : Nat) : Int) := by omega
          have k2 : ((k * 8 : Nat) : Int) - 8 = (((k - 1) * 8 : Nat) : Int) := by omega
          have J67 : J 67 (k - 1) = (l : Int) := by rw [j1 67 (by decide)]; exact l4
          have J70 : J 70 ((k - 1) * 8 + s) = (y : Int) := by rw [j2 _ (by omega), ← hy]; exact l5 s hsn as
          have yb : (y : Int) ≤ 212 := by have := ss.2; omega
          refine am_wp_go rfl (by simp (disch := omega) only [s64 hw, r64_2 hw, r64_5 hw, s67 hw, s70 hw, J67, J70, k1, k2, am_tnA, am_b0, am_addE, am_subE, am_mulE, am_laddE, am_lsubE, am_upO, am_upS, am_stS, am_stO, am_tnn, am_brl, am_brg, am_bre, am_brn, am_brG, am_brL, am_st1, am_no2, am_st2, am_clr, and_self, true_and, and_true, true_or, or_true, List.length_cons, List.length_nil] <;> omega) ?_
          try simp (disch := omega) only [s64 hw, r64_2 hw, r64_5 hw, s67 hw, s70 hw, J67, J70, k1, k2, am_tnA, am_b0, am_addE, am_subE, am_mulE, am_laddE, am_lsubE, am_upO, am_upS, am_stS, am_stO, am_tnn, am_brl, am_brg, am_bre, am_brn, am_brG, am_brL, am_st1, am_no2, am_st2, am_clr]
          refine am_wp_cc rfl rfl rfl (congrArg Prod.fst (s64 hw)) (w_isInTheWay (n := n) (P := P) (ρ := ρ) (q := q) (b := b) (l := l) (s := s) hw hQ JX l1 hsn (by omega) (by rw [bl]; have := sp.1.1; omega) ⟨_, rfl, ?_⟩)
          refine am_wp_go rfl (by simp (disch := omega) only [s64 hw, r64_2 hw, r64_5 hw, s67 hw, s70 hw, J67, J70, k1, k2, am_tnA, am_b0, am_addE, am_subE, am_mulE, am_laddE, am_lsubE, am_upO, am_upS, am_stS, am_stO, am_tnn, am_brl, am_brg, am_bre, am_brn, am_brG, am_brL, am_st1, am_no2, am_st2, am_clr, and_self, true_and, and_true, true_or, or_true, List.length_cons, List.length_nil] <;> omega) ?_
          try simp (disch := omega) only [s64 hw, r64_2 hw, r64_5 hw, s67 hw, s70 hw, J67, J70, k1, k2, am_tnA, am_b0, am_addE, am_subE, am_mulE, am_laddE, am_lsubE, am_upO, am_upS, am_stS, am_stO, am_tnn, am_brl, am_brg, am_bre, am_brn, am_brG, am_brL, am_st1, am_no2, am_st2, am_clr]
          refine am_wp_br (fun b88 => ?_) (fun b88 => ?_)
          · refine am_wp_go rfl (by simp (disch := omega) only [s64 hw, r64_2 hw, r64_5 hw, s67 hw, s70 hw, J67, J70, k1, k2, am_tnA, am_b0, am_addE, am_subE, am_mulE, am_laddE, am_lsubE, am_upO, am_upS, am_stS, am_stO, am_tnn, am_brl, am_brg, am_bre, am_brn, am_brG, am_brL, am_st1, am_no2, am_st2, am_clr, and_self, true_and, and_true, true_or, or_true, List.length_cons, List.length_nil] <;> omega) ?_
            try simp (disch := omega) only [s64 hw, r64_2 hw, r64_5 hw, s67 hw, s70 hw, J67, J70, k1, k2, am_tnA, am_b0, am_addE, am_subE, am_mulE, am_laddE, am_lsubE, am_upO, am_upS, am_stS, am_stO, am_tnn, am_brl, am_brg, am_bre, am_brn, am_brG, am_brL, am_st1, am_no2, am_st2, am_clr]
            refine am_wp_ls (st _ _ (fun _ => ?_)) rfl
            rw [← hy, l3]
            refine (oze_way hQ hsn l1 sl0 l2 sp.1.1 (fun e => b88 (Or.inl e.symm)) ?_).symm
            rw [bl] at b88
            omega
          · refine am_wp_go rfl (by simp (disch := omega) only [s64 hw, r64_2 hw, r64_5 hw, s67 hw, s70 hw, J67, J70, k1, k2, am_tnA, am_b0, am_addE, am_subE, am_mulE, am_laddE, am_lsubE, am_upO, am_upS, am_stS, am_stO, am_tnn, am_brl, am_brg, am_bre, am_brn, am_brG, am_brL, am_st1, am_no2, am_st2, am_clr, and_self, true_and, and_true, true_or, or_true, List.length_cons, List.length_nil] <;> omega) ?_
            try simp (disch := omega) only [s64 hw, r64_2 hw, r64_5 hw, s67 hw, s70 hw, J67, J70, k1, k2, am_tnA, am_b0, am_addE, am_subE, am_mulE, am_laddE, am_lsubE, am_upO, am_upS, am_stS, am_stO, am_tnn, am_brl, am_brg, am_bre, am_brn, am_brG, am_brL, am_st1, am_no2, am_st2, am_clr]
            refine am_wp_cc rfl rfl rfl (congrArg Prod.fst (s64 hw)) (w_earliest (n := n) (P := P) (ρ := ρ) (q := q) (b := b) (s := s) (fr := y) hw hQ hV JX hsn hM (by omega) ⟨_, rfl, ?_⟩)
            refine am_wp_go rfl (by simp (disch := omega) only [s64 hw, r64_2 hw, r64_5 hw, s67 hw, s70 hw, J67, J70, k1, k2, am_tnA, am_b0, am_addE, am_subE, am_mulE, am_laddE, am_lsubE, am_upO, am_upS, am_stS, am_stO, am_tnn, am_brl, am_brg, am_bre, am_brn, am_brG, am_brL, am_st1, am_no2, am_st2, am_clr, and_self, true_and, and_true, true_or, or_true, List.length_cons, List.length_nil] <;> omega) ?_
            try simp (disch := omega) only [s64 hw, r64_2 hw, r64_5 hw, s67 hw, s70 hw, J67, J70, k1, k2, am_tnA, am_b0, am_addE, am_subE, am_mulE, am_laddE, am_lsubE, am_upO, am_upS, am_stS, am_stO, am_tnn, am_brl, am_brg, am_bre, am_brn, am_brG, am_brL, am_st1, am_no2, am_st2, am_clr]
            exact am_wp_ls (st _ _ (fun _ => rfl)) rfl
        · have hk0 : k = 0 := by omega
          refine am_wp_go rfl (by simp (disch := omega) only [s64 hw, r64_1 hw, s66 hw, r64_5 hw, s70 hw, J66, am_tnA, am_addE, am_subE, am_mulE, am_laddE, am_lsubE, am_upO, am_upS, am_stS, am_stO, am_tnn, am_brl, am_brg, am_bre, am_brn, am_brG, am_brL, am_st1, am_no2, am_st2, am_clr, and_self, true_and, and_true, true_or, or_true, List.length_cons, List.length_nil] <;> omega) ?_
          try simp (disch := omega) only [s64 hw, r64_1 hw, s66 hw, r64_5 hw, s70 hw, J66, am_tnA, am_addE, am_subE, am_mulE, am_laddE, am_lsubE, am_upO, am_upS, am_stS, am_stO, am_tnn, am_brl, am_brg, am_bre, am_brn, am_brG, am_brL, am_st1, am_no2, am_st2, am_clr]
          exact am_wp_ls (st _ _ (fun _ => (oze_0 hQ (h0 hk0) hsn).symm)) rfl
      · refine am_wp_go rfl (by simp (disch := omega) only [s64 hw, r64_1 hw, s66 hw, r64_5 hw, s70 hw, J66, am_tnA, am_addE, am_subE, am_mulE, am_laddE, am_lsubE, am_upO, am_upS, am_stS, am_stO, am_tnn, am_brl, am_brg, am_bre, am_brn, am_brG, am_brL, am_st1, am_no2, am_st2, am_clr, and_self, true_and, and_true, true_or, or_true, List.length_cons, List.length_nil] <;> omega) ?_
        try simp (disch := omega) only [s64 hw, r64_1 hw, s66 hw, r64_5 hw, s70 hw, J66, am_tnA, am_addE, am_subE, am_mulE, am_laddE, am_lsubE, am_upO, am_upS, am_stS, am_stO, am_tnn, am_brl, am_brg, am_bre, am_brn, am_brG, am_brL, am_st1, am_no2, am_st2, am_clr]
        exact am_wp_ls (st _ _ (fun hb => absurd hb b22)) rfl
  refine am_wp_go rfl (by simp (disch := omega) only [kc, am_addE, am_subE, am_mulE, am_laddE, am_lsubE, am_upO, am_upS, am_stS, am_stO, am_tnn, am_brl, am_brg, am_bre, am_brn, am_brG, am_brL, am_st1, am_no2, am_st2, am_clr, and_self, true_and, and_true, true_or, or_true, List.length_cons, List.length_nil] <;> omega) ?_
  try simp (disch := omega) only [kc, am_addE, am_subE, am_mulE, am_laddE, am_lsubE, am_upO, am_upS, am_stS, am_stO, am_tnn, am_brl, am_brg, am_bre, am_brn, am_brG, am_brL, am_st1, am_no2, am_st2, am_clr]
  exact am_wp_ls (LP 0 (Nat.zero_le n) none I (fun _ _ => rfl) (fun _ _ => rfl) (fun r hr => absurd hr (Nat.not_lt_zero r))) rfl
theorem w_couldChange {s : Nat} {l : Int} (hw : wd sh R) (hk : k < 8) (hs : s < 8) (hl : 1 ≤ k → I 67 (k - 1) = l) (h : Q (am_yi (am_b (1 ≤ k ∧ (s : Int) < l ∧ I 70 (k * 8 + s) = I 70 ((k - 1) * 8 + s)))) (m, sl, sh, I, R)) : am_wp (d) 108 0 [some (.inr (.inr (64))), some (.inl ((k : Int))), some (.inl ((s : Int))), none] [] (m, sl, sh, I, R) Q := by
  refine am_wp_go rfl (by simp (disch := omega) only [am_addE, am_subE, am_mulE, am_laddE, am_lsubE, am_upO, am_upS, am_stS, am_stO, am_tnn, am_brl, am_brg, am_bre, am_brn, am_brG, am_brL, am_st1, am_no2, am_st2, am_clr, and_self, true_and, and_true, true_or, or_true, List.length_cons, List.length_nil] <;> omega) ?_
  try simp (disch := omega) only [am_addE, am_subE, am_mulE, am_laddE, am_lsubE, am_upO, am_upS, am_stS, am_stO, am_tnn, am_brl, am_brg, am_bre, am_brn, am_brG, am_brL, am_st1, am_no2, am_st2, am_clr]
  refine am_wp_br (fun b2 => ?_) (fun b2 => ?_)
  · refine am_wp_go rfl (by simp (disch := omega) only [am_addE, am_subE, am_mulE, am_laddE, am_lsubE, am_upO, am_upS, am_stS, am_stO, am_tnn, am_brl, am_brg, am_bre, am_brn, am_brG, am_brL, am_st1, am_no2, am_st2, am_clr, and_self, true_and, and_true, true_or, or_true, List.length_cons, List.length_nil] <;> omega) ?_
    try simp (disch := omega) only [am_addE, am_subE, am_mulE, am_laddE, am_lsubE, am_upO, am_upS, am_stS, am_stO, am_tnn, am_brl, am_brg, am_bre, am_brn, am_brG, am_brL, am_st1, am_no2, am_st2, am_clr]
    refine am_wp_ret rfl rfl ?_
    rwa [am_bF (by omega)] at h
  · have l1 := hl (by omega)
    have k1 : (k : Int) - 1 = ((k - 1 : Nat) : Int) := by omega
    have kc : (k : Int) * 8 = ((k * 8 : Nat) : Int) := by omega
    have k2 : ((k * 8 : Nat) : Int) + (s : Int) - 8 = (((k - 1) * 8 + s : Nat) : Int) := by omega
    refine am_wp_go rfl (by simp (disch := omega) only [s64 hw, r64_2 hw, r64_5 hw, s67 hw, s70 hw, l1, k1, kc, k2, am_tnA, am_addE, am_subE, am_mulE, am_laddE, am_lsubE, am_upO, am_upS, am_stS, am_stO, am_tnn, am_brl, am_brg, am_bre, am_brn, am_brG, am_brL, am_st1, am_no2, am_st2, am_clr, and_self, true_and, and_true, true_or, or_true, List.length_cons, List.length_nil] <;> omega) ?_
    try simp (disch := omega) only [s64 hw, r64_2 hw, r64_5 hw, s67 hw, s70 hw, l1, k1, kc, k2, am_tnA, am_addE, am_subE, am_mulE, am_laddE, am_lsubE, am_upO, am_upS, am_stS, am_stO, am_tnn, am_brl, am_brg, am_bre, am_brn, am_brG, am_brL, am_st1, am_no2, am_st2, am_clr]
    refine am_wp_br (fun b14 => ?_) (fun b14 => ?_)
    · refine am_wp_go rfl (by simp (disch := omega) only [s64 hw, r64_2 hw, r64_5 hw, s67 hw, s70 hw, l1, k1, kc, k2, am_tnA, am_addE, am_subE, am_mulE, am_laddE, am_lsubE, am_upO, am_upS, am_stS, am_stO, am_tnn, am_brl, am_brg, am_bre, am_brn, am_brG, am_brL, am_st1, am_no2, am_st2, am_clr, and_self, true_and, and_true, true_or, or_true, List.length_cons, List.length_nil] <;> omega) ?_
      try simp (disch := omega) only [s64 hw, r64_2 hw, r64_5 hw, s67 hw, s70 hw, l1, k1, kc, k2, am_tnA, am_addE, am_subE, am_mulE, am_laddE, am_lsubE, am_upO, am_upS, am_stS, am_stO, am_tnn, am_brl, am_brg, am_bre, am_brn, am_brG, am_brL, am_st1, am_no2, am_st2, am_clr]
      refine am_wp_br (fun b41 => ?_) (fun b41 => ?_)
      · refine am_wp_go rfl (by simp (disch := omega) only [s64 hw, r64_2 hw, r64_5 hw, s67 hw, s70 hw, l1, k1, kc, k2, am_tnA, am_addE, am_subE, am_mulE, am_laddE, am_lsubE, am_upO, am_upS, am_stS, am_stO, am_tnn, am_brl, am_brg, am_bre, am_brn, am_brG, am_brL, am_st1, am_no2, am_st2, am_clr, and_self, true_and, and_true, true_or, or_true, List.length_cons, List.length_nil] <;> omega) ?_
        try simp (disch := omega) only [s64 hw, r64_2 hw, r64_5 hw, s67 hw, s70 hw, l1, k1, kc, k2, am_tnA, am_addE, am_subE, am_mulE, am_laddE, am_lsubE, am_upO, am_upS, am_stS, am_stO, am_tnn, am_brl, am_brg, am_bre, am_brn, am_brG, am_brL, am_st1, am_no2, am_st2, am_clr]
        refine am_wp_ret rfl rfl ?_
        rwa [am_bF (fun hc => b41 hc.2.2)] at h
      · refine am_wp_go rfl (by simp (disch := omega) only [s64 hw, r64_2 hw, r64_5 hw, s67 hw, s70 hw, l1, k1, kc, k2, am_tnA, am_addE, am_subE, am_mulE, am_laddE, am_lsubE, am_upO, am_upS, am_stS, am_stO, am_tnn, am_brl, am_brg, am_bre, am_brn, am_brG, am_brL, am_st1, am_no2, am_st2, am_clr, and_self, true_and, and_true, true_or, or_true, List.length_cons, List.length_nil] <;> omega) ?_
        try simp (disch := omega) only [s64 hw, r64_2 hw, r64_5 hw, s67 hw, s70 hw, l1, k1, kc, k2, am_tnA, am_addE, am_subE, am_mulE, am_laddE, am_lsubE, am_upO, am_upS, am_stS, am_stO, am_tnn, am_brl, am_brg, am_bre, am_brn, am_brG, am_brL, am_st1, am_no2, am_st2, am_clr]
        refine am_wp_ret rfl rfl ?_
        rwa [am_bT ⟨by omega, b14, Classical.not_not.mp b41⟩] at h
    · refine am_wp_go rfl (by simp (disch := omega) only [s64 hw, r64_2 hw, r64_5 hw, s67 hw, s70 hw, l1, k1, kc, k2, am_tnA, am_addE, am_subE, am_mulE, am_laddE, am_lsubE, am_upO, am_upS, am_stS, am_stO, am_tnn, am_brl, am_brg, am_bre, am_brn, am_brG, am_brL, am_st1, am_no2, am_st2, am_clr, and_self, true_and, and_true, true_or, or_true, List.length_cons, List.length_nil] <;> omega) ?_
      try simp (disch := omega) only [s64 hw, r64_2 hw, r64_5 hw, s67 hw, s70 hw, l1, k1, kc, k2, am_tnA, am_addE, am_subE, am_mulE, am_laddE, am_lsubE, am_upO, am_upS, am_stS, am_stO, am_tnn, am_brl, am_brg, am_bre, am_brn, am_brG, am_brL, am_st1, am_no2, am_st2, am_clr]
      refine am_wp_ret rfl rfl ?_
      rwa [am_bF (fun hc => b14 hc.2.1)] at h
/-- a side that is alike and lesser -/
def ozTw (n : Nat) (q b : Nat → Int) (s : Nat) : Prop := ∃ f, ozPi n q f ∧ (∀ r, r < n → b (f r) = b r) ∧ f s < s
theorem w_hasLesserTwin {s : Nat} (hw : wd sh R) (hQ : ozQ n P ρ q) (hX : ozX I n P ρ q b) (hs : s < n) (hb : b s = -1) (h : ∀ v : Int, (v ≠ 0 → ozTw n q b s) → Q (am_yi v) (m, sl, sh, I, R)) : am_wp (d) 107 0 [some (.inr (.inr (64))), some (.inl ((s : Int))), none, none] [] (m, sl, sh, I, R) Q := by
  have n8 := hQ.1
  have n2 := hQ.2.1
  have v0 := h 0 (fun hc => absurd rfl hc)
  have e66 := hX.2.2.2.2.1
  have e72 := hX.2.2.2.1
  have sm : ((s : Int)) % 2 = ((s % 2 : Nat) : Int) := by omega
  have tm : (s : Int) - ((s % 2 : Nat) : Int) = ((s - s % 2 : Nat) : Int) := by omega
  -- the second half
  have SH2 : ∀ (z2 z3 : Option am_V), am_wp (d) 107 38 [some (.inr (.inr (64))), some (.inl ((s : Int))), z2, z3] [] (m, sl, sh, I, R) Q := by
    intro z2 z3
    have t66 := e66 (s - s % 2) (by omega)
    have t66' := e66 (s - s % 2 + 1) (by omega)
    have t72 := e72 (s - s % 2) (by omega)
    have t72' := e72 (s - s % 2 + 1) (by omega)
    generalize hT : s - s % 2 = T at *
    refine am_wp_go rfl (by simp (disch := omega) only [s64 hw, r64_1 hw, s66 hw, t66, t66', am_remE, sm, tm, am_tnA, Int.reduceToNat, am_addE, am_subE, am_mulE, am_laddE, am_lsubE, am_upO, am_upS, am_stS, am_stO, am_tnn, am_brl, am_brg, am_bre, am_brn, am_brG, am_brL, am_st1, am_no2, am_st2, am_clr, and_self, true_and, and_true, true_or, or_true, List.length_cons, List.length_nil] <;> omega) ?_
    try simp (disch := omega) only [s64 hw, r64_1 hw, s66 hw, t66, t66', am_remE, sm, tm, am_tnA, Int.reduceToNat, am_addE, am_subE, am_mulE, am_laddE, am_lsubE, am_upO, am_upS, am_stS, am_stO, am_tnn, am_brl, am_brg, am_bre, am_brn, am_brG, am_brL, am_st1, am_no2, am_st2, am_clr]
    refine am_wp_br (fun b51 => ?_) (fun b51 => ?_)
    · refine am_wp_go rfl (by simp (disch := omega) only [s64 hw, r64_1 hw, s66 hw, t66, t66', am_remE, sm, tm, am_tnA, Int.reduceToNat, am_addE, am_subE, am_mulE, am_laddE, am_lsubE, am_upO, am_upS, am_stS, am_stO, am_tnn, am_brl, am_brg, am_bre, am_brn, am_brG, am_brL, am_st1, am_no2, am_st2, am_clr, and_self, true_and, and_true, true_or, or_true, List.length_cons, List.length_nil] <;> omega) ?_
      try simp (disch := omega) only [s64 hw, r64_1 hw, s66 hw, t66, t66', am_remE, sm, tm, am_tnA, Int.reduceToNat, am_addE, am_subE, am_mulE, am_laddE, am_lsubE, am_upO, am_upS, am_stS, am_stO, am_tnn, am_brl, am_brg, am_bre, am_brn, am_brG, am_brL, am_st1, am_no2, am_st2, am_clr]
      refine am_wp_ret rfl rfl ?_
      exact v0
    · refine am_wp_go rfl (by simp (disch := omega) only [s64 hw, r64_1 hw, s66 hw, t66, t66', am_remE, sm, tm, am_tnA, Int.reduceToNat, am_addE, am_subE, am_mulE, am_laddE, am_lsubE, am_upO, am_upS, am_stS, am_stO, am_tnn, am_brl, am_brg, am_bre, am_brn, am_brG, am_brL, am_st1, am_no2, am_st2, am_clr, and_self, true_and, and_true, true_or, or_true, List.length_cons, List.length_nil] <;> omega) ?_
      try simp (disch := omega) only [s64 hw, r64_1 hw, s66 hw, t66, t66', am_remE, sm, tm, am_tnA, Int.reduceToNat, am_addE, am_subE, am_mulE, am_laddE, am_lsubE, am_upO, am_upS, am_stS, am_stO, am_tnn, am_brl, am_brg, am_bre, am_brn, am_brG, am_brL, am_st1, am_no2, am_st2, am_clr]
      refine am_wp_br (fun b63 => ?_) (fun b63 => ?_)
      · have LP : ∀ j : Nat, j ≤ T / 2 → am_wp (d) 107 70 [some (.inr (.inr (64))), some (.inl ((s : Int))), some (.inl ((T : Int))), some (.inl (((2 * j : Nat) : Int)))] [] (m, sl, sh, I, R) Q := by
          refine am_lp (T / 2) (fun j hj ih => ?_)
          refine am_wp_go rfl (by simp (disch := omega) only [am_remE, sm, tm, am_tnA, Int.reduceToNat, am_addE, am_subE, am_mulE, am_laddE, am_lsubE, am_upO, am_upS, am_stS, am_stO, am_tnn, am_brl, am_brg, am_bre, am_brn, am_brG, am_brL, am_st1, am_no2, am_st2, am_clr, and_self, true_and, and_true, true_or, or_true, List.length_cons, List.length_nil] <;> omega) ?_
          try simp (disch := omega) only [am_remE, sm, tm, am_tnA, Int.reduceToNat, am_addE, am_subE, am_mulE, am_laddE, am_lsubE, am_upO, am_upS, am_stS, am_stO, am_tnn, am_brl, am_brg, am_bre, am_brn, am_brG, am_brL, am_st1, am_no2, am_st2, am_clr]
          refine am_wp_br (fun b72 => ?_) (fun b72 => ?_)
          · refine am_wp_go rfl (by simp (disch := omega) only [am_remE, sm, tm, am_tnA, Int.reduceToNat, am_addE, am_subE, am_mulE, am_laddE, am_lsubE, am_upO, am_upS, am_stS, am_stO, am_tnn, am_brl, am_brg, am_bre, am_brn, am_brG, am_brL, am_st1, am_no2, am_st2, am_clr, and_self, true_and, and_true, true_or, or_true, List.length_cons, List.length_nil] <;> omega) ?_
            try simp (disch := omega) only [am_remE, sm, tm, am_tnA, Int.reduceToNat, am_addE, am_subE, am_mulE, am_laddE, am_lsubE, am_upO, am_upS, am_stS, am_stO, am_tnn, am_brl, am_brg, am_bre, am_brn, am_brG, am_brL, am_st1, am_no2, am_st2, am_clr]
            refine am_wp_ret rfl rfl ?_
            exact v0
          · have ih := ih (by omega)
            have j2 : ((2 * (j + 1) : Nat) : Int) = ((2 * j : Nat) : Int) + 2 := by omega
            rw [j2] at ih
            have a66 := e66 (2 * j) (by omega)
            have a66' := e66 (2 * j + 1) (by omega)
            have a72 := e72 (2 * j) (by omega)
            have a72' := e72 (2 * j + 1) (by omega)
            refine am_wp_go rfl (by simp (disch := omega) only [s64 hw, r64_1 hw, s66 hw, a66, a66', am_tnA, Int.reduceToNat, am_addE, am_subE, am_mulE, am_laddE, am_lsubE, am_upO, am_upS, am_stS, am_stO, am_tnn, am_brl, am_brg, am_bre, am_brn, am_brG, am_brL, am_st1, am_no2, am_st2, am_clr, and_self, true_and, and_true, true_or, or_true, List.length_cons, List.length_nil] <;> omega) ?_
            try simp (disch := omega) only [s64 hw, r64_1 hw, s66 hw, a66, a66', am_tnA, Int.reduceToNat, am_addE, am_subE, am_mulE, am_laddE, am_lsubE, am_upO, am_upS, am_stS, am_stO, am_tnn, am_brl, am_brg, am_bre, am_brn, am_brG, am_brL, am_st1, am_no2, am_st2, am_clr]
            refine am_wp_br (fun b82 => ?_) (fun b82 => ?_)
            · refine am_wp_go rfl (by simp (disch := omega) only [s64 hw, r64_1 hw, s66 hw, a66, a66', am_tnA, Int.reduceToNat, am_addE, am_subE, am_mulE, am_laddE, am_lsubE, am_upO, am_upS, am_stS, am_stO, am_tnn, am_brl, am_brg, am_bre, am_brn, am_brG, am_brL, am_st1, am_no2, am_st2, am_clr, and_self, true_and, and_true, true_or, or_true, List.length_cons, List.length_nil] <;> omega) ?_
              try simp (disch := omega) only [s64 hw, r64_1 hw, s66 hw, a66, a66', am_tnA, Int.reduceToNat, am_addE, am_subE, am_mulE, am_laddE, am_lsubE, am_upO, am_upS, am_stS, am_stO, am_tnn, am_brl, am_brg, am_bre, am_brn, am_brG, am_brL, am_st1, am_no2, am_st2, am_clr]
              exact am_wp_ls ih rfl
            · refine am_wp_go rfl (by simp (disch := omega) only [s64 hw, r64_1 hw, s66 hw, a66, a66', am_tnA, Int.reduceToNat, am_addE, am_subE, am_mulE, am_laddE, am_lsubE, am_upO, am_upS, am_stS, am_stO, am_tnn, am_brl, am_brg, am_bre, am_brn, am_brG, am_brL, am_st1, am_no2, am_st2, am_clr, and_self, true_and, and_true, true_or, or_true, List.length_cons, List.length_nil] <;> omega) ?_
              try simp (disch := omega) only [s64 hw, r64_1 hw, s66 hw, a66, a66', am_tnA, Int.reduceToNat, am_addE, am_subE, am_mulE, am_laddE, am_lsubE, am_upO, am_upS, am_stS, am_stO, am_tnn, am_brl, am_brg, am_bre, am_brn, am_brG, am_brL, am_st1, am_no2, am_st2, am_clr]
              refine am_wp_br (fun b94 => ?_) (fun b94 => ?_)
              · refine am_wp_go rfl (by simp (disch := omega) only [s64 hw, r64_1 hw, s66 hw, a66, a66', am_tnA, Int.reduceToNat, am_addE, am_subE, am_mulE, am_laddE, am_lsubE, am_upO, am_upS, am_stS, am_stO, am_tnn, am_brl, am_brg, am_bre, am_brn, am_brG, am_brL, am_st1, am_no2, am_st2, am_clr, and_self, true_and, and_true, true_or, or_true, List.length_cons, List.length_nil] <;> omega) ?_
                try simp (disch := omega) only [s64 hw, r64_1 hw, s66 hw, a66, a66', am_tnA, Int.reduceToNat, am_addE, am_subE, am_mulE, am_laddE, am_lsubE, am_upO, am_upS, am_stS, am_stO, am_tnn, am_brl, am_brg, am_bre, am_brn, am_brG, am_brL, am_st1, am_no2, am_st2, am_clr]
                exact am_wp_ls ih rfl
              · skip
                refine am_wp_go rfl (by simp (disch := omega) only [s64 hw, r64_7 hw, s72 hw, a72, t72, a72', t72', am_tnA, Int.reduceToNat, am_addE, am_subE, am_mulE, am_laddE, am_lsubE, am_upO, am_upS, am_stS, am_stO, am_tnn, am_brl, am_brg, am_bre, am_brn, am_brG, am_brL, am_st1, am_no2, am_st2, am_clr, and_self, true_and, and_true, true_or, or_true, List.length_cons, List.length_nil] <;> omega) ?_
                try simp (disch := omega) only [s64 hw, r64_7 hw, s72 hw, a72, t72, a72', t72', am_tnA, Int.reduceToNat, am_addE, am_subE, am_mulE, am_laddE, am_lsubE, am_upO, am_upS, am_stS, am_stO, am_tnn, am_brl, am_brg, am_bre, am_brn, am_brG, am_brL, am_st1, am_no2, am_st2, am_clr]
                refine am_wp_br (fun b109 => ?_) (fun b109 => ?_)
                · refine am_wp_go rfl (by simp (disch := omega) only [s64 hw, r64_7 hw, s72 hw, a72, t72, a72', t72', am_tnA, Int.reduceToNat, am_addE, am_subE, am_mulE, am_laddE, am_lsubE, am_upO, am_upS, am_stS, am_stO, am_tnn, am_brl, am_brg, am_bre, am_brn, am_brG, am_brL, am_st1, am_no2, am_st2, am_clr, and_self, true_and, and_true, true_or, or_true, List.length_cons, List.length_nil] <;> omega) ?_
                  try simp (disch := omega) only [s64 hw, r64_7 hw, s72 hw, a72, t72, a72', t72', am_tnA, Int.reduceToNat, am_addE, am_subE, am_mulE, am_laddE, am_lsubE, am_upO, am_upS, am_stS, am_stO, am_tnn, am_brl, am_brg, am_bre, am_brn, am_brG, am_brL, am_st1, am_no2, am_st2, am_clr]
                  exact am_wp_ls ih rfl
                · refine am_wp_go rfl (by simp (disch := omega) only [s64 hw, r64_7 hw, s72 hw, a72, t72, a72', t72', am_tnA, Int.reduceToNat, am_addE, am_subE, am_mulE, am_laddE, am_lsubE, am_upO, am_upS, am_stS, am_stO, am_tnn, am_brl, am_brg, am_bre, am_brn, am_brG, am_brL, am_st1, am_no2, am_st2, am_clr, and_self, true_and, and_true, true_or, or_true, List.length_cons, List.length_nil] <;> omega) ?_
                  try simp (disch := omega) only [s64 hw, r64_7 hw, s72 hw, a72, t72, a72', t72', am_tnA, Int.reduceToNat, am_addE, am_subE, am_mulE, am_laddE, am_lsubE, am_upO, am_upS, am_stS, am_stO, am_tnn, am_brl, am_brg, am_bre, am_brn, am_brG, am_brL, am_st1, am_no2, am_st2, am_clr]
                  refine am_wp_br (fun b128 => ?_) (fun b128 => ?_)
                  · refine am_wp_go rfl (by simp (disch := omega) only [s64 hw, r64_7 hw, s72 hw, a72, t72, a72', t72', am_tnA, Int.reduceToNat, am_addE, am_subE, am_mulE, am_laddE, am_lsubE, am_upO, am_upS, am_stS, am_stO, am_tnn, am_brl, am_brg, am_bre, am_brn, am_brG, am_brL, am_st1, am_no2, am_st2, am_clr, and_self, true_and, and_true, true_or, or_true, List.length_cons, List.length_nil] <;> omega) ?_
                    try simp (disch := omega) only [s64 hw, r64_7 hw, s72 hw, a72, t72, a72', t72', am_tnA, Int.reduceToNat, am_addE, am_subE, am_mulE, am_laddE, am_lsubE, am_upO, am_upS, am_stS, am_stO, am_tnn, am_brl, am_brg, am_bre, am_brn, am_brG, am_brL, am_st1, am_no2, am_st2, am_clr]
                    exact am_wp_ls ih rfl
                  · refine am_wp_go rfl (by simp (disch := omega) only [s64 hw, r64_7 hw, s72 hw, a72, t72, a72', t72', am_tnA, Int.reduceToNat, am_addE, am_subE, am_mulE, am_laddE, am_lsubE, am_upO, am_upS, am_stS, am_stO, am_tnn, am_brl, am_brg, am_bre, am_brn, am_brG, am_brL, am_st1, am_no2, am_st2, am_clr, and_self, true_and, and_true, true_or, or_true, List.length_cons, List.length_nil] <;> omega) ?_
                    try simp (disch := omega) only [s64 hw, r64_7 hw, s72 hw, a72, t72, a72', t72', am_tnA, Int.reduceToNat, am_addE, am_subE, am_mulE, am_laddE, am_lsubE, am_upO, am_upS, am_stS, am_stO, am_tnn, am_brl, am_brg, am_bre, am_brn, am_brG, am_brL, am_st1, am_no2, am_st2, am_clr]
                    refine am_wp_ret rfl rfl ?_
                    refine h 1 (fun _ => ?_)
                    have b1 : b (2 * j) = -1 := by omega
                    have b2 : b (2 * j + 1) = -1 := by omega
                    have b3 : b T = -1 := by omega
                    have b4 : b (T + 1) = -1 := by omega
                    refine ⟨ozU (2 * j) T, ozPi_2 n2 (by omega) (by omega) (by omega) (by omega) (by omega) (by omega), fun r _ => ?_, ?_⟩
                    · unfold ozU
                      by_cases c1 : r = 2 * j
                      · rw [if_pos c1, c1, b1, b3]
                      · by_cases c2 : r = T
                        · rw [if_neg c1, if_pos c2, c2, b1, b3]
                        · by_cases c3 : r = 2 * j + 1
                          · rw [if_neg c1, if_neg c2, if_pos c3, c3, b2, b4]
                          · by_cases c4 : r = T + 1
                            · rw [if_neg c1, if_neg c2, if_neg c3, if_pos c4, c4, b2, b4]
                            · rw [if_neg c1, if_neg c2, if_neg c3, if_neg c4]
                    · unfold ozU
                      (repeat' split) <;> omega
        refine am_wp_go rfl (by simp (disch := omega) only [am_remE, sm, tm, am_tnA, Int.reduceToNat, am_addE, am_subE, am_mulE, am_laddE, am_lsubE, am_upO, am_upS, am_stS, am_stO, am_tnn, am_brl, am_brg, am_bre, am_brn, am_brG, am_brL, am_st1, am_no2, am_st2, am_clr, and_self, true_and, and_true, true_or, or_true, List.length_cons, List.length_nil] <;> omega) ?_
        try simp (disch := omega) only [am_remE, sm, tm, am_tnA, Int.reduceToNat, am_addE, am_subE, am_mulE, am_laddE, am_lsubE, am_upO, am_upS, am_stS, am_stO, am_tnn, am_brl, am_brg, am_bre, am_brn, am_brG, am_brL, am_st1, am_no2, am_st2, am_clr]
        exact am_wp_ls (LP 0 (Nat.zero_le _)) rfl
      · refine am_wp_go rfl (by simp (disch := omega) only [s64 hw, r64_1 hw, s66 hw, t66, t66', am_remE, sm, tm, am_tnA, Int.reduceToNat, am_addE, am_subE, am_mulE, am_laddE, am_lsubE, am_upO, am_upS, am_stS, am_stO, am_tnn, am_brl, am_brg, am_bre, am_brn, am_brG, am_brL, am_st1, am_no2, am_st2, am_clr, and_self, true_and, and_true, true_or, or_true, List.length_cons, List.length_nil] <;> omega) ?_
        try simp (disch := omega) only [s64 hw, r64_1 hw, s66 hw, t66, t66', am_remE, sm, tm, am_tnA, Int.reduceToNat, am_addE, am_subE, am_mulE, am_laddE, am_lsubE, am_upO, am_upS, am_stS, am_stO, am_tnn, am_brl, am_brg, am_bre, am_brn, am_brG, am_brL, am_st1, am_no2, am_st2, am_clr]
        refine am_wp_ret rfl rfl ?_
        exact v0
  refine am_wp_go rfl (by simp (disch := omega) only [am_remE, sm, am_addE, am_subE, am_mulE, am_laddE, am_lsubE, am_upO, am_upS, am_stS, am_stO, am_tnn, am_brl, am_brg, am_bre, am_brn, am_brG, am_brL, am_st1, am_no2, am_st2, am_clr, and_self, true_and, and_true, true_or, or_true, List.length_cons, List.length_nil] <;> omega) ?_
  try simp (disch := omega) only [am_remE, sm, am_addE, am_subE, am_mulE, am_laddE, am_lsubE, am_upO, am_upS, am_stS, am_stO, am_tnn, am_brl, am_brg, am_bre, am_brn, am_brG, am_brL, am_st1, am_no2, am_st2, am_clr]
  refine am_wp_br (fun b4 => ?_) (fun b4 => ?_)
  · exact am_wp_ls (SH2 _ _) rfl
  · have s1 : (s : Int) - 1 = ((s - 1 : Nat) : Int) := by omega
    have a66 := e66 (s - 1) (by omega)
    have a72 := e72 (s - 1) (by omega)
    have a72' := e72 s hs
    refine am_wp_go rfl (by simp (disch := omega) only [s64 hw, r64_1 hw, s66 hw, a66, s1, am_addE, am_subE, am_mulE, am_laddE, am_lsubE, am_upO, am_upS, am_stS, am_stO, am_tnn, am_brl, am_brg, am_bre, am_brn, am_brG, am_brL, am_st1, am_no2, am_st2, am_clr, and_self, true_and, and_true, true_or, or_true, List.length_cons, List.length_nil] <;> omega) ?_
    try simp (disch := omega) only [s64 hw, r64_1 hw, s66 hw, a66, s1, am_addE, am_subE, am_mulE, am_laddE, am_lsubE, am_upO, am_upS, am_stS, am_stO, am_tnn, am_brl, am_brg, am_bre, am_brn, am_brG, am_brL, am_st1, am_no2, am_st2, am_clr]
    refine am_wp_br (fun b16 => ?_) (fun b16 => ?_)
    · exact am_wp_ls (SH2 _ _) rfl
    · skip
      refine am_wp_go rfl (by simp (disch := omega) only [s64 hw, r64_7 hw, s72 hw, a72, a72', s1, am_addE, am_subE, am_mulE, am_laddE, am_lsubE, am_upO, am_upS, am_stS, am_stO, am_tnn, am_brl, am_brg, am_bre, am_brn, am_brG, am_brL, am_st1, am_no2, am_st2, am_clr, and_self, true_and, and_true, true_or, or_true, List.length_cons, List.length_nil] <;> omega) ?_
      try simp (disch := omega) only [s64 hw, r64_7 hw, s72 hw, a72, a72', s1, am_addE, am_subE, am_mulE, am_laddE, am_lsubE, am_upO, am_upS, am_stS, am_stO, am_tnn, am_brl, am_brg, am_bre, am_brn, am_brG, am_brL, am_st1, am_no2, am_st2, am_clr]
      refine am_wp_br (fun b33 => ?_) (fun b33 => ?_)
      · exact am_wp_ls (SH2 _ _) rfl
      · refine am_wp_go rfl (by simp (disch := omega) only [s64 hw, r64_7 hw, s72 hw, a72, a72', s1, am_addE, am_subE, am_mulE, am_laddE, am_lsubE, am_upO, am_upS, am_stS, am_stO, am_tnn, am_brl, am_brg, am_bre, am_brn, am_brG, am_brL, am_st1, am_no2, am_st2, am_clr, and_self, true_and, and_true, true_or, or_true, List.length_cons, List.length_nil] <;> omega) ?_
        try simp (disch := omega) only [s64 hw, r64_7 hw, s72 hw, a72, a72', s1, am_addE, am_subE, am_mulE, am_laddE, am_lsubE, am_upO, am_upS, am_stS, am_stO, am_tnn, am_brl, am_brg, am_bre, am_brn, am_brG, am_brL, am_st1, am_no2, am_st2, am_clr]
        refine am_wp_ret rfl rfl ?_
        refine h 1 (fun _ => ⟨ozT (s - 1) (s - 1 + 1), ozPi_1 n2 (by omega) (by omega) (by rw [show s - 1 + 1 = s by omega]; omega), fun r _ => ?_, ?_⟩)
        · unfold ozT
          by_cases c1 : r = s - 1
          · rw [if_pos c1, c1, show s - 1 + 1 = s by omega]; omega
          · by_cases c2 : r = s - 1 + 1
            · rw [if_neg c1, if_pos c2, show r = s by omega]; omega
            · rw [if_neg c1, if_neg c2]
        · unfold ozT
          (repeat' split) <;> omega
end SH
