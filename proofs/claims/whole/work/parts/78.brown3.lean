/-! BROWN: the reference -/
theorem am_j_j (x : Int) : am_j (am_j x) = am_j x := by unfold am_j; rw [Int64.ofInt_toInt]
theorem am_j_z {s v : Int} (h : am_j v = 0) : am_j (s + v) = am_j s := by
  rw [← am_j_add, h]
  unfold am_ladd
  rw [Int.add_zero, am_j_j]
theorem dn_le {g s : Nat} : dn g s ≤ g := Nat.le_of_testBit (fun i hi => by rw [dn_tb, Bool.and_eq_true] at hi; exact hi.1)
theorem dn_dis {g s : Nat} : dn g s &&& s = 0 := by
  refine Nat.eq_of_testBit_eq (fun i => ?_)
  rw [Nat.testBit_and, dn_tb, Nat.zero_testBit]
  cases g.testBit i <;> cases s.testBit i <;> rfl
theorem dis_add {c k : Nat} (hc : c < 1024) (h : c &&& k = 0) : c ||| k = c + k := or_add 10 c k (by simpa using hc) h
/-- what is taken out of a set -/
theorem sub_dn {k T : Nat} (hT : T < 1024) (h : k &&& T = k) : T - k = dn T k := by
  have e : dn T k ||| k = T := by
    refine Nat.eq_of_testBit_eq (fun i => ?_)
    rw [Nat.testBit_or, dn_tb]
    have := sub_tb.mp h i
    cases hk : k.testBit i with
    | false => cases T.testBit i <;> rfl
    | true => rw [this hk]; rfl
  have l := @dn_le T k
  rw [dis_add (by omega) dn_dis] at e
  omega
theorem dn_sub {k T g : Nat} (h : T &&& g = T) : dn T k &&& dn g k = dn T k := by
  refine sub_tb.mpr (fun i hi => ?_)
  rw [dn_tb, Bool.and_eq_true] at hi ⊢
  exact ⟨sub_tb.mp h i hi.1, hi.2⟩
theorem or_iff {k c g T : Nat} (hg : g < 1024) (hT : T < 1024) (hc : c &&& dn g k = c) : k ||| c = T ↔ (k &&& T = k ∧ T - k = c) := by
  have cl : c ≤ dn g k := by rw [← hc]; exact Nat.and_le_right
  have gl := @dn_le g k
  have dis : c &&& k = 0 := by
    rw [← hc, Nat.and_assoc, dn_dis, Nat.and_zero]
  have ad := dis_add (c := c) (k := k) (by omega) dis
  constructor
  · intro h
    subst h
    refine ⟨?_, by rw [Nat.or_comm, ad]; omega⟩
    refine sub_tb.mpr (fun i hi => ?_)
    rw [Nat.testBit_or, hi, Bool.true_or]
  · rintro ⟨h1, h2⟩
    have : k ≤ T := by rw [← h1]; exact Nat.and_le_right
    rw [Nat.or_comm, ad]
    omega
theorem cBS_0 : ∀ x : Fin 1024, (cB 5 x.val = 0 ∧ cS 5 x.val = 0) ↔ x.val = 0 := by decide +kernel
def brFR (I J : Nat → Nat → Int) : Prop := (∀ a, a ≠ 124 → a ≠ 157 → a ≠ 158 → J a = I a) ∧ (∀ j, j ≠ 0 → j ≠ 2 → J 124 j = I 124 j) ∧ J 124 2 = 0
section BROWN
variable {m sl : Nat} {sh : Nat → Nat × Nat} {I : Nat → Nat → Int} {R : Nat → Nat → Nat} {Q : am_R → am_M → Prop} {d : Nat}
/-- from the loop over the minutes on -/
theorem w_M_brownT {g tn pn n : Nat} (hw : wd sh R) (hg : g < 1024) (hp : pn ≤ 4) (ht : tn ≤ 10) (h : ∀ J, (∀ a, a ≠ 157 → a ≠ 158 → J a = I a) → Q (am_yj (am_j (brW pn tn (cB 5 g) (cS 5 g)))) (m, sl, sh, J, R)) (z6 z7 z8 : Option am_V) (hI : ∀ x, x < 1024 → I 157 x = if x = 0 then 1 else 0) : am_wp (d + 2) 303 129 [some (.inr (.inr (124))), some (.inl ((tn : Int))), some (.inl ((pn : Int))), some (.inl ((n : Int))), some (.inl ((g : Int))), some (.inl (0)), z6, z7, z8] [] (m, sl, sh, I, R) Q := by
  have bnd : ∀ T : Nat, T &&& g = T → T < 1024 := fun T hT => by
    have h1 : T &&& g ≤ g := Nat.and_le_right
    rw [hT] at h1
    omega
  have A : ∀ t, t ≤ tn → ∀ (z6 z7 z8 : Option am_V) (K : Nat → Nat → Int), (∀ a, a ≠ 157 → a ≠ 158 → K a = I a) → (∀ T : Nat, T &&& g = T → K 157 T = am_j (brW pn t (cB 5 T) (cS 5 T))) → am_wp (d + 2) 303 129 [some (.inr (.inr (124))), some (.inl ((tn : Int))), some (.inl ((pn : Int))), some (.inl ((n : Int))), some (.inl ((g : Int))), some (.inl ((t : Int))), z6, z7, z8] [] (m, sl, sh, K, R) Q := by
    refine am_lp tn (fun t ht2 ih z6 z7 z8 K k1 k2 => ?_)
    have e0 := k2 g (Nat.and_self g)
    refine am_wp_go rfl (by simp (disch := omega) only [s124 hw, r124_54 hw, s157 hw, e0, am_addE, am_subE, am_mulE, am_laddE, am_lsubE, am_upO, am_upS, am_stS, am_stO, am_tnn, am_brl, am_brg, am_bre, am_brn, am_brG, am_brL, am_st1, am_no2, am_st2, am_clr, and_self, true_and, and_true, true_or, or_true, List.length_cons, List.length_nil] <;> omega) ?_
    try simp (disch := omega) only [s124 hw, r124_54 hw, s157 hw, e0, am_addE, am_subE, am_mulE, am_laddE, am_lsubE, am_upO, am_upS, am_stS, am_stO, am_tnn, am_brl, am_brg, am_bre, am_brn, am_brG, am_brL, am_st1, am_no2, am_st2, am_clr]
    refine am_wp_br (fun b132 => ?_) (fun b132 => ?_)
    · refine am_wp_go rfl (by simp (disch := omega) only [s124 hw, r124_54 hw, s157 hw, e0, am_addE, am_subE, am_mulE, am_laddE, am_lsubE, am_upO, am_upS, am_stS, am_stO, am_tnn, am_brl, am_brg, am_bre, am_brn, am_brG, am_brL, am_st1, am_no2, am_st2, am_clr, and_self, true_and, and_true, true_or, or_true, List.length_cons, List.length_nil] <;> omega) ?_
      try simp (disch := omega) only [s124 hw, r124_54 hw, s157 hw, e0, am_addE, am_subE, am_mulE, am_laddE, am_lsubE, am_upO, am_upS, am_stS, am_stO, am_tnn, am_brl, am_brg, am_bre, am_brn, am_brG, am_brL, am_st1, am_no2, am_st2, am_clr]
      refine am_wp_ret rfl rfl ?_
      rw [show tn = t by omega] at h
      exact h K k1
    · have ih := ih (by omega)
      clear h
      refine am_wp_go rfl (by simp (disch := omega) only [s124 hw, r124_54 hw, s157 hw, e0, am_addE, am_subE, am_mulE, am_laddE, am_lsubE, am_upO, am_upS, am_stS, am_stO, am_tnn, am_brl, am_brg, am_bre, am_brn, am_brG, am_brL, am_st1, am_no2, am_st2, am_clr, and_self, true_and, and_true, true_or, or_true, List.length_cons, List.length_nil] <;> omega) ?_
      try simp (disch := omega) only [s124 hw, r124_54 hw, s157 hw, e0, am_addE, am_subE, am_mulE, am_laddE, am_lsubE, am_upO, am_upS, am_stS, am_stO, am_tnn, am_brl, am_brg, am_bre, am_brn, am_brG, am_brL, am_st1, am_no2, am_st2, am_clr]
      -- waysNext is 0
      have B : ∀ x, x ≤ 1024 → ∀ (V : Nat → Nat → Int), (∀ a, a ≠ 158 → V a = K a) → (∀ y, y < x → V 158 y = 0) → am_wp (d + 2) 303 138 [some (.inr (.inr (124))), some (.inl ((tn : Int))), some (.inl ((pn : Int))), some (.inl ((n : Int))), some (.inl ((g : Int))), some (.inl ((t : Int))), some (.inl ((x : Int))), z7, z8] [] (m, sl, sh, V, R) Q := by
        refine am_lp 1024 (fun x hx ih2 V v1 v2 => ?_)
        refine am_wp_go rfl (by simp (disch := omega) only [s124 hw, r124_55 hw, s158 hw, am_addE, am_subE, am_mulE, am_laddE, am_lsubE, am_upO, am_upS, am_stS, am_stO, am_tnn, am_brl, am_brg, am_bre, am_brn, am_brG, am_brL, am_st1, am_no2, am_st2, am_clr, and_self, true_and, and_true, true_or, or_true, List.length_cons, List.length_nil] <;> omega) ?_
        try simp (disch := omega) only [s124 hw, r124_55 hw, s158 hw, am_addE, am_subE, am_mulE, am_laddE, am_lsubE, am_upO, am_upS, am_stS, am_stO, am_tnn, am_brl, am_brg, am_bre, am_brn, am_brG, am_brL, am_st1, am_no2, am_st2, am_clr]
        refine am_wp_br (fun b143 => ?_) (fun b143 => ?_)
        · have e : x = 1024 := by omega
          subst e
          clear ih2
          refine am_wp_go rfl (by simp (disch := omega) only [s124 hw, r124_55 hw, s158 hw, am_addE, am_subE, am_mulE, am_laddE, am_lsubE, am_upO, am_upS, am_stS, am_stO, am_tnn, am_brl, am_brg, am_bre, am_brn, am_brG, am_brL, am_st1, am_no2, am_st2, am_clr, and_self, true_and, and_true, true_or, or_true, List.length_cons, List.length_nil] <;> omega) ?_
          try simp (disch := omega) only [s124 hw, r124_55 hw, s158 hw, am_addE, am_subE, am_mulE, am_laddE, am_lsubE, am_upO, am_upS, am_stS, am_stO, am_tnn, am_brl, am_brg, am_bre, am_brn, am_brG, am_brL, am_st1, am_no2, am_st2, am_clr]
          -- set by set
          have C : ∀ k, k ≤ 1024 → ∀ (z7 z8 : Option am_V) (V : Nat → Nat → Int), (∀ a, a ≠ 158 → V a = K a) → (∀ T : Nat, T &&& g = T → V 158 T = am_j (am_fsum (brC (brW pn t) 5 T pn 0 0) k)) → am_wp (d + 2) 303 163 [some (.inr (.inr (124))), some (.inl ((tn : Int))), some (.inl ((pn : Int))), some (.inl ((n : Int))), some (.inl ((g : Int))), some (.inl ((t : Int))), some (.inl ((k : Int))), z7, z8] [] (m, sl, sh, V, R) Q := by
            refine am_lp 1024 (fun k hk ih3 z7 z8 V v1 v2 => ?_)
            refine am_wp_go rfl (by simp (disch := omega) only [s124 hw, r124_54 hw, s157 hw, am_lcmpN, am_lcmpE, am_addE, am_subE, am_mulE, am_laddE, am_lsubE, am_upO, am_upS, am_stS, am_stO, am_tnn, am_brl, am_brg, am_bre, am_brn, am_brG, am_brL, am_st1, am_no2, am_st2, am_clr, and_self, true_and, and_true, true_or, or_true, List.length_cons, List.length_nil] <;> omega) ?_
            try simp (disch := omega) only [s124 hw, r124_54 hw, s157 hw, am_lcmpN, am_lcmpE, am_addE, am_subE, am_mulE, am_laddE, am_lsubE, am_upO, am_upS, am_stS, am_stO, am_tnn, am_brl, am_brg, am_bre, am_brn, am_brG, am_brL, am_st1, am_no2, am_st2, am_clr]
            refine am_wp_br (fun b168 => ?_) (fun b168 => ?_)
            · have e : k = 1024 := by omega
              subst e
              clear ih3
              refine am_wp_go rfl (by simp (disch := omega) only [s124 hw, r124_54 hw, s157 hw, am_lcmpN, am_lcmpE, am_addE, am_subE, am_mulE, am_laddE, am_lsubE, am_upO, am_upS, am_stS, am_stO, am_tnn, am_brl, am_brg, am_bre, am_brn, am_brG, am_brL, am_st1, am_no2, am_st2, am_clr, and_self, true_and, and_true, true_or, or_true, List.length_cons, List.length_nil] <;> omega) ?_
              try simp (disch := omega) only [s124 hw, r124_54 hw, s157 hw, am_lcmpN, am_lcmpE, am_addE, am_subE, am_mulE, am_laddE, am_lsubE, am_upO, am_upS, am_stS, am_stO, am_tnn, am_brl, am_brg, am_bre, am_brn, am_brG, am_brL, am_st1, am_no2, am_st2, am_clr]
              have D : ∀ x, x ≤ 1024 → ∀ (z7 z8 : Option am_V) (X : Nat → Nat → Int), (∀ a, a ≠ 157 → X a = V a) → (∀ y, y < x → X 157 y = V 158 y) → am_wp (d + 2) 303 263 [some (.inr (.inr (124))), some (.inl ((tn : Int))), some (.inl ((pn : Int))), some (.inl ((n : Int))), some (.inl ((g : Int))), some (.inl ((t : Int))), some (.inl ((x : Int))), z7, z8] [] (m, sl, sh, X, R) Q := by
                refine am_lp 1024 (fun x hx ih4 z7 z8 X x1 x2 => ?_)
                refine am_wp_go rfl (by simp (disch := omega) only [s124 hw, r124_54 hw, s157 hw, r124_55 hw, s158 hw, am_lcmpN, am_lcmpE, am_addE, am_subE, am_mulE, am_laddE, am_lsubE, am_upO, am_upS, am_stS, am_stO, am_tnn, am_brl, am_brg, am_bre, am_brn, am_brG, am_brL, am_st1, am_no2, am_st2, am_clr, and_self, true_and, and_true, true_or, or_true, List.length_cons, List.length_nil] <;> omega) ?_
                try simp (disch := omega) only [s124 hw, r124_54 hw, s157 hw, r124_55 hw, s158 hw, am_lcmpN, am_lcmpE, am_addE, am_subE, am_mulE, am_laddE, am_lsubE, am_upO, am_upS, am_stS, am_stO, am_tnn, am_brl, am_brg, am_bre, am_brn, am_brG, am_brL, am_st1, am_no2, am_st2, am_clr]
                refine am_wp_br (fun b268 => ?_) (fun b268 => ?_)
                · refine am_wp_go rfl (by simp (disch := omega) only [s124 hw, r124_54 hw, s157 hw, r124_55 hw, s158 hw, am_lcmpN, am_lcmpE, am_addE, am_subE, am_mulE, am_laddE, am_lsubE, am_upO, am_upS, am_stS, am_stO, am_tnn, am_brl, am_brg, am_bre, am_brn, am_brG, am_brL, am_st1, am_no2, am_st2, am_clr, and_self, true_and, and_true, true_or, or_true, List.length_cons, List.length_nil] <;> omega) ?_
                  try simp (disch := omega) only [s124 hw, r124_54 hw, s157 hw, r124_55 hw, s158 hw, am_lcmpN, am_lcmpE, am_addE, am_subE, am_mulE, am_laddE, am_lsubE, am_upO, am_upS, am_stS, am_stO, am_tnn, am_brl, am_brg, am_bre, am_brn, am_brG, am_brL, am_st1, am_no2, am_st2, am_clr]
                  refine am_wp_ls (ih _ _ _ X (fun a a1 a2 => by rw [x1 a a1, v1 a a2, k1 a a1 a2]) (fun T hT => ?_)) rfl
                  rw [x2 T (by have := bnd T hT; omega), v2 T hT, show (1024 : Nat) = 4 ^ 5 from rfl, br_sum, Zl_Z]
                  rfl
                · refine am_wp_go rfl (by simp (disch := omega) only [s124 hw, r124_54 hw, s157 hw, r124_55 hw, s158 hw, am_lcmpN, am_lcmpE, am_addE, am_subE, am_mulE, am_laddE, am_lsubE, am_upO, am_upS, am_stS, am_stO, am_tnn, am_brl, am_brg, am_bre, am_brn, am_brG, am_brL, am_st1, am_no2, am_st2, am_clr, and_self, true_and, and_true, true_or, or_true, List.length_cons, List.length_nil] <;> omega) ?_
                  try simp (disch := omega) only [s124 hw, r124_54 hw, s157 hw, r124_55 hw, s158 hw, am_lcmpN, am_lcmpE, am_addE, am_subE, am_mulE, am_laddE, am_lsubE, am_upO, am_upS, am_stS, am_stO, am_tnn, am_brl, am_brg, am_bre, am_brn, am_brG, am_brL, am_st1, am_no2, am_st2, am_clr]
                  refine am_wp_ls (ih4 (by omega) _ _ _ (fun a ha => by rw [am_upO ha, x1 a ha]) (fun y hy => ?_)) rfl
                  rw [am_upS]
                  by_cases hyx : y = x
                  · rw [am_stS hyx, hyx, x1 158 (by decide)]
                  · rw [am_stO hyx]; exact x2 y (by omega)
              exact am_wp_ls (D 0 (by omega) _ _ V (fun _ _ => rfl) (fun y hy => absurd hy (Nat.not_lt_zero y))) rfl
            · have ih3 := ih3 (by omega)
              have k157 : V 157 k = K 157 k := by rw [v1 157 (by decide)]
              refine am_wp_go rfl (by simp (disch := omega) only [s124 hw, r124_54 hw, s157 hw, am_lcmpN, am_lcmpE, am_addE, am_subE, am_mulE, am_laddE, am_lsubE, am_upO, am_upS, am_stS, am_stO, am_tnn, am_brl, am_brg, am_bre, am_brn, am_brG, am_brL, am_st1, am_no2, am_st2, am_clr, and_self, true_and, and_true, true_or, or_true, List.length_cons, List.length_nil] <;> omega) ?_
              try simp (disch := omega) only [s124 hw, r124_54 hw, s157 hw, am_lcmpN, am_lcmpE, am_addE, am_subE, am_mulE, am_laddE, am_lsubE, am_upO, am_upS, am_stS, am_stO, am_tnn, am_brl, am_brg, am_bre, am_brn, am_brG, am_brL, am_st1, am_no2, am_st2, am_clr]
              refine am_wp_br (fun b180 => ?_) (fun b180 => ?_)
              · have rl := @dn_le g k
                refine am_wp_go rfl (by simp (disch := omega) only [s124 hw, r124_54 hw, s157 hw, am_dnN, am_addE, am_subE, am_mulE, am_laddE, am_lsubE, am_upO, am_upS, am_stS, am_stO, am_tnn, am_brl, am_brg, am_bre, am_brn, am_brG, am_brL, am_st1, am_no2, am_st2, am_clr, and_self, true_and, and_true, true_or, or_true, List.length_cons, List.length_nil] <;> omega) ?_
                try simp (disch := omega) only [s124 hw, r124_54 hw, s157 hw, am_dnN, am_addE, am_subE, am_mulE, am_laddE, am_lsubE, am_upO, am_upS, am_stS, am_stO, am_tnn, am_brl, am_brg, am_bre, am_brn, am_brG, am_brL, am_st1, am_no2, am_st2, am_clr]
                -- subsets of what is left
                have E : ∀ (V : Nat → Nat → Int), (∀ a, a ≠ 158 → V a = K a) → (∀ T : Nat, T &&& g = T → V 158 T = am_j (am_fsum (brC (brW pn t) 5 T pn 0 0) k + brC (brW pn t) 5 T pn 0 0 k)) → am_wp (d + 2) 303 199 [some (.inr (.inr (124))), some (.inl ((tn : Int))), some (.inl ((pn : Int))), some (.inl ((n : Int))), some (.inl ((g : Int))), some (.inl ((t : Int))), some (.inl ((k : Int))), some (.inl ((dn g k : Int))), some (.inl (-1))] [] (m, sl, sh, V, R) Q := fun V v1 v2 => by
                  refine am_wp_go rfl (by simp (disch := omega) only [am_dnN, am_addE, am_subE, am_mulE, am_laddE, am_lsubE, am_upO, am_upS, am_stS, am_stO, am_tnn, am_brl, am_brg, am_bre, am_brn, am_brG, am_brL, am_st1, am_no2, am_st2, am_clr, and_self, true_and, and_true, true_or, or_true, List.length_cons, List.length_nil] <;> omega) ?_
                  refine am_wp_pc (pc' := 254) rfl ?_
                  refine am_wp_go rfl (by simp (disch := omega) only [am_dnN, am_addE, am_subE, am_mulE, am_laddE, am_lsubE, am_upO, am_upS, am_stS, am_stO, am_tnn, am_brl, am_brg, am_bre, am_brn, am_brG, am_brL, am_st1, am_no2, am_st2, am_clr, and_self, true_and, and_true, true_or, or_true, List.length_cons, List.length_nil] <;> omega) ?_
                  try simp (disch := omega) only [am_dnN, am_addE, am_subE, am_mulE, am_laddE, am_lsubE, am_upO, am_upS, am_stS, am_stO, am_tnn, am_brl, am_brg, am_bre, am_brn, am_brG, am_brL, am_st1, am_no2, am_st2, am_clr]
                  exact am_wp_ls (ih3 _ _ V v1 v2) rfl
                have G : ∀ c : Nat, ∀ (V : Nat → Nat → Int), c &&& dn g k = c → (∀ a, a ≠ 158 → V a = K a) → (∀ T : Nat, T &&& g = T → V 158 T = am_j (am_fsum (brC (brW pn t) 5 T pn 0 0) k + if c < T - k then brC (brW pn t) 5 T pn 0 0 k else 0)) → am_wp (d + 2) 303 199 [some (.inr (.inr (124))), some (.inl ((tn : Int))), some (.inl ((pn : Int))), some (.inl ((n : Int))), some (.inl ((g : Int))), some (.inl ((t : Int))), some (.inl ((k : Int))), some (.inl ((dn g k : Int))), some (.inl ((c : Int)))] [] (m, sl, sh, V, R) Q := by
                  refine am_lm (α := Nat) (P := fun c => ∀ (V : Nat → Nat → Int), c &&& dn g k = c → (∀ a, a ≠ 158 → V a = K a) → (∀ T : Nat, T &&& g = T → V 158 T = am_j (am_fsum (brC (brW pn t) 5 T pn 0 0) k + if c < T - k then brC (brW pn t) 5 T pn 0 0 k else 0)) → am_wp (d + 2) 303 199 [some (.inr (.inr (124))), some (.inl ((tn : Int))), some (.inl ((pn : Int))), some (.inl ((n : Int))), some (.inl ((g : Int))), some (.inl ((t : Int))), some (.inl ((k : Int))), some (.inl ((dn g k : Int))), some (.inl ((c : Int)))] [] (m, sl, sh, V, R) Q) id (fun c ihc V hc v1 v2 => ?_)
                  have cl : c ≤ dn g k := by rw [← hc]; exact Nat.and_le_right
                  -- behind this one
                  have NX : ∀ (X : Nat → Nat → Int), (∀ a, a ≠ 158 → X a = K a) → (∀ T : Nat, T &&& g = T → X 158 T = am_j (am_fsum (brC (brW pn t) 5 T pn 0 0) k + if c ≤ T - k then brC (brW pn t) 5 T pn 0 0 k else 0)) → am_wp (d + 2) 303 233 [some (.inr (.inr (124))), some (.inl ((tn : Int))), some (.inl ((pn : Int))), some (.inl ((n : Int))), some (.inl ((g : Int))), some (.inl ((t : Int))), some (.inl ((k : Int))), some (.inl ((dn g k : Int))), some (.inl ((c : Int)))] [] (m, sl, sh, X, R) Q := fun X x1 x2 => by
                    refine am_wp_go rfl (by simp (disch := omega) only [am_dnN, am_addE, am_subE, am_mulE, am_laddE, am_lsubE, am_upO, am_upS, am_stS, am_stO, am_tnn, am_brl, am_brg, am_bre, am_brn, am_brG, am_brL, am_st1, am_no2, am_st2, am_clr, and_self, true_and, and_true, true_or, or_true, List.length_cons, List.length_nil] <;> omega) ?_
                    try simp (disch := omega) only [am_dnN, am_addE, am_subE, am_mulE, am_laddE, am_lsubE, am_upO, am_upS, am_stS, am_stO, am_tnn, am_brl, am_brg, am_bre, am_brn, am_brG, am_brL, am_st1, am_no2, am_st2, am_clr]
                    refine am_wp_br (fun b235 => ?_) (fun b235 => ?_)
                    · have e1 : ((c : Int)) - 1 = ((c - 1 : Nat) : Int) := by omega
                      have lt : (c - 1) &&& dn g k < c := by have : (c - 1) &&& dn g k ≤ c - 1 := Nat.and_le_left; omega
                      refine am_wp_go rfl (by simp (disch := omega) only [e1, am_andN, am_addE, am_subE, am_mulE, am_laddE, am_lsubE, am_upO, am_upS, am_stS, am_stO, am_tnn, am_brl, am_brg, am_bre, am_brn, am_brG, am_brL, am_st1, am_no2, am_st2, am_clr, and_self, true_and, and_true, true_or, or_true, List.length_cons, List.length_nil] <;> omega) ?_
                      try simp (disch := omega) only [e1, am_andN, am_addE, am_subE, am_mulE, am_laddE, am_lsubE, am_upO, am_upS, am_stS, am_stO, am_tnn, am_brl, am_brg, am_bre, am_brn, am_brG, am_brL, am_st1, am_no2, am_st2, am_clr]
                      refine am_wp_ls (ihc ((c - 1) &&& dn g k) lt X sub_sub x1 (fun T hT => ?_)) rfl
                      rw [x2 T hT]
                      by_cases hk2 : k &&& T = k
                      · have hs := sub_next 10 (dn g k) c (T - k) (by simp only [Nat.reducePow]; omega) hc (by rw [sub_dn (bnd T hT) hk2]; exact dn_sub hT) (by omega)
                        by_cases hcT : c ≤ T - k
                        · rw [if_pos hcT, if_pos (by omega)]
                        · rw [if_neg hcT, if_neg (by omega)]
                      · have z : brC (brW pn t) 5 T pn 0 0 k = 0 := by unfold brC; rw [if_neg (fun hx => hk2 hx.1)]
                        rw [z]
                        congr 2
                        split <;> split <;> rfl
                    · have c0 : c = 0 := by omega
                      subst c0
                      refine am_wp_go rfl (by simp (disch := omega) only [am_dnN, am_addE, am_subE, am_mulE, am_laddE, am_lsubE, am_upO, am_upS, am_stS, am_stO, am_tnn, am_brl, am_brg, am_bre, am_brn, am_brG, am_brL, am_st1, am_no2, am_st2, am_clr, and_self, true_and, and_true, true_or, or_true, List.length_cons, List.length_nil] <;> omega) ?_
                      try simp (disch := omega) only [am_dnN, am_addE, am_subE, am_mulE, am_laddE, am_lsubE, am_upO, am_upS, am_stS, am_stO, am_tnn, am_brl, am_brg, am_bre, am_brn, am_brG, am_brL, am_st1, am_no2, am_st2, am_clr]
                      refine am_wp_ls (E X x1 (fun T hT => ?_)) rfl
                      rw [x2 T hT, if_pos (Nat.zero_le _)]
                  clear E
                  refine am_wp_go rfl (by simp (disch := omega) only [am_b0, am_addE, am_subE, am_mulE, am_laddE, am_lsubE, am_upO, am_upS, am_stS, am_stO, am_tnn, am_brl, am_brg, am_bre, am_brn, am_brG, am_brL, am_st1, am_no2, am_st2, am_clr, and_self, true_and, and_true, true_or, or_true, List.length_cons, List.length_nil] <;> omega) ?_
                  try simp (disch := omega) only [am_b0, am_addE, am_subE, am_mulE, am_laddE, am_lsubE, am_upO, am_upS, am_stS, am_stO, am_tnn, am_brl, am_brg, am_bre, am_brn, am_brG, am_brL, am_st1, am_no2, am_st2, am_clr]
                  refine am_wp_br (fun b201 => ?_) (fun b201 => ?_)
                  · omega
                  · refine am_wp_go rfl (by simp (disch := omega) only [am_b0, am_addE, am_subE, am_mulE, am_laddE, am_lsubE, am_upO, am_upS, am_stS, am_stO, am_tnn, am_brl, am_brg, am_bre, am_brn, am_brG, am_brL, am_st1, am_no2, am_st2, am_clr, and_self, true_and, and_true, true_or, or_true, List.length_cons, List.length_nil] <;> omega) ?_
                    try simp (disch := omega) only [am_b0, am_addE, am_subE, am_mulE, am_laddE, am_lsubE, am_upO, am_upS, am_stS, am_stO, am_tnn, am_brl, am_brg, am_bre, am_brn, am_brG, am_brL, am_st1, am_no2, am_st2, am_clr]
                    refine am_wp_cc rfl rfl rfl (trivial) (w_M_mayBe (u := c) (p := pn) (by omega) (by omega) ⟨_, rfl, ?_⟩)
                    refine am_wp_go rfl (by simp (disch := omega) only [am_b0, am_addE, am_subE, am_mulE, am_laddE, am_lsubE, am_upO, am_upS, am_stS, am_stO, am_tnn, am_brl, am_brg, am_bre, am_brn, am_brG, am_brL, am_st1, am_no2, am_st2, am_clr, and_self, true_and, and_true, true_or, or_true, List.length_cons, List.length_nil] <;> omega) ?_
                    try simp (disch := omega) only [am_b0, am_addE, am_subE, am_mulE, am_laddE, am_lsubE, am_upO, am_upS, am_stS, am_stO, am_tnn, am_brl, am_brg, am_bre, am_brn, am_brG, am_brL, am_st1, am_no2, am_st2, am_clr]
                    refine am_wp_br (fun b210 => ?_) (fun b210 => ?_)
                    · refine am_wp_ls (NX V v1 (fun T hT => ?_)) rfl
                      rw [v2 T hT]
                      by_cases hcT : c < T - k
                      · rw [if_pos hcT, if_pos (by omega)]
                      · rw [if_neg hcT]
                        by_cases hcT2 : c ≤ T - k
                        · have z : brC (brW pn t) 5 T pn 0 0 k = 0 := by
                            unfold brC
                            rw [if_neg (fun hx => b210 (by rw [show c = T - k by omega]; exact hx.2))]
                          rw [if_pos hcT2, z]
                        · rw [if_neg hcT2]
                    · have b210 := Classical.not_not.mp b210
                      have ol : k ||| c < 1024 := Nat.or_lt_two_pow (n := 10) (by simp only [Nat.reducePow]; omega) (by simp only [Nat.reducePow]; omega)
                      refine am_wp_goc [233] rfl (by simp (disch := omega) only [s124 hw, r124_54 hw, s157 hw, r124_55 hw, s158 hw, am_orN, am_tnn, am_clr, and_self, true_and, and_true] <;> omega) ?_
                      simp (disch := omega) only [s124 hw, r124_54 hw, s157 hw, r124_55 hw, s158 hw, am_orN, am_tnn, am_clr]
                      refine am_wp_ls (NX _ (fun a ha => by rw [am_upO ha, v1 a ha]) (fun T hT => ?_)) rfl
                      rw [am_upS]
                      have oi := or_iff (k := k) (c := c) hg (bnd T hT) hc
                      by_cases hTo : T = k ||| c
                      · obtain ⟨o1, o2⟩ := oi.mp hTo.symm
                        have hkg : k &&& g = k := sub_tb.mpr (fun i hi => sub_tb.mp hT i (sub_tb.mp o1 i hi))
                        have eb : brC (brW pn t) 5 T pn 0 0 k = brW pn t (cB 5 k) (cS 5 k) := by
                          unfold brC
                          rw [if_pos ⟨o1, by rw [o2]; exact b210⟩, Nat.zero_add, Nat.zero_add]
                        have e2 := v2 T hT
                        rw [if_neg (by omega), Int.add_zero] at e2
                        rw [am_stS hTo, ← hTo, e2, v1 157 (by decide), k2 k hkg, am_j_add, if_pos (by omega), eb]
                      · rw [am_stO hTo, v2 T hT]
                        by_cases hk2 : k &&& T = k
                        · have hne : T - k ≠ c := fun hx => hTo (oi.mpr ⟨hk2, hx⟩).symm
                          by_cases hcT : c < T - k
                          · rw [if_pos hcT, if_pos (by omega)]
                          · rw [if_neg hcT, if_neg (by omega)]
                        · have z : brC (brW pn t) 5 T pn 0 0 k = 0 := by unfold brC; rw [if_neg (fun hx => hk2 hx.1)]
                          rw [z]
                          congr 2
                          split <;> split <;> rfl
                refine am_wp_ls (G (dn g k) V (Nat.and_self _) v1 (fun T hT => ?_)) rfl
                rw [v2 T hT]
                by_cases hk2 : k &&& T = k
                · have : T - k ≤ dn g k := by
                    have e := dn_sub (k := k) hT
                    rw [sub_dn (bnd T hT) hk2, ← e]
                    exact Nat.and_le_right
                  rw [if_neg (by omega), Int.add_zero]
                · have z : brC (brW pn t) 5 T pn 0 0 k = 0 := by unfold brC; rw [if_neg (fun hx => hk2 hx.1)]
                  rw [z]
                  congr 1
                  split <;> omega
              · have b180 : V 157 k = 0 := Classical.not_not.mp b180
                refine am_wp_go rfl (by simp (disch := omega) only [s124 hw, r124_54 hw, s157 hw, am_lcmpN, am_lcmpE, am_addE, am_subE, am_mulE, am_laddE, am_lsubE, am_upO, am_upS, am_stS, am_stO, am_tnn, am_brl, am_brg, am_bre, am_brn, am_brG, am_brL, am_st1, am_no2, am_st2, am_clr, and_self, true_and, and_true, true_or, or_true, List.length_cons, List.length_nil] <;> omega) ?_
                try simp (disch := omega) only [s124 hw, r124_54 hw, s157 hw, am_lcmpN, am_lcmpE, am_addE, am_subE, am_mulE, am_laddE, am_lsubE, am_upO, am_upS, am_stS, am_stO, am_tnn, am_brl, am_brg, am_bre, am_brn, am_brG, am_brL, am_st1, am_no2, am_st2, am_clr]
                refine am_wp_ls (ih3 _ _ V v1 (fun T hT => ?_)) rfl
                rw [v2 T hT, fsum_s]
                by_cases hk2 : k &&& T = k ∧ okk 5 (T - k) pn = true
                · have hkg : k &&& g = k := sub_tb.mpr (fun i hi => sub_tb.mp hT i (sub_tb.mp hk2.1 i hi))
                  have eb : brC (brW pn t) 5 T pn 0 0 k = brW pn t (cB 5 k) (cS 5 k) := by
                    unfold brC
                    rw [if_pos hk2, Nat.zero_add, Nat.zero_add]
                  rw [am_j_z]
                  rw [eb, ← k2 k hkg, ← k157]
                  exact b180
                · have z : brC (brW pn t) 5 T pn 0 0 k = 0 := by unfold brC; rw [if_neg hk2]
                  rw [z, Int.add_zero]
          refine am_wp_ls (C 0 (by omega) _ _ V v1 (fun T hT => ?_)) rfl
          rw [v2 T (by have := bnd T hT; omega)]
          exact (am_j_sm (by decide)).symm
        · refine am_wp_go rfl (by simp (disch := omega) only [s124 hw, r124_55 hw, s158 hw, am_addE, am_subE, am_mulE, am_laddE, am_lsubE, am_upO, am_upS, am_stS, am_stO, am_tnn, am_brl, am_brg, am_bre, am_brn, am_brG, am_brL, am_st1, am_no2, am_st2, am_clr, and_self, true_and, and_true, true_or, or_true, List.length_cons, List.length_nil] <;> omega) ?_
          try simp (disch := omega) only [s124 hw, r124_55 hw, s158 hw, am_addE, am_subE, am_mulE, am_laddE, am_lsubE, am_upO, am_upS, am_stS, am_stO, am_tnn, am_brl, am_brg, am_bre, am_brn, am_brG, am_brL, am_st1, am_no2, am_st2, am_clr]
          refine am_wp_ls (ih2 (by omega) _ (fun a ha => by rw [am_upO ha, v1 a ha]) (fun y hy => ?_)) rfl
          rw [am_upS]
          by_cases hyx : y = x
          · rw [am_stS hyx]
          · rw [am_stO hyx]; exact v2 y (by omega)
      exact am_wp_ls (B 0 (by omega) K (fun _ _ => rfl) (fun y hy => absurd hy (Nat.not_lt_zero y))) rfl
  refine am_wp_ls (A 0 (by omega) z6 z7 z8 I (fun _ _ _ => rfl) (fun T hT => ?_)) rfl
  have b1 := bnd T hT
  have c0 := cBS_0 ⟨T, b1⟩
  dsimp only at c0
  rw [hI T b1]
  show _ = am_j (if cB 5 T = 0 ∧ cS 5 T = 0 then 1 else 0)
  by_cases h0 : T = 0
  · rw [if_pos h0, if_pos (c0.mpr h0)]; exact (am_j_sm (by decide)).symm
  · rw [if_neg h0, if_neg (fun hx => h0 (c0.mp hx))]; exact (am_j_sm (by decide)).symm
set_option maxHeartbeats 4000000 in
theorem r_brown {n : Nat} {t p : Int} {tb : Nat → Nat} (hw : wd sh R) (hn : n ≤ 640) (hf : I 124 2 = (n : Int)) (htb : ∀ i, i < n → tb i ≤ 255 ∧ I 125 i = (tb i : Int)) (h0 : ¬ brOk n t p tb → ∀ J, brFR I J → Q (am_yj (-1)) (m, sl, sh, J, R)) (h1 : brOk n t p tb → ∀ J, brFR I J → Q (am_yj (brV n t p tb)) (m, sl, sh, J, R)) : am_wp (d + 2) 303 0 [some (.inr (.inr (124))), some (.inl (t)), some (.inl (p)), none, none, none, none, none, none] [] (m, sl, sh, I, R) Q := by
  unfold brOk at h0 h1
  refine am_wp_go rfl (by simp (disch := omega) only [s124 hw, am_b0, am_bn0, am_addE, am_subE, am_mulE, am_laddE, am_lsubE, am_upO, am_upS, am_stS, am_stO, am_tnn, am_brl, am_brg, am_bre, am_brn, am_brG, am_brL, am_st1, am_no2, am_st2, am_clr, and_self, true_and, and_true, true_or, or_true, List.length_cons, List.length_nil] <;> omega) ?_
  try simp (disch := omega) only [s124 hw, am_b0, am_bn0, am_addE, am_subE, am_mulE, am_laddE, am_lsubE, am_upO, am_upS, am_stS, am_stO, am_tnn, am_brl, am_brg, am_bre, am_brn, am_brG, am_brL, am_st1, am_no2, am_st2, am_clr]
  refine am_wp_cc rfl rfl rfl (congrArg Prod.fst (s124 hw)) (w_M_take hw ⟨_, rfl, ?_⟩)
  have e2 : am_up I 124 0 0 124 2 = (n : Int) := by rw [am_upS, am_stO (by decide), hf]
  have f0 : brFR I (am_up (am_up I 124 0 0) 124 2 0) := ⟨fun a h1 _ _ => by rw [am_upO h1, am_upO h1], fun j h1 h2 => by rw [am_upS, am_stO h2, am_upS, am_stO h1], by rw [am_upS, am_stS rfl]⟩
  have e125 : am_up (am_up I 124 0 0) 124 2 0 125 = I 125 := by rw [am_upO (by decide), am_upO (by decide)]
  rw [e2]
  generalize am_up (am_up I 124 0 0) 124 2 0 = K at f0 e125 ⊢
  refine am_wp_go rfl (by simp (disch := omega) only [s124 hw, am_b0, am_bn0, am_addE, am_subE, am_mulE, am_laddE, am_lsubE, am_upO, am_upS, am_stS, am_stO, am_tnn, am_brl, am_brg, am_bre, am_brn, am_brG, am_brL, am_st1, am_no2, am_st2, am_clr, and_self, true_and, and_true, true_or, or_true, List.length_cons, List.length_nil] <;> omega) ?_
  try simp (disch := omega) only [s124 hw, am_b0, am_bn0, am_addE, am_subE, am_mulE, am_laddE, am_lsubE, am_upO, am_upS, am_stS, am_stO, am_tnn, am_brl, am_brg, am_bre, am_brn, am_brG, am_brL, am_st1, am_no2, am_st2, am_clr]
  refine am_wp_cc rfl rfl rfl (trivial) (w_M_isIn ⟨_, rfl, ?_⟩)
  refine am_wp_go rfl (by simp (disch := omega) only [s124 hw, am_b0, am_bn0, am_addE, am_subE, am_mulE, am_laddE, am_lsubE, am_upO, am_upS, am_stS, am_stO, am_tnn, am_brl, am_brg, am_bre, am_brn, am_brG, am_brL, am_st1, am_no2, am_st2, am_clr, and_self, true_and, and_true, true_or, or_true, List.length_cons, List.length_nil] <;> omega) ?_
  try simp (disch := omega) only [s124 hw, am_b0, am_bn0, am_addE, am_subE, am_mulE, am_laddE, am_lsubE, am_upO, am_upS, am_stS, am_stO, am_tnn, am_brl, am_brg, am_bre, am_brn, am_brG, am_brL, am_st1, am_no2, am_st2, am_clr]
  refine am_wp_br (fun b17 => ?_) (fun b17 => ?_)
  · have h := h0 (fun hc => by omega)
    clear h0 h1
    refine am_wp_go rfl (by simp (disch := omega) only [s124 hw, am_b0, am_bn0, am_addE, am_subE, am_mulE, am_laddE, am_lsubE, am_upO, am_upS, am_stS, am_stO, am_tnn, am_brl, am_brg, am_bre, am_brn, am_brG, am_brL, am_st1, am_no2, am_st2, am_clr, and_self, true_and, and_true, true_or, or_true, List.length_cons, List.length_nil] <;> omega) ?_
    try simp (disch := omega) only [s124 hw, am_b0, am_bn0, am_addE, am_subE, am_mulE, am_laddE, am_lsubE, am_upO, am_upS, am_stS, am_stO, am_tnn, am_brl, am_brg, am_bre, am_brn, am_brG, am_brL, am_st1, am_no2, am_st2, am_clr]
    refine am_wp_ret rfl rfl ?_
    exact h K f0
  · refine am_wp_go rfl (by simp (disch := omega) only [s124 hw, am_b0, am_bn0, am_addE, am_subE, am_mulE, am_laddE, am_lsubE, am_upO, am_upS, am_stS, am_stO, am_tnn, am_brl, am_brg, am_bre, am_brn, am_brG, am_brL, am_st1, am_no2, am_st2, am_clr, and_self, true_and, and_true, true_or, or_true, List.length_cons, List.length_nil] <;> omega) ?_
    try simp (disch := omega) only [s124 hw, am_b0, am_bn0, am_addE, am_subE, am_mulE, am_laddE, am_lsubE, am_upO, am_upS, am_stS, am_stO, am_tnn, am_brl, am_brg, am_bre, am_brn, am_brG, am_brL, am_st1, am_no2, am_st2, am_clr]
    refine am_wp_cc rfl rfl rfl (trivial) (w_M_isIn ⟨_, rfl, ?_⟩)
    refine am_wp_go rfl (by simp (disch := omega) only [s124 hw, am_b0, am_bn0, am_addE, am_subE, am_mulE, am_laddE, am_lsubE, am_upO, am_upS, am_stS, am_stO, am_tnn, am_brl, am_brg, am_bre, am_brn, am_brG, am_brL, am_st1, am_no2, am_st2, am_clr, and_self, true_and, and_true, true_or, or_true, List.length_cons, List.length_nil] <;> omega) ?_
    try simp (disch := omega) only [s124 hw, am_b0, am_bn0, am_addE, am_subE, am_mulE, am_laddE, am_lsubE, am_upO, am_upS, am_stS, am_stO, am_tnn, am_brl, am_brg, am_bre, am_brn, am_brG, am_brL, am_st1, am_no2, am_st2, am_clr]
    refine am_wp_br (fun b26 => ?_) (fun b26 => ?_)
    · have h := h0 (fun hc => by omega)
      clear h0 h1
      refine am_wp_go rfl (by simp (disch := omega) only [s124 hw, am_b0, am_bn0, am_addE, am_subE, am_mulE, am_laddE, am_lsubE, am_upO, am_upS, am_stS, am_stO, am_tnn, am_brl, am_brg, am_bre, am_brn, am_brG, am_brL, am_st1, am_no2, am_st2, am_clr, and_self, true_and, and_true, true_or, or_true, List.length_cons, List.length_nil] <;> omega) ?_
      try simp (disch := omega) only [s124 hw, am_b0, am_bn0, am_addE, am_subE, am_mulE, am_laddE, am_lsubE, am_upO, am_upS, am_stS, am_stO, am_tnn, am_brl, am_brg, am_bre, am_brn, am_brG, am_brL, am_st1, am_no2, am_st2, am_clr]
      refine am_wp_ret rfl rfl ?_
      exact h K f0
    · refine am_wp_go rfl (by simp (disch := omega) only [s124 hw, am_b0, am_bn0, am_addE, am_subE, am_mulE, am_laddE, am_lsubE, am_upO, am_upS, am_stS, am_stO, am_tnn, am_brl, am_brg, am_bre, am_brn, am_brG, am_brL, am_st1, am_no2, am_st2, am_clr, and_self, true_and, and_true, true_or, or_true, List.length_cons, List.length_nil] <;> omega) ?_
      try simp (disch := omega) only [s124 hw, am_b0, am_bn0, am_addE, am_subE, am_mulE, am_laddE, am_lsubE, am_upO, am_upS, am_stS, am_stO, am_tnn, am_brl, am_brg, am_bre, am_brn, am_brG, am_brL, am_st1, am_no2, am_st2, am_clr]
      refine am_wp_cc rfl rfl rfl (trivial) (w_M_isIn ⟨_, rfl, ?_⟩)
      refine am_wp_go rfl (by simp (disch := omega) only [s124 hw, am_b0, am_bn0, am_addE, am_subE, am_mulE, am_laddE, am_lsubE, am_upO, am_upS, am_stS, am_stO, am_tnn, am_brl, am_brg, am_bre, am_brn, am_brG, am_brL, am_st1, am_no2, am_st2, am_clr, and_self, true_and, and_true, true_or, or_true, List.length_cons, List.length_nil] <;> omega) ?_
      try simp (disch := omega) only [s124 hw, am_b0, am_bn0, am_addE, am_subE, am_mulE, am_laddE, am_lsubE, am_upO, am_upS, am_stS, am_stO, am_tnn, am_brl, am_brg, am_bre, am_brn, am_brG, am_brL, am_st1, am_no2, am_st2, am_clr]
      refine am_wp_br (fun b35 => ?_) (fun b35 => ?_)
      · obtain ⟨pn, ep⟩ : ∃ k : Nat, p = (k : Int) := ⟨p.toNat, by omega⟩
        obtain ⟨tn, et⟩ : ∃ k : Nat, t = (k : Int) := ⟨t.toNat, by omega⟩
        subst ep
        subst et
        refine am_wp_go rfl (by simp (disch := omega) only [s124 hw, am_b0, am_bn0, am_addE, am_subE, am_mulE, am_laddE, am_lsubE, am_upO, am_upS, am_stS, am_stO, am_tnn, am_brl, am_brg, am_bre, am_brn, am_brG, am_brL, am_st1, am_no2, am_st2, am_clr, and_self, true_and, and_true, true_or, or_true, List.length_cons, List.length_nil] <;> omega) ?_
        try simp (disch := omega) only [s124 hw, am_b0, am_bn0, am_addE, am_subE, am_mulE, am_laddE, am_lsubE, am_upO, am_upS, am_stS, am_stO, am_tnn, am_brl, am_brg, am_bre, am_brn, am_brG, am_brL, am_st1, am_no2, am_st2, am_clr]
        have LP : ∀ k : Nat, k ≤ n → (∀ i : Nat, i < k → tb i ≤ 3) → am_wp (d + 2) 303 48 [some (.inr (.inr (124))), some (.inl ((tn : Int))), some (.inl ((pn : Int))), some (.inl ((n : Int))), some (.inl ((glN tb k : Int))), some (.inl ((k : Int))), none, none, none] [] (m, sl, sh, K, R) Q := by
          refine am_lp n (fun k hk ih hk3 => ?_)
          have hlt := glN_lt k hk3
          have p4 : 4 ^ k ≤ 1024 := Nat.le_trans (Nat.pow_le_pow_right (by decide) (show k ≤ 5 by omega)) (by decide)
          refine am_wp_go rfl (by simp (disch := omega) only [s124 hw, am_b0, am_bn0, am_addE, am_subE, am_mulE, am_laddE, am_lsubE, am_upO, am_upS, am_stS, am_stO, am_tnn, am_brl, am_brg, am_bre, am_brn, am_brG, am_brL, am_st1, am_no2, am_st2, am_clr, and_self, true_and, and_true, true_or, or_true, List.length_cons, List.length_nil] <;> omega) ?_
          try simp (disch := omega) only [s124 hw, am_b0, am_bn0, am_addE, am_subE, am_mulE, am_laddE, am_lsubE, am_upO, am_upS, am_stS, am_stO, am_tnn, am_brl, am_brg, am_bre, am_brn, am_brG, am_brL, am_st1, am_no2, am_st2, am_clr]
          refine am_wp_br (fun b51 => ?_) (fun b51 => ?_)
          · have e : k = n := by omega
            subst e
            have h := h1 ⟨by omega, by omega, by omega, by omega, by omega, by omega, hk3⟩
            unfold brV at h
            rw [am_tnn, am_tnn] at h
            clear h0 h1 ih
            refine am_wp_go rfl (by simp (disch := omega) only [s124 hw, am_b0, am_bn0, am_addE, am_subE, am_mulE, am_laddE, am_lsubE, am_upO, am_upS, am_stS, am_stO, am_tnn, am_brl, am_brg, am_bre, am_brn, am_brG, am_brL, am_st1, am_no2, am_st2, am_clr, and_self, true_and, and_true, true_or, or_true, List.length_cons, List.length_nil] <;> omega) ?_
            try simp (disch := omega) only [s124 hw, am_b0, am_bn0, am_addE, am_subE, am_mulE, am_laddE, am_lsubE, am_upO, am_upS, am_stS, am_stO, am_tnn, am_brl, am_brg, am_bre, am_brn, am_brG, am_brL, am_st1, am_no2, am_st2, am_clr]
            have LW : ∀ x : Nat, x ≤ 1024 → ∀ (V : Nat → Nat → Int), (∀ a, a ≠ 157 → V a = K a) → (∀ y, y < x → V 157 y = if y = 0 then 1 else 0) → am_wp (d + 2) 303 95 [some (.inr (.inr (124))), some (.inl ((tn : Int))), some (.inl ((pn : Int))), some (.inl ((k : Int))), some (.inl ((glN tb k : Int))), some (.inl ((x : Int))), none, none, none] [] (m, sl, sh, V, R) Q := by
              refine am_lp 1024 (fun x hx ih2 V v1 v2 => ?_)
              refine am_wp_go rfl (by simp (disch := omega) only [s124 hw, r124_54 hw, s157 hw, am_b0, am_bn0, am_addE, am_subE, am_mulE, am_laddE, am_lsubE, am_upO, am_upS, am_stS, am_stO, am_tnn, am_brl, am_brg, am_bre, am_brn, am_brG, am_brL, am_st1, am_no2, am_st2, am_clr, and_self, true_and, and_true, true_or, or_true, List.length_cons, List.length_nil] <;> omega) ?_
              try simp (disch := omega) only [s124 hw, r124_54 hw, s157 hw, am_b0, am_bn0, am_addE, am_subE, am_mulE, am_laddE, am_lsubE, am_upO, am_upS, am_stS, am_stO, am_tnn, am_brl, am_brg, am_bre, am_brn, am_brG, am_brL, am_st1, am_no2, am_st2, am_clr]
              refine am_wp_br (fun b100 => ?_) (fun b100 => ?_)
              · have e : x = 1024 := by omega
                subst e
                refine am_wp_go rfl (by simp (disch := omega) only [s124 hw, r124_54 hw, s157 hw, am_b0, am_bn0, am_addE, am_subE, am_mulE, am_laddE, am_lsubE, am_upO, am_upS, am_stS, am_stO, am_tnn, am_brl, am_brg, am_bre, am_brn, am_brG, am_brL, am_st1, am_no2, am_st2, am_clr, and_self, true_and, and_true, true_or, or_true, List.length_cons, List.length_nil] <;> omega) ?_
                try simp (disch := omega) only [s124 hw, r124_54 hw, s157 hw, am_b0, am_bn0, am_addE, am_subE, am_mulE, am_laddE, am_lsubE, am_upO, am_upS, am_stS, am_stO, am_tnn, am_brl, am_brg, am_bre, am_brn, am_brG, am_brL, am_st1, am_no2, am_st2, am_clr]
                refine am_wp_ls (w_M_brownT (g := glN tb k) hw (by omega) (by omega) (by omega) (fun J j1 => h J ⟨fun a a1 a2 a3 => by rw [j1 a a2 a3, v1 a a2, f0.1 a a1 a2 a3], fun j a1 a2 => by rw [j1 124 (by decide) (by decide), v1 124 (by decide), f0.2.1 j a1 a2], by rw [j1 124 (by decide) (by decide), v1 124 (by decide), f0.2.2]⟩) none none none v2) rfl
              · refine am_wp_go rfl (by simp (disch := omega) only [s124 hw, r124_54 hw, s157 hw, am_b0, am_bn0, am_addE, am_subE, am_mulE, am_laddE, am_lsubE, am_upO, am_upS, am_stS, am_stO, am_tnn, am_brl, am_brg, am_bre, am_brn, am_brG, am_brL, am_st1, am_no2, am_st2, am_clr, and_self, true_and, and_true, true_or, or_true, List.length_cons, List.length_nil] <;> omega) ?_
                try simp (disch := omega) only [s124 hw, r124_54 hw, s157 hw, am_b0, am_bn0, am_addE, am_subE, am_mulE, am_laddE, am_lsubE, am_upO, am_upS, am_stS, am_stO, am_tnn, am_brl, am_brg, am_bre, am_brn, am_brG, am_brL, am_st1, am_no2, am_st2, am_clr]
                refine am_wp_br (fun b111 => ?_) (fun b111 => ?_)
                · refine am_wp_go rfl (by simp (disch := omega) only [s124 hw, r124_54 hw, s157 hw, am_b0, am_bn0, am_addE, am_subE, am_mulE, am_laddE, am_lsubE, am_upO, am_upS, am_stS, am_stO, am_tnn, am_brl, am_brg, am_bre, am_brn, am_brG, am_brL, am_st1, am_no2, am_st2, am_clr, and_self, true_and, and_true, true_or, or_true, List.length_cons, List.length_nil] <;> omega) ?_
                  try simp (disch := omega) only [s124 hw, r124_54 hw, s157 hw, am_b0, am_bn0, am_addE, am_subE, am_mulE, am_laddE, am_lsubE, am_upO, am_upS, am_stS, am_stO, am_tnn, am_brl, am_brg, am_bre, am_brn, am_brG, am_brL, am_st1, am_no2, am_st2, am_clr]
                  refine am_wp_ls (ih2 (by omega) _ (fun a ha => by rw [am_upO ha, v1 a ha]) (fun y hy => ?_)) rfl
                  rw [am_upS]
                  by_cases hyx : y = x
                  · rw [am_stS hyx, if_neg (by omega)]
                  · rw [am_stO hyx]; exact v2 y (by omega)
                · refine am_wp_go rfl (by simp (disch := omega) only [s124 hw, r124_54 hw, s157 hw, am_b0, am_bn0, am_addE, am_subE, am_mulE, am_laddE, am_lsubE, am_upO, am_upS, am_stS, am_stO, am_tnn, am_brl, am_brg, am_bre, am_brn, am_brG, am_brL, am_st1, am_no2, am_st2, am_clr, and_self, true_and, and_true, true_or, or_true, List.length_cons, List.length_nil] <;> omega) ?_
                  try simp (disch := omega) only [s124 hw, r124_54 hw, s157 hw, am_b0, am_bn0, am_addE, am_subE, am_mulE, am_laddE, am_lsubE, am_upO, am_upS, am_stS, am_stO, am_tnn, am_brl, am_brg, am_bre, am_brn, am_brG, am_brL, am_st1, am_no2, am_st2, am_clr]
                  refine am_wp_ls (ih2 (by omega) _ (fun a ha => by rw [am_upO ha, v1 a ha]) (fun y hy => ?_)) rfl
                  rw [am_upS]
                  by_cases hyx : y = x
                  · rw [am_stS hyx, if_pos (by omega)]
                  · rw [am_stO hyx]; exact v2 y (by omega)
            exact am_wp_ls (LW 0 (by omega) K (fun _ _ => rfl) (fun y hy => absurd hy (Nat.not_lt_zero y))) rfl
          · obtain ⟨b1, b2⟩ := htb k (by omega)
            have e125k : K 125 k = (tb k : Int) := by rw [e125]; exact b2
            have ih := ih (by omega)
            refine am_wp_go rfl (by simp (disch := omega) only [s124 hw, r124_1 hw, s125 hw, e125k, am_b0, am_bn0, am_addE, am_subE, am_mulE, am_laddE, am_lsubE, am_upO, am_upS, am_stS, am_stO, am_tnn, am_brl, am_brg, am_bre, am_brn, am_brG, am_brL, am_st1, am_no2, am_st2, am_clr, and_self, true_and, and_true, true_or, or_true, List.length_cons, List.length_nil] <;> omega) ?_
            try simp (disch := omega) only [s124 hw, r124_1 hw, s125 hw, e125k, am_b0, am_bn0, am_addE, am_subE, am_mulE, am_laddE, am_lsubE, am_upO, am_upS, am_stS, am_stO, am_tnn, am_brl, am_brg, am_bre, am_brn, am_brG, am_brL, am_st1, am_no2, am_st2, am_clr]
            refine am_wp_br (fun b62 => ?_) (fun b62 => ?_)
            · have h3 : tb k ≤ 3 := by omega
              have ih := ih (fun i hi => by by_cases hik : i = k; (rw [hik]; exact h3); exact hk3 i (by omega))
              have q : (2 : Int) * (k : Int) = ((2 * k : Nat) : Int) := by omega
              have p5 : 4 ^ k ≤ 256 := Nat.le_trans (Nat.pow_le_pow_right (by decide) (show k ≤ 4 by omega)) (by decide)
              have p6 : tb k * 4 ^ k ≤ 3 * 256 := Nat.mul_le_mul h3 p5
              have e22 : (2 : Nat) ^ (2 * k) = 4 ^ k := by rw [Nat.pow_mul]
              have e23 : ((tb k : Int)) * 2 ^ (2 * k) = ((tb k * 4 ^ k : Nat) : Int) := by rw [← e22]; simp
              have e1 : am_shl (tb k : Int) ((2 * k : Nat) : Int) = ((tb k * 4 ^ k : Nat) : Int) := by
                rw [am_shlN ⟨by omega, by omega, by rw [e23]; omega⟩, e23]
              have e3 : glN tb k ||| tb k * 4 ^ k = glN tb (k + 1) := by
                have := Nat.two_pow_add_eq_or_of_lt (i := 2 * k) (b := glN tb k) (by rw [e22]; exact hlt) (tb k)
                rw [e22] at this
                rw [Nat.or_comm, Nat.mul_comm (tb k), ← this]
                show _ = glN tb k + tb k * 4 ^ k
                rw [Nat.mul_comm (tb k)]
                omega
              clear h0 h1
              refine am_wp_go rfl (by simp (disch := omega) only [s124 hw, r124_1 hw, s125 hw, e125k, q, e1, am_orN, e3, am_addE, am_subE, am_mulE, am_laddE, am_lsubE, am_upO, am_upS, am_stS, am_stO, am_tnn, am_brl, am_brg, am_bre, am_brn, am_brG, am_brL, am_st1, am_no2, am_st2, am_clr, and_self, true_and, and_true, true_or, or_true, List.length_cons, List.length_nil] <;> omega) ?_
              try simp (disch := omega) only [s124 hw, r124_1 hw, s125 hw, e125k, q, e1, am_orN, e3, am_addE, am_subE, am_mulE, am_laddE, am_lsubE, am_upO, am_upS, am_stS, am_stO, am_tnn, am_brl, am_brg, am_bre, am_brn, am_brG, am_brL, am_st1, am_no2, am_st2, am_clr]
              exact am_wp_ls ih rfl
            · have h := h0 (fun hc => by have := hc.2.2.2.2.2.2 k (by omega); omega)
              clear h0 h1
              refine am_wp_go rfl (by simp (disch := omega) only [s124 hw, r124_1 hw, s125 hw, e125k, am_b0, am_bn0, am_addE, am_subE, am_mulE, am_laddE, am_lsubE, am_upO, am_upS, am_stS, am_stO, am_tnn, am_brl, am_brg, am_bre, am_brn, am_brG, am_brL, am_st1, am_no2, am_st2, am_clr, and_self, true_and, and_true, true_or, or_true, List.length_cons, List.length_nil] <;> omega) ?_
              try simp (disch := omega) only [s124 hw, r124_1 hw, s125 hw, e125k, am_b0, am_bn0, am_addE, am_subE, am_mulE, am_laddE, am_lsubE, am_upO, am_upS, am_stS, am_stO, am_tnn, am_brl, am_brg, am_bre, am_brn, am_brG, am_brL, am_st1, am_no2, am_st2, am_clr]
              refine am_wp_ret rfl rfl ?_
              exact h K f0
        exact am_wp_ls (LP 0 (by omega) (fun i hi => absurd hi (Nat.not_lt_zero i))) rfl
      · have h := h0 (fun hc => by omega)
        clear h0 h1
        refine am_wp_go rfl (by simp (disch := omega) only [s124 hw, am_b0, am_bn0, am_addE, am_subE, am_mulE, am_laddE, am_lsubE, am_upO, am_upS, am_stS, am_stO, am_tnn, am_brl, am_brg, am_bre, am_brn, am_brG, am_brL, am_st1, am_no2, am_st2, am_clr, and_self, true_and, and_true, true_or, or_true, List.length_cons, List.length_nil] <;> omega) ?_
        try simp (disch := omega) only [s124 hw, am_b0, am_bn0, am_addE, am_subE, am_mulE, am_laddE, am_lsubE, am_upO, am_upS, am_stS, am_stO, am_tnn, am_brl, am_brg, am_bre, am_brn, am_brG, am_brL, am_st1, am_no2, am_st2, am_clr]
        refine am_wp_ret rfl rfl ?_
        exact h K f0
end BROWN
