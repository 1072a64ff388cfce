/-! one() by the reference -/
theorem ozq_row {V W : Nat → Int} {s : Nat} (h : ∀ j, j < 58 → V j = W j) (hs : s < 16) : ozq V s = ozq W s := by
  unfold ozq
  exact h _ (by omega)
section RO
variable {m sl : Nat} {sh : Nat → Nat × Nat} {I : Nat → Nat → Int} {R : Nat → Nat → Nat} {Q : am_R → am_M → Prop} {d n P : Nat} {ρ : Int} {W : Nat → Int} {G : List Go} {H : List (List Go)}
set_option maxRecDepth 8000 in
set_option maxHeartbeats 4000000 in
theorem w_M_onePut {B : Int × List Nat × (Nat → Int)} (hw : wd sh R) (hQ : ozQ n P ρ (ozq W)) (hB : ozGd n P ρ (ozq W) B) (hrow : ∀ j, j < 58 → I 126 j = W j) (hI : ozBr I n B) (hr : rf (pw (I 126)) []) (hf : ∀ x, x < 4 → I 142 x = 0) {z3 z4 z5 z6 : Option am_V} (h : ∀ J p F G, (∀ a, a ≠ 126 → a ≠ 142 → J a = I a) → (∀ j, (j < 58 ∨ 2059 ≤ j) → J 126 j = I 126 j) → rf (pw (J 126)) G → ozG n P (ozq W) (fun i => B.2.1.getD i 0) B.2.2 n p F G → Q (am_yi B.1) (m, sl, sh, J, R)) : am_wp (d + 2) 267 100 [some (.inr (.inr (124))), some (.inl ((n : Int))), some (.inl (0)), some (.inl (0)), z4, z5, z6] [] (m, sl, sh, I, R) Q := by
  obtain ⟨g1, g2, g3, g4, g5, g6, g7, g8⟩ := hB
  have n8 := hQ.1
  have P4 := hQ.2.2.2.1
  obtain ⟨i1, i2⟩ := hI
  obtain ⟨i2, i3⟩ := i2 (by omega)
  have LK : ∀ k : Nat, k ≤ n → ∀ (z4 z5 z6 : Option am_V) (S : Nat) (p : Nat → Bool) (F : Nat → Int) (G : List Go) (V : Nat → Nat → Int), S < 256 → (∀ s, s < n → S.testBit s = p s) → (∀ a, a ≠ 126 → a ≠ 142 → V a = I a) → (∀ j, (j < 58 ∨ 2059 ≤ j) → V 126 j = I 126 j) → rf (pw (V 126)) G → (∀ x, x < 4 → V 142 x = F x) → ozG n P (ozq W) (fun i => B.2.1.getD i 0) B.2.2 k p F G → am_wp (d + 2) 267 100 [some (.inr (.inr (124))), some (.inl ((n : Int))), some (.inl ((S : Int))), some (.inl ((k : Int))), z4, z5, z6] [] (m, sl, sh, V, R) Q := by
    refine am_lp n (fun k hk ih z4 z5 z6 S p F G V s1 s2 v1 v2 v3 v4 v5 => ?_)
    have V35 : V 124 35 = B.1 := by rw [v1 124 (by decide) (by decide)]; exact i1
    refine am_wp_go rfl (by simp (disch := omega) only [am_addE, am_subE, am_mulE, am_laddE, am_lsubE, am_upO, am_upS, am_stS, am_stO, am_tnn, am_brl, am_brg, am_bre, am_brn, am_brG, am_brL, am_st1, am_no2, am_st2, am_clr, and_self, true_and, and_true, true_or, or_true, List.length_cons, List.length_nil] <;> omega) ?_
    try simp (disch := omega) only [am_addE, am_subE, am_mulE, am_laddE, am_lsubE, am_upO, am_upS, am_stS, am_stO, am_tnn, am_brl, am_brg, am_bre, am_brn, am_brG, am_brL, am_st1, am_no2, am_st2, am_clr]
    refine am_wp_br (fun b102 => ?_) (fun b102 => ?_)
    · skip
      refine am_wp_go rfl (by simp (disch := omega) only [s124 hw, V35, am_addE, am_subE, am_mulE, am_laddE, am_lsubE, am_upO, am_upS, am_stS, am_stO, am_tnn, am_brl, am_brg, am_bre, am_brn, am_brG, am_brL, am_st1, am_no2, am_st2, am_clr, and_self, true_and, and_true, true_or, or_true, List.length_cons, List.length_nil] <;> omega) ?_
      try simp (disch := omega) only [s124 hw, V35, am_addE, am_subE, am_mulE, am_laddE, am_lsubE, am_upO, am_upS, am_stS, am_stO, am_tnn, am_brl, am_brg, am_bre, am_brn, am_brG, am_brL, am_st1, am_no2, am_st2, am_clr]
      refine am_wp_ret rfl rfl ?_
      rw [show k = n by omega] at v5
      exact h V p F G v1 v2 v3 v5
    · have ih := ih (by omega)
      have cl := ozG_ct (n := n) (P := P) (q := ozq W) (b := B.2.2) (o := fun i => B.2.1.getD i 0) (fun i hi => g6 i hi) k p F G v5
      have qV : ∀ s, s < n → ozq (V 126) s = ozq W s := fun s hs => ozq_row (fun j hj => by rw [v2 j (Or.inl hj), hrow j hj]) (by omega)
      have V138 : ∀ i, i < n → V 138 i = (B.2.1.getD i 0 : Int) := fun i hi => by rw [v1 138 (by decide) (by decide)]; exact i2 i hi
      have V140 : ∀ s, s < n → V 140 s = B.2.2 s := fun s hs => by rw [v1 140 (by decide) (by decide)]; exact i3 s hs
      -- the pick is made
      have PK : ∀ (i : Nat) (z6 : Option am_V), ozK n (fun i => B.2.1.getD i 0) B.2.2 p i → am_wp (d + 2) 267 111 [some (.inr (.inr (124))), some (.inl ((n : Int))), some (.inl ((S : Int))), some (.inl ((k : Int))), some (.inl ((B.2.1.getD i 0 : Int))), some (.inl ((n : Int))), z6] [] (m, sl, sh, V, R) Q := by
        intro i z6 hK
        have hin := hK.1
        have gi := g6 i hin
        obtain ⟨fx, fx1, fx2⟩ := ozG_free (i := i) hQ g1 g2 (o := fun i => B.2.1.getD i 0) (fun i hi => g6 i hi) g7 v5 hK
        have qs := hQ.2.2.2.2.2.2 _ gi
        have eo : (fun i => B.2.1.getD i 0) i = B.2.1.getD i 0 := rfl
        have Vb := V140 _ gi
        have qb := qV _ gi
        have bb := g1.1 _ gi
        have bc := g2 _ gi
        have bm := ozM_ge (q := ozq W) gi bc
        have ps := hK.2.1
        rw [eo] at ps
        generalize hs : B.2.1.getD i 0 = s at *
        have sd : (s : Int) / 2 = ((s / 2 : Nat) : Int) := by omega
        have sm : (s : Int) % 2 = ((s % 2 : Nat) : Int) := by omega
        have p8 := ax_p8 (s := s) (by omega)
        have LX : ∀ x : Nat, x ≤ fx → (∀ y, y < x → B.2.2 s < F y) → am_wp (d + 2) 267 178 [some (.inr (.inr (124))), some (.inl ((n : Int))), some (.inl (((S ||| 2 ^ s : Nat) : Int))), some (.inl ((k : Int))), some (.inl ((s : Int))), some (.inl ((x : Int))), z6] [] (m, sl, sh, V, R) Q := by
          refine am_lp fx (fun x hx ih2 x1 => ?_)
          have Vx := v4 x (by omega)
          refine am_wp_go rfl (by simp (disch := omega) only [s124 hw, r124_36 hw, s142 hw, r124_33 hw, s140 hw, Vx, Vb, am_addE, am_subE, am_mulE, am_laddE, am_lsubE, am_upO, am_upS, am_stS, am_stO, am_tnn, am_brl, am_brg, am_bre, am_brn, am_brG, am_brL, am_st1, am_no2, am_st2, am_clr, and_self, true_and, and_true, true_or, or_true, List.length_cons, List.length_nil] <;> omega) ?_
          try simp (disch := omega) only [s124 hw, r124_36 hw, s142 hw, r124_33 hw, s140 hw, Vx, Vb, am_addE, am_subE, am_mulE, am_laddE, am_lsubE, am_upO, am_upS, am_stS, am_stO, am_tnn, am_brl, am_brg, am_bre, am_brn, am_brG, am_brL, am_st1, am_no2, am_st2, am_clr]
          refine am_wp_br (fun b192 => ?_) (fun b192 => ?_)
          · skip
            refine am_wp_go rfl (by simp (disch := omega) only [s124 hw, r124_36 hw, s142 hw, r124_33 hw, s140 hw, Vb, am_divE, am_remE, sd, sm, am_addE, am_subE, am_mulE, am_laddE, am_lsubE, am_upO, am_upS, am_stS, am_stO, am_tnn, am_brl, am_brg, am_bre, am_brn, am_brG, am_brL, am_st1, am_no2, am_st2, am_clr, and_self, true_and, and_true, true_or, or_true, List.length_cons, List.length_nil] <;> omega) ?_
            try simp (disch := omega) only [s124 hw, r124_36 hw, s142 hw, r124_33 hw, s140 hw, Vb, am_divE, am_remE, sd, sm, am_addE, am_subE, am_mulE, am_laddE, am_lsubE, am_upO, am_upS, am_stS, am_stO, am_tnn, am_brl, am_brg, am_bre, am_brn, am_brG, am_brL, am_st1, am_no2, am_st2, am_clr]
            refine am_wp_cc rfl rfl rfl (congrArg Prod.fst (s124 hw)) (w_M_needsq (s := s) hw (by omega) ⟨_, rfl, ?_⟩)
            rw [qb]
            refine am_wp_go rfl (by simp (disch := omega) only [s124 hw, r124_36 hw, s142 hw, r124_33 hw, s140 hw, Vb, am_divE, am_remE, sd, sm, am_addE, am_subE, am_mulE, am_laddE, am_lsubE, am_upO, am_upS, am_stS, am_stO, am_tnn, am_brl, am_brg, am_bre, am_brn, am_brG, am_brL, am_st1, am_no2, am_st2, am_clr, and_self, true_and, and_true, true_or, or_true, List.length_cons, List.length_nil] <;> omega) ?_
            simp (disch := omega) only [s124 hw, r124_36 hw, s142 hw, r124_33 hw, s140 hw, Vb, am_divE, am_remE, sd, sm, am_addE, am_subE, am_mulE, am_laddE, am_lsubE, am_upO, am_upS, am_stS, am_stO, am_tnn, am_brl, am_brg, am_bre, am_brn, am_brG, am_brL, am_st1, am_no2, am_st2, am_clr]
            generalize hZ : am_up V 142 x (B.2.2 s + ozq W s) = Z
            have Z0 : ∀ y, y ≠ 142 → Z y = V y := fun y h1 => by rw [← hZ, am_upO h1]
            have Z142 : Z 142 = am_set (V 142) x (B.2.2 s + ozq W s) := by rw [← hZ, am_upS]
            clear hZ
            refine am_wp_cc rfl rfl rfl (congrArg Prod.fst (s124 hw)) (w_M_needsq (s := s) hw (by omega) ⟨_, rfl, ?_⟩)
            rw [Z0 126 (by decide), qb]
            refine am_wp_cc rfl rfl rfl (congrArg Prod.fst (s124 hw)) (w_M_lays (G := G) (g := ozg (ozq W) B.2.2 s x) hw (by rw [Z0 126 (by decide)]; exact v3) (by omega) (by unfold ozg; rfl) (by unfold ozg; rfl) (by unfold ozg; rfl) (by unfold ozg; rfl) (by unfold ozg; rfl) (fun Y y1 y2 y3 => ⟨_, rfl, ?_⟩))
            refine am_wp_go rfl (by simp (disch := omega) only [am_addE, am_subE, am_mulE, am_laddE, am_lsubE, am_upO, am_upS, am_stS, am_stO, am_tnn, am_brl, am_brg, am_bre, am_brn, am_brG, am_brL, am_st1, am_no2, am_st2, am_clr, and_self, true_and, and_true, true_or, or_true, List.length_cons, List.length_nil] <;> omega) ?_
            try simp (disch := omega) only [am_addE, am_subE, am_mulE, am_laddE, am_lsubE, am_upO, am_upS, am_stS, am_stO, am_tnn, am_brl, am_brg, am_bre, am_brn, am_brG, am_brL, am_st1, am_no2, am_st2, am_clr]
            refine am_wp_ls (ih _ _ _ (S ||| 2 ^ s) (fun r => if r = s then true else p r) (fun y => if y = x then B.2.2 s + ozq W s else F y) (G ++ [ozg (ozq W) B.2.2 s x]) Y (Nat.or_lt_two_pow (n := 8) s1 (by omega)) (fun r hr => ?_) (fun a a1 a2 => by rw [y1 a a1, Z0 a a2, v1 a a1 a2]) (fun j hj => by rw [y2 j hj, Z0 126 (by decide), v2 j hj]) y3 (fun y hy => ?_) ⟨p, F, G, i, x, v5, hK, by omega, ?_, fun y hy => ?_, fun r => ?_, fun y _ => ?_, ?_⟩) rfl
            · rw [Nat.testBit_or, Nat.testBit_two_pow, s2 r hr]
              by_cases e : r = s
              · rw [if_pos e, decide_eq_true (p := s = r) e.symm, Bool.or_true]
              · rw [if_neg e, decide_eq_false (p := s = r) (fun hc => e hc.symm), Bool.or_false]
            · rw [y1 142 (by decide), Z142]
              by_cases e : y = x
              · rw [am_stS e, if_pos e]
              · rw [am_stO e, if_neg e]; exact v4 y hy
            · rw [eo]; exact b192
            · rw [eo]; exact x1 y hy
            · rw [eo]
            · rw [eo]
            · rw [eo]
          · have ne : x ≠ fx := fun hc => by rw [hc] at b192; omega
            refine am_wp_go rfl (by simp (disch := omega) only [s124 hw, r124_36 hw, s142 hw, r124_33 hw, s140 hw, Vx, Vb, am_addE, am_subE, am_mulE, am_laddE, am_lsubE, am_upO, am_upS, am_stS, am_stO, am_tnn, am_brl, am_brg, am_bre, am_brn, am_brG, am_brL, am_st1, am_no2, am_st2, am_clr, and_self, true_and, and_true, true_or, or_true, List.length_cons, List.length_nil] <;> omega) ?_
            try simp (disch := omega) only [s124 hw, r124_36 hw, s142 hw, r124_33 hw, s140 hw, Vx, Vb, am_addE, am_subE, am_mulE, am_laddE, am_lsubE, am_upO, am_upS, am_stS, am_stO, am_tnn, am_brl, am_brg, am_bre, am_brn, am_brG, am_brL, am_st1, am_no2, am_st2, am_clr]
            refine am_wp_ls (ih2 (by omega) (fun y hy => ?_)) rfl
            by_cases e : y = x
            · rw [e]; omega
            · exact x1 y (by omega)
        refine am_wp_go rfl (by simp (disch := omega) only [am_shl1, am_orN, am_addE, am_subE, am_mulE, am_laddE, am_lsubE, am_upO, am_upS, am_stS, am_stO, am_tnn, am_brl, am_brg, am_bre, am_brn, am_brG, am_brL, am_st1, am_no2, am_st2, am_clr, and_self, true_and, and_true, true_or, or_true, List.length_cons, List.length_nil] <;> omega) ?_
        try simp (disch := omega) only [am_shl1, am_orN, am_addE, am_subE, am_mulE, am_laddE, am_lsubE, am_upO, am_upS, am_stS, am_stO, am_tnn, am_brl, am_brg, am_bre, am_brn, am_brG, am_brL, am_st1, am_no2, am_st2, am_clr]
        refine am_wp_br (fun b114 => ?_) (fun b114 => ?_)
        · refine am_wp_go rfl (by simp (disch := omega) only [am_shl1, am_orN, am_addE, am_subE, am_mulE, am_laddE, am_lsubE, am_upO, am_upS, am_stS, am_stO, am_tnn, am_brl, am_brg, am_bre, am_brn, am_brG, am_brL, am_st1, am_no2, am_st2, am_clr, and_self, true_and, and_true, true_or, or_true, List.length_cons, List.length_nil] <;> omega) ?_
          try simp (disch := omega) only [am_shl1, am_orN, am_addE, am_subE, am_mulE, am_laddE, am_lsubE, am_upO, am_upS, am_stS, am_stO, am_tnn, am_brl, am_brg, am_bre, am_brn, am_brG, am_brL, am_st1, am_no2, am_st2, am_clr]
          exact am_wp_ls (LX 0 (Nat.zero_le fx) (fun y hy => absurd hy (Nat.not_lt_zero y))) rfl
        · omega
      have LS : ∀ i : Nat, i ≤ n → ∀ (f : Int) (z6 : Option am_V), (f = -1 ∧ (∀ r, r < i → p (B.2.1.getD r 0) = true) ∨ ∃ i0, i0 < i ∧ f = (B.2.1.getD i0 0 : Int) ∧ p (B.2.1.getD i0 0) = false ∧ ∀ r, r < i → p (B.2.1.getD r 0) = false → B.2.2 (B.2.1.getD i0 0) < B.2.2 (B.2.1.getD r 0) ∨ B.2.2 (B.2.1.getD i0 0) = B.2.2 (B.2.1.getD r 0) ∧ i0 ≤ r) → am_wp (d + 2) 267 111 [some (.inr (.inr (124))), some (.inl ((n : Int))), some (.inl ((S : Int))), some (.inl ((k : Int))), some (.inl (f)), some (.inl ((i : Int))), z6] [] (m, sl, sh, V, R) Q := by
        refine am_lp n (fun i hi ih2 f z6 hf => ?_)
        by_cases hin : i = n
        · subst hin
          rcases hf with ⟨e, all⟩ | ⟨i0, a1, a2, a3, a4⟩
          · exfalso
            have : ax_ct p i = i := by
              have c1 : ∀ P, ax_ct (fun _ => true) P = P := fun P => by
                induction P with
                | zero => rfl
                | succ P ih =>
                  have e2 : ax_ct (fun _ => true) (P + 1) = ax_ct (fun _ => true) P + 1 := rfl
                  rw [e2, ih]
              have e := ax_ct_cg (c := p) (e := fun _ => true) (n := i) (fun s hs => by
                obtain ⟨r, r1, r2⟩ := g7 s hs
                rw [← r2]; exact all r r1)
              rw [e, c1]
            omega
          · rw [a2]
            exact PK i0 z6 ⟨a1, a3, fun r hr hp => a4 r hr hp⟩
        · have ih2 := ih2 (by omega)
          have gi := g6 i (by omega)
          have Vi := V138 i (by omega)
          have Vb := V140 _ gi
          have ts := s2 _ gi
          refine am_wp_go rfl (by simp (disch := omega) only [am_addE, am_subE, am_mulE, am_laddE, am_lsubE, am_upO, am_upS, am_stS, am_stO, am_tnn, am_brl, am_brg, am_bre, am_brn, am_brG, am_brL, am_st1, am_no2, am_st2, am_clr, and_self, true_and, and_true, true_or, or_true, List.length_cons, List.length_nil] <;> omega) ?_
          try simp (disch := omega) only [am_addE, am_subE, am_mulE, am_laddE, am_lsubE, am_upO, am_upS, am_stS, am_stO, am_tnn, am_brl, am_brg, am_bre, am_brn, am_brG, am_brL, am_st1, am_no2, am_st2, am_clr]
          refine am_wp_br (fun b114 => ?_) (fun b114 => ?_)
          · omega
          · skip
            refine am_wp_go rfl (by simp (disch := omega) only [s124 hw, r124_31 hw, s138 hw, Vi, am_addE, am_subE, am_mulE, am_laddE, am_lsubE, am_upO, am_upS, am_stS, am_stO, am_tnn, am_brl, am_brg, am_bre, am_brn, am_brG, am_brL, am_st1, am_no2, am_st2, am_clr, and_self, true_and, and_true, true_or, or_true, List.length_cons, List.length_nil] <;> omega) ?_
            try simp (disch := omega) only [s124 hw, r124_31 hw, s138 hw, Vi, am_addE, am_subE, am_mulE, am_laddE, am_lsubE, am_upO, am_upS, am_stS, am_stO, am_tnn, am_brl, am_brg, am_bre, am_brn, am_brG, am_brL, am_st1, am_no2, am_st2, am_clr]
            refine am_wp_cc rfl rfl rfl (trivial) (w_M_has (s := S) (k := B.2.1.getD i 0) (by omega) (by omega) ⟨_, rfl, ?_⟩)
            rw [ts]
            refine am_wp_go rfl (by simp (disch := omega) only [s124 hw, r124_31 hw, s138 hw, Vi, am_b0, am_bn0, am_addE, am_subE, am_mulE, am_laddE, am_lsubE, am_upO, am_upS, am_stS, am_stO, am_tnn, am_brl, am_brg, am_bre, am_brn, am_brG, am_brL, am_st1, am_no2, am_st2, am_clr, and_self, true_and, and_true, true_or, or_true, List.length_cons, List.length_nil] <;> omega) ?_
            try simp (disch := omega) only [s124 hw, r124_31 hw, s138 hw, Vi, am_b0, am_bn0, am_addE, am_subE, am_mulE, am_laddE, am_lsubE, am_upO, am_upS, am_stS, am_stO, am_tnn, am_brl, am_brg, am_bre, am_brn, am_brG, am_brL, am_st1, am_no2, am_st2, am_clr]
            refine am_wp_br (fun b132 => ?_) (fun b132 => ?_)
            · refine am_wp_go rfl (by simp (disch := omega) only [s124 hw, r124_31 hw, s138 hw, Vi, am_b0, am_bn0, am_addE, am_subE, am_mulE, am_laddE, am_lsubE, am_upO, am_upS, am_stS, am_stO, am_tnn, am_brl, am_brg, am_bre, am_brn, am_brG, am_brL, am_st1, am_no2, am_st2, am_clr, and_self, true_and, and_true, true_or, or_true, List.length_cons, List.length_nil] <;> omega) ?_
              try simp (disch := omega) only [s124 hw, r124_31 hw, s138 hw, Vi, am_b0, am_bn0, am_addE, am_subE, am_mulE, am_laddE, am_lsubE, am_upO, am_upS, am_stS, am_stO, am_tnn, am_brl, am_brg, am_bre, am_brn, am_brG, am_brL, am_st1, am_no2, am_st2, am_clr]
              refine am_wp_ls (ih2 f _ ?_) rfl
              rcases hf with ⟨e, all⟩ | ⟨i0, a1, a2, a3, a4⟩
              · refine Or.inl ⟨e, fun r hr => ?_⟩
                by_cases er : r = i
                · rw [er]; exact b132
                · exact all r (by omega)
              · refine Or.inr ⟨i0, by omega, a2, a3, fun r hr hp => ?_⟩
                by_cases er : r = i
                · rw [er, b132] at hp; exact absurd hp (by decide)
                · exact a4 r (by omega) hp
            · have b132 : p (B.2.1.getD i 0) = false := Bool.eq_false_iff.mpr b132
              rcases hf with ⟨e, all⟩ | ⟨i0, a1, a2, a3, a4⟩
              · subst e
                refine am_wp_go rfl (by simp (disch := omega) only [s124 hw, r124_31 hw, s138 hw, Vi, am_addE, am_subE, am_mulE, am_laddE, am_lsubE, am_upO, am_upS, am_stS, am_stO, am_tnn, am_brl, am_brg, am_bre, am_brn, am_brG, am_brL, am_st1, am_no2, am_st2, am_clr, and_self, true_and, and_true, true_or, or_true, List.length_cons, List.length_nil] <;> omega) ?_
                try simp (disch := omega) only [s124 hw, r124_31 hw, s138 hw, Vi, am_addE, am_subE, am_mulE, am_laddE, am_lsubE, am_upO, am_upS, am_stS, am_stO, am_tnn, am_brl, am_brg, am_bre, am_brn, am_brG, am_brL, am_st1, am_no2, am_st2, am_clr]
                refine am_wp_br (fun b138 => ?_) (fun b138 => ?_)
                · refine am_wp_go rfl (by simp (disch := omega) only [s124 hw, r124_31 hw, s138 hw, Vi, am_addE, am_subE, am_mulE, am_laddE, am_lsubE, am_upO, am_upS, am_stS, am_stO, am_tnn, am_brl, am_brg, am_bre, am_brn, am_brG, am_brL, am_st1, am_no2, am_st2, am_clr, and_self, true_and, and_true, true_or, or_true, List.length_cons, List.length_nil] <;> omega) ?_
                  try simp (disch := omega) only [s124 hw, r124_31 hw, s138 hw, Vi, am_addE, am_subE, am_mulE, am_laddE, am_lsubE, am_upO, am_upS, am_stS, am_stO, am_tnn, am_brl, am_brg, am_bre, am_brn, am_brG, am_brL, am_st1, am_no2, am_st2, am_clr]
                  refine am_wp_ls (ih2 (B.2.1.getD i 0 : Int) _ (Or.inr ⟨i, by omega, rfl, b132, fun r hr hp => ?_⟩)) rfl
                  by_cases er : r = i
                  · rw [er]; exact Or.inr ⟨rfl, Nat.le_refl i⟩
                  · rw [all r (by omega)] at hp; exact absurd hp (by decide)
                · exact absurd trivial b138
              · subst a2
                have g0 := g6 i0 (by omega)
                have Vb0 := V140 _ g0
                refine am_wp_go rfl (by simp (disch := omega) only [s124 hw, r124_31 hw, s138 hw, Vi, am_addE, am_subE, am_mulE, am_laddE, am_lsubE, am_upO, am_upS, am_stS, am_stO, am_tnn, am_brl, am_brg, am_bre, am_brn, am_brG, am_brL, am_st1, am_no2, am_st2, am_clr, and_self, true_and, and_true, true_or, or_true, List.length_cons, List.length_nil] <;> omega) ?_
                try simp (disch := omega) only [s124 hw, r124_31 hw, s138 hw, Vi, am_addE, am_subE, am_mulE, am_laddE, am_lsubE, am_upO, am_upS, am_stS, am_stO, am_tnn, am_brl, am_brg, am_bre, am_brn, am_brG, am_brL, am_st1, am_no2, am_st2, am_clr]
                refine am_wp_br (fun b138 => ?_) (fun b138 => ?_)
                · omega
                · skip
                  refine am_wp_go rfl (by simp (disch := omega) only [s124 hw, r124_33 hw, s140 hw, Vb, Vb0, am_addE, am_subE, am_mulE, am_laddE, am_lsubE, am_upO, am_upS, am_stS, am_stO, am_tnn, am_brl, am_brg, am_bre, am_brn, am_brG, am_brL, am_st1, am_no2, am_st2, am_clr, and_self, true_and, and_true, true_or, or_true, List.length_cons, List.length_nil] <;> omega) ?_
                  try simp (disch := omega) only [s124 hw, r124_33 hw, s140 hw, Vb, Vb0, am_addE, am_subE, am_mulE, am_laddE, am_lsubE, am_upO, am_upS, am_stS, am_stO, am_tnn, am_brl, am_brg, am_bre, am_brn, am_brG, am_brL, am_st1, am_no2, am_st2, am_clr]
                  refine am_wp_br (fun b155 => ?_) (fun b155 => ?_)
                  · refine am_wp_go rfl (by simp (disch := omega) only [s124 hw, r124_33 hw, s140 hw, Vb, Vb0, am_addE, am_subE, am_mulE, am_laddE, am_lsubE, am_upO, am_upS, am_stS, am_stO, am_tnn, am_brl, am_brg, am_bre, am_brn, am_brG, am_brL, am_st1, am_no2, am_st2, am_clr, and_self, true_and, and_true, true_or, or_true, List.length_cons, List.length_nil] <;> omega) ?_
                    try simp (disch := omega) only [s124 hw, r124_33 hw, s140 hw, Vb, Vb0, am_addE, am_subE, am_mulE, am_laddE, am_lsubE, am_upO, am_upS, am_stS, am_stO, am_tnn, am_brl, am_brg, am_bre, am_brn, am_brG, am_brL, am_st1, am_no2, am_st2, am_clr]
                    refine am_wp_ls (ih2 (B.2.1.getD i0 0 : Int) _ (Or.inr ⟨i0, by omega, rfl, a3, fun r hr hp => ?_⟩)) rfl
                    by_cases er : r = i
                    · rw [er]; omega
                    · exact a4 r (by omega) hp
                  · refine am_wp_go rfl (by simp (disch := omega) only [s124 hw, r124_33 hw, s140 hw, Vb, Vb0, am_addE, am_subE, am_mulE, am_laddE, am_lsubE, am_upO, am_upS, am_stS, am_stO, am_tnn, am_brl, am_brg, am_bre, am_brn, am_brG, am_brL, am_st1, am_no2, am_st2, am_clr, and_self, true_and, and_true, true_or, or_true, List.length_cons, List.length_nil] <;> omega) ?_
                    try simp (disch := omega) only [s124 hw, r124_33 hw, s140 hw, Vb, Vb0, am_addE, am_subE, am_mulE, am_laddE, am_lsubE, am_upO, am_upS, am_stS, am_stO, am_tnn, am_brl, am_brg, am_bre, am_brn, am_brG, am_brL, am_st1, am_no2, am_st2, am_clr]
                    refine am_wp_ls (ih2 (B.2.1.getD i 0 : Int) _ (Or.inr ⟨i, by omega, rfl, b132, fun r hr hp => ?_⟩)) rfl
                    by_cases er : r = i
                    · rw [er]; exact Or.inr ⟨rfl, Nat.le_refl i⟩
                    · have := a4 r (by omega) hp; omega
      refine am_wp_go rfl (by simp (disch := omega) only [am_addE, am_subE, am_mulE, am_laddE, am_lsubE, am_upO, am_upS, am_stS, am_stO, am_tnn, am_brl, am_brg, am_bre, am_brn, am_brG, am_brL, am_st1, am_no2, am_st2, am_clr, and_self, true_and, and_true, true_or, or_true, List.length_cons, List.length_nil] <;> omega) ?_
      try simp (disch := omega) only [am_addE, am_subE, am_mulE, am_laddE, am_lsubE, am_upO, am_upS, am_stS, am_stO, am_tnn, am_brl, am_brg, am_bre, am_brn, am_brG, am_brL, am_st1, am_no2, am_st2, am_clr]
      exact am_wp_ls (LS 0 (Nat.zero_le n) (-1) z6 (Or.inl ⟨rfl, fun r hr => absurd hr (Nat.not_lt_zero r)⟩)) rfl
  exact am_wp_ls (LK 0 (Nat.zero_le n) z4 z5 z6 0 (fun _ => false) (fun _ => 0) [] I (by decide) (fun s _ => Nat.zero_testBit s) (fun _ _ _ => rfl) (fun _ _ => rfl) hr hf ⟨fun _ => rfl, fun _ _ => rfl, rfl⟩) rfl
end RO
