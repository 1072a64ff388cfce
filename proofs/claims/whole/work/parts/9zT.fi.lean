/-! ONE by the class: fill, make, one -/
section FI
variable {m sl : Nat} {sh : Nat → Nat × Nat} {I : Nat → Nat → Int} {R : Nat → Nat → Nat} {Q : am_R → am_M → Prop} {d n P : Nat} {ρ : Int} {q : Nat → Int} {W N : Nat → Int} {G : List Go} {H : List (List Go)}
theorem w_shFree {t : Int} {F : Nat → Int} (hw : wd sh R) (h9 : I 64 9 = (P : Int)) (hP : P ≤ 4) (hF : ∀ x, x < 4 → I 71 x = F x) (hex : ∃ x, x < P ∧ F x ≤ t) (h : ∀ x : Nat, x < P → F x ≤ t → (∀ y, y < x → t < F y) → Q (am_yi x) (m, sl, sh, I, R)) : am_wp (d) 113 0 [some (.inr (.inr (64))), some (.inl (t)), none] [] (m, sl, sh, I, R) Q := by
  obtain ⟨z, z1, z2⟩ := hex
  have LP : ∀ x : Nat, x ≤ z → (∀ y, y < x → t < F y) → am_wp (d) 113 2 [some (.inr (.inr (64))), some (.inl (t)), some (.inl ((x : Int)))] [] (m, sl, sh, I, R) Q := by
    refine am_lp z (fun x hx ih x1 => ?_)
    have fx := hF x (by omega)
    refine am_wp_go rfl (by simp (disch := omega) only [s64 hw, r64_6 hw, s71 hw, h9, fx, am_addE, am_subE, am_mulE, am_laddE, am_lsubE, am_upO, am_upS, am_stS, am_stO, am_tnn, am_brl, am_brg, am_bre, am_brn, am_brG, am_brL, am_st1, am_no2, am_st2, am_clr, and_self, true_and, and_true, true_or, or_true, List.length_cons, List.length_nil] <;> omega) ?_
    try simp (disch := omega) only [s64 hw, r64_6 hw, s71 hw, h9, fx, am_addE, am_subE, am_mulE, am_laddE, am_lsubE, am_upO, am_upS, am_stS, am_stO, am_tnn, am_brl, am_brg, am_bre, am_brn, am_brG, am_brL, am_st1, am_no2, am_st2, am_clr]
    refine am_wp_br (fun b7 => ?_) (fun b7 => ?_)
    · omega
    · refine am_wp_go rfl (by simp (disch := omega) only [s64 hw, r64_6 hw, s71 hw, h9, fx, am_addE, am_subE, am_mulE, am_laddE, am_lsubE, am_upO, am_upS, am_stS, am_stO, am_tnn, am_brl, am_brg, am_bre, am_brn, am_brG, am_brL, am_st1, am_no2, am_st2, am_clr, and_self, true_and, and_true, true_or, or_true, List.length_cons, List.length_nil] <;> omega) ?_
      try simp (disch := omega) only [s64 hw, r64_6 hw, s71 hw, h9, fx, am_addE, am_subE, am_mulE, am_laddE, am_lsubE, am_upO, am_upS, am_stS, am_stO, am_tnn, am_brl, am_brg, am_bre, am_brn, am_brG, am_brL, am_st1, am_no2, am_st2, am_clr]
      refine am_wp_br (fun b17 => ?_) (fun b17 => ?_)
      · have ne : x ≠ z := fun hc => by rw [hc] at b17; omega
        refine am_wp_go rfl (by simp (disch := omega) only [s64 hw, r64_6 hw, s71 hw, h9, fx, am_addE, am_subE, am_mulE, am_laddE, am_lsubE, am_upO, am_upS, am_stS, am_stO, am_tnn, am_brl, am_brg, am_bre, am_brn, am_brG, am_brL, am_st1, am_no2, am_st2, am_clr, and_self, true_and, and_true, true_or, or_true, List.length_cons, List.length_nil] <;> omega) ?_
        try simp (disch := omega) only [s64 hw, r64_6 hw, s71 hw, h9, fx, am_addE, am_subE, am_mulE, am_laddE, am_lsubE, am_upO, am_upS, am_stS, am_stO, am_tnn, am_brl, am_brg, am_bre, am_brn, am_brG, am_brL, am_st1, am_no2, am_st2, am_clr]
        refine am_wp_ls (ih (by omega) (fun y hy => ?_)) rfl
        by_cases e : y = x
        · rw [e]; omega
        · exact x1 y (by omega)
      · refine am_wp_go rfl (by simp (disch := omega) only [s64 hw, r64_6 hw, s71 hw, h9, fx, am_addE, am_subE, am_mulE, am_laddE, am_lsubE, am_upO, am_upS, am_stS, am_stO, am_tnn, am_brl, am_brg, am_bre, am_brn, am_brG, am_brL, am_st1, am_no2, am_st2, am_clr, and_self, true_and, and_true, true_or, or_true, List.length_cons, List.length_nil] <;> omega) ?_
        try simp (disch := omega) only [s64 hw, r64_6 hw, s71 hw, h9, fx, am_addE, am_subE, am_mulE, am_laddE, am_lsubE, am_upO, am_upS, am_stS, am_stO, am_tnn, am_brl, am_brg, am_bre, am_brn, am_brG, am_brL, am_st1, am_no2, am_st2, am_clr]
        refine am_wp_ret rfl rfl ?_
        exact h x (by omega) (by omega) x1
  refine am_wp_go rfl (by simp (disch := omega) only [am_addE, am_subE, am_mulE, am_laddE, am_lsubE, am_upO, am_upS, am_stS, am_stO, am_tnn, am_brl, am_brg, am_bre, am_brn, am_brG, am_brL, am_st1, am_no2, am_st2, am_clr, and_self, true_and, and_true, true_or, or_true, List.length_cons, List.length_nil] <;> omega) ?_
  try simp (disch := omega) only [am_addE, am_subE, am_mulE, am_laddE, am_lsubE, am_upO, am_upS, am_stS, am_stO, am_tnn, am_brl, am_brg, am_bre, am_brn, am_brG, am_brL, am_st1, am_no2, am_st2, am_clr]
  exact am_wp_ls (LP 0 (Nat.zero_le z) (fun y hy => absurd hy (Nat.not_lt_zero y))) rfl
set_option maxHeartbeats 4000000 in
theorem w_shFill {B : Int × List Nat × (Nat → Int)} (hw : wd sh R) (hQ : ozQ n P ρ q) (hB : ozGd n P ρ q B) (h8 : I 64 8 = (n : Int)) (h9 : I 64 9 = (P : Int)) (h72 : ∀ s, s < n → I 72 s = q s) (hI : ozBe I n B) (h : ∀ J p F G, (∀ a, ¬ (a = 48 ∨ a = 49 ∨ a = 71) → J a = I a) → pl J 48 G → ozG n P q (fun i => B.2.1.getD i 0) B.2.2 n p F G → Q am_yv (m, sl, sh, J, R)) : am_wp (d + 1) 112 0 [some (.inr (.inr (64))), some (.inr (.inr (48))), none, none, none, none] [] (m, sl, sh, I, R) Q := by
  obtain ⟨g1, g2, g3, g4, g5, g6, g7, g8⟩ := hB
  have n8 := hQ.1
  have P4 := hQ.2.2.2.1
  obtain ⟨i1, i2⟩ := hI
  obtain ⟨i2, i3⟩ := i2 (by omega)
  have m0 : 0 ≤ ozM n q B.2.2 := fmax_0 n
  obtain ⟨E, hE⟩ : ∃ E : Nat, B.1 = (E : Int) := ⟨B.1.toNat, by omega⟩
  rw [hE] at i1 g3 g4
  have LT : ∀ t : Nat, t ≤ E → ∀ (z3 z4 z5 : Option am_V) (j : Nat) (p : Nat → Bool) (F : Nat → Int) (G : List Go) (K : Nat → Nat → Int), (∀ a, ¬ (a = 48 ∨ a = 49 ∨ a = 71) → K a = I a) → pl K 48 G → (∀ x, x < 4 → K 71 x = F x) → ozG n P q (fun i => B.2.1.getD i 0) B.2.2 j p F G → (∀ i, i < n → p (B.2.1.getD i 0) = decide (B.2.2 (B.2.1.getD i 0) < (t : Int))) → am_wp (d + 1) 112 14 [some (.inr (.inr (64))), some (.inr (.inr (48))), some (.inl ((t : Int))), z3, z4, z5] [] (m, sl, sh, K, R) Q := by
    refine am_lp E (fun t ht ih z3 z4 z5 j p F G K k1 k2 k3 k4 k5 => ?_)
    have K12 : K 64 12 = (E : Int) := by rw [k1 64 (by omega)]; exact i1
    refine am_wp_go rfl (by simp (disch := omega) only [s64 hw, K12, am_addE, am_subE, am_mulE, am_laddE, am_lsubE, am_upO, am_upS, am_stS, am_stO, am_tnn, am_brl, am_brg, am_bre, am_brn, am_brG, am_brL, am_st1, am_no2, am_st2, am_clr, and_self, true_and, and_true, true_or, or_true, List.length_cons, List.length_nil] <;> omega) ?_
    try simp (disch := omega) only [s64 hw, K12, am_addE, am_subE, am_mulE, am_laddE, am_lsubE, am_upO, am_upS, am_stS, am_stO, am_tnn, am_brl, am_brg, am_bre, am_brn, am_brG, am_brL, am_st1, am_no2, am_st2, am_clr]
    refine am_wp_br (fun b19 => ?_) (fun b19 => ?_)
    · refine am_wp_ret rfl rfl ?_
      have all : ∀ s, s < n → p s = true := fun s hs => by
        obtain ⟨i, i1, i2⟩ := g7 s hs
        have := k5 i i1
        rw [i2] at this
        rw [this]
        have a := ozM_ge (q := q) hs (g2 s hs)
        have c := hQ.2.2.2.2.2.2 s hs
        exact decide_eq_true (by omega)
      have c := (ozG_ct (n := n) (P := P) (q := q) (b := B.2.2) (o := fun i => B.2.1.getD i 0) (fun i hi => g6 i hi) j p F G k4).1
      have c1 : ∀ P, ax_ct (fun _ => true) P = P := fun P => by
        induction P with
        | zero => rfl
        | succ P ih =>
          have e2 : ax_ct (fun _ => true) (P + 1) = ax_ct (fun _ => true) P + 1 := rfl
          rw [e2, ih]
      rw [ax_ct_cg (e := fun _ => true) all, c1] at c
      rw [← c] at k4
      exact h K p F G k1 k2 k4
    · have ih := ih (by omega)
      have LI : ∀ i : Nat, i ≤ n → ∀ (z4 z5 : Option am_V) (j : Nat) (p : Nat → Bool) (F : Nat → Int) (G : List Go) (K : Nat → Nat → Int), (∀ a, ¬ (a = 48 ∨ a = 49 ∨ a = 71) → K a = I a) → pl K 48 G → (∀ x, x < 4 → K 71 x = F x) → ozG n P q (fun i => B.2.1.getD i 0) B.2.2 j p F G → (∀ r, r < n → p (B.2.1.getD r 0) = decide (B.2.2 (B.2.1.getD r 0) < (t : Int) ∨ B.2.2 (B.2.1.getD r 0) = (t : Int) ∧ r < i)) → am_wp (d + 1) 112 24 [some (.inr (.inr (64))), some (.inr (.inr (48))), some (.inl ((t : Int))), some (.inl ((i : Int))), z4, z5] [] (m, sl, sh, K, R) Q := by
        refine am_lp n (fun i hi ih2 z4 z5 j p F G K k1 k2 k3 k4 k5 => ?_)
        have K8 : K 64 8 = (n : Int) := by rw [k1 64 (by omega)]; exact h8
        have K9 : K 64 9 = (P : Int) := by rw [k1 64 (by omega)]; exact h9
        refine am_wp_go rfl (by simp (disch := omega) only [s64 hw, K8, am_addE, am_subE, am_mulE, am_laddE, am_lsubE, am_upO, am_upS, am_stS, am_stO, am_tnn, am_brl, am_brg, am_bre, am_brn, am_brG, am_brL, am_st1, am_no2, am_st2, am_clr, and_self, true_and, and_true, true_or, or_true, List.length_cons, List.length_nil] <;> omega) ?_
        try simp (disch := omega) only [s64 hw, K8, am_addE, am_subE, am_mulE, am_laddE, am_lsubE, am_upO, am_upS, am_stS, am_stO, am_tnn, am_brl, am_brg, am_bre, am_brn, am_brG, am_brL, am_st1, am_no2, am_st2, am_clr]
        refine am_wp_br (fun b29 => ?_) (fun b29 => ?_)
        · refine am_wp_go rfl (by simp (disch := omega) only [s64 hw, K8, am_addE, am_subE, am_mulE, am_laddE, am_lsubE, am_upO, am_upS, am_stS, am_stO, am_tnn, am_brl, am_brg, am_bre, am_brn, am_brG, am_brL, am_st1, am_no2, am_st2, am_clr, and_self, true_and, and_true, true_or, or_true, List.length_cons, List.length_nil] <;> omega) ?_
          try simp (disch := omega) only [s64 hw, K8, am_addE, am_subE, am_mulE, am_laddE, am_lsubE, am_upO, am_upS, am_stS, am_stO, am_tnn, am_brl, am_brg, am_bre, am_brn, am_brG, am_brL, am_st1, am_no2, am_st2, am_clr]
          refine am_wp_ls (ih _ _ _ j p F G K k1 k2 k3 k4 (fun r hr => ?_)) rfl
          rw [k5 r hr]
          exact decide_eq_decide.mpr (by omega)
        · have hin : i < n := by omega
          have ih2 := ih2 hin
          have gi := g6 i hin
          have K69 : K 69 i = (B.2.1.getD i 0 : Int) := by rw [k1 69 (by omega)]; exact i2 i hin
          have K68 : K 68 (B.2.1.getD i 0) = B.2.2 (B.2.1.getD i 0) := by rw [k1 68 (by omega)]; exact i3 _ gi
          have K72 : K 72 (B.2.1.getD i 0) = q (B.2.1.getD i 0) := by rw [k1 72 (by omega)]; exact h72 _ gi
          have qs := hQ.2.2.2.2.2.2 _ gi
          have cl := ozG_ct (n := n) (P := P) (q := q) (b := B.2.2) (o := fun i => B.2.1.getD i 0) (fun i hi => g6 i hi) j p F G k4
          have cn := ax_ct_le p n
          have fr := fun hk => ozG_free (i := i) hQ g1 g2 (o := fun i => B.2.1.getD i 0) (fun i hi => g6 i hi) g7 k4 hk
          have uq : ∀ r, r < n → B.2.1.getD r 0 = B.2.1.getD i 0 → r = i := fun r hr e => g8 r i hr hin e
          have hK : B.2.2 (B.2.1.getD i 0) = (t : Int) → ozK n (fun i => B.2.1.getD i 0) B.2.2 p i := fun e => by
            refine ⟨hin, ?_, fun r hr hp => ?_⟩
            · rw [k5 i hin]; exact decide_eq_false (by omega)
            · dsimp only at hp ⊢
              rw [k5 r hr, decide_eq_false_iff_not] at hp
              omega
          have eo : (fun i => B.2.1.getD i 0) i = B.2.1.getD i 0 := rfl
          generalize hs : B.2.1.getD i 0 = s at *
          refine am_wp_go rfl (by simp (disch := omega) only [s64 hw, r64_3 hw, r64_4 hw, s68 hw, s69 hw, K69, K68, am_addE, am_subE, am_mulE, am_laddE, am_lsubE, am_upO, am_upS, am_stS, am_stO, am_tnn, am_brl, am_brg, am_bre, am_brn, am_brG, am_brL, am_st1, am_no2, am_st2, am_clr, and_self, true_and, and_true, true_or, or_true, List.length_cons, List.length_nil] <;> omega) ?_
          try simp (disch := omega) only [s64 hw, r64_3 hw, r64_4 hw, s68 hw, s69 hw, K69, K68, am_addE, am_subE, am_mulE, am_laddE, am_lsubE, am_upO, am_upS, am_stS, am_stO, am_tnn, am_brl, am_brg, am_bre, am_brn, am_brG, am_brL, am_st1, am_no2, am_st2, am_clr]
          refine am_wp_br (fun b48 => ?_) (fun b48 => ?_)
          · refine am_wp_go rfl (by simp (disch := omega) only [s64 hw, r64_3 hw, r64_4 hw, s68 hw, s69 hw, K69, K68, am_addE, am_subE, am_mulE, am_laddE, am_lsubE, am_upO, am_upS, am_stS, am_stO, am_tnn, am_brl, am_brg, am_bre, am_brn, am_brG, am_brL, am_st1, am_no2, am_st2, am_clr, and_self, true_and, and_true, true_or, or_true, List.length_cons, List.length_nil] <;> omega) ?_
            try simp (disch := omega) only [s64 hw, r64_3 hw, r64_4 hw, s68 hw, s69 hw, K69, K68, am_addE, am_subE, am_mulE, am_laddE, am_lsubE, am_upO, am_upS, am_stS, am_stO, am_tnn, am_brl, am_brg, am_bre, am_brn, am_brG, am_brL, am_st1, am_no2, am_st2, am_clr]
            refine am_wp_ls (ih2 _ _ j p F G K k1 k2 k3 k4 (fun r hr => ?_)) rfl
            rw [k5 r hr]
            refine decide_eq_decide.mpr ?_
            by_cases e : r = i
            · rw [e, hs]; omega
            · omega
          · have bs : B.2.2 s = (t : Int) := by omega
            have hk := hK bs
            have ex := fr hk
            rw [bs] at ex
            refine am_wp_go rfl (by simp (disch := omega) only [s64 hw, r64_3 hw, r64_4 hw, s68 hw, s69 hw, K69, K68, am_addE, am_subE, am_mulE, am_laddE, am_lsubE, am_upO, am_upS, am_stS, am_stO, am_tnn, am_brl, am_brg, am_bre, am_brn, am_brG, am_brL, am_st1, am_no2, am_st2, am_clr, and_self, true_and, and_true, true_or, or_true, List.length_cons, List.length_nil] <;> omega) ?_
            try simp (disch := omega) only [s64 hw, r64_3 hw, r64_4 hw, s68 hw, s69 hw, K69, K68, am_addE, am_subE, am_mulE, am_laddE, am_lsubE, am_upO, am_upS, am_stS, am_stO, am_tnn, am_brl, am_brg, am_bre, am_brn, am_brG, am_brL, am_st1, am_no2, am_st2, am_clr]
            refine am_wp_cc rfl rfl rfl (congrArg Prod.fst (s64 hw)) (w_shFree (P := P) (F := F) hw K9 P4 k3 ex (fun x x1 x2 x3 => ⟨_, rfl, ?_⟩))
            refine am_wp_go rfl (by simp (disch := omega) only [s64 hw, r64_6 hw, s71 hw, r64_7 hw, s72 hw, K72, am_addE, am_subE, am_mulE, am_laddE, am_lsubE, am_upO, am_upS, am_stS, am_stO, am_tnn, am_brl, am_brg, am_bre, am_brn, am_brG, am_brL, am_st1, am_no2, am_st2, am_clr, and_self, true_and, and_true, true_or, or_true, List.length_cons, List.length_nil] <;> omega) ?_
            simp (disch := omega) only [s64 hw, r64_6 hw, s71 hw, r64_7 hw, s72 hw, K72, am_addE, am_subE, am_mulE, am_laddE, am_lsubE, am_upO, am_upS, am_stS, am_stO, am_tnn, am_brl, am_brg, am_bre, am_brn, am_brG, am_brL, am_st1, am_no2, am_st2, am_clr]
            generalize hZ : am_up K 71 x ((t : Int) + q s) = Z
            have Z0 : ∀ y, y ≠ 71 → Z y = K y := fun y h1 => by rw [← hZ, am_upO h1]
            have Z71 : Z 71 = am_set (K 71) x ((t : Int) + q s) := by rw [← hZ, am_upS]
            clear hZ
            have Z72 : Z 72 s = q s := by rw [Z0 72 (by decide)]; exact K72
            refine am_wp_cc rfl rfl rfl (congrArg Prod.fst (hw.1 48 (by decide) (by decide))) (w_append (p := 48) (G := G) (g := ozg q B.2.2 s x) (pl_w hw (by decide)) (pl_fr k2 (Z0 48 (by decide)) (Z0 49 (by decide))) (by omega) (by unfold ozg go_ok; dsimp only; omega) (by unfold ozg; dsimp only; omega) (by unfold ozg; dsimp only; omega) (by unfold ozg; rfl) (by unfold ozg; rfl) (fun Y y1 y2 => ⟨_, rfl, ?_⟩))
            refine am_wp_go rfl (by simp (disch := omega) only [am_addE, am_subE, am_mulE, am_laddE, am_lsubE, am_upO, am_upS, am_stS, am_stO, am_tnn, am_brl, am_brg, am_bre, am_brn, am_brG, am_brL, am_st1, am_no2, am_st2, am_clr, and_self, true_and, and_true, true_or, or_true, List.length_cons, List.length_nil] <;> omega) ?_
            try simp (disch := omega) only [am_addE, am_subE, am_mulE, am_laddE, am_lsubE, am_upO, am_upS, am_stS, am_stO, am_tnn, am_brl, am_brg, am_bre, am_brn, am_brG, am_brL, am_st1, am_no2, am_st2, am_clr]
            refine am_wp_ls (ih2 _ _ (j + 1) (fun r => if r = s then true else p r) (fun y => if y = x then B.2.2 s + q s else F y) (G ++ [ozg q B.2.2 s x]) Y (fun a ha => by rw [y1 a (by omega) (by omega), Z0 a (by omega), k1 a ha]) y2 (fun y hy => ?_) ⟨p, F, G, i, x, k4, hk, x1, ?_, fun y hy => ?_, fun r => ?_, fun y _ => ?_, ?_⟩ (fun r hr => ?_)) rfl
            · rw [y1 71 (by decide) (by decide), Z71]
              by_cases e : y = x
              · rw [am_stS e, if_pos e, bs]
              · rw [am_stO e, if_neg e]; exact k3 y hy
            · rw [eo, bs]; exact x2
            · rw [eo, bs]; exact x3 y hy
            · rw [eo]
            · rw [eo]
            · rw [eo]
            · by_cases e : r = i
              · rw [if_pos (by rw [e]; exact hs), e, hs]
                exact (decide_eq_true (Or.inr ⟨bs, Nat.lt_succ_self i⟩)).symm
              · rw [if_neg (fun hc => e (uq r hr hc)), k5 r hr]
                exact decide_eq_decide.mpr (by omega)
      refine am_wp_go rfl (by simp (disch := omega) only [am_addE, am_subE, am_mulE, am_laddE, am_lsubE, am_upO, am_upS, am_stS, am_stO, am_tnn, am_brl, am_brg, am_bre, am_brn, am_brG, am_brL, am_st1, am_no2, am_st2, am_clr, and_self, true_and, and_true, true_or, or_true, List.length_cons, List.length_nil] <;> omega) ?_
      try simp (disch := omega) only [am_addE, am_subE, am_mulE, am_laddE, am_lsubE, am_upO, am_upS, am_stS, am_stO, am_tnn, am_brl, am_brg, am_bre, am_brn, am_brG, am_brL, am_st1, am_no2, am_st2, am_clr]
      refine am_wp_ls (LI 0 (Nat.zero_le n) _ _ j p F G K k1 k2 k3 k4 (fun r hr => ?_)) rfl
      rw [k5 r hr]
      exact decide_eq_decide.mpr (by omega)
  refine am_wp_go rfl (by simp (disch := omega) only [s64 hw, am_addE, am_subE, am_mulE, am_laddE, am_lsubE, am_upO, am_upS, am_stS, am_stO, am_tnn, am_brl, am_brg, am_bre, am_brn, am_brG, am_brL, am_st1, am_no2, am_st2, am_clr, and_self, true_and, and_true, true_or, or_true, List.length_cons, List.length_nil] <;> omega) ?_
  try simp (disch := omega) only [s64 hw, am_addE, am_subE, am_mulE, am_laddE, am_lsubE, am_upO, am_upS, am_stS, am_stO, am_tnn, am_brl, am_brg, am_bre, am_brn, am_brG, am_brL, am_st1, am_no2, am_st2, am_clr]
  refine am_wp_cc rfl rfl rfl (congrArg Prod.fst (hw.1 48 (by decide) (by decide))) (w_plclear (p := 48) (pl_w hw (by decide)) (fun J j1 j2 => ⟨_, rfl, ?_⟩))
  refine am_wp_go rfl (by simp (disch := omega) only [s64 hw, r64_6 hw, s71 hw, am_addE, am_subE, am_mulE, am_laddE, am_lsubE, am_upO, am_upS, am_stS, am_stO, am_tnn, am_brl, am_brg, am_bre, am_brn, am_brG, am_brL, am_st1, am_no2, am_st2, am_clr, and_self, true_and, and_true, true_or, or_true, List.length_cons, List.length_nil] <;> omega) ?_
  try simp (disch := omega) only [s64 hw, r64_6 hw, s71 hw, am_addE, am_subE, am_mulE, am_laddE, am_lsubE, am_upO, am_upS, am_stS, am_stO, am_tnn, am_brl, am_brg, am_bre, am_brn, am_brG, am_brL, am_st1, am_no2, am_st2, am_clr]
  refine am_wp_cc rfl rfl rfl (trivial) (w_fill (a := 71) (by decide) (s71 hw) (by decide) (fun K k1 k2 k3 => ⟨_, rfl, ?_⟩))
  refine am_wp_go rfl (by simp (disch := omega) only [am_addE, am_subE, am_mulE, am_laddE, am_lsubE, am_upO, am_upS, am_stS, am_stO, am_tnn, am_brl, am_brg, am_bre, am_brn, am_brG, am_brL, am_st1, am_no2, am_st2, am_clr, and_self, true_and, and_true, true_or, or_true, List.length_cons, List.length_nil] <;> omega) ?_
  try simp (disch := omega) only [am_addE, am_subE, am_mulE, am_laddE, am_lsubE, am_upO, am_upS, am_stS, am_stO, am_tnn, am_brl, am_brg, am_bre, am_brn, am_brG, am_brL, am_st1, am_no2, am_st2, am_clr]
  refine am_wp_ls (LT 0 (Nat.zero_le E) none none none 0 (fun _ => false) (fun _ => 0) [] K (fun a ha => by rw [k1 a (by omega), j1 a (by omega)]) (pl_fr j2 (k1 48 (by decide)) (k1 49 (by decide))) (fun x hx => k2 x hx) ⟨fun _ => rfl, fun _ _ => rfl, rfl⟩ (fun i hi => ?_)) rfl
  have a := g6 i hi
  have b := g1.1 _ a
  have c := g2 _ a
  exact (decide_eq_false (by omega)).symm
end FI
