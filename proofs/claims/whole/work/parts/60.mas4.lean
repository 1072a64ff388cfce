/-! masters() on both sides -/
def msP (W : Nat → Int) (x : Nat) : Nat → MS → MS
  | 0, S => msS W 1 x (msS W 0 x S)
  | 1, S => msS W 1 x S
  | _, S => S
theorem msP_s {W : Nat → Int} {x p : Nat} (hp : p < 2) {S : MS} : msP W x p S = msP W x (p + 1) (msS W p x S) := by
  rcases (show p = 0 ∨ p = 1 by omega) with rfl | rfl <;> rfl
def msF (W : Nat → Int) (o : Nat → Int) : MS := msR W 1000 0 (0, fun _ => 0, o, [])
theorem msI_mono {W : Nat → Int} {I : Nat → Nat → Int} {g : Nat} {f : Nat → Nat} {o : Nat → Int} {x y : Nat} (h : msI W I g f o x) (hxy : x ≤ y) : msI W I g f o y := ⟨h.1, h.2.1, fun s u h1 h2 h3 h4 => (h.2.2 s u h1 h2 h3 h4).imp id (fun ⟨a, b⟩ => ⟨a, by omega⟩)⟩
theorem msI_take {W : Nat → Int} {I J : Nat → Nat → Int} {g c p x : Nat} {f : Nat → Nat} {o : Nat → Int} (h : msI W I g f o x) (hp : p < 2) (hc : c < nS W) (hf : f p ≤ x) (j74 : J 74 = am_set (I 74) (2 * c + p) 0) (j79 : J 79 = am_set (I 79) p ((x + ndW W (2 * c + p) : Nat) : Int)) (j78 : J 78 = am_set (I 78) c ((x + ndW W (2 * c + p) : Nat) : Int)) : msI W J (g ||| 2 ^ (2 * c + p)) (am_set f p (x + ndW W (2 * c + p))) (am_set o p (c : Int)) x := by
  obtain ⟨h1, h2, h3⟩ := h
  refine ⟨fun i hi => ?_, fun q hq => ?_, fun s u hs hu t1 t2 => ?_⟩
  · rw [j74, or_tb]
    by_cases hic : i = 2 * c + p
    · rw [am_stS hic, decide_eq_true hic.symm, Bool.or_true, if_pos rfl]
    · rw [am_stO hic, decide_eq_false (Ne.symm hic), Bool.or_false]
      exact h1 i hi
  · rw [j79]
    by_cases hqp : q = p
    · rw [am_stS hqp, am_stS hqp]
    · rw [am_stO hqp, am_stO hqp]; exact h2 q hq
  · rw [or_tb] at t1 t2
    rw [Bool.or_eq_false_iff, decide_eq_false_iff_not] at t2
    rw [j78]
    by_cases hsc : s = c
    · subst hsc
      have hup : u = p := by omega
      subst hup
      rw [am_stS rfl, am_stS rfl, am_stS rfl]
      exact Or.inl ⟨rfl, rfl⟩
    · rw [decide_eq_false (by omega), Bool.or_false] at t1
      have h4 := h3 s u hs hu t1 t2.1
      rw [am_stO hsc]
      by_cases hup : u = p
      · subst hup
        rw [am_stS rfl]
        right
        rcases h4 with ⟨a, b⟩ | ⟨a, b⟩
        · exact ⟨by omega, by omega⟩
        · exact ⟨by omega, b⟩
      · rw [am_stO hup, am_stO hup]
        exact h4
section MAS
variable {m sl : Nat} {sh : Nat → Nat × Nat} {I : Nat → Nat → Int} {R : Nat → Nat → Nat} {Q : am_R → am_M → Prop} {d : Nat} {W N : Nat → Int} {G : List Go} {H : List (List Go)}
set_option maxHeartbeats 4000000 in
theorem w_twoMasters (o : Nat → Int) (hw : wd sh R) (hk : kit I 6 W N) (h : ∀ J, (∀ a, ¬ (a = 48 ∨ a = 49 ∨ 73 ≤ a ∧ a ≤ 79) → J a = I a) → pl J 48 (msF W o).2.2.2 → Q am_yv (m, sl, sh, J, R)) : am_wp (d + 2) 40 0 [some (.inr (.inr (73))), some (.inr (.inr (6))), some (.inr (.inr (48))), none, none, none, none] [] (m, sl, sh, I, R) Q := by
  have n1 := wk_nS hk.1
  refine am_wp_go rfl (by simp (disch := omega) only [am_addE, am_subE, am_mulE, am_laddE, am_lsubE, am_upO, am_upS, am_stS, am_stO, am_tnn, am_brl, am_brg, am_bre, am_brn, am_brG, am_brL, am_st1, am_no2, am_st2, am_clr, and_self, true_and, and_true, true_or, or_true, List.length_cons, List.length_nil] <;> omega) ?_
  try simp (disch := omega) only [am_addE, am_subE, am_mulE, am_laddE, am_lsubE, am_upO, am_upS, am_stS, am_stO, am_tnn, am_brl, am_brg, am_bre, am_brn, am_brG, am_brL, am_st1, am_no2, am_st2, am_clr]
  refine am_wp_cc rfl rfl rfl (congrArg Prod.fst (s48 hw)) (w_plclear (pl_w hw (by decide)) (fun J0 j1 j2 => ⟨_, rfl, ?_⟩))
  have hk0 : kit J0 6 W N := kit_fr hk (fun a h1 h2 => j1 a (by omega))
  refine am_wp_go rfl (by simp (disch := omega) only [am_addE, am_subE, am_mulE, am_laddE, am_lsubE, am_upO, am_upS, am_stS, am_stO, am_tnn, am_brl, am_brg, am_bre, am_brn, am_brG, am_brL, am_st1, am_no2, am_st2, am_clr, and_self, true_and, and_true, true_or, or_true, List.length_cons, List.length_nil] <;> omega) ?_
  try simp (disch := omega) only [am_addE, am_subE, am_mulE, am_laddE, am_lsubE, am_upO, am_upS, am_stS, am_stO, am_tnn, am_brl, am_brg, am_bre, am_brn, am_brG, am_brL, am_st1, am_no2, am_st2, am_clr]
  refine am_wp_cc rfl rfl rfl (congrArg Prod.fst (s73 hw)) (w_mbegin hw hk0 (fun J i1 i2 i3 i4 i5 i6 i7 => ⟨_, rfl, ?_⟩))
  refine am_wp_go rfl (by simp (disch := omega) only [am_addE, am_subE, am_mulE, am_laddE, am_lsubE, am_upO, am_upS, am_stS, am_stO, am_tnn, am_brl, am_brg, am_bre, am_brn, am_brG, am_brL, am_st1, am_no2, am_st2, am_clr, and_self, true_and, and_true, true_or, or_true, List.length_cons, List.length_nil] <;> omega) ?_
  try simp (disch := omega) only [am_addE, am_subE, am_mulE, am_laddE, am_lsubE, am_upO, am_upS, am_stS, am_stO, am_tnn, am_brl, am_brg, am_bre, am_brn, am_brG, am_brL, am_st1, am_no2, am_st2, am_clr]
  have L : ∀ x, x ≤ 1000 → ∀ (z4 z5 z6 : Option am_V) (K : Nat → Nat → Int) (S : MS), (∀ a, ¬ (a = 48 ∨ a = 49 ∨ 73 ≤ a ∧ a ≤ 79) → K a = I a) → pl K 48 S.2.2.2 → msI W K S.1 S.2.1 S.2.2.1 x → msK W x S → msR W (1000 - x) x S = msF W o → am_wp (d + 2) 40 11 [some (.inr (.inr (73))), some (.inr (.inr (6))), some (.inr (.inr (48))), some (.inl ((x : Int))), z4, z5, z6] [] (m, sl, sh, K, R) Q := by
    refine am_lp 1000 (fun x hx ih z4 z5 z6 K S k1 k2 k3 k4 k5 => ?_)
    have mx := ms_x k4
    have hkk : kit K 6 W N := kit_fr hk (fun a h1 h2 => k1 a (by omega))
    have o1 : K 6 6 = (nS W : Int) := by rw [hkk.2.1.2.2.2.2.2.1]; exact n1.1
    have p1 := k2.1
    have ct := msCt_all k4.1
    have cl := msCt_le (g := S.1) (n := 2 * nS W)
    have len := k4.2.1
    refine am_wp_go rfl (by simp (disch := omega) only [s6 hw, s48 hw, o1, p1, am_addE, am_subE, am_mulE, am_laddE, am_lsubE, am_upO, am_upS, am_stS, am_stO, am_tnn, am_brl, am_brg, am_bre, am_brn, am_brG, am_brL, am_st1, am_no2, am_st2, am_clr, and_self, true_and, and_true, true_or, or_true, List.length_cons, List.length_nil] <;> omega) ?_
    try simp (disch := omega) only [s6 hw, s48 hw, o1, p1, am_addE, am_subE, am_mulE, am_laddE, am_lsubE, am_upO, am_upS, am_stS, am_stO, am_tnn, am_brl, am_brg, am_bre, am_brn, am_brG, am_brL, am_st1, am_no2, am_st2, am_clr]
    refine am_wp_br (fun b15 => ?_) (fun b15 => ?_)
    · omega
    · refine am_wp_go rfl (by simp (disch := omega) only [s6 hw, s48 hw, o1, p1, am_addE, am_subE, am_mulE, am_laddE, am_lsubE, am_upO, am_upS, am_stS, am_stO, am_tnn, am_brl, am_brg, am_bre, am_brn, am_brG, am_brL, am_st1, am_no2, am_st2, am_clr, and_self, true_and, and_true, true_or, or_true, List.length_cons, List.length_nil] <;> omega) ?_
      try simp (disch := omega) only [s6 hw, s48 hw, o1, p1, am_addE, am_subE, am_mulE, am_laddE, am_lsubE, am_upO, am_upS, am_stS, am_stO, am_tnn, am_brl, am_brg, am_bre, am_brn, am_brG, am_brL, am_st1, am_no2, am_st2, am_clr]
      refine am_wp_br (fun b28 => ?_) (fun b28 => ?_)
      · have ea : S.1 = 2 ^ (2 * nS W) - 1 := ct.mp (by omega)
        rw [show 1000 - x = (999 - x) + 1 by omega] at k5
        unfold msR at k5
        rw [if_pos ea] at k5
        refine am_wp_ret rfl rfl ?_
        rw [k5] at k2
        exact h K k1 k2
      · have en : S.1 ≠ 2 ^ (2 * nS W) - 1 := fun hc => by have := ct.mpr hc; omega
        rw [show 1000 - x = (1000 - (x + 1)) + 1 by omega] at k5
        unfold msR at k5
        rw [if_neg en] at k5
        have k6 := ms_min hk.1 k4 en
        have ih := ih (by omega)
        clear ct cl
        refine am_wp_go rfl (by simp (disch := omega) only [s6 hw, s48 hw, o1, p1, am_addE, am_subE, am_mulE, am_laddE, am_lsubE, am_upO, am_upS, am_stS, am_stO, am_tnn, am_brl, am_brg, am_bre, am_brn, am_brG, am_brL, am_st1, am_no2, am_st2, am_clr, and_self, true_and, and_true, true_or, or_true, List.length_cons, List.length_nil] <;> omega) ?_
        try simp (disch := omega) only [s6 hw, s48 hw, o1, p1, am_addE, am_subE, am_mulE, am_laddE, am_lsubE, am_upO, am_upS, am_stS, am_stO, am_tnn, am_brl, am_brg, am_bre, am_brn, am_brG, am_brL, am_st1, am_no2, am_st2, am_clr]
        have M : ∀ p, p ≤ 2 → ∀ (z5 z6 : Option am_V) (V : Nat → Nat → Int) (T : MS), (∀ a, ¬ (a = 48 ∨ a = 49 ∨ 73 ≤ a ∧ a ≤ 79) → V a = I a) → pl V 48 T.2.2.2 → msI W V T.1 T.2.1 T.2.2.1 x → msK W x T → msP W x p T = msS W 1 x (msS W 0 x S) → am_wp (d + 2) 40 34 [some (.inr (.inr (73))), some (.inr (.inr (6))), some (.inr (.inr (48))), some (.inl ((x : Int))), some (.inl ((p : Int))), z5, z6] [] (m, sl, sh, V, R) Q := by
          refine am_lp 2 (fun p hp ih2 z5 z6 V T v1 v2 v3 v4 v5 => ?_)
          have hkv : kit V 6 W N := kit_fr hk (fun a h1 h2 => v1 a (by omega))
          by_cases hp2 : p = 2
          · subst hp2
            have v5 : T = msS W 1 x (msS W 0 x S) := v5
            subst v5
            refine am_wp_go rfl (by simp (disch := omega) only [am_addE, am_subE, am_mulE, am_laddE, am_lsubE, am_upO, am_upS, am_stS, am_stO, am_tnn, am_brl, am_brg, am_bre, am_brn, am_brG, am_brL, am_st1, am_no2, am_st2, am_clr, and_self, true_and, and_true, true_or, or_true, List.length_cons, List.length_nil] <;> omega) ?_
            refine am_wp_pc (pc' := 143) rfl ?_
            refine am_wp_go rfl (by simp (disch := omega) only [am_addE, am_subE, am_mulE, am_laddE, am_lsubE, am_upO, am_upS, am_stS, am_stO, am_tnn, am_brl, am_brg, am_bre, am_brn, am_brG, am_brL, am_st1, am_no2, am_st2, am_clr, and_self, true_and, and_true, true_or, or_true, List.length_cons, List.length_nil] <;> omega) ?_
            try simp (disch := omega) only [am_addE, am_subE, am_mulE, am_laddE, am_lsubE, am_upO, am_upS, am_stS, am_stO, am_tnn, am_brl, am_brg, am_bre, am_brn, am_brG, am_brL, am_st1, am_no2, am_st2, am_clr]
            exact am_wp_ls (ih _ _ _ V _ v1 v2 (msI_mono v3 (by omega)) k6 k5) rfl
          · have hp3 : p < 2 := by omega
            have ih2 := ih2 (by omega)
            rw [msP_s hp3] at v5
            have vx := ms_x v4
            have e79 := v3.2.1 p hp3
            have v6 := msS_ok hk.1 hp3 v4
            refine am_wp_go rfl (by simp (disch := omega) only [s73 hw, r73_5 hw, s79 hw, e79, am_addE, am_subE, am_mulE, am_laddE, am_lsubE, am_upO, am_upS, am_stS, am_stO, am_tnn, am_brl, am_brg, am_bre, am_brn, am_brG, am_brL, am_st1, am_no2, am_st2, am_clr, and_self, true_and, and_true, true_or, or_true, List.length_cons, List.length_nil] <;> omega) ?_
            try simp (disch := omega) only [s73 hw, r73_5 hw, s79 hw, e79, am_addE, am_subE, am_mulE, am_laddE, am_lsubE, am_upO, am_upS, am_stS, am_stO, am_tnn, am_brl, am_brg, am_bre, am_brn, am_brG, am_brL, am_st1, am_no2, am_st2, am_clr]
            refine am_wp_br (fun b37 => ?_) (fun b37 => ?_)
            · omega
            · refine am_wp_go rfl (by simp (disch := omega) only [s73 hw, r73_5 hw, s79 hw, e79, am_addE, am_subE, am_mulE, am_laddE, am_lsubE, am_upO, am_upS, am_stS, am_stO, am_tnn, am_brl, am_brg, am_bre, am_brn, am_brG, am_brL, am_st1, am_no2, am_st2, am_clr, and_self, true_and, and_true, true_or, or_true, List.length_cons, List.length_nil] <;> omega) ?_
              try simp (disch := omega) only [s73 hw, r73_5 hw, s79 hw, e79, am_addE, am_subE, am_mulE, am_laddE, am_lsubE, am_upO, am_upS, am_stS, am_stO, am_tnn, am_brl, am_brg, am_bre, am_brn, am_brG, am_brL, am_st1, am_no2, am_st2, am_clr]
              refine am_wp_br (fun b48 => ?_) (fun b48 => ?_)
              · have eS : msS W p x T = T := by unfold msS; rw [if_neg (fun hc => by omega)]
                rw [eS] at v5
                refine am_wp_go rfl (by simp (disch := omega) only [s73 hw, r73_5 hw, s79 hw, e79, am_addE, am_subE, am_mulE, am_laddE, am_lsubE, am_upO, am_upS, am_stS, am_stO, am_tnn, am_brl, am_brg, am_bre, am_brn, am_brG, am_brL, am_st1, am_no2, am_st2, am_clr, and_self, true_and, and_true, true_or, or_true, List.length_cons, List.length_nil] <;> omega) ?_
                refine am_wp_pc (pc' := 137) rfl ?_
                refine am_wp_go rfl (by simp (disch := omega) only [s73 hw, r73_5 hw, s79 hw, e79, am_addE, am_subE, am_mulE, am_laddE, am_lsubE, am_upO, am_upS, am_stS, am_stO, am_tnn, am_brl, am_brg, am_bre, am_brn, am_brG, am_brL, am_st1, am_no2, am_st2, am_clr, and_self, true_and, and_true, true_or, or_true, List.length_cons, List.length_nil] <;> omega) ?_
                try simp (disch := omega) only [s73 hw, r73_5 hw, s79 hw, e79, am_addE, am_subE, am_mulE, am_laddE, am_lsubE, am_upO, am_upS, am_stS, am_stO, am_tnn, am_brl, am_brg, am_bre, am_brn, am_brG, am_brL, am_st1, am_no2, am_st2, am_clr]
                exact am_wp_ls (ih2 _ _ V T v1 v2 v3 v4 v5) rfl
              · refine am_wp_go rfl (by simp (disch := omega) only [s73 hw, r73_5 hw, s79 hw, e79, am_addE, am_subE, am_mulE, am_laddE, am_lsubE, am_upO, am_upS, am_stS, am_stO, am_tnn, am_brl, am_brg, am_bre, am_brn, am_brG, am_brL, am_st1, am_no2, am_st2, am_clr, and_self, true_and, and_true, true_or, or_true, List.length_cons, List.length_nil] <;> omega) ?_
                try simp (disch := omega) only [s73 hw, r73_5 hw, s79 hw, e79, am_addE, am_subE, am_mulE, am_laddE, am_lsubE, am_upO, am_upS, am_stS, am_stO, am_tnn, am_brl, am_brg, am_bre, am_brn, am_brG, am_brL, am_st1, am_no2, am_st2, am_clr]
                refine am_wp_cc rfl rfl rfl (congrArg Prod.fst (s73 hw)) (w_masterTakes hw hkv v3 hp3 (by omega) ⟨_, rfl, ?_⟩)
                refine am_wp_go rfl (by simp (disch := omega) only [s73 hw, r73_5 hw, s79 hw, e79, am_addE, am_subE, am_mulE, am_laddE, am_lsubE, am_upO, am_upS, am_stS, am_stO, am_tnn, am_brl, am_brg, am_bre, am_brn, am_brG, am_brL, am_st1, am_no2, am_st2, am_clr, and_self, true_and, and_true, true_or, or_true, List.length_cons, List.length_nil] <;> omega) ?_
                try simp (disch := omega) only [s73 hw, r73_5 hw, s79 hw, e79, am_addE, am_subE, am_mulE, am_laddE, am_lsubE, am_upO, am_upS, am_stS, am_stO, am_tnn, am_brl, am_brg, am_bre, am_brn, am_brG, am_brL, am_st1, am_no2, am_st2, am_clr]
                refine am_wp_br (fun b68 => ?_) (fun b68 => ?_)
                · have eS : msS W p x T = T := by unfold msS; rw [if_neg (fun hc => hc.2 b68)]
                  rw [eS] at v5
                  refine am_wp_go rfl (by simp (disch := omega) only [s73 hw, r73_5 hw, s79 hw, e79, am_addE, am_subE, am_mulE, am_laddE, am_lsubE, am_upO, am_upS, am_stS, am_stO, am_tnn, am_brl, am_brg, am_bre, am_brn, am_brG, am_brL, am_st1, am_no2, am_st2, am_clr, and_self, true_and, and_true, true_or, or_true, List.length_cons, List.length_nil] <;> omega) ?_
                  try simp (disch := omega) only [s73 hw, r73_5 hw, s79 hw, e79, am_addE, am_subE, am_mulE, am_laddE, am_lsubE, am_upO, am_upS, am_stS, am_stO, am_tnn, am_brl, am_brg, am_bre, am_brn, am_brG, am_brL, am_st1, am_no2, am_st2, am_clr]
                  exact am_wp_ls (ih2 _ _ V T v1 v2 v3 v4 v5) rfl
                · obtain ⟨c, e, hc2, hc3⟩ := (ms_v (W := W) (g := T.1) (f := T.2.1) (o := T.2.2.1) (x := x) hp3).resolve_left b68
                  have eS : msS W p x T = (T.1 ||| 2 ^ (2 * c + p), am_set T.2.1 p (x + ndW W (2 * c + p)), am_set T.2.2.1 p (c : Int), T.2.2.2 ++ [((c : Int), (p : Int), (x : Int), (p : Int), (ndW W (2 * c + p) : Int))]) := by
                    unfold msS
                    rw [if_pos ⟨by omega, b68⟩, e, am_tnn]
                  rw [eS] at v5 v6
                  have e74 := v3.1 (2 * c + p) (by omega)
                  rw [hc3, if_neg (by decide)] at e74
                  have nd := nd_pos hk.1 (i := 2 * c + p) (by omega)
                  have gk := (v6.2.2.2 _ (List.mem_append_right _ (List.mem_singleton_self _))).1
                  have tl := v4.2.1
                  have tc := msCt_le (g := T.1) (n := 2 * nS W)
                  rw [e]
                  refine am_wp_go rfl (by simp (disch := omega) only [s73 hw, r73_0 hw, s74 hw, r73_5 hw, s79 hw, r73_4 hw, s78 hw, e74, am_tnA, am_tnM, Int.reduceToNat, am_addE, am_subE, am_mulE, am_laddE, am_lsubE, am_upO, am_upS, am_stS, am_stO, am_tnn, am_brl, am_brg, am_bre, am_brn, am_brG, am_brL, am_st1, am_no2, am_st2, am_clr, and_self, true_and, and_true, true_or, or_true, List.length_cons, List.length_nil] <;> omega) ?_
                  try simp (disch := omega) only [s73 hw, r73_0 hw, s74 hw, r73_5 hw, s79 hw, r73_4 hw, s78 hw, e74, am_tnA, am_tnM, Int.reduceToNat, am_addE, am_subE, am_mulE, am_laddE, am_lsubE, am_upO, am_upS, am_stS, am_stO, am_tnn, am_brl, am_brg, am_bre, am_brn, am_brG, am_brL, am_st1, am_no2, am_st2, am_clr]
                  refine am_wp_cc rfl rfl rfl (congrArg Prod.fst (s48 hw)) (w_append (g := ((c : Int), (p : Int), (x : Int), (p : Int), (ndW W (2 * c + p) : Int))) (pl_w hw (by decide)) v2 (by omega) gk rfl rfl rfl rfl (fun X x1 x2 => ⟨_, rfl, ?_⟩))
                  refine am_wp_go rfl (by simp (disch := omega) only [s73 hw, r73_0 hw, s74 hw, r73_5 hw, s79 hw, r73_4 hw, s78 hw, e74, am_tnA, am_tnM, Int.reduceToNat, am_addE, am_subE, am_mulE, am_laddE, am_lsubE, am_upO, am_upS, am_stS, am_stO, am_tnn, am_brl, am_brg, am_bre, am_brn, am_brG, am_brL, am_st1, am_no2, am_st2, am_clr, and_self, true_and, and_true, true_or, or_true, List.length_cons, List.length_nil] <;> omega) ?_
                  try simp (disch := omega) only [s73 hw, r73_0 hw, s74 hw, r73_5 hw, s79 hw, r73_4 hw, s78 hw, e74, am_tnA, am_tnM, Int.reduceToNat, am_addE, am_subE, am_mulE, am_laddE, am_lsubE, am_upO, am_upS, am_stS, am_stO, am_tnn, am_brl, am_brg, am_bre, am_brn, am_brG, am_brL, am_st1, am_no2, am_st2, am_clr]
                  refine am_wp_ls (ih2 _ _ _ _ (fun a ha => ?_) (pl_fr x2 ?_ ?_) (msI_take (I := V) v3 hp3 hc2 (by omega) ?_ ?_ ?_) v6 v5) rfl
                  · rw [am_upO (by omega), am_upO (by omega), am_upO (by omega), x1 a (by omega) (by omega), v1 a ha]
                  · rw [am_upO (by decide), am_upO (by decide), am_upO (by decide)]
                  · rw [am_upO (by decide), am_upO (by decide), am_upO (by decide)]
                  · rw [am_upO (by decide), am_upO (by decide), am_upS, x1 74 (by decide) (by decide)]
                  · rw [am_upO (by decide), am_upS, am_upO (by decide), x1 79 (by decide) (by decide)]; rfl
                  · rw [am_upS, am_upO (by decide), am_upO (by decide), x1 78 (by decide) (by decide)]; rfl
        exact am_wp_ls (M 0 (by decide) _ _ K S k1 k2 k3 k4 rfl) rfl
  have t0 : preS (ndW W) (2 * nS W) ≤ 320 := by
    have a2 := preS_fsum hk.1 (nS W) (Nat.le_refl _)
    have a3 : am_fsum (fun s => W (8 + 3 * s) + W (8 + 3 * s + 1)) (nS W) = totW W 0 + totW W 1 := allW_eq
    have a4 := totW_le hk.1 (u := 0) (by decide)
    have a5 := totW_le hk.1 (u := 1) (by decide)
    omega
  refine am_wp_ls (L 0 (by decide) none none none J (0, fun _ => 0, o, []) (fun a ha => by rw [i1 a (by omega), j1 a (by omega)]) (pl_fr j2 (i1 48 (by omega)) (i1 49 (by omega))) ⟨fun i hi => ?_, fun p hp => i6 p hp, fun s u h1 h2 h3 h4 => ?_⟩ ⟨Nat.two_pow_pos _, ?_, ?_, fun g hg => absurd hg (by simp)⟩ rfl) rfl
  · rw [i2 i (by omega), Nat.zero_testBit, if_neg (by decide)]
    exact ndW_kit hk0 hi
  · rw [Nat.zero_testBit] at h3; cases h3
  · show 0 = msCt 0 (2 * nS W)
    unfold msCt
    rw [preS_cg (k := fun _ => 0) (fun i hi => by rw [Nat.zero_testBit, if_neg (by decide)])]
    generalize 2 * nS W = n
    induction n with
    | zero => rfl
    | succ n ih => unfold preS; omega
  · show 0 + msRm W 0 (2 * nS W) + (0 - 0) + (0 - 0) ≤ 320
    unfold msRm
    rw [preS_cg (k := ndW W) (fun i hi => by rw [Nat.zero_testBit, if_neg (by decide)])]
    omega
end MAS
