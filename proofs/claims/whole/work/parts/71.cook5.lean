/-! COOKS: the class's run -/
theorem ckMin_f {W : Nat → Int} (hk : wk W) {r : Int} {t : Nat} {S : CK} (h : ckI W t S) (hf : ∀ s, s < nS W → S.2.2.1 s ≤ t) : ∀ s, s < nS W → (ckMin W r t S).2.2.1 s ≤ t + 1 := fun s hs => by
  have J := ckI_J (r := r) hk h
  by_cases hc : ∃ p i : Nat, p < (W 0).toNat ∧ (ckNw W r t S).1 p = (i : Int) ∧ i / 2 = s
  · have : (ckMin W r t S).2.2.1 s = t + 1 := ckR_f2 _ (ckJ_W J) hc
    omega
  · have : (ckMin W r t S).2.2.1 s = S.2.2.1 s := ckR_f1 _ (ckJ_W J) (fun p hp i hi he => hc ⟨p, i, hp, hi, he⟩)
    have := hf s hs
    omega
def ckCl (W : Nat → Int) (K : Nat → Nat → Int) (S : CK) : Prop := (∀ i, i < 2 * nS W → K 74 i = (S.1 i : Int)) ∧ (∀ p, p < (W 0).toNat → K 75 p = S.2.1 p) ∧ (∀ p, p < (W 0).toNat → S.2.1 p ≠ -1 → K 77 p = (S.2.2.2.1 p : Int)) ∧ (∀ s, s < nS W → K 78 s = (S.2.2.1 s : Int)) ∧ K 73 7 = (preS S.1 (2 * nS W) : Int) ∧ pl K 48 S.2.2.2.2
section COOK
variable {m sl : Nat} {sh : Nat → Nat × Nat} {I : Nat → Nat → Int} {R : Nat → Nat → Nat} {Q : am_R → am_M → Prop} {d : Nat} {W N : Nat → Int} {t : Nat} {r : Int} {S : CK} {G : List Go} {H : List (List Go)}
set_option maxHeartbeats 8000000 in
theorem w_fry (hw : wd sh R) (hk : kit I 6 W N) (hI : ckI W t S) (ht : t ≤ 900) (hC : ckCl W I S) (h76 : ∀ p, p < (W 0).toNat → I 76 p = (ckNw W r t S).1 p) (h : ∀ J, (∀ a, ¬ (a = 48 ∨ a = 49 ∨ 73 ≤ a ∧ a ≤ 79) → J a = I a) → ckCl W J (ckMin W r t S) → Q am_yv (m, sl, sh, J, R)) : am_wp (d + 2) 51 0 [some (.inr (.inr (73))), some (.inr (.inr (6))), some (.inl ((t : Int))), some (.inr (.inr (48))), none, none] [] (m, sl, sh, I, R) Q := by
  obtain ⟨o1, o2, o3⟩ := kit_P hk
  obtain ⟨n1, n2⟩ := kit_n hk
  have JJ := ckI_J (r := r) hk.1 hI
  refine am_wp_go rfl (by simp (disch := omega) only [am_addE, am_subE, am_mulE, am_laddE, am_lsubE, am_upO, am_upS, am_stS, am_stO, am_tnn, am_brl, am_brg, am_bre, am_brn, am_brG, am_brL, am_st1, am_no2, am_st2, am_clr, and_self, true_and, and_true, true_or, or_true, List.length_cons, List.length_nil] <;> omega) ?_
  try simp (disch := omega) only [am_addE, am_subE, am_mulE, am_laddE, am_lsubE, am_upO, am_upS, am_stS, am_stO, am_tnn, am_brl, am_brg, am_bre, am_brn, am_brG, am_brL, am_st1, am_no2, am_st2, am_clr]
  have L : ∀ k, k ≤ (W 0).toNat → ∀ (z5 : Option am_V) (K : Nat → Nat → Int), (∀ a, ¬ (a = 48 ∨ a = 49 ∨ 73 ≤ a ∧ a ≤ 79) → K a = I a) → (∀ p, p < (W 0).toNat → K 76 p = (ckNw W r t S).1 p) → (∀ i, i < 2 * nS W → K 74 i = ((ckFr W r t S k).1 i : Int)) → (∀ p, p < (W 0).toNat → K 75 p = if p < k then (ckNw W r t S).1 p else S.2.1 p) → (∀ p, p < k → (ckNw W r t S).1 p ≠ -1 → K 77 p = ((ckFr W r t S k).2.2.1 p : Int)) → (∀ p, k ≤ p → p < (W 0).toNat → S.2.1 p ≠ -1 → K 77 p = ((ckFr W r t S k).2.2.1 p : Int)) → (∀ s, s < nS W → K 78 s = ((ckFr W r t S k).2.1 s : Int)) → K 73 7 = (preS (ckFr W r t S k).1 (2 * nS W) : Int) → pl K 48 (ckFr W r t S k).2.2.2 → am_wp (d + 2) 51 3 [some (.inr (.inr (73))), some (.inr (.inr (6))), some (.inl ((t : Int))), some (.inr (.inr (48))), some (.inl ((k : Int))), z5] [] (m, sl, sh, K, R) Q := by
    refine am_lp (W 0).toNat (fun k hkP ih z5 K k1 k2 k3 k4 k5 k6 k7 k8 k9 => ?_)
    have hkk : kit K 6 W N := kit_fr hk (fun a h1 h2 => k1 a (by omega))
    have e1 := (kit_P hkk).1
    refine am_wp_go rfl (by simp (disch := omega) only [s6 hw, e1, am_addE, am_subE, am_mulE, am_laddE, am_lsubE, am_upO, am_upS, am_stS, am_stO, am_tnn, am_brl, am_brg, am_bre, am_brn, am_brG, am_brL, am_st1, am_no2, am_st2, am_clr, and_self, true_and, and_true, true_or, or_true, List.length_cons, List.length_nil] <;> omega) ?_
    try simp (disch := omega) only [s6 hw, e1, am_addE, am_subE, am_mulE, am_laddE, am_lsubE, am_upO, am_upS, am_stS, am_stO, am_tnn, am_brl, am_brg, am_bre, am_brn, am_brG, am_brL, am_st1, am_no2, am_st2, am_clr]
    refine am_wp_br (fun b9 => ?_) (fun b9 => ?_)
    · have : k = (W 0).toNat := by omega
      subst this
      refine am_wp_ret rfl rfl ?_
      exact h K k1 ⟨k3, fun p hp => by rw [k4 p hp, if_pos hp]; rfl, fun p hp hn => k5 p hp hn, k7, k8, k9⟩
    · have hkP2 : k < (W 0).toNat := by omega
      have KS := ckK_s (r := r) hk.1 hI ht hkP2 (ckK_all hk.1 hI ht k hkP)
      have ih := ih hkP2
      have e75 := k4 k hkP2
      rw [if_neg (Nat.lt_irrefl k)] at e75
      have e76 := k2 k hkP2
      clear h
      rcases JJ.1 k hkP2 with z | ⟨i, i1, i2, i3, i4, i5⟩
      · have e : ckFr W r t S (k + 1) = ckFr W r t S k := ckR_n z
        rw [e] at ih
        rw [z] at e76
        refine am_wp_go rfl (by simp (disch := omega) only [s6 hw, s73 hw, r73_2 hw, s76 hw, r73_1 hw, s75 hw, e76, am_addE, am_subE, am_mulE, am_laddE, am_lsubE, am_upO, am_upS, am_stS, am_stO, am_tnn, am_brl, am_brg, am_bre, am_brn, am_brG, am_brL, am_st1, am_no2, am_st2, am_clr, and_self, true_and, and_true, true_or, or_true, List.length_cons, List.length_nil] <;> omega) ?_
        try simp (disch := omega) only [s6 hw, s73 hw, r73_2 hw, s76 hw, r73_1 hw, s75 hw, e76, am_addE, am_subE, am_mulE, am_laddE, am_lsubE, am_upO, am_upS, am_stS, am_stO, am_tnn, am_brl, am_brg, am_bre, am_brn, am_brG, am_brL, am_st1, am_no2, am_st2, am_clr]
        refine am_wp_br (fun b24 => ?_) (fun b24 => ?_)
        · refine am_wp_go rfl (by simp (disch := omega) only [s6 hw, s73 hw, r73_2 hw, s76 hw, r73_1 hw, s75 hw, e76, am_addE, am_subE, am_mulE, am_laddE, am_lsubE, am_upO, am_upS, am_stS, am_stO, am_tnn, am_brl, am_brg, am_bre, am_brn, am_brG, am_brL, am_st1, am_no2, am_st2, am_clr, and_self, true_and, and_true, true_or, or_true, List.length_cons, List.length_nil] <;> omega) ?_
          try simp (disch := omega) only [s6 hw, s73 hw, r73_2 hw, s76 hw, r73_1 hw, s75 hw, e76, am_addE, am_subE, am_mulE, am_laddE, am_lsubE, am_upO, am_upS, am_stS, am_stO, am_tnn, am_brl, am_brg, am_bre, am_brn, am_brG, am_brL, am_st1, am_no2, am_st2, am_clr]
          refine am_wp_ls (ih _ _ (fun a ha => by rw [am_upO (by omega), k1 a ha]) (fun p hp => by rw [am_upO (by decide)]; exact k2 p hp) (fun i hi => by rw [am_upO (by decide)]; exact k3 i hi) (fun p hp => ?_) (fun p hp hn => ?_) (fun p hp hp2 hn => by rw [am_upO (by decide)]; exact k6 p (by omega) hp2 hn) (fun s hs => by rw [am_upO (by decide)]; exact k7 s hs) (by rw [am_upO (by decide)]; exact k8) (pl_fr k9 (am_upO (by decide)) (am_upO (by decide)))) rfl
          · rw [am_upS]
            by_cases hpk : p = k
            · rw [am_stS hpk, hpk, if_pos (by omega), z]
            · rw [am_stO hpk, k4 p hp]
              by_cases hlt : p < k
              · rw [if_pos hlt, if_pos (by omega)]
              · rw [if_neg hlt, if_neg (by omega)]
          · rw [am_upO (by decide)]
            by_cases hpk : p = k
            · rw [hpk] at hn; exact absurd z hn
            · exact k5 p (by omega) hn
        · exact absurd trivial b24
      · have e : ckFr W r t S (k + 1) = ckR1 k i t (decide (S.2.1 k = (ckNw W r t S).1 k)) (ckFr W r t S k) := ckR_s i2
        obtain ⟨u2, u3, u4, u5, u6, u7⟩ := KS.2 i i2
        rw [e] at ih
        rw [i2] at e76 e ih
        have e74 := k3 i i1
        have q20 : S.1 i ≤ 20 := by have := hI.1 i i1; have := (nd_pos hk.1 i1).2; omega
        have q32 := (ckK_all (r := r) hk.1 hI ht k hkP).2.2.2.1
        have pre := preS_upd (h := am_set (ckFr W r t S k).1 i ((ckFr W r t S k).1 i - 1)) (k := (ckFr W r t S k).1) i1 (fun j hj => am_stO hj)
        rw [am_stS rfl] at pre
        have ei : ((i : Int)) / 2 = ((i / 2 : Nat) : Int) := by omega
        have k20 := k9.2.1
        clear KS
        have A1 : ∀ X : Nat → Nat → Int, (X 75 = K 75) → ∀ p, p < (W 0).toNat → am_set (X 75) k (i : Int) p = if p < k + 1 then (ckNw W r t S).1 p else S.2.1 p := fun X hX p hp => by
          rw [hX]
          by_cases hpk : p = k
          · rw [am_stS hpk, hpk, if_pos (by omega), i2]
          · rw [am_stO hpk, k4 p hp]
            by_cases hlt : p < k
            · rw [if_pos hlt, if_pos (by omega)]
            · rw [if_neg hlt, if_neg (by omega)]
        generalize ckFr W r t S k = T at *
        obtain ⟨Tl, Tf, Tg, TG⟩ := T
        dsimp only at *
        refine am_wp_go rfl (by simp (disch := omega) only [s6 hw, s73 hw, r73_2 hw, s76 hw, r73_1 hw, s75 hw, e76, e75, am_addE, am_subE, am_mulE, am_laddE, am_lsubE, am_upO, am_upS, am_stS, am_stO, am_tnn, am_brl, am_brg, am_bre, am_brn, am_brG, am_brL, am_st1, am_no2, am_st2, am_clr, and_self, true_and, and_true, true_or, or_true, List.length_cons, List.length_nil] <;> omega) ?_
        try simp (disch := omega) only [s6 hw, s73 hw, r73_2 hw, s76 hw, r73_1 hw, s75 hw, e76, e75, am_addE, am_subE, am_mulE, am_laddE, am_lsubE, am_upO, am_upS, am_stS, am_stO, am_tnn, am_brl, am_brg, am_bre, am_brn, am_brG, am_brL, am_st1, am_no2, am_st2, am_clr]
        refine am_wp_br (fun b24 => ?_) (fun b24 => ?_)
        · omega
        · refine am_wp_go rfl (by simp (disch := omega) only [s6 hw, s73 hw, r73_2 hw, s76 hw, r73_1 hw, s75 hw, e76, e75, am_addE, am_subE, am_mulE, am_laddE, am_lsubE, am_upO, am_upS, am_stS, am_stO, am_tnn, am_brl, am_brg, am_bre, am_brn, am_brG, am_brL, am_st1, am_no2, am_st2, am_clr, and_self, true_and, and_true, true_or, or_true, List.length_cons, List.length_nil] <;> omega) ?_
          try simp (disch := omega) only [s6 hw, s73 hw, r73_2 hw, s76 hw, r73_1 hw, s75 hw, e76, e75, am_addE, am_subE, am_mulE, am_laddE, am_lsubE, am_upO, am_upS, am_stS, am_stO, am_tnn, am_brl, am_brg, am_bre, am_brn, am_brG, am_brL, am_st1, am_no2, am_st2, am_clr]
          refine am_wp_br (fun b36 => ?_) (fun b36 => ?_)
          · rw [decide_eq_false b36] at ih
            unfold ckR1 at ih
            simp only [cond_false] at ih
            refine am_wp_go rfl (by simp (disch := omega) only [s6 hw, s73 hw, r73_2 hw, s76 hw, r73_1 hw, s75 hw, e76, e75, am_addE, am_subE, am_mulE, am_laddE, am_lsubE, am_upO, am_upS, am_stS, am_stO, am_tnn, am_brl, am_brg, am_bre, am_brn, am_brG, am_brL, am_st1, am_no2, am_st2, am_clr, and_self, true_and, and_true, true_or, or_true, List.length_cons, List.length_nil] <;> omega) ?_
            try simp (disch := omega) only [s6 hw, s73 hw, r73_2 hw, s76 hw, r73_1 hw, s75 hw, e76, e75, am_addE, am_subE, am_mulE, am_laddE, am_lsubE, am_upO, am_upS, am_stS, am_stO, am_tnn, am_brl, am_brg, am_bre, am_brn, am_brG, am_brL, am_st1, am_no2, am_st2, am_clr]
            refine am_wp_cc rfl rfl rfl (congrArg Prod.fst (s48 hw)) (w_append (g := (((i / 2 : Nat) : Int), ((i % 2 : Nat) : Int), (t : Int), (k : Int), 1)) (pl_w hw (by decide)) k9 u5 u6 (by dsimp only; omega) rfl rfl rfl (fun X x1 x2 => ⟨_, rfl, ?_⟩))
            have y74 : X 74 i = (Tl i : Int) := by rw [x1 74 (by decide) (by decide)]; exact e74
            have y73 : X 73 7 = (preS Tl (2 * nS W) : Int) := by rw [x1 73 (by decide) (by decide)]; exact k8
            refine am_wp_go rfl (by simp (disch := omega) only [s73 hw, r73_3 hw, s77 hw, r73_0 hw, s74 hw, r73_4 hw, s78 hw, r73_1 hw, s75 hw, y74, y73, am_divE, ei, am_addE, am_subE, am_mulE, am_laddE, am_lsubE, am_upO, am_upS, am_stS, am_stO, am_tnn, am_brl, am_brg, am_bre, am_brn, am_brG, am_brL, am_st1, am_no2, am_st2, am_clr, and_self, true_and, and_true, true_or, or_true, List.length_cons, List.length_nil] <;> omega) ?_
            try simp (disch := omega) only [s73 hw, r73_3 hw, s77 hw, r73_0 hw, s74 hw, r73_4 hw, s78 hw, r73_1 hw, s75 hw, y74, y73, am_divE, ei, am_addE, am_subE, am_mulE, am_laddE, am_lsubE, am_upO, am_upS, am_stS, am_stO, am_tnn, am_brl, am_brg, am_bre, am_brn, am_brG, am_brL, am_st1, am_no2, am_st2, am_clr]
            refine am_wp_ls (ih _ _ (fun a ha => ?_) (fun p hp => ?_) (fun j hj => ?_) ?_ (fun p hp hn => ?_) (fun p hp hp2 hn => ?_) (fun s hs => ?_) ?_ (pl_fr x2 ?_ ?_)) rfl
            · rw [am_upO (by omega), am_upO (by omega), am_upO (by omega), am_upO (by omega), am_upO (by omega), x1 a (by omega) (by omega), k1 a ha]
            · rw [am_upO (by decide), am_upO (by decide), am_upO (by decide), am_upO (by decide), am_upO (by decide), x1 76 (by decide) (by decide)]; exact k2 p hp
            · rw [am_upO (by decide), am_upO (by decide), am_upO (by decide), am_upS, am_upO (by decide), x1 74 (by decide) (by decide)]
              by_cases hji : j = i
              · rw [am_stS hji, am_stS hji]; omega
              · rw [am_stO hji, am_stO hji]; exact k3 j hj
            · intro p hp
              rw [am_upS, am_upO (by decide), am_upO (by decide), am_upO (by decide), am_upO (by decide)]
              exact A1 X (x1 75 (by decide) (by decide)) p hp
            · rw [am_upO (by decide), am_upO (by decide), am_upO (by decide), am_upO (by decide), am_upS, x1 77 (by decide) (by decide)]
              by_cases hpk : p = k
              · rw [am_stS hpk, am_stS hpk]
              · rw [am_stO hpk, am_stO hpk]; exact k5 p (by omega) hn
            · rw [am_upO (by decide), am_upO (by decide), am_upO (by decide), am_upO (by decide), am_upS, x1 77 (by decide) (by decide), am_stO (by omega), am_stO (by omega)]
              exact k6 p (by omega) hp2 hn
            · rw [am_upO (by decide), am_upS, am_upO (by decide), am_upO (by decide), am_upO (by decide), x1 78 (by decide) (by decide)]
              by_cases hss : s = i / 2
              · rw [am_stS hss, am_stS hss]; rfl
              · rw [am_stO hss, am_stO hss]; exact k7 s hs
            · rw [am_upO (by decide), am_upO (by decide), am_upS, am_stS rfl]; omega
            · rw [am_upO (by decide), am_upO (by decide), am_upO (by decide), am_upO (by decide), am_upO (by decide)]
            · rw [am_upO (by decide), am_upO (by decide), am_upO (by decide), am_upO (by decide), am_upO (by decide)]
          · have b36 := Classical.not_not.mp b36
            obtain ⟨g1, g2⟩ := u7 b36
            rw [decide_eq_true b36] at ih
            unfold ckR1 at ih
            simp only [cond_true] at ih
            have e77 := k6 k (Nat.le_refl _) hkP2 (by omega)
            refine am_wp_go rfl (by simp (disch := omega) only [s6 hw, s73 hw, r73_3 hw, s77 hw, e77, am_addE, am_subE, am_mulE, am_laddE, am_lsubE, am_upO, am_upS, am_stS, am_stO, am_tnn, am_brl, am_brg, am_bre, am_brn, am_brG, am_brL, am_st1, am_no2, am_st2, am_clr, and_self, true_and, and_true, true_or, or_true, List.length_cons, List.length_nil] <;> omega) ?_
            try simp (disch := omega) only [s6 hw, s73 hw, r73_3 hw, s77 hw, e77, am_addE, am_subE, am_mulE, am_laddE, am_lsubE, am_upO, am_upS, am_stS, am_stO, am_tnn, am_brl, am_brg, am_bre, am_brn, am_brG, am_brL, am_st1, am_no2, am_st2, am_clr]
            refine am_wp_cc rfl rfl rfl (congrArg Prod.fst (s48 hw)) (w_lengthen (k := Tg k) (pl_w hw (by decide)) k9 g1 g2 (fun X x1 x2 => ⟨_, rfl, ?_⟩))
            have y74 : X 74 i = (Tl i : Int) := by rw [x1 74 (by decide) (by decide)]; exact e74
            have y73 : X 73 7 = (preS Tl (2 * nS W) : Int) := by rw [x1 73 (by decide) (by decide)]; exact k8
            refine am_wp_go rfl (by simp (disch := omega) only [s73 hw, r73_3 hw, s77 hw, r73_0 hw, s74 hw, r73_4 hw, s78 hw, r73_1 hw, s75 hw, y74, y73, am_divE, ei, am_addE, am_subE, am_mulE, am_laddE, am_lsubE, am_upO, am_upS, am_stS, am_stO, am_tnn, am_brl, am_brg, am_bre, am_brn, am_brG, am_brL, am_st1, am_no2, am_st2, am_clr, and_self, true_and, and_true, true_or, or_true, List.length_cons, List.length_nil] <;> omega) ?_
            try simp (disch := omega) only [s73 hw, r73_3 hw, s77 hw, r73_0 hw, s74 hw, r73_4 hw, s78 hw, r73_1 hw, s75 hw, y74, y73, am_divE, ei, am_addE, am_subE, am_mulE, am_laddE, am_lsubE, am_upO, am_upS, am_stS, am_stO, am_tnn, am_brl, am_brg, am_bre, am_brn, am_brG, am_brL, am_st1, am_no2, am_st2, am_clr]
            refine am_wp_ls (ih _ _ (fun a ha => ?_) (fun p hp => ?_) (fun j hj => ?_) ?_ (fun p hp hn => ?_) (fun p hp hp2 hn => ?_) (fun s hs => ?_) ?_ (pl_fr x2 ?_ ?_)) rfl
            · rw [am_upO (by omega), am_upO (by omega), am_upO (by omega), am_upO (by omega), x1 a (by omega) (by omega), k1 a ha]
            · rw [am_upO (by decide), am_upO (by decide), am_upO (by decide), am_upO (by decide), x1 76 (by decide) (by decide)]; exact k2 p hp
            · rw [am_upO (by decide), am_upO (by decide), am_upO (by decide), am_upS, x1 74 (by decide) (by decide)]
              by_cases hji : j = i
              · rw [am_stS hji, am_stS hji]; omega
              · rw [am_stO hji, am_stO hji]; exact k3 j hj
            · intro p hp
              rw [am_upS, am_upO (by decide), am_upO (by decide), am_upO (by decide)]
              exact A1 X (x1 75 (by decide) (by decide)) p hp
            · rw [am_upO (by decide), am_upO (by decide), am_upO (by decide), am_upO (by decide), x1 77 (by decide) (by decide)]
              by_cases hpk : p = k
              · rw [hpk]; exact e77
              · exact k5 p (by omega) hn
            · rw [am_upO (by decide), am_upO (by decide), am_upO (by decide), am_upO (by decide), x1 77 (by decide) (by decide)]
              exact k6 p (by omega) hp2 hn
            · rw [am_upO (by decide), am_upS, am_upO (by decide), am_upO (by decide), x1 78 (by decide) (by decide)]
              by_cases hss : s = i / 2
              · rw [am_stS hss, am_stS hss]; rfl
              · rw [am_stO hss, am_stO hss]; exact k7 s hs
            · rw [am_upO (by decide), am_upO (by decide), am_upS, am_stS rfl]; omega
            · rw [am_upO (by decide), am_upO (by decide), am_upO (by decide), am_upO (by decide)]
            · rw [am_upO (by decide), am_upO (by decide), am_upO (by decide), am_upO (by decide)]
  obtain ⟨c1, c2, c3, c4, c5, c6⟩ := hC
  exact am_wp_ls (L 0 (by omega) none I (fun _ _ => rfl) h76 c1 (fun p hp => by rw [if_neg (Nat.not_lt_zero p)]; exact c2 p hp) (fun p hp => absurd hp (Nat.not_lt_zero p)) (fun p _ hp hn => c3 p hp hn) c4 c5 c6) rfl
set_option maxHeartbeats 4000000 in
theorem w_oneCook (hw : wd sh R) (hk : kit I 6 W N) (h : ∀ J, (∀ a, ¬ (a = 48 ∨ a = 49 ∨ 73 ≤ a ∧ a ≤ 79) → J a = I a) → pl J 48 (ckV W r).2 → Q (am_yi ((ckV W r).1 : Nat)) (m, sl, sh, J, R)) : am_wp (d + 3) 42 0 [some (.inr (.inr (73))), some (.inr (.inr (6))), some (.inl (r)), some (.inr (.inr (48))), none] [] (m, sl, sh, I, R) Q := by
  obtain ⟨o1, o2, o3⟩ := kit_P hk
  obtain ⟨n1, n2⟩ := kit_n hk
  refine am_wp_go rfl (by simp (disch := omega) only [am_addE, am_subE, am_mulE, am_laddE, am_lsubE, am_upO, am_upS, am_stS, am_stO, am_tnn, am_brl, am_brg, am_bre, am_brn, am_brG, am_brL, am_st1, am_no2, am_st2, am_clr, and_self, true_and, and_true, true_or, or_true, List.length_cons, List.length_nil] <;> omega) ?_
  try simp (disch := omega) only [am_addE, am_subE, am_mulE, am_laddE, am_lsubE, am_upO, am_upS, am_stS, am_stO, am_tnn, am_brl, am_brg, am_bre, am_brn, am_brG, am_brL, am_st1, am_no2, am_st2, am_clr]
  refine am_wp_cc rfl rfl rfl (congrArg Prod.fst (s48 hw)) (w_plclear (pl_w hw (by decide)) (fun J0 j1 j2 => ⟨_, rfl, ?_⟩))
  have hk0 : kit J0 6 W N := kit_fr hk (fun a h1 h2 => j1 a (by omega))
  refine am_wp_go rfl (by simp (disch := omega) only [am_addE, am_subE, am_mulE, am_laddE, am_lsubE, am_upO, am_upS, am_stS, am_stO, am_tnn, am_brl, am_brg, am_bre, am_brn, am_brG, am_brL, am_st1, am_no2, am_st2, am_clr, and_self, true_and, and_true, true_or, or_true, List.length_cons, List.length_nil] <;> omega) ?_
  try simp (disch := omega) only [am_addE, am_subE, am_mulE, am_laddE, am_lsubE, am_upO, am_upS, am_stS, am_stO, am_tnn, am_brl, am_brg, am_bre, am_brn, am_brG, am_brL, am_st1, am_no2, am_st2, am_clr]
  refine am_wp_cc rfl rfl rfl (congrArg Prod.fst (s73 hw)) (w_mbegin hw hk0 (fun J i1 i2 i3 i4 i5 i6 i7 => ⟨_, rfl, ?_⟩))
  refine am_wp_go rfl (by simp (disch := omega) only [am_addE, am_subE, am_mulE, am_laddE, am_lsubE, am_upO, am_upS, am_stS, am_stO, am_tnn, am_brl, am_brg, am_bre, am_brn, am_brG, am_brL, am_st1, am_no2, am_st2, am_clr, and_self, true_and, and_true, true_or, or_true, List.length_cons, List.length_nil] <;> omega) ?_
  have L : ∀ t, t ≤ 1000 → ∀ (K : Nat → Nat → Int) (S : CK), (∀ a, ¬ (a = 48 ∨ a = 49 ∨ 73 ≤ a ∧ a ≤ 79) → K a = I a) → ckCl W K S → ckI W t S → (∀ s, s < nS W → S.2.2.1 s ≤ t) → ckRun W r (1000 - t) t S = ckV W r → am_wp (d + 3) 42 12 [some (.inr (.inr (73))), some (.inr (.inr (6))), some (.inl (r)), some (.inr (.inr (48))), some (.inl ((t : Int)))] [] (m, sl, sh, K, R) Q := by
    refine am_lp 1000 (fun t ht ih K S k1 k2 k3 k4 k5 => ?_)
    have hkk : kit K 6 W N := kit_fr hk (fun a h1 h2 => k1 a (by omega))
    obtain ⟨c1, c2, c3, c4, c5, c6⟩ := id k2
    have k8 := k3.2.2.2.2.2.2.2
    refine am_wp_go rfl (by simp (disch := omega) only [s73 hw, c5, am_addE, am_subE, am_mulE, am_laddE, am_lsubE, am_upO, am_upS, am_stS, am_stO, am_tnn, am_brl, am_brg, am_bre, am_brn, am_brG, am_brL, am_st1, am_no2, am_st2, am_clr, and_self, true_and, and_true, true_or, or_true, List.length_cons, List.length_nil] <;> omega) ?_
    try simp (disch := omega) only [s73 hw, c5, am_addE, am_subE, am_mulE, am_laddE, am_lsubE, am_upO, am_upS, am_stS, am_stO, am_tnn, am_brl, am_brg, am_bre, am_brn, am_brG, am_brL, am_st1, am_no2, am_st2, am_clr]
    refine am_wp_br (fun b16 => ?_) (fun b16 => ?_)
    · rw [show 1000 - t = (999 - t) + 1 by omega] at k5
      unfold ckRun at k5
      rw [if_pos (by omega)] at k5
      refine am_wp_go rfl (by simp (disch := omega) only [s73 hw, c5, am_addE, am_subE, am_mulE, am_laddE, am_lsubE, am_upO, am_upS, am_stS, am_stO, am_tnn, am_brl, am_brg, am_bre, am_brn, am_brG, am_brL, am_st1, am_no2, am_st2, am_clr, and_self, true_and, and_true, true_or, or_true, List.length_cons, List.length_nil] <;> omega) ?_
      try simp (disch := omega) only [s73 hw, c5, am_addE, am_subE, am_mulE, am_laddE, am_lsubE, am_upO, am_upS, am_stS, am_stO, am_tnn, am_brl, am_brg, am_bre, am_brn, am_brG, am_brL, am_st1, am_no2, am_st2, am_clr]
      refine am_wp_ret rfl rfl ?_
      rw [← k5] at h
      exact h K k1 c6
    · refine am_wp_go rfl (by simp (disch := omega) only [s73 hw, c5, am_addE, am_subE, am_mulE, am_laddE, am_lsubE, am_upO, am_upS, am_stS, am_stO, am_tnn, am_brl, am_brg, am_bre, am_brn, am_brG, am_brL, am_st1, am_no2, am_st2, am_clr, and_self, true_and, and_true, true_or, or_true, List.length_cons, List.length_nil] <;> omega) ?_
      try simp (disch := omega) only [s73 hw, c5, am_addE, am_subE, am_mulE, am_laddE, am_lsubE, am_upO, am_upS, am_stS, am_stO, am_tnn, am_brl, am_brg, am_bre, am_brn, am_brG, am_brL, am_st1, am_no2, am_st2, am_clr]
      refine am_wp_br (fun b24 => ?_) (fun b24 => ?_)
      · omega
      · rw [show 1000 - t = (1000 - (t + 1)) + 1 by omega] at k5
        unfold ckRun at k5
        rw [if_neg (by omega)] at k5
        have ih := ih (by omega)
        have J2 := ck0_J hk.1 k3.2.1 k3.2.2.1 k3.2.2.2.1
        have l20 : ∀ i, i < 2 * nS W → S.1 i ≤ 20 := fun i hi => by have := k3.1 i hi; have := (nd_pos hk.1 hi).2; omega
        clear h
        refine am_wp_go rfl (by simp (disch := omega) only [s73 hw, c5, am_addE, am_subE, am_mulE, am_laddE, am_lsubE, am_upO, am_upS, am_stS, am_stO, am_tnn, am_brl, am_brg, am_bre, am_brn, am_brG, am_brL, am_st1, am_no2, am_st2, am_clr, and_self, true_and, and_true, true_or, or_true, List.length_cons, List.length_nil] <;> omega) ?_
        try simp (disch := omega) only [s73 hw, c5, am_addE, am_subE, am_mulE, am_laddE, am_lsubE, am_upO, am_upS, am_stS, am_stO, am_tnn, am_brl, am_brg, am_bre, am_brn, am_brG, am_brL, am_st1, am_no2, am_st2, am_clr]
        refine am_wp_cc rfl rfl rfl (congrArg Prod.fst (s73 hw)) (w_letStay (l := S.1) (b := S.2.1) hw hkk c1 c2 (fun p hp => (k3.2.2.1 p hp).imp id (fun ⟨i, a, b, _⟩ => ⟨i, a, b⟩)) (fun V v1 v2 v3 v4 => ⟨_, rfl, ?_⟩))
        have hkv : kit V 6 W N := kit_fr hkk (fun a h1 h2 => v1 a (by omega) (by omega))
        refine am_wp_go rfl (by simp (disch := omega) only [s73 hw, c5, am_addE, am_subE, am_mulE, am_laddE, am_lsubE, am_upO, am_upS, am_stS, am_stO, am_tnn, am_brl, am_brg, am_bre, am_brn, am_brG, am_brL, am_st1, am_no2, am_st2, am_clr, and_self, true_and, and_true, true_or, or_true, List.length_cons, List.length_nil] <;> omega) ?_
        try simp (disch := omega) only [s73 hw, c5, am_addE, am_subE, am_mulE, am_laddE, am_lsubE, am_upO, am_upS, am_stS, am_stO, am_tnn, am_brl, am_brg, am_bre, am_brn, am_brG, am_brL, am_st1, am_no2, am_st2, am_clr]
        refine am_wp_cc rfl rfl rfl (congrArg Prod.fst (s73 hw)) (w_putOnFree (r := r) (l := S.1) (f := S.2.2.1) (b := S.2.1) (t := t) (S := ck0 W S.1 S.2.1) hw hkv (by rw [v1 74 (by decide) (by decide)]; exact c1) l20 k3.2.1 (by rw [v1 75 (by decide) (by decide)]; exact c2) (by rw [v1 78 (by decide) (by decide)]; exact c4) (fun s hs => by have := k4 s hs; omega) J2 v4 v3 (fun X x1 x2 x3 x4 => ⟨_, rfl, ?_⟩))
        have hkx : kit X 6 W N := kit_fr hkv (fun a h1 h2 => x1 a (by omega) (by omega))
        have cx : ckCl W X S := by
          refine ⟨?_, ?_, ?_, ?_, ?_, pl_fr c6 ?_ ?_⟩
          · rw [x1 74 (by decide) (by decide), v1 74 (by decide) (by decide)]; exact c1
          · rw [x1 75 (by decide) (by decide), v1 75 (by decide) (by decide)]; exact c2
          · rw [x1 77 (by decide) (by decide), v1 77 (by decide) (by decide)]; exact c3
          · rw [x1 78 (by decide) (by decide), v1 78 (by decide) (by decide)]; exact c4
          · rw [x2 7 (by decide), v2 7 (by decide)]; exact c5
          · rw [x1 48 (by decide) (by decide), v1 48 (by decide) (by decide)]
          · rw [x1 49 (by decide) (by decide), v1 49 (by decide) (by decide)]
        refine am_wp_go rfl (by simp (disch := omega) only [s73 hw, c5, am_addE, am_subE, am_mulE, am_laddE, am_lsubE, am_upO, am_upS, am_stS, am_stO, am_tnn, am_brl, am_brg, am_bre, am_brn, am_brG, am_brL, am_st1, am_no2, am_st2, am_clr, and_self, true_and, and_true, true_or, or_true, List.length_cons, List.length_nil] <;> omega) ?_
        try simp (disch := omega) only [s73 hw, c5, am_addE, am_subE, am_mulE, am_laddE, am_lsubE, am_upO, am_upS, am_stS, am_stO, am_tnn, am_brl, am_brg, am_bre, am_brn, am_brG, am_brL, am_st1, am_no2, am_st2, am_clr]
        refine am_wp_cc rfl rfl rfl (congrArg Prod.fst (s73 hw)) (w_fry (r := r) (S := S) hw hkx k3 (by omega) cx x4 (fun Y y1 y2 => ⟨_, rfl, ?_⟩))
        refine am_wp_go rfl (by simp (disch := omega) only [s73 hw, c5, am_addE, am_subE, am_mulE, am_laddE, am_lsubE, am_upO, am_upS, am_stS, am_stO, am_tnn, am_brl, am_brg, am_bre, am_brn, am_brG, am_brL, am_st1, am_no2, am_st2, am_clr, and_self, true_and, and_true, true_or, or_true, List.length_cons, List.length_nil] <;> omega) ?_
        try simp (disch := omega) only [s73 hw, c5, am_addE, am_subE, am_mulE, am_laddE, am_lsubE, am_upO, am_upS, am_stS, am_stO, am_tnn, am_brl, am_brg, am_bre, am_brn, am_brG, am_brL, am_st1, am_no2, am_st2, am_clr]
        exact am_wp_ls (ih Y _ (fun a ha => by rw [y1 a ha, x1 a (by omega) (by omega), v1 a (by omega) (by omega), k1 a ha]) y2 (ck_min hk.1 k3 (by omega)) (ckMin_f hk.1 k3 k4) k5) rfl
  refine am_wp_ls (L 0 (by decide) J (ckS0 W) (fun a ha => by rw [i1 a (by omega), j1 a (by omega)]) ⟨fun i hi => ?_, fun p hp => i3 p (by omega), fun p hp hn => absurd rfl hn, fun s hs => i5 s (by omega), ?_, pl_fr j2 (i1 48 (by omega)) (i1 49 (by omega))⟩ (ckI_0 hk.1) (fun s hs => Nat.le_refl _) rfl) rfl
  · rw [i2 i (by omega)]; exact ndW_kit hk0 hi
  · rw [i7]; exact (nd_tot hk.1).symm
theorem c_cook (hw : wd sh R) (hk : kit I 6 W N) (hp : pl I 14 G) (hh : hsC I H) (h0 : ¬ (0 < nS W ∧ 0 ≤ r ∧ r ≤ 2) → Q (am_yi (-1)) (m, sl, sh, I, R)) (h1 : 0 < nS W ∧ 0 ≤ r ∧ r ≤ 2 → ∀ J, cqp I J → pl J 14 (ckV W r).2 → hsC J (hpush H G) → Q (am_yi ((ckV W r).1 : Nat)) (m, sl, sh, J, R)) : am_wp (d + 4) 162 0 [some (.inr (.inr (4))), some (.inl (r)), none] [] (m, sl, sh, I, R) Q := by
  obtain ⟨n1, n2⟩ := kit_n hk
  refine am_wp_go rfl (by simp (disch := omega) only [s4 hw, r4_0 hw, s5 hw, r5_0 hw, s6 hw, r4_9 hw, r4_4 hw, n1, am_addE, am_subE, am_mulE, am_laddE, am_lsubE, am_upO, am_upS, am_stS, am_stO, am_tnn, am_brl, am_brg, am_bre, am_brn, am_brG, am_brL, am_st1, am_no2, am_st2, am_clr, and_self, true_and, and_true, true_or, or_true, List.length_cons, List.length_nil] <;> omega) ?_
  try simp (disch := omega) only [s4 hw, r4_0 hw, s5 hw, r5_0 hw, s6 hw, r4_9 hw, r4_4 hw, n1, am_addE, am_subE, am_mulE, am_laddE, am_lsubE, am_upO, am_upS, am_stS, am_stO, am_tnn, am_brl, am_brg, am_bre, am_brn, am_brG, am_brL, am_st1, am_no2, am_st2, am_clr]
  refine am_wp_br (fun b10 => ?_) (fun b10 => ?_)
  · refine am_wp_go rfl (by simp (disch := omega) only [s4 hw, r4_0 hw, s5 hw, r5_0 hw, s6 hw, r4_9 hw, r4_4 hw, n1, am_addE, am_subE, am_mulE, am_laddE, am_lsubE, am_upO, am_upS, am_stS, am_stO, am_tnn, am_brl, am_brg, am_bre, am_brn, am_brG, am_brL, am_st1, am_no2, am_st2, am_clr, and_self, true_and, and_true, true_or, or_true, List.length_cons, List.length_nil] <;> omega) ?_
    try simp (disch := omega) only [s4 hw, r4_0 hw, s5 hw, r5_0 hw, s6 hw, r4_9 hw, r4_4 hw, n1, am_addE, am_subE, am_mulE, am_laddE, am_lsubE, am_upO, am_upS, am_stS, am_stO, am_tnn, am_brl, am_brg, am_bre, am_brn, am_brG, am_brL, am_st1, am_no2, am_st2, am_clr]
    refine am_wp_ret rfl rfl ?_
    exact h0 (by omega)
  · refine am_wp_go rfl (by simp (disch := omega) only [s4 hw, r4_0 hw, s5 hw, r5_0 hw, s6 hw, r4_9 hw, r4_4 hw, n1, am_addE, am_subE, am_mulE, am_laddE, am_lsubE, am_upO, am_upS, am_stS, am_stO, am_tnn, am_brl, am_brg, am_bre, am_brn, am_brG, am_brL, am_st1, am_no2, am_st2, am_clr, and_self, true_and, and_true, true_or, or_true, List.length_cons, List.length_nil] <;> omega) ?_
    try simp (disch := omega) only [s4 hw, r4_0 hw, s5 hw, r5_0 hw, s6 hw, r4_9 hw, r4_4 hw, n1, am_addE, am_subE, am_mulE, am_laddE, am_lsubE, am_upO, am_upS, am_stS, am_stO, am_tnn, am_brl, am_brg, am_bre, am_brn, am_brG, am_brL, am_st1, am_no2, am_st2, am_clr]
    refine am_wp_br (fun b14 => ?_) (fun b14 => ?_)
    · refine am_wp_go rfl (by simp (disch := omega) only [s4 hw, r4_0 hw, s5 hw, r5_0 hw, s6 hw, r4_9 hw, r4_4 hw, n1, am_addE, am_subE, am_mulE, am_laddE, am_lsubE, am_upO, am_upS, am_stS, am_stO, am_tnn, am_brl, am_brg, am_bre, am_brn, am_brG, am_brL, am_st1, am_no2, am_st2, am_clr, and_self, true_and, and_true, true_or, or_true, List.length_cons, List.length_nil] <;> omega) ?_
      try simp (disch := omega) only [s4 hw, r4_0 hw, s5 hw, r5_0 hw, s6 hw, r4_9 hw, r4_4 hw, n1, am_addE, am_subE, am_mulE, am_laddE, am_lsubE, am_upO, am_upS, am_stS, am_stO, am_tnn, am_brl, am_brg, am_bre, am_brn, am_brG, am_brL, am_st1, am_no2, am_st2, am_clr]
      refine am_wp_ret rfl rfl ?_
      exact h0 (by omega)
    · refine am_wp_go rfl (by simp (disch := omega) only [s4 hw, r4_0 hw, s5 hw, r5_0 hw, s6 hw, r4_9 hw, r4_4 hw, n1, am_addE, am_subE, am_mulE, am_laddE, am_lsubE, am_upO, am_upS, am_stS, am_stO, am_tnn, am_brl, am_brg, am_bre, am_brn, am_brG, am_brL, am_st1, am_no2, am_st2, am_clr, and_self, true_and, and_true, true_or, or_true, List.length_cons, List.length_nil] <;> omega) ?_
      try simp (disch := omega) only [s4 hw, r4_0 hw, s5 hw, r5_0 hw, s6 hw, r4_9 hw, r4_4 hw, n1, am_addE, am_subE, am_mulE, am_laddE, am_lsubE, am_upO, am_upS, am_stS, am_stO, am_tnn, am_brl, am_brg, am_bre, am_brn, am_brG, am_brL, am_st1, am_no2, am_st2, am_clr]
      refine am_wp_br (fun b19 => ?_) (fun b19 => ?_)
      · have h := h1 (by omega)
        clear h0 h1
        refine am_wp_go rfl (by simp (disch := omega) only [s4 hw, r4_0 hw, s5 hw, r5_0 hw, s6 hw, r4_9 hw, r4_4 hw, n1, am_addE, am_subE, am_mulE, am_laddE, am_lsubE, am_upO, am_upS, am_stS, am_stO, am_tnn, am_brl, am_brg, am_bre, am_brn, am_brG, am_brL, am_st1, am_no2, am_st2, am_clr, and_self, true_and, and_true, true_or, or_true, List.length_cons, List.length_nil] <;> omega) ?_
        try simp (disch := omega) only [s4 hw, r4_0 hw, s5 hw, r5_0 hw, s6 hw, r4_9 hw, r4_4 hw, n1, am_addE, am_subE, am_mulE, am_laddE, am_lsubE, am_upO, am_upS, am_stS, am_stO, am_tnn, am_brl, am_brg, am_bre, am_brn, am_brG, am_brL, am_st1, am_no2, am_st2, am_clr]
        refine am_wp_cc rfl rfl rfl (congrArg Prod.fst (s73 hw)) (w_oneCook (r := r) hw hk (fun J j1 j2 => ⟨_, rfl, ?_⟩))
        refine am_wp_go rfl (by simp (disch := omega) only [s4 hw, r4_0 hw, s5 hw, r5_0 hw, s6 hw, r4_9 hw, r4_4 hw, n1, am_addE, am_subE, am_mulE, am_laddE, am_lsubE, am_upO, am_upS, am_stS, am_stO, am_tnn, am_brl, am_brg, am_bre, am_brn, am_brG, am_brL, am_st1, am_no2, am_st2, am_clr, and_self, true_and, and_true, true_or, or_true, List.length_cons, List.length_nil] <;> omega) ?_
        try simp (disch := omega) only [s4 hw, r4_0 hw, s5 hw, r5_0 hw, s6 hw, r4_9 hw, r4_4 hw, n1, am_addE, am_subE, am_mulE, am_laddE, am_lsubE, am_upO, am_upS, am_stS, am_stO, am_tnn, am_brl, am_brg, am_bre, am_brn, am_brG, am_brL, am_st1, am_no2, am_st2, am_clr]
        refine am_wp_cc rfl rfl rfl (congrArg Prod.fst (s4 hw)) (w_adopt hw (pl_fr hp (j1 14 (by omega)) (j1 15 (by omega))) j2 (hsC_fr hh (fun a ha => j1 a (by omega))) (fun K k1 k2 k3 => ⟨_, rfl, ?_⟩))
        refine am_wp_go rfl (by simp (disch := omega) only [s4 hw, r4_0 hw, s5 hw, r5_0 hw, s6 hw, r4_9 hw, r4_4 hw, n1, am_addE, am_subE, am_mulE, am_laddE, am_lsubE, am_upO, am_upS, am_stS, am_stO, am_tnn, am_brl, am_brg, am_bre, am_brn, am_brG, am_brL, am_st1, am_no2, am_st2, am_clr, and_self, true_and, and_true, true_or, or_true, List.length_cons, List.length_nil] <;> omega) ?_
        try simp (disch := omega) only [s4 hw, r4_0 hw, s5 hw, r5_0 hw, s6 hw, r4_9 hw, r4_4 hw, n1, am_addE, am_subE, am_mulE, am_laddE, am_lsubE, am_upO, am_upS, am_stS, am_stO, am_tnn, am_brl, am_brg, am_bre, am_brn, am_brG, am_brL, am_st1, am_no2, am_st2, am_clr]
        refine am_wp_ret rfl rfl ?_
        exact h K (cqp_of (fun a ha => by rw [k1 a (by omega), j1 a (by omega)])) k2 k3
      · refine am_wp_go rfl (by simp (disch := omega) only [s4 hw, r4_0 hw, s5 hw, r5_0 hw, s6 hw, r4_9 hw, r4_4 hw, n1, am_addE, am_subE, am_mulE, am_laddE, am_lsubE, am_upO, am_upS, am_stS, am_stO, am_tnn, am_brl, am_brg, am_bre, am_brn, am_brG, am_brL, am_st1, am_no2, am_st2, am_clr, and_self, true_and, and_true, true_or, or_true, List.length_cons, List.length_nil] <;> omega) ?_
        try simp (disch := omega) only [s4 hw, r4_0 hw, s5 hw, r5_0 hw, s6 hw, r4_9 hw, r4_4 hw, n1, am_addE, am_subE, am_mulE, am_laddE, am_lsubE, am_upO, am_upS, am_stS, am_stO, am_tnn, am_brl, am_brg, am_bre, am_brn, am_brG, am_brL, am_st1, am_no2, am_st2, am_clr]
        refine am_wp_ret rfl rfl ?_
        exact h0 (by omega)
/-- the COOK by whom all are DONE first -/
def ckBest (W : Nat → Int) : Int := if (ckV W 2).1 < (if (ckV W 1).1 < (ckV W 0).1 then (ckV W 1).1 else (ckV W 0).1) then 2 else if (ckV W 1).1 < (ckV W 0).1 then 1 else 0
def ckLe (W : Nat → Int) : Nat → Nat × Int
  | 0 => ((ckV W 0).1, 0)
  | k + 1 => if (ckV W ((k : Int) + 1)).1 < (ckLe W k).1 then ((ckV W ((k : Int) + 1)).1, (k : Int) + 1) else ckLe W k
theorem c_best (hw : wd sh R) (hk : kit I 6 W N) (h0 : nS W = 0 → Q (am_yi (-1)) (m, sl, sh, I, R)) (h1 : 0 < nS W → ∀ J, cq I J → Q (am_yi (ckLe W 2).2) (m, sl, sh, J, R)) : am_wp (d + 4) 163 0 [some (.inr (.inr (4))), none, none, none, none] [] (m, sl, sh, I, R) Q := by
  obtain ⟨n1, n2⟩ := kit_n hk
  refine am_wp_go rfl (by simp (disch := omega) only [s4 hw, r4_0 hw, s5 hw, r5_0 hw, s6 hw, r4_9 hw, r4_4 hw, n1, am_addE, am_subE, am_mulE, am_laddE, am_lsubE, am_upO, am_upS, am_stS, am_stO, am_tnn, am_brl, am_brg, am_bre, am_brn, am_brG, am_brL, am_st1, am_no2, am_st2, am_clr, and_self, true_and, and_true, true_or, or_true, List.length_cons, List.length_nil] <;> omega) ?_
  try simp (disch := omega) only [s4 hw, r4_0 hw, s5 hw, r5_0 hw, s6 hw, r4_9 hw, r4_4 hw, n1, am_addE, am_subE, am_mulE, am_laddE, am_lsubE, am_upO, am_upS, am_stS, am_stO, am_tnn, am_brl, am_brg, am_bre, am_brn, am_brG, am_brL, am_st1, am_no2, am_st2, am_clr]
  refine am_wp_br (fun b10 => ?_) (fun b10 => ?_)
  · have h := h1 (by omega)
    clear h0 h1
    refine am_wp_go rfl (by simp (disch := omega) only [s4 hw, r4_0 hw, s5 hw, r5_0 hw, s6 hw, r4_9 hw, r4_4 hw, n1, am_addE, am_subE, am_mulE, am_laddE, am_lsubE, am_upO, am_upS, am_stS, am_stO, am_tnn, am_brl, am_brg, am_bre, am_brn, am_brG, am_brL, am_st1, am_no2, am_st2, am_clr, and_self, true_and, and_true, true_or, or_true, List.length_cons, List.length_nil] <;> omega) ?_
    try simp (disch := omega) only [s4 hw, r4_0 hw, s5 hw, r5_0 hw, s6 hw, r4_9 hw, r4_4 hw, n1, am_addE, am_subE, am_mulE, am_laddE, am_lsubE, am_upO, am_upS, am_stS, am_stO, am_tnn, am_brl, am_brg, am_bre, am_brn, am_brG, am_brL, am_st1, am_no2, am_st2, am_clr]
    refine am_wp_cc rfl rfl rfl (congrArg Prod.fst (s73 hw)) (w_oneCook (r := 0) hw hk (fun J j1 j2 => ⟨_, rfl, ?_⟩))
    refine am_wp_go rfl (by simp (disch := omega) only [s4 hw, r4_0 hw, s5 hw, r5_0 hw, s6 hw, r4_9 hw, r4_4 hw, n1, am_addE, am_subE, am_mulE, am_laddE, am_lsubE, am_upO, am_upS, am_stS, am_stO, am_tnn, am_brl, am_brg, am_bre, am_brn, am_brG, am_brL, am_st1, am_no2, am_st2, am_clr, and_self, true_and, and_true, true_or, or_true, List.length_cons, List.length_nil] <;> omega) ?_
    have L : ∀ k, k ≤ 2 → ∀ (z4 : Option am_V) (K : Nat → Nat → Int), (∀ a, ¬ (a = 48 ∨ a = 49 ∨ 73 ≤ a ∧ a ≤ 79) → K a = I a) → am_wp (d + 4) 163 39 [some (.inr (.inr (4))), some (.inl ((ckLe W k).2)), some (.inl (((ckLe W k).1 : Int))), some (.inl (((k + 1 : Nat) : Int))), z4] [] (m, sl, sh, K, R) Q := by
      refine am_lp 2 (fun k hk2 ih z4 K k1 => ?_)
      have hkk : kit K 6 W N := kit_fr hk (fun a h1 h2 => k1 a (by omega))
      refine am_wp_go rfl (by simp (disch := omega) only [s4 hw, r4_0 hw, s5 hw, r5_0 hw, s6 hw, r4_9 hw, r4_4 hw, am_addE, am_subE, am_mulE, am_laddE, am_lsubE, am_upO, am_upS, am_stS, am_stO, am_tnn, am_brl, am_brg, am_bre, am_brn, am_brG, am_brL, am_st1, am_no2, am_st2, am_clr, and_self, true_and, and_true, true_or, or_true, List.length_cons, List.length_nil] <;> omega) ?_
      try simp (disch := omega) only [s4 hw, r4_0 hw, s5 hw, r5_0 hw, s6 hw, r4_9 hw, r4_4 hw, am_addE, am_subE, am_mulE, am_laddE, am_lsubE, am_upO, am_upS, am_stS, am_stO, am_tnn, am_brl, am_brg, am_bre, am_brn, am_brG, am_brL, am_st1, am_no2, am_st2, am_clr]
      refine am_wp_br (fun b41 => ?_) (fun b41 => ?_)
      · have : k = 2 := by omega
        subst this
        refine am_wp_go rfl (by simp (disch := omega) only [s4 hw, r4_0 hw, s5 hw, r5_0 hw, s6 hw, r4_9 hw, r4_4 hw, am_addE, am_subE, am_mulE, am_laddE, am_lsubE, am_upO, am_upS, am_stS, am_stO, am_tnn, am_brl, am_brg, am_bre, am_brn, am_brG, am_brL, am_st1, am_no2, am_st2, am_clr, and_self, true_and, and_true, true_or, or_true, List.length_cons, List.length_nil] <;> omega) ?_
        try simp (disch := omega) only [s4 hw, r4_0 hw, s5 hw, r5_0 hw, s6 hw, r4_9 hw, r4_4 hw, am_addE, am_subE, am_mulE, am_laddE, am_lsubE, am_upO, am_upS, am_stS, am_stO, am_tnn, am_brl, am_brg, am_bre, am_brn, am_brG, am_brL, am_st1, am_no2, am_st2, am_clr]
        refine am_wp_ret rfl rfl ?_
        exact h K (cq_of (fun a ha => k1 a (by omega)))
      · have ih := ih (by omega)
        unfold ckLe at ih
        refine am_wp_go rfl (by simp (disch := omega) only [s4 hw, r4_0 hw, s5 hw, r5_0 hw, s6 hw, r4_9 hw, r4_4 hw, am_addE, am_subE, am_mulE, am_laddE, am_lsubE, am_upO, am_upS, am_stS, am_stO, am_tnn, am_brl, am_brg, am_bre, am_brn, am_brG, am_brL, am_st1, am_no2, am_st2, am_clr, and_self, true_and, and_true, true_or, or_true, List.length_cons, List.length_nil] <;> omega) ?_
        try simp (disch := omega) only [s4 hw, r4_0 hw, s5 hw, r5_0 hw, s6 hw, r4_9 hw, r4_4 hw, am_addE, am_subE, am_mulE, am_laddE, am_lsubE, am_upO, am_upS, am_stS, am_stO, am_tnn, am_brl, am_brg, am_bre, am_brn, am_brG, am_brL, am_st1, am_no2, am_st2, am_clr]
        refine am_wp_cc rfl rfl rfl (congrArg Prod.fst (s73 hw)) (w_oneCook (r := ((k + 1 : Nat) : Int)) hw hkk (fun X x1 x2 => ⟨_, rfl, ?_⟩))
        rw [show ((k + 1 : Nat) : Int) = (k : Int) + 1 by omega]
        refine am_wp_go rfl (by simp (disch := omega) only [s4 hw, r4_0 hw, s5 hw, r5_0 hw, s6 hw, r4_9 hw, r4_4 hw, am_addE, am_subE, am_mulE, am_laddE, am_lsubE, am_upO, am_upS, am_stS, am_stO, am_tnn, am_brl, am_brg, am_bre, am_brn, am_brG, am_brL, am_st1, am_no2, am_st2, am_clr, and_self, true_and, and_true, true_or, or_true, List.length_cons, List.length_nil] <;> omega) ?_
        try simp (disch := omega) only [s4 hw, r4_0 hw, s5 hw, r5_0 hw, s6 hw, r4_9 hw, r4_4 hw, am_addE, am_subE, am_mulE, am_laddE, am_lsubE, am_upO, am_upS, am_stS, am_stO, am_tnn, am_brl, am_brg, am_bre, am_brn, am_brG, am_brL, am_st1, am_no2, am_st2, am_clr]
        refine am_wp_br (fun b68 => ?_) (fun b68 => ?_)
        · rw [if_neg (by omega)] at ih
          refine am_wp_go rfl (by simp (disch := omega) only [s4 hw, r4_0 hw, s5 hw, r5_0 hw, s6 hw, r4_9 hw, r4_4 hw, am_addE, am_subE, am_mulE, am_laddE, am_lsubE, am_upO, am_upS, am_stS, am_stO, am_tnn, am_brl, am_brg, am_bre, am_brn, am_brG, am_brL, am_st1, am_no2, am_st2, am_clr, and_self, true_and, and_true, true_or, or_true, List.length_cons, List.length_nil] <;> omega) ?_
          try simp (disch := omega) only [s4 hw, r4_0 hw, s5 hw, r5_0 hw, s6 hw, r4_9 hw, r4_4 hw, am_addE, am_subE, am_mulE, am_laddE, am_lsubE, am_upO, am_upS, am_stS, am_stO, am_tnn, am_brl, am_brg, am_bre, am_brn, am_brG, am_brL, am_st1, am_no2, am_st2, am_clr]
          refine am_wp_ls (ih (some (.inl ((ckV W ((k : Int) + 1)).1 : Int))) X (fun a ha => by rw [x1 a ha, k1 a ha])) ?_
          simp only [List.cons.injEq, Option.some.injEq, Sum.inl.injEq, and_true, true_and]
          omega
        · rw [if_pos (by omega)] at ih
          refine am_wp_go rfl (by simp (disch := omega) only [s4 hw, r4_0 hw, s5 hw, r5_0 hw, s6 hw, r4_9 hw, r4_4 hw, am_addE, am_subE, am_mulE, am_laddE, am_lsubE, am_upO, am_upS, am_stS, am_stO, am_tnn, am_brl, am_brg, am_bre, am_brn, am_brG, am_brL, am_st1, am_no2, am_st2, am_clr, and_self, true_and, and_true, true_or, or_true, List.length_cons, List.length_nil] <;> omega) ?_
          try simp (disch := omega) only [s4 hw, r4_0 hw, s5 hw, r5_0 hw, s6 hw, r4_9 hw, r4_4 hw, am_addE, am_subE, am_mulE, am_laddE, am_lsubE, am_upO, am_upS, am_stS, am_stO, am_tnn, am_brl, am_brg, am_bre, am_brn, am_brG, am_brL, am_st1, am_no2, am_st2, am_clr]
          refine am_wp_ls (ih (some (.inl ((ckV W ((k : Int) + 1)).1 : Int))) X (fun a ha => by rw [x1 a ha, k1 a ha])) ?_
          simp only [List.cons.injEq, Option.some.injEq, Sum.inl.injEq, and_true, true_and]
          omega
    exact am_wp_ls (L 0 (by omega) none J j1) rfl
  · refine am_wp_go rfl (by simp (disch := omega) only [s4 hw, r4_0 hw, s5 hw, r5_0 hw, s6 hw, r4_9 hw, r4_4 hw, n1, am_addE, am_subE, am_mulE, am_laddE, am_lsubE, am_upO, am_upS, am_stS, am_stO, am_tnn, am_brl, am_brg, am_bre, am_brn, am_brG, am_brL, am_st1, am_no2, am_st2, am_clr, and_self, true_and, and_true, true_or, or_true, List.length_cons, List.length_nil] <;> omega) ?_
    try simp (disch := omega) only [s4 hw, r4_0 hw, s5 hw, r5_0 hw, s6 hw, r4_9 hw, r4_4 hw, n1, am_addE, am_subE, am_mulE, am_laddE, am_lsubE, am_upO, am_upS, am_stS, am_stO, am_tnn, am_brl, am_brg, am_bre, am_brn, am_brG, am_brL, am_st1, am_no2, am_st2, am_clr]
    refine am_wp_ret rfl rfl ?_
    exact h0 (by omega)
end COOK
