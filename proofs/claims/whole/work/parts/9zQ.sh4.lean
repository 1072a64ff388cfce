/-! ONE by the class: search -/
def ozBe (I : Nat → Nat → Int) (n : Nat) (B : Int × List Nat × (Nat → Int)) : Prop := I 64 12 = B.1 ∧ (B.1 < 256 → (∀ j, j < n → I 69 j = (B.2.1.getD j 0 : Int)) ∧ ∀ s, s < n → I 68 s = B.2.2 s)
theorem ozBe_fr {I J : Nat → Nat → Int} {n : Nat} {B : Int × List Nat × (Nat → Int)} (h : ozBe I n B) (e : J 64 12 = I 64 12) (e68 : J 68 = I 68) (e69 : J 69 = I 69) : ozBe J n B := by
  unfold ozBe at h ⊢
  rw [e, e68, e69]; exact h
theorem ozF_rest {f : Nat → Int × List Nat × (Nat → Int) → Int × List Nat × (Nat → Int)} {B : Int × List Nat × (Nat → Int)} {s : Nat} : ∀ n, s ≤ n → (∀ r, s ≤ r → r < n → f r (ozF f s B) = ozF f s B) → ozF f n B = ozF f s B
  | 0, h, _ => by rw [show s = 0 by omega]
  | n + 1, h, hr => by
    by_cases e : s = n + 1
    · rw [e]
    · have ih := ozF_rest (f := f) (B := B) n (by omega) (fun r r1 r2 => hr r r1 (by omega))
      show f n (ozF f n B) = ozF f s B
      rw [ih]; exact hr n (by omega) (by omega)
theorem getD_snoc {l : List Nat} {x : Nat} {j : Nat} : (l ++ [x]).getD j 0 = if j < l.length then l.getD j 0 else if j = l.length then x else 0 := by
  rw [List.getD_eq_getElem?_getD, List.getD_eq_getElem?_getD]
  by_cases h : j < l.length
  · rw [if_pos h, List.getElem?_append_left h]
  · rw [if_neg h, List.getElem?_append_right (by omega)]
    by_cases e : j = l.length
    · rw [if_pos e, e, Nat.sub_self]; rfl
    · rw [if_neg e]
      have : j - l.length = (j - l.length - 1) + 1 := by omega
      rw [this]; rfl
section SH
variable {m sl : Nat} {sh : Nat → Nat × Nat} {R : Nat → Nat → Nat} {n P : Nat} {ρ le : Int} {q : Nat → Int}
set_option maxHeartbeats 4000000 in
theorem w_search (hw : wd sh R) (hQ : ozQ n P ρ q) (hL : ∀ c, ozV n P ρ q c → (∀ s, s < n → c s ≠ -1) → le ≤ ozM n q c) : ∀ (k D : Nat) (I : Nat → Nat → Int) (b : Nat → Int) (od : List Nat) (B : Int × List Nat × (Nat → Int)) (Q : am_R → am_M → Prop), k + 6 ≤ D → od.length + k = n → ozX I n P ρ q b → ozV n P ρ q b → ozO n b = k → ozM n q b + 29 * (k : Int) ≤ 232 → I 64 11 = le → ozBe I n B → B.1 ≤ 256 → ozM n q b < B.1 → (∀ j, j < od.length → I 67 j = (od.getD j 0 : Int)) → (od.length = 0 → ∀ s, s < n → b s = -1) → (1 ≤ od.length → ∃ a l, ozA I n P ρ q b od.length a l ∧ ∀ s, s < l → a s = -1 → ∀ e, ozR n P ρ q k (am_set a s (oze n P ρ q a s)) e → B.1 ≤ e) →
    (∀ J, (∀ x, ¬ (64 ≤ x ∧ x ≤ 70) → J x = I x) → (∀ j, j ≠ 12 → J 64 j = I 64 j) → ozX J n P ρ q b → ozBe J n (ozS n P ρ q k b od B) → (∀ j, j < od.length → J 67 j = I 67 j) → (∀ i, i < od.length * 8 → J 70 i = I 70 i) → Q am_yv (m, sl, sh, J, R)) → am_wp (D) 103 0 [some (.inr (.inr (64))), some (.inl ((od.length : Int))), some (.inl (ozM n q b)), none, none] [] (m, sl, sh, I, R) Q := by
  have n8 := hQ.1
  intro k
  induction k with
  | zero =>
    intro D I b od B Q hD hlen hX hV hO hM h11 hB hB6 hE ho h0 hA h
    have h8 := hX.1
    unfold ozS at h
    rw [if_neg (by omega)] at h
    refine am_wp_go rfl (by simp (disch := omega) only [s64 hw, r64_1 hw, r64_2 hw, r64_3 hw, r64_4 hw, s66 hw, s67 hw, s68 hw, s69 hw, h8, Int.reduceToNat, am_cpyO, am_addE, am_subE, am_mulE, am_laddE, am_lsubE, am_upO, am_upS, am_stS, am_stO, am_tnn, am_brl, am_brg, am_bre, am_brn, am_brG, am_brL, am_st1, am_no2, am_st2, am_clr, and_self, true_and, and_true, true_or, or_true, List.length_cons, List.length_nil] <;> omega) ?_
    try simp (disch := omega) only [s64 hw, r64_1 hw, r64_2 hw, r64_3 hw, r64_4 hw, s66 hw, s67 hw, s68 hw, s69 hw, h8, Int.reduceToNat, am_cpyO, am_addE, am_subE, am_mulE, am_laddE, am_lsubE, am_upO, am_upS, am_stS, am_stO, am_tnn, am_brl, am_brg, am_bre, am_brn, am_brG, am_brL, am_st1, am_no2, am_st2, am_clr]
    refine am_wp_br (fun b5 => ?_) (fun b5 => ?_)
    · omega
    · refine am_wp_go rfl (by simp (disch := omega) only [s64 hw, r64_1 hw, r64_2 hw, r64_3 hw, r64_4 hw, s66 hw, s67 hw, s68 hw, s69 hw, h8, Int.reduceToNat, am_cpyO, am_addE, am_subE, am_mulE, am_laddE, am_lsubE, am_upO, am_upS, am_stS, am_stO, am_tnn, am_brl, am_brg, am_bre, am_brn, am_brG, am_brL, am_st1, am_no2, am_st2, am_clr, and_self, true_and, and_true, true_or, or_true, List.length_cons, List.length_nil] <;> omega) ?_
      try simp (disch := omega) only [s64 hw, r64_1 hw, r64_2 hw, r64_3 hw, r64_4 hw, s66 hw, s67 hw, s68 hw, s69 hw, h8, Int.reduceToNat, am_cpyO, am_addE, am_subE, am_mulE, am_laddE, am_lsubE, am_upO, am_upS, am_stS, am_stO, am_tnn, am_brl, am_brg, am_bre, am_brn, am_brG, am_brL, am_st1, am_no2, am_st2, am_clr]
      refine am_wp_ret rfl rfl ?_
      refine h _ (fun x hx => ?_) (fun j hj => ?_) (ozX_fr hX (fun j _ _ => ?_) ?_ ?_ ?_) ⟨?_, fun _ => ⟨fun j hj => ?_, fun s hs => ?_⟩⟩ (fun j hj => ?_) (fun i hi => ?_)
      · simp (disch := omega) only [am_cpyO, am_upO]
      · simp (disch := omega) only [am_cpyO, am_upS, am_stO]
      · simp (disch := omega) only [am_cpyO, am_upS, am_stO]
      · simp (disch := omega) only [am_cpyO, am_upO]
      · simp (disch := omega) only [am_cpyO, am_upO]
      · simp (disch := omega) only [am_cpyO, am_upO]
      · simp (disch := omega) only [am_cpyO, am_upS, am_stS]
      · simp (disch := omega) only [am_cpyO, am_cpyS, am_upO]
        rw [if_pos (by omega)]
        have := ho j (by omega)
        rw [show 0 + (j - 0) = j by omega]
        exact this
      · simp (disch := omega) only [am_cpyO, am_cpyS, am_upO]
        rw [if_pos (by omega)]
        have := hX.2.2.2.2.1 s hs
        rw [show 0 + (s - 0) = s by omega]
        exact this
      · simp (disch := omega) only [am_cpyO, am_upO]
      · simp (disch := omega) only [am_cpyO, am_upO]
  | succ k ihk =>
    intro D I b od B Q hD hlen hX hV hO hM h11 hB hB6 hE ho h0 hA h
    obtain ⟨d, rfl⟩ : ∃ d, D = d + 6 := ⟨D - 6, by omega⟩
    have h8 := hX.1
    unfold ozS at h
    rw [if_neg (by omega)] at h
    generalize hf : (fun s B => if b s = -1 then ozS n P ρ q k (am_set b s (oze n P ρ q b s)) (od ++ [s]) B else B) = f at h
    have fe : ∀ s B, f s B = if b s = -1 then ozS n P ρ q k (am_set b s (oze n P ρ q b s)) (od ++ [s]) B else B := fun s B => by rw [← hf]
    have fle : ∀ s B, (f s B).1 ≤ B.1 := fun s B => by
      rw [fe]; split
      · exact ozS_le k _ _ _
      · exact Int.le_refl _
    clear hf
    refine am_wp_go rfl (by simp (disch := omega) only [s64 hw, h8, am_addE, am_subE, am_mulE, am_laddE, am_lsubE, am_upO, am_upS, am_stS, am_stO, am_tnn, am_brl, am_brg, am_bre, am_brn, am_brG, am_brL, am_st1, am_no2, am_st2, am_clr, and_self, true_and, and_true, true_or, or_true, List.length_cons, List.length_nil] <;> omega) ?_
    try simp (disch := omega) only [s64 hw, h8, am_addE, am_subE, am_mulE, am_laddE, am_lsubE, am_upO, am_upS, am_stS, am_stO, am_tnn, am_brl, am_brg, am_bre, am_brn, am_brG, am_brL, am_st1, am_no2, am_st2, am_clr]
    refine am_wp_br (fun b5 => ?_) (fun b5 => ?_)
    · refine am_wp_go rfl (by simp (disch := omega) only [s64 hw, h8, am_addE, am_subE, am_mulE, am_laddE, am_lsubE, am_upO, am_upS, am_stS, am_stO, am_tnn, am_brl, am_brg, am_bre, am_brn, am_brG, am_brL, am_st1, am_no2, am_st2, am_clr, and_self, true_and, and_true, true_or, or_true, List.length_cons, List.length_nil] <;> omega) ?_
      try simp (disch := omega) only [s64 hw, h8, am_addE, am_subE, am_mulE, am_laddE, am_lsubE, am_upO, am_upS, am_stS, am_stO, am_tnn, am_brl, am_brg, am_bre, am_brn, am_brG, am_brL, am_st1, am_no2, am_st2, am_clr]
      refine am_wp_cc rfl rfl rfl (congrArg Prod.fst (s64 hw)) (w_tryAll (n := n) (P := P) (ρ := ρ) (q := q) (b := b) (k := od.length) hw hQ hV hX (by omega) (by omega) h0 (fun h1 => by obtain ⟨a, l, x, -⟩ := hA h1; exact ⟨a, l, x⟩) (fun T t1 t2 t3 => ⟨_, rfl, ?_⟩))
      have LP : ∀ s : Nat, s ≤ n → ∀ (z4 : Option am_V) (K : Nat → Nat → Int), (∀ x, ¬ (64 ≤ x ∧ x ≤ 70) → K x = I x) → (∀ j, j ≠ 12 → K 64 j = I 64 j) → ozX K n P ρ q b → ozBe K n (ozF f s B) → (∀ j, j < od.length → K 67 j = I 67 j) → (∀ i, i < od.length * 8 → K 70 i = I 70 i) → (∀ s, s < n → b s = -1 → K 70 (od.length * 8 + s) = oze n P ρ q b s) → am_wp (d + 6) 103 55 [some (.inr (.inr (64))), some (.inl ((od.length : Int))), some (.inl (ozM n q b)), some (.inl ((s : Int))), z4] [] (m, sl, sh, K, R) Q := by
        refine am_lp n (fun s hs ih z4 K k1 k2 k3 k4 k5 k6 k7 => ?_)
        have K8 : K 64 8 = (n : Int) := k3.1
        refine am_wp_go rfl (by simp (disch := omega) only [s64 hw, K8, am_addE, am_subE, am_mulE, am_laddE, am_lsubE, am_upO, am_upS, am_stS, am_stO, am_tnn, am_brl, am_brg, am_bre, am_brn, am_brG, am_brL, am_st1, am_no2, am_st2, am_clr, and_self, true_and, and_true, true_or, or_true, List.length_cons, List.length_nil] <;> omega) ?_
        try simp (disch := omega) only [s64 hw, K8, am_addE, am_subE, am_mulE, am_laddE, am_lsubE, am_upO, am_upS, am_stS, am_stO, am_tnn, am_brl, am_brg, am_bre, am_brn, am_brG, am_brL, am_st1, am_no2, am_st2, am_clr]
        refine am_wp_br (fun b60 => ?_) (fun b60 => ?_)
        · refine am_wp_ret rfl rfl ?_
          rw [show s = n by omega] at k4
          exact h K k1 k2 k3 k4 k5 k6
        · have hsn : s < n := by omega
          have ih := ih hsn
          have K66 := k3.2.2.2.2.1 s hsn
          have es : ozF f (s + 1) B = f s (ozF f s B) := rfl
          have bl : (ozF f s B).1 ≤ B.1 := ozF_le fle s B
          -- a side that is left out
          have skip : f s (ozF f s B) = ozF f s B → ∀ z4, am_wp (d + 6) 103 55 [some (.inr (.inr (64))), some (.inl ((od.length : Int))), some (.inl (ozM n q b)), some (.inl (((s : Int) + 1))), z4] [] (m, sl, sh, K, R) Q := fun he z4 => by
            refine am_wp_ls (ih z4 K k1 k2 k3 (by rw [es, he]; exact k4) k5 k6 k7) rfl
          -- nothing that is left can be better
          have stop : (∀ e, ozR n P ρ q (k + 1) b e → (ozF f s B).1 ≤ e) → Q am_yv (m, sl, sh, K, R) := fun hl => by
            refine h K k1 k2 k3 ?_ k5 k6
            rw [ozF_rest n (by omega) (fun r r1 r2 => ?_)]
            · exact k4
            · rw [fe]
              split
              · rename_i hb
                exact ozS_id k _ _ _ (fun e he => hl e ⟨r, r2, hb, he⟩)
              · rfl
          have before : ∀ r, r < s → b r = -1 → ∀ e, ozR n P ρ q k (am_set b r (oze n P ρ q b r)) e → (ozF f s B).1 ≤ e := fun r hr hb e he => by
            refine ozF_lb fle (s := r) (fun C => ?_) s B hr
            rw [fe, if_pos hb]
            exact ozS_lb hQ k _ _ _ he
          refine am_wp_go rfl (by simp (disch := omega) only [s64 hw, r64_1 hw, s66 hw, K66, am_addE, am_subE, am_mulE, am_laddE, am_lsubE, am_upO, am_upS, am_stS, am_stO, am_tnn, am_brl, am_brg, am_bre, am_brn, am_brG, am_brL, am_st1, am_no2, am_st2, am_clr, and_self, true_and, and_true, true_or, or_true, List.length_cons, List.length_nil] <;> omega) ?_
          try simp (disch := omega) only [s64 hw, r64_1 hw, s66 hw, K66, am_addE, am_subE, am_mulE, am_laddE, am_lsubE, am_upO, am_upS, am_stS, am_stO, am_tnn, am_brl, am_brg, am_bre, am_brn, am_brG, am_brL, am_st1, am_no2, am_st2, am_clr]
          refine am_wp_br (fun b70 => ?_) (fun b70 => ?_)
          · refine am_wp_go rfl (by simp (disch := omega) only [s64 hw, r64_1 hw, s66 hw, K66, am_addE, am_subE, am_mulE, am_laddE, am_lsubE, am_upO, am_upS, am_stS, am_stO, am_tnn, am_brl, am_brg, am_bre, am_brn, am_brG, am_brL, am_st1, am_no2, am_st2, am_clr, and_self, true_and, and_true, true_or, or_true, List.length_cons, List.length_nil] <;> omega) ?_
            try simp (disch := omega) only [s64 hw, r64_1 hw, s66 hw, K66, am_addE, am_subE, am_mulE, am_laddE, am_lsubE, am_upO, am_upS, am_stS, am_stO, am_tnn, am_brl, am_brg, am_bre, am_brn, am_brG, am_brL, am_st1, am_no2, am_st2, am_clr]
            exact am_wp_ls (skip (by rw [fe, if_neg b70]) _) rfl
          · have hb : b s = -1 := by omega
            refine am_wp_go rfl (by simp (disch := omega) only [s64 hw, r64_1 hw, s66 hw, K66, am_addE, am_subE, am_mulE, am_laddE, am_lsubE, am_upO, am_upS, am_stS, am_stO, am_tnn, am_brl, am_brg, am_bre, am_brn, am_brG, am_brL, am_st1, am_no2, am_st2, am_clr, and_self, true_and, and_true, true_or, or_true, List.length_cons, List.length_nil] <;> omega) ?_
            try simp (disch := omega) only [s64 hw, r64_1 hw, s66 hw, K66, am_addE, am_subE, am_mulE, am_laddE, am_lsubE, am_upO, am_upS, am_stS, am_stO, am_tnn, am_brl, am_brg, am_bre, am_brn, am_brG, am_brL, am_st1, am_no2, am_st2, am_clr]
            refine am_wp_cc rfl rfl rfl (congrArg Prod.fst (s64 hw)) (w_hasLesserTwin (n := n) (P := P) (ρ := ρ) (q := q) (b := b) (s := s) hw hQ k3 hsn hb (fun v v1 => ⟨_, rfl, ?_⟩))
            refine am_wp_go rfl (by simp (disch := omega) only [s64 hw, r64_1 hw, s66 hw, K66, am_addE, am_subE, am_mulE, am_laddE, am_lsubE, am_upO, am_upS, am_stS, am_stO, am_tnn, am_brl, am_brg, am_bre, am_brn, am_brG, am_brL, am_st1, am_no2, am_st2, am_clr, and_self, true_and, and_true, true_or, or_true, List.length_cons, List.length_nil] <;> omega) ?_
            try simp (disch := omega) only [s64 hw, r64_1 hw, s66 hw, K66, am_addE, am_subE, am_mulE, am_laddE, am_lsubE, am_upO, am_upS, am_stS, am_stO, am_tnn, am_brl, am_brg, am_bre, am_brn, am_brG, am_brL, am_st1, am_no2, am_st2, am_clr]
            refine am_wp_br (fun b78 => ?_) (fun b78 => ?_)
            · obtain ⟨g, g1, g2, g3⟩ := v1 b78
              refine am_wp_go rfl (by simp (disch := omega) only [s64 hw, r64_1 hw, s66 hw, K66, am_addE, am_subE, am_mulE, am_laddE, am_lsubE, am_upO, am_upS, am_stS, am_stO, am_tnn, am_brl, am_brg, am_bre, am_brn, am_brG, am_brL, am_st1, am_no2, am_st2, am_clr, and_self, true_and, and_true, true_or, or_true, List.length_cons, List.length_nil] <;> omega) ?_
              try simp (disch := omega) only [s64 hw, r64_1 hw, s66 hw, K66, am_addE, am_subE, am_mulE, am_laddE, am_lsubE, am_upO, am_upS, am_stS, am_stO, am_tnn, am_brl, am_brg, am_bre, am_brn, am_brG, am_brL, am_st1, am_no2, am_st2, am_clr]
              refine am_wp_ls (skip ?_ _) rfl
              rw [fe, if_pos hb]
              refine ozS_id k _ _ _ (fun e he => ?_)
              exact before (g s) g3 (by rw [g2 s hsn]; exact hb) e (ozR_tw hQ.2.1 g1 g2 hsn he)
            · clear v1
              have od8 : od.length < 8 := by omega
              have K67 : 1 ≤ od.length → K 67 (od.length - 1) = I 67 (od.length - 1) := fun h1 => k5 _ (by omega)
              refine am_wp_go rfl (by simp (disch := omega) only [s64 hw, r64_1 hw, s66 hw, K66, am_addE, am_subE, am_mulE, am_laddE, am_lsubE, am_upO, am_upS, am_stS, am_stO, am_tnn, am_brl, am_brg, am_bre, am_brn, am_brG, am_brL, am_st1, am_no2, am_st2, am_clr, and_self, true_and, and_true, true_or, or_true, List.length_cons, List.length_nil] <;> omega) ?_
              try simp (disch := omega) only [s64 hw, r64_1 hw, s66 hw, K66, am_addE, am_subE, am_mulE, am_laddE, am_lsubE, am_upO, am_upS, am_stS, am_stO, am_tnn, am_brl, am_brg, am_bre, am_brn, am_brG, am_brL, am_st1, am_no2, am_st2, am_clr]
              refine am_wp_cc rfl rfl rfl (congrArg Prod.fst (s64 hw)) (w_couldChange (k := od.length) (s := s) (l := I 67 (od.length - 1)) hw od8 (by omega) K67 ⟨_, rfl, ?_⟩)
              refine am_wp_go rfl (by simp (disch := omega) only [s64 hw, r64_1 hw, s66 hw, K66, am_b0, am_bn0, am_addE, am_subE, am_mulE, am_laddE, am_lsubE, am_upO, am_upS, am_stS, am_stO, am_tnn, am_brl, am_brg, am_bre, am_brn, am_brG, am_brL, am_st1, am_no2, am_st2, am_clr, and_self, true_and, and_true, true_or, or_true, List.length_cons, List.length_nil] <;> omega) ?_
              try simp (disch := omega) only [s64 hw, r64_1 hw, s66 hw, K66, am_b0, am_bn0, am_addE, am_subE, am_mulE, am_laddE, am_lsubE, am_upO, am_upS, am_stS, am_stO, am_tnn, am_brl, am_brg, am_bre, am_brn, am_brG, am_brL, am_st1, am_no2, am_st2, am_clr]
              refine am_wp_br (fun b87 => ?_) (fun b87 => ?_)
              · obtain ⟨a, l, ⟨a1, a2, a3, a4, a5⟩, a6⟩ := hA b87.1
                rw [a4] at b87
                have sl0 : s < l := by omega
                have as : a s = -1 := by rw [a3, am_stO (by omega)] at hb; exact hb
                have e7 := b87.2.2
                rw [k7 s hsn hb, k6 _ (by omega), a5 s hsn as, a3] at e7
                have sw := oze_chg hQ hsn a1 (by omega) as a2 e7
                refine am_wp_go rfl (by simp (disch := omega) only [s64 hw, r64_1 hw, s66 hw, K66, am_b0, am_bn0, am_addE, am_subE, am_mulE, am_laddE, am_lsubE, am_upO, am_upS, am_stS, am_stO, am_tnn, am_brl, am_brg, am_bre, am_brn, am_brG, am_brL, am_st1, am_no2, am_st2, am_clr, and_self, true_and, and_true, true_or, or_true, List.length_cons, List.length_nil] <;> omega) ?_
                try simp (disch := omega) only [s64 hw, r64_1 hw, s66 hw, K66, am_b0, am_bn0, am_addE, am_subE, am_mulE, am_laddE, am_lsubE, am_upO, am_upS, am_stS, am_stO, am_tnn, am_brl, am_brg, am_bre, am_brn, am_brG, am_brL, am_st1, am_no2, am_st2, am_clr]
                refine am_wp_ls (skip ?_ _) rfl
                rw [fe, if_pos hb]
                refine ozS_id k _ _ _ (fun e he => Int.le_trans bl (a6 s sl0 as e ⟨l, a1, by rw [am_stO (by omega)]; exact a2, ?_⟩))
                rw [sw, set_comm (by omega), ← a3]
                rw [a3, e7] at he
                rw [a3]
                exact he
              · have K11 : K 64 11 = le := by rw [k2 11 (by decide)]; exact h11
                have K12 := k4.1
                refine am_wp_go rfl (by simp (disch := omega) only [s64 hw, K11, K12, am_b0, am_bn0, am_addE, am_subE, am_mulE, am_laddE, am_lsubE, am_upO, am_upS, am_stS, am_stO, am_tnn, am_brl, am_brg, am_bre, am_brn, am_brG, am_brL, am_st1, am_no2, am_st2, am_clr, and_self, true_and, and_true, true_or, or_true, List.length_cons, List.length_nil] <;> omega) ?_
                try simp (disch := omega) only [s64 hw, K11, K12, am_b0, am_bn0, am_addE, am_subE, am_mulE, am_laddE, am_lsubE, am_upO, am_upS, am_stS, am_stO, am_tnn, am_brl, am_brg, am_bre, am_brn, am_brG, am_brL, am_st1, am_no2, am_st2, am_clr]
                refine am_wp_br (fun b98 => ?_) (fun b98 => ?_)
                · refine am_wp_ret rfl rfl ?_
                  refine stop (fun e he => ?_)
                  obtain ⟨c, c1, c2, c3, c4, c5⟩ := ozR_full hQ (k + 1) b hV hO he
                  have := hL c c1 c2
                  omega
                · refine am_wp_go rfl (by simp (disch := omega) only [s64 hw, K11, K12, am_b0, am_bn0, am_addE, am_subE, am_mulE, am_laddE, am_lsubE, am_upO, am_upS, am_stS, am_stO, am_tnn, am_brl, am_brg, am_bre, am_brn, am_brG, am_brL, am_st1, am_no2, am_st2, am_clr, and_self, true_and, and_true, true_or, or_true, List.length_cons, List.length_nil] <;> omega) ?_
                  try simp (disch := omega) only [s64 hw, K11, K12, am_b0, am_bn0, am_addE, am_subE, am_mulE, am_laddE, am_lsubE, am_upO, am_upS, am_stS, am_stO, am_tnn, am_brl, am_brg, am_bre, am_brn, am_brG, am_brL, am_st1, am_no2, am_st2, am_clr]
                  refine am_wp_br (fun b106 => ?_) (fun b106 => ?_)
                  · refine am_wp_ret rfl rfl ?_
                    refine stop (fun e he => ?_)
                    have := ozR_ge hQ (k + 1) b he
                    omega
                  · refine am_wp_go rfl (by simp (disch := omega) only [s64 hw, K11, K12, am_b0, am_bn0, am_addE, am_subE, am_mulE, am_laddE, am_lsubE, am_upO, am_upS, am_stS, am_stO, am_tnn, am_brl, am_brg, am_bre, am_brn, am_brG, am_brL, am_st1, am_no2, am_st2, am_clr, and_self, true_and, and_true, true_or, or_true, List.length_cons, List.length_nil] <;> omega) ?_
                    try simp (disch := omega) only [s64 hw, K11, K12, am_b0, am_bn0, am_addE, am_subE, am_mulE, am_laddE, am_lsubE, am_upO, am_upS, am_stS, am_stO, am_tnn, am_brl, am_brg, am_bre, am_brn, am_brG, am_brL, am_st1, am_no2, am_st2, am_clr]
                    refine am_wp_cc rfl rfl rfl (congrArg Prod.fst (s64 hw)) (w_isTooLate (n := n) (P := P) (ρ := ρ) (q := q) (b := b) (k := od.length) (E := (ozF f s B).1) hw hQ k3 (by omega) od8 k7 K12 (fun w w1 w2 => ⟨_, rfl, ?_⟩))
                    refine am_wp_go rfl (by simp (disch := omega) only [s64 hw, K11, K12, am_addE, am_subE, am_mulE, am_laddE, am_lsubE, am_upO, am_upS, am_stS, am_stO, am_tnn, am_brl, am_brg, am_bre, am_brn, am_brG, am_brL, am_st1, am_no2, am_st2, am_clr, and_self, true_and, and_true, true_or, or_true, List.length_cons, List.length_nil] <;> omega) ?_
                    try simp (disch := omega) only [s64 hw, K11, K12, am_addE, am_subE, am_mulE, am_laddE, am_lsubE, am_upO, am_upS, am_stS, am_stO, am_tnn, am_brl, am_brg, am_bre, am_brn, am_brG, am_brL, am_st1, am_no2, am_st2, am_clr]
                    refine am_wp_br (fun b114 => ?_) (fun b114 => ?_)
                    · have hlt := w2 (by omega)
                      clear w1 w2
                      have sp := oze_sp (b := b) hQ hsn
                      have up := ozM_up (b := b) hQ hsn hb
                      have qs := hQ.2.2.2.2.2.2 s hsn
                      obtain ⟨x, hx⟩ : ∃ x : Nat, oze n P ρ q b s = (x : Int) := ⟨(oze n P ρ q b s).toNat, by have := sp.1.1; omega⟩
                      have lts := hlt s hsn hb
                      have K70 := k7 s hsn hb
                      have K72 := k3.2.2.2.1 s hsn
                      have kc : (od.length : Int) * 8 = ((od.length * 8 : Nat) : Int) := by omega
                      have ms := ozM_set (b := b) (q := q) (x := oze n P ρ q b s) hsn hb sp.1.1
                      have vs := ozV_set hQ hV hsn hb sp.1.1 sp.1.2.1
                      have os := ozO_set hsn hb sp.1.1 hO
                      have bs := fun t : Int => ozB_set (q := q) (t := t) (x := oze n P ρ q b s) hsn hb sp.1.1
                      rw [hx] at K70 sp up lts ms bs
                      have es2 := es
                      rw [fe, if_pos hb, hx] at es2
                      rw [hx] at vs os
                      have bt : ∀ t : Nat, t < 256 → K 65 t = (ozB n q b (t : Int) : Int) := k3.2.2.2.2.2
                      have bP := hV.2.1
                      have P4 := hQ.2.2.2.1
                      refine am_wp_go rfl (by simp (disch := omega) only [s64 hw, r64_1 hw, r64_2 hw, r64_5 hw, r64_7 hw, s66 hw, s67 hw, s70 hw, s72 hw, K70, K72, kc, am_tnA, am_addE, am_subE, am_mulE, am_laddE, am_lsubE, am_upO, am_upS, am_stS, am_stO, am_tnn, am_brl, am_brg, am_bre, am_brn, am_brG, am_brL, am_st1, am_no2, am_st2, am_clr, and_self, true_and, and_true, true_or, or_true, List.length_cons, List.length_nil] <;> omega) ?_
                      try simp (disch := omega) only [s64 hw, r64_1 hw, r64_2 hw, r64_5 hw, r64_7 hw, s66 hw, s67 hw, s70 hw, s72 hw, K70, K72, kc, am_tnA, am_addE, am_subE, am_mulE, am_laddE, am_lsubE, am_upO, am_upS, am_stS, am_stO, am_tnn, am_brl, am_brg, am_bre, am_brn, am_brG, am_brL, am_st1, am_no2, am_st2, am_clr]
                      generalize hZ : am_up (am_up K 67 od.length (s : Int)) 66 s (x : Int) = Z
                      have Z0 : ∀ y, y ≠ 66 → y ≠ 67 → Z y = K y := fun y h1 h2 => by rw [← hZ, am_upO h1, am_upO h2]
                      have Z67 : Z 67 = am_set (K 67) od.length (s : Int) := by rw [← hZ, am_upO (by decide), am_upS]
                      have Z66 : Z 66 = am_set (K 66) s (x : Int) := by rw [← hZ, am_upS, am_upO (by decide)]
                      clear hZ
                      have Z65 : Z 65 = K 65 := Z0 65 (by decide) (by decide)
                      refine am_wp_cc rfl rfl rfl (congrArg Prod.fst (s64 hw)) (w_occupy (x := x) (y := q s) (c := 1) hw (by omega) (by omega) (Or.inl rfl) (fun t ht => by rw [Z65, bt t ht]; have := bP (t : Int); omega) (fun V v1 v2 => ⟨_, rfl, ?_⟩))
                      have V72 : V 72 s = q s := by rw [v1 72 (by decide), Z0 72 (by decide) (by decide)]; exact K72
                      have XV : ozX V n P ρ q (am_set b s (x : Int)) := by
                        refine ⟨?_, ?_, ?_, fun r hr => ?_, fun r hr => ?_, fun t ht => ?_⟩
                        · rw [v1 64 (by decide), Z0 64 (by decide) (by decide)]; exact k3.1
                        · rw [v1 64 (by decide), Z0 64 (by decide) (by decide)]; exact k3.2.1
                        · rw [v1 64 (by decide), Z0 64 (by decide) (by decide)]; exact k3.2.2.1
                        · rw [v1 72 (by decide), Z0 72 (by decide) (by decide)]; exact k3.2.2.2.1 r hr
                        · rw [v1 66 (by decide), Z66]
                          by_cases e : r = s
                          · rw [am_stS e, am_stS e]
                          · rw [am_stO e, am_stO e]; exact k3.2.2.2.2.1 r hr
                        · rw [v2 t ht, Z65, bt t ht, bs]
                          split <;> simp
                      have hmax : (if ozM n q b < (x : Int) + q s then (x : Int) + q s else ozM n q b) = ozM n q (am_set b s (x : Int)) := ms.symm
                      have ol : (od ++ [s]).length = od.length + 1 := by rw [List.length_append]; rfl
                      have olc : (od.length : Int) + 1 = ((od ++ [s]).length : Int) := by rw [ol]; rfl
                      refine am_wp_go rfl (by simp (disch := omega) only [s64 hw, r64_7 hw, s72 hw, V72, hmax, olc, am_addE, am_subE, am_mulE, am_laddE, am_lsubE, am_upO, am_upS, am_stS, am_stO, am_tnn, am_brl, am_brg, am_bre, am_brn, am_brG, am_brL, am_st1, am_no2, am_st2, am_clr, and_self, true_and, and_true, true_or, or_true, List.length_cons, List.length_nil] <;> omega) ?_
                      try simp (disch := omega) only [s64 hw, r64_7 hw, s72 hw, V72, hmax, olc, am_addE, am_subE, am_mulE, am_laddE, am_lsubE, am_upO, am_upS, am_stS, am_stO, am_tnn, am_brl, am_brg, am_bre, am_brn, am_brG, am_brL, am_st1, am_no2, am_st2, am_clr]
                      refine am_wp_cc rfl rfl rfl (congrArg Prod.fst (s64 hw)) (ihk (d + 5) V (am_set b s (x : Int)) (od ++ [s]) (ozF f s B) _ (by omega) (by omega) XV vs os (by omega) ?_ ?_ (by omega) (by omega) (fun j hj => ?_) (fun hc => ?_) (fun _ => ?_) (fun J y1 y2 y3 y4 y5 y6 => ⟨_, rfl, ?_⟩))
                      · rw [v1 64 (by decide), Z0 64 (by decide) (by decide)]; exact K11
                      · exact ozBe_fr k4 (by rw [v1 64 (by decide), Z0 64 (by decide) (by decide)]) (by rw [v1 68 (by decide), Z0 68 (by decide) (by decide)]) (by rw [v1 69 (by decide), Z0 69 (by decide) (by decide)])
                      · rw [v1 67 (by decide), Z67, getD_snoc]
                        by_cases e : j < od.length
                        · rw [am_stO (by omega), if_pos e, k5 j e]; exact ho j e
                        · rw [am_stS (by omega), if_neg e, if_pos (by omega)]
                      · omega
                      · refine ⟨b, s, ⟨hsn, hb, by rw [hx], ?_, fun r hr hbr => ?_⟩, fun r hr hbr e he => before r hr hbr e ?_⟩
                        · rw [v1 67 (by decide), Z67, ol, Nat.add_sub_cancel, am_stS rfl]
                        · rw [v1 70 (by decide), Z0 70 (by decide) (by decide), ol, Nat.add_sub_cancel]
                          exact k7 r hr hbr
                        · exact he
                      · have J72 : J 72 s = q s := by rw [y1 72 (by omega)]; exact V72
                        have J65 : ∀ t : Nat, t < 256 → J 65 t = (ozB n q (am_set b s (x : Int)) (t : Int) : Int) := y3.2.2.2.2.2
                        refine am_wp_go rfl (by simp (disch := omega) only [s64 hw, r64_7 hw, s72 hw, J72, am_addE, am_subE, am_mulE, am_laddE, am_lsubE, am_upO, am_upS, am_stS, am_stO, am_tnn, am_brl, am_brg, am_bre, am_brn, am_brG, am_brL, am_st1, am_no2, am_st2, am_clr, and_self, true_and, and_true, true_or, or_true, List.length_cons, List.length_nil] <;> omega) ?_
                        try simp (disch := omega) only [s64 hw, r64_7 hw, s72 hw, J72, am_addE, am_subE, am_mulE, am_laddE, am_lsubE, am_upO, am_upS, am_stS, am_stO, am_tnn, am_brl, am_brg, am_bre, am_brn, am_brG, am_brL, am_st1, am_no2, am_st2, am_clr]
                        refine am_wp_cc rfl rfl rfl (congrArg Prod.fst (s64 hw)) (w_occupy (x := x) (y := q s) (c := -1) hw (by omega) (by omega) (Or.inr rfl) (fun t ht => by rw [J65 t ht]; have := vs.2.1 (t : Int); omega) (fun U u1 u2 => ⟨_, rfl, ?_⟩))
                        refine am_wp_go rfl (by simp (disch := omega) only [s64 hw, r64_1 hw, s66 hw, am_addE, am_subE, am_mulE, am_laddE, am_lsubE, am_upO, am_upS, am_stS, am_stO, am_tnn, am_brl, am_brg, am_bre, am_brn, am_brG, am_brL, am_st1, am_no2, am_st2, am_clr, and_self, true_and, and_true, true_or, or_true, List.length_cons, List.length_nil] <;> omega) ?_
                        try simp (disch := omega) only [s64 hw, r64_1 hw, s66 hw, am_addE, am_subE, am_mulE, am_laddE, am_lsubE, am_upO, am_upS, am_stS, am_stO, am_tnn, am_brl, am_brg, am_bre, am_brn, am_brG, am_brL, am_st1, am_no2, am_st2, am_clr]
                        generalize hZ2 : am_up U 66 s (-1) = Y
                        have Y0 : ∀ y, y ≠ 66 → Y y = U y := fun y h1 => by rw [← hZ2, am_upO h1]
                        have Y66 : Y 66 = am_set (U 66) s (-1) := by rw [← hZ2, am_upS]
                        clear hZ2
                        have YJ : ∀ y, y ≠ 65 → y ≠ 66 → Y y = J y := fun y h1 h2 => by rw [Y0 y h2, u1 y h1]
                        refine am_wp_ls (ih _ Y (fun y hy => ?_) (fun j hj => ?_) ⟨?_, ?_, ?_, fun r hr => ?_, fun r hr => ?_, fun t ht => ?_⟩ ?_ (fun j hj => ?_) (fun i hi => ?_) (fun r hr hbr => ?_)) rfl
                        · rw [YJ y (by omega) (by omega), y1 y hy, v1 y (by omega), Z0 y (by omega) (by omega), k1 y hy]
                        · rw [YJ 64 (by decide) (by decide), y2 j hj, v1 64 (by decide), Z0 64 (by decide) (by decide), k2 j hj]
                        · rw [YJ 64 (by decide) (by decide)]; exact y3.1
                        · rw [YJ 64 (by decide) (by decide)]; exact y3.2.1
                        · rw [YJ 64 (by decide) (by decide)]; exact y3.2.2.1
                        · rw [YJ 72 (by decide) (by decide)]; exact y3.2.2.2.1 r hr
                        · rw [Y66]
                          by_cases e : r = s
                          · rw [am_stS e, e, hb]
                          · rw [am_stO e, u1 66 (by decide), y3.2.2.2.2.1 r hr, am_stO e]
                        · rw [Y0 65 (by decide), u2 t ht, J65 t ht, bs]
                          split <;> simp <;> omega
                        · rw [es2]
                          exact ozBe_fr y4 (by rw [YJ 64 (by decide) (by decide)]) (by rw [YJ 68 (by decide) (by decide)]) (by rw [YJ 69 (by decide) (by decide)])
                        · rw [YJ 67 (by decide) (by decide), y5 j (by omega), v1 67 (by decide), Z67, am_stO (by omega), k5 j hj]
                        · rw [YJ 70 (by decide) (by decide), y6 i (by omega), v1 70 (by decide), Z0 70 (by decide) (by decide), k6 i hi]
                        · rw [YJ 70 (by decide) (by decide), y6 _ (by omega), v1 70 (by decide), Z0 70 (by decide) (by decide)]; exact k7 r hr hbr
                    · have := w1 b114
                      refine am_wp_ret rfl rfl ?_
                      exact stop (fun e he => ozL_lb hQ hV hO this he)
      refine am_wp_go rfl (by simp (disch := omega) only [am_addE, am_subE, am_mulE, am_laddE, am_lsubE, am_upO, am_upS, am_stS, am_stO, am_tnn, am_brl, am_brg, am_bre, am_brn, am_brG, am_brL, am_st1, am_no2, am_st2, am_clr, and_self, true_and, and_true, true_or, or_true, List.length_cons, List.length_nil] <;> omega) ?_
      try simp (disch := omega) only [am_addE, am_subE, am_mulE, am_laddE, am_lsubE, am_upO, am_upS, am_stS, am_stO, am_tnn, am_brl, am_brg, am_bre, am_brn, am_brG, am_brL, am_st1, am_no2, am_st2, am_clr]
      refine am_wp_ls (LP 0 (Nat.zero_le n) none T (fun x hx => t1 x (by omega)) (fun j _ => by rw [t1 64 (by decide)]) (ozX_fr hX (fun j _ _ => by rw [t1 64 (by decide)]) (t1 72 (by decide)) (t1 66 (by decide)) (t1 65 (by decide))) (ozBe_fr hB (by rw [t1 64 (by decide)]) (t1 68 (by decide)) (t1 69 (by decide))) (fun j _ => by rw [t1 67 (by decide)]) (fun i hi => t2 i (by omega)) t3) rfl
    · omega
end SH
