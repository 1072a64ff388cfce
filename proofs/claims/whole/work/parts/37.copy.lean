/-! COPIES of kitchens, sentences, states -/
theorem am_cpyO {I : Nat → Nat → Int} {s sp d dp n b : Nat} (h : b ≠ d) : am_cpy I s sp d dp n b = I b := by
  funext j; unfold am_cpy; rw [if_neg (fun e => h e.1)]
theorem am_cpyS {I : Nat → Nat → Int} {s sp d dp n : Nat} : am_cpy I s sp d dp n d = fun j => if dp ≤ j ∧ j < dp + n then I s (sp + (j - dp)) else I d j := by
  funext j; unfold am_cpy
  by_cases h : dp ≤ j ∧ j < dp + n
  · rw [if_pos ⟨rfl, h⟩, if_pos h]
  · rw [if_neg (fun e => h e.2), if_neg h]
def sn_is (sh : Nat → Nat × Nat) (R : Nat → Nat → Nat) (c : Nat) : Prop := sh c = (6, 6) ∧ (R c 0 = c + 1 ∧ R c 1 = c + 2 ∧ R c 2 = c + 3 ∧ R c 3 = c + 4) ∧ (sh (c + 1) = (32, 40) ∧ sh (c + 2) = (32, 40) ∧ sh (c + 3) = (32, 40) ∧ sh (c + 4) = (32, 40)) ∧ 4 ≤ c
theorem sn_w {sh : Nat → Nat × Nat} {R : Nat → Nat → Nat} (hw : wd sh R) {c : Nat} (h : c = 16 ∨ c = 50 ∨ c = 103 ∨ c = 119) : sn_is sh R c := by
  rcases h with rfl | rfl | rfl | rfl <;> exact ⟨hw.1 _ (by decide) (by decide), ⟨hw.2 _ _ (by decide) (by decide), hw.2 _ _ (by decide) (by decide), hw.2 _ _ (by decide) (by decide), hw.2 _ _ (by decide) (by decide)⟩, ⟨hw.1 _ (by decide) (by decide), hw.1 _ (by decide) (by decide), hw.1 _ (by decide) (by decide), hw.1 _ (by decide) (by decide)⟩, by decide⟩
theorem sx_stk_cg {c e : Nat → Int} {n : Nat} (h : ∀ i, i < n → e i = c i) : sx_stk e n = sx_stk c n := by
  induction n with
  | zero => rfl
  | succ n ih => unfold sx_stk; rw [ih (fun i hi => h i (by omega)), h n (by omega)]
theorem sx_node_cg {c g n c2 g2 n2 : Nat → Int} {S : Int} {D : Nat → Int} {i : Nat} (h : sx_node c g n S D i) (h1 : ∀ j, j ≤ i → c2 j = c j) (h2 : g2 i = g i) (h3 : n2 i = n i) : sx_node c2 g2 n2 S D i := by
  unfold sx_node at h ⊢
  rw [sx_stk_cg (fun j hj => h1 j (by omega)), h1 i (Nat.le_refl i), h2, h3]
  exact h
section COPY
variable {m sl : Nat} {sh : Nat → Nat × Nat} {I : Nat → Nat → Int} {R : Nat → Nat → Nat} {Q : am_R → am_M → Prop} {d c e : Nat} {W N : Nat → Int} {G : List Go}
set_option maxHeartbeats 4000000 in
theorem w_ktcopy (hc : kt_is sh R c) (he : kt_is sh R e) (hd : c + 7 < e ∨ e + 7 < c) (ho : kit I e W N) (h : ∀ J, (∀ a, (a < c ∨ c + 7 < a) → J a = I a) → kit J c W N → Q am_yv (m, sl, sh, J, R)) : am_wp (d) 20 0 [some (.inr (.inr (c))), some (.inr (.inr (e)))] [] (m, sl, sh, I, R) Q := by
  obtain ⟨c0, ⟨c1, c2, c3, c4, c5, c6, c7⟩, ⟨d1, d2, d3, d4, d5, d6, d7⟩, c8⟩ := hc
  obtain ⟨e0, ⟨e1, e2, e3, e4, e5, e6, e7⟩, ⟨f1, f2, f3, f4, f5, f6, f7⟩, e8⟩ := he
  obtain ⟨w, ⟨k1, k2, k3, k4, k5, k6, k7, k8, k9⟩, ks, kn, kg, kk⟩ := ho
  have n1 := wk_nS w
  have n2 := wk_nG w
  have n3 := wk_nK w
  refine am_wp_go rfl (by simp (disch := omega) only [c0, c1, c2, c3, c4, c5, c6, c7, d1, d2, d3, d4, d5, d6, d7, e0, e1, e2, e3, e4, e5, e6, e7, f1, f2, f3, f4, f5, f6, f7, Int.reduceToNat, am_cpyO, am_addE, am_subE, am_mulE, am_laddE, am_lsubE, am_upO, am_upS, am_stS, am_stO, am_tnn, am_brl, am_brg, am_bre, am_brn, am_brG, am_brL, am_st1, am_no2, am_st2, am_clr, and_self, true_and, and_true, true_or, or_true, List.length_cons, List.length_nil] <;> omega) ?_
  try simp (disch := omega) only [c0, c1, c2, c3, c4, c5, c6, c7, d1, d2, d3, d4, d5, d6, d7, e0, e1, e2, e3, e4, e5, e6, e7, f1, f2, f3, f4, f5, f6, f7, Int.reduceToNat, am_cpyO, am_addE, am_subE, am_mulE, am_laddE, am_lsubE, am_upO, am_upS, am_stS, am_stO, am_tnn, am_brl, am_brg, am_bre, am_brn, am_brG, am_brL, am_st1, am_no2, am_st2, am_clr]
  refine am_wp_ret rfl rfl ?_
  refine h _ (fun a ha => ?_) ⟨w, ⟨?_, ?_, ?_, ?_, ?_, ?_, ?_, ?_, ?_⟩, fun s hs => ?_, fun s hs => ?_, fun s hs => ?_, fun s hs => ?_⟩
  · simp (disch := omega) only [am_cpyO, am_upO]
  · simp (disch := omega) only [am_cpyO, am_upO, am_upS, am_stO, am_stS]; exact k1
  · simp (disch := omega) only [am_cpyO, am_upO, am_upS, am_stO, am_stS]; exact k2
  · simp (disch := omega) only [am_cpyO, am_upO, am_upS, am_stO, am_stS]; exact k3
  · simp (disch := omega) only [am_cpyO, am_upO, am_upS, am_stO, am_stS]; exact k4
  · simp (disch := omega) only [am_cpyO, am_upO, am_upS, am_stO, am_stS]; exact k5
  · simp (disch := omega) only [am_cpyO, am_upO, am_upS, am_stO, am_stS]; exact k6
  · simp (disch := omega) only [am_cpyO, am_upO, am_upS, am_stO, am_stS]; exact k7
  · simp (disch := omega) only [am_cpyO, am_upO, am_upS, am_stO, am_stS]; exact k8
  · simp (disch := omega) only [am_cpyO, am_upO, am_upS, am_stO, am_stS]; exact k9
  · simp (disch := omega) only [am_cpyO, am_upO, am_cpyS, if_pos, Nat.zero_add, Nat.sub_zero]; exact ks s hs
  · simp (disch := omega) only [am_cpyO, am_upO, am_cpyS, if_pos, Nat.zero_add, Nat.sub_zero]; exact kn s hs
  · simp (disch := omega) only [am_cpyO, am_upO, am_cpyS, if_pos, Nat.zero_add, Nat.sub_zero]; exact kg s hs
  · simp (disch := omega) only [am_cpyO, am_upO, am_cpyS, if_pos, Nat.zero_add, Nat.sub_zero]; exact kk s hs
theorem w_sncopy (hc : sn_is sh R c) (he : sn_is sh R e) (hd : c + 4 < e ∨ e + 4 < c) (ho : sen I e W) (h : ∀ J, (∀ a, (a < c ∨ c + 3 < a) → J a = I a) → sen J c W → Q am_yv (m, sl, sh, J, R)) : am_wp (d) 81 0 [some (.inr (.inr (c))), some (.inr (.inr (e)))] [] (m, sl, sh, I, R) Q := by
  obtain ⟨c0, ⟨c1, c2, c3, c4⟩, ⟨d1, d2, d3, d4⟩, c8⟩ := hc
  obtain ⟨e0, ⟨e1, e2, e3, e4⟩, ⟨f1, f2, f3, f4⟩, e8⟩ := he
  obtain ⟨n, n1, n2⟩ : ∃ n : Nat, I e 4 = (n : Int) ∧ n ≤ 40 := by
    rcases ho with ⟨-, h⟩ | ⟨-, n, h1, h2, h3, -⟩
    · exact ⟨0, h, by decide⟩
    · exact ⟨n, h3, h2⟩
  refine am_wp_go rfl (by simp (disch := omega) only [c0, c1, c2, c3, c4, d1, d2, d3, e0, e1, e2, e3, f1, f2, f3, n1, Int.reduceToNat, am_cpyO, am_addE, am_subE, am_mulE, am_laddE, am_lsubE, am_upO, am_upS, am_stS, am_stO, am_tnn, am_brl, am_brg, am_bre, am_brn, am_brG, am_brL, am_st1, am_no2, am_st2, am_clr, and_self, true_and, and_true, true_or, or_true, List.length_cons, List.length_nil] <;> omega) ?_
  try simp (disch := omega) only [c0, c1, c2, c3, c4, d1, d2, d3, e0, e1, e2, e3, f1, f2, f3, n1, Int.reduceToNat, am_cpyO, am_addE, am_subE, am_mulE, am_laddE, am_lsubE, am_upO, am_upS, am_stS, am_stO, am_tnn, am_brl, am_brg, am_bre, am_brn, am_brG, am_brL, am_st1, am_no2, am_st2, am_clr]
  refine am_wp_ret rfl rfl ?_
  have g4 : ∀ J : Nat → Nat → Int, J = J := fun _ => rfl
  refine h _ (fun a ha => ?_) ?_
  · simp (disch := omega) only [am_cpyO, am_upO]
  · rcases ho with ⟨h1, h2⟩ | ⟨h1, n3, h2, h3, h4, h5, h6, h7⟩
    · refine Or.inl ⟨h1, ?_⟩
      simp (disch := omega) only [am_cpyO, am_upO, am_upS, am_stO, am_stS]
      omega
    · have hn : n3 = n := by omega
      subst hn
      refine Or.inr ⟨h1, n3, h2, h3, ?_, h5, ?_, fun i hi => sx_node_cg (h7 i hi) (fun j hj => ?_) ?_ ?_⟩
      · simp (disch := omega) only [am_cpyO, am_upO, am_upS, am_stO, am_stS]
      · rw [sx_stk_cg (c := I (e + 1)) (fun i hi => ?_)]
        · exact h6
        · simp (disch := omega) only [am_cpyO, am_upO, am_cpyS, if_pos, Nat.zero_add, Nat.sub_zero]
      · simp (disch := omega) only [am_cpyO, am_upO, am_cpyS, if_pos, Nat.zero_add, Nat.sub_zero]
      · simp (disch := omega) only [am_cpyO, am_upO, am_cpyS, if_pos, Nat.zero_add, Nat.sub_zero]
      · simp (disch := omega) only [am_cpyO, am_upO, am_cpyS, if_pos, Nat.zero_add, Nat.sub_zero]
theorem w_stcopy {t u : Nat} (hw : wd sh R) (ht : t = 5 ∨ t = 92 ∨ t = 108) (hu : u = 5 ∨ u = 92 ∨ u = 108) (htu : t ≠ u) (hk : kit I (u + 1) W N) (hp : pl I (u + 9) G) (hs : sen I (u + 11) W) (h : ∀ J, (∀ a, (a ≤ t ∨ t + 14 < a) → J a = I a) → kit J (t + 1) W N → pl J (t + 9) G → sen J (t + 11) W → Q am_yv (m, sl, sh, J, R)) : am_wp (d + 1) 115 0 [some (.inr (.inr (t))), some (.inr (.inr (u)))] [] (m, sl, sh, I, R) Q := by
  obtain ⟨t1, t2, t3, t4, t5, t6⟩ := st_w hw ht
  obtain ⟨u1, u2, u3, u4, u5, u6⟩ := st_w hw hu
  have s1 : sn_is sh R (t + 11) := sn_w hw (by omega)
  have s2 : sn_is sh R (u + 11) := sn_w hw (by omega)
  refine am_wp_go rfl (by simp (disch := omega) only [t1, t2, t3, t4, u1, u2, u3, u4, am_addE, am_subE, am_mulE, am_laddE, am_lsubE, am_upO, am_upS, am_stS, am_stO, am_tnn, am_brl, am_brg, am_bre, am_brn, am_brG, am_brL, am_st1, am_no2, am_st2, am_clr, and_self, true_and, and_true, true_or, or_true, List.length_cons, List.length_nil] <;> omega) ?_
  try simp (disch := omega) only [t1, t2, t3, t4, u1, u2, u3, u4, am_addE, am_subE, am_mulE, am_laddE, am_lsubE, am_upO, am_upS, am_stS, am_stO, am_tnn, am_brl, am_brg, am_bre, am_brn, am_brG, am_brL, am_st1, am_no2, am_st2, am_clr]
  refine am_wp_cc rfl rfl rfl (congrArg Prod.fst (t5.1)) (w_ktcopy t5 u5 (by omega) hk (fun J j1 j2 => ⟨_, rfl, ?_⟩))
  refine am_wp_go rfl (by simp (disch := omega) only [t1, t2, t3, t4, u1, u2, u3, u4, am_addE, am_subE, am_mulE, am_laddE, am_lsubE, am_upO, am_upS, am_stS, am_stO, am_tnn, am_brl, am_brg, am_bre, am_brn, am_brG, am_brL, am_st1, am_no2, am_st2, am_clr, and_self, true_and, and_true, true_or, or_true, List.length_cons, List.length_nil] <;> omega) ?_
  try simp (disch := omega) only [t1, t2, t3, t4, u1, u2, u3, u4, am_addE, am_subE, am_mulE, am_laddE, am_lsubE, am_upO, am_upS, am_stS, am_stO, am_tnn, am_brl, am_brg, am_bre, am_brn, am_brG, am_brL, am_st1, am_no2, am_st2, am_clr]
  refine am_wp_cc rfl rfl rfl (congrArg Prod.fst (t6.1)) (w_plcopy t6 u6 (by omega) (by omega) (by omega) (pl_fr hp (j1 _ (by omega)) (j1 _ (by omega))) (fun K k1 k2 => ⟨_, rfl, ?_⟩))
  refine am_wp_go rfl (by simp (disch := omega) only [t1, t2, t3, t4, u1, u2, u3, u4, am_addE, am_subE, am_mulE, am_laddE, am_lsubE, am_upO, am_upS, am_stS, am_stO, am_tnn, am_brl, am_brg, am_bre, am_brn, am_brG, am_brL, am_st1, am_no2, am_st2, am_clr, and_self, true_and, and_true, true_or, or_true, List.length_cons, List.length_nil] <;> omega) ?_
  try simp (disch := omega) only [t1, t2, t3, t4, u1, u2, u3, u4, am_addE, am_subE, am_mulE, am_laddE, am_lsubE, am_upO, am_upS, am_stS, am_stO, am_tnn, am_brl, am_brg, am_bre, am_brn, am_brG, am_brL, am_st1, am_no2, am_st2, am_clr]
  refine am_wp_cc rfl rfl rfl (congrArg Prod.fst (s1.1)) (w_sncopy s1 s2 (by omega) (sen_fr hs (by rw [k1 _ (by omega) (by omega), j1 _ (by omega)]) (by rw [k1 _ (by omega) (by omega), j1 _ (by omega)]) (by rw [k1 _ (by omega) (by omega), j1 _ (by omega)]) (by rw [k1 _ (by omega) (by omega), j1 _ (by omega)])) (fun L l1 l2 => ⟨_, rfl, ?_⟩))
  refine am_wp_ret rfl rfl ?_
  exact h L (fun a ha => by rw [l1 a (by omega), k1 a (by omega) (by omega), j1 a (by omega)]) (kit_fr j2 (fun a h1 h2 => by rw [l1 a (by omega), k1 a (by omega) (by omega)])) (pl_fr k2 (l1 _ (by omega)) (l1 _ (by omega))) l2
end COPY
