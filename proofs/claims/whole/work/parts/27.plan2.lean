/-! A PLAN'S OWN METHODS, the rest -/
theorem am_shlK : ∀ s : Fin 32, ((Int32.ofInt ((s.val : Nat) : Int) &&& 31).toBitVec.smod 32).toNat = s.val := by decide +kernel
theorem am_ushrK : ∀ s : Fin 32, (((Int32.ofInt ((s.val : Nat) : Int)).toUInt32 &&& Int32.toUInt32 31).toBitVec % 32).toNat = s.val := by decide +kernel
theorem am_shlN {x : Int} {s : Nat} (h : 0 ≤ x ∧ s < 32 ∧ x * 2 ^ s ≤ 2147483647) : am_shl x (s : Int) = x * 2 ^ s := am_shl_eq h.1 s (am_shlK ⟨s, h.2.1⟩) (by omega)
theorem am_shl1 {s : Nat} (h : s < 31) : am_shl 1 (s : Int) = ((2 ^ s : Nat) : Int) := by
  have h1 : (2 ^ s : Nat) ≤ 2 ^ 30 := Nat.pow_le_pow_right (by decide) (by omega)
  have h2 : ((2 ^ s : Nat) : Int) = 2 ^ s := by simp
  rw [am_shlN ⟨by decide, by omega, by rw [Int.one_mul, ← h2]; omega⟩, Int.one_mul, h2]
theorem am_ushrN {x : Int} {s : Nat} (h : 0 ≤ x ∧ x ≤ 2147483647 ∧ s < 32) : am_ushr x (s : Int) = x / 2 ^ s := am_ushr_eq h.1 (by omega) s (am_ushrK ⟨s, h.2.2⟩)
theorem am_orN {a b : Nat} (h : a ≤ 2147483647 ∧ b ≤ 2147483647) : am_or (a : Int) (b : Int) = ((a ||| b : Nat) : Int) := am_or_nat (by omega) (by omega)
theorem am_andN {a b : Nat} (h : a ≤ 2147483647 ∧ b ≤ 2147483647) : am_and (a : Int) (b : Int) = ((a &&& b : Nat) : Int) := am_and_nat (by omega) (by omega)
theorem ax_p8 {s : Nat} (h : s < 8) : 2 ^ s < 256 := Nat.lt_of_le_of_lt (Nat.pow_le_pow_right (by decide) (by omega : s ≤ 7)) (by decide)
theorem ax_or8 {a b : Nat} (ha : a < 256) (hb : b < 256) : a ||| b < 256 := Nat.or_lt_two_pow (n := 8) ha hb
/-- bits put together -/
def ax_or (f : Nat → Nat) : Nat → Nat
  | 0 => 0
  | k + 1 => ax_or f k ||| f k
theorem ax_or_lt {f : Nat → Nat} {n : Nat} (h : ∀ k, k < n → f k < 256) : ax_or f n < 256 := by
  induction n with
  | zero => exact (by decide : 0 < 256)
  | succ n ih => exact ax_or8 (ih (fun k hk => h k (by omega))) (h n (by omega))
theorem ax_tb {o s : Nat} : o.testBit s = true ↔ o / 2 ^ s % 2 = 1 := by rw [Nat.testBit_eq_decide_div_mod_eq, decide_eq_true_iff]
theorem gs_app {G : List Go} {g : Go} {k : Nat} (h : k < G.length) : gs (G ++ [g]) k = gs G k := by
  unfold gs; simp only [List.getD_eq_getElem?_getD, List.getElem?_append_left h]
theorem gs_app2 {G : List Go} {g : Go} : gs (G ++ [g]) G.length = g := by
  unfold gs; simp
theorem gs_set {G : List Go} {g : Go} {k : Nat} (h : k < G.length) : gs (G.set k g) k = g := by
  unfold gs; simp [List.getD_eq_getElem?_getD, h]
theorem gs_set2 {G : List Go} {g : Go} {k j : Nat} (h : j ≠ k) : gs (G.set k g) j = gs G j := by
  unfold gs; simp only [List.getD_eq_getElem?_getD]; rw [List.getElem?_set_ne (by omega)]
theorem gs_del {G : List Go} {k j : Nat} : gs (G.eraseIdx k) j = if j < k then gs G j else gs G (j + 1) := by
  unfold gs
  simp only [List.getD_eq_getElem?_getD, List.getElem?_eraseIdx]
  split <;> rfl
def go_ok (g : Go) : Prop := 0 ≤ g.1 ∧ g.1 < 8 ∧ 0 ≤ g.2.1 ∧ g.2.1 ≤ 1 ∧ 0 ≤ g.2.2.1 ∧ g.2.2.1 ≤ 900 ∧ 0 ≤ g.2.2.2.1 ∧ g.2.2.2.1 < 4 ∧ 1 ≤ g.2.2.2.2 ∧ g.2.2.2.2 ≤ 20
section PLAN
variable {m sl : Nat} {sh : Nat → Nat × Nat} {I : Nat → Nat → Int} {R : Nat → Nat → Nat} {Q : am_R → am_M → Prop} {d p : Nat} {G : List Go} {k : Nat}
theorem w_plclear (hp : pl_is sh R p) (h : ∀ J, (∀ a, a ≠ p → J a = I a) → pl J p [] → Q am_yv (m, sl, sh, J, R)) : am_wp (d) 58 0 [some (.inr (.inr (p)))] [] (m, sl, sh, I, R) Q := by
  obtain ⟨h1, h2, h3, h4⟩ := hp
  refine am_wp_go rfl (by simp (disch := omega) only [h1, h2, h3, am_addE, am_subE, am_mulE, am_laddE, am_lsubE, am_upO, am_upS, am_stS, am_stO, am_tnn, am_brl, am_brg, am_bre, am_brn, am_brG, am_brL, am_st1, am_no2, am_st2, am_clr, and_self, true_and, and_true, true_or, or_true, List.length_cons, List.length_nil] <;> omega) ?_
  refine am_wp_ret rfl rfl ?_
  refine h _ (fun a ha => am_upO ha) ⟨?_, by decide, fun k hk => absurd hk (Nat.not_lt_zero k)⟩
  rw [am_upS, am_stS rfl]
  rfl
theorem w_plcopy {q : Nat} (hp : pl_is sh R p) (hq : pl_is sh R q) (hpq : p ≠ q) (hpq1 : p ≠ q + 1) (hpq2 : p + 1 ≠ q) (ho : pl I q G) (h : ∀ J, (∀ a, a ≠ p → a ≠ p + 1 → J a = I a) → pl J p G → Q am_yv (m, sl, sh, J, R)) : am_wp (d) 59 0 [some (.inr (.inr (p))), some (.inr (.inr (q)))] [] (m, sl, sh, I, R) Q := by
  obtain ⟨h1, h2, h3, h4⟩ := hp
  obtain ⟨g1, g2, g3, g4⟩ := hq
  obtain ⟨o1, o2, o3⟩ := id ho
  refine am_wp_go rfl (by simp (disch := omega) only [h1, h2, h3, g1, g2, g3, o1, am_addE, am_subE, am_mulE, am_laddE, am_lsubE, am_upO, am_upS, am_stS, am_stO, am_tnn, am_brl, am_brg, am_bre, am_brn, am_brG, am_brL, am_st1, am_no2, am_st2, am_clr, and_self, true_and, and_true, true_or, or_true, List.length_cons, List.length_nil] <;> omega) ?_
  refine am_wp_ret rfl rfl ?_
  refine h _ (fun a ha hb => ?_) ⟨?_, o2, fun k hk => ?_⟩
  · funext j
    unfold am_cpy
    rw [h2, if_neg (fun h => hb h.1), am_upO ha]
  · unfold am_cpy
    rw [h2, if_neg (fun h => by omega), am_upS, am_stS rfl, o1]
  · have := o3 k hk
    unfold am_cpy
    rw [h2, g2]
    rw [if_pos ⟨rfl, Nat.zero_le k, by rw [am_upS, am_stS rfl, o1]; show k < 0 + ((G.length : Int)).toNat; omega⟩]
    rw [am_upO (by omega), show (0 : Int).toNat + (k - (0 : Int).toNat) = k by omega]
    exact this
theorem w_plhas {v : Int} (hp : pl_is sh R p) (ho : pl I p G) (h : Q (am_yi (am_b (0 ≤ v ∧ v < G.length))) (m, sl, sh, I, R)) : am_wp (d) 60 0 [some (.inr (.inr (p))), some (.inl (v))] [] (m, sl, sh, I, R) Q := by
  obtain ⟨h1, h2, h3, h4⟩ := hp
  obtain ⟨o1, o2, o3⟩ := ho
  refine am_wp_go rfl (by simp (disch := omega) only [h1, h2, h3, o1, am_addE, am_subE, am_mulE, am_laddE, am_lsubE, am_upO, am_upS, am_stS, am_stO, am_tnn, am_brl, am_brg, am_bre, am_brn, am_brG, am_brL, am_st1, am_no2, am_st2, am_clr, and_self, true_and, and_true, true_or, or_true, List.length_cons, List.length_nil] <;> omega) ?_
  try simp (disch := omega) only [h1, h2, h3, o1, am_addE, am_subE, am_mulE, am_laddE, am_lsubE, am_upO, am_upS, am_stS, am_stO, am_tnn, am_brl, am_brg, am_bre, am_brn, am_brG, am_brL, am_st1, am_no2, am_st2, am_clr]
  refine am_wp_br (fun h5 => ?_) (fun h5 => ?_)
  · refine am_wp_go rfl (by simp (disch := omega) only [h1, h2, h3, o1, am_addE, am_subE, am_mulE, am_laddE, am_lsubE, am_upO, am_upS, am_stS, am_stO, am_tnn, am_brl, am_brg, am_bre, am_brn, am_brG, am_brL, am_st1, am_no2, am_st2, am_clr, and_self, true_and, and_true, true_or, or_true, List.length_cons, List.length_nil] <;> omega) ?_
    try simp (disch := omega) only [h1, h2, h3, o1, am_addE, am_subE, am_mulE, am_laddE, am_lsubE, am_upO, am_upS, am_stS, am_stO, am_tnn, am_brl, am_brg, am_bre, am_brn, am_brG, am_brL, am_st1, am_no2, am_st2, am_clr]
    refine am_wp_ret rfl rfl ?_
    rwa [am_bF (by omega)] at h
  · refine am_wp_go rfl (by simp (disch := omega) only [h1, h2, h3, o1, am_addE, am_subE, am_mulE, am_laddE, am_lsubE, am_upO, am_upS, am_stS, am_stO, am_tnn, am_brl, am_brg, am_bre, am_brn, am_brG, am_brL, am_st1, am_no2, am_st2, am_clr, and_self, true_and, and_true, true_or, or_true, List.length_cons, List.length_nil] <;> omega) ?_
    try simp (disch := omega) only [h1, h2, h3, o1, am_addE, am_subE, am_mulE, am_laddE, am_lsubE, am_upO, am_upS, am_stS, am_stO, am_tnn, am_brl, am_brg, am_bre, am_brn, am_brG, am_brL, am_st1, am_no2, am_st2, am_clr]
    refine am_wp_br (fun h9 => ?_) (fun h9 => ?_)
    · refine am_wp_go rfl (by simp (disch := omega) only [h1, h2, h3, o1, am_addE, am_subE, am_mulE, am_laddE, am_lsubE, am_upO, am_upS, am_stS, am_stO, am_tnn, am_brl, am_brg, am_bre, am_brn, am_brG, am_brL, am_st1, am_no2, am_st2, am_clr, and_self, true_and, and_true, true_or, or_true, List.length_cons, List.length_nil] <;> omega) ?_
      try simp (disch := omega) only [h1, h2, h3, o1, am_addE, am_subE, am_mulE, am_laddE, am_lsubE, am_upO, am_upS, am_stS, am_stO, am_tnn, am_brl, am_brg, am_bre, am_brn, am_brG, am_brL, am_st1, am_no2, am_st2, am_clr]
      refine am_wp_ret rfl rfl ?_
      rwa [am_bF (by omega)] at h
    · refine am_wp_go rfl (by simp (disch := omega) only [h1, h2, h3, o1, am_addE, am_subE, am_mulE, am_laddE, am_lsubE, am_upO, am_upS, am_stS, am_stO, am_tnn, am_brl, am_brg, am_bre, am_brn, am_brG, am_brL, am_st1, am_no2, am_st2, am_clr, and_self, true_and, and_true, true_or, or_true, List.length_cons, List.length_nil] <;> omega) ?_
      try simp (disch := omega) only [h1, h2, h3, o1, am_addE, am_subE, am_mulE, am_laddE, am_lsubE, am_upO, am_upS, am_stS, am_stO, am_tnn, am_brl, am_brg, am_bre, am_brn, am_brG, am_brL, am_st1, am_no2, am_st2, am_clr]
      refine am_wp_ret rfl rfl ?_
      rwa [am_bT (by omega)] at h
theorem pl_app {J : Nat → Nat → Int} {g : Go} (ho : pl I p G) (hn : G.length < 400) (hg : go_ok g) (e1 : J p 1 = G.length + 1) (e2 : J (p + 1) = am_set (I (p + 1)) G.length (2 * g.1 + g.2.1 + 16 * g.2.2.2.1 + 64 * g.2.2.2.2 + 2048 * g.2.2.1)) : pl J p (G ++ [g]) := by
  obtain ⟨o1, o2, o3⟩ := ho
  refine ⟨?_, by simp; omega, fun k hk => ?_⟩
  · rw [e1]; simp
  · rw [List.length_append, List.length_singleton] at hk
    unfold gS gU gB gL gN
    rw [e2]
    by_cases hk2 : k < G.length
    · rw [gs_app hk2, am_stO (by omega)]
      exact o3 k hk2
    · have : k = G.length := by omega
      subst this
      rw [gs_app2, am_stS rfl]
      exact ⟨rfl, hg⟩
theorem w_append {g : Go} {side b l n : Int} (hp : pl_is sh R p) (ho : pl I p G) (hn : G.length < 400) (hg : go_ok g) (e0 : side = 2 * g.1 + g.2.1) (e1 : b = g.2.2.1) (e2 : l = g.2.2.2.1) (e3 : n = g.2.2.2.2) (h : ∀ J, (∀ a, a ≠ p → a ≠ p + 1 → J a = I a) → pl J p (G ++ [g]) → Q (am_yi G.length) (m, sl, sh, J, R)) : am_wp (d) 67 0 [some (.inr (.inr (p))), some (.inl (side)), some (.inl (b)), some (.inl (l)), some (.inl (n))] [] (m, sl, sh, I, R) Q := by
  obtain ⟨h1, h2, h3, h4⟩ := hp
  obtain ⟨o1, o2, o3⟩ := id ho
  obtain ⟨g0, g1, g2, g3, g4, g5, g6, g7, g8, g9⟩ := id hg
  subst e1 e2 e3
  refine am_wp_go rfl (by simp (disch := omega) only [h1, h2, h3, o1, am_shl4, am_shl6, am_shl11, am_or16, am_or64, am_or2048, am_addE, am_subE, am_mulE, am_laddE, am_lsubE, am_upO, am_upS, am_stS, am_stO, am_tnn, am_brl, am_brg, am_bre, am_brn, am_brG, am_brL, am_st1, am_no2, am_st2, am_clr, and_self, true_and, and_true, true_or, or_true, List.length_cons, List.length_nil] <;> omega) ?_
  try simp (disch := omega) only [h1, h2, h3, o1, am_shl4, am_shl6, am_shl11, am_or16, am_or64, am_or2048, am_addE, am_subE, am_mulE, am_laddE, am_lsubE, am_upO, am_upS, am_stS, am_stO, am_tnn, am_brl, am_brg, am_bre, am_brn, am_brG, am_brL, am_st1, am_no2, am_st2, am_clr]
  refine am_wp_br (fun h7 => ?_) (fun h7 => ?_)
  · refine am_wp_go rfl (by simp (disch := omega) only [h1, h2, h3, o1, am_shl4, am_shl6, am_shl11, am_or16, am_or64, am_or2048, am_addE, am_subE, am_mulE, am_laddE, am_lsubE, am_upO, am_upS, am_stS, am_stO, am_tnn, am_brl, am_brg, am_bre, am_brn, am_brG, am_brL, am_st1, am_no2, am_st2, am_clr, and_self, true_and, and_true, true_or, or_true, List.length_cons, List.length_nil] <;> omega) ?_
    try simp (disch := omega) only [h1, h2, h3, o1, am_shl4, am_shl6, am_shl11, am_or16, am_or64, am_or2048, am_addE, am_subE, am_mulE, am_laddE, am_lsubE, am_upO, am_upS, am_stS, am_stO, am_tnn, am_brl, am_brg, am_bre, am_brn, am_brG, am_brL, am_st1, am_no2, am_st2, am_clr]
    refine am_wp_ret rfl rfl ?_
    rw [show (G.length : Int) + 1 - 1 = G.length by omega]
    refine h _ (fun a ha hb => ?_) (pl_app ho hn hg ?_ ?_)
    · rw [am_upO ha, am_upO hb]
    · rw [am_upS, am_stS rfl]
    · rw [am_upO (by omega), am_upS]
      congr 1
      omega
  · omega
theorem w_lengthen (hp : pl_is sh R p) (ho : pl I p G) (hk : k < G.length) (hn : gN G k < 20) (h : ∀ J, (∀ a, a ≠ p → a ≠ p + 1 → J a = I a) → pl J p (G.set k (gS G k, gU G k, gB G k, gL G k, gN G k + 1)) → Q am_yv (m, sl, sh, J, R)) : am_wp (d + 1) 68 0 [some (.inr (.inr (p))), some (.inl ((k : Int)))] [] (m, sl, sh, I, R) Q := by
  obtain ⟨h1, h2, h3, h4⟩ := id hp
  obtain ⟨o1, o2, o3⟩ := id ho
  refine am_wp_go rfl (by simp (disch := omega) only [h1, h2, h3, o1, am_b0, am_addE, am_subE, am_mulE, am_laddE, am_lsubE, am_upO, am_upS, am_stS, am_stO, am_tnn, am_brl, am_brg, am_bre, am_brn, am_brG, am_brL, am_st1, am_no2, am_st2, am_clr, and_self, true_and, and_true, true_or, or_true, List.length_cons, List.length_nil] <;> omega) ?_
  try simp (disch := omega) only [h1, h2, h3, o1, am_b0, am_addE, am_subE, am_mulE, am_laddE, am_lsubE, am_upO, am_upS, am_stS, am_stO, am_tnn, am_brl, am_brg, am_bre, am_brn, am_brG, am_brL, am_st1, am_no2, am_st2, am_clr]
  refine am_wp_cc rfl rfl rfl (congrArg Prod.fst hp.1) (w_plhas hp ho ⟨_, rfl, ?_⟩)
  refine am_wp_go rfl (by simp (disch := omega) only [h1, h2, h3, o1, am_b0, am_addE, am_subE, am_mulE, am_laddE, am_lsubE, am_upO, am_upS, am_stS, am_stO, am_tnn, am_brl, am_brg, am_bre, am_brn, am_brG, am_brL, am_st1, am_no2, am_st2, am_clr, and_self, true_and, and_true, true_or, or_true, List.length_cons, List.length_nil] <;> omega) ?_
  try simp (disch := omega) only [h1, h2, h3, o1, am_b0, am_addE, am_subE, am_mulE, am_laddE, am_lsubE, am_upO, am_upS, am_stS, am_stO, am_tnn, am_brl, am_brg, am_bre, am_brn, am_brG, am_brL, am_st1, am_no2, am_st2, am_clr]
  refine am_wp_br (fun h5 => ?_) (fun h5 => ?_)
  · omega
  · obtain ⟨e, r⟩ := o3 k hk
    refine am_wp_go rfl (by simp (disch := omega) only [h1, h2, h3, o1, am_b0, am_addE, am_subE, am_mulE, am_laddE, am_lsubE, am_upO, am_upS, am_stS, am_stO, am_tnn, am_brl, am_brg, am_bre, am_brn, am_brG, am_brL, am_st1, am_no2, am_st2, am_clr, and_self, true_and, and_true, true_or, or_true, List.length_cons, List.length_nil] <;> omega) ?_
    try simp (disch := omega) only [h1, h2, h3, o1, am_b0, am_addE, am_subE, am_mulE, am_laddE, am_lsubE, am_upO, am_upS, am_stS, am_stO, am_tnn, am_brl, am_brg, am_bre, am_brn, am_brG, am_brL, am_st1, am_no2, am_st2, am_clr]
    refine am_wp_ret rfl rfl ?_
    refine h _ (fun a ha hb => am_upO hb) ⟨?_, by rw [List.length_set]; exact o2, fun j hj => ?_⟩
    · rw [am_upO (by omega), List.length_set]; exact o1
    · rw [List.length_set] at hj
      unfold gS gU gB gL gN
      rw [am_upS]
      by_cases hjk : j = k
      · subst hjk
        rw [gs_set hj, am_stS rfl]
        unfold gS gU gB gL gN at *
        refine ⟨?_, by dsimp only; omega⟩
        dsimp only
        omega
      · rw [gs_set2 hjk, am_stO hjk]
        exact o3 j hj
theorem w_moveTo {b : Int} (hp : pl_is sh R p) (ho : pl I p G) (hk : k < G.length) (hb : 0 ≤ b ∧ b ≤ 900) (h : ∀ J, (∀ a, a ≠ p + 1 → J a = I a) → pl J p (G.set k (gS G k, gU G k, b, gL G k, gN G k)) → Q am_yv (m, sl, sh, J, R)) : am_wp (d + 1) 69 0 [some (.inr (.inr (p))), some (.inl ((k : Int))), some (.inl (b))] [] (m, sl, sh, I, R) Q := by
  obtain ⟨h1, h2, h3, h4⟩ := id hp
  obtain ⟨o1, o2, o3⟩ := id ho
  obtain ⟨e, r⟩ := o3 k hk
  refine am_wp_go rfl (by simp (disch := omega) only [h1, h2, h3, o1, am_b0, am_and2047, am_shl11, am_or2048, am_addE, am_subE, am_mulE, am_laddE, am_lsubE, am_upO, am_upS, am_stS, am_stO, am_tnn, am_brl, am_brg, am_bre, am_brn, am_brG, am_brL, am_st1, am_no2, am_st2, am_clr, and_self, true_and, and_true, true_or, or_true, List.length_cons, List.length_nil] <;> omega) ?_
  try simp (disch := omega) only [h1, h2, h3, o1, am_b0, am_and2047, am_shl11, am_or2048, am_addE, am_subE, am_mulE, am_laddE, am_lsubE, am_upO, am_upS, am_stS, am_stO, am_tnn, am_brl, am_brg, am_bre, am_brn, am_brG, am_brL, am_st1, am_no2, am_st2, am_clr]
  refine am_wp_cc rfl rfl rfl (congrArg Prod.fst hp.1) (w_plhas hp ho ⟨_, rfl, ?_⟩)
  refine am_wp_go rfl (by simp (disch := omega) only [h1, h2, h3, o1, am_b0, am_and2047, am_shl11, am_or2048, am_addE, am_subE, am_mulE, am_laddE, am_lsubE, am_upO, am_upS, am_stS, am_stO, am_tnn, am_brl, am_brg, am_bre, am_brn, am_brG, am_brL, am_st1, am_no2, am_st2, am_clr, and_self, true_and, and_true, true_or, or_true, List.length_cons, List.length_nil] <;> omega) ?_
  try simp (disch := omega) only [h1, h2, h3, o1, am_b0, am_and2047, am_shl11, am_or2048, am_addE, am_subE, am_mulE, am_laddE, am_lsubE, am_upO, am_upS, am_stS, am_stO, am_tnn, am_brl, am_brg, am_bre, am_brn, am_brG, am_brL, am_st1, am_no2, am_st2, am_clr]
  refine am_wp_br (fun h5 => ?_) (fun h5 => ?_)
  · omega
  · refine am_wp_go rfl (by simp (disch := omega) only [h1, h2, h3, o1, am_b0, am_and2047, am_shl11, am_or2048, am_addE, am_subE, am_mulE, am_laddE, am_lsubE, am_upO, am_upS, am_stS, am_stO, am_tnn, am_brl, am_brg, am_bre, am_brn, am_brG, am_brL, am_st1, am_no2, am_st2, am_clr, and_self, true_and, and_true, true_or, or_true, List.length_cons, List.length_nil] <;> omega) ?_
    try simp (disch := omega) only [h1, h2, h3, o1, am_b0, am_and2047, am_shl11, am_or2048, am_addE, am_subE, am_mulE, am_laddE, am_lsubE, am_upO, am_upS, am_stS, am_stO, am_tnn, am_brl, am_brg, am_bre, am_brn, am_brG, am_brL, am_st1, am_no2, am_st2, am_clr]
    refine am_wp_ret rfl rfl ?_
    refine h _ (fun a hb => am_upO hb) ⟨?_, by rw [List.length_set]; exact o2, fun j hj => ?_⟩
    · rw [am_upO (by omega), List.length_set]; exact o1
    · rw [List.length_set] at hj
      unfold gS gU gB gL gN
      rw [am_upS]
      by_cases hjk : j = k
      · subst hjk
        rw [gs_set hj, am_stS rfl]
        unfold gS gU gB gL gN at *
        refine ⟨?_, by dsimp only; omega⟩
        dsimp only
        omega
      · rw [gs_set2 hjk, am_stO hjk]
        exact o3 j hj
theorem w_takeOut (hp : pl_is sh R p) (ho : pl I p G) (hk : k < G.length) (h : ∀ J, (∀ a, a ≠ p → a ≠ p + 1 → J a = I a) → pl J p (G.eraseIdx k) → Q am_yv (m, sl, sh, J, R)) : am_wp (d + 1) 70 0 [some (.inr (.inr (p))), some (.inl ((k : Int)))] [] (m, sl, sh, I, R) Q := by
  obtain ⟨h1, h2, h3, h4⟩ := id hp
  obtain ⟨o1, o2, o3⟩ := id ho
  refine am_wp_go rfl (by simp (disch := omega) only [h1, h2, h3, o1, am_b0, am_addE, am_subE, am_mulE, am_laddE, am_lsubE, am_upO, am_upS, am_stS, am_stO, am_tnn, am_brl, am_brg, am_bre, am_brn, am_brG, am_brL, am_st1, am_no2, am_st2, am_clr, and_self, true_and, and_true, true_or, or_true, List.length_cons, List.length_nil] <;> omega) ?_
  try simp (disch := omega) only [h1, h2, h3, o1, am_b0, am_addE, am_subE, am_mulE, am_laddE, am_lsubE, am_upO, am_upS, am_stS, am_stO, am_tnn, am_brl, am_brg, am_bre, am_brn, am_brG, am_brL, am_st1, am_no2, am_st2, am_clr]
  refine am_wp_cc rfl rfl rfl (congrArg Prod.fst hp.1) (w_plhas hp ho ⟨_, rfl, ?_⟩)
  refine am_wp_go rfl (by simp (disch := omega) only [h1, h2, h3, o1, am_b0, am_addE, am_subE, am_mulE, am_laddE, am_lsubE, am_upO, am_upS, am_stS, am_stO, am_tnn, am_brl, am_brg, am_bre, am_brn, am_brG, am_brL, am_st1, am_no2, am_st2, am_clr, and_self, true_and, and_true, true_or, or_true, List.length_cons, List.length_nil] <;> omega) ?_
  try simp (disch := omega) only [h1, h2, h3, o1, am_b0, am_addE, am_subE, am_mulE, am_laddE, am_lsubE, am_upO, am_upS, am_stS, am_stO, am_tnn, am_brl, am_brg, am_bre, am_brn, am_brG, am_brL, am_st1, am_no2, am_st2, am_clr]
  refine am_wp_br (fun h5 => ?_) (fun h5 => ?_)
  · omega
  · refine am_wp_go rfl (by simp (disch := omega) only [h1, h2, h3, o1, am_b0, am_addE, am_subE, am_mulE, am_laddE, am_lsubE, am_upO, am_upS, am_stS, am_stO, am_tnn, am_brl, am_brg, am_bre, am_brn, am_brG, am_brL, am_st1, am_no2, am_st2, am_clr, and_self, true_and, and_true, true_or, or_true, List.length_cons, List.length_nil] <;> omega) ?_
    refine am_wp_ret rfl rfl ?_
    have hl : (G.eraseIdx k).length = G.length - 1 := List.length_eraseIdx_of_lt hk
    rw [h2, o1, am_addE (by omega), am_subE (a := G.length) (b := k) (by omega), am_subE (by omega)]
    refine h _ (fun a ha hb => ?_) ⟨?_, by omega, fun j hj => ?_⟩
    · rw [am_upO ha]
      funext j
      unfold am_cpy
      rw [if_neg (fun h => hb h.1)]
    · rw [am_upS, am_stS rfl]
      unfold am_cpy
      rw [if_neg (by omega), o1, am_subE (by omega), hl]
      omega
    · rw [am_upO (by omega)]
      rw [hl] at hj
      unfold gS gU gB gL gN am_cpy
      rw [gs_del]
      by_cases hjk : j < k
      · rw [if_pos hjk, if_neg (by omega)]
        exact o3 j (by omega)
      · rw [if_neg hjk, if_pos (by omega), show ((k : Int) + 1).toNat + (j - (k : Int).toNat) = j + 1 by omega]
        exact o3 (j + 1) (by omega)
theorem w_lastEndOf {s : Int} (hp : pl_is sh R p) (ho : pl I p G) (h : Q (am_yi (am_fmax (fun k => if gS G k = s then gB G k + gN G k else 0) G.length)) (m, sl, sh, I, R)) : am_wp (d + 2) 72 0 [some (.inr (.inr (p))), some (.inl (s)), none, none] [] (m, sl, sh, I, R) Q := by
  obtain ⟨h1, h2, h3, h4⟩ := id hp
  obtain ⟨o1, o2, o3⟩ := id ho
  refine am_wp_go rfl (by simp (disch := omega) only [h1, h2, h3, o1, am_divE, am_addE, am_subE, am_mulE, am_laddE, am_lsubE, am_upO, am_upS, am_stS, am_stO, am_tnn, am_brl, am_brg, am_bre, am_brn, am_brG, am_brL, am_st1, am_no2, am_st2, am_clr, and_self, true_and, and_true, true_or, or_true, List.length_cons, List.length_nil] <;> omega) ?_
  try simp (disch := omega) only [h1, h2, h3, o1, am_divE, am_addE, am_subE, am_mulE, am_laddE, am_lsubE, am_upO, am_upS, am_stS, am_stO, am_tnn, am_brl, am_brg, am_bre, am_brn, am_brG, am_brL, am_st1, am_no2, am_st2, am_clr]
  refine am_lp0 (P := fun k => am_wp (d + 2) 72 4 [some (.inr (.inr (p))), some (.inl (s)), some (.inl (am_fmax (fun k => if gS G k = s then gB G k + gN G k else 0) k)), some (.inl ((k : Int)))] [] (m, sl, sh, I, R) Q) G.length (fun k hk ih => ?_)
  refine am_wp_go rfl (by simp (disch := omega) only [h1, h2, h3, o1, am_divE, am_addE, am_subE, am_mulE, am_laddE, am_lsubE, am_upO, am_upS, am_stS, am_stO, am_tnn, am_brl, am_brg, am_bre, am_brn, am_brG, am_brL, am_st1, am_no2, am_st2, am_clr, and_self, true_and, and_true, true_or, or_true, List.length_cons, List.length_nil] <;> omega) ?_
  try simp (disch := omega) only [h1, h2, h3, o1, am_divE, am_addE, am_subE, am_mulE, am_laddE, am_lsubE, am_upO, am_upS, am_stS, am_stO, am_tnn, am_brl, am_brg, am_bre, am_brn, am_brG, am_brL, am_st1, am_no2, am_st2, am_clr]
  refine am_wp_br (fun h9 => ?_) (fun h9 => ?_)
  · refine am_wp_go rfl (by simp (disch := omega) only [h1, h2, h3, o1, am_divE, am_addE, am_subE, am_mulE, am_laddE, am_lsubE, am_upO, am_upS, am_stS, am_stO, am_tnn, am_brl, am_brg, am_bre, am_brn, am_brG, am_brL, am_st1, am_no2, am_st2, am_clr, and_self, true_and, and_true, true_or, or_true, List.length_cons, List.length_nil] <;> omega) ?_
    try simp (disch := omega) only [h1, h2, h3, o1, am_divE, am_addE, am_subE, am_mulE, am_laddE, am_lsubE, am_upO, am_upS, am_stS, am_stO, am_tnn, am_brl, am_brg, am_bre, am_brn, am_brG, am_brL, am_st1, am_no2, am_st2, am_clr]
    refine am_wp_ret rfl rfl ?_
    rw [show G.length = k by omega] at h
    exact h
  · have h19 := o3 k (by omega)
    obtain ⟨e, r⟩ := h19
    refine am_wp_go rfl (by simp (disch := omega) only [h1, h2, h3, o1, am_divE, am_addE, am_subE, am_mulE, am_laddE, am_lsubE, am_upO, am_upS, am_stS, am_stO, am_tnn, am_brl, am_brg, am_bre, am_brn, am_brG, am_brL, am_st1, am_no2, am_st2, am_clr, and_self, true_and, and_true, true_or, or_true, List.length_cons, List.length_nil] <;> omega) ?_
    try simp (disch := omega) only [h1, h2, h3, o1, am_divE, am_addE, am_subE, am_mulE, am_laddE, am_lsubE, am_upO, am_upS, am_stS, am_stO, am_tnn, am_brl, am_brg, am_bre, am_brn, am_brG, am_brL, am_st1, am_no2, am_st2, am_clr]
    refine am_wp_cc rfl rfl rfl (congrArg Prod.fst hp.1) (w_sideOf hp ho (by omega) ⟨_, rfl, ?_⟩)
    have h20 := am_fmax_le (f := fun k => if gS G k = s then gB G k + gN G k else 0) (b := 1000) (by decide) (n := k) (fun j hj => by
        obtain ⟨e, r⟩ := o3 j (by omega)
        split <;> omega)
    refine am_wp_go rfl (by simp (disch := omega) only [h1, h2, h3, o1, am_divE, am_addE, am_subE, am_mulE, am_laddE, am_lsubE, am_upO, am_upS, am_stS, am_stO, am_tnn, am_brl, am_brg, am_bre, am_brn, am_brG, am_brL, am_st1, am_no2, am_st2, am_clr, and_self, true_and, and_true, true_or, or_true, List.length_cons, List.length_nil] <;> omega) ?_
    try simp (disch := omega) only [h1, h2, h3, o1, am_divE, am_addE, am_subE, am_mulE, am_laddE, am_lsubE, am_upO, am_upS, am_stS, am_stO, am_tnn, am_brl, am_brg, am_bre, am_brn, am_brG, am_brL, am_st1, am_no2, am_st2, am_clr]
    refine am_wp_br (fun h20 => ?_) (fun h20 => ?_)
    · refine am_wp_go rfl (by simp (disch := omega) only [h1, h2, h3, o1, am_divE, am_addE, am_subE, am_mulE, am_laddE, am_lsubE, am_upO, am_upS, am_stS, am_stO, am_tnn, am_brl, am_brg, am_bre, am_brn, am_brG, am_brL, am_st1, am_no2, am_st2, am_clr, and_self, true_and, and_true, true_or, or_true, List.length_cons, List.length_nil] <;> omega) ?_
      try simp (disch := omega) only [h1, h2, h3, o1, am_divE, am_addE, am_subE, am_mulE, am_laddE, am_lsubE, am_upO, am_upS, am_stS, am_stO, am_tnn, am_brl, am_brg, am_bre, am_brn, am_brG, am_brL, am_st1, am_no2, am_st2, am_clr]
      have h21 : gS G k ≠ s := by omega
      refine am_wp_ls (ih (by omega)) ?_
      simp only [am_fmax, if_neg h21, if_neg (show ¬ am_fmax (fun k => if gS G k = s then gB G k + gN G k else 0) k < 0 by omega)]
      rfl
    · refine am_wp_go rfl (by simp (disch := omega) only [h1, h2, h3, o1, am_divE, am_addE, am_subE, am_mulE, am_laddE, am_lsubE, am_upO, am_upS, am_stS, am_stO, am_tnn, am_brl, am_brg, am_bre, am_brn, am_brG, am_brL, am_st1, am_no2, am_st2, am_clr, and_self, true_and, and_true, true_or, or_true, List.length_cons, List.length_nil] <;> omega) ?_
      try simp (disch := omega) only [h1, h2, h3, o1, am_divE, am_addE, am_subE, am_mulE, am_laddE, am_lsubE, am_upO, am_upS, am_stS, am_stO, am_tnn, am_brl, am_brg, am_bre, am_brn, am_brG, am_brL, am_st1, am_no2, am_st2, am_clr]
      refine am_wp_cc rfl rfl rfl (congrArg Prod.fst hp.1) (w_endOf hp ho (by omega) ⟨_, rfl, ?_⟩)
      refine am_wp_go rfl (by simp (disch := omega) only [h1, h2, h3, o1, am_divE, am_addE, am_subE, am_mulE, am_laddE, am_lsubE, am_upO, am_upS, am_stS, am_stO, am_tnn, am_brl, am_brg, am_bre, am_brn, am_brG, am_brL, am_st1, am_no2, am_st2, am_clr, and_self, true_and, and_true, true_or, or_true, List.length_cons, List.length_nil] <;> omega) ?_
      try simp (disch := omega) only [h1, h2, h3, o1, am_divE, am_addE, am_subE, am_mulE, am_laddE, am_lsubE, am_upO, am_upS, am_stS, am_stO, am_tnn, am_brl, am_brg, am_bre, am_brn, am_brG, am_brL, am_st1, am_no2, am_st2, am_clr]
      have h21 : gS G k = s := by omega
      refine am_wp_ls (ih (by omega)) ?_
      simp only [am_fmax, if_pos h21]
      rfl
theorem w_goesOf {s : Int} (hp : pl_is sh R p) (ho : pl I p G) (h : Q (am_yi (ax_ct (fun k => decide (gS G k = s)) G.length)) (m, sl, sh, I, R)) : am_wp (d + 2) 73 0 [some (.inr (.inr (p))), some (.inl (s)), none, none] [] (m, sl, sh, I, R) Q := by
  obtain ⟨h1, h2, h3, h4⟩ := id hp
  obtain ⟨o1, o2, o3⟩ := id ho
  refine am_wp_go rfl (by simp (disch := omega) only [h1, h2, h3, o1, am_divE, am_addE, am_subE, am_mulE, am_laddE, am_lsubE, am_upO, am_upS, am_stS, am_stO, am_tnn, am_brl, am_brg, am_bre, am_brn, am_brG, am_brL, am_st1, am_no2, am_st2, am_clr, and_self, true_and, and_true, true_or, or_true, List.length_cons, List.length_nil] <;> omega) ?_
  try simp (disch := omega) only [h1, h2, h3, o1, am_divE, am_addE, am_subE, am_mulE, am_laddE, am_lsubE, am_upO, am_upS, am_stS, am_stO, am_tnn, am_brl, am_brg, am_bre, am_brn, am_brG, am_brL, am_st1, am_no2, am_st2, am_clr]
  refine am_lp0 (P := fun k => am_wp (d + 2) 73 4 [some (.inr (.inr (p))), some (.inl (s)), some (.inl ((ax_ct (fun k => decide (gS G k = s)) k : Int))), some (.inl ((k : Int)))] [] (m, sl, sh, I, R) Q) G.length (fun k hk ih => ?_)
  refine am_wp_go rfl (by simp (disch := omega) only [h1, h2, h3, o1, am_divE, am_addE, am_subE, am_mulE, am_laddE, am_lsubE, am_upO, am_upS, am_stS, am_stO, am_tnn, am_brl, am_brg, am_bre, am_brn, am_brG, am_brL, am_st1, am_no2, am_st2, am_clr, and_self, true_and, and_true, true_or, or_true, List.length_cons, List.length_nil] <;> omega) ?_
  try simp (disch := omega) only [h1, h2, h3, o1, am_divE, am_addE, am_subE, am_mulE, am_laddE, am_lsubE, am_upO, am_upS, am_stS, am_stO, am_tnn, am_brl, am_brg, am_bre, am_brn, am_brG, am_brL, am_st1, am_no2, am_st2, am_clr]
  refine am_wp_br (fun h9 => ?_) (fun h9 => ?_)
  · refine am_wp_go rfl (by simp (disch := omega) only [h1, h2, h3, o1, am_divE, am_addE, am_subE, am_mulE, am_laddE, am_lsubE, am_upO, am_upS, am_stS, am_stO, am_tnn, am_brl, am_brg, am_bre, am_brn, am_brG, am_brL, am_st1, am_no2, am_st2, am_clr, and_self, true_and, and_true, true_or, or_true, List.length_cons, List.length_nil] <;> omega) ?_
    try simp (disch := omega) only [h1, h2, h3, o1, am_divE, am_addE, am_subE, am_mulE, am_laddE, am_lsubE, am_upO, am_upS, am_stS, am_stO, am_tnn, am_brl, am_brg, am_bre, am_brn, am_brG, am_brL, am_st1, am_no2, am_st2, am_clr]
    refine am_wp_ret rfl rfl ?_
    rw [show G.length = k by omega] at h
    exact h
  · obtain ⟨e, r⟩ := o3 k (by omega)
    have h22 := ax_ct_le (fun k => decide (gS G k = s)) k
    refine am_wp_go rfl (by simp (disch := omega) only [h1, h2, h3, o1, am_divE, am_addE, am_subE, am_mulE, am_laddE, am_lsubE, am_upO, am_upS, am_stS, am_stO, am_tnn, am_brl, am_brg, am_bre, am_brn, am_brG, am_brL, am_st1, am_no2, am_st2, am_clr, and_self, true_and, and_true, true_or, or_true, List.length_cons, List.length_nil] <;> omega) ?_
    try simp (disch := omega) only [h1, h2, h3, o1, am_divE, am_addE, am_subE, am_mulE, am_laddE, am_lsubE, am_upO, am_upS, am_stS, am_stO, am_tnn, am_brl, am_brg, am_bre, am_brn, am_brG, am_brL, am_st1, am_no2, am_st2, am_clr]
    refine am_wp_cc rfl rfl rfl (congrArg Prod.fst hp.1) (w_sideOf hp ho (by omega) ⟨_, rfl, ?_⟩)
    refine am_wp_go rfl (by simp (disch := omega) only [h1, h2, h3, o1, am_divE, am_addE, am_subE, am_mulE, am_laddE, am_lsubE, am_upO, am_upS, am_stS, am_stO, am_tnn, am_brl, am_brg, am_bre, am_brn, am_brG, am_brL, am_st1, am_no2, am_st2, am_clr, and_self, true_and, and_true, true_or, or_true, List.length_cons, List.length_nil] <;> omega) ?_
    try simp (disch := omega) only [h1, h2, h3, o1, am_divE, am_addE, am_subE, am_mulE, am_laddE, am_lsubE, am_upO, am_upS, am_stS, am_stO, am_tnn, am_brl, am_brg, am_bre, am_brn, am_brG, am_brL, am_st1, am_no2, am_st2, am_clr]
    refine am_wp_br (fun h20 => ?_) (fun h20 => ?_)
    · refine am_wp_go rfl (by simp (disch := omega) only [h1, h2, h3, o1, am_divE, am_addE, am_subE, am_mulE, am_laddE, am_lsubE, am_upO, am_upS, am_stS, am_stO, am_tnn, am_brl, am_brg, am_bre, am_brn, am_brG, am_brL, am_st1, am_no2, am_st2, am_clr, and_self, true_and, and_true, true_or, or_true, List.length_cons, List.length_nil] <;> omega) ?_
      try simp (disch := omega) only [h1, h2, h3, o1, am_divE, am_addE, am_subE, am_mulE, am_laddE, am_lsubE, am_upO, am_upS, am_stS, am_stO, am_tnn, am_brl, am_brg, am_bre, am_brn, am_brG, am_brL, am_st1, am_no2, am_st2, am_clr]
      have h21 : decide (gS G k = s) = false := decide_eq_false (by omega)
      exact am_wp_ls (ih (by omega)) (by simp (disch := omega) only [ax_ct, h21, cond_false, h1, h2, h3, o1, am_divE, am_addE, am_subE, am_mulE, am_laddE, am_lsubE, am_upO, am_upS, am_stS, am_stO, am_tnn, am_brl, am_brg, am_bre, am_brn, am_brG, am_brL, am_st1, am_no2, am_st2, am_clr, List.cons.injEq, Option.some.injEq, Sum.inl.injEq, Sum.inr.injEq, and_self, true_and, and_true] <;> omega)
    · refine am_wp_go rfl (by simp (disch := omega) only [h1, h2, h3, o1, am_divE, am_addE, am_subE, am_mulE, am_laddE, am_lsubE, am_upO, am_upS, am_stS, am_stO, am_tnn, am_brl, am_brg, am_bre, am_brn, am_brG, am_brL, am_st1, am_no2, am_st2, am_clr, and_self, true_and, and_true, true_or, or_true, List.length_cons, List.length_nil] <;> omega) ?_
      try simp (disch := omega) only [h1, h2, h3, o1, am_divE, am_addE, am_subE, am_mulE, am_laddE, am_lsubE, am_upO, am_upS, am_stS, am_stO, am_tnn, am_brl, am_brg, am_bre, am_brn, am_brG, am_brL, am_st1, am_no2, am_st2, am_clr]
      have h21 : decide (gS G k = s) = true := decide_eq_true (by omega)
      exact am_wp_ls (ih (by omega)) (by simp (disch := omega) only [ax_ct, h21, cond_true, h1, h2, h3, o1, am_divE, am_addE, am_subE, am_mulE, am_laddE, am_lsubE, am_upO, am_upS, am_stS, am_stO, am_tnn, am_brl, am_brg, am_bre, am_brn, am_brG, am_brL, am_st1, am_no2, am_st2, am_clr, List.cons.injEq, Option.some.injEq, Sum.inl.injEq, Sum.inr.injEq, and_self, true_and, and_true] <;> omega)
def pl_on (G : List Go) (t : Int) (k : Nat) : Nat := if gB G k ≤ t ∧ t < gB G k + gN G k then 2 ^ (gS G k).toNat else 0
theorem pl_on_lt (ho : pl I p G) {t : Int} {k : Nat} (hk : k < G.length) : pl_on G t k < 256 := by
  obtain ⟨e, r⟩ := ho.2.2 k hk
  unfold pl_on
  split
  · exact ax_p8 (by omega)
  · decide
theorem w_slicesIn {t : Int} (hp : pl_is sh R p) (ho : pl I p G) (h : Q (am_yi (ax_or (pl_on G t) G.length)) (m, sl, sh, I, R)) : am_wp (d + 2) 75 0 [some (.inr (.inr (p))), some (.inl (t)), none, none] [] (m, sl, sh, I, R) Q := by
  obtain ⟨h1, h2, h3, h4⟩ := id hp
  obtain ⟨o1, o2, o3⟩ := id ho
  refine am_wp_go rfl (by simp (disch := omega) only [h1, h2, h3, o1, am_divE, am_addE, am_subE, am_mulE, am_laddE, am_lsubE, am_upO, am_upS, am_stS, am_stO, am_tnn, am_brl, am_brg, am_bre, am_brn, am_brG, am_brL, am_st1, am_no2, am_st2, am_clr, and_self, true_and, and_true, true_or, or_true, List.length_cons, List.length_nil] <;> omega) ?_
  try simp (disch := omega) only [h1, h2, h3, o1, am_divE, am_addE, am_subE, am_mulE, am_laddE, am_lsubE, am_upO, am_upS, am_stS, am_stO, am_tnn, am_brl, am_brg, am_bre, am_brn, am_brG, am_brL, am_st1, am_no2, am_st2, am_clr]
  refine am_lp0 (P := fun k => am_wp (d + 2) 75 4 [some (.inr (.inr (p))), some (.inl (t)), some (.inl ((ax_or (pl_on G t) k : Int))), some (.inl ((k : Int)))] [] (m, sl, sh, I, R) Q) G.length (fun k hk ih => ?_)
  refine am_wp_go rfl (by simp (disch := omega) only [h1, h2, h3, o1, am_divE, am_addE, am_subE, am_mulE, am_laddE, am_lsubE, am_upO, am_upS, am_stS, am_stO, am_tnn, am_brl, am_brg, am_bre, am_brn, am_brG, am_brL, am_st1, am_no2, am_st2, am_clr, and_self, true_and, and_true, true_or, or_true, List.length_cons, List.length_nil] <;> omega) ?_
  try simp (disch := omega) only [h1, h2, h3, o1, am_divE, am_addE, am_subE, am_mulE, am_laddE, am_lsubE, am_upO, am_upS, am_stS, am_stO, am_tnn, am_brl, am_brg, am_bre, am_brn, am_brG, am_brL, am_st1, am_no2, am_st2, am_clr]
  refine am_wp_br (fun h9 => ?_) (fun h9 => ?_)
  · refine am_wp_go rfl (by simp (disch := omega) only [h1, h2, h3, o1, am_divE, am_addE, am_subE, am_mulE, am_laddE, am_lsubE, am_upO, am_upS, am_stS, am_stO, am_tnn, am_brl, am_brg, am_bre, am_brn, am_brG, am_brL, am_st1, am_no2, am_st2, am_clr, and_self, true_and, and_true, true_or, or_true, List.length_cons, List.length_nil] <;> omega) ?_
    try simp (disch := omega) only [h1, h2, h3, o1, am_divE, am_addE, am_subE, am_mulE, am_laddE, am_lsubE, am_upO, am_upS, am_stS, am_stO, am_tnn, am_brl, am_brg, am_bre, am_brn, am_brG, am_brL, am_st1, am_no2, am_st2, am_clr]
    refine am_wp_ret rfl rfl ?_
    rw [show G.length = k by omega] at h
    exact h
  · obtain ⟨e, r⟩ := o3 k (by omega)
    have h22 := ax_or_lt (f := pl_on G t) (n := k) (fun j hj => pl_on_lt ho (by omega))
    have hz : pl_on G t k = 0 → am_wp (d + 2) 75 4 [some (.inr (.inr p)), some (.inl t), some (.inl (ax_or (pl_on G t) k : Int)), some (.inl ((k : Int) + 1))] [] (m, sl, sh, I, R) Q := fun hz => by
      refine am_wp_ls (ih (by omega)) ?_
      rw [ax_or, hz, Nat.or_zero]
      rfl
    refine am_wp_go rfl (by simp (disch := omega) only [h1, h2, h3, o1, am_divE, am_addE, am_subE, am_mulE, am_laddE, am_lsubE, am_upO, am_upS, am_stS, am_stO, am_tnn, am_brl, am_brg, am_bre, am_brn, am_brG, am_brL, am_st1, am_no2, am_st2, am_clr, and_self, true_and, and_true, true_or, or_true, List.length_cons, List.length_nil] <;> omega) ?_
    try simp (disch := omega) only [h1, h2, h3, o1, am_divE, am_addE, am_subE, am_mulE, am_laddE, am_lsubE, am_upO, am_upS, am_stS, am_stO, am_tnn, am_brl, am_brg, am_bre, am_brn, am_brG, am_brL, am_st1, am_no2, am_st2, am_clr]
    refine am_wp_cc rfl rfl rfl (congrArg Prod.fst hp.1) (w_beginOf hp ho (by omega) ⟨_, rfl, ?_⟩)
    refine am_wp_go rfl (by simp (disch := omega) only [h1, h2, h3, o1, am_divE, am_addE, am_subE, am_mulE, am_laddE, am_lsubE, am_upO, am_upS, am_stS, am_stO, am_tnn, am_brl, am_brg, am_bre, am_brn, am_brG, am_brL, am_st1, am_no2, am_st2, am_clr, and_self, true_and, and_true, true_or, or_true, List.length_cons, List.length_nil] <;> omega) ?_
    try simp (disch := omega) only [h1, h2, h3, o1, am_divE, am_addE, am_subE, am_mulE, am_laddE, am_lsubE, am_upO, am_upS, am_stS, am_stO, am_tnn, am_brl, am_brg, am_bre, am_brn, am_brG, am_brL, am_st1, am_no2, am_st2, am_clr]
    refine am_wp_br (fun h18 => ?_) (fun h18 => ?_)
    · refine am_wp_go rfl (by simp (disch := omega) only [h1, h2, h3, o1, am_divE, am_addE, am_subE, am_mulE, am_laddE, am_lsubE, am_upO, am_upS, am_stS, am_stO, am_tnn, am_brl, am_brg, am_bre, am_brn, am_brG, am_brL, am_st1, am_no2, am_st2, am_clr, and_self, true_and, and_true, true_or, or_true, List.length_cons, List.length_nil] <;> omega) ?_
      try simp (disch := omega) only [h1, h2, h3, o1, am_divE, am_addE, am_subE, am_mulE, am_laddE, am_lsubE, am_upO, am_upS, am_stS, am_stO, am_tnn, am_brl, am_brg, am_bre, am_brn, am_brG, am_brL, am_st1, am_no2, am_st2, am_clr]
      exact hz (if_neg (by omega))
    · refine am_wp_go rfl (by simp (disch := omega) only [h1, h2, h3, o1, am_divE, am_addE, am_subE, am_mulE, am_laddE, am_lsubE, am_upO, am_upS, am_stS, am_stO, am_tnn, am_brl, am_brg, am_bre, am_brn, am_brG, am_brL, am_st1, am_no2, am_st2, am_clr, and_self, true_and, and_true, true_or, or_true, List.length_cons, List.length_nil] <;> omega) ?_
      try simp (disch := omega) only [h1, h2, h3, o1, am_divE, am_addE, am_subE, am_mulE, am_laddE, am_lsubE, am_upO, am_upS, am_stS, am_stO, am_tnn, am_brl, am_brg, am_bre, am_brn, am_brG, am_brL, am_st1, am_no2, am_st2, am_clr]
      refine am_wp_cc rfl rfl rfl (congrArg Prod.fst hp.1) (w_endOf hp ho (by omega) ⟨_, rfl, ?_⟩)
      refine am_wp_go rfl (by simp (disch := omega) only [h1, h2, h3, o1, am_divE, am_addE, am_subE, am_mulE, am_laddE, am_lsubE, am_upO, am_upS, am_stS, am_stO, am_tnn, am_brl, am_brg, am_bre, am_brn, am_brG, am_brL, am_st1, am_no2, am_st2, am_clr, and_self, true_and, and_true, true_or, or_true, List.length_cons, List.length_nil] <;> omega) ?_
      try simp (disch := omega) only [h1, h2, h3, o1, am_divE, am_addE, am_subE, am_mulE, am_laddE, am_lsubE, am_upO, am_upS, am_stS, am_stO, am_tnn, am_brl, am_brg, am_bre, am_brn, am_brG, am_brL, am_st1, am_no2, am_st2, am_clr]
      refine am_wp_br (fun h27 => ?_) (fun h27 => ?_)
      · refine am_wp_go rfl (by simp (disch := omega) only [h1, h2, h3, o1, am_divE, am_addE, am_subE, am_mulE, am_laddE, am_lsubE, am_upO, am_upS, am_stS, am_stO, am_tnn, am_brl, am_brg, am_bre, am_brn, am_brG, am_brL, am_st1, am_no2, am_st2, am_clr, and_self, true_and, and_true, true_or, or_true, List.length_cons, List.length_nil] <;> omega) ?_
        try simp (disch := omega) only [h1, h2, h3, o1, am_divE, am_addE, am_subE, am_mulE, am_laddE, am_lsubE, am_upO, am_upS, am_stS, am_stO, am_tnn, am_brl, am_brg, am_bre, am_brn, am_brG, am_brL, am_st1, am_no2, am_st2, am_clr]
        exact hz (if_neg (by omega))
      · have hs : ((gS G k).toNat : Int) = gS G k := by omega
        have h23 : am_shl 1 (gS G k) = ((2 ^ (gS G k).toNat : Nat) : Int) := by rw [← hs]; exact am_shl1 (by omega)
        have h24 := ax_p8 (s := (gS G k).toNat) (by omega)
        have h25 : pl_on G t k = 2 ^ (gS G k).toNat := if_pos (by omega)
        refine am_wp_go rfl (by simp (disch := omega) only [h1, h2, h3, o1, am_divE, am_addE, am_subE, am_mulE, am_laddE, am_lsubE, am_upO, am_upS, am_stS, am_stO, am_tnn, am_brl, am_brg, am_bre, am_brn, am_brG, am_brL, am_st1, am_no2, am_st2, am_clr, and_self, true_and, and_true, true_or, or_true, List.length_cons, List.length_nil] <;> omega) ?_
        try simp (disch := omega) only [h1, h2, h3, o1, am_divE, am_addE, am_subE, am_mulE, am_laddE, am_lsubE, am_upO, am_upS, am_stS, am_stO, am_tnn, am_brl, am_brg, am_bre, am_brn, am_brG, am_brL, am_st1, am_no2, am_st2, am_clr]
        refine am_wp_cc rfl rfl rfl (congrArg Prod.fst hp.1) (w_sideOf hp ho (by omega) ⟨_, rfl, ?_⟩)
        have h26 : (2 * gS G k + gU G k) / 2 = gS G k := by omega
        refine am_wp_go rfl (by simp (disch := omega) only [h1, h2, h3, o1, am_divE, h26, h23, am_orN, am_addE, am_subE, am_mulE, am_laddE, am_lsubE, am_upO, am_upS, am_stS, am_stO, am_tnn, am_brl, am_brg, am_bre, am_brn, am_brG, am_brL, am_st1, am_no2, am_st2, am_clr, and_self, true_and, and_true, true_or, or_true, List.length_cons, List.length_nil] <;> omega) ?_
        try simp (disch := omega) only [h1, h2, h3, o1, am_divE, h26, h23, am_orN, am_addE, am_subE, am_mulE, am_laddE, am_lsubE, am_upO, am_upS, am_stS, am_stO, am_tnn, am_brl, am_brg, am_bre, am_brn, am_brG, am_brL, am_st1, am_no2, am_st2, am_clr]
        refine am_wp_ls (ih (by omega)) ?_
        rw [ax_or, h25]
        rfl
end PLAN
