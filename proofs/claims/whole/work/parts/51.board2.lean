/-! THE BOARD: what is put on it, what it tells -/
section BOARD
variable {m sl : Nat} {sh : Nat → Nat × Nat} {I : Nat → Nat → Int} {R : Nat → Nat → Nat} {Q : am_R → am_M → Prop} {d p k : Nat} {W N : Nat → Int} {G : List Go}
theorem w_bput (hw : wd sh R) (hp : pl_is sh R p) (hpr : p < 61 ∨ 64 ≤ p) (hpr2 : p + 1 < 61 ∨ 64 ≤ p + 1) (ho : pl I p G) (hb : bd I G k) (hk : k < G.length) (h : ∀ J, (∀ a, a ≠ 62 → a ≠ 63 → J a = I a) → bd J G (k + 1) → Q am_yv (m, sl, sh, J, R)) : am_wp (d + 2) 4 0 [some (.inr (.inr (61))), some (.inr (.inr (p))), some (.inl ((k : Int))), none, none, none] [] (m, sl, sh, I, R) Q := by
  have hg := pl_gok ho
  have g1 := hg.2 k hk
  obtain ⟨b, eb⟩ : ∃ b : Nat, gB G k = (b : Int) := ⟨(gB G k).toNat, by omega⟩
  obtain ⟨n, en⟩ : ∃ n : Nat, gN G k = (n : Int) := ⟨(gN G k).toNat, by omega⟩
  obtain ⟨l, el⟩ : ∃ l : Nat, gL G k = (l : Int) := ⟨(gL G k).toNat, by omega⟩
  obtain ⟨s, es⟩ : ∃ s : Nat, 2 * gS G k + gU G k = (s : Int) := ⟨(2 * gS G k + gU G k).toNat, by omega⟩
  have p1 := ax_p20 (s := l) (by omega)
  have p2 := ax_p20 (s := 4 + s) (by omega)
  have p3 := ax_or20 p1 p2
  have eM : bitG G = bitG G := rfl
  refine am_wp_go rfl (by simp (disch := omega) only [am_orN, am_addE, am_subE, am_mulE, am_laddE, am_lsubE, am_upO, am_upS, am_stS, am_stO, am_tnn, am_brl, am_brg, am_bre, am_brn, am_brG, am_brL, am_st1, am_no2, am_st2, am_clr, and_self, true_and, and_true, true_or, or_true, List.length_cons, List.length_nil] <;> omega) ?_
  try simp (disch := omega) only [am_orN, am_addE, am_subE, am_mulE, am_laddE, am_lsubE, am_upO, am_upS, am_stS, am_stO, am_tnn, am_brl, am_brg, am_bre, am_brn, am_brG, am_brL, am_st1, am_no2, am_st2, am_clr]
  refine am_wp_cc rfl rfl rfl (congrArg Prod.fst (hp.1)) (w_sideOf hp ho hk ⟨_, rfl, ?_⟩)
  rw [es]
  refine am_wp_go rfl (by simp (disch := omega) only [am_orN, am_addE, am_subE, am_mulE, am_laddE, am_lsubE, am_upO, am_upS, am_stS, am_stO, am_tnn, am_brl, am_brg, am_bre, am_brn, am_brG, am_brL, am_st1, am_no2, am_st2, am_clr, and_self, true_and, and_true, true_or, or_true, List.length_cons, List.length_nil] <;> omega) ?_
  try simp (disch := omega) only [am_orN, am_addE, am_subE, am_mulE, am_laddE, am_lsubE, am_upO, am_upS, am_stS, am_stO, am_tnn, am_brl, am_brg, am_bre, am_brn, am_brG, am_brL, am_st1, am_no2, am_st2, am_clr]
  refine am_wp_cc rfl rfl rfl (congrArg Prod.fst (hp.1)) (w_placeOf hp ho hk ⟨_, rfl, ?_⟩)
  rw [el]
  refine am_wp_cc rfl rfl rfl (trivial) (w_placeMark (by omega) ⟨_, rfl, ?_⟩)
  refine am_wp_go rfl (by simp (disch := omega) only [am_orN, am_addE, am_subE, am_mulE, am_laddE, am_lsubE, am_upO, am_upS, am_stS, am_stO, am_tnn, am_brl, am_brg, am_bre, am_brn, am_brG, am_brL, am_st1, am_no2, am_st2, am_clr, and_self, true_and, and_true, true_or, or_true, List.length_cons, List.length_nil] <;> omega) ?_
  try simp (disch := omega) only [am_orN, am_addE, am_subE, am_mulE, am_laddE, am_lsubE, am_upO, am_upS, am_stS, am_stO, am_tnn, am_brl, am_brg, am_bre, am_brn, am_brG, am_brL, am_st1, am_no2, am_st2, am_clr]
  refine am_wp_cc rfl rfl rfl (trivial) (w_sideMark (by omega) ⟨_, rfl, ?_⟩)
  refine am_wp_go rfl (by simp (disch := omega) only [am_orN, am_addE, am_subE, am_mulE, am_laddE, am_lsubE, am_upO, am_upS, am_stS, am_stO, am_tnn, am_brl, am_brg, am_bre, am_brn, am_brG, am_brL, am_st1, am_no2, am_st2, am_clr, and_self, true_and, and_true, true_or, or_true, List.length_cons, List.length_nil] <;> omega) ?_
  try simp (disch := omega) only [am_orN, am_addE, am_subE, am_mulE, am_laddE, am_lsubE, am_upO, am_upS, am_stS, am_stO, am_tnn, am_brl, am_brg, am_bre, am_brn, am_brG, am_brL, am_st1, am_no2, am_st2, am_clr]
  refine am_wp_cc rfl rfl rfl (congrArg Prod.fst (hp.1)) (w_beginOf hp ho hk ⟨_, rfl, ?_⟩)
  rw [eb]
  refine am_wp_go rfl (by simp (disch := omega) only [am_orN, am_addE, am_subE, am_mulE, am_laddE, am_lsubE, am_upO, am_upS, am_stS, am_stO, am_tnn, am_brl, am_brg, am_bre, am_brn, am_brG, am_brL, am_st1, am_no2, am_st2, am_clr, and_self, true_and, and_true, true_or, or_true, List.length_cons, List.length_nil] <;> omega) ?_
  try simp (disch := omega) only [am_orN, am_addE, am_subE, am_mulE, am_laddE, am_lsubE, am_upO, am_upS, am_stS, am_stO, am_tnn, am_brl, am_brg, am_bre, am_brn, am_brG, am_brL, am_st1, am_no2, am_st2, am_clr]
  refine am_wp_ls (am_lp (P := fun t => b ≤ t → ∀ J, (∀ a, a ≠ 62 → J a = I a) → (∀ x, x < 1000 → J 62 x = ((if b ≤ x ∧ x < t then mkG G k x ||| (2 ^ l ||| 2 ^ (4 + s)) else mkG G k x : Nat) : Int)) → am_wp (d + 2) 4 28 [some (.inr (.inr (61))), some (.inr (.inr (p))), some (.inl ((k : Int))), some (.inl ((s : Int))), some (.inl (((2 ^ l ||| 2 ^ (4 + s) : Nat) : Int))), some (.inl ((t : Int)))] [] (m, sl, sh, J, R) Q) (b + n) (fun t ht ih htb J j1 j2 => ?_) b (by omega) (Nat.le_refl _) I (fun _ _ => rfl) (fun x hx => by rw [if_neg (by omega)]; exact hb.1 x hx)) rfl
  have hoj : pl J p G := pl_fr ho (j1 _ (by omega)) (j1 _ (by omega))
  -- behind the loop
  have F : (∀ x, x < 1000 → J 62 x = (mkG G (k + 1) x : Int)) → am_wp (d + 2) 4 64 [some (.inr (.inr 61)), some (.inr (.inr p)), some (.inl (k : Int)), some (.inl (s : Int)), some (.inl ((2 ^ l ||| 2 ^ (4 + s) : Nat) : Int)), some (.inl (t : Int))] [] (m, sl, sh, J, R) Q := by
    intro hJ
    have e63 : J 63 s = hadG G k s := by rw [j1 63 (by decide)]; exact hb.2 s (by omega)
    have l63 := hadG_le hg (k := k) (s := (s : Int)) (by omega)
    refine am_wp_go rfl (by simp (disch := omega) only [s61 hw, r61_1 hw, s63 hw, e63, am_orN, am_addE, am_subE, am_mulE, am_laddE, am_lsubE, am_upO, am_upS, am_stS, am_stO, am_tnn, am_brl, am_brg, am_bre, am_brn, am_brG, am_brL, am_st1, am_no2, am_st2, am_clr, and_self, true_and, and_true, true_or, or_true, List.length_cons, List.length_nil] <;> omega) ?_
    try simp (disch := omega) only [s61 hw, r61_1 hw, s63 hw, e63, am_orN, am_addE, am_subE, am_mulE, am_laddE, am_lsubE, am_upO, am_upS, am_stS, am_stO, am_tnn, am_brl, am_brg, am_bre, am_brn, am_brG, am_brL, am_st1, am_no2, am_st2, am_clr]
    refine am_wp_cc rfl rfl rfl (congrArg Prod.fst (hp.1)) (w_minutesOf hp hoj hk ⟨_, rfl, ?_⟩)
    refine am_wp_go rfl (by simp (disch := omega) only [s61 hw, r61_1 hw, s63 hw, e63, am_orN, am_addE, am_subE, am_mulE, am_laddE, am_lsubE, am_upO, am_upS, am_stS, am_stO, am_tnn, am_brl, am_brg, am_bre, am_brn, am_brG, am_brL, am_st1, am_no2, am_st2, am_clr, and_self, true_and, and_true, true_or, or_true, List.length_cons, List.length_nil] <;> omega) ?_
    try simp (disch := omega) only [s61 hw, r61_1 hw, s63 hw, e63, am_orN, am_addE, am_subE, am_mulE, am_laddE, am_lsubE, am_upO, am_upS, am_stS, am_stO, am_tnn, am_brl, am_brg, am_bre, am_brn, am_brG, am_brL, am_st1, am_no2, am_st2, am_clr]
    refine am_wp_ret rfl rfl ?_
    refine h _ (fun a h1 h2 => by rw [am_upO h2, j1 a h1]) ⟨fun x hx => by rw [am_upO (by decide)]; exact hJ x hx, fun x hx => ?_⟩
    rw [am_upS]
    show _ = hadG G k x + (if 2 * gS G k + gU G k = (x : Int) then gN G k else 0)
    by_cases hxs : x = s
    · subst hxs
      rw [am_stS rfl, if_pos es]
    · rw [am_stO hxs, if_neg (by omega), Int.add_zero, j1 63 (by decide)]
      exact hb.2 x hx
  have hmk : ∀ x, x < 1000 → (b ≤ x ∧ x < b + n ↔ gB G k ≤ (x : Int) ∧ (x : Int) < gB G k + gN G k) := fun x hx => by omega
  refine am_wp_go rfl (by simp (disch := omega) only [am_orN, am_addE, am_subE, am_mulE, am_laddE, am_lsubE, am_upO, am_upS, am_stS, am_stO, am_tnn, am_brl, am_brg, am_bre, am_brn, am_brG, am_brL, am_st1, am_no2, am_st2, am_clr, and_self, true_and, and_true, true_or, or_true, List.length_cons, List.length_nil] <;> omega) ?_
  try simp (disch := omega) only [am_orN, am_addE, am_subE, am_mulE, am_laddE, am_lsubE, am_upO, am_upS, am_stS, am_stO, am_tnn, am_brl, am_brg, am_bre, am_brn, am_brG, am_brL, am_st1, am_no2, am_st2, am_clr]
  refine am_wp_cc rfl rfl rfl (congrArg Prod.fst (hp.1)) (w_endOf hp hoj hk ⟨_, rfl, ?_⟩)
  rw [eb, en]
  refine am_wp_go rfl (by simp (disch := omega) only [am_orN, am_addE, am_subE, am_mulE, am_laddE, am_lsubE, am_upO, am_upS, am_stS, am_stO, am_tnn, am_brl, am_brg, am_bre, am_brn, am_brG, am_brL, am_st1, am_no2, am_st2, am_clr, and_self, true_and, and_true, true_or, or_true, List.length_cons, List.length_nil] <;> omega) ?_
  try simp (disch := omega) only [am_orN, am_addE, am_subE, am_mulE, am_laddE, am_lsubE, am_upO, am_upS, am_stS, am_stO, am_tnn, am_brl, am_brg, am_bre, am_brn, am_brG, am_brL, am_st1, am_no2, am_st2, am_clr]
  refine am_wp_br (fun b35 => ?_) (fun b35 => ?_)
  · refine F (fun x hx => ?_)
    rw [j2 x hx]
    show _ = ((ax_or (bitG G x) k ||| bitG G x k : Nat) : Int)
    unfold bitG
    by_cases hx2 : b ≤ x ∧ x < t
    · rw [if_pos hx2, if_pos ((hmk x hx).mp (by omega)), el, es]
      rfl
    · rw [if_neg hx2, if_neg (fun hc => hx2 (by omega)), Nat.or_zero]
      rfl
  · refine am_wp_go rfl (by simp (disch := omega) only [am_orN, am_addE, am_subE, am_mulE, am_laddE, am_lsubE, am_upO, am_upS, am_stS, am_stO, am_tnn, am_brl, am_brg, am_bre, am_brn, am_brG, am_brL, am_st1, am_no2, am_st2, am_clr, and_self, true_and, and_true, true_or, or_true, List.length_cons, List.length_nil] <;> omega) ?_
    try simp (disch := omega) only [am_orN, am_addE, am_subE, am_mulE, am_laddE, am_lsubE, am_upO, am_upS, am_stS, am_stO, am_tnn, am_brl, am_brg, am_bre, am_brn, am_brG, am_brL, am_st1, am_no2, am_st2, am_clr]
    refine am_wp_br (fun b43 => ?_) (fun b43 => ?_)
    · omega
    · have e62 := j2 t (by omega)
      rw [if_neg (by omega)] at e62
      have l62 := mkG_lt hg (k := k) (t := t) (by omega)
      refine am_wp_go rfl (by simp (disch := omega) only [s61 hw, r61_0 hw, s62 hw, e62, am_orN, am_addE, am_subE, am_mulE, am_laddE, am_lsubE, am_upO, am_upS, am_stS, am_stO, am_tnn, am_brl, am_brg, am_bre, am_brn, am_brG, am_brL, am_st1, am_no2, am_st2, am_clr, and_self, true_and, and_true, true_or, or_true, List.length_cons, List.length_nil] <;> omega) ?_
      try simp (disch := omega) only [s61 hw, r61_0 hw, s62 hw, e62, am_orN, am_addE, am_subE, am_mulE, am_laddE, am_lsubE, am_upO, am_upS, am_stS, am_stO, am_tnn, am_brl, am_brg, am_bre, am_brn, am_brG, am_brL, am_st1, am_no2, am_st2, am_clr]
      refine am_wp_ls (ih (by omega) (by omega) _ (fun a h1 => by rw [am_upO h1, j1 a h1]) (fun x hx => ?_)) rfl
      rw [am_upS]
      by_cases hxt : x = t
      · subst hxt
        rw [am_stS rfl, if_pos (by omega)]
      · rw [am_stO hxt, j2 x hx]
        by_cases hx2 : b ≤ x ∧ x < t
        · rw [if_pos hx2, if_pos (by omega)]
        · rw [if_neg hx2, if_neg (by omega)]
theorem w_isMarked {lo hi : Int} {x : Nat} (hw : wd sh R) (hb : bd I G k) (hg : gok G) (hk : k ≤ G.length) (hlo : lo ≤ 2000) (hx : x < 1048576) (h1 : ∀ t : Nat, lo ≤ t → (t : Int) < hi → t < 1000 → mkG G k t &&& x ≠ 0 → Q (am_yi 1) (m, sl, sh, I, R)) (h0 : (∀ t : Nat, lo ≤ t → (t : Int) < hi → t < 1000 → mkG G k t &&& x = 0) → Q (am_yi 0) (m, sl, sh, I, R)) : am_wp (d) 5 0 [some (.inr (.inr (61))), some (.inl (lo)), some (.inl (hi)), some (.inl ((x : Int))), none] [] (m, sl, sh, I, R) Q := by
  obtain ⟨t0, et⟩ : ∃ t0 : Nat, (if lo < 0 then 0 else lo) = (t0 : Int) := ⟨(if lo < 0 then 0 else lo).toNat, by split <;> omega⟩
  have et2 : lo ≤ t0 ∧ (∀ t : Nat, lo ≤ t → t0 ≤ t) ∧ t0 ≤ 2000 := by split at et <;> exact ⟨by omega, fun t ht => by omega, by omega⟩
  refine am_wp_go rfl (by simp (disch := omega) only [et, am_addE, am_subE, am_mulE, am_laddE, am_lsubE, am_upO, am_upS, am_stS, am_stO, am_tnn, am_brl, am_brg, am_bre, am_brn, am_brG, am_brL, am_st1, am_no2, am_st2, am_clr, and_self, true_and, and_true, true_or, or_true, List.length_cons, List.length_nil] <;> omega) ?_
  try simp (disch := omega) only [et, am_addE, am_subE, am_mulE, am_laddE, am_lsubE, am_upO, am_upS, am_stS, am_stO, am_tnn, am_brl, am_brg, am_bre, am_brn, am_brG, am_brL, am_st1, am_no2, am_st2, am_clr]
  refine am_wp_ls (am_lp (P := fun t => t0 ≤ t → (∀ u : Nat, t0 ≤ u → u < t → (u : Int) < hi → u < 1000 → mkG G k u &&& x = 0) → am_wp (d) 5 7 [some (.inr (.inr (61))), some (.inl (lo)), some (.inl (hi)), some (.inl ((x : Int))), some (.inl ((t : Int)))] [] (m, sl, sh, I, R) Q) (1000 + t0) (fun t ht ih ht0 hu => ?_) t0 (by omega) (Nat.le_refl _) (fun u h1 h2 => by omega)) rfl
  refine am_wp_go rfl (by simp (disch := omega) only [am_addE, am_subE, am_mulE, am_laddE, am_lsubE, am_upO, am_upS, am_stS, am_stO, am_tnn, am_brl, am_brg, am_bre, am_brn, am_brG, am_brL, am_st1, am_no2, am_st2, am_clr, and_self, true_and, and_true, true_or, or_true, List.length_cons, List.length_nil] <;> omega) ?_
  try simp (disch := omega) only [am_addE, am_subE, am_mulE, am_laddE, am_lsubE, am_upO, am_upS, am_stS, am_stO, am_tnn, am_brl, am_brg, am_bre, am_brn, am_brG, am_brL, am_st1, am_no2, am_st2, am_clr]
  refine am_wp_br (fun b10 => ?_) (fun b10 => ?_)
  · refine am_wp_go rfl (by simp (disch := omega) only [am_addE, am_subE, am_mulE, am_laddE, am_lsubE, am_upO, am_upS, am_stS, am_stO, am_tnn, am_brl, am_brg, am_bre, am_brn, am_brG, am_brL, am_st1, am_no2, am_st2, am_clr, and_self, true_and, and_true, true_or, or_true, List.length_cons, List.length_nil] <;> omega) ?_
    try simp (disch := omega) only [am_addE, am_subE, am_mulE, am_laddE, am_lsubE, am_upO, am_upS, am_stS, am_stO, am_tnn, am_brl, am_brg, am_bre, am_brn, am_brG, am_brL, am_st1, am_no2, am_st2, am_clr]
    refine am_wp_ret rfl rfl ?_
    exact h0 (fun u h1 h2 h3 => hu u (et2.2.1 u h1) (by omega) h2 h3)
  · refine am_wp_go rfl (by simp (disch := omega) only [am_addE, am_subE, am_mulE, am_laddE, am_lsubE, am_upO, am_upS, am_stS, am_stO, am_tnn, am_brl, am_brg, am_bre, am_brn, am_brG, am_brL, am_st1, am_no2, am_st2, am_clr, and_self, true_and, and_true, true_or, or_true, List.length_cons, List.length_nil] <;> omega) ?_
    try simp (disch := omega) only [am_addE, am_subE, am_mulE, am_laddE, am_lsubE, am_upO, am_upS, am_stS, am_stO, am_tnn, am_brl, am_brg, am_bre, am_brn, am_brG, am_brL, am_st1, am_no2, am_st2, am_clr]
    refine am_wp_br (fun b18 => ?_) (fun b18 => ?_)
    · refine am_wp_go rfl (by simp (disch := omega) only [am_addE, am_subE, am_mulE, am_laddE, am_lsubE, am_upO, am_upS, am_stS, am_stO, am_tnn, am_brl, am_brg, am_bre, am_brn, am_brG, am_brL, am_st1, am_no2, am_st2, am_clr, and_self, true_and, and_true, true_or, or_true, List.length_cons, List.length_nil] <;> omega) ?_
      try simp (disch := omega) only [am_addE, am_subE, am_mulE, am_laddE, am_lsubE, am_upO, am_upS, am_stS, am_stO, am_tnn, am_brl, am_brg, am_bre, am_brn, am_brG, am_brL, am_st1, am_no2, am_st2, am_clr]
      refine am_wp_ret rfl rfl ?_
      exact h0 (fun u h1 h2 h3 => hu u (et2.2.1 u h1) (by omega) h2 h3)
    · have e62 := hb.1 t (by omega)
      have l62 := mkG_lt hg (k := k) (t := t) hk
      refine am_wp_go rfl (by simp (disch := omega) only [s61 hw, r61_0 hw, s62 hw, e62, am_andN, am_addE, am_subE, am_mulE, am_laddE, am_lsubE, am_upO, am_upS, am_stS, am_stO, am_tnn, am_brl, am_brg, am_bre, am_brn, am_brG, am_brL, am_st1, am_no2, am_st2, am_clr, and_self, true_and, and_true, true_or, or_true, List.length_cons, List.length_nil] <;> omega) ?_
      try simp (disch := omega) only [s61 hw, r61_0 hw, s62 hw, e62, am_andN, am_addE, am_subE, am_mulE, am_laddE, am_lsubE, am_upO, am_upS, am_stS, am_stO, am_tnn, am_brl, am_brg, am_bre, am_brn, am_brG, am_brL, am_st1, am_no2, am_st2, am_clr]
      refine am_wp_br (fun b30 => ?_) (fun b30 => ?_)
      · refine am_wp_go rfl (by simp (disch := omega) only [s61 hw, r61_0 hw, s62 hw, e62, am_andN, am_addE, am_subE, am_mulE, am_laddE, am_lsubE, am_upO, am_upS, am_stS, am_stO, am_tnn, am_brl, am_brg, am_bre, am_brn, am_brG, am_brL, am_st1, am_no2, am_st2, am_clr, and_self, true_and, and_true, true_or, or_true, List.length_cons, List.length_nil] <;> omega) ?_
        try simp (disch := omega) only [s61 hw, r61_0 hw, s62 hw, e62, am_andN, am_addE, am_subE, am_mulE, am_laddE, am_lsubE, am_upO, am_upS, am_stS, am_stO, am_tnn, am_brl, am_brg, am_bre, am_brn, am_brG, am_brL, am_st1, am_no2, am_st2, am_clr]
        refine am_wp_ls (ih (by omega) (by omega) (fun u h1 h2 h3 h4 => ?_)) rfl
        by_cases hut : u = t
        · subst hut; omega
        · exact hu u h1 (by omega) h3 h4
      · refine am_wp_go rfl (by simp (disch := omega) only [s61 hw, r61_0 hw, s62 hw, e62, am_andN, am_addE, am_subE, am_mulE, am_laddE, am_lsubE, am_upO, am_upS, am_stS, am_stO, am_tnn, am_brl, am_brg, am_bre, am_brn, am_brG, am_brL, am_st1, am_no2, am_st2, am_clr, and_self, true_and, and_true, true_or, or_true, List.length_cons, List.length_nil] <;> omega) ?_
        try simp (disch := omega) only [s61 hw, r61_0 hw, s62 hw, e62, am_andN, am_addE, am_subE, am_mulE, am_laddE, am_lsubE, am_upO, am_upS, am_stS, am_stO, am_tnn, am_brl, am_brg, am_bre, am_brn, am_brG, am_brL, am_st1, am_no2, am_st2, am_clr]
        refine am_wp_ret rfl rfl ?_
        exact h1 t (by omega) (by omega) (by omega) (by omega)
theorem w_hasTooMany (hw : wd sh R) (hk : kit I 6 W N) (hp : pl_is sh R p) (ho : pl I p G) (hgk : gkt W G) (hb : bd I G k) (hkl : k < G.length) (h : Q (am_yi (am_b (W (8 + 3 * (gS G k).toNat + (gU G k).toNat) < hadG G k (2 * gS G k + gU G k) + gN G k))) (m, sl, sh, I, R)) : am_wp (d + 2) 7 0 [some (.inr (.inr (61))), some (.inr (.inr (6))), some (.inr (.inr (p))), some (.inl ((k : Int))), none] [] (m, sl, sh, I, R) Q := by
  have hg := pl_gok ho
  have g1 := hg.2 k hkl
  have g2 := hgk k hkl
  have n1 := wk_nS hk.1
  obtain ⟨s, es⟩ : ∃ s : Nat, 2 * gS G k + gU G k = (s : Int) := ⟨(2 * gS G k + gU G k).toNat, by omega⟩
  have e1 := ndW_kit hk (i := s) (by omega)
  have e2 : (ndW W s : Int) = W (8 + 3 * (gS G k).toNat + (gU G k).toNat) := by
    unfold ndW
    rw [show s / 2 = (gS G k).toNat by omega, show s % 2 = (gU G k).toNat by omega]
    have := wkS_at hk.1.2.1 (s := (gS G k).toNat) (u := (gU G k).toNat) (by omega) (by omega)
    omega
  rw [e2] at e1
  have e63 := hb.2 s (by omega)
  have l63 := hadG_le hg (k := k) (s := (s : Int)) (by omega)
  rw [es] at h
  refine am_wp_go rfl (by simp (disch := omega) only [s61 hw, r61_1 hw, s63 hw, s6 hw, r6_11 hw, s7 hw, e1, e63, am_addE, am_subE, am_mulE, am_laddE, am_lsubE, am_upO, am_upS, am_stS, am_stO, am_tnn, am_brl, am_brg, am_bre, am_brn, am_brG, am_brL, am_st1, am_no2, am_st2, am_clr, and_self, true_and, and_true, true_or, or_true, List.length_cons, List.length_nil] <;> omega) ?_
  try simp (disch := omega) only [s61 hw, r61_1 hw, s63 hw, s6 hw, r6_11 hw, s7 hw, e1, e63, am_addE, am_subE, am_mulE, am_laddE, am_lsubE, am_upO, am_upS, am_stS, am_stO, am_tnn, am_brl, am_brg, am_bre, am_brn, am_brG, am_brL, am_st1, am_no2, am_st2, am_clr]
  refine am_wp_cc rfl rfl rfl (congrArg Prod.fst (hp.1)) (w_sideOf hp ho hkl ⟨_, rfl, ?_⟩)
  rw [es]
  refine am_wp_go rfl (by simp (disch := omega) only [s61 hw, r61_1 hw, s63 hw, s6 hw, r6_11 hw, s7 hw, e1, e63, am_addE, am_subE, am_mulE, am_laddE, am_lsubE, am_upO, am_upS, am_stS, am_stO, am_tnn, am_brl, am_brg, am_bre, am_brn, am_brG, am_brL, am_st1, am_no2, am_st2, am_clr, and_self, true_and, and_true, true_or, or_true, List.length_cons, List.length_nil] <;> omega) ?_
  try simp (disch := omega) only [s61 hw, r61_1 hw, s63 hw, s6 hw, r6_11 hw, s7 hw, e1, e63, am_addE, am_subE, am_mulE, am_laddE, am_lsubE, am_upO, am_upS, am_stS, am_stO, am_tnn, am_brl, am_brg, am_bre, am_brn, am_brG, am_brL, am_st1, am_no2, am_st2, am_clr]
  refine am_wp_cc rfl rfl rfl (congrArg Prod.fst (hp.1)) (w_minutesOf hp ho hkl ⟨_, rfl, ?_⟩)
  refine am_wp_go rfl (by simp (disch := omega) only [s61 hw, r61_1 hw, s63 hw, s6 hw, r6_11 hw, s7 hw, e1, e63, am_addE, am_subE, am_mulE, am_laddE, am_lsubE, am_upO, am_upS, am_stS, am_stO, am_tnn, am_brl, am_brg, am_bre, am_brn, am_brG, am_brL, am_st1, am_no2, am_st2, am_clr, and_self, true_and, and_true, true_or, or_true, List.length_cons, List.length_nil] <;> omega) ?_
  try simp (disch := omega) only [s61 hw, r61_1 hw, s63 hw, s6 hw, r6_11 hw, s7 hw, e1, e63, am_addE, am_subE, am_mulE, am_laddE, am_lsubE, am_upO, am_upS, am_stS, am_stO, am_tnn, am_brl, am_brg, am_bre, am_brn, am_brG, am_brL, am_st1, am_no2, am_st2, am_clr]
  refine am_wp_br (fun b27 => ?_) (fun b27 => ?_)
  · refine am_wp_go rfl (by simp (disch := omega) only [s61 hw, r61_1 hw, s63 hw, s6 hw, r6_11 hw, s7 hw, e1, e63, am_addE, am_subE, am_mulE, am_laddE, am_lsubE, am_upO, am_upS, am_stS, am_stO, am_tnn, am_brl, am_brg, am_bre, am_brn, am_brG, am_brL, am_st1, am_no2, am_st2, am_clr, and_self, true_and, and_true, true_or, or_true, List.length_cons, List.length_nil] <;> omega) ?_
    try simp (disch := omega) only [s61 hw, r61_1 hw, s63 hw, s6 hw, r6_11 hw, s7 hw, e1, e63, am_addE, am_subE, am_mulE, am_laddE, am_lsubE, am_upO, am_upS, am_stS, am_stO, am_tnn, am_brl, am_brg, am_bre, am_brn, am_brG, am_brL, am_st1, am_no2, am_st2, am_clr]
    refine am_wp_ret rfl rfl ?_
    rwa [am_bF (by omega)] at h
  · refine am_wp_go rfl (by simp (disch := omega) only [s61 hw, r61_1 hw, s63 hw, s6 hw, r6_11 hw, s7 hw, e1, e63, am_addE, am_subE, am_mulE, am_laddE, am_lsubE, am_upO, am_upS, am_stS, am_stO, am_tnn, am_brl, am_brg, am_bre, am_brn, am_brG, am_brL, am_st1, am_no2, am_st2, am_clr, and_self, true_and, and_true, true_or, or_true, List.length_cons, List.length_nil] <;> omega) ?_
    try simp (disch := omega) only [s61 hw, r61_1 hw, s63 hw, s6 hw, r6_11 hw, s7 hw, e1, e63, am_addE, am_subE, am_mulE, am_laddE, am_lsubE, am_upO, am_upS, am_stS, am_stO, am_tnn, am_brl, am_brg, am_bre, am_brn, am_brG, am_brL, am_st1, am_no2, am_st2, am_clr]
    refine am_wp_ret rfl rfl ?_
    rwa [am_bT (by omega)] at h
theorem w_isOnAgain {s : Nat} (hw : wd sh R) (hk : kit I 6 W N) (hb : bd I G k) (hs : s < 2 * nS W) (h : Q (am_yi (am_b (W (8 + 3 * (s / 2) + 2) = 1 ∧ 0 < hadG G k s))) (m, sl, sh, I, R)) : am_wp (d + 1) 8 0 [some (.inr (.inr (61))), some (.inr (.inr (6))), some (.inl ((s : Int)))] [] (m, sl, sh, I, R) Q := by
  have n1 := wk_nS hk.1
  have e63 := hb.2 s (by omega)
  have e1 : (s : Int) / 2 = ((s / 2 : Nat) : Int) := by omega
  refine am_wp_go rfl (by simp (disch := omega) only [s61 hw, r61_1 hw, s63 hw, e63, am_divE, e1, am_b0, am_addE, am_subE, am_mulE, am_laddE, am_lsubE, am_upO, am_upS, am_stS, am_stO, am_tnn, am_brl, am_brg, am_bre, am_brn, am_brG, am_brL, am_st1, am_no2, am_st2, am_clr, and_self, true_and, and_true, true_or, or_true, List.length_cons, List.length_nil] <;> omega) ?_
  try simp (disch := omega) only [s61 hw, r61_1 hw, s63 hw, e63, am_divE, e1, am_b0, am_addE, am_subE, am_mulE, am_laddE, am_lsubE, am_upO, am_upS, am_stS, am_stO, am_tnn, am_brl, am_brg, am_bre, am_brn, am_brG, am_brL, am_st1, am_no2, am_st2, am_clr]
  refine am_wp_cc rfl rfl rfl (congrArg Prod.fst (s6 hw)) (w_isOnce (kt_w hw (by decide)) hk (by omega) ⟨_, rfl, ?_⟩)
  refine am_wp_go rfl (by simp (disch := omega) only [s61 hw, r61_1 hw, s63 hw, e63, am_divE, e1, am_b0, am_addE, am_subE, am_mulE, am_laddE, am_lsubE, am_upO, am_upS, am_stS, am_stO, am_tnn, am_brl, am_brg, am_bre, am_brn, am_brG, am_brL, am_st1, am_no2, am_st2, am_clr, and_self, true_and, and_true, true_or, or_true, List.length_cons, List.length_nil] <;> omega) ?_
  try simp (disch := omega) only [s61 hw, r61_1 hw, s63 hw, e63, am_divE, e1, am_b0, am_addE, am_subE, am_mulE, am_laddE, am_lsubE, am_upO, am_upS, am_stS, am_stO, am_tnn, am_brl, am_brg, am_bre, am_brn, am_brG, am_brL, am_st1, am_no2, am_st2, am_clr]
  refine am_wp_br (fun b7 => ?_) (fun b7 => ?_)
  · refine am_wp_go rfl (by simp (disch := omega) only [s61 hw, r61_1 hw, s63 hw, e63, am_divE, e1, am_b0, am_addE, am_subE, am_mulE, am_laddE, am_lsubE, am_upO, am_upS, am_stS, am_stO, am_tnn, am_brl, am_brg, am_bre, am_brn, am_brG, am_brL, am_st1, am_no2, am_st2, am_clr, and_self, true_and, and_true, true_or, or_true, List.length_cons, List.length_nil] <;> omega) ?_
    try simp (disch := omega) only [s61 hw, r61_1 hw, s63 hw, e63, am_divE, e1, am_b0, am_addE, am_subE, am_mulE, am_laddE, am_lsubE, am_upO, am_upS, am_stS, am_stO, am_tnn, am_brl, am_brg, am_bre, am_brn, am_brG, am_brL, am_st1, am_no2, am_st2, am_clr]
    refine am_wp_ret rfl rfl ?_
    rwa [am_bF (fun hc => b7 hc.1)] at h
  · refine am_wp_go rfl (by simp (disch := omega) only [s61 hw, r61_1 hw, s63 hw, e63, am_divE, e1, am_b0, am_addE, am_subE, am_mulE, am_laddE, am_lsubE, am_upO, am_upS, am_stS, am_stO, am_tnn, am_brl, am_brg, am_bre, am_brn, am_brG, am_brL, am_st1, am_no2, am_st2, am_clr, and_self, true_and, and_true, true_or, or_true, List.length_cons, List.length_nil] <;> omega) ?_
    try simp (disch := omega) only [s61 hw, r61_1 hw, s63 hw, e63, am_divE, e1, am_b0, am_addE, am_subE, am_mulE, am_laddE, am_lsubE, am_upO, am_upS, am_stS, am_stO, am_tnn, am_brl, am_brg, am_bre, am_brn, am_brG, am_brL, am_st1, am_no2, am_st2, am_clr]
    refine am_wp_br (fun b16 => ?_) (fun b16 => ?_)
    · refine am_wp_go rfl (by simp (disch := omega) only [s61 hw, r61_1 hw, s63 hw, e63, am_divE, e1, am_b0, am_addE, am_subE, am_mulE, am_laddE, am_lsubE, am_upO, am_upS, am_stS, am_stO, am_tnn, am_brl, am_brg, am_bre, am_brn, am_brG, am_brL, am_st1, am_no2, am_st2, am_clr, and_self, true_and, and_true, true_or, or_true, List.length_cons, List.length_nil] <;> omega) ?_
      try simp (disch := omega) only [s61 hw, r61_1 hw, s63 hw, e63, am_divE, e1, am_b0, am_addE, am_subE, am_mulE, am_laddE, am_lsubE, am_upO, am_upS, am_stS, am_stO, am_tnn, am_brl, am_brg, am_bre, am_brn, am_brG, am_brL, am_st1, am_no2, am_st2, am_clr]
      refine am_wp_ret rfl rfl ?_
      rwa [am_bF (by omega)] at h
    · refine am_wp_go rfl (by simp (disch := omega) only [s61 hw, r61_1 hw, s63 hw, e63, am_divE, e1, am_b0, am_addE, am_subE, am_mulE, am_laddE, am_lsubE, am_upO, am_upS, am_stS, am_stO, am_tnn, am_brl, am_brg, am_bre, am_brn, am_brG, am_brL, am_st1, am_no2, am_st2, am_clr, and_self, true_and, and_true, true_or, or_true, List.length_cons, List.length_nil] <;> omega) ?_
      try simp (disch := omega) only [s61 hw, r61_1 hw, s63 hw, e63, am_divE, e1, am_b0, am_addE, am_subE, am_mulE, am_laddE, am_lsubE, am_upO, am_upS, am_stS, am_stO, am_tnn, am_brl, am_brg, am_bre, am_brn, am_brG, am_brL, am_st1, am_no2, am_st2, am_clr]
      refine am_wp_ret rfl rfl ?_
      rwa [am_bT ⟨Classical.not_not.mp b7, by omega⟩] at h
theorem w_freeMinutes {q : Nat} {e : Int} (hw : wd sh R) (hb : bd I G k) (hg : gok G) (hk : k ≤ G.length) (hq : q < 4) (he : e ≤ 1000) (h : Q (am_yi (ax_ct (fun t => decide (mkG G k t &&& 2 ^ q = 0)) e.toNat)) (m, sl, sh, I, R)) : am_wp (d + 1) 10 0 [some (.inr (.inr (61))), some (.inl ((q : Int))), some (.inl (e)), none, none] [] (m, sl, sh, I, R) Q := by
  have p1 := ax_p20 (s := q) (by omega)
  refine am_wp_go rfl (by simp (disch := omega) only [am_addE, am_subE, am_mulE, am_laddE, am_lsubE, am_upO, am_upS, am_stS, am_stO, am_tnn, am_brl, am_brg, am_bre, am_brn, am_brG, am_brL, am_st1, am_no2, am_st2, am_clr, and_self, true_and, and_true, true_or, or_true, List.length_cons, List.length_nil] <;> omega) ?_
  try simp (disch := omega) only [am_addE, am_subE, am_mulE, am_laddE, am_lsubE, am_upO, am_upS, am_stS, am_stO, am_tnn, am_brl, am_brg, am_bre, am_brn, am_brG, am_brL, am_st1, am_no2, am_st2, am_clr]
  refine am_lp0 (P := fun t => am_wp (d + 1) 10 5 [some (.inr (.inr (61))), some (.inl ((q : Int))), some (.inl (e)), some (.inl ((ax_ct (fun t => decide (mkG G k t &&& 2 ^ q = 0)) t : Int))), some (.inl ((t : Int)))] [] (m, sl, sh, I, R) Q) e.toNat (fun t ht ih => ?_)
  have hc := ax_ct_le (fun t => decide (mkG G k t &&& 2 ^ q = 0)) t
  refine am_wp_go rfl (by simp (disch := omega) only [am_addE, am_subE, am_mulE, am_laddE, am_lsubE, am_upO, am_upS, am_stS, am_stO, am_tnn, am_brl, am_brg, am_bre, am_brn, am_brG, am_brL, am_st1, am_no2, am_st2, am_clr, and_self, true_and, and_true, true_or, or_true, List.length_cons, List.length_nil] <;> omega) ?_
  try simp (disch := omega) only [am_addE, am_subE, am_mulE, am_laddE, am_lsubE, am_upO, am_upS, am_stS, am_stO, am_tnn, am_brl, am_brg, am_bre, am_brn, am_brG, am_brL, am_st1, am_no2, am_st2, am_clr]
  refine am_wp_br (fun b8 => ?_) (fun b8 => ?_)
  · refine am_wp_go rfl (by simp (disch := omega) only [am_addE, am_subE, am_mulE, am_laddE, am_lsubE, am_upO, am_upS, am_stS, am_stO, am_tnn, am_brl, am_brg, am_bre, am_brn, am_brG, am_brL, am_st1, am_no2, am_st2, am_clr, and_self, true_and, and_true, true_or, or_true, List.length_cons, List.length_nil] <;> omega) ?_
    try simp (disch := omega) only [am_addE, am_subE, am_mulE, am_laddE, am_lsubE, am_upO, am_upS, am_stS, am_stO, am_tnn, am_brl, am_brg, am_bre, am_brn, am_brG, am_brL, am_st1, am_no2, am_st2, am_clr]
    refine am_wp_ret rfl rfl ?_
    rw [show e.toNat = t by omega] at h
    exact h
  · refine am_wp_go rfl (by simp (disch := omega) only [am_addE, am_subE, am_mulE, am_laddE, am_lsubE, am_upO, am_upS, am_stS, am_stO, am_tnn, am_brl, am_brg, am_bre, am_brn, am_brG, am_brL, am_st1, am_no2, am_st2, am_clr, and_self, true_and, and_true, true_or, or_true, List.length_cons, List.length_nil] <;> omega) ?_
    try simp (disch := omega) only [am_addE, am_subE, am_mulE, am_laddE, am_lsubE, am_upO, am_upS, am_stS, am_stO, am_tnn, am_brl, am_brg, am_bre, am_brn, am_brG, am_brL, am_st1, am_no2, am_st2, am_clr]
    refine am_wp_br (fun b16 => ?_) (fun b16 => ?_)
    · omega
    · have e62 := hb.1 t (by omega)
      have l62 := mkG_lt hg (k := k) (t := t) hk
      refine am_wp_go rfl (by simp (disch := omega) only [s61 hw, r61_0 hw, s62 hw, e62, am_andN, am_addE, am_subE, am_mulE, am_laddE, am_lsubE, am_upO, am_upS, am_stS, am_stO, am_tnn, am_brl, am_brg, am_bre, am_brn, am_brG, am_brL, am_st1, am_no2, am_st2, am_clr, and_self, true_and, and_true, true_or, or_true, List.length_cons, List.length_nil] <;> omega) ?_
      try simp (disch := omega) only [s61 hw, r61_0 hw, s62 hw, e62, am_andN, am_addE, am_subE, am_mulE, am_laddE, am_lsubE, am_upO, am_upS, am_stS, am_stO, am_tnn, am_brl, am_brg, am_bre, am_brn, am_brG, am_brL, am_st1, am_no2, am_st2, am_clr]
      refine am_wp_cc rfl rfl rfl (trivial) (w_placeMark hq ⟨_, rfl, ?_⟩)
      refine am_wp_go rfl (by simp (disch := omega) only [s61 hw, r61_0 hw, s62 hw, e62, am_andN, am_addE, am_subE, am_mulE, am_laddE, am_lsubE, am_upO, am_upS, am_stS, am_stO, am_tnn, am_brl, am_brg, am_bre, am_brn, am_brG, am_brL, am_st1, am_no2, am_st2, am_clr, and_self, true_and, and_true, true_or, or_true, List.length_cons, List.length_nil] <;> omega) ?_
      try simp (disch := omega) only [s61 hw, r61_0 hw, s62 hw, e62, am_andN, am_addE, am_subE, am_mulE, am_laddE, am_lsubE, am_upO, am_upS, am_stS, am_stO, am_tnn, am_brl, am_brg, am_bre, am_brn, am_brG, am_brL, am_st1, am_no2, am_st2, am_clr]
      refine am_wp_br (fun b31 => ?_) (fun b31 => ?_)
      · have h21 : decide (mkG G k t &&& 2 ^ q = 0) = false := decide_eq_false (by omega)
        refine am_wp_go rfl (by simp (disch := omega) only [s61 hw, r61_0 hw, s62 hw, e62, am_andN, am_addE, am_subE, am_mulE, am_laddE, am_lsubE, am_upO, am_upS, am_stS, am_stO, am_tnn, am_brl, am_brg, am_bre, am_brn, am_brG, am_brL, am_st1, am_no2, am_st2, am_clr, and_self, true_and, and_true, true_or, or_true, List.length_cons, List.length_nil] <;> omega) ?_
        try simp (disch := omega) only [s61 hw, r61_0 hw, s62 hw, e62, am_andN, am_addE, am_subE, am_mulE, am_laddE, am_lsubE, am_upO, am_upS, am_stS, am_stO, am_tnn, am_brl, am_brg, am_bre, am_brn, am_brG, am_brL, am_st1, am_no2, am_st2, am_clr]
        exact am_wp_ls (ih (by omega)) (by simp (disch := omega) only [ax_ct, h21, cond_false, s61 hw, r61_0 hw, s62 hw, e62, am_andN, am_addE, am_subE, am_mulE, am_laddE, am_lsubE, am_upO, am_upS, am_stS, am_stO, am_tnn, am_brl, am_brg, am_bre, am_brn, am_brG, am_brL, am_st1, am_no2, am_st2, am_clr, List.cons.injEq, Option.some.injEq, Sum.inl.injEq, Sum.inr.injEq, and_self, true_and, and_true] <;> omega)
      · have h21 : decide (mkG G k t &&& 2 ^ q = 0) = true := decide_eq_true (by omega)
        refine am_wp_go rfl (by simp (disch := omega) only [s61 hw, r61_0 hw, s62 hw, e62, am_andN, am_addE, am_subE, am_mulE, am_laddE, am_lsubE, am_upO, am_upS, am_stS, am_stO, am_tnn, am_brl, am_brg, am_bre, am_brn, am_brG, am_brL, am_st1, am_no2, am_st2, am_clr, and_self, true_and, and_true, true_or, or_true, List.length_cons, List.length_nil] <;> omega) ?_
        try simp (disch := omega) only [s61 hw, r61_0 hw, s62 hw, e62, am_andN, am_addE, am_subE, am_mulE, am_laddE, am_lsubE, am_upO, am_upS, am_stS, am_stO, am_tnn, am_brl, am_brg, am_bre, am_brn, am_brG, am_brL, am_st1, am_no2, am_st2, am_clr]
        exact am_wp_ls (ih (by omega)) (by simp (disch := omega) only [ax_ct, h21, cond_true, s61 hw, r61_0 hw, s62 hw, e62, am_andN, am_addE, am_subE, am_mulE, am_laddE, am_lsubE, am_upO, am_upS, am_stS, am_stO, am_tnn, am_brl, am_brg, am_bre, am_brn, am_brG, am_brL, am_st1, am_no2, am_st2, am_clr, List.cons.injEq, Option.some.injEq, Sum.inl.injEq, Sum.inr.injEq, and_self, true_and, and_true] <;> omega)
end BOARD
