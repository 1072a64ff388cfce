/-! early() on both sides -/
def setB (G : List Go) (k : Nat) (b : Int) : List Go := G.set k (gS G k, gU G k, b, gL G k, gN G k)
noncomputable def erW (W : Nat → Int) (G : List Go) : Nat → List Go × Nat
  | 0 => (G, 0)
  | k + 1 => if elW W (erW W G k).1 k < gB (erW W G k).1 k then (setB (erW W G k).1 k (elW W (erW W G k).1 k), (erW W G k).2 + 1) else erW W G k
theorem el_le {W : Nat → Int} {G : List Go} {k : Nat} (h : 0 ≤ gB G k) : 0 ≤ elW W G k ∧ elW W G k ≤ gB G k := by
  unfold elW
  rcases am_ff_v (p := fun m => decide (wrF W G k m = 0)) (n := (gB G k).toNat) 0 with e | ⟨j, e, h1, h2, h3⟩
  · rw [e, if_pos rfl]; omega
  · rw [e, if_neg (by omega)]; omega
theorem setB_gs {G : List Go} {k j : Nat} {b : Int} (h : j ≠ k) : gs (setB G k b) j = gs G j := gs_set2 h
theorem setB_len {G : List Go} {k : Nat} {b : Int} : (setB G k b).length = G.length := List.length_set
theorem setB_ok {W : Nat → Int} {G : List Go} {k : Nat} {b : Int} (hg : gok G) (hgk : gkt W G) (hk : k < G.length) (hb : 0 ≤ b ∧ b ≤ 900) : gok (setB G k b) ∧ gkt W (setB G k b) := by
  refine ⟨⟨by rw [setB_len]; exact hg.1, fun j hj => ?_⟩, fun j hj => ?_⟩
  · rw [setB_len] at hj
    have t := hg.2 j hj
    unfold gS gU gB gL gN at t ⊢
    by_cases hjk : j = k
    · subst hjk
      unfold setB
      rw [gs_set hj]
      unfold gS gU gL gN
      dsimp only
      omega
    · rw [setB_gs hjk]; exact t
  · rw [setB_len] at hj
    have t := hgk j hj
    unfold gS gL at t ⊢
    by_cases hjk : j = k
    · subst hjk
      unfold setB
      rw [gs_set hj]
      exact t
    · rw [setB_gs hjk]; exact t
theorem er_ok {W : Nat → Int} {G : List Go} (hg : gok G) (hgk : gkt W G) : ∀ k, k ≤ G.length → (erW W G k).1.length = G.length ∧ gok (erW W G k).1 ∧ gkt W (erW W G k).1 ∧ (erW W G k).2 ≤ k ∧ ((erW W G k).2 = 0 → (erW W G k).1 = G) := by
  intro k
  induction k with
  | zero => intro _; exact ⟨rfl, hg, hgk, Nat.le_refl 0, fun _ => rfl⟩
  | succ k ih =>
    intro hk
    obtain ⟨a, b, c, d, e⟩ := ih (by omega)
    have g1 := b.2 k (by omega)
    have l1 := el_le (W := W) (G := (erW W G k).1) (k := k) (by omega)
    unfold erW
    split
    · obtain ⟨f1, f2⟩ := setB_ok (b := elW W (erW W G k).1 k) b c (by omega : k < (erW W G k).1.length) (by omega)
      exact ⟨by dsimp only; rw [setB_len]; exact a, f1, f2, by dsimp only; omega, fun h => by dsimp only at h; omega⟩
    · exact ⟨a, b, c, by omega, e⟩
theorem mkG_cg {G F : List Go} {t : Nat} : ∀ k, (∀ j, j < k → gs F j = gs G j) → mkG F k t = mkG G k t := by
  intro k
  induction k with
  | zero => intro _; rfl
  | succ k ih =>
    intro h
    have h1 := ih (fun j hj => h j (by omega))
    show mkG F k t ||| bitG F t k = mkG G k t ||| bitG G t k
    rw [h1]
    unfold bitG gS gU gB gL gN
    rw [h k (by omega)]
theorem hadG_cg {G F : List Go} {s : Int} {k : Nat} (h : ∀ j, j < k → gs F j = gs G j) : hadG F k s = hadG G k s := by
  unfold hadG
  refine am_fsum_cg (fun j hj => ?_)
  unfold gS gU gN
  rw [h j hj]
theorem bd_cg {I : Nat → Nat → Int} {G F : List Go} {k : Nat} (hb : bd I G k) (h : ∀ j, j < k → gs F j = gs G j) : bd I F k := ⟨fun t ht => by rw [mkG_cg k h]; exact hb.1 t ht, fun s hs => by rw [hadG_cg h]; exact hb.2 s hs⟩
section EARLY
variable {m sl : Nat} {sh : Nat → Nat × Nat} {I : Nat → Nat → Int} {R : Nat → Nat → Nat} {Q : am_R → am_M → Prop} {d k p : Nat} {W N : Nat → Int} {G : List Go} {H : List (List Go)}
theorem c_early (hw : wd sh R) (hk : kit I 6 W N) (hp : pl I 14 G) (hgk : gkt W G) (hh : hsC I H) (h0 : (erW W G G.length).2 = 0 → ∀ J, cq I J → Q (am_yi 0) (m, sl, sh, J, R)) (h1 : 0 < (erW W G G.length).2 → ∀ J, cqp I J → pl J 14 (erW W G G.length).1 → hsC J (hpush H G) → Q (am_yi (erW W G G.length).2) (m, sl, sh, J, R)) : am_wp (d + 4) 168 0 [some (.inr (.inr (4))), none, none, none] [] (m, sl, sh, I, R) Q := by
  have hg := pl_gok hp
  have h4 := hg.1
  have hok := er_ok hg hgk
  refine am_wp_go rfl (by simp (disch := omega) only [s4 hw, r4_4 hw, r4_0 hw, s5 hw, r5_1 hw, r4_7 hw, am_addE, am_subE, am_mulE, am_laddE, am_lsubE, am_upO, am_upS, am_stS, am_stO, am_tnn, am_brl, am_brg, am_bre, am_brn, am_brG, am_brL, am_st1, am_no2, am_st2, am_clr, and_self, true_and, and_true, true_or, or_true, List.length_cons, List.length_nil] <;> omega) ?_
  try simp (disch := omega) only [s4 hw, r4_4 hw, r4_0 hw, s5 hw, r5_1 hw, r4_7 hw, am_addE, am_subE, am_mulE, am_laddE, am_lsubE, am_upO, am_upS, am_stS, am_stO, am_tnn, am_brl, am_brg, am_bre, am_brn, am_brG, am_brL, am_st1, am_no2, am_st2, am_clr]
  refine am_wp_cc rfl rfl rfl (congrArg Prod.fst (s48 hw)) (w_plcopy (pl_w hw (by decide)) (pl_w hw (by decide)) (by decide) (by decide) (by decide) hp (fun J0 j1 j2 => ⟨_, rfl, ?_⟩))
  refine am_wp_go rfl (by simp (disch := omega) only [s4 hw, r4_4 hw, r4_0 hw, s5 hw, r5_1 hw, r4_7 hw, am_addE, am_subE, am_mulE, am_laddE, am_lsubE, am_upO, am_upS, am_stS, am_stO, am_tnn, am_brl, am_brg, am_bre, am_brn, am_brG, am_brL, am_st1, am_no2, am_st2, am_clr, and_self, true_and, and_true, true_or, or_true, List.length_cons, List.length_nil] <;> omega) ?_
  try simp (disch := omega) only [s4 hw, r4_4 hw, r4_0 hw, s5 hw, r5_1 hw, r4_7 hw, am_addE, am_subE, am_mulE, am_laddE, am_lsubE, am_upO, am_upS, am_stS, am_stO, am_tnn, am_brl, am_brg, am_bre, am_brn, am_brG, am_brL, am_st1, am_no2, am_st2, am_clr]
  refine am_wp_cc rfl rfl rfl (congrArg Prod.fst (s61 hw)) (w_bclear hw (fun J i1 i2 => ⟨_, rfl, ?_⟩))
  refine am_wp_go rfl (by simp (disch := omega) only [s4 hw, r4_4 hw, r4_0 hw, s5 hw, r5_1 hw, r4_7 hw, am_addE, am_subE, am_mulE, am_laddE, am_lsubE, am_upO, am_upS, am_stS, am_stO, am_tnn, am_brl, am_brg, am_bre, am_brn, am_brG, am_brL, am_st1, am_no2, am_st2, am_clr, and_self, true_and, and_true, true_or, or_true, List.length_cons, List.length_nil] <;> omega) ?_
  try simp (disch := omega) only [s4 hw, r4_4 hw, r4_0 hw, s5 hw, r5_1 hw, r4_7 hw, am_addE, am_subE, am_mulE, am_laddE, am_lsubE, am_upO, am_upS, am_stS, am_stO, am_tnn, am_brl, am_brg, am_bre, am_brn, am_brG, am_brL, am_st1, am_no2, am_st2, am_clr]
  refine am_lp0 (P := fun k => ∀ (z : Option am_V) (K : Nat → Nat → Int), (∀ a, a ≠ 48 → a ≠ 49 → a ≠ 62 → a ≠ 63 → K a = I a) → pl K 48 (erW W G k).1 → bd K (erW W G k).1 k → am_wp (d + 4) 168 25 [some (.inr (.inr (4))), some (.inl (((erW W G k).2 : Int))), some (.inl ((k : Int))), z] [] (m, sl, sh, K, R) Q) G.length (fun k hkl ih z K k1 k2 k3 => ?_) none J (fun a h1 h2 h3 h4 => by rw [i1 a h3 h4, j1 a h1 h2]) (pl_fr j2 (i1 48 (by decide) (by decide)) (i1 49 (by decide) (by decide))) (i2 G)
  obtain ⟨a1, a2, a3, a4, a5⟩ := hok k hkl
  have p1 : K 48 1 = (G.length : Int) := by rw [k2.1, a1]
  have hkk : kit K 6 W N := kit_fr hk (fun a h1 h2 => k1 a (by omega) (by omega) (by omega) (by omega))
  refine am_wp_go rfl (by simp (disch := omega) only [s4 hw, r4_4 hw, s48 hw, r4_0 hw, s5 hw, r5_0 hw, r4_7 hw, p1, am_addE, am_subE, am_mulE, am_laddE, am_lsubE, am_upO, am_upS, am_stS, am_stO, am_tnn, am_brl, am_brg, am_bre, am_brn, am_brG, am_brL, am_st1, am_no2, am_st2, am_clr, and_self, true_and, and_true, true_or, or_true, List.length_cons, List.length_nil] <;> omega) ?_
  try simp (disch := omega) only [s4 hw, r4_4 hw, s48 hw, r4_0 hw, s5 hw, r5_0 hw, r4_7 hw, p1, am_addE, am_subE, am_mulE, am_laddE, am_lsubE, am_upO, am_upS, am_stS, am_stO, am_tnn, am_brl, am_brg, am_bre, am_brn, am_brG, am_brL, am_st1, am_no2, am_st2, am_clr]
  refine am_wp_br (fun b33 => ?_) (fun b33 => ?_)
  · have e0 : k = G.length := by omega
    subst e0
    refine am_wp_go rfl (by simp (disch := omega) only [s4 hw, r4_4 hw, s48 hw, r4_0 hw, s5 hw, r5_0 hw, r4_7 hw, p1, am_addE, am_subE, am_mulE, am_laddE, am_lsubE, am_upO, am_upS, am_stS, am_stO, am_tnn, am_brl, am_brg, am_bre, am_brn, am_brG, am_brL, am_st1, am_no2, am_st2, am_clr, and_self, true_and, and_true, true_or, or_true, List.length_cons, List.length_nil] <;> omega) ?_
    try simp (disch := omega) only [s4 hw, r4_4 hw, s48 hw, r4_0 hw, s5 hw, r5_0 hw, r4_7 hw, p1, am_addE, am_subE, am_mulE, am_laddE, am_lsubE, am_upO, am_upS, am_stS, am_stO, am_tnn, am_brl, am_brg, am_bre, am_brn, am_brG, am_brL, am_st1, am_no2, am_st2, am_clr]
    refine am_wp_br (fun b99 => ?_) (fun b99 => ?_)
    · have e2 : (erW W G G.length).2 = 0 := by omega
      refine am_wp_go rfl (by simp (disch := omega) only [s4 hw, r4_4 hw, s48 hw, r4_0 hw, s5 hw, r5_0 hw, r4_7 hw, p1, am_addE, am_subE, am_mulE, am_laddE, am_lsubE, am_upO, am_upS, am_stS, am_stO, am_tnn, am_brl, am_brg, am_bre, am_brn, am_brG, am_brL, am_st1, am_no2, am_st2, am_clr, and_self, true_and, and_true, true_or, or_true, List.length_cons, List.length_nil] <;> omega) ?_
      try simp (disch := omega) only [s4 hw, r4_4 hw, s48 hw, r4_0 hw, s5 hw, r5_0 hw, r4_7 hw, p1, am_addE, am_subE, am_mulE, am_laddE, am_lsubE, am_upO, am_upS, am_stS, am_stO, am_tnn, am_brl, am_brg, am_bre, am_brn, am_brG, am_brL, am_st1, am_no2, am_st2, am_clr]
      refine am_wp_ret rfl rfl ?_
      rw [e2]
      exact h0 e2 K (cq_of (fun a ha => k1 a (by omega) (by omega) (by omega) (by omega)))
    · refine am_wp_go rfl (by simp (disch := omega) only [s4 hw, r4_4 hw, s48 hw, r4_0 hw, s5 hw, r5_0 hw, r4_7 hw, p1, am_addE, am_subE, am_mulE, am_laddE, am_lsubE, am_upO, am_upS, am_stS, am_stO, am_tnn, am_brl, am_brg, am_bre, am_brn, am_brG, am_brL, am_st1, am_no2, am_st2, am_clr, and_self, true_and, and_true, true_or, or_true, List.length_cons, List.length_nil] <;> omega) ?_
      try simp (disch := omega) only [s4 hw, r4_4 hw, s48 hw, r4_0 hw, s5 hw, r5_0 hw, r4_7 hw, p1, am_addE, am_subE, am_mulE, am_laddE, am_lsubE, am_upO, am_upS, am_stS, am_stO, am_tnn, am_brl, am_brg, am_bre, am_brn, am_brG, am_brL, am_st1, am_no2, am_st2, am_clr]
      refine am_wp_cc rfl rfl rfl (congrArg Prod.fst (s4 hw)) (w_adopt hw (pl_fr hp (k1 14 (by decide) (by decide) (by decide) (by decide)) (k1 15 (by decide) (by decide) (by decide) (by decide))) k2 (hsC_fr hh (fun a ha => k1 a (by omega) (by omega) (by omega) (by omega))) (fun L l1 l2 l3 => ⟨_, rfl, ?_⟩))
      refine am_wp_go rfl (by simp (disch := omega) only [s4 hw, r4_4 hw, s48 hw, r4_0 hw, s5 hw, r5_0 hw, r4_7 hw, p1, am_addE, am_subE, am_mulE, am_laddE, am_lsubE, am_upO, am_upS, am_stS, am_stO, am_tnn, am_brl, am_brg, am_bre, am_brn, am_brG, am_brL, am_st1, am_no2, am_st2, am_clr, and_self, true_and, and_true, true_or, or_true, List.length_cons, List.length_nil] <;> omega) ?_
      try simp (disch := omega) only [s4 hw, r4_4 hw, s48 hw, r4_0 hw, s5 hw, r5_0 hw, r4_7 hw, p1, am_addE, am_subE, am_mulE, am_laddE, am_lsubE, am_upO, am_upS, am_stS, am_stO, am_tnn, am_brl, am_brg, am_bre, am_brn, am_brG, am_brL, am_st1, am_no2, am_st2, am_clr]
      refine am_wp_ret rfl rfl ?_
      exact h1 (by omega) L (cqp_of (fun a ha => by rw [l1 a (by omega), k1 a (by omega) (by omega) (by omega) (by omega)])) l2 l3
  · have g1 := a2.2 k (by omega)
    have l1 := el_le (W := W) (G := (erW W G k).1) (k := k) (by omega)
    have ih := ih (by omega)
    unfold erW at ih
    generalize hS : erW W G k = S at *
    obtain ⟨F, n⟩ := S
    dsimp only at *
    refine am_wp_go rfl (by simp (disch := omega) only [s4 hw, r4_4 hw, s48 hw, r4_0 hw, s5 hw, r5_0 hw, r4_7 hw, p1, am_addE, am_subE, am_mulE, am_laddE, am_lsubE, am_upO, am_upS, am_stS, am_stO, am_tnn, am_brl, am_brg, am_bre, am_brn, am_brG, am_brL, am_st1, am_no2, am_st2, am_clr, and_self, true_and, and_true, true_or, or_true, List.length_cons, List.length_nil] <;> omega) ?_
    try simp (disch := omega) only [s4 hw, r4_4 hw, s48 hw, r4_0 hw, s5 hw, r5_0 hw, r4_7 hw, p1, am_addE, am_subE, am_mulE, am_laddE, am_lsubE, am_upO, am_upS, am_stS, am_stO, am_tnn, am_brl, am_brg, am_bre, am_brn, am_brG, am_brL, am_st1, am_no2, am_st2, am_clr]
    refine am_wp_cc rfl rfl rfl (congrArg Prod.fst (s61 hw)) (w_firstBegin hw hkk (pl_w hw (by decide)) k2 a3 k3 (by omega) ⟨_, rfl, ?_⟩)
    refine am_wp_go rfl (by simp (disch := omega) only [s4 hw, r4_4 hw, s48 hw, r4_0 hw, s5 hw, r5_0 hw, r4_7 hw, p1, am_addE, am_subE, am_mulE, am_laddE, am_lsubE, am_upO, am_upS, am_stS, am_stO, am_tnn, am_brl, am_brg, am_bre, am_brn, am_brG, am_brL, am_st1, am_no2, am_st2, am_clr, and_self, true_and, and_true, true_or, or_true, List.length_cons, List.length_nil] <;> omega) ?_
    try simp (disch := omega) only [s4 hw, r4_4 hw, s48 hw, r4_0 hw, s5 hw, r5_0 hw, r4_7 hw, p1, am_addE, am_subE, am_mulE, am_laddE, am_lsubE, am_upO, am_upS, am_stS, am_stO, am_tnn, am_brl, am_brg, am_bre, am_brn, am_brG, am_brL, am_st1, am_no2, am_st2, am_clr]
    refine am_wp_cc rfl rfl rfl (congrArg Prod.fst (s48 hw)) (w_beginOf (pl_w hw (by decide)) k2 (by omega) ⟨_, rfl, ?_⟩)
    refine am_wp_go rfl (by simp (disch := omega) only [s4 hw, r4_4 hw, s48 hw, r4_0 hw, s5 hw, r5_0 hw, r4_7 hw, p1, am_addE, am_subE, am_mulE, am_laddE, am_lsubE, am_upO, am_upS, am_stS, am_stO, am_tnn, am_brl, am_brg, am_bre, am_brn, am_brG, am_brL, am_st1, am_no2, am_st2, am_clr, and_self, true_and, and_true, true_or, or_true, List.length_cons, List.length_nil] <;> omega) ?_
    try simp (disch := omega) only [s4 hw, r4_4 hw, s48 hw, r4_0 hw, s5 hw, r5_0 hw, r4_7 hw, p1, am_addE, am_subE, am_mulE, am_laddE, am_lsubE, am_upO, am_upS, am_stS, am_stO, am_tnn, am_brl, am_brg, am_bre, am_brn, am_brG, am_brL, am_st1, am_no2, am_st2, am_clr]
    refine am_wp_br (fun b65 => ?_) (fun b65 => ?_)
    · rw [if_neg (by omega)] at ih
      refine am_wp_go rfl (by simp (disch := omega) only [s4 hw, r4_4 hw, s48 hw, r4_0 hw, s5 hw, r5_0 hw, r4_7 hw, p1, am_addE, am_subE, am_mulE, am_laddE, am_lsubE, am_upO, am_upS, am_stS, am_stO, am_tnn, am_brl, am_brg, am_bre, am_brn, am_brG, am_brL, am_st1, am_no2, am_st2, am_clr, and_self, true_and, and_true, true_or, or_true, List.length_cons, List.length_nil] <;> omega) ?_
      try simp (disch := omega) only [s4 hw, r4_4 hw, s48 hw, r4_0 hw, s5 hw, r5_0 hw, r4_7 hw, p1, am_addE, am_subE, am_mulE, am_laddE, am_lsubE, am_upO, am_upS, am_stS, am_stO, am_tnn, am_brl, am_brg, am_bre, am_brn, am_brG, am_brL, am_st1, am_no2, am_st2, am_clr]
      refine am_wp_cc rfl rfl rfl (congrArg Prod.fst (s61 hw)) (w_bput hw (pl_w hw (p := 48) (by decide)) (by decide) (by decide) k2 k3 (by omega) (fun L l1 l2 => ⟨_, rfl, ?_⟩))
      refine am_wp_go rfl (by simp (disch := omega) only [s4 hw, r4_4 hw, s48 hw, r4_0 hw, s5 hw, r5_0 hw, r4_7 hw, p1, am_addE, am_subE, am_mulE, am_laddE, am_lsubE, am_upO, am_upS, am_stS, am_stO, am_tnn, am_brl, am_brg, am_bre, am_brn, am_brG, am_brL, am_st1, am_no2, am_st2, am_clr, and_self, true_and, and_true, true_or, or_true, List.length_cons, List.length_nil] <;> omega) ?_
      try simp (disch := omega) only [s4 hw, r4_4 hw, s48 hw, r4_0 hw, s5 hw, r5_0 hw, r4_7 hw, p1, am_addE, am_subE, am_mulE, am_laddE, am_lsubE, am_upO, am_upS, am_stS, am_stO, am_tnn, am_brl, am_brg, am_bre, am_brn, am_brG, am_brL, am_st1, am_no2, am_st2, am_clr]
      exact am_wp_ls (ih _ L (fun a h1 h2 h3 h4 => by rw [l1 a h3 h4, k1 a h1 h2 h3 h4]) (pl_fr k2 (l1 48 (by decide) (by decide)) (l1 49 (by decide) (by decide))) l2) rfl
    · rw [if_pos (by omega)] at ih
      refine am_wp_go rfl (by simp (disch := omega) only [s4 hw, r4_4 hw, s48 hw, r4_0 hw, s5 hw, r5_0 hw, r4_7 hw, p1, am_addE, am_subE, am_mulE, am_laddE, am_lsubE, am_upO, am_upS, am_stS, am_stO, am_tnn, am_brl, am_brg, am_bre, am_brn, am_brG, am_brL, am_st1, am_no2, am_st2, am_clr, and_self, true_and, and_true, true_or, or_true, List.length_cons, List.length_nil] <;> omega) ?_
      try simp (disch := omega) only [s4 hw, r4_4 hw, s48 hw, r4_0 hw, s5 hw, r5_0 hw, r4_7 hw, p1, am_addE, am_subE, am_mulE, am_laddE, am_lsubE, am_upO, am_upS, am_stS, am_stO, am_tnn, am_brl, am_brg, am_bre, am_brn, am_brG, am_brL, am_st1, am_no2, am_st2, am_clr]
      refine am_wp_cc rfl rfl rfl (congrArg Prod.fst (s48 hw)) (w_moveTo (pl_w hw (by decide)) k2 (by omega) (by omega) (fun L l1 l2 => ⟨_, rfl, ?_⟩))
      have l2 : pl L 48 (setB F k (elW W F k)) := l2
      refine am_wp_go rfl (by simp (disch := omega) only [s4 hw, r4_4 hw, s48 hw, r4_0 hw, s5 hw, r5_0 hw, r4_7 hw, p1, am_addE, am_subE, am_mulE, am_laddE, am_lsubE, am_upO, am_upS, am_stS, am_stO, am_tnn, am_brl, am_brg, am_bre, am_brn, am_brG, am_brL, am_st1, am_no2, am_st2, am_clr, and_self, true_and, and_true, true_or, or_true, List.length_cons, List.length_nil] <;> omega) ?_
      try simp (disch := omega) only [s4 hw, r4_4 hw, s48 hw, r4_0 hw, s5 hw, r5_0 hw, r4_7 hw, p1, am_addE, am_subE, am_mulE, am_laddE, am_lsubE, am_upO, am_upS, am_stS, am_stO, am_tnn, am_brl, am_brg, am_bre, am_brn, am_brG, am_brL, am_st1, am_no2, am_st2, am_clr]
      refine am_wp_cc rfl rfl rfl (congrArg Prod.fst (s61 hw)) (w_bput hw (pl_w hw (p := 48) (by decide)) (by decide) (by decide) l2 (k := k) (bd_cg (G := F) ⟨fun t ht => by rw [l1 62 (by decide)]; exact k3.1 t ht, fun s hs => by rw [l1 63 (by decide)]; exact k3.2 s hs⟩ (fun j hj => setB_gs (by omega))) (by rw [setB_len]; omega) (fun V v1 v2 => ⟨_, rfl, ?_⟩))
      refine am_wp_go rfl (by simp (disch := omega) only [s4 hw, r4_4 hw, s48 hw, r4_0 hw, s5 hw, r5_0 hw, r4_7 hw, p1, am_addE, am_subE, am_mulE, am_laddE, am_lsubE, am_upO, am_upS, am_stS, am_stO, am_tnn, am_brl, am_brg, am_bre, am_brn, am_brG, am_brL, am_st1, am_no2, am_st2, am_clr, and_self, true_and, and_true, true_or, or_true, List.length_cons, List.length_nil] <;> omega) ?_
      try simp (disch := omega) only [s4 hw, r4_4 hw, s48 hw, r4_0 hw, s5 hw, r5_0 hw, r4_7 hw, p1, am_addE, am_subE, am_mulE, am_laddE, am_lsubE, am_upO, am_upS, am_stS, am_stO, am_tnn, am_brl, am_brg, am_bre, am_brn, am_brG, am_brL, am_st1, am_no2, am_st2, am_clr]
      exact am_wp_ls (ih _ V (fun a h1 h2 h3 h4 => by rw [v1 a h3 h4, l1 a h2, k1 a h1 h2 h3 h4]) (pl_fr l2 (v1 48 (by decide) (by decide)) (v1 49 (by decide) (by decide))) v2) rfl
theorem w_M_earliest (hw : wd sh R) (hk : wk (I 126)) (hr : rf (pw (I 126)) G) (hg : gok G) (hgk : gkt (I 126) G) (hkl : k < G.length) (h : Q (am_yi (elW (I 126) G k)) (m, sl, sh, I, R)) : am_wp (d + 3) 285 0 [some (.inr (.inr (124))), some (.inl ((k : Int))), none] [] (m, sl, sh, I, R) Q := by
  have h4 := hg.1
  have g1 := hg.2 k hkl
  refine am_wp_go rfl (by simp (disch := omega) only [s124 hw, am_addE, am_subE, am_mulE, am_laddE, am_lsubE, am_upO, am_upS, am_stS, am_stO, am_tnn, am_brl, am_brg, am_bre, am_brn, am_brG, am_brL, am_st1, am_no2, am_st2, am_clr, and_self, true_and, and_true, true_or, or_true, List.length_cons, List.length_nil] <;> omega) ?_
  try simp (disch := omega) only [s124 hw, am_addE, am_subE, am_mulE, am_laddE, am_lsubE, am_upO, am_upS, am_stS, am_stO, am_tnn, am_brl, am_brg, am_bre, am_brn, am_brG, am_brL, am_st1, am_no2, am_st2, am_clr]
  refine am_lp0 (P := fun b => (∀ i : Nat, i < b → wrF (I 126) G k i ≠ 0) → am_wp (d + 3) 285 2 [some (.inr (.inr (124))), some (.inl ((k : Int))), some (.inl ((b : Int)))] [] (m, sl, sh, I, R) Q) (gB G k).toNat (fun b hb ih hn => ?_) (fun i hi => absurd hi (Nat.not_lt_zero i))
  refine am_wp_go rfl (by simp (disch := omega) only [s124 hw, am_addE, am_subE, am_mulE, am_laddE, am_lsubE, am_upO, am_upS, am_stS, am_stO, am_tnn, am_brl, am_brg, am_bre, am_brn, am_brG, am_brL, am_st1, am_no2, am_st2, am_clr, and_self, true_and, and_true, true_or, or_true, List.length_cons, List.length_nil] <;> omega) ?_
  try simp (disch := omega) only [s124 hw, am_addE, am_subE, am_mulE, am_laddE, am_lsubE, am_upO, am_upS, am_stS, am_stO, am_tnn, am_brl, am_brg, am_bre, am_brn, am_brG, am_brL, am_st1, am_no2, am_st2, am_clr]
  refine am_wp_cc rfl rfl rfl (congrArg Prod.fst (s124 hw)) (w_M_from hw hr h4 hkl ⟨_, rfl, ?_⟩)
  refine am_wp_go rfl (by simp (disch := omega) only [s124 hw, am_addE, am_subE, am_mulE, am_laddE, am_lsubE, am_upO, am_upS, am_stS, am_stO, am_tnn, am_brl, am_brg, am_bre, am_brn, am_brG, am_brL, am_st1, am_no2, am_st2, am_clr, and_self, true_and, and_true, true_or, or_true, List.length_cons, List.length_nil] <;> omega) ?_
  try simp (disch := omega) only [s124 hw, am_addE, am_subE, am_mulE, am_laddE, am_lsubE, am_upO, am_upS, am_stS, am_stO, am_tnn, am_brl, am_brg, am_bre, am_brn, am_brG, am_brL, am_st1, am_no2, am_st2, am_clr]
  refine am_wp_br (fun b8 => ?_) (fun b8 => ?_)
  · refine am_wp_go rfl (by simp (disch := omega) only [s124 hw, am_addE, am_subE, am_mulE, am_laddE, am_lsubE, am_upO, am_upS, am_stS, am_stO, am_tnn, am_brl, am_brg, am_bre, am_brn, am_brG, am_brL, am_st1, am_no2, am_st2, am_clr, and_self, true_and, and_true, true_or, or_true, List.length_cons, List.length_nil] <;> omega) ?_
    try simp (disch := omega) only [s124 hw, am_addE, am_subE, am_mulE, am_laddE, am_lsubE, am_upO, am_upS, am_stS, am_stO, am_tnn, am_brl, am_brg, am_bre, am_brn, am_brG, am_brL, am_st1, am_no2, am_st2, am_clr]
    refine am_wp_ret rfl rfl ?_
    rwa [el_char (b := b) (by omega) (by omega) hn (Or.inl (by omega))] at h
  · refine am_wp_go rfl (by simp (disch := omega) only [s124 hw, am_addE, am_subE, am_mulE, am_laddE, am_lsubE, am_upO, am_upS, am_stS, am_stO, am_tnn, am_brl, am_brg, am_bre, am_brn, am_brG, am_brL, am_st1, am_no2, am_st2, am_clr, and_self, true_and, and_true, true_or, or_true, List.length_cons, List.length_nil] <;> omega) ?_
    try simp (disch := omega) only [s124 hw, am_addE, am_subE, am_mulE, am_laddE, am_lsubE, am_upO, am_upS, am_stS, am_stO, am_tnn, am_brl, am_brg, am_bre, am_brn, am_brG, am_brL, am_st1, am_no2, am_st2, am_clr]
    refine am_wp_cc rfl rfl rfl (congrArg Prod.fst (s124 hw)) (w_M_wrong hw hk hr hg hgk hkl (by omega) ⟨_, rfl, ?_⟩)
    refine am_wp_go rfl (by simp (disch := omega) only [s124 hw, am_addE, am_subE, am_mulE, am_laddE, am_lsubE, am_upO, am_upS, am_stS, am_stO, am_tnn, am_brl, am_brg, am_bre, am_brn, am_brG, am_brL, am_st1, am_no2, am_st2, am_clr, and_self, true_and, and_true, true_or, or_true, List.length_cons, List.length_nil] <;> omega) ?_
    try simp (disch := omega) only [s124 hw, am_addE, am_subE, am_mulE, am_laddE, am_lsubE, am_upO, am_upS, am_stS, am_stO, am_tnn, am_brl, am_brg, am_bre, am_brn, am_brG, am_brL, am_st1, am_no2, am_st2, am_clr]
    refine am_wp_br (fun b17 => ?_) (fun b17 => ?_)
    · refine am_wp_go rfl (by simp (disch := omega) only [s124 hw, am_addE, am_subE, am_mulE, am_laddE, am_lsubE, am_upO, am_upS, am_stS, am_stO, am_tnn, am_brl, am_brg, am_bre, am_brn, am_brG, am_brL, am_st1, am_no2, am_st2, am_clr, and_self, true_and, and_true, true_or, or_true, List.length_cons, List.length_nil] <;> omega) ?_
      try simp (disch := omega) only [s124 hw, am_addE, am_subE, am_mulE, am_laddE, am_lsubE, am_upO, am_upS, am_stS, am_stO, am_tnn, am_brl, am_brg, am_bre, am_brn, am_brG, am_brL, am_st1, am_no2, am_st2, am_clr]
      refine am_wp_ret rfl rfl ?_
      rwa [el_char (b := b) (by omega) (by omega) hn (Or.inr b17)] at h
    · refine am_wp_go rfl (by simp (disch := omega) only [s124 hw, am_addE, am_subE, am_mulE, am_laddE, am_lsubE, am_upO, am_upS, am_stS, am_stO, am_tnn, am_brl, am_brg, am_bre, am_brn, am_brG, am_brL, am_st1, am_no2, am_st2, am_clr, and_self, true_and, and_true, true_or, or_true, List.length_cons, List.length_nil] <;> omega) ?_
      try simp (disch := omega) only [s124 hw, am_addE, am_subE, am_mulE, am_laddE, am_lsubE, am_upO, am_upS, am_stS, am_stO, am_tnn, am_brl, am_brg, am_bre, am_brn, am_brG, am_brL, am_st1, am_no2, am_st2, am_clr]
      refine am_wp_ls (ih (by omega) (fun i hi => ?_)) rfl
      by_cases hib : i = b
      · subst hib; exact b17
      · exact hn i (by omega)
theorem w_M_canBeEarly (hw : wd sh R) (hk : wk (I 126)) (hr : rf (pw (I 126)) G) (hg : gok G) (hgk : gkt (I 126) G) (h1 : 0 < (erW (I 126) G G.length).2 → Q (am_yi 1) (m, sl, sh, I, R)) (h0 : (erW (I 126) G G.length).2 = 0 → Q (am_yi 0) (m, sl, sh, I, R)) : am_wp (d + 4) 286 0 [some (.inr (.inr (124))), none] [] (m, sl, sh, I, R) Q := by
  have h4 := hg.1
  have mono : ∀ k j, k ≤ j → (erW (I 126) G k).2 ≤ (erW (I 126) G j).2 := by
    intro k j hkj
    induction j with
    | zero => rw [show k = 0 by omega]; exact Nat.le_refl _
    | succ j ih =>
      by_cases h : k = j + 1
      · rw [h]; exact Nat.le_refl _
      · have := ih (by omega)
        conv => rhs; unfold erW
        split
        · dsimp only; omega
        · exact this
  refine am_wp_go rfl (by simp (disch := omega) only [s124 hw, am_addE, am_subE, am_mulE, am_laddE, am_lsubE, am_upO, am_upS, am_stS, am_stO, am_tnn, am_brl, am_brg, am_bre, am_brn, am_brG, am_brL, am_st1, am_no2, am_st2, am_clr, and_self, true_and, and_true, true_or, or_true, List.length_cons, List.length_nil] <;> omega) ?_
  try simp (disch := omega) only [s124 hw, am_addE, am_subE, am_mulE, am_laddE, am_lsubE, am_upO, am_upS, am_stS, am_stO, am_tnn, am_brl, am_brg, am_bre, am_brn, am_brG, am_brL, am_st1, am_no2, am_st2, am_clr]
  refine am_lp0 (P := fun k => erW (I 126) G k = (G, 0) → am_wp (d + 4) 286 2 [some (.inr (.inr (124))), some (.inl ((k : Int)))] [] (m, sl, sh, I, R) Q) G.length (fun k hkl ih he => ?_) rfl
  refine am_wp_go rfl (by simp (disch := omega) only [s124 hw, am_addE, am_subE, am_mulE, am_laddE, am_lsubE, am_upO, am_upS, am_stS, am_stO, am_tnn, am_brl, am_brg, am_bre, am_brn, am_brG, am_brL, am_st1, am_no2, am_st2, am_clr, and_self, true_and, and_true, true_or, or_true, List.length_cons, List.length_nil] <;> omega) ?_
  try simp (disch := omega) only [s124 hw, am_addE, am_subE, am_mulE, am_laddE, am_lsubE, am_upO, am_upS, am_stS, am_stO, am_tnn, am_brl, am_brg, am_bre, am_brn, am_brG, am_brL, am_st1, am_no2, am_st2, am_clr]
  refine am_wp_cc rfl rfl rfl (congrArg Prod.fst (s124 hw)) (w_M_goesG hw hr ⟨_, rfl, ?_⟩)
  refine am_wp_go rfl (by simp (disch := omega) only [s124 hw, am_addE, am_subE, am_mulE, am_laddE, am_lsubE, am_upO, am_upS, am_stS, am_stO, am_tnn, am_brl, am_brg, am_bre, am_brn, am_brG, am_brL, am_st1, am_no2, am_st2, am_clr, and_self, true_and, and_true, true_or, or_true, List.length_cons, List.length_nil] <;> omega) ?_
  try simp (disch := omega) only [s124 hw, am_addE, am_subE, am_mulE, am_laddE, am_lsubE, am_upO, am_upS, am_stS, am_stO, am_tnn, am_brl, am_brg, am_bre, am_brn, am_brG, am_brL, am_st1, am_no2, am_st2, am_clr]
  refine am_wp_br (fun b7 => ?_) (fun b7 => ?_)
  · have e0 : k = G.length := by omega
    subst e0
    refine am_wp_go rfl (by simp (disch := omega) only [s124 hw, am_addE, am_subE, am_mulE, am_laddE, am_lsubE, am_upO, am_upS, am_stS, am_stO, am_tnn, am_brl, am_brg, am_bre, am_brn, am_brG, am_brL, am_st1, am_no2, am_st2, am_clr, and_self, true_and, and_true, true_or, or_true, List.length_cons, List.length_nil] <;> omega) ?_
    try simp (disch := omega) only [s124 hw, am_addE, am_subE, am_mulE, am_laddE, am_lsubE, am_upO, am_upS, am_stS, am_stO, am_tnn, am_brl, am_brg, am_bre, am_brn, am_brG, am_brL, am_st1, am_no2, am_st2, am_clr]
    refine am_wp_ret rfl rfl ?_
    exact h0 (by rw [he])
  · have g1 := hg.2 k (by omega)
    have st : erW (I 126) G (k + 1) = if elW (I 126) G k < gB G k then (setB G k (elW (I 126) G k), 0 + 1) else (G, 0) := by
      conv => lhs; unfold erW
      rw [he]
    refine am_wp_go rfl (by simp (disch := omega) only [s124 hw, am_addE, am_subE, am_mulE, am_laddE, am_lsubE, am_upO, am_upS, am_stS, am_stO, am_tnn, am_brl, am_brg, am_bre, am_brn, am_brG, am_brL, am_st1, am_no2, am_st2, am_clr, and_self, true_and, and_true, true_or, or_true, List.length_cons, List.length_nil] <;> omega) ?_
    try simp (disch := omega) only [s124 hw, am_addE, am_subE, am_mulE, am_laddE, am_lsubE, am_upO, am_upS, am_stS, am_stO, am_tnn, am_brl, am_brg, am_bre, am_brn, am_brG, am_brL, am_st1, am_no2, am_st2, am_clr]
    refine am_wp_cc rfl rfl rfl (congrArg Prod.fst (s124 hw)) (w_M_earliest hw hk hr hg hgk (by omega) ⟨_, rfl, ?_⟩)
    refine am_wp_go rfl (by simp (disch := omega) only [s124 hw, am_addE, am_subE, am_mulE, am_laddE, am_lsubE, am_upO, am_upS, am_stS, am_stO, am_tnn, am_brl, am_brg, am_bre, am_brn, am_brG, am_brL, am_st1, am_no2, am_st2, am_clr, and_self, true_and, and_true, true_or, or_true, List.length_cons, List.length_nil] <;> omega) ?_
    try simp (disch := omega) only [s124 hw, am_addE, am_subE, am_mulE, am_laddE, am_lsubE, am_upO, am_upS, am_stS, am_stO, am_tnn, am_brl, am_brg, am_bre, am_brn, am_brG, am_brL, am_st1, am_no2, am_st2, am_clr]
    refine am_wp_cc rfl rfl rfl (congrArg Prod.fst (s124 hw)) (w_M_from hw hr h4 (by omega) ⟨_, rfl, ?_⟩)
    refine am_wp_go rfl (by simp (disch := omega) only [s124 hw, am_addE, am_subE, am_mulE, am_laddE, am_lsubE, am_upO, am_upS, am_stS, am_stO, am_tnn, am_brl, am_brg, am_bre, am_brn, am_brG, am_brL, am_st1, am_no2, am_st2, am_clr, and_self, true_and, and_true, true_or, or_true, List.length_cons, List.length_nil] <;> omega) ?_
    try simp (disch := omega) only [s124 hw, am_addE, am_subE, am_mulE, am_laddE, am_lsubE, am_upO, am_upS, am_stS, am_stO, am_tnn, am_brl, am_brg, am_bre, am_brn, am_brG, am_brL, am_st1, am_no2, am_st2, am_clr]
    refine am_wp_br (fun b20 => ?_) (fun b20 => ?_)
    · rw [if_neg (by omega)] at st
      refine am_wp_go rfl (by simp (disch := omega) only [s124 hw, am_addE, am_subE, am_mulE, am_laddE, am_lsubE, am_upO, am_upS, am_stS, am_stO, am_tnn, am_brl, am_brg, am_bre, am_brn, am_brG, am_brL, am_st1, am_no2, am_st2, am_clr, and_self, true_and, and_true, true_or, or_true, List.length_cons, List.length_nil] <;> omega) ?_
      try simp (disch := omega) only [s124 hw, am_addE, am_subE, am_mulE, am_laddE, am_lsubE, am_upO, am_upS, am_stS, am_stO, am_tnn, am_brl, am_brg, am_bre, am_brn, am_brG, am_brL, am_st1, am_no2, am_st2, am_clr]
      exact am_wp_ls (ih (by omega) st) rfl
    · rw [if_pos (by omega)] at st
      refine am_wp_go rfl (by simp (disch := omega) only [s124 hw, am_addE, am_subE, am_mulE, am_laddE, am_lsubE, am_upO, am_upS, am_stS, am_stO, am_tnn, am_brl, am_brg, am_bre, am_brn, am_brG, am_brL, am_st1, am_no2, am_st2, am_clr, and_self, true_and, and_true, true_or, or_true, List.length_cons, List.length_nil] <;> omega) ?_
      try simp (disch := omega) only [s124 hw, am_addE, am_subE, am_mulE, am_laddE, am_lsubE, am_upO, am_upS, am_stS, am_stO, am_tnn, am_brl, am_brg, am_bre, am_brn, am_brG, am_brL, am_st1, am_no2, am_st2, am_clr]
      refine am_wp_ret rfl rfl ?_
      refine h1 ?_
      have := mono (k + 1) G.length (by omega)
      rw [st] at this
      dsimp only at this
      omega
theorem rf_setB {T V : Nat → Int} {G : List Go} {j : Nat} {y : Int} (h : rf T G) (hj : j < G.length) (e : V = am_set T (5 * j + 3) y) : rf V (setB G j y) := by
  have := rf_set (V := V) (y := y - gB G j) h hj (by rw [e, show gB G j + (y - gB G j) = y by omega])
  unfold latG at this
  rwa [show gB G j + (y - gB G j) = y by omega] at this
theorem r_early (hw : wd sh R) (hb : beg I) (hk : wk (lw I)) (hr : rf (pw (lw I)) G) (hg : gok G) (hgk : gkt (lw I) G) (hH : H.length ≤ 8) (hG : ∀ j, j < H.length → (H.getD j []).length ≤ 400) (hh : hsR I H) (h0 : (erW (lw I) G G.length).2 = 0 → ∀ J, rq I J → Q (am_yi 0) (m, sl, sh, J, R)) (h1 : 0 < (erW (lw I) G G.length).2 → ∀ J, rqp I J → rf (pw (J 126)) (erW (lw I) G G.length).1 → hsR J (hpush H G) → Q (am_yi (erW (lw I) G G.length).2) (m, sl, sh, J, R)) : am_wp (d + 5) 287 0 [some (.inr (.inr (124))), none, none, none] [] (m, sl, sh, I, R) Q := by
  have h4 := hg.1
  refine am_wp_go rfl (by simp (disch := omega) only [s124 hw, r124_14 hw, s126 hw, am_addE, am_subE, am_mulE, am_laddE, am_lsubE, am_upO, am_upS, am_stS, am_stO, am_tnn, am_brl, am_brg, am_bre, am_brn, am_brG, am_brL, am_st1, am_no2, am_st2, am_clr, and_self, true_and, and_true, true_or, or_true, List.length_cons, List.length_nil] <;> omega) ?_
  have q0 := rq_thrown (I := I) (x := 0)
  generalize am_up I 124 0 0 = I0 at q0 ⊢
  refine am_wp_cc rfl rfl rfl (congrArg Prod.fst (s124 hw)) (w_M_lay hw (beg_rq q0 hb) (fun J j1 j2 j3 j4 => ⟨_, rfl, ?_⟩))
  have q1 := rq_trans q0 (rq_lay j1 j2 j3 j4)
  rw [rq_lw q0] at j4
  clear j1 j2
  rw [← j4] at hk hr hgk h0 h1
  have hh := hsR_rq hh q1
  have hok := er_ok hg hgk
  refine am_wp_go rfl (by simp (disch := omega) only [s124 hw, r124_14 hw, s126 hw, am_addE, am_subE, am_mulE, am_laddE, am_lsubE, am_upO, am_upS, am_stS, am_stO, am_tnn, am_brl, am_brg, am_bre, am_brn, am_brG, am_brL, am_st1, am_no2, am_st2, am_clr, and_self, true_and, and_true, true_or, or_true, List.length_cons, List.length_nil] <;> omega) ?_
  try simp (disch := omega) only [s124 hw, r124_14 hw, s126 hw, am_addE, am_subE, am_mulE, am_laddE, am_lsubE, am_upO, am_upS, am_stS, am_stO, am_tnn, am_brl, am_brg, am_bre, am_brn, am_brG, am_brL, am_st1, am_no2, am_st2, am_clr]
  refine am_wp_cc rfl rfl rfl (congrArg Prod.fst (s124 hw)) (w_M_canBeEarly hw hk hr hg hgk (fun hp => ⟨_, rfl, ?_⟩) (fun hz => ⟨_, rfl, ?_⟩))
  · have h := h1 hp
    clear h0 h1
    refine am_wp_go rfl (by simp (disch := omega) only [s124 hw, r124_14 hw, s126 hw, am_addE, am_subE, am_mulE, am_laddE, am_lsubE, am_upO, am_upS, am_stS, am_stO, am_tnn, am_brl, am_brg, am_bre, am_brn, am_brG, am_brL, am_st1, am_no2, am_st2, am_clr, and_self, true_and, and_true, true_or, or_true, List.length_cons, List.length_nil] <;> omega) ?_
    refine am_wp_pc (pc' := 18) rfl ?_
    refine am_wp_go rfl (by simp (disch := omega) only [s124 hw, r124_14 hw, s126 hw, am_addE, am_subE, am_mulE, am_laddE, am_lsubE, am_upO, am_upS, am_stS, am_stO, am_tnn, am_brl, am_brg, am_bre, am_brn, am_brG, am_brL, am_st1, am_no2, am_st2, am_clr, and_self, true_and, and_true, true_or, or_true, List.length_cons, List.length_nil] <;> omega) ?_
    try simp (disch := omega) only [s124 hw, r124_14 hw, s126 hw, am_addE, am_subE, am_mulE, am_laddE, am_lsubE, am_upO, am_upS, am_stS, am_stO, am_tnn, am_brl, am_brg, am_bre, am_brn, am_brG, am_brL, am_st1, am_no2, am_st2, am_clr]
    refine am_wp_cc rfl rfl rfl (congrArg Prod.fst (s124 hw)) (w_M_snap hw hr h4 hH hG hh (fun K k1 k2 k3 => ⟨_, rfl, ?_⟩))
    have e126 : K 126 = J 126 := k1 126 (by decide) (by decide)
    refine am_wp_go rfl (by simp (disch := omega) only [s124 hw, r124_14 hw, s126 hw, am_addE, am_subE, am_mulE, am_laddE, am_lsubE, am_upO, am_upS, am_stS, am_stO, am_tnn, am_brl, am_brg, am_bre, am_brn, am_brG, am_brL, am_st1, am_no2, am_st2, am_clr, and_self, true_and, and_true, true_or, or_true, List.length_cons, List.length_nil] <;> omega) ?_
    try simp (disch := omega) only [s124 hw, r124_14 hw, s126 hw, am_addE, am_subE, am_mulE, am_laddE, am_lsubE, am_upO, am_upS, am_stS, am_stO, am_tnn, am_brl, am_brg, am_bre, am_brn, am_brG, am_brL, am_st1, am_no2, am_st2, am_clr]
    refine am_lp0 (P := fun k => ∀ (z : Option am_V) (V : Nat → Nat → Int), (∀ a, a ≠ 126 → V a = K a) → (∀ j, (j < 58 ∨ 2059 ≤ j) → V 126 j = J 126 j) → rf (pw (V 126)) (erW (J 126) G k).1 → am_wp (d + 5) 287 26 [some (.inr (.inr (124))), some (.inl (((erW (J 126) G k).2 : Int))), some (.inl ((k : Int))), z] [] (m, sl, sh, V, R) Q) G.length (fun k hkl ih z V v1 v2 v3 => ?_) none K (fun _ _ => rfl) (fun j hj => by rw [e126]) (by rw [e126]; exact hr)
    obtain ⟨a1, a2, a3, a4, a5⟩ := hok k hkl
    have kV : wk (V 126) := wk_row hk (fun j hj => v2 j (by omega))
    have gV : gkt (V 126) (erW (J 126) G k).1 := gkt_row a3 (v2 0 (by omega)) (v2 5 (by omega))
    refine am_wp_go rfl (by simp (disch := omega) only [s124 hw, r124_14 hw, s126 hw, am_addE, am_subE, am_mulE, am_laddE, am_lsubE, am_upO, am_upS, am_stS, am_stO, am_tnn, am_brl, am_brg, am_bre, am_brn, am_brG, am_brL, am_st1, am_no2, am_st2, am_clr, and_self, true_and, and_true, true_or, or_true, List.length_cons, List.length_nil] <;> omega) ?_
    try simp (disch := omega) only [s124 hw, r124_14 hw, s126 hw, am_addE, am_subE, am_mulE, am_laddE, am_lsubE, am_upO, am_upS, am_stS, am_stO, am_tnn, am_brl, am_brg, am_bre, am_brn, am_brG, am_brL, am_st1, am_no2, am_st2, am_clr]
    refine am_wp_cc rfl rfl rfl (congrArg Prod.fst (s124 hw)) (w_M_goesG hw v3 ⟨_, rfl, ?_⟩)
    rw [a1]
    refine am_wp_go rfl (by simp (disch := omega) only [s124 hw, r124_14 hw, s126 hw, am_addE, am_subE, am_mulE, am_laddE, am_lsubE, am_upO, am_upS, am_stS, am_stO, am_tnn, am_brl, am_brg, am_bre, am_brn, am_brG, am_brL, am_st1, am_no2, am_st2, am_clr, and_self, true_and, and_true, true_or, or_true, List.length_cons, List.length_nil] <;> omega) ?_
    try simp (disch := omega) only [s124 hw, r124_14 hw, s126 hw, am_addE, am_subE, am_mulE, am_laddE, am_lsubE, am_upO, am_upS, am_stS, am_stO, am_tnn, am_brl, am_brg, am_bre, am_brn, am_brG, am_brL, am_st1, am_no2, am_st2, am_clr]
    refine am_wp_br (fun b31 => ?_) (fun b31 => ?_)
    · have e0 : k = G.length := by omega
      subst e0
      refine am_wp_go rfl (by simp (disch := omega) only [s124 hw, r124_14 hw, s126 hw, am_addE, am_subE, am_mulE, am_laddE, am_lsubE, am_upO, am_upS, am_stS, am_stO, am_tnn, am_brl, am_brg, am_bre, am_brn, am_brG, am_brL, am_st1, am_no2, am_st2, am_clr, and_self, true_and, and_true, true_or, or_true, List.length_cons, List.length_nil] <;> omega) ?_
      try simp (disch := omega) only [s124 hw, r124_14 hw, s126 hw, am_addE, am_subE, am_mulE, am_laddE, am_lsubE, am_upO, am_upS, am_stS, am_stO, am_tnn, am_brl, am_brg, am_bre, am_brn, am_brG, am_brL, am_st1, am_no2, am_st2, am_clr]
      refine am_wp_ret rfl rfl ?_
      exact h V (rqp_of q1 j3 j4 (fun a ha => by rw [v1 a (by omega), k1 a (by omega) (by omega)]) (fun j h2 _ _ _ => by rw [v1 124 (by decide), k2 j h2]) (fun j hj => by rw [v2 j hj])) v3 (hsR_fr k3 (by rw [v1 124 (by decide)]) (v1 129 (by decide)))
    · have g1 := a2.2 k (by omega)
      have l1 := el_le (W := J 126) (G := (erW (J 126) G k).1) (k := k) (by omega)
      have eE : elW (V 126) (erW (J 126) G k).1 k = elW (J 126) (erW (J 126) G k).1 k := by
        have gk3 := a3 k (by omega)
        have n1 := wk_nS hk
        have w : ∀ x : Int, wrF (V 126) (erW (J 126) G k).1 k x = wrF (J 126) (erW (J 126) G k).1 k x := fun x => by
          have e1 : V 126 (8 + 3 * (gS (erW (J 126) G k).1 k).toNat + 2) = J 126 (8 + 3 * (gS (erW (J 126) G k).1 k).toNat + 2) := v2 _ (by omega)
          have e2 : V 126 (8 + 3 * (gS (erW (J 126) G k).1 k).toNat + (gU (erW (J 126) G k).1 k).toNat) = J 126 (8 + 3 * (gS (erW (J 126) G k).1 k).toNat + (gU (erW (J 126) G k).1 k).toNat) := v2 _ (by omega)
          have e3 : V 126 1 = J 126 1 := v2 1 (by omega)
          have f3 : wp3 (V 126) (erW (J 126) G k).1 k = wp3 (J 126) (erW (J 126) G k).1 k := by unfold wp3; rw [e2]
          have f4 : wc4 (V 126) (erW (J 126) G k).1 k = wc4 (J 126) (erW (J 126) G k).1 k := by funext j; unfold wc4; rw [e1]
          have f5 : wc5 (V 126) (erW (J 126) G k).1 k x = wc5 (J 126) (erW (J 126) G k).1 k x := by funext j; unfold wc5; rw [e3]
          unfold wrF
          rw [f3, f4, f5]
        unfold elW
        simp only [w]
      have ih := ih (by omega)
      unfold erW at ih
      generalize hS : erW (J 126) G k = S at *
      obtain ⟨F, n⟩ := S
      dsimp only at *
      refine am_wp_go rfl (by simp (disch := omega) only [s124 hw, r124_14 hw, s126 hw, am_addE, am_subE, am_mulE, am_laddE, am_lsubE, am_upO, am_upS, am_stS, am_stO, am_tnn, am_brl, am_brg, am_bre, am_brn, am_brG, am_brL, am_st1, am_no2, am_st2, am_clr, and_self, true_and, and_true, true_or, or_true, List.length_cons, List.length_nil] <;> omega) ?_
      try simp (disch := omega) only [s124 hw, r124_14 hw, s126 hw, am_addE, am_subE, am_mulE, am_laddE, am_lsubE, am_upO, am_upS, am_stS, am_stO, am_tnn, am_brl, am_brg, am_bre, am_brn, am_brG, am_brL, am_st1, am_no2, am_st2, am_clr]
      refine am_wp_cc rfl rfl rfl (congrArg Prod.fst (s124 hw)) (w_M_earliest hw kV v3 a2 gV (by omega) ⟨_, rfl, ?_⟩)
      rw [eE]
      refine am_wp_go rfl (by simp (disch := omega) only [s124 hw, r124_14 hw, s126 hw, am_addE, am_subE, am_mulE, am_laddE, am_lsubE, am_upO, am_upS, am_stS, am_stO, am_tnn, am_brl, am_brg, am_bre, am_brn, am_brG, am_brL, am_st1, am_no2, am_st2, am_clr, and_self, true_and, and_true, true_or, or_true, List.length_cons, List.length_nil] <;> omega) ?_
      try simp (disch := omega) only [s124 hw, r124_14 hw, s126 hw, am_addE, am_subE, am_mulE, am_laddE, am_lsubE, am_upO, am_upS, am_stS, am_stO, am_tnn, am_brl, am_brg, am_bre, am_brn, am_brG, am_brL, am_st1, am_no2, am_st2, am_clr]
      refine am_wp_cc rfl rfl rfl (congrArg Prod.fst (s124 hw)) (w_M_from hw v3 (by omega) (by omega) ⟨_, rfl, ?_⟩)
      refine am_wp_go rfl (by simp (disch := omega) only [s124 hw, r124_14 hw, s126 hw, am_addE, am_subE, am_mulE, am_laddE, am_lsubE, am_upO, am_upS, am_stS, am_stO, am_tnn, am_brl, am_brg, am_bre, am_brn, am_brG, am_brL, am_st1, am_no2, am_st2, am_clr, and_self, true_and, and_true, true_or, or_true, List.length_cons, List.length_nil] <;> omega) ?_
      try simp (disch := omega) only [s124 hw, r124_14 hw, s126 hw, am_addE, am_subE, am_mulE, am_laddE, am_lsubE, am_upO, am_upS, am_stS, am_stO, am_tnn, am_brl, am_brg, am_bre, am_brn, am_brG, am_brL, am_st1, am_no2, am_st2, am_clr]
      refine am_wp_br (fun b46 => ?_) (fun b46 => ?_)
      · rw [if_pos (by omega)] at ih
        refine am_wp_go rfl (by simp (disch := omega) only [s124 hw, r124_14 hw, s126 hw, am_tnA, am_tnM, Int.reduceToNat, am_addE, am_subE, am_mulE, am_laddE, am_lsubE, am_upO, am_upS, am_stS, am_stO, am_tnn, am_brl, am_brg, am_bre, am_brn, am_brG, am_brL, am_st1, am_no2, am_st2, am_clr, and_self, true_and, and_true, true_or, or_true, List.length_cons, List.length_nil] <;> omega) ?_
        try simp (disch := omega) only [s124 hw, r124_14 hw, s126 hw, am_tnA, am_tnM, Int.reduceToNat, am_addE, am_subE, am_mulE, am_laddE, am_lsubE, am_upO, am_upS, am_stS, am_stO, am_tnn, am_brl, am_brg, am_bre, am_brn, am_brG, am_brL, am_st1, am_no2, am_st2, am_clr]
        refine am_wp_ls (ih _ _ (fun a ha => by rw [am_upO ha, v1 a ha]) (fun j hj => by rw [am_upS, am_stO (by omega), v2 j hj]) (rf_setB v3 (by omega) ?_)) rfl
        rw [am_upS]
        funext i
        unfold pw am_set
        by_cases hi : i = 5 * k + 3
        · rw [if_pos (by omega), if_pos hi]
        · rw [if_neg (by omega), if_neg hi]
      · rw [if_neg (by omega)] at ih
        refine am_wp_go rfl (by simp (disch := omega) only [s124 hw, r124_14 hw, s126 hw, am_addE, am_subE, am_mulE, am_laddE, am_lsubE, am_upO, am_upS, am_stS, am_stO, am_tnn, am_brl, am_brg, am_bre, am_brn, am_brG, am_brL, am_st1, am_no2, am_st2, am_clr, and_self, true_and, and_true, true_or, or_true, List.length_cons, List.length_nil] <;> omega) ?_
        try simp (disch := omega) only [s124 hw, r124_14 hw, s126 hw, am_addE, am_subE, am_mulE, am_laddE, am_lsubE, am_upO, am_upS, am_stS, am_stO, am_tnn, am_brl, am_brg, am_bre, am_brn, am_brG, am_brL, am_st1, am_no2, am_st2, am_clr]
        exact am_wp_ls (ih _ V v1 v2 v3) rfl
  · refine am_wp_go rfl (by simp (disch := omega) only [s124 hw, r124_14 hw, s126 hw, am_addE, am_subE, am_mulE, am_laddE, am_lsubE, am_upO, am_upS, am_stS, am_stO, am_tnn, am_brl, am_brg, am_bre, am_brn, am_brG, am_brL, am_st1, am_no2, am_st2, am_clr, and_self, true_and, and_true, true_or, or_true, List.length_cons, List.length_nil] <;> omega) ?_
    refine am_wp_pc (pc' := 16) rfl ?_
    refine am_wp_go rfl (by simp (disch := omega) only [s124 hw, r124_14 hw, s126 hw, am_addE, am_subE, am_mulE, am_laddE, am_lsubE, am_upO, am_upS, am_stS, am_stO, am_tnn, am_brl, am_brg, am_bre, am_brn, am_brG, am_brL, am_st1, am_no2, am_st2, am_clr, and_self, true_and, and_true, true_or, or_true, List.length_cons, List.length_nil] <;> omega) ?_
    try simp (disch := omega) only [s124 hw, r124_14 hw, s126 hw, am_addE, am_subE, am_mulE, am_laddE, am_lsubE, am_upO, am_upS, am_stS, am_stO, am_tnn, am_brl, am_brg, am_bre, am_brn, am_brG, am_brL, am_st1, am_no2, am_st2, am_clr]
    refine am_wp_ret rfl rfl ?_
    exact h0 hz _ q1
end EARLY
