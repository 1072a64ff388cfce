/-! A PLAN'S OWN METHODS -/
abbrev Go : Type := Int × Int × Int × Int × Int
def gs (G : List Go) (k : Nat) : Go := G.getD k (0, 0, 0, 0, 0)
def gS (G : List Go) (k : Nat) : Int := (gs G k).1
def gU (G : List Go) (k : Nat) : Int := (gs G k).2.1
def gB (G : List Go) (k : Nat) : Int := (gs G k).2.2.1
def gL (G : List Go) (k : Nat) : Int := (gs G k).2.2.2.1
def gN (G : List Go) (k : Nat) : Int := (gs G k).2.2.2.2
/-- p is a Plan -/
def pl_is (sh : Nat → Nat × Nat) (R : Nat → Nat → Nat) (p : Nat) : Prop := sh p = (5, 2) ∧ R p 0 = p + 1 ∧ sh (p + 1) = (32, 400) ∧ 4 ≤ p
def pl_go (x s u b l n : Int) : Prop := x = 2 * s + u + 16 * l + 64 * n + 2048 * b ∧ 0 ≤ s ∧ s < 8 ∧ 0 ≤ u ∧ u ≤ 1 ∧ 0 ≤ b ∧ b ≤ 900 ∧ 0 ≤ l ∧ l < 4 ∧ 1 ≤ n ∧ n ≤ 20
/-- its GOES are G -/
def pl (I : Nat → Nat → Int) (p : Nat) (G : List Go) : Prop := I p 1 = (G.length : Int) ∧ G.length ≤ 400 ∧ ∀ k, k < G.length → pl_go (I (p + 1) k) (gS G k) (gU G k) (gB G k) (gL G k) (gN G k)
theorem pl_fr {I J : Nat → Nat → Int} {p : Nat} {G : List Go} (h : pl I p G) (h1 : J p = I p) (h2 : J (p + 1) = I (p + 1)) : pl J p G := by
  unfold pl at h ⊢; rw [h1, h2]; exact h
section PLAN
variable {m sl : Nat} {sh : Nat → Nat × Nat} {I : Nat → Nat → Int} {R : Nat → Nat → Nat} {Q : am_R → am_M → Prop} {d p : Nat} {G : List Go} {k : Nat}
theorem w_bitsOf (hp : pl_is sh R p) (ho : pl I p G) (hk : k < G.length) (h : Q (am_yi (I (p + 1) k)) (m, sl, sh, I, R)) : am_wp (d) 61 0 [some (.inr (.inr (p))), some (.inl ((k : Int)))] [] (m, sl, sh, I, R) Q := by
  obtain ⟨h1, h2, h3, h4⟩ := hp
  obtain ⟨o1, o2, -⟩ := ho
  refine am_wp_go rfl (by simp (disch := omega) only [h1, h2, h3, o1, am_and15, am_and3, am_and31, am_ushr4, am_ushr6, am_ushr11, am_addE, am_subE, am_mulE, am_laddE, am_lsubE, am_upO, am_upS, am_stS, am_stO, am_tnn, am_brl, am_brg, am_bre, am_brn, am_brG, am_brL, am_st1, am_no2, am_st2, am_clr, and_self, true_and, and_true, true_or, or_true, List.length_cons, List.length_nil] <;> omega) ?_
  try simp (disch := omega) only [h1, h2, h3, o1, am_and15, am_and3, am_and31, am_ushr4, am_ushr6, am_ushr11, am_addE, am_subE, am_mulE, am_laddE, am_lsubE, am_upO, am_upS, am_stS, am_stO, am_tnn, am_brl, am_brg, am_bre, am_brn, am_brG, am_brL, am_st1, am_no2, am_st2, am_clr]
  refine am_wp_br (fun hk1 => ?_) (fun hk1 => ?_)
  · omega
  refine am_wp_go rfl (by simp (disch := omega) only [h1, h2, h3, o1, am_and15, am_and3, am_and31, am_ushr4, am_ushr6, am_ushr11, am_addE, am_subE, am_mulE, am_laddE, am_lsubE, am_upO, am_upS, am_stS, am_stO, am_tnn, am_brl, am_brg, am_bre, am_brn, am_brG, am_brL, am_st1, am_no2, am_st2, am_clr, and_self, true_and, and_true, true_or, or_true, List.length_cons, List.length_nil] <;> omega) ?_
  try simp (disch := omega) only [h1, h2, h3, o1, am_and15, am_and3, am_and31, am_ushr4, am_ushr6, am_ushr11, am_addE, am_subE, am_mulE, am_laddE, am_lsubE, am_upO, am_upS, am_stS, am_stO, am_tnn, am_brl, am_brg, am_bre, am_brn, am_brG, am_brL, am_st1, am_no2, am_st2, am_clr]
  refine am_wp_br (fun hk2 => ?_) (fun hk2 => ?_)
  · omega
  refine am_wp_go rfl (by simp (disch := omega) only [h1, h2, h3, o1, am_and15, am_and3, am_and31, am_ushr4, am_ushr6, am_ushr11, am_addE, am_subE, am_mulE, am_laddE, am_lsubE, am_upO, am_upS, am_stS, am_stO, am_tnn, am_brl, am_brg, am_bre, am_brn, am_brG, am_brL, am_st1, am_no2, am_st2, am_clr, and_self, true_and, and_true, true_or, or_true, List.length_cons, List.length_nil] <;> omega) ?_
  try simp (disch := omega) only [h1, h2, h3, o1, am_and15, am_and3, am_and31, am_ushr4, am_ushr6, am_ushr11, am_addE, am_subE, am_mulE, am_laddE, am_lsubE, am_upO, am_upS, am_stS, am_stO, am_tnn, am_brl, am_brg, am_bre, am_brn, am_brG, am_brL, am_st1, am_no2, am_st2, am_clr]
  refine am_wp_ret rfl rfl ?_
  exact h
theorem w_sideOf (hp : pl_is sh R p) (ho : pl I p G) (hk : k < G.length) (h : Q (am_yi (2 * gS G k + gU G k)) (m, sl, sh, I, R)) : am_wp (d + 1) 62 0 [some (.inr (.inr (p))), some (.inl ((k : Int)))] [] (m, sl, sh, I, R) Q := by
  refine am_wp_go rfl (by simp (disch := omega) only [am_and15, am_and3, am_and31, am_ushr4, am_ushr6, am_ushr11, am_addE, am_subE, am_mulE, am_laddE, am_lsubE, am_upO, am_upS, am_stS, am_stO, am_tnn, am_brl, am_brg, am_bre, am_brn, am_brG, am_brL, am_st1, am_no2, am_st2, am_clr, and_self, true_and, and_true, true_or, or_true, List.length_cons, List.length_nil] <;> omega) ?_
  try simp (disch := omega) only [am_and15, am_and3, am_and31, am_ushr4, am_ushr6, am_ushr11, am_addE, am_subE, am_mulE, am_laddE, am_lsubE, am_upO, am_upS, am_stS, am_stO, am_tnn, am_brl, am_brg, am_bre, am_brn, am_brG, am_brL, am_st1, am_no2, am_st2, am_clr]
  refine am_wp_cc rfl rfl rfl (congrArg Prod.fst hp.1) (w_bitsOf hp ho hk ⟨_, rfl, ?_⟩)
  obtain ⟨e, r⟩ := ho.2.2 k hk
  refine am_wp_go rfl (by simp (disch := omega) only [am_and15, am_and3, am_and31, am_ushr4, am_ushr6, am_ushr11, am_addE, am_subE, am_mulE, am_laddE, am_lsubE, am_upO, am_upS, am_stS, am_stO, am_tnn, am_brl, am_brg, am_bre, am_brn, am_brG, am_brL, am_st1, am_no2, am_st2, am_clr, and_self, true_and, and_true, true_or, or_true, List.length_cons, List.length_nil] <;> omega) ?_
  try simp (disch := omega) only [am_and15, am_and3, am_and31, am_ushr4, am_ushr6, am_ushr11, am_addE, am_subE, am_mulE, am_laddE, am_lsubE, am_upO, am_upS, am_stS, am_stO, am_tnn, am_brl, am_brg, am_bre, am_brn, am_brG, am_brL, am_st1, am_no2, am_st2, am_clr]
  refine am_wp_ret rfl rfl ?_
  rw [show I (p + 1) k % 16 = 2 * gS G k + gU G k by omega]
  exact h
theorem w_placeOf (hp : pl_is sh R p) (ho : pl I p G) (hk : k < G.length) (h : Q (am_yi (gL G k)) (m, sl, sh, I, R)) : am_wp (d + 1) 63 0 [some (.inr (.inr (p))), some (.inl ((k : Int)))] [] (m, sl, sh, I, R) Q := by
  refine am_wp_go rfl (by simp (disch := omega) only [am_and15, am_and3, am_and31, am_ushr4, am_ushr6, am_ushr11, am_addE, am_subE, am_mulE, am_laddE, am_lsubE, am_upO, am_upS, am_stS, am_stO, am_tnn, am_brl, am_brg, am_bre, am_brn, am_brG, am_brL, am_st1, am_no2, am_st2, am_clr, and_self, true_and, and_true, true_or, or_true, List.length_cons, List.length_nil] <;> omega) ?_
  try simp (disch := omega) only [am_and15, am_and3, am_and31, am_ushr4, am_ushr6, am_ushr11, am_addE, am_subE, am_mulE, am_laddE, am_lsubE, am_upO, am_upS, am_stS, am_stO, am_tnn, am_brl, am_brg, am_bre, am_brn, am_brG, am_brL, am_st1, am_no2, am_st2, am_clr]
  refine am_wp_cc rfl rfl rfl (congrArg Prod.fst hp.1) (w_bitsOf hp ho hk ⟨_, rfl, ?_⟩)
  obtain ⟨e, r⟩ := ho.2.2 k hk
  refine am_wp_go rfl (by simp (disch := omega) only [am_and15, am_and3, am_and31, am_ushr4, am_ushr6, am_ushr11, am_addE, am_subE, am_mulE, am_laddE, am_lsubE, am_upO, am_upS, am_stS, am_stO, am_tnn, am_brl, am_brg, am_bre, am_brn, am_brG, am_brL, am_st1, am_no2, am_st2, am_clr, and_self, true_and, and_true, true_or, or_true, List.length_cons, List.length_nil] <;> omega) ?_
  try simp (disch := omega) only [am_and15, am_and3, am_and31, am_ushr4, am_ushr6, am_ushr11, am_addE, am_subE, am_mulE, am_laddE, am_lsubE, am_upO, am_upS, am_stS, am_stO, am_tnn, am_brl, am_brg, am_bre, am_brn, am_brG, am_brL, am_st1, am_no2, am_st2, am_clr]
  refine am_wp_ret rfl rfl ?_
  rw [show I (p + 1) k / 16 % 4 = gL G k by omega]
  exact h
theorem w_minutesOf (hp : pl_is sh R p) (ho : pl I p G) (hk : k < G.length) (h : Q (am_yi (gN G k)) (m, sl, sh, I, R)) : am_wp (d + 1) 64 0 [some (.inr (.inr (p))), some (.inl ((k : Int)))] [] (m, sl, sh, I, R) Q := by
  refine am_wp_go rfl (by simp (disch := omega) only [am_and15, am_and3, am_and31, am_ushr4, am_ushr6, am_ushr11, am_addE, am_subE, am_mulE, am_laddE, am_lsubE, am_upO, am_upS, am_stS, am_stO, am_tnn, am_brl, am_brg, am_bre, am_brn, am_brG, am_brL, am_st1, am_no2, am_st2, am_clr, and_self, true_and, and_true, true_or, or_true, List.length_cons, List.length_nil] <;> omega) ?_
  try simp (disch := omega) only [am_and15, am_and3, am_and31, am_ushr4, am_ushr6, am_ushr11, am_addE, am_subE, am_mulE, am_laddE, am_lsubE, am_upO, am_upS, am_stS, am_stO, am_tnn, am_brl, am_brg, am_bre, am_brn, am_brG, am_brL, am_st1, am_no2, am_st2, am_clr]
  refine am_wp_cc rfl rfl rfl (congrArg Prod.fst hp.1) (w_bitsOf hp ho hk ⟨_, rfl, ?_⟩)
  obtain ⟨e, r⟩ := ho.2.2 k hk
  refine am_wp_go rfl (by simp (disch := omega) only [am_and15, am_and3, am_and31, am_ushr4, am_ushr6, am_ushr11, am_addE, am_subE, am_mulE, am_laddE, am_lsubE, am_upO, am_upS, am_stS, am_stO, am_tnn, am_brl, am_brg, am_bre, am_brn, am_brG, am_brL, am_st1, am_no2, am_st2, am_clr, and_self, true_and, and_true, true_or, or_true, List.length_cons, List.length_nil] <;> omega) ?_
  try simp (disch := omega) only [am_and15, am_and3, am_and31, am_ushr4, am_ushr6, am_ushr11, am_addE, am_subE, am_mulE, am_laddE, am_lsubE, am_upO, am_upS, am_stS, am_stO, am_tnn, am_brl, am_brg, am_bre, am_brn, am_brG, am_brL, am_st1, am_no2, am_st2, am_clr]
  refine am_wp_ret rfl rfl ?_
  rw [show I (p + 1) k / 64 % 32 = gN G k by omega]
  exact h
theorem w_beginOf (hp : pl_is sh R p) (ho : pl I p G) (hk : k < G.length) (h : Q (am_yi (gB G k)) (m, sl, sh, I, R)) : am_wp (d + 1) 65 0 [some (.inr (.inr (p))), some (.inl ((k : Int)))] [] (m, sl, sh, I, R) Q := by
  refine am_wp_go rfl (by simp (disch := omega) only [am_and15, am_and3, am_and31, am_ushr4, am_ushr6, am_ushr11, am_addE, am_subE, am_mulE, am_laddE, am_lsubE, am_upO, am_upS, am_stS, am_stO, am_tnn, am_brl, am_brg, am_bre, am_brn, am_brG, am_brL, am_st1, am_no2, am_st2, am_clr, and_self, true_and, and_true, true_or, or_true, List.length_cons, List.length_nil] <;> omega) ?_
  try simp (disch := omega) only [am_and15, am_and3, am_and31, am_ushr4, am_ushr6, am_ushr11, am_addE, am_subE, am_mulE, am_laddE, am_lsubE, am_upO, am_upS, am_stS, am_stO, am_tnn, am_brl, am_brg, am_bre, am_brn, am_brG, am_brL, am_st1, am_no2, am_st2, am_clr]
  refine am_wp_cc rfl rfl rfl (congrArg Prod.fst hp.1) (w_bitsOf hp ho hk ⟨_, rfl, ?_⟩)
  obtain ⟨e, r⟩ := ho.2.2 k hk
  refine am_wp_go rfl (by simp (disch := omega) only [am_and15, am_and3, am_and31, am_ushr4, am_ushr6, am_ushr11, am_addE, am_subE, am_mulE, am_laddE, am_lsubE, am_upO, am_upS, am_stS, am_stO, am_tnn, am_brl, am_brg, am_bre, am_brn, am_brG, am_brL, am_st1, am_no2, am_st2, am_clr, and_self, true_and, and_true, true_or, or_true, List.length_cons, List.length_nil] <;> omega) ?_
  try simp (disch := omega) only [am_and15, am_and3, am_and31, am_ushr4, am_ushr6, am_ushr11, am_addE, am_subE, am_mulE, am_laddE, am_lsubE, am_upO, am_upS, am_stS, am_stO, am_tnn, am_brl, am_brg, am_bre, am_brn, am_brG, am_brL, am_st1, am_no2, am_st2, am_clr]
  refine am_wp_ret rfl rfl ?_
  rw [show I (p + 1) k / 2048 = gB G k by omega]
  exact h
theorem w_endOf (hp : pl_is sh R p) (ho : pl I p G) (hk : k < G.length) (h : Q (am_yi (gB G k + gN G k)) (m, sl, sh, I, R)) : am_wp (d + 1) 66 0 [some (.inr (.inr (p))), some (.inl ((k : Int))), none] [] (m, sl, sh, I, R) Q := by
  refine am_wp_go rfl (by simp (disch := omega) only [am_and15, am_and3, am_and31, am_ushr4, am_ushr6, am_ushr11, am_addE, am_subE, am_mulE, am_laddE, am_lsubE, am_upO, am_upS, am_stS, am_stO, am_tnn, am_brl, am_brg, am_bre, am_brn, am_brG, am_brL, am_st1, am_no2, am_st2, am_clr, and_self, true_and, and_true, true_or, or_true, List.length_cons, List.length_nil] <;> omega) ?_
  try simp (disch := omega) only [am_and15, am_and3, am_and31, am_ushr4, am_ushr6, am_ushr11, am_addE, am_subE, am_mulE, am_laddE, am_lsubE, am_upO, am_upS, am_stS, am_stO, am_tnn, am_brl, am_brg, am_bre, am_brn, am_brG, am_brL, am_st1, am_no2, am_st2, am_clr]
  refine am_wp_cc rfl rfl rfl (congrArg Prod.fst hp.1) (w_bitsOf hp ho hk ⟨_, rfl, ?_⟩)
  obtain ⟨e, r⟩ := ho.2.2 k hk
  refine am_wp_go rfl (by simp (disch := omega) only [am_and15, am_and3, am_and31, am_ushr4, am_ushr6, am_ushr11, am_addE, am_subE, am_mulE, am_laddE, am_lsubE, am_upO, am_upS, am_stS, am_stO, am_tnn, am_brl, am_brg, am_bre, am_brn, am_brG, am_brL, am_st1, am_no2, am_st2, am_clr, and_self, true_and, and_true, true_or, or_true, List.length_cons, List.length_nil] <;> omega) ?_
  try simp (disch := omega) only [am_and15, am_and3, am_and31, am_ushr4, am_ushr6, am_ushr11, am_addE, am_subE, am_mulE, am_laddE, am_lsubE, am_upO, am_upS, am_stS, am_stO, am_tnn, am_brl, am_brg, am_bre, am_brn, am_brG, am_brL, am_st1, am_no2, am_st2, am_clr]
  refine am_wp_ret rfl rfl ?_
  rw [show I (p + 1) k / 2048 + I (p + 1) k / 64 % 32 = gB G k + gN G k by omega]
  exact h
theorem w_lastEnd (hp : pl_is sh R p) (ho : pl I p G) (h : Q (am_yi (am_fmax (fun k => gB G k + gN G k) G.length)) (m, sl, sh, I, R)) : am_wp (d + 2) 71 0 [some (.inr (.inr (p))), none, none] [] (m, sl, sh, I, R) Q := by
  obtain ⟨h1, h2, h3, h4⟩ := id hp
  obtain ⟨o1, o2, o3⟩ := id ho
  refine am_wp_go rfl (by simp (disch := omega) only [h1, h2, h3, o1, am_and15, am_and3, am_and31, am_ushr4, am_ushr6, am_ushr11, am_addE, am_subE, am_mulE, am_laddE, am_lsubE, am_upO, am_upS, am_stS, am_stO, am_tnn, am_brl, am_brg, am_bre, am_brn, am_brG, am_brL, am_st1, am_no2, am_st2, am_clr, and_self, true_and, and_true, true_or, or_true, List.length_cons, List.length_nil] <;> omega) ?_
  try simp (disch := omega) only [h1, h2, h3, o1, am_and15, am_and3, am_and31, am_ushr4, am_ushr6, am_ushr11, am_addE, am_subE, am_mulE, am_laddE, am_lsubE, am_upO, am_upS, am_stS, am_stO, am_tnn, am_brl, am_brg, am_bre, am_brn, am_brG, am_brL, am_st1, am_no2, am_st2, am_clr]
  refine am_lp0 (P := fun k => am_wp (d + 2) 71 4 [some (.inr (.inr (p))), some (.inl (am_fmax (fun k => gB G k + gN G k) k)), some (.inl ((k : Int)))] [] (m, sl, sh, I, R) Q) G.length (fun k hk ih => ?_)
  refine am_wp_go rfl (by simp (disch := omega) only [h1, h2, h3, o1, am_and15, am_and3, am_and31, am_ushr4, am_ushr6, am_ushr11, am_addE, am_subE, am_mulE, am_laddE, am_lsubE, am_upO, am_upS, am_stS, am_stO, am_tnn, am_brl, am_brg, am_bre, am_brn, am_brG, am_brL, am_st1, am_no2, am_st2, am_clr, and_self, true_and, and_true, true_or, or_true, List.length_cons, List.length_nil] <;> omega) ?_
  try simp (disch := omega) only [h1, h2, h3, o1, am_and15, am_and3, am_and31, am_ushr4, am_ushr6, am_ushr11, am_addE, am_subE, am_mulE, am_laddE, am_lsubE, am_upO, am_upS, am_stS, am_stO, am_tnn, am_brl, am_brg, am_bre, am_brn, am_brG, am_brL, am_st1, am_no2, am_st2, am_clr]
  refine am_wp_br (fun h9 => ?_) (fun h9 => ?_)
  · refine am_wp_go rfl (by simp (disch := omega) only [h1, h2, h3, o1, am_and15, am_and3, am_and31, am_ushr4, am_ushr6, am_ushr11, am_addE, am_subE, am_mulE, am_laddE, am_lsubE, am_upO, am_upS, am_stS, am_stO, am_tnn, am_brl, am_brg, am_bre, am_brn, am_brG, am_brL, am_st1, am_no2, am_st2, am_clr, and_self, true_and, and_true, true_or, or_true, List.length_cons, List.length_nil] <;> omega) ?_
    try simp (disch := omega) only [h1, h2, h3, o1, am_and15, am_and3, am_and31, am_ushr4, am_ushr6, am_ushr11, am_addE, am_subE, am_mulE, am_laddE, am_lsubE, am_upO, am_upS, am_stS, am_stO, am_tnn, am_brl, am_brg, am_bre, am_brn, am_brG, am_brL, am_st1, am_no2, am_st2, am_clr]
    refine am_wp_ret rfl rfl ?_
    rw [show G.length = k by omega] at h
    exact h
  · refine am_wp_go rfl (by simp (disch := omega) only [h1, h2, h3, o1, am_and15, am_and3, am_and31, am_ushr4, am_ushr6, am_ushr11, am_addE, am_subE, am_mulE, am_laddE, am_lsubE, am_upO, am_upS, am_stS, am_stO, am_tnn, am_brl, am_brg, am_bre, am_brn, am_brG, am_brL, am_st1, am_no2, am_st2, am_clr, and_self, true_and, and_true, true_or, or_true, List.length_cons, List.length_nil] <;> omega) ?_
    try simp (disch := omega) only [h1, h2, h3, o1, am_and15, am_and3, am_and31, am_ushr4, am_ushr6, am_ushr11, am_addE, am_subE, am_mulE, am_laddE, am_lsubE, am_upO, am_upS, am_stS, am_stO, am_tnn, am_brl, am_brg, am_bre, am_brn, am_brG, am_brL, am_st1, am_no2, am_st2, am_clr]
    refine am_wp_cc rfl rfl rfl (congrArg Prod.fst hp.1) (w_endOf hp ho (by omega) ⟨_, rfl, ?_⟩)
    refine am_wp_go rfl (by simp (disch := omega) only [h1, h2, h3, o1, am_and15, am_and3, am_and31, am_ushr4, am_ushr6, am_ushr11, am_addE, am_subE, am_mulE, am_laddE, am_lsubE, am_upO, am_upS, am_stS, am_stO, am_tnn, am_brl, am_brg, am_bre, am_brn, am_brG, am_brL, am_st1, am_no2, am_st2, am_clr, and_self, true_and, and_true, true_or, or_true, List.length_cons, List.length_nil] <;> omega) ?_
    try simp (disch := omega) only [h1, h2, h3, o1, am_and15, am_and3, am_and31, am_ushr4, am_ushr6, am_ushr11, am_addE, am_subE, am_mulE, am_laddE, am_lsubE, am_upO, am_upS, am_stS, am_stO, am_tnn, am_brl, am_brg, am_bre, am_brn, am_brG, am_brL, am_st1, am_no2, am_st2, am_clr]
    exact am_wp_ls (ih (by omega)) (by simp (disch := omega) only [am_fmax, h1, h2, h3, o1, am_and15, am_and3, am_and31, am_ushr4, am_ushr6, am_ushr11, am_addE, am_subE, am_mulE, am_laddE, am_lsubE, am_upO, am_upS, am_stS, am_stO, am_tnn, am_brl, am_brg, am_bre, am_brn, am_brG, am_brL, am_st1, am_no2, am_st2, am_clr, List.cons.injEq, Option.some.injEq, Sum.inl.injEq, Sum.inr.injEq, and_self, true_and, and_true] <;> omega)
theorem w_minutesOn {s : Int} (hp : pl_is sh R p) (ho : pl I p G) (h : Q (am_yi (am_fsum (fun k => if 2 * gS G k + gU G k = s then gN G k else 0) G.length)) (m, sl, sh, I, R)) : am_wp (d + 2) 74 0 [some (.inr (.inr (p))), some (.inl (s)), none, none] [] (m, sl, sh, I, R) Q := by
  obtain ⟨h1, h2, h3, h4⟩ := id hp
  obtain ⟨o1, o2, o3⟩ := id ho
  refine am_wp_go rfl (by simp (disch := omega) only [h1, h2, h3, o1, am_and15, am_and3, am_and31, am_ushr4, am_ushr6, am_ushr11, am_addE, am_subE, am_mulE, am_laddE, am_lsubE, am_upO, am_upS, am_stS, am_stO, am_tnn, am_brl, am_brg, am_bre, am_brn, am_brG, am_brL, am_st1, am_no2, am_st2, am_clr, and_self, true_and, and_true, true_or, or_true, List.length_cons, List.length_nil] <;> omega) ?_
  try simp (disch := omega) only [h1, h2, h3, o1, am_and15, am_and3, am_and31, am_ushr4, am_ushr6, am_ushr11, am_addE, am_subE, am_mulE, am_laddE, am_lsubE, am_upO, am_upS, am_stS, am_stO, am_tnn, am_brl, am_brg, am_bre, am_brn, am_brG, am_brL, am_st1, am_no2, am_st2, am_clr]
  refine am_lp0 (P := fun k => am_wp (d + 2) 74 4 [some (.inr (.inr (p))), some (.inl (s)), some (.inl (am_fsum (fun k => if 2 * gS G k + gU G k = s then gN G k else 0) k)), some (.inl ((k : Int)))] [] (m, sl, sh, I, R) Q) G.length (fun k hk ih => ?_)
  refine am_wp_go rfl (by simp (disch := omega) only [h1, h2, h3, o1, am_and15, am_and3, am_and31, am_ushr4, am_ushr6, am_ushr11, am_addE, am_subE, am_mulE, am_laddE, am_lsubE, am_upO, am_upS, am_stS, am_stO, am_tnn, am_brl, am_brg, am_bre, am_brn, am_brG, am_brL, am_st1, am_no2, am_st2, am_clr, and_self, true_and, and_true, true_or, or_true, List.length_cons, List.length_nil] <;> omega) ?_
  try simp (disch := omega) only [h1, h2, h3, o1, am_and15, am_and3, am_and31, am_ushr4, am_ushr6, am_ushr11, am_addE, am_subE, am_mulE, am_laddE, am_lsubE, am_upO, am_upS, am_stS, am_stO, am_tnn, am_brl, am_brg, am_bre, am_brn, am_brG, am_brL, am_st1, am_no2, am_st2, am_clr]
  refine am_wp_br (fun h9 => ?_) (fun h9 => ?_)
  · refine am_wp_go rfl (by simp (disch := omega) only [h1, h2, h3, o1, am_and15, am_and3, am_and31, am_ushr4, am_ushr6, am_ushr11, am_addE, am_subE, am_mulE, am_laddE, am_lsubE, am_upO, am_upS, am_stS, am_stO, am_tnn, am_brl, am_brg, am_bre, am_brn, am_brG, am_brL, am_st1, am_no2, am_st2, am_clr, and_self, true_and, and_true, true_or, or_true, List.length_cons, List.length_nil] <;> omega) ?_
    try simp (disch := omega) only [h1, h2, h3, o1, am_and15, am_and3, am_and31, am_ushr4, am_ushr6, am_ushr11, am_addE, am_subE, am_mulE, am_laddE, am_lsubE, am_upO, am_upS, am_stS, am_stO, am_tnn, am_brl, am_brg, am_bre, am_brn, am_brG, am_brL, am_st1, am_no2, am_st2, am_clr]
    refine am_wp_ret rfl rfl ?_
    rw [show G.length = k by omega] at h
    exact h
  · refine am_wp_go rfl (by simp (disch := omega) only [h1, h2, h3, o1, am_and15, am_and3, am_and31, am_ushr4, am_ushr6, am_ushr11, am_addE, am_subE, am_mulE, am_laddE, am_lsubE, am_upO, am_upS, am_stS, am_stO, am_tnn, am_brl, am_brg, am_bre, am_brn, am_brG, am_brL, am_st1, am_no2, am_st2, am_clr, and_self, true_and, and_true, true_or, or_true, List.length_cons, List.length_nil] <;> omega) ?_
    try simp (disch := omega) only [h1, h2, h3, o1, am_and15, am_and3, am_and31, am_ushr4, am_ushr6, am_ushr11, am_addE, am_subE, am_mulE, am_laddE, am_lsubE, am_upO, am_upS, am_stS, am_stO, am_tnn, am_brl, am_brg, am_bre, am_brn, am_brG, am_brL, am_st1, am_no2, am_st2, am_clr]
    refine am_wp_cc rfl rfl rfl (congrArg Prod.fst hp.1) (w_sideOf hp ho (by omega) ⟨_, rfl, ?_⟩)
    refine am_wp_go rfl (by simp (disch := omega) only [h1, h2, h3, o1, am_and15, am_and3, am_and31, am_ushr4, am_ushr6, am_ushr11, am_addE, am_subE, am_mulE, am_laddE, am_lsubE, am_upO, am_upS, am_stS, am_stO, am_tnn, am_brl, am_brg, am_bre, am_brn, am_brG, am_brL, am_st1, am_no2, am_st2, am_clr, and_self, true_and, and_true, true_or, or_true, List.length_cons, List.length_nil] <;> omega) ?_
    try simp (disch := omega) only [h1, h2, h3, o1, am_and15, am_and3, am_and31, am_ushr4, am_ushr6, am_ushr11, am_addE, am_subE, am_mulE, am_laddE, am_lsubE, am_upO, am_upS, am_stS, am_stO, am_tnn, am_brl, am_brg, am_bre, am_brn, am_brG, am_brL, am_st1, am_no2, am_st2, am_clr]
    refine am_wp_br (fun h18 => ?_) (fun h18 => ?_)
    · refine am_wp_go rfl (by simp (disch := omega) only [h1, h2, h3, o1, am_and15, am_and3, am_and31, am_ushr4, am_ushr6, am_ushr11, am_addE, am_subE, am_mulE, am_laddE, am_lsubE, am_upO, am_upS, am_stS, am_stO, am_tnn, am_brl, am_brg, am_bre, am_brn, am_brG, am_brL, am_st1, am_no2, am_st2, am_clr, and_self, true_and, and_true, true_or, or_true, List.length_cons, List.length_nil] <;> omega) ?_
      try simp (disch := omega) only [h1, h2, h3, o1, am_and15, am_and3, am_and31, am_ushr4, am_ushr6, am_ushr11, am_addE, am_subE, am_mulE, am_laddE, am_lsubE, am_upO, am_upS, am_stS, am_stO, am_tnn, am_brl, am_brg, am_bre, am_brn, am_brG, am_brL, am_st1, am_no2, am_st2, am_clr]
      exact am_wp_ls (ih (by omega)) (by simp (disch := omega) only [am_fsum, h18, if_false, h1, h2, h3, o1, am_and15, am_and3, am_and31, am_ushr4, am_ushr6, am_ushr11, am_addE, am_subE, am_mulE, am_laddE, am_lsubE, am_upO, am_upS, am_stS, am_stO, am_tnn, am_brl, am_brg, am_bre, am_brn, am_brG, am_brL, am_st1, am_no2, am_st2, am_clr, List.cons.injEq, Option.some.injEq, Sum.inl.injEq, Sum.inr.injEq, and_self, true_and, and_true] <;> omega)
    · have h19 := o3 k (by omega)
      have h20 := am_fsum_le (f := fun k => if 2 * gS G k + gU G k = s then gN G k else 0) (b := 20) (n := k) (fun j hj => by
        have := o3 j (by omega)
        obtain ⟨e, r⟩ := this
        split <;> omega)
      obtain ⟨e, r⟩ := h19
      refine am_wp_go rfl (by simp (disch := omega) only [h1, h2, h3, o1, am_and15, am_and3, am_and31, am_ushr4, am_ushr6, am_ushr11, am_addE, am_subE, am_mulE, am_laddE, am_lsubE, am_upO, am_upS, am_stS, am_stO, am_tnn, am_brl, am_brg, am_bre, am_brn, am_brG, am_brL, am_st1, am_no2, am_st2, am_clr, and_self, true_and, and_true, true_or, or_true, List.length_cons, List.length_nil] <;> omega) ?_
      try simp (disch := omega) only [h1, h2, h3, o1, am_and15, am_and3, am_and31, am_ushr4, am_ushr6, am_ushr11, am_addE, am_subE, am_mulE, am_laddE, am_lsubE, am_upO, am_upS, am_stS, am_stO, am_tnn, am_brl, am_brg, am_bre, am_brn, am_brG, am_brL, am_st1, am_no2, am_st2, am_clr]
      refine am_wp_cc rfl rfl rfl (congrArg Prod.fst hp.1) (w_minutesOf hp ho (by omega) ⟨_, rfl, ?_⟩)
      refine am_wp_go rfl (by simp (disch := omega) only [h1, h2, h3, o1, am_and15, am_and3, am_and31, am_ushr4, am_ushr6, am_ushr11, am_addE, am_subE, am_mulE, am_laddE, am_lsubE, am_upO, am_upS, am_stS, am_stO, am_tnn, am_brl, am_brg, am_bre, am_brn, am_brG, am_brL, am_st1, am_no2, am_st2, am_clr, and_self, true_and, and_true, true_or, or_true, List.length_cons, List.length_nil] <;> omega) ?_
      try simp (disch := omega) only [h1, h2, h3, o1, am_and15, am_and3, am_and31, am_ushr4, am_ushr6, am_ushr11, am_addE, am_subE, am_mulE, am_laddE, am_lsubE, am_upO, am_upS, am_stS, am_stO, am_tnn, am_brl, am_brg, am_bre, am_brn, am_brG, am_brL, am_st1, am_no2, am_st2, am_clr]
      exact am_wp_ls (ih (by omega)) (by simp (disch := omega) only [am_fsum, Classical.not_not.mp h18, if_true, h1, h2, h3, o1, am_and15, am_and3, am_and31, am_ushr4, am_ushr6, am_ushr11, am_addE, am_subE, am_mulE, am_laddE, am_lsubE, am_upO, am_upS, am_stS, am_stO, am_tnn, am_brl, am_brg, am_bre, am_brn, am_brG, am_brL, am_st1, am_no2, am_st2, am_clr, List.cons.injEq, Option.some.injEq, Sum.inl.injEq, Sum.inr.injEq, and_self, true_and, and_true] <;> omega)
end PLAN
