/-! History made -/
section NEW
variable {m sl p d : Nat} {sh : Nat → Nat × Nat} {I : Nat → Nat → Int} {R : Nat → Nat → Nat} {Q : am_R → am_M → Prop} {M : am_M} {l : List LE}
def lgHistory (p m : Nat) : List LE := [(0, 37, 8, ((m : Nat) : Int)), (2, p, 0, ((m : Nat) : Int)), (1, p, 1, 0), (1, p, 2, 0), (0, 5, 2, ((m + 1 : Nat) : Int))] ++ (lgPlan (m + 1) (m + 2) ++ ([(2, m, 0, ((m + 1 : Nat) : Int)), (0, 5, 2, ((m + 3 : Nat) : Int))] ++ (lgPlan (m + 3) (m + 4) ++ ([(2, m, 1, ((m + 3 : Nat) : Int)), (0, 5, 2, ((m + 5 : Nat) : Int))] ++ (lgPlan (m + 5) (m + 6) ++ ([(2, m, 2, ((m + 5 : Nat) : Int)), (0, 5, 2, ((m + 7 : Nat) : Int))] ++ (lgPlan (m + 7) (m + 8) ++ ([(2, m, 3, ((m + 7 : Nat) : Int)), (0, 5, 2, ((m + 9 : Nat) : Int))] ++ (lgPlan (m + 9) (m + 10) ++ ([(2, m, 4, ((m + 9 : Nat) : Int)), (0, 5, 2, ((m + 11 : Nat) : Int))] ++ (lgPlan (m + 11) (m + 12) ++ ([(2, m, 5, ((m + 11 : Nat) : Int)), (0, 5, 2, ((m + 13 : Nat) : Int))] ++ (lgPlan (m + 13) (m + 14) ++ ([(2, m, 6, ((m + 13 : Nat) : Int)), (0, 5, 2, ((m + 15 : Nat) : Int))] ++ (lgPlan (m + 15) (m + 16) ++ ([(2, m, 7, ((m + 15 : Nat) : Int))]))))))))))))))))
set_option maxHeartbeats 4000000 in
set_option maxRecDepth 8000 in
theorem n_History (a : AT M l m sl sh I R) (hp : sh p = (1, 3)) (hpm : p < m) (h4 : 4 ≤ p) (h : ∀ m' sl' sh' I' R', AT M (l ++ lgHistory p m) m' sl' sh' I' R' → m' = m + 17 → (∀ b, b < m → sh' b = sh b) → (∀ b, b < m → b ≠ p → R' b = R b) → Q am_yv (m', sl', sh', I', R')) : am_wp (d + 1) 11 0 [some (.inr (.inr p)), none] [] (m, sl, sh, I, R) Q := by
  refine am_wp_go rfl (by simp (disch := omega) only [hp, am_sh1O, am_sh1S, am_upO, am_upS, am_stS, am_stO, am_zeO, am_kd, am_tnn, Int.reduceToNat, Int.reduceEq, Nat.reduceEqDiff, eq_self, List.length_cons, List.length_nil, and_self, and_true, true_and, and_false, false_and, or_true, true_or, or_false, false_or, ne_eq, not_false_eq_true] <;> omega) ?_
  skip
  refine am_wp_go rfl trivial ?_
  refine am_wp_pc (pc' := 31) (by decide) ?_
  refine am_wp_go rfl (by simp (disch := omega) only [hp, am_sh1O, am_sh1S, am_upO, am_upS, am_stS, am_stO, am_zeO, am_kd, am_tnn, Int.reduceToNat, Int.reduceEq, Nat.reduceEqDiff, eq_self, List.length_cons, List.length_nil, and_self, and_true, true_and, and_false, false_and, or_true, true_or, or_false, false_or, ne_eq, not_false_eq_true] <;> omega) ?_
  try simp (disch := omega) only [hp, am_sh1O, am_upS, am_upO, am_stS, am_stO, am_zeO, am_tnn]
  refine am_wp_cc rfl rfl rfl (show 4 ≤ _ by omega) (n_Plan (p := m + 1) (at_l (e := [(0, 37, 8, ((m : Nat) : Int)), (2, p, 0, ((m : Nat) : Int)), (1, p, 1, 0), (1, p, 2, 0), (0, 5, 2, ((m + 1 : Nat) : Int))]) a rfl) am_sh1S (by omega) (by omega) (fun m1 sl1 sh1 I1 R1 a1 e1 f1 g1 => ⟨_, rfl, ?_⟩))
  have e1 : m1 = m + 3 := e1
  subst e1
  have hp1 : sh1 p = (1, 3) := by simp (disch := omega) only [f1, am_sh1O, am_sh1S, hp]
  have hx1 : sh1 (m + 1) = (5, 2) := by simp (disch := omega) only [f1, am_sh1O, am_sh1S]
  have hr1 : R1 p 0 = m := by simp (disch := omega) only [g1, am_upO, am_upS, am_stS, am_stO, am_zeO, hp]
  have hc1 : sh1 (m) = (37, 8) := by simp (disch := omega) only [f1, am_sh1O, am_sh1S, Int.reduceToNat, hp]
  refine am_wp_go rfl (by simp (disch := omega) only [hp1, hx1, hr1, hc1, am_sh1O, am_sh1S, am_upO, am_upS, am_stS, am_stO, am_zeO, am_kd, am_tnn, Int.reduceToNat, Int.reduceEq, Nat.reduceEqDiff, eq_self, List.length_cons, List.length_nil, and_self, and_true, true_and, and_false, false_and, or_true, true_or, or_false, false_or, ne_eq, not_false_eq_true] <;> omega) ?_
  simp (disch := omega) only [am_st1, am_no2, am_addE, Int.reduceAdd]
  refine am_wp_go rfl trivial ?_
  refine am_wp_pc (pc' := 31) (by decide) ?_
  refine am_wp_go rfl (by simp (disch := omega) only [hp1, hx1, hr1, hc1, am_sh1O, am_sh1S, am_upO, am_upS, am_stS, am_stO, am_zeO, am_kd, am_tnn, Int.reduceToNat, Int.reduceEq, Nat.reduceEqDiff, eq_self, List.length_cons, List.length_nil, and_self, and_true, true_and, and_false, false_and, or_true, true_or, or_false, false_or, ne_eq, not_false_eq_true] <;> omega) ?_
  try simp (disch := omega) only [hp1, hx1, hr1, hc1, am_sh1O, am_upS, am_upO, am_stS, am_stO, am_zeO, am_tnn]
  refine am_wp_cc rfl rfl rfl (show 4 ≤ _ by omega) (n_Plan (p := m + 3) (at_l (e := [(2, m, 0, ((m + 1 : Nat) : Int)), (0, 5, 2, ((m + 3 : Nat) : Int))]) a1 rfl) am_sh1S (by omega) (by omega) (fun m2 sl2 sh2 I2 R2 a2 e2 f2 g2 => ⟨_, rfl, ?_⟩))
  have e2 : m2 = m + 5 := e2
  subst e2
  have hp2 : sh2 p = (1, 3) := by simp (disch := omega) only [f2, am_sh1O, am_sh1S, hp1, hx1, hr1, hc1]
  have hx2 : sh2 (m + 3) = (5, 2) := by simp (disch := omega) only [f2, am_sh1O, am_sh1S]
  have hr2 : R2 p 0 = m := by simp (disch := omega) only [g2, am_upO, am_upS, am_stS, am_stO, am_zeO, hp1, hx1, hr1, hc1]
  have hc2 : sh2 (m) = (37, 8) := by simp (disch := omega) only [f2, am_sh1O, am_sh1S, Int.reduceToNat, hp1, hx1, hr1, hc1]
  refine am_wp_go rfl (by simp (disch := omega) only [hp2, hx2, hr2, hc2, am_sh1O, am_sh1S, am_upO, am_upS, am_stS, am_stO, am_zeO, am_kd, am_tnn, Int.reduceToNat, Int.reduceEq, Nat.reduceEqDiff, eq_self, List.length_cons, List.length_nil, and_self, and_true, true_and, and_false, false_and, or_true, true_or, or_false, false_or, ne_eq, not_false_eq_true] <;> omega) ?_
  simp (disch := omega) only [am_st1, am_no2, am_addE, Int.reduceAdd]
  refine am_wp_go rfl trivial ?_
  refine am_wp_pc (pc' := 31) (by decide) ?_
  refine am_wp_go rfl (by simp (disch := omega) only [hp2, hx2, hr2, hc2, am_sh1O, am_sh1S, am_upO, am_upS, am_stS, am_stO, am_zeO, am_kd, am_tnn, Int.reduceToNat, Int.reduceEq, Nat.reduceEqDiff, eq_self, List.length_cons, List.length_nil, and_self, and_true, true_and, and_false, false_and, or_true, true_or, or_false, false_or, ne_eq, not_false_eq_true] <;> omega) ?_
  try simp (disch := omega) only [hp2, hx2, hr2, hc2, am_sh1O, am_upS, am_upO, am_stS, am_stO, am_zeO, am_tnn]
  refine am_wp_cc rfl rfl rfl (show 4 ≤ _ by omega) (n_Plan (p := m + 5) (at_l (e := [(2, m, 1, ((m + 3 : Nat) : Int)), (0, 5, 2, ((m + 5 : Nat) : Int))]) a2 rfl) am_sh1S (by omega) (by omega) (fun m3 sl3 sh3 I3 R3 a3 e3 f3 g3 => ⟨_, rfl, ?_⟩))
  have e3 : m3 = m + 7 := e3
  subst e3
  have hp3 : sh3 p = (1, 3) := by simp (disch := omega) only [f3, am_sh1O, am_sh1S, hp2, hx2, hr2, hc2]
  have hx3 : sh3 (m + 5) = (5, 2) := by simp (disch := omega) only [f3, am_sh1O, am_sh1S]
  have hr3 : R3 p 0 = m := by simp (disch := omega) only [g3, am_upO, am_upS, am_stS, am_stO, am_zeO, hp2, hx2, hr2, hc2]
  have hc3 : sh3 (m) = (37, 8) := by simp (disch := omega) only [f3, am_sh1O, am_sh1S, Int.reduceToNat, hp2, hx2, hr2, hc2]
  refine am_wp_go rfl (by simp (disch := omega) only [hp3, hx3, hr3, hc3, am_sh1O, am_sh1S, am_upO, am_upS, am_stS, am_stO, am_zeO, am_kd, am_tnn, Int.reduceToNat, Int.reduceEq, Nat.reduceEqDiff, eq_self, List.length_cons, List.length_nil, and_self, and_true, true_and, and_false, false_and, or_true, true_or, or_false, false_or, ne_eq, not_false_eq_true] <;> omega) ?_
  simp (disch := omega) only [am_st1, am_no2, am_addE, Int.reduceAdd]
  refine am_wp_go rfl trivial ?_
  refine am_wp_pc (pc' := 31) (by decide) ?_
  refine am_wp_go rfl (by simp (disch := omega) only [hp3, hx3, hr3, hc3, am_sh1O, am_sh1S, am_upO, am_upS, am_stS, am_stO, am_zeO, am_kd, am_tnn, Int.reduceToNat, Int.reduceEq, Nat.reduceEqDiff, eq_self, List.length_cons, List.length_nil, and_self, and_true, true_and, and_false, false_and, or_true, true_or, or_false, false_or, ne_eq, not_false_eq_true] <;> omega) ?_
  try simp (disch := omega) only [hp3, hx3, hr3, hc3, am_sh1O, am_upS, am_upO, am_stS, am_stO, am_zeO, am_tnn]
  refine am_wp_cc rfl rfl rfl (show 4 ≤ _ by omega) (n_Plan (p := m + 7) (at_l (e := [(2, m, 2, ((m + 5 : Nat) : Int)), (0, 5, 2, ((m + 7 : Nat) : Int))]) a3 rfl) am_sh1S (by omega) (by omega) (fun m4 sl4 sh4 I4 R4 a4 e4 f4 g4 => ⟨_, rfl, ?_⟩))
  have e4 : m4 = m + 9 := e4
  subst e4
  have hp4 : sh4 p = (1, 3) := by simp (disch := omega) only [f4, am_sh1O, am_sh1S, hp3, hx3, hr3, hc3]
  have hx4 : sh4 (m + 7) = (5, 2) := by simp (disch := omega) only [f4, am_sh1O, am_sh1S]
  have hr4 : R4 p 0 = m := by simp (disch := omega) only [g4, am_upO, am_upS, am_stS, am_stO, am_zeO, hp3, hx3, hr3, hc3]
  have hc4 : sh4 (m) = (37, 8) := by simp (disch := omega) only [f4, am_sh1O, am_sh1S, Int.reduceToNat, hp3, hx3, hr3, hc3]
  refine am_wp_go rfl (by simp (disch := omega) only [hp4, hx4, hr4, hc4, am_sh1O, am_sh1S, am_upO, am_upS, am_stS, am_stO, am_zeO, am_kd, am_tnn, Int.reduceToNat, Int.reduceEq, Nat.reduceEqDiff, eq_self, List.length_cons, List.length_nil, and_self, and_true, true_and, and_false, false_and, or_true, true_or, or_false, false_or, ne_eq, not_false_eq_true] <;> omega) ?_
  simp (disch := omega) only [am_st1, am_no2, am_addE, Int.reduceAdd]
  refine am_wp_go rfl trivial ?_
  refine am_wp_pc (pc' := 31) (by decide) ?_
  refine am_wp_go rfl (by simp (disch := omega) only [hp4, hx4, hr4, hc4, am_sh1O, am_sh1S, am_upO, am_upS, am_stS, am_stO, am_zeO, am_kd, am_tnn, Int.reduceToNat, Int.reduceEq, Nat.reduceEqDiff, eq_self, List.length_cons, List.length_nil, and_self, and_true, true_and, and_false, false_and, or_true, true_or, or_false, false_or, ne_eq, not_false_eq_true] <;> omega) ?_
  try simp (disch := omega) only [hp4, hx4, hr4, hc4, am_sh1O, am_upS, am_upO, am_stS, am_stO, am_zeO, am_tnn]
  refine am_wp_cc rfl rfl rfl (show 4 ≤ _ by omega) (n_Plan (p := m + 9) (at_l (e := [(2, m, 3, ((m + 7 : Nat) : Int)), (0, 5, 2, ((m + 9 : Nat) : Int))]) a4 rfl) am_sh1S (by omega) (by omega) (fun m5 sl5 sh5 I5 R5 a5 e5 f5 g5 => ⟨_, rfl, ?_⟩))
  have e5 : m5 = m + 11 := e5
  subst e5
  have hp5 : sh5 p = (1, 3) := by simp (disch := omega) only [f5, am_sh1O, am_sh1S, hp4, hx4, hr4, hc4]
  have hx5 : sh5 (m + 9) = (5, 2) := by simp (disch := omega) only [f5, am_sh1O, am_sh1S]
  have hr5 : R5 p 0 = m := by simp (disch := omega) only [g5, am_upO, am_upS, am_stS, am_stO, am_zeO, hp4, hx4, hr4, hc4]
  have hc5 : sh5 (m) = (37, 8) := by simp (disch := omega) only [f5, am_sh1O, am_sh1S, Int.reduceToNat, hp4, hx4, hr4, hc4]
  refine am_wp_go rfl (by simp (disch := omega) only [hp5, hx5, hr5, hc5, am_sh1O, am_sh1S, am_upO, am_upS, am_stS, am_stO, am_zeO, am_kd, am_tnn, Int.reduceToNat, Int.reduceEq, Nat.reduceEqDiff, eq_self, List.length_cons, List.length_nil, and_self, and_true, true_and, and_false, false_and, or_true, true_or, or_false, false_or, ne_eq, not_false_eq_true] <;> omega) ?_
  simp (disch := omega) only [am_st1, am_no2, am_addE, Int.reduceAdd]
  refine am_wp_go rfl trivial ?_
  refine am_wp_pc (pc' := 31) (by decide) ?_
  refine am_wp_go rfl (by simp (disch := omega) only [hp5, hx5, hr5, hc5, am_sh1O, am_sh1S, am_upO, am_upS, am_stS, am_stO, am_zeO, am_kd, am_tnn, Int.reduceToNat, Int.reduceEq, Nat.reduceEqDiff, eq_self, List.length_cons, List.length_nil, and_self, and_true, true_and, and_false, false_and, or_true, true_or, or_false, false_or, ne_eq, not_false_eq_true] <;> omega) ?_
  try simp (disch := omega) only [hp5, hx5, hr5, hc5, am_sh1O, am_upS, am_upO, am_stS, am_stO, am_zeO, am_tnn]
  refine am_wp_cc rfl rfl rfl (show 4 ≤ _ by omega) (n_Plan (p := m + 11) (at_l (e := [(2, m, 4, ((m + 9 : Nat) : Int)), (0, 5, 2, ((m + 11 : Nat) : Int))]) a5 rfl) am_sh1S (by omega) (by omega) (fun m6 sl6 sh6 I6 R6 a6 e6 f6 g6 => ⟨_, rfl, ?_⟩))
  have e6 : m6 = m + 13 := e6
  subst e6
  have hp6 : sh6 p = (1, 3) := by simp (disch := omega) only [f6, am_sh1O, am_sh1S, hp5, hx5, hr5, hc5]
  have hx6 : sh6 (m + 11) = (5, 2) := by simp (disch := omega) only [f6, am_sh1O, am_sh1S]
  have hr6 : R6 p 0 = m := by simp (disch := omega) only [g6, am_upO, am_upS, am_stS, am_stO, am_zeO, hp5, hx5, hr5, hc5]
  have hc6 : sh6 (m) = (37, 8) := by simp (disch := omega) only [f6, am_sh1O, am_sh1S, Int.reduceToNat, hp5, hx5, hr5, hc5]
  refine am_wp_go rfl (by simp (disch := omega) only [hp6, hx6, hr6, hc6, am_sh1O, am_sh1S, am_upO, am_upS, am_stS, am_stO, am_zeO, am_kd, am_tnn, Int.reduceToNat, Int.reduceEq, Nat.reduceEqDiff, eq_self, List.length_cons, List.length_nil, and_self, and_true, true_and, and_false, false_and, or_true, true_or, or_false, false_or, ne_eq, not_false_eq_true] <;> omega) ?_
  simp (disch := omega) only [am_st1, am_no2, am_addE, Int.reduceAdd]
  refine am_wp_go rfl trivial ?_
  refine am_wp_pc (pc' := 31) (by decide) ?_
  refine am_wp_go rfl (by simp (disch := omega) only [hp6, hx6, hr6, hc6, am_sh1O, am_sh1S, am_upO, am_upS, am_stS, am_stO, am_zeO, am_kd, am_tnn, Int.reduceToNat, Int.reduceEq, Nat.reduceEqDiff, eq_self, List.length_cons, List.length_nil, and_self, and_true, true_and, and_false, false_and, or_true, true_or, or_false, false_or, ne_eq, not_false_eq_true] <;> omega) ?_
  try simp (disch := omega) only [hp6, hx6, hr6, hc6, am_sh1O, am_upS, am_upO, am_stS, am_stO, am_zeO, am_tnn]
  refine am_wp_cc rfl rfl rfl (show 4 ≤ _ by omega) (n_Plan (p := m + 13) (at_l (e := [(2, m, 5, ((m + 11 : Nat) : Int)), (0, 5, 2, ((m + 13 : Nat) : Int))]) a6 rfl) am_sh1S (by omega) (by omega) (fun m7 sl7 sh7 I7 R7 a7 e7 f7 g7 => ⟨_, rfl, ?_⟩))
  have e7 : m7 = m + 15 := e7
  subst e7
  have hp7 : sh7 p = (1, 3) := by simp (disch := omega) only [f7, am_sh1O, am_sh1S, hp6, hx6, hr6, hc6]
  have hx7 : sh7 (m + 13) = (5, 2) := by simp (disch := omega) only [f7, am_sh1O, am_sh1S]
  have hr7 : R7 p 0 = m := by simp (disch := omega) only [g7, am_upO, am_upS, am_stS, am_stO, am_zeO, hp6, hx6, hr6, hc6]
  have hc7 : sh7 (m) = (37, 8) := by simp (disch := omega) only [f7, am_sh1O, am_sh1S, Int.reduceToNat, hp6, hx6, hr6, hc6]
  refine am_wp_go rfl (by simp (disch := omega) only [hp7, hx7, hr7, hc7, am_sh1O, am_sh1S, am_upO, am_upS, am_stS, am_stO, am_zeO, am_kd, am_tnn, Int.reduceToNat, Int.reduceEq, Nat.reduceEqDiff, eq_self, List.length_cons, List.length_nil, and_self, and_true, true_and, and_false, false_and, or_true, true_or, or_false, false_or, ne_eq, not_false_eq_true] <;> omega) ?_
  simp (disch := omega) only [am_st1, am_no2, am_addE, Int.reduceAdd]
  refine am_wp_go rfl trivial ?_
  refine am_wp_pc (pc' := 31) (by decide) ?_
  refine am_wp_go rfl (by simp (disch := omega) only [hp7, hx7, hr7, hc7, am_sh1O, am_sh1S, am_upO, am_upS, am_stS, am_stO, am_zeO, am_kd, am_tnn, Int.reduceToNat, Int.reduceEq, Nat.reduceEqDiff, eq_self, List.length_cons, List.length_nil, and_self, and_true, true_and, and_false, false_and, or_true, true_or, or_false, false_or, ne_eq, not_false_eq_true] <;> omega) ?_
  try simp (disch := omega) only [hp7, hx7, hr7, hc7, am_sh1O, am_upS, am_upO, am_stS, am_stO, am_zeO, am_tnn]
  refine am_wp_cc rfl rfl rfl (show 4 ≤ _ by omega) (n_Plan (p := m + 15) (at_l (e := [(2, m, 6, ((m + 13 : Nat) : Int)), (0, 5, 2, ((m + 15 : Nat) : Int))]) a7 rfl) am_sh1S (by omega) (by omega) (fun m8 sl8 sh8 I8 R8 a8 e8 f8 g8 => ⟨_, rfl, ?_⟩))
  have e8 : m8 = m + 17 := e8
  subst e8
  have hp8 : sh8 p = (1, 3) := by simp (disch := omega) only [f8, am_sh1O, am_sh1S, hp7, hx7, hr7, hc7]
  have hx8 : sh8 (m + 15) = (5, 2) := by simp (disch := omega) only [f8, am_sh1O, am_sh1S]
  have hr8 : R8 p 0 = m := by simp (disch := omega) only [g8, am_upO, am_upS, am_stS, am_stO, am_zeO, hp7, hx7, hr7, hc7]
  have hc8 : sh8 (m) = (37, 8) := by simp (disch := omega) only [f8, am_sh1O, am_sh1S, Int.reduceToNat, hp7, hx7, hr7, hc7]
  refine am_wp_go rfl (by simp (disch := omega) only [hp8, hx8, hr8, hc8, am_sh1O, am_sh1S, am_upO, am_upS, am_stS, am_stO, am_zeO, am_kd, am_tnn, Int.reduceToNat, Int.reduceEq, Nat.reduceEqDiff, eq_self, List.length_cons, List.length_nil, and_self, and_true, true_and, and_false, false_and, or_true, true_or, or_false, false_or, ne_eq, not_false_eq_true] <;> omega) ?_
  simp (disch := omega) only [am_st1, am_no2, am_addE, Int.reduceAdd]
  refine am_wp_go rfl trivial ?_
  refine am_wp_pc (pc' := 50) (by decide) ?_
  refine am_wp_go rfl (by simp (disch := omega) only [hp8, hx8, hr8, hc8, am_sh1O, am_sh1S, am_upO, am_upS, am_stS, am_stO, am_zeO, am_kd, am_tnn, Int.reduceToNat, Int.reduceEq, Nat.reduceEqDiff, eq_self, List.length_cons, List.length_nil, and_self, and_true, true_and, and_false, false_and, or_true, true_or, or_false, false_or, ne_eq, not_false_eq_true] <;> omega) ?_
  refine am_wp_ret rfl rfl ?_
  exact h _ _ _ _ _ (by unfold lgHistory; simp only [← List.append_assoc]; exact at_l (e := [(2, m, 7, ((m + 15 : Nat) : Int))]) a8 rfl) (show _ = m + 17 from rfl) (fun b hb => by simp (disch := omega) only [f1, f2, f3, f4, f5, f6, f7, f8, am_sh1O]) (fun b hb hn => by simp (disch := omega) only [g1, g2, g3, g4, g5, g6, g7, g8, am_upO, am_zeO])
end NEW
