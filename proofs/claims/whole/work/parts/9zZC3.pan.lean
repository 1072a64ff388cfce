/-! PanSlices made -/
section NEW
variable {m sl p d : Nat} {sh : Nat → Nat × Nat} {I : Nat → Nat → Int} {R : Nat → Nat → Nat} {Q : am_R → am_M → Prop} {M : am_M} {l : List LE}
def lgPan (p m : Nat) : List LE := [(0, 9, 4, ((m : Nat) : Int))] ++ (lgState (m) (m + 1) ++ ([(2, p, 0, ((m : Nat) : Int)), (0, 36, 2, ((m + 16 : Nat) : Int)), (2, p, 1, ((m + 16 : Nat) : Int)), (0, 1, 3, ((m + 17 : Nat) : Int))] ++ (lgHistory (m + 17) (m + 18) ++ ([(2, p, 2, ((m + 17 : Nat) : Int)), (0, 3, 18, ((m + 35 : Nat) : Int))] ++ (lgKitchen (m + 35) (m + 36) ++ ([(2, p, 3, ((m + 35 : Nat) : Int)), (0, 5, 2, ((m + 43 : Nat) : Int))] ++ (lgPlan (m + 43) (m + 44) ++ ([(2, p, 4, ((m + 43 : Nat) : Int)), (0, 6, 6, ((m + 45 : Nat) : Int))] ++ (lgSentence (m + 45) (m + 46) ++ ([(2, p, 5, ((m + 45 : Nat) : Int)), (0, 10, 13, ((m + 50 : Nat) : Int))] ++ (lgTape (m + 50) (m + 51) ++ ([(2, p, 6, ((m + 50 : Nat) : Int)), (0, 0, 2, ((m + 56 : Nat) : Int))] ++ (lgBoard (m + 56) (m + 57) ++ ([(2, p, 7, ((m + 56 : Nat) : Int)), (0, 8, 13, ((m + 59 : Nat) : Int))] ++ (lgShortest (m + 59) (m + 60) ++ ([(2, p, 8, ((m + 59 : Nat) : Int)), (0, 4, 8, ((m + 68 : Nat) : Int))] ++ (lgMakers (m + 68) (m + 69) ++ ([(2, p, 9, ((m + 68 : Nat) : Int)), (0, 7, 7, ((m + 75 : Nat) : Int))] ++ (lgServings (m + 75) (m + 76) ++ ([(2, p, 10, ((m + 75 : Nat) : Int)), (0, 2, 3, ((m + 81 : Nat) : Int))] ++ (lgHotel (m + 81) (m + 82) ++ ([(2, p, 11, ((m + 81 : Nat) : Int)), (0, 33, 7200, ((m + 84 : Nat) : Int)), (2, p, 12, ((m + 84 : Nat) : Int)), (0, 35, 36, ((m + 85 : Nat) : Int)), (2, p, 13, ((m + 85 : Nat) : Int)), (0, 35, 36, ((m + 86 : Nat) : Int)), (2, p, 14, ((m + 86 : Nat) : Int)), (1, p, 15, 0), (1, p, 16, 0), (1, p, 17, (-1)), (0, 9, 4, ((m + 87 : Nat) : Int))] ++ (lgState (m + 87) (m + 88) ++ ([(2, m + 16, 0, ((m + 87 : Nat) : Int)), (0, 9, 4, ((m + 103 : Nat) : Int))] ++ (lgState (m + 103) (m + 104) ++ ([(2, m + 16, 1, ((m + 103 : Nat) : Int))]))))))))))))))))))))))))))
set_option maxHeartbeats 4000000 in
set_option maxRecDepth 8000 in
theorem n_Pan (a : AT M l m sl sh I R) (hp : sh p = (11, 18)) (hpm : p < m) (h4 : 4 ≤ p) (s2 : sh 2 = (32, 36)) (h : ∀ m' sl' sh' I' R', AT M (l ++ lgPan p m) m' sl' sh' I' R' → m' = m + 119 → Q am_yv (m', sl', sh', I', R')) : am_wp (d + 3) 132 0 [some (.inr (.inr p)), none] [] (m, sl, sh, I, R) Q := by
  refine am_wp_go rfl (by simp (disch := omega) only [hp, s2, am_sh1O, am_sh1S, am_upO, am_upS, am_stS, am_stO, am_zeO, am_kd, am_tnn, Int.reduceToNat, Int.reduceEq, Nat.reduceEqDiff, eq_self, List.length_cons, List.length_nil, and_self, and_true, true_and, and_false, false_and, or_true, true_or, or_false, false_or, ne_eq, not_false_eq_true] <;> omega) ?_
  try simp (disch := omega) only [hp, s2, am_sh1O, am_upS, am_upO, am_stS, am_stO, am_zeO, am_tnn]
  refine am_wp_cc rfl rfl rfl (show 4 ≤ _ by omega) (n_State (p := m) (at_l (e := [(0, 9, 4, ((m : Nat) : Int))]) a rfl) am_sh1S (by omega) (by omega) (fun m1 sl1 sh1 I1 R1 a1 e1 f1 g1 => ⟨_, rfl, ?_⟩))
  have e1 : m1 = m + 16 := e1
  subst e1
  have hp1 : sh1 p = (11, 18) := by simp (disch := omega) only [f1, am_sh1O, am_sh1S, hp, s2]
  have hx1 : sh1 (m) = (9, 4) := by simp (disch := omega) only [f1, am_sh1O, am_sh1S]
  have hs1 : sh1 2 = (32, 36) := by simp (disch := omega) only [f1, am_sh1O, am_sh1S, hp, s2]
  clear f1 g1 a hp s2
  refine am_wp_go rfl (by simp (disch := omega) only [hp1, hx1, hs1, am_sh1O, am_sh1S, am_upO, am_upS, am_stS, am_stO, am_zeO, am_kd, am_tnn, Int.reduceToNat, Int.reduceEq, Nat.reduceEqDiff, eq_self, List.length_cons, List.length_nil, and_self, and_true, true_and, and_false, false_and, or_true, true_or, or_false, false_or, ne_eq, not_false_eq_true] <;> omega) ?_
  try simp (disch := omega) only [hp1, hx1, hs1, am_sh1O, am_upS, am_upO, am_stS, am_stO, am_zeO, am_tnn]
  refine am_wp_cc rfl rfl rfl (show 4 ≤ _ by omega) (n_History (p := m + 17) (at_l (e := [(2, p, 0, ((m : Nat) : Int)), (0, 36, 2, ((m + 16 : Nat) : Int)), (2, p, 1, ((m + 16 : Nat) : Int)), (0, 1, 3, ((m + 17 : Nat) : Int))]) a1 rfl) am_sh1S (by omega) (by omega) (fun m2 sl2 sh2 I2 R2 a2 e2 f2 g2 => ⟨_, rfl, ?_⟩))
  have e2 : m2 = m + 35 := e2
  subst e2
  have hp2 : sh2 p = (11, 18) := by simp (disch := omega) only [f2, am_sh1O, am_sh1S, hp1, hx1, hs1]
  have hx2 : sh2 (m + 17) = (1, 3) := by simp (disch := omega) only [f2, am_sh1O, am_sh1S]
  have hs2 : sh2 2 = (32, 36) := by simp (disch := omega) only [f2, am_sh1O, am_sh1S, hp1, hx1, hs1]
  have hr2 : R2 p 1 = m + 16 := by simp (disch := omega) only [g2, am_upO, am_upS, am_stS, am_stO, am_zeO, hp1, hx1, hs1]
  have hc2 : sh2 (m + 16) = (36, 2) := by simp (disch := omega) only [f2, am_sh1O, am_sh1S, Int.reduceToNat, hp1, hx1, hs1]
  clear f2 g2 a1 hp1 hx1 hs1
  refine am_wp_go rfl (by simp (disch := omega) only [hp2, hx2, hs2, hr2, hc2, am_sh1O, am_sh1S, am_upO, am_upS, am_stS, am_stO, am_zeO, am_kd, am_tnn, Int.reduceToNat, Int.reduceEq, Nat.reduceEqDiff, eq_self, List.length_cons, List.length_nil, and_self, and_true, true_and, and_false, false_and, or_true, true_or, or_false, false_or, ne_eq, not_false_eq_true] <;> omega) ?_
  try simp (disch := omega) only [hp2, hx2, hs2, hr2, hc2, am_sh1O, am_upS, am_upO, am_stS, am_stO, am_zeO, am_tnn]
  refine am_wp_cc rfl rfl rfl (show 4 ≤ _ by omega) (n_Kitchen (p := m + 35) (at_l (e := [(2, p, 2, ((m + 17 : Nat) : Int)), (0, 3, 18, ((m + 35 : Nat) : Int))]) a2 rfl) am_sh1S (by omega) (by omega) (fun m3 sl3 sh3 I3 R3 a3 e3 f3 g3 => ⟨_, rfl, ?_⟩))
  have e3 : m3 = m + 43 := e3
  subst e3
  have hp3 : sh3 p = (11, 18) := by simp (disch := omega) only [f3, am_sh1O, am_sh1S, hp2, hx2, hs2, hr2, hc2]
  have hx3 : sh3 (m + 35) = (3, 18) := by simp (disch := omega) only [f3, am_sh1O, am_sh1S]
  have hs3 : sh3 2 = (32, 36) := by simp (disch := omega) only [f3, am_sh1O, am_sh1S, hp2, hx2, hs2, hr2, hc2]
  have hr3 : R3 p 1 = m + 16 := by simp (disch := omega) only [g3, am_upO, am_upS, am_stS, am_stO, am_zeO, hp2, hx2, hs2, hr2, hc2]
  have hc3 : sh3 (m + 16) = (36, 2) := by simp (disch := omega) only [f3, am_sh1O, am_sh1S, Int.reduceToNat, hp2, hx2, hs2, hr2, hc2]
  clear f3 g3 a2 hp2 hx2 hs2 hr2 hc2
  refine am_wp_go rfl (by simp (disch := omega) only [hp3, hx3, hs3, hr3, hc3, am_sh1O, am_sh1S, am_upO, am_upS, am_stS, am_stO, am_zeO, am_kd, am_tnn, Int.reduceToNat, Int.reduceEq, Nat.reduceEqDiff, eq_self, List.length_cons, List.length_nil, and_self, and_true, true_and, and_false, false_and, or_true, true_or, or_false, false_or, ne_eq, not_false_eq_true] <;> omega) ?_
  try simp (disch := omega) only [hp3, hx3, hs3, hr3, hc3, am_sh1O, am_upS, am_upO, am_stS, am_stO, am_zeO, am_tnn]
  refine am_wp_cc rfl rfl rfl (show 4 ≤ _ by omega) (n_Plan (p := m + 43) (at_l (e := [(2, p, 3, ((m + 35 : Nat) : Int)), (0, 5, 2, ((m + 43 : Nat) : Int))]) a3 rfl) am_sh1S (by omega) (by omega) (fun m4 sl4 sh4 I4 R4 a4 e4 f4 g4 => ⟨_, rfl, ?_⟩))
  have e4 : m4 = m + 45 := e4
  subst e4
  have hp4 : sh4 p = (11, 18) := by simp (disch := omega) only [f4, am_sh1O, am_sh1S, hp3, hx3, hs3, hr3, hc3]
  have hx4 : sh4 (m + 43) = (5, 2) := by simp (disch := omega) only [f4, am_sh1O, am_sh1S]
  have hs4 : sh4 2 = (32, 36) := by simp (disch := omega) only [f4, am_sh1O, am_sh1S, hp3, hx3, hs3, hr3, hc3]
  have hr4 : R4 p 1 = m + 16 := by simp (disch := omega) only [g4, am_upO, am_upS, am_stS, am_stO, am_zeO, hp3, hx3, hs3, hr3, hc3]
  have hc4 : sh4 (m + 16) = (36, 2) := by simp (disch := omega) only [f4, am_sh1O, am_sh1S, Int.reduceToNat, hp3, hx3, hs3, hr3, hc3]
  clear f4 g4 a3 hp3 hx3 hs3 hr3 hc3
  refine am_wp_go rfl (by simp (disch := omega) only [hp4, hx4, hs4, hr4, hc4, am_sh1O, am_sh1S, am_upO, am_upS, am_stS, am_stO, am_zeO, am_kd, am_tnn, Int.reduceToNat, Int.reduceEq, Nat.reduceEqDiff, eq_self, List.length_cons, List.length_nil, and_self, and_true, true_and, and_false, false_and, or_true, true_or, or_false, false_or, ne_eq, not_false_eq_true] <;> omega) ?_
  try simp (disch := omega) only [hp4, hx4, hs4, hr4, hc4, am_sh1O, am_upS, am_upO, am_stS, am_stO, am_zeO, am_tnn]
  refine am_wp_cc rfl rfl rfl (show 4 ≤ _ by omega) (n_Sentence (p := m + 45) (at_l (e := [(2, p, 4, ((m + 43 : Nat) : Int)), (0, 6, 6, ((m + 45 : Nat) : Int))]) a4 rfl) am_sh1S (by omega) (by omega) (fun m5 sl5 sh5 I5 R5 a5 e5 f5 g5 => ⟨_, rfl, ?_⟩))
  have e5 : m5 = m + 50 := e5
  subst e5
  have hp5 : sh5 p = (11, 18) := by simp (disch := omega) only [f5, am_sh1O, am_sh1S, hp4, hx4, hs4, hr4, hc4]
  have hx5 : sh5 (m + 45) = (6, 6) := by simp (disch := omega) only [f5, am_sh1O, am_sh1S]
  have hs5 : sh5 2 = (32, 36) := by simp (disch := omega) only [f5, am_sh1O, am_sh1S, hp4, hx4, hs4, hr4, hc4]
  have hr5 : R5 p 1 = m + 16 := by simp (disch := omega) only [g5, am_upO, am_upS, am_stS, am_stO, am_zeO, hp4, hx4, hs4, hr4, hc4]
  have hc5 : sh5 (m + 16) = (36, 2) := by simp (disch := omega) only [f5, am_sh1O, am_sh1S, Int.reduceToNat, hp4, hx4, hs4, hr4, hc4]
  clear f5 g5 a4 hp4 hx4 hs4 hr4 hc4
  refine am_wp_go rfl (by simp (disch := omega) only [hp5, hx5, hs5, hr5, hc5, am_sh1O, am_sh1S, am_upO, am_upS, am_stS, am_stO, am_zeO, am_kd, am_tnn, Int.reduceToNat, Int.reduceEq, Nat.reduceEqDiff, eq_self, List.length_cons, List.length_nil, and_self, and_true, true_and, and_false, false_and, or_true, true_or, or_false, false_or, ne_eq, not_false_eq_true] <;> omega) ?_
  try simp (disch := omega) only [hp5, hx5, hs5, hr5, hc5, am_sh1O, am_upS, am_upO, am_stS, am_stO, am_zeO, am_tnn]
  refine am_wp_cc rfl rfl rfl (show 4 ≤ _ by omega) (n_Tape (p := m + 50) (at_l (e := [(2, p, 5, ((m + 45 : Nat) : Int)), (0, 10, 13, ((m + 50 : Nat) : Int))]) a5 rfl) am_sh1S (by omega) (by omega) (fun m6 sl6 sh6 I6 R6 a6 e6 f6 g6 => ⟨_, rfl, ?_⟩))
  have e6 : m6 = m + 56 := e6
  subst e6
  have hp6 : sh6 p = (11, 18) := by simp (disch := omega) only [f6, am_sh1O, am_sh1S, hp5, hx5, hs5, hr5, hc5]
  have hx6 : sh6 (m + 50) = (10, 13) := by simp (disch := omega) only [f6, am_sh1O, am_sh1S]
  have hs6 : sh6 2 = (32, 36) := by simp (disch := omega) only [f6, am_sh1O, am_sh1S, hp5, hx5, hs5, hr5, hc5]
  have hr6 : R6 p 1 = m + 16 := by simp (disch := omega) only [g6, am_upO, am_upS, am_stS, am_stO, am_zeO, hp5, hx5, hs5, hr5, hc5]
  have hc6 : sh6 (m + 16) = (36, 2) := by simp (disch := omega) only [f6, am_sh1O, am_sh1S, Int.reduceToNat, hp5, hx5, hs5, hr5, hc5]
  clear f6 g6 a5 hp5 hx5 hs5 hr5 hc5
  refine am_wp_go rfl (by simp (disch := omega) only [hp6, hx6, hs6, hr6, hc6, am_sh1O, am_sh1S, am_upO, am_upS, am_stS, am_stO, am_zeO, am_kd, am_tnn, Int.reduceToNat, Int.reduceEq, Nat.reduceEqDiff, eq_self, List.length_cons, List.length_nil, and_self, and_true, true_and, and_false, false_and, or_true, true_or, or_false, false_or, ne_eq, not_false_eq_true] <;> omega) ?_
  try simp (disch := omega) only [hp6, hx6, hs6, hr6, hc6, am_sh1O, am_upS, am_upO, am_stS, am_stO, am_zeO, am_tnn]
  refine am_wp_cc rfl rfl rfl (show 4 ≤ _ by omega) (n_Board (p := m + 56) (at_l (e := [(2, p, 6, ((m + 50 : Nat) : Int)), (0, 0, 2, ((m + 56 : Nat) : Int))]) a6 rfl) am_sh1S (by omega) (by omega) (fun m7 sl7 sh7 I7 R7 a7 e7 f7 g7 => ⟨_, rfl, ?_⟩))
  have e7 : m7 = m + 59 := e7
  subst e7
  have hp7 : sh7 p = (11, 18) := by simp (disch := omega) only [f7, am_sh1O, am_sh1S, hp6, hx6, hs6, hr6, hc6]
  have hx7 : sh7 (m + 56) = (0, 2) := by simp (disch := omega) only [f7, am_sh1O, am_sh1S]
  have hs7 : sh7 2 = (32, 36) := by simp (disch := omega) only [f7, am_sh1O, am_sh1S, hp6, hx6, hs6, hr6, hc6]
  have hr7 : R7 p 1 = m + 16 := by simp (disch := omega) only [g7, am_upO, am_upS, am_stS, am_stO, am_zeO, hp6, hx6, hs6, hr6, hc6]
  have hc7 : sh7 (m + 16) = (36, 2) := by simp (disch := omega) only [f7, am_sh1O, am_sh1S, Int.reduceToNat, hp6, hx6, hs6, hr6, hc6]
  clear f7 g7 a6 hp6 hx6 hs6 hr6 hc6
  refine am_wp_go rfl (by simp (disch := omega) only [hp7, hx7, hs7, hr7, hc7, am_sh1O, am_sh1S, am_upO, am_upS, am_stS, am_stO, am_zeO, am_kd, am_tnn, Int.reduceToNat, Int.reduceEq, Nat.reduceEqDiff, eq_self, List.length_cons, List.length_nil, and_self, and_true, true_and, and_false, false_and, or_true, true_or, or_false, false_or, ne_eq, not_false_eq_true] <;> omega) ?_
  try simp (disch := omega) only [hp7, hx7, hs7, hr7, hc7, am_sh1O, am_upS, am_upO, am_stS, am_stO, am_zeO, am_tnn]
  refine am_wp_cc rfl rfl rfl (show 4 ≤ _ by omega) (n_Shortest (p := m + 59) (at_l (e := [(2, p, 7, ((m + 56 : Nat) : Int)), (0, 8, 13, ((m + 59 : Nat) : Int))]) a7 rfl) am_sh1S (by omega) (by omega) (fun m8 sl8 sh8 I8 R8 a8 e8 f8 g8 => ⟨_, rfl, ?_⟩))
  have e8 : m8 = m + 68 := e8
  subst e8
  have hp8 : sh8 p = (11, 18) := by simp (disch := omega) only [f8, am_sh1O, am_sh1S, hp7, hx7, hs7, hr7, hc7]
  have hx8 : sh8 (m + 59) = (8, 13) := by simp (disch := omega) only [f8, am_sh1O, am_sh1S]
  have hs8 : sh8 2 = (32, 36) := by simp (disch := omega) only [f8, am_sh1O, am_sh1S, hp7, hx7, hs7, hr7, hc7]
  have hr8 : R8 p 1 = m + 16 := by simp (disch := omega) only [g8, am_upO, am_upS, am_stS, am_stO, am_zeO, hp7, hx7, hs7, hr7, hc7]
  have hc8 : sh8 (m + 16) = (36, 2) := by simp (disch := omega) only [f8, am_sh1O, am_sh1S, Int.reduceToNat, hp7, hx7, hs7, hr7, hc7]
  clear f8 g8 a7 hp7 hx7 hs7 hr7 hc7
  refine am_wp_go rfl (by simp (disch := omega) only [hp8, hx8, hs8, hr8, hc8, am_sh1O, am_sh1S, am_upO, am_upS, am_stS, am_stO, am_zeO, am_kd, am_tnn, Int.reduceToNat, Int.reduceEq, Nat.reduceEqDiff, eq_self, List.length_cons, List.length_nil, and_self, and_true, true_and, and_false, false_and, or_true, true_or, or_false, false_or, ne_eq, not_false_eq_true] <;> omega) ?_
  try simp (disch := omega) only [hp8, hx8, hs8, hr8, hc8, am_sh1O, am_upS, am_upO, am_stS, am_stO, am_zeO, am_tnn]
  refine am_wp_cc rfl rfl rfl (show 4 ≤ _ by omega) (n_Makers (p := m + 68) (at_l (e := [(2, p, 8, ((m + 59 : Nat) : Int)), (0, 4, 8, ((m + 68 : Nat) : Int))]) a8 rfl) am_sh1S (by omega) (by omega) (fun m9 sl9 sh9 I9 R9 a9 e9 f9 g9 => ⟨_, rfl, ?_⟩))
  have e9 : m9 = m + 75 := e9
  subst e9
  have hp9 : sh9 p = (11, 18) := by simp (disch := omega) only [f9, am_sh1O, am_sh1S, hp8, hx8, hs8, hr8, hc8]
  have hx9 : sh9 (m + 68) = (4, 8) := by simp (disch := omega) only [f9, am_sh1O, am_sh1S]
  have hs9 : sh9 2 = (32, 36) := by simp (disch := omega) only [f9, am_sh1O, am_sh1S, hp8, hx8, hs8, hr8, hc8]
  have hr9 : R9 p 1 = m + 16 := by simp (disch := omega) only [g9, am_upO, am_upS, am_stS, am_stO, am_zeO, hp8, hx8, hs8, hr8, hc8]
  have hc9 : sh9 (m + 16) = (36, 2) := by simp (disch := omega) only [f9, am_sh1O, am_sh1S, Int.reduceToNat, hp8, hx8, hs8, hr8, hc8]
  clear f9 g9 a8 hp8 hx8 hs8 hr8 hc8
  refine am_wp_go rfl (by simp (disch := omega) only [hp9, hx9, hs9, hr9, hc9, am_sh1O, am_sh1S, am_upO, am_upS, am_stS, am_stO, am_zeO, am_kd, am_tnn, Int.reduceToNat, Int.reduceEq, Nat.reduceEqDiff, eq_self, List.length_cons, List.length_nil, and_self, and_true, true_and, and_false, false_and, or_true, true_or, or_false, false_or, ne_eq, not_false_eq_true] <;> omega) ?_
  try simp (disch := omega) only [hp9, hx9, hs9, hr9, hc9, am_sh1O, am_upS, am_upO, am_stS, am_stO, am_zeO, am_tnn]
  refine am_wp_cc rfl rfl rfl (show 4 ≤ _ by omega) (n_Servings (p := m + 75) (at_l (e := [(2, p, 9, ((m + 68 : Nat) : Int)), (0, 7, 7, ((m + 75 : Nat) : Int))]) a9 rfl) am_sh1S (by omega) (by omega) (fun m10 sl10 sh10 I10 R10 a10 e10 f10 g10 => ⟨_, rfl, ?_⟩))
  have e10 : m10 = m + 81 := e10
  subst e10
  have hp10 : sh10 p = (11, 18) := by simp (disch := omega) only [f10, am_sh1O, am_sh1S, hp9, hx9, hs9, hr9, hc9]
  have hx10 : sh10 (m + 75) = (7, 7) := by simp (disch := omega) only [f10, am_sh1O, am_sh1S]
  have hs10 : sh10 2 = (32, 36) := by simp (disch := omega) only [f10, am_sh1O, am_sh1S, hp9, hx9, hs9, hr9, hc9]
  have hr10 : R10 p 1 = m + 16 := by simp (disch := omega) only [g10, am_upO, am_upS, am_stS, am_stO, am_zeO, hp9, hx9, hs9, hr9, hc9]
  have hc10 : sh10 (m + 16) = (36, 2) := by simp (disch := omega) only [f10, am_sh1O, am_sh1S, Int.reduceToNat, hp9, hx9, hs9, hr9, hc9]
  clear f10 g10 a9 hp9 hx9 hs9 hr9 hc9
  refine am_wp_go rfl (by simp (disch := omega) only [hp10, hx10, hs10, hr10, hc10, am_sh1O, am_sh1S, am_upO, am_upS, am_stS, am_stO, am_zeO, am_kd, am_tnn, Int.reduceToNat, Int.reduceEq, Nat.reduceEqDiff, eq_self, List.length_cons, List.length_nil, and_self, and_true, true_and, and_false, false_and, or_true, true_or, or_false, false_or, ne_eq, not_false_eq_true] <;> omega) ?_
  try simp (disch := omega) only [hp10, hx10, hs10, hr10, hc10, am_sh1O, am_upS, am_upO, am_stS, am_stO, am_zeO, am_tnn]
  refine am_wp_cc rfl rfl rfl (show 4 ≤ _ by omega) (n_Hotel (p := m + 81) (at_l (e := [(2, p, 10, ((m + 75 : Nat) : Int)), (0, 2, 3, ((m + 81 : Nat) : Int))]) a10 rfl) am_sh1S (by omega) (by omega) (fun m11 sl11 sh11 I11 R11 a11 e11 f11 g11 => ⟨_, rfl, ?_⟩))
  have e11 : m11 = m + 84 := e11
  subst e11
  have hp11 : sh11 p = (11, 18) := by simp (disch := omega) only [f11, am_sh1O, am_sh1S, hp10, hx10, hs10, hr10, hc10]
  have hx11 : sh11 (m + 81) = (2, 3) := by simp (disch := omega) only [f11, am_sh1O, am_sh1S]
  have hs11 : sh11 2 = (32, 36) := by simp (disch := omega) only [f11, am_sh1O, am_sh1S, hp10, hx10, hs10, hr10, hc10]
  have hr11 : R11 p 1 = m + 16 := by simp (disch := omega) only [g11, am_upO, am_upS, am_stS, am_stO, am_zeO, hp10, hx10, hs10, hr10, hc10]
  have hc11 : sh11 (m + 16) = (36, 2) := by simp (disch := omega) only [f11, am_sh1O, am_sh1S, Int.reduceToNat, hp10, hx10, hs10, hr10, hc10]
  clear f11 g11 a10 hp10 hx10 hs10 hr10 hc10
  refine am_wp_go rfl (by simp (disch := omega) only [hp11, hx11, hs11, hr11, hc11, am_sh1O, am_sh1S, am_upO, am_upS, am_stS, am_stO, am_zeO, am_kd, am_tnn, Int.reduceToNat, Int.reduceEq, Nat.reduceEqDiff, eq_self, List.length_cons, List.length_nil, and_self, and_true, true_and, and_false, false_and, or_true, true_or, or_false, false_or, ne_eq, not_false_eq_true] <;> omega) ?_
  skip
  refine am_wp_go rfl trivial ?_
  refine am_wp_pc (pc' := 184) (by decide) ?_
  refine am_wp_go rfl (by simp (disch := omega) only [hp11, hx11, hs11, hr11, hc11, am_sh1O, am_sh1S, am_upO, am_upS, am_stS, am_stO, am_zeO, am_kd, am_tnn, Int.reduceToNat, Int.reduceEq, Nat.reduceEqDiff, eq_self, List.length_cons, List.length_nil, and_self, and_true, true_and, and_false, false_and, or_true, true_or, or_false, false_or, ne_eq, not_false_eq_true] <;> omega) ?_
  try simp (disch := omega) only [hp11, hx11, hs11, hr11, hc11, am_sh1O, am_upS, am_upO, am_stS, am_stO, am_zeO, am_tnn]
  refine am_wp_cc rfl rfl rfl (show 4 ≤ _ by omega) (n_State (p := m + 87) (at_l (e := [(2, p, 11, ((m + 81 : Nat) : Int)), (0, 33, 7200, ((m + 84 : Nat) : Int)), (2, p, 12, ((m + 84 : Nat) : Int)), (0, 35, 36, ((m + 85 : Nat) : Int)), (2, p, 13, ((m + 85 : Nat) : Int)), (0, 35, 36, ((m + 86 : Nat) : Int)), (2, p, 14, ((m + 86 : Nat) : Int)), (1, p, 15, 0), (1, p, 16, 0), (1, p, 17, (-1)), (0, 9, 4, ((m + 87 : Nat) : Int))]) a11 rfl) am_sh1S (by omega) (by omega) (fun m12 sl12 sh12 I12 R12 a12 e12 f12 g12 => ⟨_, rfl, ?_⟩))
  have e12 : m12 = m + 103 := e12
  subst e12
  have hp12 : sh12 p = (11, 18) := by simp (disch := omega) only [f12, am_sh1O, am_sh1S, hp11, hx11, hs11, hr11, hc11]
  have hx12 : sh12 (m + 87) = (9, 4) := by simp (disch := omega) only [f12, am_sh1O, am_sh1S]
  have hs12 : sh12 2 = (32, 36) := by simp (disch := omega) only [f12, am_sh1O, am_sh1S, hp11, hx11, hs11, hr11, hc11]
  have hr12 : R12 p 1 = m + 16 := by simp (disch := omega) only [g12, am_upO, am_upS, am_stS, am_stO, am_zeO, hp11, hx11, hs11, hr11, hc11]
  have hc12 : sh12 (m + 16) = (36, 2) := by simp (disch := omega) only [f12, am_sh1O, am_sh1S, Int.reduceToNat, hp11, hx11, hs11, hr11, hc11]
  clear f12 g12 a11 hp11 hx11 hs11 hr11 hc11
  refine am_wp_go rfl (by simp (disch := omega) only [hp12, hx12, hs12, hr12, hc12, am_sh1O, am_sh1S, am_upO, am_upS, am_stS, am_stO, am_zeO, am_kd, am_tnn, Int.reduceToNat, Int.reduceEq, Nat.reduceEqDiff, eq_self, List.length_cons, List.length_nil, and_self, and_true, true_and, and_false, false_and, or_true, true_or, or_false, false_or, ne_eq, not_false_eq_true] <;> omega) ?_
  simp (disch := omega) only [am_st1, am_no2, am_addE, Int.reduceAdd]
  refine am_wp_go rfl trivial ?_
  refine am_wp_pc (pc' := 184) (by decide) ?_
  refine am_wp_go rfl (by simp (disch := omega) only [hp12, hx12, hs12, hr12, hc12, am_sh1O, am_sh1S, am_upO, am_upS, am_stS, am_stO, am_zeO, am_kd, am_tnn, Int.reduceToNat, Int.reduceEq, Nat.reduceEqDiff, eq_self, List.length_cons, List.length_nil, and_self, and_true, true_and, and_false, false_and, or_true, true_or, or_false, false_or, ne_eq, not_false_eq_true] <;> omega) ?_
  try simp (disch := omega) only [hp12, hx12, hs12, hr12, hc12, am_sh1O, am_upS, am_upO, am_stS, am_stO, am_zeO, am_tnn]
  refine am_wp_cc rfl rfl rfl (show 4 ≤ _ by omega) (n_State (p := m + 103) (at_l (e := [(2, m + 16, 0, ((m + 87 : Nat) : Int)), (0, 9, 4, ((m + 103 : Nat) : Int))]) a12 rfl) am_sh1S (by omega) (by omega) (fun m13 sl13 sh13 I13 R13 a13 e13 f13 g13 => ⟨_, rfl, ?_⟩))
  have e13 : m13 = m + 119 := e13
  subst e13
  have hp13 : sh13 p = (11, 18) := by simp (disch := omega) only [f13, am_sh1O, am_sh1S, hp12, hx12, hs12, hr12, hc12]
  have hx13 : sh13 (m + 103) = (9, 4) := by simp (disch := omega) only [f13, am_sh1O, am_sh1S]
  have hs13 : sh13 2 = (32, 36) := by simp (disch := omega) only [f13, am_sh1O, am_sh1S, hp12, hx12, hs12, hr12, hc12]
  have hr13 : R13 p 1 = m + 16 := by simp (disch := omega) only [g13, am_upO, am_upS, am_stS, am_stO, am_zeO, hp12, hx12, hs12, hr12, hc12]
  have hc13 : sh13 (m + 16) = (36, 2) := by simp (disch := omega) only [f13, am_sh1O, am_sh1S, Int.reduceToNat, hp12, hx12, hs12, hr12, hc12]
  clear f13 g13 a12 hp12 hx12 hs12 hr12 hc12
  refine am_wp_go rfl (by simp (disch := omega) only [hp13, hx13, hs13, hr13, hc13, am_sh1O, am_sh1S, am_upO, am_upS, am_stS, am_stO, am_zeO, am_kd, am_tnn, Int.reduceToNat, Int.reduceEq, Nat.reduceEqDiff, eq_self, List.length_cons, List.length_nil, and_self, and_true, true_and, and_false, false_and, or_true, true_or, or_false, false_or, ne_eq, not_false_eq_true] <;> omega) ?_
  simp (disch := omega) only [am_st1, am_no2, am_addE, Int.reduceAdd]
  refine am_wp_go rfl trivial ?_
  refine am_wp_pc (pc' := 203) (by decide) ?_
  refine am_wp_go rfl (by simp (disch := omega) only [hp13, hx13, hs13, hr13, hc13, am_sh1O, am_sh1S, am_upO, am_upS, am_stS, am_stO, am_zeO, am_kd, am_tnn, Int.reduceToNat, Int.reduceEq, Nat.reduceEqDiff, eq_self, List.length_cons, List.length_nil, and_self, and_true, true_and, and_false, false_and, or_true, true_or, or_false, false_or, ne_eq, not_false_eq_true] <;> omega) ?_
  refine am_wp_ret rfl rfl ?_
  exact h _ _ _ _ _ (by unfold lgPan; simp only [← List.append_assoc]; exact at_l (e := [(2, m + 16, 1, ((m + 103 : Nat) : Int))]) a13 rfl) (show _ = m + 119 from rfl)
end NEW
