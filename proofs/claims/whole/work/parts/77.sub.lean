/-! SETS AS BITS: complements, subsets one by one, how many -/
def dn (g s : Nat) : Nat := g ^^^ (g &&& s)
theorem dn_tb {g s i : Nat} : (dn g s).testBit i = (g.testBit i && !s.testBit i) := by
  unfold dn
  rw [Nat.testBit_xor, Nat.testBit_and]
  cases g.testBit i <;> cases s.testBit i <;> rfl
theorem sub_tb {u t : Nat} : u &&& t = u ↔ ∀ i, u.testBit i = true → t.testBit i = true := by
  constructor
  · intro h i hi
    rw [← h, Nat.testBit_and, Bool.and_eq_true] at hi
    exact hi.2
  · intro h
    refine Nat.eq_of_testBit_eq (fun i => ?_)
    rw [Nat.testBit_and]
    cases hu : u.testBit i with
    | false => rfl
    | true => rw [h i hu]; rfl
theorem or_add : ∀ (n a b : Nat), a < 2 ^ n → a &&& b = 0 → a ||| b = a + b
  | 0, a, b, h, _ => by
    have : a = 0 := by simpa using h
    subst this
    rw [Nat.zero_or, Nat.zero_add]
  | n + 1, a, b, h, hz => by
    rw [Nat.pow_succ] at h
    have d1 : (a &&& b) / 2 ^ 1 = a / 2 ^ 1 &&& b / 2 ^ 1 := Nat.and_div_two_pow
    have m1 : (a &&& b) % 2 ^ 1 = a % 2 ^ 1 &&& b % 2 ^ 1 := Nat.and_mod_two_pow
    have d2 : (a ||| b) / 2 ^ 1 = a / 2 ^ 1 ||| b / 2 ^ 1 := Nat.or_div_two_pow
    have m2 : (a ||| b) % 2 ^ 1 = a % 2 ^ 1 ||| b % 2 ^ 1 := Nat.or_mod_two_pow
    rw [hz] at d1 m1
    simp only [Nat.pow_one] at d1 m1 d2 m2
    have ih := or_add n (a / 2) (b / 2) (by omega) (by rw [← d1])
    rw [ih] at d2
    rcases (show a % 2 = 0 ∨ a % 2 = 1 by omega) with ha | ha <;> rcases (show b % 2 = 0 ∨ b % 2 = 1 by omega) with hb | hb <;> rw [ha, hb] at m1 m2
    · have t : (a ||| b) % 2 = 0 := m2
      omega
    · have t : (a ||| b) % 2 = 1 := m2
      omega
    · have t : (a ||| b) % 2 = 1 := m2
      omega
    · exact absurd m1 (by decide)
/-- (c - 1) & R is the subset of R that comes next below c -/
theorem sub_next : ∀ (n R c U : Nat), R < 2 ^ n → c &&& R = c → U &&& R = U → 0 < c → (U < c ↔ U ≤ ((c - 1) &&& R))
  | 0, R, c, U, hR, hc, _, h0 => by
    have : R = 0 := by simpa using hR
    subst this
    rw [Nat.and_zero] at hc
    omega
  | n + 1, R, c, U, hR, hc, hU, h0 => by
    rw [Nat.pow_succ] at hR
    have dv : ∀ x y : Nat, (x &&& y) / 2 = x / 2 &&& y / 2 := fun x y => by have := @Nat.and_div_two_pow x y 1; simpa using this
    have md : ∀ x y : Nat, (x &&& y) % 2 = x % 2 &&& y % 2 := fun x y => by have := @Nat.and_mod_two_pow x y 1; simpa using this
    have c1 : c / 2 &&& R / 2 = c / 2 := by rw [← dv, hc]
    have u1 : U / 2 &&& R / 2 = U / 2 := by rw [← dv, hU]
    have cm : c % 2 &&& R % 2 = c % 2 := by rw [← md, hc]
    have um : U % 2 &&& R % 2 = U % 2 := by rw [← md, hU]
    have e1 := dv (c - 1) R
    have e2 := md (c - 1) R
    have ul : U % 2 ≤ R % 2 := by rw [← um]; exact Nat.and_le_right
    rcases (show c % 2 = 0 ∨ c % 2 = 1 by omega) with hm | hm
    · rw [show (c - 1) / 2 = c / 2 - 1 by omega] at e1
      rw [show (c - 1) % 2 = 1 by omega] at e2
      have e3 : 1 &&& R % 2 = R % 2 := by rcases (show R % 2 = 0 ∨ R % 2 = 1 by omega) with h | h <;> rw [h] <;> rfl
      rw [e3] at e2
      have ih := sub_next n (R / 2) (c / 2) (U / 2) (by omega) c1 u1 (by omega)
      constructor
      · intro h
        have := ih.mp (by omega)
        omega
      · intro h
        have : U / 2 < c / 2 := ih.mpr (by omega)
        omega
    · rw [show (c - 1) / 2 = c / 2 by omega, c1] at e1
      rw [show (c - 1) % 2 = 0 by omega, Nat.zero_and] at e2
      omega
theorem sub_sub {c R : Nat} : ((c - 1) &&& R) &&& R = (c - 1) &&& R := by rw [Nat.and_assoc, Nat.and_self]
theorem am_dnN {g s : Nat} (h : g ≤ 2147483647 ∧ s ≤ 2147483647) : am_and (g : Int) (am_xor (s : Int) (-1)) = ((dn g s : Nat) : Int) := by
  obtain ⟨hg, hs⟩ := h
  have hb : dn g s < 2147483648 := by
    have : dn g s ≤ g := by
      refine Nat.le_of_testBit (fun i hi => ?_)
      rw [dn_tb, Bool.and_eq_true] at hi
      exact hi.1
    omega
  unfold am_and am_xor
  rw [Int32.ofInt_toInt]
  have key : (Int32.ofInt (g : Int) &&& (Int32.ofInt (s : Int) ^^^ Int32.ofInt (-1))).toBitVec.toNat = dn g s := by
    refine Nat.eq_of_testBit_eq (fun i => ?_)
    rw [dn_tb, Int32.toBitVec_and, Int32.toBitVec_xor, BitVec.toNat_and, BitVec.toNat_xor, Nat.testBit_and, Nat.testBit_xor, am_ofN, am_ofN, Nat.mod_eq_of_lt (by omega), Nat.mod_eq_of_lt (by omega)]
    have e : (Int32.ofInt (-1)).toBitVec.toNat = 2 ^ 32 - 1 := by decide
    rw [e, Nat.testBit_two_pow_sub_one]
    by_cases hi : i < 32
    · rw [decide_eq_true hi]
      cases s.testBit i <;> rfl
    · have : g.testBit i = false := Nat.testBit_lt_two_pow (Nat.lt_of_lt_of_le (show g < 2 ^ 31 by omega) (Nat.pow_le_pow_right (by decide) (by omega)))
      rw [this]; rfl
  rw [am_bvi (by rw [key]; omega), key]
theorem am_shrN {s k : Nat} (h : s ≤ 2147483647 ∧ k < 32) : am_shr (s : Int) (k : Int) = ((s / 2 ^ k : Nat) : Int) := by
  obtain ⟨hs, hk⟩ := h
  unfold am_shr
  rw [am_ofn, am_ofn]
  have h31 : (nI k &&& 31) = nI k := by
    have h2 : nI k &&& nI 31 = nI (k % 2 ^ 5) := pk_andN (n := k) (by omega) 5 rfl
    rw [show (31 : Int32) = nI 31 from rfl, h2, Nat.mod_eq_of_lt (by omega)]
  have hb : (nI k).toBitVec.toNat = k := by rw [← am_ofn, am_ofN, Nat.mod_eq_of_lt (by omega)]
  have ha : (nI s).toBitVec.toNat = s := by rw [← am_ofn, am_ofN, Nat.mod_eq_of_lt (by omega)]
  rw [h31]
  have h4 : (nI s >>> nI k).toBitVec.toNat = s / 2 ^ k := by
    rw [Int32.toBitVec_shiftRight]
    have hm : (nI s).toBitVec.msb = false := by
      rw [BitVec.msb_eq_decide, ha]
      simp; omega
    have hsm : ((nI k).toBitVec.smod 32).toNat = k := by
      have hm2 : (nI k).toBitVec.msb = false := by
        rw [BitVec.msb_eq_decide, hb]
        simp; omega
      rw [BitVec.smod_eq, hm2]
      simp [hb, BitVec.msb_eq_decide]
      omega
    rw [BitVec.sshiftRight_eq', BitVec.sshiftRight_eq_of_msb_false hm, hsm]
    rw [BitVec.toNat_ushiftRight, ha, Nat.shiftRight_eq_div_pow]
  rw [am_bvi (by rw [h4]; exact Nat.lt_of_le_of_lt (Nat.div_le_self _ _) (by omega)), h4]
/-- how many bits -/
def pop : Nat → Nat → Nat
  | 0, _ => 0
  | n + 1, u => pc (u % 4) + pop n (u / 4)
theorem pop_s {n u : Nat} : pop (n + 1) u = pc (u % 4) + pop n (u / 4) := rfl
theorem pop_and : ∀ x : Fin 1024, x.val ≠ 0 → pop 5 (x.val &&& (x.val - 1)) + 1 = pop 5 x.val := by decide +kernel
theorem pop_le : ∀ x : Fin 1024, pop 5 x.val ≤ 10 := by decide +kernel
theorem okk_pop : ∀ (n u p : Nat), okk n u p = true ↔ (∀ s, s < n → u / 4 ^ s % 4 ≠ 3) ∧ pop n u ≤ p
  | 0, u, p => ⟨fun _ => ⟨fun s hs => absurd hs (Nat.not_lt_zero s), Nat.zero_le p⟩, fun _ => rfl⟩
  | n + 1, u, p => by
    rw [okk_s, Bool.and_eq_true, Bool.and_eq_true, Bool.not_eq_true', decide_eq_false_iff_not, decide_eq_true_iff, okk_pop n (u / 4) (p - pc (u % 4)), pop_s]
    have sh : ∀ s, u / 4 ^ (s + 1) % 4 = u / 4 / 4 ^ s % 4 := fun s => by rw [Nat.pow_succ, Nat.mul_comm, Nat.div_div_eq_div_mul]
    constructor
    · rintro ⟨h1, h2, h3, h4⟩
      refine ⟨fun s hs => ?_, by omega⟩
      cases s with
      | zero => rw [Nat.pow_zero, Nat.div_one]; exact h1
      | succ s => rw [sh]; exact h3 s (by omega)
    · rintro ⟨h1, h2⟩
      have h0 := h1 0 (by omega)
      rw [Nat.pow_zero, Nat.div_one] at h0
      exact ⟨h0, by omega, fun s hs => by rw [← sh]; exact h1 (s + 1) (by omega), by omega⟩
section SUB
variable {m sl : Nat} {sh : Nat → Nat × Nat} {I : Nat → Nat → Int} {R : Nat → Nat → Nat} {Q : am_R → am_M → Prop} {d : Nat}
theorem w_M_bits {s : Nat} (hs : s < 1024) (h : Q (am_yi (pop 5 s)) (m, sl, sh, I, R)) : am_wp (d) 198 0 [some (.inl ((s : Int))), none, none] [] (m, sl, sh, I, R) Q := by
  refine am_wp_go rfl (by simp (disch := omega) only [am_addE, am_subE, am_mulE, am_laddE, am_lsubE, am_upO, am_upS, am_stS, am_stO, am_tnn, am_brl, am_brg, am_bre, am_brn, am_brG, am_brL, am_st1, am_no2, am_st2, am_clr, and_self, true_and, and_true, true_or, or_true, List.length_cons, List.length_nil] <;> omega) ?_
  try simp (disch := omega) only [am_addE, am_subE, am_mulE, am_laddE, am_lsubE, am_upO, am_upS, am_stS, am_stO, am_tnn, am_brl, am_brg, am_bre, am_brn, am_brG, am_brL, am_st1, am_no2, am_st2, am_clr]
  have L : ∀ x : Nat, x < 1024 → ∀ n : Nat, n + pop 5 x = pop 5 s → am_wp (d) 198 4 [some (.inl ((s : Int))), some (.inl ((n : Int))), some (.inl ((x : Int)))] [] (m, sl, sh, I, R) Q := by
    refine am_lm (α := Nat) (P := fun x => x < 1024 → ∀ n : Nat, n + pop 5 x = pop 5 s → am_wp (d) 198 4 [some (.inl ((s : Int))), some (.inl ((n : Int))), some (.inl ((x : Int)))] [] (m, sl, sh, I, R) Q) id (fun x ih hx n hn => ?_)
    have pl := pop_le ⟨s, hs⟩
    dsimp only at pl
    refine am_wp_go rfl (by simp (disch := omega) only [am_addE, am_subE, am_mulE, am_laddE, am_lsubE, am_upO, am_upS, am_stS, am_stO, am_tnn, am_brl, am_brg, am_bre, am_brn, am_brG, am_brL, am_st1, am_no2, am_st2, am_clr, and_self, true_and, and_true, true_or, or_true, List.length_cons, List.length_nil] <;> omega) ?_
    try simp (disch := omega) only [am_addE, am_subE, am_mulE, am_laddE, am_lsubE, am_upO, am_upS, am_stS, am_stO, am_tnn, am_brl, am_brg, am_bre, am_brn, am_brG, am_brL, am_st1, am_no2, am_st2, am_clr]
    refine am_wp_br (fun b5 => ?_) (fun b5 => ?_)
    · have e : x = 0 := by omega
      subst e
      refine am_wp_go rfl (by simp (disch := omega) only [am_addE, am_subE, am_mulE, am_laddE, am_lsubE, am_upO, am_upS, am_stS, am_stO, am_tnn, am_brl, am_brg, am_bre, am_brn, am_brG, am_brL, am_st1, am_no2, am_st2, am_clr, and_self, true_and, and_true, true_or, or_true, List.length_cons, List.length_nil] <;> omega) ?_
      try simp (disch := omega) only [am_addE, am_subE, am_mulE, am_laddE, am_lsubE, am_upO, am_upS, am_stS, am_stO, am_tnn, am_brl, am_brg, am_bre, am_brn, am_brG, am_brL, am_st1, am_no2, am_st2, am_clr]
      refine am_wp_ret rfl rfl ?_
      rw [show pop 5 s = n by rw [← hn]; rfl] at h
      exact h
    · have pa := pop_and ⟨x, hx⟩ (by dsimp only; omega)
      dsimp only at pa
      have e1 : ((x : Int)) - 1 = ((x - 1 : Nat) : Int) := by omega
      have le : x &&& (x - 1) ≤ x - 1 := Nat.and_le_right
      refine am_wp_go rfl (by simp (disch := omega) only [e1, am_andN, am_addE, am_subE, am_mulE, am_laddE, am_lsubE, am_upO, am_upS, am_stS, am_stO, am_tnn, am_brl, am_brg, am_bre, am_brn, am_brG, am_brL, am_st1, am_no2, am_st2, am_clr, and_self, true_and, and_true, true_or, or_true, List.length_cons, List.length_nil] <;> omega) ?_
      try simp (disch := omega) only [e1, am_andN, am_addE, am_subE, am_mulE, am_laddE, am_lsubE, am_upO, am_upS, am_stS, am_stO, am_tnn, am_brl, am_brg, am_bre, am_brn, am_brG, am_brL, am_st1, am_no2, am_st2, am_clr]
      exact am_wp_ls (ih (x &&& (x - 1)) (by show x &&& (x - 1) < x; omega) (by omega) (n + 1) (by omega)) rfl
  exact am_wp_ls (L s hs 0 (by omega)) rfl
theorem w_M_mayBe {u p : Nat} (hu : u < 1024) (hp : p ≤ 10) (h : Q (am_yi (am_b (okk 5 u p = true))) (m, sl, sh, I, R)) : am_wp (d + 1) 302 0 [some (.inl ((u : Int))), some (.inl ((p : Int))), none] [] (m, sl, sh, I, R) Q := by
  have ok := okk_pop 5 u p
  refine am_wp_go rfl (by simp (disch := omega) only [am_addE, am_subE, am_mulE, am_laddE, am_lsubE, am_upO, am_upS, am_stS, am_stO, am_tnn, am_brl, am_brg, am_bre, am_brn, am_brG, am_brL, am_st1, am_no2, am_st2, am_clr, and_self, true_and, and_true, true_or, or_true, List.length_cons, List.length_nil] <;> omega) ?_
  try simp (disch := omega) only [am_addE, am_subE, am_mulE, am_laddE, am_lsubE, am_upO, am_upS, am_stS, am_stO, am_tnn, am_brl, am_brg, am_bre, am_brn, am_brG, am_brL, am_st1, am_no2, am_st2, am_clr]
  have L : ∀ k : Nat, k ≤ 5 → (∀ s : Nat, s < k → u / 4 ^ s % 4 ≠ 3) → am_wp (d + 1) 302 2 [some (.inl ((u : Int))), some (.inl ((p : Int))), some (.inl ((k : Int)))] [] (m, sl, sh, I, R) Q := by
    refine am_lp 5 (fun k hk ih hs => ?_)
    refine am_wp_go rfl (by simp (disch := omega) only [am_addE, am_subE, am_mulE, am_laddE, am_lsubE, am_upO, am_upS, am_stS, am_stO, am_tnn, am_brl, am_brg, am_bre, am_brn, am_brG, am_brL, am_st1, am_no2, am_st2, am_clr, and_self, true_and, and_true, true_or, or_true, List.length_cons, List.length_nil] <;> omega) ?_
    try simp (disch := omega) only [am_addE, am_subE, am_mulE, am_laddE, am_lsubE, am_upO, am_upS, am_stS, am_stO, am_tnn, am_brl, am_brg, am_bre, am_brn, am_brG, am_brL, am_st1, am_no2, am_st2, am_clr]
    refine am_wp_br (fun b4 => ?_) (fun b4 => ?_)
    · have e : k = 5 := by omega
      subst e
      refine am_wp_go rfl (by simp (disch := omega) only [am_addE, am_subE, am_mulE, am_laddE, am_lsubE, am_upO, am_upS, am_stS, am_stO, am_tnn, am_brl, am_brg, am_bre, am_brn, am_brG, am_brL, am_st1, am_no2, am_st2, am_clr, and_self, true_and, and_true, true_or, or_true, List.length_cons, List.length_nil] <;> omega) ?_
      try simp (disch := omega) only [am_addE, am_subE, am_mulE, am_laddE, am_lsubE, am_upO, am_upS, am_stS, am_stO, am_tnn, am_brl, am_brg, am_bre, am_brn, am_brG, am_brL, am_st1, am_no2, am_st2, am_clr]
      refine am_wp_cc rfl rfl rfl (trivial) (w_M_bits (s := u) hu ⟨_, rfl, ?_⟩)
      refine am_wp_go rfl (by simp (disch := omega) only [am_addE, am_subE, am_mulE, am_laddE, am_lsubE, am_upO, am_upS, am_stS, am_stO, am_tnn, am_brl, am_brg, am_bre, am_brn, am_brG, am_brL, am_st1, am_no2, am_st2, am_clr, and_self, true_and, and_true, true_or, or_true, List.length_cons, List.length_nil] <;> omega) ?_
      try simp (disch := omega) only [am_addE, am_subE, am_mulE, am_laddE, am_lsubE, am_upO, am_upS, am_stS, am_stO, am_tnn, am_brl, am_brg, am_bre, am_brn, am_brG, am_brL, am_st1, am_no2, am_st2, am_clr]
      refine am_wp_br (fun b31 => ?_) (fun b31 => ?_)
      · refine am_wp_go rfl (by simp (disch := omega) only [am_addE, am_subE, am_mulE, am_laddE, am_lsubE, am_upO, am_upS, am_stS, am_stO, am_tnn, am_brl, am_brg, am_bre, am_brn, am_brG, am_brL, am_st1, am_no2, am_st2, am_clr, and_self, true_and, and_true, true_or, or_true, List.length_cons, List.length_nil] <;> omega) ?_
        try simp (disch := omega) only [am_addE, am_subE, am_mulE, am_laddE, am_lsubE, am_upO, am_upS, am_stS, am_stO, am_tnn, am_brl, am_brg, am_bre, am_brn, am_brG, am_brL, am_st1, am_no2, am_st2, am_clr]
        refine am_wp_ret rfl rfl ?_
        rwa [am_bF (fun hc => by have := (ok.mp hc).2; omega)] at h
      · refine am_wp_go rfl (by simp (disch := omega) only [am_addE, am_subE, am_mulE, am_laddE, am_lsubE, am_upO, am_upS, am_stS, am_stO, am_tnn, am_brl, am_brg, am_bre, am_brn, am_brG, am_brL, am_st1, am_no2, am_st2, am_clr, and_self, true_and, and_true, true_or, or_true, List.length_cons, List.length_nil] <;> omega) ?_
        try simp (disch := omega) only [am_addE, am_subE, am_mulE, am_laddE, am_lsubE, am_upO, am_upS, am_stS, am_stO, am_tnn, am_brl, am_brg, am_bre, am_brn, am_brG, am_brL, am_st1, am_no2, am_st2, am_clr]
        refine am_wp_ret rfl rfl ?_
        rwa [am_bT (ok.mpr ⟨hs, by omega⟩)] at h
    · have q : (2 : Int) * (k : Int) = ((2 * k : Nat) : Int) := by omega
      have e4 : u / 2 ^ (2 * k) = u / 4 ^ k := by rw [Nat.pow_mul]
      have le := Nat.div_le_self u (4 ^ k)
      have ih := ih (by omega)
      by_cases h3 : u / 4 ^ k % 4 = 3
      · have hno : ¬ okk 5 u p = true := fun hc => (ok.mp hc).1 k (by omega) h3
        rw [am_bF hno] at h
        clear ok hs ih hno
        generalize u / 4 ^ k = x at *
        refine am_wp_go rfl (by simp (disch := omega) only [q, am_shrN, e4, am_and3, am_addE, am_subE, am_mulE, am_laddE, am_lsubE, am_upO, am_upS, am_stS, am_stO, am_tnn, am_brl, am_brg, am_bre, am_brn, am_brG, am_brL, am_st1, am_no2, am_st2, am_clr, and_self, true_and, and_true, true_or, or_true, List.length_cons, List.length_nil] <;> omega) ?_
        try simp (disch := omega) only [q, am_shrN, e4, am_and3, am_addE, am_subE, am_mulE, am_laddE, am_lsubE, am_upO, am_upS, am_stS, am_stO, am_tnn, am_brl, am_brg, am_bre, am_brn, am_brG, am_brL, am_st1, am_no2, am_st2, am_clr]
        refine am_wp_br (fun b15 => ?_) (fun b15 => ?_)
        · omega
        · refine am_wp_go rfl (by simp (disch := omega) only [q, am_shrN, e4, am_and3, am_addE, am_subE, am_mulE, am_laddE, am_lsubE, am_upO, am_upS, am_stS, am_stO, am_tnn, am_brl, am_brg, am_bre, am_brn, am_brG, am_brL, am_st1, am_no2, am_st2, am_clr, and_self, true_and, and_true, true_or, or_true, List.length_cons, List.length_nil] <;> omega) ?_
          try simp (disch := omega) only [q, am_shrN, e4, am_and3, am_addE, am_subE, am_mulE, am_laddE, am_lsubE, am_upO, am_upS, am_stS, am_stO, am_tnn, am_brl, am_brg, am_bre, am_brn, am_brG, am_brL, am_st1, am_no2, am_st2, am_clr]
          refine am_wp_ret rfl rfl ?_
          exact h
      · have ih := ih (fun s hs2 => by by_cases hsk : s = k; (rw [hsk]; exact h3); exact hs s (by omega))
        clear ok hs h
        generalize u / 4 ^ k = x at *
        refine am_wp_go rfl (by simp (disch := omega) only [q, am_shrN, e4, am_and3, am_addE, am_subE, am_mulE, am_laddE, am_lsubE, am_upO, am_upS, am_stS, am_stO, am_tnn, am_brl, am_brg, am_bre, am_brn, am_brG, am_brL, am_st1, am_no2, am_st2, am_clr, and_self, true_and, and_true, true_or, or_true, List.length_cons, List.length_nil] <;> omega) ?_
        try simp (disch := omega) only [q, am_shrN, e4, am_and3, am_addE, am_subE, am_mulE, am_laddE, am_lsubE, am_upO, am_upS, am_stS, am_stO, am_tnn, am_brl, am_brg, am_bre, am_brn, am_brG, am_brL, am_st1, am_no2, am_st2, am_clr]
        refine am_wp_br (fun b15 => ?_) (fun b15 => ?_)
        · refine am_wp_go rfl (by simp (disch := omega) only [q, am_shrN, e4, am_and3, am_addE, am_subE, am_mulE, am_laddE, am_lsubE, am_upO, am_upS, am_stS, am_stO, am_tnn, am_brl, am_brg, am_bre, am_brn, am_brG, am_brL, am_st1, am_no2, am_st2, am_clr, and_self, true_and, and_true, true_or, or_true, List.length_cons, List.length_nil] <;> omega) ?_
          try simp (disch := omega) only [q, am_shrN, e4, am_and3, am_addE, am_subE, am_mulE, am_laddE, am_lsubE, am_upO, am_upS, am_stS, am_stO, am_tnn, am_brl, am_brg, am_bre, am_brn, am_brG, am_brL, am_st1, am_no2, am_st2, am_clr]
          exact am_wp_ls ih rfl
        · omega
  exact am_wp_ls (L 0 (by omega) (fun s hs => absurd hs (Nat.not_lt_zero s))) rfl
theorem w_M_take (hw : wd sh R) (h : Q (am_yi (I 124 2)) (m, sl, sh, am_up I 124 2 0, R)) : am_wp (d) 195 0 [some (.inr (.inr (124))), none] [] (m, sl, sh, I, R) Q := by
  refine am_wp_go rfl (by simp (disch := omega) only [s124 hw, am_addE, am_subE, am_mulE, am_laddE, am_lsubE, am_upO, am_upS, am_stS, am_stO, am_tnn, am_brl, am_brg, am_bre, am_brn, am_brG, am_brL, am_st1, am_no2, am_st2, am_clr, and_self, true_and, and_true, true_or, or_true, List.length_cons, List.length_nil] <;> omega) ?_
  try simp (disch := omega) only [s124 hw, am_addE, am_subE, am_mulE, am_laddE, am_lsubE, am_upO, am_upS, am_stS, am_stO, am_tnn, am_brl, am_brg, am_bre, am_brn, am_brG, am_brL, am_st1, am_no2, am_st2, am_clr]
  refine am_wp_ret rfl rfl ?_
  exact h
end SUB
