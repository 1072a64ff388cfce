/-! BROWN: in how many ways -/
theorem am_j_add (a b : Int) : am_ladd (am_j a) (am_j b) = am_j (a + b) := by
  unfold am_ladd am_j
  rw [Int64.ofInt_add, Int64.ofInt_toInt, Int64.ofInt_toInt, Int64.ofInt_add]
theorem am_j_mul (a b : Int) : am_lmul (am_j a) (am_j b) = am_j (a * b) := by
  unfold am_lmul am_j
  rw [Int64.ofInt_mul, Int64.ofInt_toInt, Int64.ofInt_toInt, Int64.ofInt_mul]
theorem am_j_sm {x : Int} (h : -1000000 ≤ x ∧ x ≤ 1000000) : am_j x = x := am_j_eq ⟨by omega, by omega⟩
/-- two bits a SLICE: both sides, one side; sides; at most so many, no two of one SLICE -/
def cB : Nat → Nat → Nat
  | 0, _ => 0
  | n + 1, t => (if t % 4 = 3 then 1 else 0) + cB n (t / 4)
def cS : Nat → Nat → Nat
  | 0, _ => 0
  | n + 1, t => (if t % 4 = 1 ∨ t % 4 = 2 then 1 else 0) + cS n (t / 4)
def pc (e : Nat) : Nat := if e = 0 then 0 else if e = 3 then 2 else 1
def okk : Nat → Nat → Nat → Bool
  | 0, _, _ => true
  | n + 1, u, p => !decide (u % 4 = 3) && (decide (pc (u % 4) ≤ p) && okk n (u / 4) (p - pc (u % 4)))
theorem cB_s {n t : Nat} : cB (n + 1) t = (if t % 4 = 3 then 1 else 0) + cB n (t / 4) := rfl
theorem cS_s {n t : Nat} : cS (n + 1) t = (if t % 4 = 1 ∨ t % 4 = 2 then 1 else 0) + cS n (t / 4) := rfl
theorem okk_s {n u p : Nat} : okk (n + 1) u p = (!decide (u % 4 = 3) && (decide (pc (u % 4) ≤ p) && okk n (u / 4) (p - pc (u % 4)))) := rfl
theorem cBS_le : ∀ (n t : Nat), cB n t + cS n t ≤ n
  | 0, _ => Nat.le_refl 0
  | n + 1, t => by
    unfold cB cS
    have := cBS_le n (t / 4)
    split <;> split <;> omega
theorem land4 (x y : Nat) : x &&& y = 4 * (x / 4 &&& y / 4) + (x % 4 &&& y % 4) := by
  have h1 := @Nat.and_div_two_pow x y 2
  have h2 := @Nat.and_mod_two_pow x y 2
  simp only [Nat.reducePow] at h1 h2
  rw [← h1, ← h2]
  omega
theorem land4_lt (d t : Nat) (hd : d < 4) : d &&& t ≤ d := Nat.and_le_left
/-- a subset, SLICE by SLICE -/
theorem sub4 {k d T : Nat} (hd : d < 4) : (4 * k + d) &&& T = 4 * k + d ↔ k &&& (T / 4) = k ∧ d &&& (T % 4) = d := by
  rw [land4 (4 * k + d) T, show (4 * k + d) / 4 = k by omega, show (4 * k + d) % 4 = d by omega]
  have h1 : k &&& (T / 4) ≤ k := Nat.and_le_left
  have h2 : d &&& (T % 4) ≤ d := Nat.and_le_left
  omega
def F4 : Type := Nat → Nat → Int
/-- what the sums over subsets come to -/
def Zl (F : Nat → Nat → Int) : Nat → Nat → Nat → Nat → Nat → Int
  | 0, _, _, b, s => F b s
  | n + 1, t, p, b, s => if t % 4 = 0 then Zl F n (t / 4) p b s else if t % 4 = 3 then Zl F n (t / 4) p (b + 1) s + 2 * (if 0 < p then Zl F n (t / 4) (p - 1) b (s + 1) else 0) else Zl F n (t / 4) p b (s + 1) + (if 0 < p then Zl F n (t / 4) (p - 1) b s else 0)
def Zz (F : Nat → Nat → Int) : Nat → Nat → Nat → Nat → Nat → Int
  | 0, 0, _, b, s => F b s
  | 0, S + 1, p, b, s => Zz F 0 S p b (s + 1) + (if 0 < p then Zz F 0 S (p - 1) b s else 0)
  | B + 1, S, p, b, s => Zz F B S p (b + 1) s + 2 * (if 0 < p then Zz F B S (p - 1) b (s + 1) else 0)
theorem Zz_S (F : Nat → Nat → Int) : ∀ (B S p b s : Nat), Zz F B (S + 1) p b s = Zz F B S p b (s + 1) + (if 0 < p then Zz F B S (p - 1) b s else 0)
  | 0, S, p, b, s => by conv => lhs; unfold Zz
  | B + 1, S, p, b, s => by
    conv => lhs; unfold Zz
    rw [Zz_S F B S p (b + 1) s, Zz_S F B S (p - 1) b (s + 1)]
    have e1 : ∀ p b s, Zz F (B + 1) S p b s = Zz F B S p (b + 1) s + 2 * (if 0 < p then Zz F B S (p - 1) b (s + 1) else 0) := fun p b s => by conv => lhs; unfold Zz
    rw [e1, e1]
    by_cases h0 : 0 < p
    · by_cases h1 : 0 < p - 1
      · simp only [if_pos h0, if_pos h1]; omega
      · simp only [if_pos h0, if_neg h1]; omega
    · simp only [if_neg h0]; omega
theorem Zl_Z (F : Nat → Nat → Int) : ∀ (n t p b s : Nat), Zl F n t p b s = Zz F (cB n t) (cS n t) p b s
  | 0, t, p, b, s => by unfold Zl cB cS Zz; rfl
  | n + 1, t, p, b, s => by
    unfold Zl
    have hB : cB (n + 1) t = (if t % 4 = 3 then 1 else 0) + cB n (t / 4) := rfl
    have hS : cS (n + 1) t = (if t % 4 = 1 ∨ t % 4 = 2 then 1 else 0) + cS n (t / 4) := rfl
    rw [hB, hS]
    by_cases h0 : t % 4 = 0
    · rw [if_pos h0, if_neg (by omega), if_neg (by omega), Nat.zero_add, Nat.zero_add]
      exact Zl_Z F n (t / 4) p b s
    · by_cases h3 : t % 4 = 3
      · have a12 : (if t % 4 = 1 ∨ t % 4 = 2 then 1 else 0) = 0 := if_neg (by omega)
        rw [a12, if_neg h0, if_pos h3, if_pos h3, Nat.zero_add, Nat.add_comm 1]
        conv => rhs; unfold Zz
        rw [Zl_Z F n (t / 4) p (b + 1) s, Zl_Z F n (t / 4) (p - 1) b (s + 1)]
      · have a12 : (if t % 4 = 1 ∨ t % 4 = 2 then 1 else 0) = 1 := if_pos (by omega)
        rw [a12, if_neg h0, if_neg h3, if_neg h3, Nat.zero_add, Nat.add_comm 1, Zz_S, Zl_Z F n (t / 4) p b (s + 1), Zl_Z F n (t / 4) (p - 1) b s]
theorem fsum4 (f : Nat → Int) : ∀ n, am_fsum f (4 * n) = am_fsum (fun k => f (4 * k) + f (4 * k + 1) + f (4 * k + 2) + f (4 * k + 3)) n
  | 0 => rfl
  | n + 1 => by
    rw [show 4 * (n + 1) = 4 * n + 1 + 1 + 1 + 1 by omega]
    simp only [am_fsum]
    rw [fsum4 f n]
    try simp only [Nat.add_assoc, Nat.reduceAdd]
    omega
theorem fsum_z (n : Nat) : am_fsum (fun _ => 0) n = 0 := by
  induction n with
  | zero => rfl
  | succ n ih => unfold am_fsum; rw [ih]; rfl
def brC (F : Nat → Nat → Int) (n T p b s u : Nat) : Int := if u &&& T = u ∧ okk n (T - u) p = true then F (b + cB n u) (s + cS n u) else 0
theorem brC_d (F : Nat → Nat → Int) (n T p b s k d : Nat) (hd : d < 4) : brC F (n + 1) T p b s (4 * k + d) = if d &&& (T % 4) = d ∧ T % 4 - d ≠ 3 ∧ pc (T % 4 - d) ≤ p then brC F n (T / 4) (p - pc (T % 4 - d)) (b + (if d = 3 then 1 else 0)) (s + (if d = 1 ∨ d = 2 then 1 else 0)) k else 0 := by
  unfold brC
  have hs := sub4 (k := k) (T := T) hd
  have eB : cB (n + 1) (4 * k + d) = (if d = 3 then 1 else 0) + cB n k := by
    rw [cB_s]
    rw [show (4 * k + d) % 4 = d by omega, show (4 * k + d) / 4 = k by omega]
  have eS : cS (n + 1) (4 * k + d) = (if d = 1 ∨ d = 2 then 1 else 0) + cS n k := by
    rw [cS_s]
    rw [show (4 * k + d) % 4 = d by omega, show (4 * k + d) / 4 = k by omega]
  rw [eB, eS]
  by_cases hsub : k &&& (T / 4) = k ∧ d &&& (T % 4) = d
  · have l1 : k ≤ T / 4 := by have : k &&& (T / 4) ≤ T / 4 := Nat.and_le_right; omega
    have l2 : d ≤ T % 4 := by have : d &&& (T % 4) ≤ T % 4 := Nat.and_le_right; omega
    have eo : okk (n + 1) (T - (4 * k + d)) p = (!decide (T % 4 - d = 3) && (decide (pc (T % 4 - d) ≤ p) && okk n (T / 4 - k) (p - pc (T % 4 - d)))) := by
      rw [okk_s]
      rw [show (T - (4 * k + d)) % 4 = T % 4 - d by omega, show (T - (4 * k + d)) / 4 = T / 4 - k by omega]
    rw [eo]
    by_cases hc : T % 4 - d ≠ 3 ∧ pc (T % 4 - d) ≤ p
    · rw [decide_eq_false hc.1, decide_eq_true hc.2, Bool.not_false, Bool.true_and, Bool.true_and, if_pos (⟨hsub.2, hc⟩ : d &&& (T % 4) = d ∧ T % 4 - d ≠ 3 ∧ pc (T % 4 - d) ≤ p)]
      have c1 : ((4 * k + d) &&& T = 4 * k + d ∧ okk n (T / 4 - k) (p - pc (T % 4 - d)) = true) ↔ (k &&& (T / 4) = k ∧ okk n (T / 4 - k) (p - pc (T % 4 - d)) = true) := ⟨fun h => ⟨hsub.1, h.2⟩, fun h => ⟨hs.mpr hsub, h.2⟩⟩
      simp only [c1, Nat.add_assoc]
    · have c1 : ¬ ((4 * k + d) &&& T = 4 * k + d ∧ (!decide (T % 4 - d = 3) && (decide (pc (T % 4 - d) ≤ p) && okk n (T / 4 - k) (p - pc (T % 4 - d)))) = true) := by
        intro h
        have h2 := h.2
        rw [Bool.and_eq_true, Bool.and_eq_true, Bool.not_eq_true', decide_eq_false_iff_not, decide_eq_true_iff] at h2
        exact hc ⟨h2.1, h2.2.1⟩
      have c2 : ¬ (d &&& (T % 4) = d ∧ T % 4 - d ≠ 3 ∧ pc (T % 4 - d) ≤ p) := fun h => hc h.2
      rw [if_neg c1, if_neg c2]
  · rw [if_neg (fun h => hsub (hs.mp h.1))]
    by_cases hd2 : d &&& (T % 4) = d ∧ T % 4 - d ≠ 3 ∧ pc (T % 4 - d) ≤ p
    · rw [if_pos hd2, if_neg (fun h => hsub ⟨h.1, hd2.1⟩)]
    · rw [if_neg hd2]
theorem br_sum (F : Nat → Nat → Int) : ∀ (n T p b s : Nat), am_fsum (brC F n T p b s) (4 ^ n) = Zl F n T p b s
  | 0, T, p, b, s => by
    show am_fsum (brC F 0 T p b s) 1 = _
    unfold am_fsum am_fsum Zl brC okk cB cS
    rw [Nat.zero_and, if_pos ⟨rfl, rfl⟩]
    simp
  | n + 1, T, p, b, s => by
    rw [Nat.pow_succ, Nat.mul_comm, fsum4]
    have ex : ∀ k, brC F (n + 1) T p b s (4 * k) = brC F (n + 1) T p b s (4 * k + 0) := fun k => rfl
    have key : ∀ (k : Nat), brC F (n + 1) T p b s (4 * k) + brC F (n + 1) T p b s (4 * k + 1) + brC F (n + 1) T p b s (4 * k + 2) + brC F (n + 1) T p b s (4 * k + 3) = if T % 4 = 0 then brC F n (T / 4) p b s k else if T % 4 = 3 then brC F n (T / 4) p (b + 1) s k + 2 * (if 0 < p then brC F n (T / 4) (p - 1) b (s + 1) k else 0) else brC F n (T / 4) p b (s + 1) k + (if 0 < p then brC F n (T / 4) (p - 1) b s k else 0) := fun k => by
      rw [ex, brC_d F n T p b s k 0 (by decide), brC_d F n T p b s k 1 (by decide), brC_d F n T p b s k 2 (by decide), brC_d F n T p b s k 3 (by decide)]
      rcases (show T % 4 = 0 ∨ T % 4 = 1 ∨ T % 4 = 2 ∨ T % 4 = 3 by omega) with h | h | h | h
      · simp [h, pc]
      · by_cases hp : 0 < p
        · simp [h, pc, hp, show 1 ≤ p from hp]; omega
        · simp [h, pc, hp, show ¬ 1 ≤ p from hp]
      · by_cases hp : 0 < p
        · simp [h, pc, hp, show 1 ≤ p from hp]; omega
        · simp [h, pc, hp, show ¬ 1 ≤ p from hp]
      · by_cases hp : 0 < p
        · simp [h, pc, hp, show 1 ≤ p from hp]; omega
        · simp [h, pc, hp, show ¬ 1 ≤ p from hp]
    rw [am_fsum_cg (fun k _ => key k)]
    unfold Zl
    have ih := br_sum F n (T / 4)
    by_cases h0 : T % 4 = 0
    · simp only [if_pos h0]; exact ih p b s
    · by_cases h3 : T % 4 = 3
      · simp only [if_neg h0, if_pos h3]
        by_cases hp : 0 < p
        · simp only [if_pos hp]
          have e2 : am_fsum (fun k => brC F n (T / 4) p (b + 1) s k + 2 * brC F n (T / 4) (p - 1) b (s + 1) k) (4 ^ n) = am_fsum (brC F n (T / 4) p (b + 1) s) (4 ^ n) + 2 * am_fsum (brC F n (T / 4) (p - 1) b (s + 1)) (4 ^ n) := by
            generalize 4 ^ n = m
            induction m with
            | zero => rfl
            | succ m ihm => simp only [am_fsum]; omega
          rw [e2, ih, ih]
        · simp only [if_neg hp, Int.mul_zero, Int.add_zero]
          exact ih p (b + 1) s
      · simp only [if_neg h0, if_neg h3]
        by_cases hp : 0 < p
        · simp only [if_pos hp]
          rw [am_fsum_add (f := brC F n (T / 4) p b (s + 1)) (g := brC F n (T / 4) (p - 1) b s), ih, ih]
        · simp only [if_neg hp, Int.add_zero]
          exact ih p b (s + 1)
/-- so many ways after so many minutes -/
def brW (p : Nat) : Nat → Nat → Nat → Int
  | 0 => fun b s => if b = 0 ∧ s = 0 then 1 else 0
  | m + 1 => fun b s => Zz (brW p m) b s p 0 0
/-- Pascal's triangle -/
def chV (n k : Nat) : Nat := am_nth 0 [1, 0, 0, 0, 0, 0, 1, 1, 0, 0, 0, 0, 1, 2, 1, 0, 0, 0, 1, 3, 3, 1, 0, 0, 1, 4, 6, 4, 1, 0, 1, 5, 10, 10, 5, 1] (6 * n + k)
def wmJ (F : Nat → Nat → Int) (B S p i : Nat) : Nat → Int := fun j => if i + j ≤ p then ((chV B i * 2 ^ i * chV S j : Nat) : Int) * F (B - i) (S - j + i) else 0
def wmI (F : Nat → Nat → Int) (B S p : Nat) : Nat → Int := fun i => if i ≤ p then am_fsum (wmJ F B S p i) (S + 1) else 0
def wom (F : Nat → Nat → Int) (B S p : Nat) : Int := am_fsum (wmI F B S p) (B + 1)
def evF (F : Nat → Nat → Int) (c : Nat → Int) : Int := am_fsum (fun k => c k * F (k / 6) (k % 6)) 36
theorem evF_add {F : Nat → Nat → Int} {c e : Nat → Int} : evF F (fun k => c k + e k) = evF F c + evF F e := by
  unfold evF
  rw [← am_fsum_add]
  exact am_fsum_cg (fun k _ => Int.add_mul _ _ _)
theorem fsum_mul {f : Nat → Int} (a : Int) : ∀ n, am_fsum (fun k => a * f k) n = a * am_fsum f n
  | 0 => (Int.mul_zero a).symm
  | n + 1 => by unfold am_fsum; rw [fsum_mul a n, Int.mul_add]
theorem evF_mul {F : Nat → Nat → Int} {c : Nat → Int} (a : Int) : evF F (fun k => a * c k) = a * evF F c := by
  unfold evF
  rw [← fsum_mul]
  exact am_fsum_cg (fun k _ => Int.mul_assoc _ _ _)
theorem evF_0 {F : Nat → Nat → Int} : evF F (fun _ => 0) = 0 := by
  unfold evF
  rw [am_fsum_cg (g := fun _ => 0) (fun k _ => Int.zero_mul _)]
  exact fsum_z 36
theorem fsum_d {g : Nat → Int} {m : Nat} : ∀ n, am_fsum (fun k => (if k = m then 1 else 0) * g k) n = if m < n then g m else 0
  | 0 => by rw [if_neg (Nat.not_lt_zero m)]; rfl
  | n + 1 => by
    unfold am_fsum
    rw [fsum_d n]
    by_cases h1 : n = m
    · subst h1
      rw [if_neg (Nat.lt_irrefl n), if_pos rfl, if_pos (Nat.lt_succ_self n)]
      omega
    · by_cases h2 : m < n
      · rw [if_pos h2, if_neg h1, if_pos (by omega)]; omega
      · rw [if_neg h2, if_neg h1, if_neg (by omega)]; omega
theorem evF_d {F : Nat → Nat → Int} {b s : Nat} (hb : b ≤ 5) (hs : s ≤ 5) : evF F (fun k => if k = 6 * b + s then 1 else 0) = F b s := by
  unfold evF
  rw [fsum_d, if_pos (by omega), show (6 * b + s) / 6 = b by omega, show (6 * b + s) % 6 = s by omega]
def Zc0 : Nat → Nat → Nat → Nat → Nat → Int
  | 0, _, b, s, k => if k = 6 * b + s then 1 else 0
  | S + 1, p, b, s, k => Zc0 S p b (s + 1) k + (if 0 < p then Zc0 S (p - 1) b s k else 0)
def Zc : Nat → Nat → Nat → Nat → Nat → Nat → Int
  | 0, S, p, b, s, k => Zc0 S p b s k
  | B + 1, S, p, b, s, k => Zc B S p (b + 1) s k + 2 * (if 0 < p then Zc B S (p - 1) b (s + 1) k else 0)
theorem Zc_ev (F : Nat → Nat → Int) : ∀ (B S p b s : Nat), b + B ≤ 5 → s + S + B ≤ 5 → Zz F B S p b s = evF F (Zc B S p b s)
  | 0, 0, p, b, s, h1, h2 => by
    unfold Zz
    exact (evF_d (by omega) (by omega)).symm
  | 0, S + 1, p, b, s, h1, h2 => by
    unfold Zz
    show _ = evF F (fun k => Zc 0 S p b (s + 1) k + (if 0 < p then Zc 0 S (p - 1) b s k else 0))
    rw [evF_add (c := Zc 0 S p b (s + 1)) (e := fun k => if 0 < p then Zc 0 S (p - 1) b s k else 0), ← Zc_ev F 0 S p b (s + 1) (by omega) (by omega)]
    by_cases hp : 0 < p
    · simp only [if_pos hp]
      rw [← Zc_ev F 0 S (p - 1) b s (by omega) (by omega)]
    · simp only [if_neg hp]
      rw [evF_0]
  | B + 1, S, p, b, s, h1, h2 => by
    unfold Zz
    show _ = evF F (fun k => Zc B S p (b + 1) s k + 2 * (if 0 < p then Zc B S (p - 1) b (s + 1) k else 0))
    rw [evF_add (c := Zc B S p (b + 1) s) (e := fun k => 2 * (if 0 < p then Zc B S (p - 1) b (s + 1) k else 0)), ← Zc_ev F B S p (b + 1) s (by omega) (by omega), evF_mul (c := fun k => if 0 < p then Zc B S (p - 1) b (s + 1) k else 0)]
    by_cases hp : 0 < p
    · simp only [if_pos hp]
      rw [← Zc_ev F B S (p - 1) b (s + 1) (by omega) (by omega)]
    · simp only [if_neg hp]
      rw [evF_0]
theorem evF_sum {F : Nat → Nat → Int} {c : Nat → Nat → Int} : ∀ n, am_fsum (fun i => evF F (c i)) n = evF F (fun k => am_fsum (fun i => c i k) n)
  | 0 => evF_0.symm
  | n + 1 => by
    have e : evF F (fun k => am_fsum (fun i => c i k) (n + 1)) = evF F (fun k => am_fsum (fun i => c i k) n + c n k) := rfl
    rw [e, evF_add (c := fun k => am_fsum (fun i => c i k) n) (e := c n), ← evF_sum n]
    rfl
def wcJ (B S p i j k : Nat) : Int := if i + j ≤ p then ((chV B i * 2 ^ i * chV S j : Nat) : Int) * (if k = 6 * (B - i) + (S - j + i) then 1 else 0) else 0
def wcI (B S p i k : Nat) : Int := if i ≤ p then am_fsum (fun j => wcJ B S p i j k) (S + 1) else 0
def wcC (B S p k : Nat) : Int := am_fsum (fun i => wcI B S p i k) (B + 1)
theorem wcC_ev (F : Nat → Nat → Int) (B S p : Nat) (h : B + S ≤ 5) : wom F B S p = evF F (wcC B S p) := by
  unfold wom wcC
  rw [← evF_sum (c := wcI B S p)]
  refine am_fsum_cg (fun i hi => ?_)
  unfold wmI wcI
  by_cases hp : i ≤ p
  · simp only [if_pos hp]
    rw [← evF_sum (c := wcJ B S p i)]
    refine am_fsum_cg (fun j hj => ?_)
    unfold wmJ wcJ
    by_cases hp2 : i + j ≤ p
    · simp only [if_pos hp2]
      rw [evF_mul, evF_d (by omega) (by omega)]
    · simp only [if_neg hp2]
      exact evF_0.symm
  · simp only [if_neg hp]
    exact evF_0.symm
theorem wcC_Z : ∀ x y : Fin 6, ∀ p : Fin 5, ∀ k : Fin 36, x.val + y.val ≤ 5 → wcC x.val y.val p.val k.val = Zc x.val y.val p.val 0 0 k.val := by decide +kernel
theorem wom_Z (F : Nat → Nat → Int) (B S p : Nat) (h : B + S ≤ 5) (hp : p ≤ 4) : wom F B S p = Zz F B S p 0 0 := by
  rw [wcC_ev F B S p h, Zc_ev F B S p 0 0 (by omega) (by omega)]
  unfold evF
  refine am_fsum_cg (fun k hk => ?_)
  rw [wcC_Z ⟨B, by omega⟩ ⟨S, by omega⟩ ⟨p, by omega⟩ ⟨k, by omega⟩ h]
