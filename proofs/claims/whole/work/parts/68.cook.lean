/-! COOKS: the run, abstract: l minutes left of the sides, b the side on a PLACE in the minute ahead, f the minute behind a SLICE's last, g the GO on a PLACE -/
def ckM (W : Nat → Int) (l f : Nat → Nat) (t on s : Nat) : Bool := !on.testBit s && (decide (0 < l (2 * s) + l (2 * s + 1)) && (!(decide (l (2 * s) = 0) && decide (l (2 * s + 1) = ndW W (2 * s + 1))) || decide (f s + (W 1).toNat ≤ t)))
theorem ckM_t {W : Nat → Int} {l f : Nat → Nat} {t on s : Nat} : ckM W l f t on s = true ↔ on.testBit s = false ∧ 0 < l (2 * s) + l (2 * s + 1) ∧ (¬ (l (2 * s) = 0 ∧ l (2 * s + 1) = ndW W (2 * s + 1)) ∨ f s + (W 1).toNat ≤ t) := by
  unfold ckM
  cases on.testBit s <;> simp [Bool.and_eq_true, Bool.or_eq_true, decide_eq_true_iff] <;> omega
def ckL (r : Int) (l : Nat → Nat) (s : Nat) : Nat := if r = 1 then l (2 * s) + l (2 * s + 1) else if r = 2 then (if l (2 * s) = 0 ∨ l (2 * s + 1) = 0 then 1 else 0) else 0
def ckB (W : Nat → Int) (r : Int) (l f : Nat → Nat) (t on : Nat) : Nat → Int
  | 0 => -1
  | k + 1 => if ckM W l f t on k = true ∧ (ckB W r l f t on k = -1 ∨ ckL r l (ckB W r l f t on k).toNat < ckL r l k) then (k : Int) else ckB W r l f t on k
theorem ckB_v {W : Nat → Int} {r : Int} {l f : Nat → Nat} {t on : Nat} : ∀ k, ckB W r l f t on k = -1 ∨ ∃ j : Nat, ckB W r l f t on k = (j : Int) ∧ j < k ∧ ckM W l f t on j = true := by
  intro k
  induction k with
  | zero => exact Or.inl rfl
  | succ k ih =>
    unfold ckB
    split
    · rename_i h; exact Or.inr ⟨k, rfl, by omega, h.1⟩
    · rcases ih with h | ⟨j, h1, h2, h3⟩
      · exact Or.inl h
      · exact Or.inr ⟨j, h1, by omega, h3⟩
theorem ckB_no {W : Nat → Int} {r : Int} {l f : Nat → Nat} {t on : Nat} : ∀ k, ckB W r l f t on k = -1 → ∀ s, s < k → ckM W l f t on s = false := by
  intro k
  induction k with
  | zero => intro _ s hs; exact absurd hs (Nat.not_lt_zero s)
  | succ k ih =>
    intro h s hs
    unfold ckB at h
    split at h
    · omega
    · rename_i hn
      by_cases hsk : s = k
      · subst hsk
        cases hm : ckM W l f t on s with
        | false => rfl
        | true => exact absurd ⟨hm, Or.inl h⟩ hn
      · exact ih h s (by omega)
def ckS (l : Nat → Nat) (s : Nat) : Nat := if 0 < l (2 * s) then 2 * s else 2 * s + 1
theorem ckS_v {l : Nat → Nat} {s : Nat} : ckS l s / 2 = s ∧ (ckS l s = 2 * s ∨ ckS l s = 2 * s + 1) ∧ (ckS l s % 2 = 1 → l (ckS l s - 1) = 0) := by
  unfold ckS
  split
  · exact ⟨by omega, Or.inl rfl, by omega⟩
  · refine ⟨by omega, Or.inr rfl, fun _ => ?_⟩
    rw [show 2 * s + 1 - 1 = 2 * s by omega]
    omega
def ckF (nw : Nat → Int) (P : Nat) : Int := am_ff (fun p => decide (nw p = -1)) P 0
def ckP (b nw : Nat → Int) (P i : Nat) : Int := if am_ff (fun p => decide (b p = (i : Int)) && decide (nw p = -1)) P 0 = -1 then ckF nw P else am_ff (fun p => decide (b p = (i : Int)) && decide (nw p = -1)) P 0
theorem ckF_v {nw : Nat → Int} {P : Nat} : ckF nw P = -1 ∨ ∃ q : Nat, ckF nw P = (q : Int) ∧ q < P ∧ nw q = -1 := by
  unfold ckF
  rcases am_ff_v (p := fun p => decide (nw p = -1)) (n := P) 0 with h | ⟨q, h1, h2, h3, h4⟩
  · exact Or.inl h
  · exact Or.inr ⟨q, h1, h3, of_decide_eq_true h4⟩
theorem ckF_no {nw : Nat → Int} {P : Nat} (h : ckF nw P = -1) : ∀ p, p < P → nw p ≠ -1 := fun p hp => of_decide_eq_false (am_ff_none h p hp)
theorem ckP_v {b nw : Nat → Int} {P i : Nat} (h : ckF nw P ≠ -1) : ∃ q : Nat, ckP b nw P i = (q : Int) ∧ q < P ∧ nw q = -1 := by
  unfold ckP
  rcases am_ff_v (p := fun p => decide (b p = (i : Int)) && decide (nw p = -1)) (n := P) 0 with e | ⟨q, h1, h2, h3, h4⟩
  · rw [if_pos e]; exact ckF_v.resolve_left h
  · rw [if_neg (by omega)]
    rw [Bool.and_eq_true, decide_eq_true_iff, decide_eq_true_iff] at h4
    exact ⟨q, h1, h3, h4.2⟩
abbrev PS : Type := (Nat → Int) × Nat
def ckT (W : Nat → Int) (r : Int) (l f : Nat → Nat) (b : Nat → Int) (t : Nat) (S : PS) : PS := (am_set S.1 (ckP b S.1 (W 0).toNat (ckS l (ckB W r l f t S.2 (nS W)).toNat)).toNat ((ckS l (ckB W r l f t S.2 (nS W)).toNat : Nat) : Int), S.2 ||| 2 ^ (ckB W r l f t S.2 (nS W)).toNat)
def ckPut (W : Nat → Int) (r : Int) (l f : Nat → Nat) (b : Nat → Int) (t : Nat) : Nat → PS → PS
  | 0, S => S
  | c + 1, S => if ckF S.1 (W 0).toNat = -1 ∨ ckB W r l f t S.2 (nS W) = -1 then S else ckPut W r l f b t c (ckT W r l f b t S)
theorem ckT_v {W : Nat → Int} {r : Int} {l f : Nat → Nat} {b : Nat → Int} {t : Nat} {S : PS} (h : ¬ (ckF S.1 (W 0).toNat = -1 ∨ ckB W r l f t S.2 (nS W) = -1)) : ∃ s q : Nat, ckB W r l f t S.2 (nS W) = (s : Int) ∧ s < nS W ∧ ckM W l f t S.2 s = true ∧ ckP b S.1 (W 0).toNat (ckS l s) = (q : Int) ∧ q < (W 0).toNat ∧ S.1 q = -1 ∧ ckT W r l f b t S = (am_set S.1 q (ckS l s : Int), S.2 ||| 2 ^ s) := by
  obtain ⟨s, h1, h2, h3⟩ := (ckB_v (W := W) (r := r) (l := l) (f := f) (t := t) (on := S.2) (nS W)).resolve_left (fun hc => h (Or.inr hc))
  obtain ⟨q, h4, h5, h6⟩ := ckP_v (b := b) (i := ckS l s) (fun hc => h (Or.inl hc))
  refine ⟨s, q, h1, h2, h3, h4, h5, h6, ?_⟩
  unfold ckT
  rw [h1, am_tnn, h4, am_tnn]
def ckJ (W : Nat → Int) (l : Nat → Nat) (S : PS) : Prop :=
  (∀ p, p < (W 0).toNat → S.1 p = -1 ∨ ∃ i : Nat, i < 2 * nS W ∧ S.1 p = (i : Int) ∧ 0 < l i ∧ (i % 2 = 1 → l (i - 1) = 0) ∧ S.2.testBit (i / 2) = true) ∧
  (∀ p q, p < (W 0).toNat → q < (W 0).toNat → p ≠ q → ∀ i j : Nat, S.1 p = (i : Int) → S.1 q = (j : Int) → i / 2 ≠ j / 2) ∧
  S.2 < 256 ∧ (∀ s, S.2.testBit s = true → ∃ p i : Nat, p < (W 0).toNat ∧ S.1 p = (i : Int) ∧ i / 2 = s)
theorem ckT_J {W : Nat → Int} (hk : wk W) {r : Int} {l f : Nat → Nat} {b : Nat → Int} {t : Nat} {S : PS} (hB : ∀ s, s < nS W → 0 < l (2 * s) → l (2 * s + 1) = ndW W (2 * s + 1)) (hJ : ckJ W l S) (h : ¬ (ckF S.1 (W 0).toNat = -1 ∨ ckB W r l f t S.2 (nS W) = -1)) : ckJ W l (ckT W r l f b t S) := by
  obtain ⟨s, q, h1, h2, h3, h4, h5, h6, e⟩ := ckT_v (b := b) h
  obtain ⟨m1, m2, -⟩ := ckM_t.mp h3
  obtain ⟨j1, j2, j3, j4⟩ := hJ
  obtain ⟨c1, c2, c3⟩ := ckS_v (l := l) (s := s)
  have n1 := wk_nS hk
  have c4 : 0 < l (ckS l s) := by
    unfold ckS
    split
    · assumption
    · omega
  rw [e]
  generalize ckS l s = i at *
  have on1 : ∀ p i : Nat, p < (W 0).toNat → S.1 p = (i : Int) → i / 2 ≠ s := fun p i hp hi hc => by
    rcases j1 p hp with z | ⟨i2, z1, z2, z3, z4, z5⟩
    · omega
    · rw [show i2 = i by omega, hc, m1] at z5
      cases z5
  refine ⟨fun p hp => ?_, fun p p2 hp hp2 hne i1 i2 e1 e2 => ?_, ax_or8 j3 (ax_p8 (by omega)), fun s2 hs2 => ?_⟩
  · dsimp only
    by_cases hpq : p = q
    · rw [am_stS hpq]
      refine Or.inr ⟨i, by omega, rfl, c4, c3, ?_⟩
      rw [or_tb, c1, decide_eq_true rfl, Bool.or_true]
    · rw [am_stO hpq]
      rcases j1 p hp with z | ⟨i2, z1, z2, z3, z4, z5⟩
      · exact Or.inl z
      · exact Or.inr ⟨i2, z1, z2, z3, z4, by rw [or_tb, z5, Bool.true_or]⟩
  · dsimp only at e1 e2
    by_cases hpq : p = q
    · rw [am_stS hpq] at e1
      rw [am_stO (by omega)] at e2
      have := on1 p2 i2 hp2 e2
      omega
    · rw [am_stO hpq] at e1
      by_cases hpq2 : p2 = q
      · rw [am_stS hpq2] at e2
        have := on1 p i1 hp e1
        omega
      · rw [am_stO hpq2] at e2
        exact j2 p p2 hp hp2 hne i1 i2 e1 e2
  · dsimp only at hs2 ⊢
    rw [or_tb] at hs2
    by_cases hss : s = s2
    · exact ⟨q, i, h5, am_stS rfl, by omega⟩
    · rw [decide_eq_false hss, Bool.or_false] at hs2
      obtain ⟨p, i2, z1, z2, z3⟩ := j4 s2 hs2
      exact ⟨p, i2, z1, by rw [am_stO (fun hc => by rw [hc, h6] at z2; omega)]; exact z2, z3⟩
def ckC (nw : Nat → Int) (P : Nat) : Nat := ax_ct (fun p => decide (nw p = -1)) P
theorem ckC_0 {nw : Nat → Int} {P : Nat} (h : ckC nw P = 0) : ckF nw P = -1 := by
  rcases ckF_v (nw := nw) (P := P) with z | ⟨q, z1, z2, z3⟩
  · exact z
  · have := ax_ct_pos (c := fun p => decide (nw p = -1)) z2 (decide_eq_true z3)
    unfold ckC at h
    omega
theorem ckC_n {nw : Nat → Int} {P : Nat} (h : ckF nw P = -1) : ckC nw P = 0 := by
  have h1 := ckF_no h
  unfold ckC
  rw [ax_ct_cg (e := fun _ => false) (fun k hk => decide_eq_false (h1 k hk))]
  clear h h1
  induction P with
  | zero => rfl
  | succ n ih => unfold ax_ct; rw [cond_false]; exact ih
theorem ckC_set {nw : Nat → Int} {P q i : Nat} (hq : q < P) (h : nw q = -1) : ckC (am_set nw q (i : Int)) P + 1 = ckC nw P := by
  refine ax_ct_off hq (decide_eq_true h) (decide_eq_false (by rw [am_stS rfl]; omega)) (fun k hk => ?_)
  rw [am_stO hk]
theorem ckPut_fuel {W : Nat → Int} {r : Int} {l f : Nat → Nat} {b : Nat → Int} {t : Nat} : ∀ (c : Nat) (S : PS), ckC S.1 (W 0).toNat ≤ c → ckPut W r l f b t (c + 1) S = ckPut W r l f b t c S
  | 0, S, h => by
    conv => lhs; unfold ckPut
    rw [if_pos (Or.inl (ckC_0 (by omega)))]
    rfl
  | c + 1, S, h => by
    conv => lhs; unfold ckPut
    conv => rhs; unfold ckPut
    by_cases he : ckF S.1 (W 0).toNat = -1 ∨ ckB W r l f t S.2 (nS W) = -1
    · rw [if_pos he, if_pos he]
    · rw [if_neg he, if_neg he]
      obtain ⟨s, q, h1, h2, h3, h4, h5, h6, e⟩ := ckT_v (b := b) he
      have := ckC_set (i := ckS l s) h5 h6
      exact ckPut_fuel c _ (by rw [e]; dsimp only; omega)
theorem ckPut_more {W : Nat → Int} {r : Int} {l f : Nat → Nat} {b : Nat → Int} {t : Nat} {S : PS} {c : Nat} (h : ckC S.1 (W 0).toNat ≤ c) : ∀ e, ckPut W r l f b t (c + e) S = ckPut W r l f b t c S
  | 0 => rfl
  | e + 1 => by rw [← Nat.add_assoc, ckPut_fuel (c + e) S (by omega)]; exact ckPut_more h e
theorem ckPut_end {W : Nat → Int} {r : Int} {l f : Nat → Nat} {b : Nat → Int} {t : Nat} : ∀ (c : Nat) (S : PS), ckC S.1 (W 0).toNat ≤ c → (ckF (ckPut W r l f b t c S).1 (W 0).toNat = -1 ∨ ckB W r l f t (ckPut W r l f b t c S).2 (nS W) = -1)
  | 0, S, h => Or.inl (ckC_0 (by exact Nat.le_zero.mp h))
  | c + 1, S, h => by
    unfold ckPut
    by_cases he : ckF S.1 (W 0).toNat = -1 ∨ ckB W r l f t S.2 (nS W) = -1
    · rw [if_pos he]; exact he
    · rw [if_neg he]
      obtain ⟨s, q, h1, h2, h3, h4, h5, h6, e⟩ := ckT_v (b := b) he
      have := ckC_set (i := ckS l s) h5 h6
      exact ckPut_end c _ (by rw [e]; dsimp only; omega)
theorem ckPut_J {W : Nat → Int} (hk : wk W) {r : Int} {l f : Nat → Nat} {b : Nat → Int} {t : Nat} (hB : ∀ s, s < nS W → 0 < l (2 * s) → l (2 * s + 1) = ndW W (2 * s + 1)) : ∀ (c : Nat) (S : PS), ckJ W l S → ckJ W l (ckPut W r l f b t c S)
  | 0, S, h => h
  | c + 1, S, h => by
    unfold ckPut
    by_cases he : ckF S.1 (W 0).toNat = -1 ∨ ckB W r l f t S.2 (nS W) = -1
    · rw [if_pos he]; exact h
    · rw [if_neg he]; exact ckPut_J hk hB c _ (ckT_J hk hB h he)
/-- what stays -/
def ckY (W : Nat → Int) (l : Nat → Nat) (b : Nat → Int) (p : Nat) : Int := if b p ≠ -1 ∧ 0 < l (b p).toNat ∧ W (8 + 3 * ((b p).toNat / 2) + 2) = 1 then b p else -1
def ckO (nw : Nat → Int) (k : Nat) : Nat := ax_or (fun p => if nw p = -1 then 0 else 2 ^ ((nw p).toNat / 2)) k
def ck0 (W : Nat → Int) (l : Nat → Nat) (b : Nat → Int) : PS := (ckY W l b, ckO (ckY W l b) (W 0).toNat)
theorem p2_tb {a b : Nat} : (2 ^ a).testBit b = true ↔ a = b := by rw [Nat.testBit_two_pow, decide_eq_true_iff]
