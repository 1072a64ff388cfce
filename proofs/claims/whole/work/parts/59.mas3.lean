/-! MASTERS: the run -/
abbrev MS : Type := Nat × (Nat → Nat) × (Nat → Int) × List Go
def msS (W : Nat → Int) (p x : Nat) (S : MS) : MS := if S.2.1 p ≤ x ∧ msC W S.1 S.2.1 S.2.2.1 p x ≠ -1 then (S.1 ||| 2 ^ (2 * (msC W S.1 S.2.1 S.2.2.1 p x).toNat + p), am_set S.2.1 p (x + ndW W (2 * (msC W S.1 S.2.1 S.2.2.1 p x).toNat + p)), am_set S.2.2.1 p (msC W S.1 S.2.1 S.2.2.1 p x), S.2.2.2 ++ [(msC W S.1 S.2.1 S.2.2.1 p x, (p : Int), (x : Int), (p : Int), (ndW W (2 * (msC W S.1 S.2.1 S.2.2.1 p x).toNat + p) : Int))]) else S
def msR (W : Nat → Int) : Nat → Nat → MS → MS
  | 0, _, S => S
  | c + 1, x, S => if S.1 = 2 ^ (2 * nS W) - 1 then S else msR W c (x + 1) (msS W 1 x (msS W 0 x S))
theorem ms_v {W : Nat → Int} {g p x : Nat} {f : Nat → Nat} {o : Nat → Int} (hp : p < 2) : msC W g f o p x = -1 ∨ ∃ c : Nat, msC W g f o p x = (c : Int) ∧ c < nS W ∧ g.testBit (2 * c + p) = false := by
  unfold msC
  rcases msB_v (W := W) (g := g) (p := p) (nS W) with h | ⟨j, h1, h2, h3, h4⟩
  · rw [if_neg (by rw [h]; decide)]
    rcases am_ff_v (p := msQ g f o p x) (n := nS W) 0 with h | ⟨j, h1, h2, h3, h4⟩
    · exact Or.inl h
    · refine Or.inr ⟨j, h1, h3, ?_⟩
      unfold msQ at h4
      cases hc : g.testBit (2 * j + p) with
      | false => rfl
      | true => rw [hc] at h4; cases h4
  · rw [if_pos (by rw [h1]; omega)]
    refine Or.inr ⟨j, h1, h2, ?_⟩
    rcases (show p = 0 ∨ p = 1 by omega) with rfl | rfl
    · exact h3
    · exact h4
theorem preS_cg {h k : Nat → Nat} {n : Nat} (e : ∀ i, i < n → h i = k i) : preS h n = preS k n := by
  induction n with
  | zero => rfl
  | succ n ih => unfold preS; rw [ih (fun i hi => e i (by omega)), e n (by omega)]
theorem preS_upd {h k : Nat → Nat} {n i : Nat} (hi : i < n) (e : ∀ j, j ≠ i → h j = k j) : preS h n + k i = preS k n + h i := by
  induction n with
  | zero => omega
  | succ n ih =>
    unfold preS
    by_cases hin : i = n
    · subst hin
      rw [preS_cg (h := h) (k := k) (n := i) (fun j hj => e j (by omega))]
      omega
    · rw [e n (by omega)]
      have := ih (by omega)
      omega
theorem or_tb {g i j : Nat} : (g ||| 2 ^ i).testBit j = (g.testBit j || decide (i = j)) := by rw [Nat.testBit_or, Nat.testBit_two_pow]
def msCt (g n : Nat) : Nat := preS (fun i => if g.testBit i = true then 1 else 0) n
def msRm (W : Nat → Int) (g n : Nat) : Nat := preS (fun i => if g.testBit i = true then 0 else ndW W i) n
theorem msCt_or {g n i : Nat} (hi : i < n) (h : g.testBit i = false) : msCt (g ||| 2 ^ i) n = msCt g n + 1 := by
  have := preS_upd (h := fun j => if (g ||| 2 ^ i).testBit j = true then 1 else 0) (k := fun j => if g.testBit j = true then 1 else 0) hi (fun j hj => by simp only [or_tb, decide_eq_false (Ne.symm hj), Bool.or_false])
  have e1 : (if (g ||| 2 ^ i).testBit i = true then 1 else 0) = 1 := by rw [or_tb, decide_eq_true rfl, Bool.or_true]; rfl
  have e2 : (if g.testBit i = true then 1 else 0) = 0 := by rw [h]; rfl
  rw [e1, e2] at this
  exact this
theorem msRm_or {W : Nat → Int} {g n i : Nat} (hi : i < n) (h : g.testBit i = false) : msRm W (g ||| 2 ^ i) n + ndW W i = msRm W g n := by
  have := preS_upd (h := fun j => if (g ||| 2 ^ i).testBit j = true then 0 else ndW W j) (k := fun j => if g.testBit j = true then 0 else ndW W j) hi (fun j hj => by simp only [or_tb, decide_eq_false (Ne.symm hj), Bool.or_false])
  have e1 : (if (g ||| 2 ^ i).testBit i = true then 0 else ndW W i) = 0 := by rw [or_tb, decide_eq_true rfl, Bool.or_true]; rfl
  have e2 : (if g.testBit i = true then 0 else ndW W i) = ndW W i := by rw [h]; rfl
  rw [e1, e2] at this
  exact this
theorem msCt_le {g n : Nat} : msCt g n ≤ n := by
  unfold msCt
  induction n with
  | zero => exact Nat.le_refl 0
  | succ n ih => unfold preS; split <;> omega
/-- all are on or were iff so many GOES are there -/
theorem msCt_all {g n : Nat} (hg : g < 2 ^ n) : msCt g n = n ↔ g = 2 ^ n - 1 := by
  have key : msCt g n = n ↔ ∀ i, i < n → g.testBit i = true := by
    clear hg
    induction n with
    | zero => exact ⟨fun _ i hi => absurd hi (Nat.not_lt_zero i), fun _ => rfl⟩
    | succ n ih =>
      have h1 := msCt_le (g := g) (n := n)
      have e : msCt g (n + 1) = msCt g n + (if g.testBit n = true then 1 else 0) := rfl
      rw [e]
      constructor
      · intro h i hi
        by_cases hn : g.testBit n = true
        · rw [if_pos hn] at h
          by_cases hin : i = n
          · subst hin; exact hn
          · exact (ih.mp (by omega)) i (by omega)
        · rw [if_neg hn] at h; omega
      · intro h
        rw [if_pos (h n (by omega)), ih.mpr (fun i hi => h i (by omega))]
  rw [key]
  constructor
  · intro h
    refine Nat.eq_of_testBit_eq (fun i => ?_)
    rw [Nat.testBit_two_pow_sub_one]
    by_cases hi : i < n
    · rw [h i hi, decide_eq_true hi]
    · rw [decide_eq_false hi]
      exact Nat.testBit_lt_two_pow (Nat.lt_of_lt_of_le hg (Nat.pow_le_pow_right (by decide) (by omega)))
  · intro h i hi
    rw [h, Nat.testBit_two_pow_sub_one, decide_eq_true hi]
/-- what holds all the way -/
def msK (W : Nat → Int) (x : Nat) (S : MS) : Prop := S.1 < 2 ^ (2 * nS W) ∧ S.2.2.2.length = msCt S.1 (2 * nS W) ∧ x + msRm W S.1 (2 * nS W) + (S.2.1 0 - x) + (S.2.1 1 - x) ≤ 320 ∧ ∀ g, g ∈ S.2.2.2 → go_ok g ∧ g.1 < (nS W : Int)
theorem msS_ok {W : Nat → Int} (hk : wk W) {p x : Nat} (hp : p < 2) {S : MS} (h : msK W x S) : msK W x (msS W p x S) := by
  unfold msS
  split
  · rename_i hc
    obtain ⟨hf, hc⟩ := hc
    obtain ⟨c, e, hc2, hc3⟩ := (ms_v (W := W) (g := S.1) (f := S.2.1) (o := S.2.2.1) (x := x) hp).resolve_left hc
    obtain ⟨k1, k2, k3, k4⟩ := h
    have n1 := wk_nS hk
    have nd := nd_pos hk (i := 2 * c + p) (by omega)
    have rm := msRm_or (W := W) (n := 2 * nS W) (by omega) hc3
    have ct := msCt_or (n := 2 * nS W) (by omega) hc3
    rw [e, am_tnn]
    refine ⟨Nat.or_lt_two_pow k1 (Nat.pow_lt_pow_right (by decide) (by omega)), ?_, ?_, fun g hg => ?_⟩
    · rw [List.length_append, List.length_singleton, ct, k2]
    · dsimp only
      rcases (show p = 0 ∨ p = 1 by omega) with rfl | rfl
      · rw [am_stS rfl, am_stO (by decide)]; omega
      · rw [am_stO (by decide), am_stS rfl]; omega
    · dsimp only at hg
      rw [List.mem_append, List.mem_singleton] at hg
      rcases hg with hg | hg
      · exact k4 g hg
      · subst hg
        unfold go_ok
        dsimp only
        omega
  · exact h
theorem am_ff_none {p : Nat → Bool} {n : Nat} (h : am_ff p n 0 = -1) : ∀ s, s < n → p s = false := by
  have key : ∀ s, s ≤ n → (∀ i, i < s → p i = false) := by
    intro s
    induction s with
    | zero => intro _ i hi; exact absurd hi (Nat.not_lt_zero i)
    | succ s ih =>
      intro hs i hi
      have h1 := ih (by omega)
      by_cases his : i = s
      · subst his
        cases hp : p i with
        | false => rfl
        | true =>
          rw [am_ff_skip i h1, am_ff_hit (by omega) hp] at h
          omega
      · exact h1 i (by omega)
  exact key n (Nat.le_refl n)
/-- while something is to be done a PLACE is busy -/
theorem ms_busy {W : Nat → Int} (hk : wk W) {x : Nat} {S : MS} (h : msK W x S) (hn : S.1 ≠ 2 ^ (2 * nS W) - 1) : x < (msS W 1 x (msS W 0 x S)).2.1 0 ∨ x < (msS W 1 x (msS W 0 x S)).2.1 1 := by
  have f1 : ∀ T : MS, (msS W 1 x T).2.1 0 = T.2.1 0 := fun T => by
    unfold msS
    split
    · dsimp only
      rw [am_stO (show (0 : Nat) ≠ 1 by decide)]
    · rfl
  have f0 : ∀ T : MS, (msS W 0 x T).2.1 1 = T.2.1 1 := fun T => by
    unfold msS
    split
    · dsimp only
      rw [am_stO (show (1 : Nat) ≠ 0 by decide)]
    · rfl
  rw [f1]
  by_cases a0 : S.2.1 0 ≤ x ∧ msC W S.1 S.2.1 S.2.2.1 0 x ≠ -1
  · left
    obtain ⟨c, e, hc2, hc3⟩ := (ms_v (W := W) (g := S.1) (f := S.2.1) (o := S.2.2.1) (x := x) (show 0 < 2 by decide)).resolve_left a0.2
    have nd := nd_pos hk (i := 2 * c + 0) (by omega)
    unfold msS
    rw [if_pos a0, e, am_tnn]
    dsimp only
    rw [am_stS rfl]
    omega
  · have e0 : msS W 0 x S = S := by unfold msS; rw [if_neg a0]
    rw [e0]
    by_cases b0 : S.2.1 0 ≤ x
    · have c0 : msC W S.1 S.2.1 S.2.2.1 0 x = -1 := Classical.byContradiction (fun hc => a0 ⟨b0, hc⟩)
      right
      by_cases b1 : S.2.1 1 ≤ x
      · -- all TOPS have gone; an UNDER is left, and can go on
        unfold msC at c0
        have m0 : msB W S.1 0 (nS W) = -1 := Classical.byContradiction (fun hc => by rw [if_pos hc] at c0; exact hc c0)
        rw [if_neg (fun hc => hc m0)] at c0
        have q0 := am_ff_none c0
        have m1 : msB W S.1 1 (nS W) = -1 := by
          rcases msB_v (W := W) (g := S.1) (p := 1) (nS W) with h | ⟨j, h1, h2, h3, h4⟩
          · exact h
          · exact absurd ⟨h3, h4⟩ (msB_no (nS W) m0 j h2)
        have tops : ∀ s, s < nS W → S.1.testBit (2 * s) = true := fun s hs => by
          have := q0 s hs
          unfold msQ at this
          rw [decide_eq_false (show ¬ x < S.2.1 (1 - 0) from by show ¬ x < S.2.1 1; omega), Bool.false_and, Bool.not_false, Bool.and_true] at this
          cases hc : S.1.testBit (2 * s) with
          | true => rfl
          | false => rw [Nat.add_zero, hc] at this; cases this
        have ex : ∃ s, s < nS W ∧ S.1.testBit (2 * s + 1) = false := by
          refine Classical.byContradiction (fun hne => hn ?_)
          refine (msCt_all h.1).mp ?_
          have : ∀ i, i < 2 * nS W → S.1.testBit i = true := fun i hi => by
            rcases (show i % 2 = 0 ∨ i % 2 = 1 by omega) with he | he
            · have := tops (i / 2) (by omega)
              rwa [show 2 * (i / 2) = i by omega] at this
            · cases hc : S.1.testBit i with
              | true => rfl
              | false => exact absurd ⟨i / 2, by omega, by rw [show 2 * (i / 2) + 1 = i by omega]; exact hc⟩ hne
          unfold msCt
          rw [preS_cg (k := fun _ => 1) (fun i hi => if_pos (this i hi))]
          generalize 2 * nS W = n
          induction n with
          | zero => rfl
          | succ n ih => unfold preS; rw [ih]
        have c1 : msC W S.1 S.2.1 S.2.2.1 1 x ≠ -1 := by
          unfold msC
          rw [if_neg (fun hc => hc m1)]
          intro hc
          obtain ⟨s, hs, hs2⟩ := ex
          have := am_ff_none hc s hs
          unfold msQ at this
          rw [decide_eq_false (show ¬ x < S.2.1 (1 - 1) from by show ¬ x < S.2.1 0; omega), Bool.false_and, Bool.not_false, Bool.and_true, hs2] at this
          cases this
        obtain ⟨c, e, hc2, hc3⟩ := (ms_v (W := W) (g := S.1) (f := S.2.1) (o := S.2.2.1) (x := x) (show 1 < 2 by decide)).resolve_left c1
        have nd := nd_pos hk (i := 2 * c + 1) (by omega)
        unfold msS
        rw [if_pos ⟨b1, c1⟩, e, am_tnn]
        dsimp only
        rw [am_stS rfl]
        omega
      · have e1 : msS W 1 x S = S := by unfold msS; rw [if_neg (fun hc => b1 hc.1)]
        rw [e1]; omega
    · left; omega
theorem ms_min {W : Nat → Int} (hk : wk W) {x : Nat} {S : MS} (h : msK W x S) (hn : S.1 ≠ 2 ^ (2 * nS W) - 1) : msK W (x + 1) (msS W 1 x (msS W 0 x S)) := by
  have h1 := msS_ok hk (p := 1) (by decide) (msS_ok hk (p := 0) (by decide) h)
  have h2 := ms_busy hk h hn
  generalize msS W 1 x (msS W 0 x S) = T at h1 h2
  obtain ⟨k1, k2, k3, k4⟩ := h1
  exact ⟨k1, k2, by omega, k4⟩
theorem ms_x {W : Nat → Int} {x : Nat} {S : MS} (h : msK W x S) : x ≤ 320 ∧ S.2.1 0 ≤ 320 ∧ S.2.1 1 ≤ 320 := by
  obtain ⟨k1, k2, k3, k4⟩ := h
  omega
