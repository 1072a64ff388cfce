/-! A PLAN'S OWN METHODS -/
section PLAN
variable {m sl : Nat} {sh : Nat → Nat × Nat} {I : Nat → Nat → Int} {R : Nat → Nat → Nat} {Q : am_R → am_M → Prop} {d p q : Nat}
/-- p is a Plan, q its row -/
def pl_is (sh : Nat → Nat × Nat) (R : Nat → Nat → Nat) (p q : Nat) : Prop := sh p = (5, 2) ∧ R p 0 = q ∧ sh q = (32, 400) ∧ 4 ≤ q
/-- its GOES: n of them, of the k-th side, begin, place, minutes -/
def pl_ok (I : Nat → Nat → Int) (p q n : Nat) (g : Nat → Nat → Int) : Prop := I p 1 = (n : Int) ∧ n ≤ 400 ∧ ∀ k, k < n → I q k = g k 0 + g k 2 * 16 + g k 3 * 64 + g k 1 * 2048 ∧ (0 ≤ g k 0 ∧ g k 0 < 16) ∧ (0 ≤ g k 2 ∧ g k 2 < 4) ∧ (0 ≤ g k 3 ∧ g k 3 < 32) ∧ (0 ≤ g k 1 ∧ g k 1 < 1000)
theorem w_bitsOf (hp : pl_is sh R p q) {n : Nat} {g : Nat → Nat → Int} (ho : pl_ok I p q n g) {k : Nat} (hk : k < n) (h : Q (.inl (some (.inl (I q k)))) (m, sl, sh, I, R)) : am_wp d 61 0 [some (.inr (.inr p)), some (.inl (k : Int))] [] (m, sl, sh, I, R) Q := by
  obtain ⟨h1, h2, h3, h4⟩ := hp
  obtain ⟨o1, o2, -⟩ := ho
  refine am_wp_run 2 _ _ _ _ rfl (by simp only [and_self]) ?_
  refine am_wp_if (fun hk1 => ?_) (fun hk1 => ?_)
  · omega
  refine am_wp_run 4 _ _ _ _ rfl (by simp only [h1, h2, h3, and_self, true_and, and_true] <;> omega) ?_
  refine am_wp_if (fun hk2 => ?_) (fun hk2 => ?_)
  · omega
  refine am_wp_run 5 _ _ _ _ rfl (by simp only [h1, h2, h3, and_self, true_and, and_true] <;> omega) ?_
  refine am_wp_ret rfl rfl ?_
  rw [h2]
  exact h
theorem w_sideOf (hp : pl_is sh R p q) {n : Nat} {g : Nat → Nat → Int} (ho : pl_ok I p q n g) {k : Nat} (hk : k < n) (h : Q (.inl (some (.inl (g k 0)))) (m, sl, sh, I, R)) : am_wp (d + 1) 62 0 [some (.inr (.inr p)), some (.inl (k : Int))] [] (m, sl, sh, I, R) Q := by
  refine am_wp_run 2 _ _ _ _ rfl (by simp only [and_self]) ?_
  refine am_wp_cv rfl rfl rfl (congrArg Prod.fst hp.1) (fun _ h9 => w_bitsOf hp ho hk h9) ?_
  refine am_wp_run 2 _ _ _ _ rfl (by simp only [and_self]) ?_
  refine am_wp_ret rfl rfl ?_
  obtain ⟨o1, o2, o3⟩ := ho
  obtain ⟨e, r0, r2, r3, r1⟩ := o3 k hk
  rw [am_and_mask (by omega) (by omega) 4 rfl, e, show (g k 0 + g k 2 * 16 + g k 3 * 64 + g k 1 * 2048) % 2 ^ 4 = g k 0 by omega]
  exact h
theorem w_beginOf (hp : pl_is sh R p q) {n : Nat} {g : Nat → Nat → Int} (ho : pl_ok I p q n g) {k : Nat} (hk : k < n) (h : Q (.inl (some (.inl (g k 1)))) (m, sl, sh, I, R)) : am_wp (d + 1) 65 0 [some (.inr (.inr p)), some (.inl (k : Int))] [] (m, sl, sh, I, R) Q := by
  refine am_wp_run 2 _ _ _ _ rfl (by simp only [and_self]) ?_
  refine am_wp_cv rfl rfl rfl (congrArg Prod.fst hp.1) (fun _ h9 => w_bitsOf hp ho hk h9) ?_
  refine am_wp_run 2 _ _ _ _ rfl (by simp only [and_self]) ?_
  refine am_wp_ret rfl rfl ?_
  obtain ⟨o1, o2, o3⟩ := ho
  obtain ⟨e, r0, r2, r3, r1⟩ := o3 k hk
  rw [am_ushr_eq (by omega) (by omega) 11 rfl, e, show (g k 0 + g k 2 * 16 + g k 3 * 64 + g k 1 * 2048) / 2 ^ 11 = g k 1 by omega]
  exact h
theorem w_placeOf (hp : pl_is sh R p q) {n : Nat} {g : Nat → Nat → Int} (ho : pl_ok I p q n g) {k : Nat} (hk : k < n) (h : Q (.inl (some (.inl (g k 2)))) (m, sl, sh, I, R)) : am_wp (d + 1) 63 0 [some (.inr (.inr p)), some (.inl (k : Int))] [] (m, sl, sh, I, R) Q := by
  refine am_wp_run 2 _ _ _ _ rfl (by simp only [and_self]) ?_
  refine am_wp_cv rfl rfl rfl (congrArg Prod.fst hp.1) (fun _ h9 => w_bitsOf hp ho hk h9) ?_
  refine am_wp_run 4 _ _ _ _ rfl (by simp only [and_self]) ?_
  refine am_wp_ret rfl rfl ?_
  obtain ⟨o1, o2, o3⟩ := ho
  obtain ⟨e, r0, r2, r3, r1⟩ := o3 k hk
  rw [am_ushr_eq (by omega) (by omega) 4 rfl, am_and_mask (by omega) (by omega) 2 rfl, e, show (g k 0 + g k 2 * 16 + g k 3 * 64 + g k 1 * 2048) / 2 ^ 4 % 2 ^ 2 = g k 2 by omega]
  exact h
theorem w_minutesOf (hp : pl_is sh R p q) {n : Nat} {g : Nat → Nat → Int} (ho : pl_ok I p q n g) {k : Nat} (hk : k < n) (h : Q (.inl (some (.inl (g k 3)))) (m, sl, sh, I, R)) : am_wp (d + 1) 64 0 [some (.inr (.inr p)), some (.inl (k : Int))] [] (m, sl, sh, I, R) Q := by
  refine am_wp_run 2 _ _ _ _ rfl (by simp only [and_self]) ?_
  refine am_wp_cv rfl rfl rfl (congrArg Prod.fst hp.1) (fun _ h9 => w_bitsOf hp ho hk h9) ?_
  refine am_wp_run 4 _ _ _ _ rfl (by simp only [and_self]) ?_
  refine am_wp_ret rfl rfl ?_
  obtain ⟨o1, o2, o3⟩ := ho
  obtain ⟨e, r0, r2, r3, r1⟩ := o3 k hk
  rw [am_ushr_eq (by omega) (by omega) 6 rfl, am_and_mask (by omega) (by omega) 5 rfl, e, show (g k 0 + g k 2 * 16 + g k 3 * 64 + g k 1 * 2048) / 2 ^ 6 % 2 ^ 5 = g k 3 by omega]
  exact h
theorem w_endOf (hp : pl_is sh R p q) {n : Nat} {g : Nat → Nat → Int} (ho : pl_ok I p q n g) {k : Nat} (hk : k < n) (h : Q (.inl (some (.inl (g k 1 + g k 3)))) (m, sl, sh, I, R)) : am_wp (d + 1) 66 0 [some (.inr (.inr p)), some (.inl (k : Int)), none] [] (m, sl, sh, I, R) Q := by
  refine am_wp_run 2 _ _ _ _ rfl (by simp only [and_self]) ?_
  refine am_wp_cv rfl rfl rfl (congrArg Prod.fst hp.1) (fun _ h9 => w_bitsOf hp ho hk h9) ?_
  refine am_wp_run 10 _ _ _ _ rfl (by simp only [and_self, true_and, and_true]; decide) ?_
  refine am_wp_ret rfl rfl ?_
  obtain ⟨o1, o2, o3⟩ := ho
  obtain ⟨e, r0, r2, r3, r1⟩ := o3 k hk
  have e1 : am_ushr (I q k) 11 = g k 1 := by rw [am_ushr_eq (by omega) (by omega) 11 rfl]; omega
  have e2 : am_and (am_ushr (I q k) 6) 31 = g k 3 := by rw [am_ushr_eq (by omega) (by omega) 6 rfl, am_and_mask (by omega) (by omega) 5 rfl]; omega
  show Q (.inl (some (.inl (am_add (am_ushr (I q k) 11) (am_and (am_ushr (I q k) 6) 31))))) _
  rw [e1, e2, am_add_eq (by omega) (by omega)]
  exact h
theorem w_lastEnd (hp : pl_is sh R p q) {n : Nat} {g : Nat → Nat → Int} (ho : pl_ok I p q n g) (h : Q (.inl (some (.inl (am_fmax (fun k => g k 1 + g k 3) n)))) (m, sl, sh, I, R)) : am_wp (d + 2) 71 0 [some (.inr (.inr p)), none, none] [] (m, sl, sh, I, R) Q := by
  refine am_wp_run 4 _ _ _ _ rfl (by simp only [and_self, true_and, and_true]; decide) ?_
  refine am_up_to (P := fun k => am_wp (d + 2) 71 4 [some (.inr (.inr p)), some (.inl (am_fmax (fun k => g k 1 + g k 3) k)), some (.inl (k : Int))] [] (m, sl, sh, I, R) Q) n ?_ (fun k hk ih => ?_)
  · obtain ⟨h1, h2, h3, h4⟩ := hp
    obtain ⟨o1, o2, o3⟩ := ho
    refine am_wp_run 4 _ _ _ _ rfl (by simp only [h1, h2, h3, and_self, true_and, and_true] <;> omega) ?_
    refine am_wp_if (fun hk1 => ?_) (fun hk1 => ?_)
    · refine am_wp_run 1 _ _ _ _ rfl (by simp only [and_self]) ?_
      refine am_wp_ret rfl rfl ?_
      exact h
    · omega
  · obtain ⟨h1, h2, h3, h4⟩ := id hp
    obtain ⟨o1, o2, o3⟩ := id ho
    refine am_wp_run 4 _ _ _ _ rfl (by simp only [h1, h2, h3, and_self, true_and, and_true] <;> omega) ?_
    refine am_wp_if (fun hk1 => ?_) (fun hk1 => ?_)
    · omega
    · refine am_wp_run 3 _ _ _ _ rfl (by simp only [and_self]) ?_
      refine am_wp_cv rfl rfl rfl (congrArg Prod.fst hp.1) (fun _ h9 => w_endOf hp ho hk h9) ?_
      refine am_wp_run 4 _ _ _ _ rfl (by simp only [and_self, true_and, and_true]; decide) ?_
      refine am_wp_eq ih ?_ rfl
      show [some (.inr (.inr p)), some (.inl _), some (.inl (am_add (k : Int) 1))] = _
      rw [am_inc (by omega)]
      rfl
end PLAN
