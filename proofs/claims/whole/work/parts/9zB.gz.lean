/-! SERVED: guests and ends, the least of the best (a g: at which end GUEST g is served, 0 none) -/
def gzM (n : Nat) (a : Nat → Nat) (r : Nat) : Nat := ax_bs (fun g => decide (a g = r)) n
def gzS (n : Nat) (a : Nat → Nat) (r : Nat) : Nat := ax_bs (fun g => decide (1 ≤ a g ∧ a g < r)) n
def gzW (n : Nat) (v : Nat → Nat → Int) (r U : Nat) : Int := am_fsum (fun g => if U.testBit g = true then v g r else 0) n
def gzOk (n P : Nat) (D : Nat → Nat → Bool) (r S U : Nat) : Prop := U < 2 ^ n ∧ (∀ g, U.testBit g = true → D r g = true ∧ S.testBit g = false) ∧ ax_ct (fun g => U.testBit g) n ≤ P
def gzT (n P N : Nat) (D : Nat → Nat → Bool) (v B : Nat → Nat → Int) : Prop := (∀ S, S < 2 ^ n → B N S = 0) ∧ ∀ r, 1 ≤ r → r < N → ∀ S, S < 2 ^ n → ∀ U, gzOk n P D r S U → gzW n v r U + B (r + 1) (S ||| U) ≤ B r S
def gzTr (n P N : Nat) (D : Nat → Nat → Bool) (v B : Nat → Nat → Int) (a : Nat → Nat) : Prop := (∀ g, g < n → a g < N) ∧ ∀ r, 1 ≤ r → r < N → gzOk n P D r (gzS n a r) (gzM n a r) ∧ gzW n v r (gzM n a r) + B (r + 1) (gzS n a r ||| gzM n a r) = B r (gzS n a r) ∧ ∀ U, gzOk n P D r (gzS n a r) U → gzW n v r U + B (r + 1) (gzS n a r ||| U) = B r (gzS n a r) → gzM n a r ≤ U
def gzF (n P N : Nat) (D : Nat → Nat → Bool) (a : Nat → Nat) : Prop := (∀ g, g < n → a g < N ∧ (1 ≤ a g → D (a g) g = true)) ∧ ∀ r, 1 ≤ r → ax_ct (fun g => decide (a g = r)) n ≤ P
def gzV (n : Nat) (v : Nat → Nat → Int) (a : Nat → Nat) (r : Nat) : Int := am_fsum (fun g => if r ≤ a g then v g (a g) else 0) n
section GZ
variable {n P N : Nat} {D : Nat → Nat → Bool} {v B : Nat → Nat → Int} {a t : Nat → Nat} {r : Nat}
theorem gzS_lt : gzS n a r < 2 ^ n := ax_bs_lt _ _
theorem gzS_or (h : 1 ≤ r) : gzS n a r ||| gzM n a r = gzS n a (r + 1) := by
  unfold gzS gzM
  rw [bs_or]
  refine ax_bs_cg (fun g _ => ?_)
  rw [← Bool.decide_or]
  exact decide_eq_decide.mpr (by omega)
theorem gzM_tb {g : Nat} : (gzM n a r).testBit g = (decide (g < n) && decide (a g = r)) := bs_tb
theorem gzS_tb {g : Nat} : (gzS n a r).testBit g = (decide (g < n) && decide (1 ≤ a g ∧ a g < r)) := bs_tb
theorem gzM_ct : ax_ct (fun g => (gzM n a r).testBit g) n = ax_ct (fun g => decide (a g = r)) n :=
  ax_ct_cg (fun g hg => by rw [gzM_tb, decide_eq_true hg, Bool.true_and])
theorem gzW_M : gzW n v r (gzM n a r) = am_fsum (fun g => if a g = r then v g (a g) else 0) n := by
  unfold gzW
  refine am_fsum_cg (fun g hg => ?_)
  rw [gzM_tb, decide_eq_true hg, Bool.true_and]
  by_cases h : a g = r
  · rw [decide_eq_true h, if_pos rfl, if_pos h, h]
  · rw [decide_eq_false h, if_neg (by decide), if_neg h]
theorem gzV_s : gzV n v a r = gzW n v r (gzM n a r) + gzV n v a (r + 1) := by
  rw [gzW_M]
  unfold gzV
  rw [← am_fsum_add]
  refine am_fsum_cg (fun g _ => ?_)
  by_cases h : a g = r
  · rw [if_pos (by omega), if_pos h, if_neg (by omega)]; omega
  · rw [if_neg h]
    by_cases h2 : r ≤ a g
    · rw [if_pos h2, if_pos (by omega)]; omega
    · rw [if_neg h2, if_neg (by omega)]; rfl
theorem gzOk_M (h1 : 1 ≤ r) (h : gzF n P N D a) : gzOk n P D r (gzS n a r) (gzM n a r) := by
  refine ⟨ax_bs_lt _ _, fun g hg => ?_, ?_⟩
  · rw [gzM_tb, Bool.and_eq_true, decide_eq_true_iff, decide_eq_true_iff] at hg
    have h2 := h.1 g hg.1
    refine ⟨?_, ?_⟩
    · have := h2.2 (by omega)
      rwa [hg.2] at this
    · rw [gzS_tb, decide_eq_true hg.1, Bool.true_and]
      exact decide_eq_false (by omega)
  · rw [gzM_ct]; exact h.2 r h1
theorem gzV_N (h : ∀ g, g < n → a g < N) : gzV n v a N = 0 := by
  unfold gzV
  rw [am_fsum_cg (g := fun _ => 0) (fun g hg => if_neg (by have := h g hg; omega))]
  exact fsum_z n
theorem gz_up (hT : gzT n P N D v B) (ha : gzF n P N D a) : ∀ j, j < N → gzV n v a (N - j) ≤ B (N - j) (gzS n a (N - j)) := by
  intro j
  induction j with
  | zero =>
    intro _
    rw [Nat.sub_zero, gzV_N (fun g hg => (ha.1 g hg).1), hT.1 _ gzS_lt]
    exact Int.le_refl 0
  | succ j ih =>
    intro hj
    have i1 := ih (by omega)
    have e : N - j = N - (j + 1) + 1 := by omega
    rw [e, ← gzS_or (by omega)] at i1
    rw [gzV_s]
    have := hT.2 (N - (j + 1)) (by omega) (by omega) _ (gzS_lt (n := n) (a := a)) _ (gzOk_M (by omega) ha)
    omega
theorem gz_upr (hT : gzT n P N D v B) (ha : gzF n P N D a) (h1 : 1 ≤ r) (h2 : r ≤ N) : gzV n v a r ≤ B r (gzS n a r) := by
  have := gz_up hT ha (N - r) (by omega)
  rwa [show N - (N - r) = r by omega] at this
theorem gz_tr (hT : gzT n P N D v B) (ht : gzTr n P N D v B t) : ∀ j, j < N → gzV n v t (N - j) = B (N - j) (gzS n t (N - j)) := by
  intro j
  induction j with
  | zero =>
    intro _
    rw [Nat.sub_zero, gzV_N ht.1, hT.1 _ gzS_lt]
  | succ j ih =>
    intro hj
    have i1 := ih (by omega)
    have e : N - j = N - (j + 1) + 1 := by omega
    rw [e, ← gzS_or (by omega)] at i1
    rw [gzV_s, i1]
    exact (ht.2 (N - (j + 1)) (by omega) (by omega)).2.1
theorem gz_trr (hT : gzT n P N D v B) (ht : gzTr n P N D v B t) (h1 : 1 ≤ r) (h2 : r ≤ N) : gzV n v t r = B r (gzS n t r) := by
  have := gz_tr hT ht (N - r) (by omega)
  rwa [show N - (N - r) = r by omega] at this
theorem gzS_1 : gzS n a 1 = 0 := by
  refine Nat.eq_of_testBit_eq (fun g => ?_)
  rw [gzS_tb, Nat.zero_testBit, decide_eq_false (p := 1 ≤ a g ∧ a g < 1) (by omega), Bool.and_false]
theorem gz_fs (ht : gzTr n P N D v B t) : gzF n P N D t := by
  refine ⟨fun g hg => ⟨ht.1 g hg, fun h => ?_⟩, fun r hr => ?_⟩
  · refine ((ht.2 (t g) h (ht.1 g hg)).1.2.1 g ?_).1
    rw [gzM_tb, decide_eq_true hg, decide_eq_true rfl]; rfl
  · by_cases h : r < N
    · rw [← gzM_ct]; exact (ht.2 r hr h).1.2.2
    · rw [ax_ct_cg (e := fun _ => false) (fun g hg => decide_eq_false (by have := ht.1 g hg; omega))]
      have : ∀ k, ax_ct (fun _ => false) k = 0 := fun k => by
        induction k with
        | zero => rfl
        | succ k ih => exact ih
      rw [this]; exact Nat.zero_le P
theorem gzV_pre (h1 : 1 ≤ r) : gzV n v a 1 = am_fsum (fun g => if 1 ≤ a g ∧ a g < r then v g (a g) else 0) n + gzV n v a r := by
  unfold gzV
  rw [← am_fsum_add]
  refine am_fsum_cg (fun g _ => ?_)
  by_cases h : 1 ≤ a g
  · rw [if_pos h]
    by_cases h2 : a g < r
    · rw [if_pos ⟨h, h2⟩, if_neg (by omega)]; omega
    · rw [if_neg (by omega), if_pos (by omega)]; omega
  · rw [if_neg h, if_neg (by omega), if_neg (by omega)]; rfl
/-- of the plans that are as good, none is lesser than the one traced -/
theorem gz_lex (hT : gzT n P N D v B) (ht : gzTr n P N D v B t) (ha : gzF n P N D a) (hv : gzV n v a 1 = gzV n v t 1) (h1 : 1 ≤ r) (h2 : r < N) (ag : ∀ g, g < n → ∀ q, 1 ≤ q → q < r → (a g = q ↔ t g = q)) : gzM n t r ≤ gzM n a r := by
  have key : ∀ g, g < n → ((1 ≤ a g ∧ a g < r) ↔ (1 ≤ t g ∧ t g < r)) ∧ (1 ≤ a g ∧ a g < r → a g = t g) := by
    intro g hg
    refine ⟨⟨fun h => ?_, fun h => ?_⟩, fun h => ?_⟩
    · have := (ag g hg (a g) h.1 h.2).mp rfl; omega
    · have := (ag g hg (t g) h.1 h.2).mpr rfl; omega
    · have := (ag g hg (a g) h.1 h.2).mp rfl; omega
  have hS : gzS n a r = gzS n t r := ax_bs_cg (fun g hg => decide_eq_decide.mpr (key g hg).1)
  have p1 := gzV_pre (n := n) (v := v) (a := a) h1
  have p2 := gzV_pre (n := n) (v := v) (a := t) h1
  have pe : am_fsum (fun g => if 1 ≤ a g ∧ a g < r then v g (a g) else 0) n = am_fsum (fun g => if 1 ≤ t g ∧ t g < r then v g (t g) else 0) n := by
    refine am_fsum_cg (fun g hg => ?_)
    have k := key g hg
    by_cases h : 1 ≤ a g ∧ a g < r
    · rw [if_pos h, if_pos (k.1.mp h), k.2 h]
    · rw [if_neg h, if_neg (fun hc => h (k.1.mpr hc))]
  have e1 := gz_trr hT ht h1 (Nat.le_of_lt h2)
  have e2 : gzV n v a r = B r (gzS n a r) := by rw [hS]; omega
  have u := gz_upr hT ha (r := r + 1) (by omega) (by omega)
  have s := gzV_s (n := n) (v := v) (a := a) (r := r)
  rw [← gzS_or h1] at u
  have ok := gzOk_M h1 ha
  have l := hT.2 r h1 h2 _ (gzS_lt (n := n) (a := a)) _ ok
  have eq : gzW n v r (gzM n a r) + B (r + 1) (gzS n a r ||| gzM n a r) = B r (gzS n a r) := by omega
  rw [hS] at ok eq
  exact (ht.2 r h1 h2).2.2 _ ok eq
end GZ
/-! counting -/
theorem ct_or {p q w : Nat → Bool} : ∀ n, (∀ g, g < n → w g = (p g || q g) ∧ (p g && q g) = false) → ax_ct w n = ax_ct p n + ax_ct q n
  | 0, _ => rfl
  | n + 1, h => by
    have ih := ct_or n (fun g hg => h g (by omega))
    have e := h n (by omega)
    unfold ax_ct
    rw [e.1, ih]
    cases hp : p n <;> cases hq : q n
    · rfl
    · simp only [Bool.false_or, cond_true, cond_false]; omega
    · simp only [Bool.true_or, cond_true, cond_false]; omega
    · rw [hp, hq] at e; exact absurd e.2 (by decide)
theorem ct_lt {p : Nat → Bool} {g : Nat} : ∀ n, g < n → p g = false → ax_ct p n < n
  | 0, h, _ => absurd h (Nat.not_lt_zero g)
  | n + 1, h, hp => by
    unfold ax_ct
    by_cases e : g = n
    · subst e
      rw [hp, cond_false]
      have := ax_ct_le p g; omega
    · have := ct_lt (p := p) n (by omega) hp
      cases p n <;> simp only [cond_true, cond_false] <;> omega
theorem ct_mono {p q : Nat → Bool} : ∀ n, (∀ g, g < n → p g = true → q g = true) → ax_ct p n ≤ ax_ct q n
  | 0, _ => Nat.le_refl 0
  | n + 1, h => by
    have ih := ct_mono n (fun g hg => h g (by omega))
    have e := h n (by omega)
    unfold ax_ct
    cases hp : p n
    · cases q n <;> simp only [cond_true, cond_false] <;> omega
    · rw [e hp]; simp only [cond_true]; omega
theorem bs_mono {p q : Nat → Bool} : ∀ n, (∀ g, g < n → p g = true → q g = true) → ax_bs p n ≤ ax_bs q n
  | 0, _ => Nat.le_refl 0
  | n + 1, h => by
    have ih := bs_mono n (fun g hg => h g (by omega))
    have e := h n (by omega)
    have tp := Nat.two_pow_pos n
    unfold ax_bs
    cases hp : p n
    · cases q n <;> simp only [cond_true, cond_false] <;> omega
    · rw [e hp]; simp only [cond_true]; omega
theorem bs_less {p q : Nat → Bool} {g : Nat} : ∀ n, g < n → (∀ x, x < n → p x = true → q x = true) → p g = false → q g = true → ax_bs p n < ax_bs q n
  | 0, h, _, _, _ => absurd h (Nat.not_lt_zero g)
  | n + 1, h, hm, h1, h2 => by
    unfold ax_bs
    by_cases e : g = n
    · subst e
      have := bs_mono g (fun x hx => hm x (by omega))
      have := Nat.two_pow_pos g
      rw [h1, h2, cond_false, cond_true]; omega
    · have ih := bs_less n (by omega) (fun x hx => hm x (by omega)) h1 h2
      have tp := Nat.two_pow_pos n
      have e2 := hm n (by omega)
      cases hp : p n
      · cases q n <;> simp only [cond_true, cond_false] <;> omega
      · rw [e2 hp]; simp only [cond_true]; omega
section GZ
variable {n P N : Nat} {D : Nat → Nat → Bool} {v B : Nat → Nat → Int} {a t : Nat → Nat} {r : Nat}
theorem gz_pig {lo k g : Nat} (hg : g < n) (hP : n ≤ k * P) (ho : ¬ (lo ≤ t g ∧ t g < lo + k)) : ∃ r, lo ≤ r ∧ r < lo + k ∧ ax_ct (fun h => decide (t h = r)) n < P := by
  refine Classical.byContradiction (fun hc => ?_)
  have hc : ∀ r, lo ≤ r → r < lo + k → P ≤ ax_ct (fun h => decide (t h = r)) n := fun r h1 h2 => by
    refine Classical.byContradiction (fun h3 => hc ⟨r, h1, h2, by omega⟩)
  have L : ∀ j, j ≤ k → j * P ≤ ax_ct (fun h => decide (lo ≤ t h ∧ t h < lo + j)) n := by
    intro j
    induction j with
    | zero => intro _; rw [Nat.zero_mul]; exact Nat.zero_le _
    | succ j ih =>
      intro hj
      have i1 := ih (by omega)
      have i2 := hc (lo + j) (by omega) (by omega)
      rw [ct_or (p := fun h => decide (lo ≤ t h ∧ t h < lo + j)) (q := fun h => decide (t h = lo + j)) n (fun g _ => ⟨by rw [← Bool.decide_or]; exact decide_eq_decide.mpr (by omega), by rw [← Bool.decide_and]; exact decide_eq_false (by omega)⟩), Nat.succ_mul]
      omega
  have l1 := L k (Nat.le_refl k)
  have l2 := ct_lt (p := fun h => decide (lo ≤ t h ∧ t h < lo + k)) n hg (decide_eq_false ho)
  omega
theorem gzV_set {g x : Nat} (hg : g < n) : gzV n v (am_set t g x) 1 = gzV n v t 1 - (if 1 ≤ t g then v g (t g) else 0) + (if 1 ≤ x then v g x else 0) := by
  unfold gzV
  have A : ∀ k, am_fsum (fun h => if 1 ≤ am_set t g x h then v h (am_set t g x h) else 0) k = am_fsum (fun h => if 1 ≤ t h then v h (t h) else 0) k + (if g < k then (if 1 ≤ x then v g x else 0) - (if 1 ≤ t g then v g (t g) else 0) else 0) := by
    intro k
    induction k with
    | zero => rw [if_neg (Nat.not_lt_zero g)]; rfl
    | succ k ih =>
      rw [fsum_s, fsum_s, ih]
      by_cases e : k = g
      · subst e
        rw [am_stS rfl, if_neg (Nat.lt_irrefl k), if_pos (Nat.lt_succ_self k)]; omega
      · rw [am_stO e]
        by_cases h : g < k
        · rw [if_pos h, if_pos (show g < k + 1 by omega)]; exact Int.add_right_comm _ _ _
        · rw [if_neg h, if_neg (show ¬ g < k + 1 by omega), Int.add_zero, Int.add_zero]
  rw [A n, if_pos hg]; omega
theorem gzF_set {g x : Nat} (hg : g < n) (ha : gzF n P N D t) (hx : x < N) (hD : 1 ≤ x → D x g = true) (hc : 1 ≤ x → ax_ct (fun h => decide (t h = x)) n < P) : gzF n P N D (am_set t g x) := by
  refine ⟨fun h hh => ?_, fun r hr => ?_⟩
  · by_cases e : h = g
    · subst e; rw [am_stS rfl]; exact ⟨hx, hD⟩
    · rw [am_stO e]; exact ha.1 h hh
  · by_cases e : r = x
    · subst e
      have c1 := hc hr
      have : ax_ct (fun h => decide (am_set t g r h = r)) n ≤ ax_ct (fun h => decide (t h = r)) n + 1 := by
        have c2 : ∀ k, ax_ct (fun h => decide (am_set t g r h = r)) k ≤ ax_ct (fun h => decide (t h = r)) k + (if g < k then 1 else 0) := by
          intro k
          induction k with
          | zero => exact Nat.zero_le _
          | succ k ih =>
            unfold ax_ct
            by_cases e : k = g
            · subst e
              rw [if_neg (Nat.lt_irrefl k)] at ih
              rw [am_stS rfl, if_pos (Nat.lt_succ_self k), decide_eq_true rfl, cond_true]
              cases decide (t k = r) <;> simp only [cond_true, cond_false] <;> omega
            · rw [am_stO e]
              have : (if g < k + 1 then 1 else 0) = if g < k then 1 else 0 := by
                by_cases h : g < k
                · rw [if_pos h, if_pos (by omega)]
                · rw [if_neg h, if_neg (by omega)]
              rw [this]
              cases decide (t k = r) <;> simp only [cond_true, cond_false] <;> omega
        have := c2 n
        rwa [if_pos hg] at this
      omega
    · refine Nat.le_trans (ct_mono n (fun h _ hh => ?_)) (ha.2 r hr)
      rw [decide_eq_true_iff] at hh ⊢
      by_cases e2 : h = g
      · subst e2; rw [am_stS rfl] at hh; omega
      · rwa [am_stO e2] at hh
theorem gzM_set {g x : Nat} (hg : g < n) (h1 : x ≠ t g) : gzM n (am_set t g x) (t g) < gzM n t (t g) := by
  refine bs_less n hg (fun h _ hh => ?_) (by rw [am_stS rfl]; exact decide_eq_false h1) (decide_eq_true rfl)
  rw [decide_eq_true_iff] at hh ⊢
  by_cases e : h = g
  · subst e; rfl
  · rwa [am_stO e] at hh
/-- where the least of the best serves a GUEST -/
theorem gz_in {k : Nat} {la : Nat → Nat} (hT : gzT n P N (fun _ _ => true) v B) (ht : gzTr n P N (fun _ _ => true) v B t) (hv : ∀ g, g < n → ∀ r, 0 ≤ v g r) (hP : n ≤ k * P) (hN : ∀ g, g < n → la g < N) (he : ∀ g, g < n → ∀ r q, r < q → q ≤ la g → 0 < v g r → v g q = v g r) (hl : ∀ g, g < n → ∀ r q, la g < q → q < r → 0 < v g r → v g r < v g q) : ∀ g, g < n → 1 ≤ t g → 0 < v g (t g) ∧ la g < t g + k ∧ t g ≤ la g + k := by
  intro g hg h1
  have hF := gz_fs ht
  have hb := (hF.1 g hg).1
  have ag : ∀ x, (1 ≤ x → t g < x) → ∀ h, h < n → ∀ q, 1 ≤ q → q < t g → (am_set t g x h = q ↔ t h = q) := by
    intro x hx h hh q q1 q2
    by_cases e : h = g
    · subst e
      rw [am_stS rfl]
      constructor
      · intro e; have := hx (by omega); omega
      · intro e; omega
    · rw [am_stO e]
  have pos : 0 < v g (t g) := by
    refine Classical.byContradiction (fun hc => ?_)
    have z : v g (t g) = 0 := by have := hv g hg (t g); omega
    have f := gzF_set (x := 0) hg hF (by omega) (fun h => absurd h (by decide)) (fun h => absurd h (by decide))
    have e := gzV_set (v := v) (t := t) (x := 0) hg
    rw [if_pos h1, if_neg (by decide), z] at e
    have l := gz_lex hT ht f (by omega) h1 hb (ag 0 (fun h => absurd h (by decide)))
    have l2 := gzM_set (t := t) (x := 0) hg (by omega)
    omega
  refine ⟨pos, ?_, ?_⟩
  · refine Classical.byContradiction (fun hc => ?_)
    obtain ⟨r, r1, r2, r3⟩ := gz_pig (t := t) (lo := la g + 1 - k) (k := k) hg hP (by omega)
    have f := gzF_set (x := r) hg hF (by have := hN g hg; omega) (fun _ => rfl) (fun _ => r3)
    have e := gzV_set (v := v) (t := t) (x := r) hg
    rw [if_pos h1, if_pos (by omega), he g hg (t g) r (by omega) (by omega) pos] at e
    have l := gz_lex hT ht f (by omega) h1 hb (ag r (fun _ => by omega))
    have l2 := gzM_set (t := t) (x := r) hg (by omega)
    omega
  · refine Classical.byContradiction (fun hc => ?_)
    obtain ⟨r, r1, r2, r3⟩ := gz_pig (t := t) (lo := la g + 1) (k := k) hg hP (by omega)
    have f := gzF_set (x := r) hg hF (by omega) (fun _ => rfl) (fun _ => r3)
    have e := gzV_set (v := v) (t := t) (x := r) hg
    have lt := hl g hg (t g) r (by omega) (by omega) pos
    rw [if_pos h1, if_pos (by omega)] at e
    have u := gz_upr hT f (r := 1) (Nat.le_refl 1) (by omega)
    have u2 := gz_trr hT ht (r := 1) (Nat.le_refl 1) (by omega)
    rw [gzS_1] at u u2
    omega
/-- few ends are enough -/
theorem gz_same {k N2 : Nat} {la t2 : Nat → Nat} {D2 : Nat → Nat → Bool} {B2 : Nat → Nat → Int} (hT : gzT n P N (fun _ _ => true) v B) (ht : gzTr n P N (fun _ _ => true) v B t) (hT2 : gzT n P N2 D2 v B2) (ht2 : gzTr n P N2 D2 v B2 t2) (hv : ∀ g, g < n → ∀ r, 0 ≤ v g r) (hP : n ≤ k * P) (hN : ∀ g, g < n → la g < N) (he : ∀ g, g < n → ∀ r q, r < q → q ≤ la g → 0 < v g r → v g q = v g r) (hl : ∀ g, g < n → ∀ r q, la g < q → q < r → 0 < v g r → v g r < v g q) (h1 : 1 ≤ N) (h12 : 1 ≤ N2)
    (hD : ∀ g, g < n → ∀ r, 1 ≤ r → (D2 r g = true ↔ la g < r + k ∧ r ≤ la g + k ∧ 0 < v g r)) (hN2 : ∀ g, g < n → la g + k < N2) (hN1 : ∀ g, g < n → ∀ r, 0 < v g r → r < N) : (∀ g, g < n → t g = t2 g) ∧ B 1 0 = B2 1 0 := by
  have i1 := gz_in hT ht hv hP hN he hl
  have f1 : gzF n P N2 D2 t := by
    refine ⟨fun g hg => ?_, (gz_fs ht).2⟩
    by_cases h : 1 ≤ t g
    · have i := i1 g hg h
      have := hN2 g hg
      exact ⟨by omega, fun _ => (hD g hg _ h).mpr ⟨i.2.1, i.2.2, i.1⟩⟩
    · exact ⟨by omega, fun h2 => absurd h2 h⟩
  have f2 : gzF n P N (fun _ _ => true) t2 := by
    refine ⟨fun g hg => ⟨?_, fun _ => rfl⟩, (gz_fs ht2).2⟩
    by_cases h : 1 ≤ t2 g
    · exact hN1 g hg _ ((hD g hg _ h).mp (((gz_fs ht2).1 g hg).2 h)).2.2
    · omega
  have a1 := gz_upr hT f2 (Nat.le_refl 1) h1
  have a2 := gz_upr hT2 f1 (Nat.le_refl 1) h12
  have b1 := gz_trr hT ht (Nat.le_refl 1) h1
  have b2 := gz_trr hT2 ht2 (Nat.le_refl 1) h12
  rw [gzS_1] at a1 a2 b1 b2
  have ve : gzV n v t 1 = gzV n v t2 1 := by omega
  have L : ∀ r, 1 ≤ r → ∀ g, g < n → (t g = r ↔ t2 g = r) := by
    intro r
    induction r using Nat.strongRecOn with
    | ind r ih =>
      intro hr g hg
      by_cases hb : r < N ∧ r < N2
      · have l1 := gz_lex hT ht f2 ve.symm hr hb.1 (fun h hh q q1 q2 => (ih q q2 q1 h hh).symm)
        have l2 := gz_lex hT2 ht2 f1 ve hr hb.2 (fun h hh q q1 q2 => ih q q2 q1 h hh)
        have e : gzM n t r = gzM n t2 r := Nat.le_antisymm l1 l2
        have e2 : (gzM n t r).testBit g = (gzM n t2 r).testBit g := by rw [e]
        rw [gzM_tb, gzM_tb, decide_eq_true hg, Bool.true_and, Bool.true_and] at e2
        exact decide_eq_decide.mp e2
      · have := (f1.1 g hg).1
        have := (f2.1 g hg).1
        have := ht.1 g hg
        have := ht2.1 g hg
        omega
  refine ⟨fun g hg => ?_, by omega⟩
  by_cases h : 1 ≤ t g
  · exact ((L (t g) h g hg).mp rfl).symm
  · by_cases h2 : 1 ≤ t2 g
    · have := (L (t2 g) h2 g hg).mpr rfl; omega
    · omega
end GZ
