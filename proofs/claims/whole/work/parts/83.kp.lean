/-! A KITCHEN's text, abstract -/
theorem list_end (l : List Nat) : l = [] ∨ ∃ (k : List Nat) (x : Nat), l = k ++ [x] := by
  rcases List.eq_nil_or_concat l with e | ⟨k, x, e⟩
  · exact Or.inl e
  · exact Or.inr ⟨k, x, by rw [e, List.concat_eq_append]⟩
theorem nm32_inj : ∀ (n : Nat) (ws vs : List Nat), ws.length ≤ n → (∀ w, w ∈ ws → 1 ≤ w ∧ w ≤ 26) → (∀ w, w ∈ vs → 1 ≤ w ∧ w ≤ 26) → nm32 ws = nm32 vs → ws = vs := by
  have sn : ∀ (l : List Nat) (x : Nat), nm32 (l ++ [x]) = nm32 l * 32 + x := fun l x => by unfold nm32; rw [List.foldl_append]; rfl
  intro n
  induction n with
  | zero =>
    intro ws vs h1 h2 h3 h4
    have : ws = [] := List.length_eq_zero_iff.mp (by omega)
    subst this
    rcases list_end vs with e | ⟨l, x, e⟩
    · exact e.symm
    · subst e
      rw [sn] at h4
      have := h3 x (by simp)
      have h5 : (0 : Nat) = nm32 l * 32 + x := h4
      omega
  | succ n ih =>
    intro ws vs h1 h2 h3 h4
    rcases list_end ws with e | ⟨k, y, e⟩
    · subst e
      rcases list_end vs with e | ⟨l, x, e⟩
      · exact e.symm
      · subst e
        rw [sn] at h4
        have := h3 x (by simp)
        have h5 : (0 : Nat) = nm32 l * 32 + x := h4
        omega
    · subst e
      have hy := h2 y (by simp)
      rcases list_end vs with e | ⟨l, x, e⟩
      · subst e
        rw [sn] at h4
        have h5 : nm32 k * 32 + y = 0 := h4
        omega
      · subst e
        have hx := h3 x (by simp)
        rw [sn, sn] at h4
        have e1 : nm32 k = nm32 l := by omega
        have e2 : y = x := by omega
        rw [List.length_append, List.length_singleton] at h1
        rw [ih k l (by omega) (fun w hw => h2 w (by simp [hw])) (fun w hw => h3 w (by simp [hw])) e1, e2]
theorem nm27_inj : ∀ (n : Nat) (ws vs : List Nat), ws.length ≤ n → (∀ w, w ∈ ws → 1 ≤ w ∧ w ≤ 26) → (∀ w, w ∈ vs → 1 ≤ w ∧ w ≤ 26) → nm27 ws = nm27 vs → ws = vs := by
  have sn : ∀ (l : List Nat) (x : Nat), nm27 (l ++ [x]) = 27 * nm27 l + x := fun l x => by unfold nm27; rw [List.foldl_append]; rfl
  intro n
  induction n with
  | zero =>
    intro ws vs h1 h2 h3 h4
    have : ws = [] := List.length_eq_zero_iff.mp (by omega)
    subst this
    rcases list_end vs with e | ⟨l, x, e⟩
    · exact e.symm
    · subst e
      rw [sn] at h4
      have := h3 x (by simp)
      have h5 : (0 : Nat) = 27 * nm27 l + x := h4
      omega
  | succ n ih =>
    intro ws vs h1 h2 h3 h4
    rcases list_end ws with e | ⟨k, y, e⟩
    · subst e
      rcases list_end vs with e | ⟨l, x, e⟩
      · exact e.symm
      · subst e
        rw [sn] at h4
        have := h3 x (by simp)
        have h5 : (0 : Nat) = 27 * nm27 l + x := h4
        omega
    · subst e
      have hy := h2 y (by simp)
      rcases list_end vs with e | ⟨l, x, e⟩
      · subst e
        rw [sn] at h4
        have h5 : 27 * nm27 k + y = 0 := h4
        omega
      · subst e
        have hx := h3 x (by simp)
        rw [sn, sn] at h4
        have e1 : nm27 k = nm27 l := by omega
        have e2 : y = x := by omega
        rw [List.length_append, List.length_singleton] at h1
        rw [ih k l (by omega) (fun w hw => h2 w (by simp [hw])) (fun w hw => h3 w (by simp [hw])) e1, e2]
theorem letOk_mem {ws : List Nat} (h : letOk ws) : ∀ w, w ∈ ws → 1 ≤ w ∧ w ≤ 26 := fun w hw => by
  obtain ⟨k, hk, e⟩ := List.getElem_of_mem hw
  have := h.2.2 k hk
  rw [List.getD_eq_getElem?_getD, List.getElem?_eq_getElem hk, Option.getD_some, e] at this
  exact this
theorem nm32_iff {ws vs : List Nat} (h : letOk ws) (g : letOk vs) : nm32 ws = nm32 vs ↔ ws = vs := ⟨fun e => nm32_inj 6 ws vs h.2.1 (letOk_mem h) (letOk_mem g) e, fun e => by rw [e]⟩
theorem nm27_iff {ws vs : List Nat} (h : letOk ws) (g : letOk vs) : nm27 ws = nm27 vs ↔ ws = vs := ⟨fun e => nm27_inj 6 ws vs h.2.1 (letOk_mem h) (letOk_mem g) e, fun e => by rw [e]⟩
/-- WORDS are letters -/
def tkOk (T : Nat → Tk) : Prop := ∀ i, ((T i).1 = 2 → letOk (T i).2.2.1) ∧ ((T i).1 = 4 → (T i).2.2.2 ≤ 999) ∧ ((T i).1 = 5 → (T i).2.2.2 ≤ 127)
theorem lxJ_ok {b : Nat → Nat} {n lim : Nat} : tkOk (lxJ b n lim) := by
  intro j
  have hP := lxP_le (b := b) (n := n) j
  unfold lxJ lxT
  split
  · exact ⟨fun h => absurd (show (1 : Nat) = 2 from h) (by decide), fun h => absurd (show (1 : Nat) = 4 from h) (by decide), fun h => absurd (show (1 : Nat) = 5 from h) (by decide)⟩
  · split
    · exact ⟨fun h => absurd (show (0 : Nat) = 2 from h) (by decide), fun h => absurd (show (0 : Nat) = 4 from h) (by decide), fun h => absurd (show (0 : Nat) = 5 from h) (by decide)⟩
    · rename_i h2
      split
      · rename_i ha
        obtain ⟨v1, v2, v3, v4⟩ := lxE_v (n := n) (f := lxS b n (lxP b n j)) (by omega) ha
        generalize lxS b n (lxP b n j) = f at *
        dsimp only
        refine ⟨fun h => ?_, fun h => ?_, fun h => ?_⟩
        · unfold lxK at h
          split at h
          · rename_i hc; exact lxW_ok (by omega) hc.2 hc.1
          · split at h <;> omega
        · unfold lxK at h
          split at h
          · omega
          · split at h
            · rename_i hc
              have := lxN_b _ hc.1
              have l2 : 10 ^ (lxE b n f - f) ≤ 1000 := Nat.le_trans (Nat.pow_le_pow_right (by decide) hc.2) (by decide)
              omega
            · omega
        · unfold lxK at h
          split at h
          · omega
          · split at h <;> omega
      · dsimp only
        refine ⟨fun h => by split at h <;> omega, fun h => by split at h <;> omega, fun h => ?_⟩
        split at h
        · rename_i hg; have := lxG_t.mp hg; omega
        · omega
abbrev KS : Type := Nat × (Nat → Int) × Nat × (Nat → List Nat)
abbrev KR : Type := (Nat × Nat) ⊕ KS
def plT (T : Nat → Tk) (j : Nat) : Nat := (T j).2.1
/-- a NUMBER, then on -/
def kN (T : Nat → Tk) (j a b : Nat) (k : Nat → KR) : KR := if nmF (T j) a b ≠ 0 then .inl (nmF (T j) a b, plT T j) else k (T j).2.2.2
def kPlain (T : Nat → Tk) (S : KS) (w a b : Nat) : KR := if S.2.2.1.testBit w = true then .inl (3, plT T S.1) else kN T (S.1 + 1) a b (fun v => .inr (S.1 + 2, am_set S.2.1 w (v : Int), S.2.2.1 ||| 2 ^ w, S.2.2.2))
def kBurn (T : Nat → Tk) (S : KS) : KR := if S.2.2.1.testBit 3 = true then .inl (3, plT T S.1) else kN T (S.1 + 1) 0 19 (fun v => kN T (S.1 + 2) (v + 1) 20 (fun u => .inr (S.1 + 3, am_set (am_set S.2.1 3 (v : Int)) 4 (u : Int), S.2.2.1 ||| 2 ^ 3, S.2.2.2)))
/-- which SLICE, GUEST has the NAME -/
def kFd (NM : Nat → List Nat) (o n : Nat) (ws : List Nat) : Int := am_ff (fun s => decide (NM (o + s) = ws)) n 0
def kNew (T : Nat → Tk) (j : Nat) (S : KS) (k : KR) : KR := if cK (T j) ≠ 2 then .inl (1, plT T j) else if kFd S.2.2.2 0 (nS S.2.1) (T j).2.2.1 ≠ -1 ∨ kFd S.2.2.2 8 (nG S.2.1) (T j).2.2.1 ≠ -1 then .inl (3, plT T j) else k
def kSlW (W : Nat → Int) (t u o : Int) : Nat → Int := am_set (am_set (am_set (am_set W (8 + 3 * nS W) t) (8 + 3 * nS W + 1) u) (8 + 3 * nS W + 2) o) 5 ((nS W : Int) + 1)
def kSlice (T : Nat → Tk) (S : KS) : KR := if nS S.2.1 = 8 then .inl (4, plT T S.1) else kNew T (S.1 + 1) S (kN T (S.1 + 2) 1 20 (fun t => kN T (S.1 + 3) 1 20 (fun u => .inr ((if owC (T (S.1 + 4)) = 7 then S.1 + 5 else S.1 + 4), kSlW S.2.1 (t : Int) (u : Int) (if owC (T (S.1 + 4)) = 7 then 1 else 0), S.2.2.1, am_set S.2.2.2 (nS S.2.1) (T (S.1 + 1)).2.2.1))))
def kGuW (W : Nat → Int) (t u : Int) : Nat → Int := am_set (am_set (am_set W (32 + 2 * nG W) t) (32 + 2 * nG W + 1) u) 6 ((nG W : Int) + 1)
def kGuest (T : Nat → Tk) (S : KS) : KR := if nG S.2.1 = 8 then .inl (4, plT T S.1) else kNew T (S.1 + 1) S (kN T (S.1 + 2) 0 240 (fun t => kN T (S.1 + 3) 0 99 (fun u => .inr (S.1 + 4, kGuW S.2.1 (t : Int) (u : Int), S.2.2.1, am_set S.2.2.2 (8 + nG S.2.1) (T (S.1 + 1)).2.2.1))))
def kSoW (W : Nat → Int) (t u : Int) : Nat → Int := am_set (am_set (am_set W (48 + 2 * nK W) t) (48 + 2 * nK W + 1) u) 7 ((nK W : Int) + 1)
def kSort (T : Nat → Tk) (S : KS) : KR := if nK S.2.1 = 5 then .inl (4, plT T S.1) else kN T (S.1 + 1) 1 9 (fun t => kN T (S.1 + 2) 1 99 (fun u => .inr (S.1 + 3, kSoW S.2.1 (t : Int) (u : Int), S.2.2.1, S.2.2.2)))
def kLine (T : Nat → Tk) (S : KS) : KR := if owC (T S.1) = 0 then kPlain T S 0 1 4 else if owC (T S.1) = 1 then kPlain T S 1 0 9 else if owC (T S.1) = 2 then kPlain T S 2 0 99 else if owC (T S.1) = 3 then kBurn T S else if owC (T S.1) = 4 then kSlice T S else if owC (T S.1) = 5 then kGuest T S else if owC (T S.1) = 6 then kSort T S else .inl (1, plT T S.1)
def kEnd (T : Nat → Tk) (r : KR) : KR := match r with
  | .inl e => .inl e
  | .inr S => if (T S.1).1 = 5 ∧ (T S.1).2.2.2 = 59 then .inr (S.1 + 1, S.2) else .inl (1, plT T S.1)
def kAll (T : Nat → Tk) : Nat → Nat → KS → (Nat × Nat) ⊕ (Nat × KS)
  | 0, n, S => .inr (n, S)
  | c + 1, n, S => if (T S.1).1 = 0 then .inr (n, S) else match kEnd T (kLine T S) with
    | .inl e => .inl e
    | .inr S' => kAll T c (n + 1) S'
def krC (I : Nat → Nat → Int) (S : KS) : Prop := kit I 40 S.2.1 (fun s => (nm27 (S.2.2.2 s) : Int)) ∧ (I 40 10 = (S.2.2.1 : Int) ∧ S.2.2.1 < 16) ∧ (∀ s, s < nS S.2.1 → letOk (S.2.2.2 s) ∧ I 46 s = (nm32 (S.2.2.2 s) : Int)) ∧ (∀ g, g < nG S.2.1 → letOk (S.2.2.2 (8 + g)) ∧ I 47 g = (nm32 (S.2.2.2 (8 + g)) : Int))
/-- another number of the KITCHEN's head -/
theorem kit_hd {I J : Nat → Nat → Int} {c w : Nat} {W N : Nat → Int} {v : Int} (h : kit I c W N) (hw : w ≤ 2) (hv : (w = 0 → 1 ≤ v ∧ v ≤ 4) ∧ (w = 1 → 0 ≤ v ∧ v ≤ 9) ∧ (w = 2 → 0 ≤ v ∧ v ≤ 99)) (e : ∀ a, c < a → a ≤ c + 7 → J a = I a) (e0 : ∀ j, j ≤ 9 → J c j = am_set (I c) (w + 1) v j) : kit J c (am_set W w v) N := by
  have sW : ∀ k, 5 ≤ k → am_set W w v k = W k := fun k hk => am_stO (by omega)
  have n1 : nS (am_set W w v) = nS W := by unfold nS; rw [sW 5 (by omega)]
  have n2 : nG (am_set W w v) = nG W := by unfold nG; rw [sW 6 (by omega)]
  have n3 : nK (am_set W w v) = nK W := by unfold nK; rw [sW 7 (by omega)]
  have n4 : onB (am_set W w v) = onB W := by
    unfold onB
    rw [n1]
    exact ax_bs_cg (fun s hs => by rw [sW _ (by omega)])
  obtain ⟨⟨w0, w1, w2, w3⟩, k0, k1, k2, k3, k4⟩ := h
  refine ⟨⟨?_, fun s hs => ?_, fun s hs => ?_, fun s hs => ?_⟩, ?_, fun s hs => ?_, fun s hs => ?_, fun s hs => ?_, fun s hs => ?_⟩
  · unfold wk0 at w0 ⊢
    rw [sW 5 (by omega), sW 6 (by omega), sW 7 (by omega)]
    rcases (show w = 0 ∨ w = 1 ∨ w = 2 by omega) with rfl | rfl | rfl
    · rw [am_stS rfl, am_stO (by decide), am_stO (by decide), am_stO (by decide), am_stO (by decide)]; omega
    · rw [am_stO (by decide), am_stS rfl, am_stO (by decide), am_stO (by decide), am_stO (by decide)]; omega
    · rw [am_stO (by decide), am_stO (by decide), am_stS rfl, am_stO (by decide), am_stO (by decide)]; omega
  · rw [n1] at hs; rw [sW _ (by omega), sW _ (by omega), sW _ (by omega)]; exact w1 s hs
  · rw [n2] at hs; rw [sW _ (by omega), sW _ (by omega)]; exact w2 s hs
  · rw [n3] at hs; rw [sW _ (by omega), sW _ (by omega)]; exact w3 s hs
  · unfold kit0 at k0 ⊢
    rw [n4, sW 5 (by omega), sW 6 (by omega), sW 7 (by omega), e0 1 (by omega), e0 2 (by omega), e0 3 (by omega), e0 4 (by omega), e0 5 (by omega), e0 6 (by omega), e0 7 (by omega), e0 8 (by omega), e0 9 (by omega)]
    obtain ⟨a1, a2, a3, a4, a5, a6, a7, a8, a9⟩ := k0
    rcases (show w = 0 ∨ w = 1 ∨ w = 2 by omega) with rfl | rfl | rfl
    · simp (disch := omega) only [am_stS, am_stO]; exact ⟨trivial, a2, a3, a4, a5, a6, a7, a8, a9⟩
    · simp (disch := omega) only [am_stS, am_stO]; exact ⟨a1, trivial, a3, a4, a5, a6, a7, a8, a9⟩
    · simp (disch := omega) only [am_stS, am_stO]; exact ⟨a1, a2, trivial, a4, a5, a6, a7, a8, a9⟩
  · rw [n1] at hs; rw [e (c + 1) (by omega) (by omega), sW _ (by omega), sW _ (by omega)]; exact k1 s hs
  · rw [n1] at hs; rw [e (c + 6) (by omega) (by omega)]; exact k2 s hs
  · rw [n2] at hs; rw [e (c + 2) (by omega) (by omega), e (c + 3) (by omega) (by omega), sW _ (by omega), sW _ (by omega)]; exact k3 s hs
  · rw [n3] at hs; rw [e (c + 4) (by omega) (by omega), e (c + 5) (by omega) (by omega), sW _ (by omega), sW _ (by omega)]; exact k4 s hs
theorem kit_bn {I J : Nat → Nat → Int} {c : Nat} {W N : Nat → Int} {v u : Int} (h : kit I c W N) (hv : 0 ≤ v ∧ v < u ∧ u ≤ 20) (e : ∀ a, c < a → a ≤ c + 7 → J a = I a) (e0 : ∀ j, j ≤ 9 → J c j = am_set (am_set (I c) 4 v) 5 u j) : kit J c (am_set (am_set W 3 v) 4 u) N := by
  have sW : ∀ k, 5 ≤ k → am_set (am_set W 3 v) 4 u k = W k := fun k hk => by rw [am_stO (by omega), am_stO (by omega)]
  have n1 : nS (am_set (am_set W 3 v) 4 u) = nS W := by unfold nS; rw [sW 5 (by omega)]
  have n2 : nG (am_set (am_set W 3 v) 4 u) = nG W := by unfold nG; rw [sW 6 (by omega)]
  have n3 : nK (am_set (am_set W 3 v) 4 u) = nK W := by unfold nK; rw [sW 7 (by omega)]
  have n4 : onB (am_set (am_set W 3 v) 4 u) = onB W := by
    unfold onB
    rw [n1]
    exact ax_bs_cg (fun s hs => by rw [sW _ (by omega)])
  obtain ⟨⟨w0, w1, w2, w3⟩, k0, k1, k2, k3, k4⟩ := h
  refine ⟨⟨?_, fun s hs => ?_, fun s hs => ?_, fun s hs => ?_⟩, ?_, fun s hs => ?_, fun s hs => ?_, fun s hs => ?_, fun s hs => ?_⟩
  · unfold wk0 at w0 ⊢
    simp (disch := omega) only [am_stS, am_stO]
    omega
  · rw [n1] at hs; rw [sW _ (by omega), sW _ (by omega), sW _ (by omega)]; exact w1 s hs
  · rw [n2] at hs; rw [sW _ (by omega), sW _ (by omega)]; exact w2 s hs
  · rw [n3] at hs; rw [sW _ (by omega), sW _ (by omega)]; exact w3 s hs
  · unfold kit0 at k0 ⊢
    rw [n4, e0 1 (by omega), e0 2 (by omega), e0 3 (by omega), e0 4 (by omega), e0 5 (by omega), e0 6 (by omega), e0 7 (by omega), e0 8 (by omega), e0 9 (by omega)]
    obtain ⟨a1, a2, a3, a4, a5, a6, a7, a8, a9⟩ := k0
    simp (disch := omega) only [am_stS, am_stO]
    exact ⟨a1, a2, a3, trivial, trivial, a6, a7, a8, a9⟩
  · rw [n1] at hs; rw [e (c + 1) (by omega) (by omega), sW _ (by omega), sW _ (by omega)]; exact k1 s hs
  · rw [n1] at hs; rw [e (c + 6) (by omega) (by omega)]; exact k2 s hs
  · rw [n2] at hs; rw [e (c + 2) (by omega) (by omega), e (c + 3) (by omega) (by omega), sW _ (by omega), sW _ (by omega)]; exact k3 s hs
  · rw [n3] at hs; rw [e (c + 4) (by omega) (by omega), e (c + 5) (by omega) (by omega), sW _ (by omega), sW _ (by omega)]; exact k4 s hs
