/-! COOKS: a minute, abstract -/
theorem ck0_J {W : Nat → Int} (hk : wk W) {l : Nat → Nat} {b : Nat → Int} (hB : ∀ s, s < nS W → 0 < l (2 * s) → l (2 * s + 1) = ndW W (2 * s + 1)) (h3 : ∀ p, p < (W 0).toNat → b p = -1 ∨ ∃ i : Nat, i < 2 * nS W ∧ b p = (i : Int) ∧ l i < ndW W i) (h4 : ∀ p q, p < (W 0).toNat → q < (W 0).toNat → p ≠ q → ∀ i j : Nat, b p = (i : Int) → b q = (j : Int) → i / 2 ≠ j / 2) : ckJ W l (ck0 W l b) := by
  have n1 := wk_nS hk
  have y : ∀ p, p < (W 0).toNat → ckY W l b p = -1 ∨ ∃ i : Nat, i < 2 * nS W ∧ ckY W l b p = (i : Int) ∧ b p = (i : Int) ∧ 0 < l i ∧ l i < ndW W i := fun p hp => by
    unfold ckY
    split
    · rename_i hc
      obtain ⟨c1, c2, c3⟩ := hc
      obtain ⟨i, i1, i2, i3⟩ := (h3 p hp).resolve_left c1
      rw [i2, am_tnn] at c2
      exact Or.inr ⟨i, i1, i2, i2, c2, i3⟩
    · exact Or.inl rfl
  refine ⟨fun p hp => ?_, fun p q hp hq hne i j ei ej => ?_, ?_, fun s hs => ?_⟩
  · rcases y p hp with z | ⟨i, i1, i2, i3, i4, i5⟩
    · exact Or.inl z
    · refine Or.inr ⟨i, i1, i2, i4, fun hm => ?_, ?_⟩
      · have := hB (i / 2) (by omega)
        rw [show 2 * (i / 2) = i - 1 by omega, show i - 1 + 1 = i by omega] at this
        by_cases hz : 0 < l (i - 1)
        · have := this hz; omega
        · omega
      · refine ax_or_tb.mpr ⟨p, hp, ?_⟩
        try dsimp only
        rw [i2, if_neg (by omega), am_tnn]
        exact p2_tb.mpr rfl
  · rcases y p hp with z | ⟨i2, z1, z2, z3, -⟩
    · unfold ck0 at ei; dsimp only at ei; omega
    · rcases y q hq with w | ⟨j2, w1, w2, w3, -⟩
      · unfold ck0 at ej; dsimp only at ej; omega
      · unfold ck0 at ei ej
        dsimp only at ei ej
        exact h4 p q hp hq hne i j (by omega) (by omega)
  · refine ax_or_lt (fun p hp => ?_)
    try dsimp only
    rcases y p hp with z | ⟨i, i1, i2, -⟩
    · rw [if_pos z]; decide
    · rw [i2, if_neg (by omega), am_tnn]; exact ax_p8 (by omega)
  · obtain ⟨p, hp, hs⟩ := ax_or_tb.mp hs
    try dsimp only at hs
    rcases y p hp with z | ⟨i, i1, i2, -⟩
    · rw [if_pos z, Nat.zero_testBit] at hs; cases hs
    · rw [i2, if_neg (by omega), am_tnn] at hs
      exact ⟨p, i, hp, i2, p2_tb.mp hs⟩
abbrev FT : Type := (Nat → Nat) × (Nat → Nat) × (Nat → Nat) × List Go
def ckR1 (k i t : Nat) (e : Bool) (T : FT) : FT := (am_set T.1 i (T.1 i - 1), am_set T.2.1 (i / 2) (t + 1), bif e then T.2.2.1 else am_set T.2.2.1 k T.2.2.2.length, bif e then T.2.2.2.set (T.2.2.1 k) (gS T.2.2.2 (T.2.2.1 k), gU T.2.2.2 (T.2.2.1 k), gB T.2.2.2 (T.2.2.1 k), gL T.2.2.2 (T.2.2.1 k), gN T.2.2.2 (T.2.2.1 k) + 1) else T.2.2.2 ++ [(((i / 2 : Nat) : Int), ((i % 2 : Nat) : Int), (t : Int), (k : Int), 1)])
def ckR (nw b : Nat → Int) (t : Nat) (T : FT) : Nat → FT
  | 0 => T
  | k + 1 => if nw k = -1 then ckR nw b t T k else ckR1 k (nw k).toNat t (decide (b k = nw k)) (ckR nw b t T k)
def ckW (nw : Nat → Int) (k : Nat) : Prop := ∀ p, p < k → nw p = -1 ∨ ∃ i : Nat, nw p = (i : Int)
theorem ckR_s {nw b : Nat → Int} {t k i : Nat} {T : FT} (h : nw k = (i : Int)) : ckR nw b t T (k + 1) = ckR1 k i t (decide (b k = nw k)) (ckR nw b t T k) := by
  conv => lhs; unfold ckR
  rw [if_neg (by omega), show (nw k).toNat = i by omega]
theorem ckR_n {nw b : Nat → Int} {t k : Nat} {T : FT} (h : nw k = -1) : ckR nw b t T (k + 1) = ckR nw b t T k := by
  conv => lhs; unfold ckR
  rw [if_pos h]
theorem ckR_l1 {nw b : Nat → Int} {t i : Nat} {T : FT} : ∀ k, ckW nw k → (∀ p, p < k → nw p ≠ (i : Int)) → (ckR nw b t T k).1 i = T.1 i
  | 0, _, _ => rfl
  | k + 1, hw, h => by
    have ih := ckR_l1 (b := b) (t := t) (i := i) (T := T) k (fun p hp => hw p (by omega)) (fun p hp => h p (by omega))
    rcases hw k (by omega) with z | ⟨j, z⟩
    · rw [ckR_n z]; exact ih
    · have := h k (by omega)
      rw [ckR_s z]
      unfold ckR1
      dsimp only
      rw [am_stO (by omega)]; exact ih
theorem ckR_l2 {nw b : Nat → Int} {t i : Nat} {T : FT} : ∀ k, ckW nw k → (∀ p q, p < k → q < k → p ≠ q → ∀ i j : Nat, nw p = (i : Int) → nw q = (j : Int) → i / 2 ≠ j / 2) → (∃ p, p < k ∧ nw p = (i : Int)) → (ckR nw b t T k).1 i = T.1 i - 1
  | 0, _, _, h => by obtain ⟨p, hp, -⟩ := h; omega
  | k + 1, hw, hd, h => by
    obtain ⟨p, hp, e⟩ := h
    by_cases hpk : p = k
    · subst hpk
      have := ckR_l1 (b := b) (t := t) (i := i) (T := T) p (fun p hp => hw p (by omega)) (fun q hq hc => (hd q p (by omega) (by omega) (by omega) i i hc e) rfl)
      rw [ckR_s e]
      unfold ckR1
      dsimp only
      rw [am_stS rfl, this]
    · have ih := ckR_l2 (b := b) (t := t) (i := i) (T := T) k (fun p hp => hw p (by omega)) (fun p q hp hq => hd p q (by omega) (by omega)) ⟨p, by omega, e⟩
      rcases hw k (by omega) with z | ⟨j, z⟩
      · rw [ckR_n z]; exact ih
      · rw [ckR_s z]
        unfold ckR1
        dsimp only
        have := hd p k hp (by omega) hpk i j e z
        rw [am_stO (fun hc => this (by rw [hc]))]; exact ih
theorem ckR_f1 {nw b : Nat → Int} {t s : Nat} {T : FT} : ∀ k, ckW nw k → (∀ p, p < k → ∀ i : Nat, nw p = (i : Int) → i / 2 ≠ s) → (ckR nw b t T k).2.1 s = T.2.1 s
  | 0, _, _ => rfl
  | k + 1, hw, h => by
    have ih := ckR_f1 (b := b) (t := t) (s := s) (T := T) k (fun p hp => hw p (by omega)) (fun p hp => h p (by omega))
    rcases hw k (by omega) with z | ⟨j, z⟩
    · rw [ckR_n z]; exact ih
    · have := h k (by omega) j z
      rw [ckR_s z]
      unfold ckR1
      dsimp only
      rw [am_stO (by omega)]; exact ih
theorem ckR_f2 {nw b : Nat → Int} {t s : Nat} {T : FT} : ∀ k, ckW nw k → (∃ p i : Nat, p < k ∧ nw p = (i : Int) ∧ i / 2 = s) → (ckR nw b t T k).2.1 s = t + 1
  | 0, _, h => by obtain ⟨p, i, hp, -⟩ := h; omega
  | k + 1, hw, h => by
    obtain ⟨p, i, hp, e, ei⟩ := h
    by_cases hpk : p = k
    · subst hpk
      rw [ckR_s e]
      unfold ckR1
      dsimp only
      rw [am_stS (by omega)]
    · have ih := ckR_f2 (b := b) (t := t) (s := s) (T := T) k (fun p hp => hw p (by omega)) ⟨p, i, by omega, e, ei⟩
      rcases hw k (by omega) with z | ⟨j, z⟩
      · rw [ckR_n z]; exact ih
      · rw [ckR_s z]
        unfold ckR1
        dsimp only
        by_cases hs : s = j / 2
        · rw [am_stS hs]
        · rw [am_stO hs]; exact ih
abbrev CK : Type := (Nat → Nat) × (Nat → Int) × (Nat → Nat) × (Nat → Nat) × List Go
/-- minutes of rest that are still to come -/
def ckr (W : Nat → Int) (l f : Nat → Nat) (t s : Nat) : Nat := if 0 < l (2 * s) then (W 1).toNat else if l (2 * s + 1) = ndW W (2 * s + 1) then f s + (W 1).toNat - t else 0
def ckOn (b : Nat → Int) (l : Nat → Nat) (g : Nat → Nat) (G : List Go) (p : Nat) : Prop := b p = -1 ∨ ∃ i : Nat, b p = (i : Int) ∧ g p < G.length ∧ gL G (g p) = (p : Int) ∧ gN G (g p) + (l i : Int) ≤ 20
def ckI (W : Nat → Int) (t : Nat) (S : CK) : Prop :=
  (∀ i, i < 2 * nS W → S.1 i ≤ ndW W i) ∧
  (∀ s, s < nS W → 0 < S.1 (2 * s) → S.1 (2 * s + 1) = ndW W (2 * s + 1)) ∧
  (∀ p, p < (W 0).toNat → S.2.1 p = -1 ∨ ∃ i : Nat, i < 2 * nS W ∧ S.2.1 p = (i : Int) ∧ S.1 i < ndW W i) ∧
  (∀ p q, p < (W 0).toNat → q < (W 0).toNat → p ≠ q → ∀ i j : Nat, S.2.1 p = (i : Int) → S.2.1 q = (j : Int) → i / 2 ≠ j / 2) ∧
  (∀ p, p < (W 0).toNat → ckOn S.2.1 S.1 S.2.2.2.1 S.2.2.2.2 p) ∧
  (∀ x, x ∈ S.2.2.2.2 → go_ok x ∧ x.1 < (nS W : Int)) ∧ S.2.2.2.2.length + preS S.1 (2 * nS W) ≤ 320 ∧
  t + preS S.1 (2 * nS W) + preS (ckr W S.1 S.2.2.1 t) (nS W) ≤ 392
/-- the sides on in a minute; the minute -/
def ckNw (W : Nat → Int) (r : Int) (t : Nat) (S : CK) : PS := ckPut W r S.1 S.2.2.1 S.2.1 t (W 0).toNat (ck0 W S.1 S.2.1)
def ckFr (W : Nat → Int) (r : Int) (t : Nat) (S : CK) (k : Nat) : FT := ckR (ckNw W r t S).1 S.2.1 t (S.1, S.2.2.1, S.2.2.2.1, S.2.2.2.2) k
def ckMin (W : Nat → Int) (r : Int) (t : Nat) (S : CK) : CK := ((ckFr W r t S (W 0).toNat).1, (ckNw W r t S).1, (ckFr W r t S (W 0).toNat).2.1, (ckFr W r t S (W 0).toNat).2.2.1, (ckFr W r t S (W 0).toNat).2.2.2)
theorem ckI_J {W : Nat → Int} (hk : wk W) {r : Int} {t : Nat} {S : CK} (h : ckI W t S) : ckJ W S.1 (ckNw W r t S) := by
  obtain ⟨h1, h2, h3, h4, -⟩ := h
  exact ckPut_J hk h2 _ _ (ck0_J hk h2 h3 h4)
theorem ckJ_W {W : Nat → Int} {l : Nat → Nat} {S : PS} (h : ckJ W l S) : ckW S.1 (W 0).toNat := fun p hp => (h.1 p hp).imp id (fun ⟨i, _, e, _⟩ => ⟨i, e⟩)
theorem gL_set {G : List Go} {k j : Nat} {g : Go} (h : k < G.length) : gL (G.set k g) j = if j = k then g.2.2.2.1 else gL G j := by
  unfold gL
  by_cases hj : j = k
  · rw [if_pos hj, hj, gs_set h]
  · rw [if_neg hj, gs_set2 hj]
theorem gN_set {G : List Go} {k j : Nat} {g : Go} (h : k < G.length) : gN (G.set k g) j = if j = k then g.2.2.2.2 else gN G j := by
  unfold gN
  by_cases hj : j = k
  · rw [if_pos hj, hj, gs_set h]
  · rw [if_neg hj, gs_set2 hj]
/-- what holds of the GOES while the PLACES are told one by one -/
def ckK (W : Nat → Int) (r : Int) (t : Nat) (S : CK) (k : Nat) : Prop :=
  (∀ p, p < k → ckOn (ckNw W r t S).1 (ckFr W r t S k).1 (ckFr W r t S k).2.2.1 (ckFr W r t S k).2.2.2 p) ∧
  (∀ p, k ≤ p → p < (W 0).toNat → ckOn S.2.1 S.1 (ckFr W r t S k).2.2.1 (ckFr W r t S k).2.2.2 p) ∧
  (∀ x, x ∈ (ckFr W r t S k).2.2.2 → go_ok x ∧ x.1 < (nS W : Int)) ∧ (ckFr W r t S k).2.2.2.length + preS (ckFr W r t S k).1 (2 * nS W) ≤ 320 ∧
  preS (ckFr W r t S k).1 (2 * nS W) ≤ preS S.1 (2 * nS W) ∧ ((∃ p, p < k ∧ (ckNw W r t S).1 p ≠ -1) → preS (ckFr W r t S k).1 (2 * nS W) < preS S.1 (2 * nS W))
theorem ckK_0 {W : Nat → Int} {r : Int} {t : Nat} {S : CK} (h : ckI W t S) : ckK W r t S 0 := by
  obtain ⟨h1, h2, h3, h4, h5, h6, h7, h8⟩ := h
  exact ⟨fun p hp => absurd hp (Nat.not_lt_zero p), fun p _ hp => h5 p hp, h6, h7, Nat.le_refl _, fun ⟨p, hp, _⟩ => absurd hp (Nat.not_lt_zero p)⟩
theorem ckK_s {W : Nat → Int} (hk : wk W) {r : Int} {t : Nat} {S : CK} (h : ckI W t S) (ht : t ≤ 900) {k : Nat} (hkP : k < (W 0).toNat) (hK : ckK W r t S k) : ckK W r t S (k + 1) ∧ (∀ i : Nat, (ckNw W r t S).1 k = (i : Int) → i < 2 * nS W ∧ 0 < S.1 i ∧ (ckFr W r t S k).1 i = S.1 i ∧ (ckFr W r t S k).2.2.2.length < 400 ∧ go_ok (((i / 2 : Nat) : Int), ((i % 2 : Nat) : Int), (t : Int), (k : Int), 1) ∧ (S.2.1 k = (i : Int) → (ckFr W r t S k).2.2.1 k < (ckFr W r t S k).2.2.2.length ∧ gN (ckFr W r t S k).2.2.2 ((ckFr W r t S k).2.2.1 k) < 20)) := by
  have n1 := wk_nS hk
  obtain ⟨⟨w1, w2, -⟩, -⟩ := id hk
  have J := ckI_J (r := r) hk h
  have JW := ckJ_W J
  obtain ⟨j1, j2, j3, j4⟩ := J
  obtain ⟨h1, h2, h3, h4, h5, h6, h7, h8⟩ := h
  obtain ⟨k1, k2, k3, k4, k5, k6⟩ := hK
  rcases j1 k hkP with z | ⟨i, i1, i2, i3, i4, i5⟩
  · have e : ckFr W r t S (k + 1) = ckFr W r t S k := ckR_n z
    refine ⟨⟨fun p hp => ?_, fun p hp hp2 => ?_, ?_, ?_, ?_, ?_⟩, fun i hi => by omega⟩
    · rw [e]
      by_cases hpk : p = k
      · subst hpk; exact Or.inl z
      · exact k1 p (by omega)
    · rw [e]; exact k2 p (by omega) hp2
    · rw [e]; exact k3
    · rw [e]; exact k4
    · rw [e]; exact k5
    · rw [e]; rintro ⟨p, hp, hn⟩; exact k6 ⟨p, by by_cases hpk : p = k; (subst hpk; exact absurd z hn); omega, hn⟩
  · have e : ckFr W r t S (k + 1) = ckR1 k i t (decide (S.2.1 k = (ckNw W r t S).1 k)) (ckFr W r t S k) := ckR_s i2
    have el : (ckFr W r t S k).1 i = S.1 i := ckR_l1 k (fun p hp => JW p (by omega)) (fun q hq hc => (j2 q k (by omega) hkP (by omega) i i hc i2) rfl)
    have ok : go_ok (((i / 2 : Nat) : Int), ((i % 2 : Nat) : Int), (t : Int), (k : Int), 1) := by
      unfold go_ok
      dsimp only
      omega
    have nd := nd_pos hk i1
    have li := h1 i i1
    have pre := preS_upd (h := am_set (ckFr W r t S k).1 i ((ckFr W r t S k).1 i - 1)) (k := (ckFr W r t S k).1) i1 (fun j hj => am_stO hj)
    rw [am_stS rfl] at pre
    have nsm : ∀ p, p < k → ∀ j : Nat, (ckNw W r t S).1 p = (j : Int) → j ≠ i := fun p hp j hj hc => (j2 p k (by omega) hkP (by omega) j i hj i2) (by rw [hc])
    have lng : S.2.1 k = (i : Int) → (ckFr W r t S k).2.2.1 k < (ckFr W r t S k).2.2.2.length ∧ gL (ckFr W r t S k).2.2.2 ((ckFr W r t S k).2.2.1 k) = (k : Int) ∧ gN (ckFr W r t S k).2.2.2 ((ckFr W r t S k).2.2.1 k) + (S.1 i : Int) ≤ 20 := fun hb => by
      rcases k2 k (Nat.le_refl _) hkP with y | ⟨i', y1, y2, y3, y4⟩
      · omega
      · have : i' = i := by omega
        subst this
        exact ⟨y2, y3, y4⟩
    generalize ckFr W r t S k = T at *
    obtain ⟨Tl, Tf, Tg, TG⟩ := T
    dsimp only at *
    refine ⟨?_, fun i' hi' => ?_⟩
    · unfold ckK
      rw [e]
      unfold ckR1
      dsimp only
      by_cases hb : S.2.1 k = (i : Int)
      · rw [i2, decide_eq_true hb]
        simp only [cond_true]
        obtain ⟨g1, g2, g3⟩ := lng hb
        refine ⟨fun p hp => ?_, fun p hp hp2 => ?_, fun x hx => ?_, ?_, by omega, fun _ => by omega⟩
        · by_cases hpk : p = k
          · subst hpk
            refine Or.inr ⟨i, i2, by rw [List.length_set]; exact g1, by rw [gL_set g1, if_pos rfl]; exact g2, ?_⟩
            rw [gN_set g1, if_pos rfl, am_stS rfl]
            dsimp only
            omega
          · rcases k1 p (by omega) with y | ⟨j, y1, y2, y3, y4⟩
            · exact Or.inl y
            · have hne : Tg p ≠ Tg k := fun hc => by rw [hc] at y3; omega
              refine Or.inr ⟨j, y1, by rw [List.length_set]; exact y2, by rw [gL_set g1, if_neg hne]; exact y3, ?_⟩
              rw [gN_set g1, if_neg hne, am_stO (nsm p (by omega) j y1)]
              exact y4
        · rcases k2 p (by omega) hp2 with y | ⟨j, y1, y2, y3, y4⟩
          · exact Or.inl y
          · have hne : Tg p ≠ Tg k := fun hc => by rw [hc] at y3; omega
            exact Or.inr ⟨j, y1, by rw [List.length_set]; exact y2, by rw [gL_set g1, if_neg hne]; exact y3, by rw [gN_set g1, if_neg hne]; exact y4⟩
        · rcases List.mem_or_eq_of_mem_set hx with hx | hx
          · exact k3 x hx
          · subst hx
            have z := gs_all k3 g1
            unfold go_ok at z ⊢
            unfold gS gU gB gL gN at *
            dsimp only
            omega
        · rw [List.length_set]; omega
      · rw [i2, decide_eq_false hb]
        simp only [cond_false]
        have g1 : TG.length < (TG ++ [(((i / 2 : Nat) : Int), ((i % 2 : Nat) : Int), (t : Int), (k : Int), 1)]).length := by rw [List.length_append, List.length_singleton]; omega
        refine ⟨fun p hp => ?_, fun p hp hp2 => ?_, fun x hx => ?_, ?_, by omega, fun _ => by omega⟩
        · by_cases hpk : p = k
          · subst hpk
            refine Or.inr ⟨i, i2, by rw [am_stS rfl]; exact g1, by rw [am_stS rfl]; unfold gL; rw [gs_app2], ?_⟩
            rw [am_stS rfl, am_stS rfl]
            unfold gN
            rw [gs_app2]
            dsimp only
            omega
          · rcases k1 p (by omega) with y | ⟨j, y1, y2, y3, y4⟩
            · exact Or.inl y
            · refine Or.inr ⟨j, y1, by rw [am_stO hpk]; omega, by rw [am_stO hpk]; unfold gL; rw [gs_app y2]; exact y3, ?_⟩
              rw [am_stO hpk, am_stO (nsm p (by omega) j y1)]
              unfold gN
              rw [gs_app y2]; exact y4
        · have hpk : p ≠ k := by omega
          rcases k2 p (by omega) hp2 with y | ⟨j, y1, y2, y3, y4⟩
          · exact Or.inl y
          · exact Or.inr ⟨j, y1, by rw [am_stO hpk]; omega, by rw [am_stO hpk]; unfold gL; rw [gs_app y2]; exact y3, by rw [am_stO hpk]; unfold gN; rw [gs_app y2]; exact y4⟩
        · rw [List.mem_append, List.mem_singleton] at hx
          rcases hx with hx | hx
          · exact k3 x hx
          · subst hx
            exact ⟨ok, by dsimp only; omega⟩
        · rw [List.length_append, List.length_singleton]; omega
    · have : i' = i := by omega
      subst this
      refine ⟨i1, i3, el, by omega, ok, fun hb => ?_⟩
      have := lng hb
      exact ⟨this.1, by omega⟩
theorem ckK_all {W : Nat → Int} (hk : wk W) {r : Int} {t : Nat} {S : CK} (h : ckI W t S) (ht : t ≤ 900) : ∀ k, k ≤ (W 0).toNat → ckK W r t S k
  | 0, _ => ckK_0 h
  | k + 1, hkP => (ckK_s hk h ht (by omega) (ckK_all hk h ht k (by omega))).1
theorem preS_le {h k : Nat → Nat} {n : Nat} (e : ∀ i, i < n → h i ≤ k i) : preS h n ≤ preS k n := by
  induction n with
  | zero => exact Nat.le_refl _
  | succ n ih => unfold preS; have := ih (fun i hi => e i (by omega)); have := e n (by omega); omega
theorem preS_lt {h k : Nat → Nat} {n i : Nat} (e : ∀ i, i < n → h i ≤ k i) (hi : i < n) (hl : h i < k i) : preS h n < preS k n := by
  induction n with
  | zero => omega
  | succ n ih =>
    unfold preS
    by_cases hin : i = n
    · subst hin
      have := preS_le (h := h) (k := k) (n := i) (fun j hj => e j (by omega))
      omega
    · have := ih (fun i hi => e i (by omega)) (by omega)
      have := e n (by omega)
      omega
theorem ckMin_l {W : Nat → Int} (hk : wk W) {r : Int} {t : Nat} {S : CK} (h : ckI W t S) (i : Nat) : ((∀ p, p < (W 0).toNat → (ckNw W r t S).1 p ≠ (i : Int)) ∧ (ckMin W r t S).1 i = S.1 i) ∨ ((∃ p, p < (W 0).toNat ∧ (ckNw W r t S).1 p = (i : Int)) ∧ (ckMin W r t S).1 i = S.1 i - 1) := by
  have J := ckI_J (r := r) hk h
  by_cases hc : ∃ p, p < (W 0).toNat ∧ (ckNw W r t S).1 p = (i : Int)
  · exact Or.inr ⟨hc, ckR_l2 _ (ckJ_W J) J.2.1 hc⟩
  · have hc' : ∀ p, p < (W 0).toNat → (ckNw W r t S).1 p ≠ (i : Int) := fun p hp he => hc ⟨p, hp, he⟩
    exact Or.inl ⟨hc', ckR_l1 _ (ckJ_W J) hc'⟩
theorem ck_min {W : Nat → Int} (hk : wk W) {r : Int} {t : Nat} {S : CK} (h : ckI W t S) (hp : 0 < preS S.1 (2 * nS W)) : ckI W (t + 1) (ckMin W r t S) := by
  have n1 := wk_nS hk
  obtain ⟨⟨w1, w2, w3, w4, -⟩, -⟩ := id hk
  have J := ckI_J (r := r) hk h
  have JW := ckJ_W J
  have ML := ckMin_l (r := r) hk h
  have K := ckK_all (r := r) hk h (by have := h.2.2.2.2.2.2.2; omega) (W 0).toNat (Nat.le_refl _)
  have EN := ckPut_end (W := W) (r := r) (l := S.1) (f := S.2.2.1) (b := S.2.1) (t := t) (W 0).toNat (ck0 W S.1 S.2.1) (ax_ct_le _ _)
  have F1 : ∀ s, (∀ p, p < (W 0).toNat → ∀ i : Nat, (ckNw W r t S).1 p = (i : Int) → i / 2 ≠ s) → (ckMin W r t S).2.2.1 s = S.2.2.1 s := fun s hs => ckR_f1 _ JW hs
  have F2 : ∀ s, (∃ p i : Nat, p < (W 0).toNat ∧ (ckNw W r t S).1 p = (i : Int) ∧ i / 2 = s) → (ckMin W r t S).2.2.1 s = t + 1 := fun s hs => ckR_f2 _ JW hs
  obtain ⟨k1, -, k3, k4, k5, k6⟩ := K
  obtain ⟨j1, j2, j3, j4⟩ := J
  obtain ⟨h1, h2, h3, h4, h5, h6, h7, h8⟩ := h
  have side : ∀ p i : Nat, p < (W 0).toNat → (ckNw W r t S).1 p = (i : Int) → i < 2 * nS W ∧ 0 < S.1 i ∧ (i % 2 = 1 → S.1 (i - 1) = 0) := fun p i hp hi => by
    rcases j1 p hp with z | ⟨i2, z1, z2, z3, z4, z5⟩
    · omega
    · have : i2 = i := by omega
      subst this
      exact ⟨z1, z3, z4⟩
  have r1 : ∀ s, s < nS W → ckr W (ckMin W r t S).1 (ckMin W r t S).2.2.1 (t + 1) s ≤ ckr W S.1 S.2.2.1 t s := fun s hs => by
    have f1 := F1 s
    have f2 := F2 s
    rcases ML (2 * s) with ⟨a1, a2⟩ | ⟨⟨p, a0, a1⟩, a2⟩
    · rcases ML (2 * s + 1) with ⟨b1, b2⟩ | ⟨⟨p, b0, b1⟩, b2⟩
      · have f3 := f1 (fun p hp i hi hc => by
          rcases (show i = 2 * s ∨ i = 2 * s + 1 by omega) with e | e
          · subst e; exact a1 p hp hi
          · subst e; exact b1 p hp hi)
        unfold ckr
        rw [a2, b2, f3]
        split
        · exact Nat.le_refl _
        · split
          · omega
          · exact Nat.le_refl _
      · have d := side p _ b0 b1
        have d3 := d.2.2 (by omega)
        rw [show 2 * s + 1 - 1 = 2 * s by omega] at d3
        have := h1 (2 * s + 1) (by omega)
        unfold ckr
        rw [a2, b2, d3, if_neg (by omega), if_neg (by omega)]
        exact Nat.zero_le _
    · have d := side p _ a0 a1
      have f3 := f2 ⟨p, 2 * s, a0, a1, by omega⟩
      unfold ckr
      rw [f3, a2, if_pos d.2.1]
      split
      · exact Nat.le_refl _
      · split <;> omega
  refine ⟨fun i hi => ?_, fun s hs hpos => ?_, fun p hp => ?_, j2, fun p hp => k1 p hp, k3, k4, ?_⟩
  · rcases ML i with ⟨-, e⟩ | ⟨-, e⟩
    · rw [e]; exact h1 i hi
    · rw [e]; have := h1 i hi; omega
  · have hpos2 : 0 < S.1 (2 * s) := by
      rcases ML (2 * s) with ⟨-, e⟩ | ⟨-, e⟩ <;> omega
    have e1 := h2 s hs hpos2
    rcases ML (2 * s + 1) with ⟨-, e⟩ | ⟨⟨p, a0, a1⟩, e⟩
    · rw [e]; exact e1
    · have d := (side p _ a0 a1).2.2 (by omega)
      rw [show 2 * s + 1 - 1 = 2 * s by omega] at d
      omega
  · rcases j1 p hp with z | ⟨i, z1, z2, z3, z4, z5⟩
    · exact Or.inl z
    · refine Or.inr ⟨i, z1, z2, ?_⟩
      rcases ML i with ⟨a, -⟩ | ⟨-, e⟩
      · exact absurd z2 (a p hp)
      · rw [e]; have := h1 i z1; omega
  · have r2 := preS_le r1
    by_cases hon : ∃ p, p < (W 0).toNat ∧ (ckNw W r t S).1 p ≠ -1
    · have h9 : preS (ckMin W r t S).1 (2 * nS W) < preS S.1 (2 * nS W) := k6 hon
      omega
    · have h9 : preS (ckMin W r t S).1 (2 * nS W) ≤ preS S.1 (2 * nS W) := k5
      -- nothing is on: all rest
      have off : ∀ p, p < (W 0).toNat → (ckNw W r t S).1 p = -1 := fun p hp => Classical.byContradiction (fun hc => hon ⟨p, hp, hc⟩)
      have nB : ckB W r S.1 S.2.2.1 t (ckNw W r t S).2 (nS W) = -1 := by
        rcases EN with e | e
        · exact absurd (off 0 (by omega)) (ckF_no e 0 (by omega))
        · exact e
      obtain ⟨i, i1, i2⟩ := preS_ex hp
      have nm := ckB_no _ nB (i / 2) (by omega)
      have bt : (ckNw W r t S).2.testBit (i / 2) = false := by
        cases hc : (ckNw W r t S).2.testBit (i / 2) with
        | false => rfl
        | true =>
          obtain ⟨p, j, y1, y2, y3⟩ := j4 _ hc
          have := off p y1
          omega
      have lp : 0 < S.1 (2 * (i / 2)) + S.1 (2 * (i / 2) + 1) := by
        rcases (show i = 2 * (i / 2) ∨ i = 2 * (i / 2) + 1 by omega) with e | e
        · rw [← e]; omega
        · rw [← e]; omega
      have nr : (S.1 (2 * (i / 2)) = 0 ∧ S.1 (2 * (i / 2) + 1) = ndW W (2 * (i / 2) + 1)) ∧ ¬ S.2.2.1 (i / 2) + (W 1).toNat ≤ t := by
        refine Classical.byContradiction (fun hc => ?_)
        have := ckM_t.mpr ⟨bt, lp, (Classical.or_iff_not_imp_left.mpr (fun hx => Classical.byContradiction (fun hy => hc ⟨Classical.not_not.mp hx, hy⟩)) : ¬ (S.1 (2 * (i / 2)) = 0 ∧ S.1 (2 * (i / 2) + 1) = ndW W (2 * (i / 2) + 1)) ∨ S.2.2.1 (i / 2) + (W 1).toNat ≤ t)⟩
        rw [nm] at this
        cases this
      have no : ∀ j : Nat, (ckMin W r t S).1 j = S.1 j := fun j => by
        rcases ML j with ⟨-, e⟩ | ⟨⟨p, a0, a1⟩, -⟩
        · exact e
        · have := off p a0; omega
      have nf : (ckMin W r t S).2.2.1 (i / 2) = S.2.2.1 (i / 2) := F1 _ (fun p hp j hj => by have := off p hp; omega)
      have r3 : preS (ckr W (ckMin W r t S).1 (ckMin W r t S).2.2.1 (t + 1)) (nS W) < preS (ckr W S.1 S.2.2.1 t) (nS W) := preS_lt r1 (i := i / 2) (by omega) (by
        unfold ckr
        simp only [no, nf, nr.1.1, nr.1.2, Nat.lt_irrefl, if_false, if_true]
        omega)
      omega
def ckRun (W : Nat → Int) (r : Int) : Nat → Nat → CK → Nat × List Go
  | 0, t, S => (t, S.2.2.2.2)
  | c + 1, t, S => if preS S.1 (2 * nS W) = 0 then (t, S.2.2.2.2) else ckRun W r c (t + 1) (ckMin W r t S)
def ckS0 (W : Nat → Int) : CK := (ndW W, fun _ => -1, fun _ => 0, fun _ => 0, [])
def ckV (W : Nat → Int) (r : Int) : Nat × List Go := ckRun W r 1000 0 (ckS0 W)
theorem ckI_0 {W : Nat → Int} (hk : wk W) : ckI W 0 (ckS0 W) := by
  have n1 := wk_nS hk
  obtain ⟨⟨w1, w2, w3, w4, -⟩, -⟩ := id hk
  have t0 := nd_all hk
  refine ⟨fun i _ => Nat.le_refl _, fun s _ _ => rfl, fun p _ => Or.inl rfl, fun p q _ _ _ i j hi _ => ?_, fun p _ => Or.inl rfl, fun x hx => absurd hx (List.not_mem_nil), ?_, ?_⟩
  · have : (-1 : Int) = (i : Int) := hi
    omega
  · show 0 + preS (ndW W) (2 * nS W) ≤ 320
    omega
  · have r1 : preS (ckr W (ckS0 W).1 (ckS0 W).2.2.1 0) (nS W) ≤ preS (fun _ => 9) (nS W) := preS_le (fun s hs => by
      unfold ckr
      have := nd_pos hk (i := 2 * s) (by omega)
      rw [if_pos (show 0 < (ckS0 W).1 (2 * s) by show 0 < ndW W (2 * s); omega)]
      omega)
    have r2 : ∀ n, preS (fun _ => 9) n = 9 * n := fun n => by
      induction n with
      | zero => rfl
      | succ n ih => unfold preS; rw [ih]; omega
    rw [r2] at r1
    show 0 + preS (ndW W) (2 * nS W) + _ ≤ 392
    omega
theorem ckRun_ok {W : Nat → Int} (hk : wk W) {r : Int} : ∀ c t S, ckI W t S → gok (ckRun W r c t S).2 ∧ gkt W (ckRun W r c t S).2 := by
  have n1 := wk_nS hk
  have key : ∀ t S, ckI W t S → gok S.2.2.2.2 ∧ gkt W S.2.2.2.2 := fun t S h => by
    obtain ⟨h1, h2, h3, h4, h5, h6, h7, h8⟩ := h
    refine ⟨⟨by omega, fun k hk2 => (gs_all h6 hk2).1⟩, fun k hk2 => ?_⟩
    have := gs_all h6 hk2
    exact ⟨by have h := this.2; unfold gS; rw [n1.1]; exact h, this.1.2.2.2.2.2.2.2.1⟩
  intro c
  induction c with
  | zero => intro t S h; exact key t S h
  | succ c ih =>
    intro t S h
    unfold ckRun
    split
    · exact key t S h
    · exact ih _ _ (ck_min hk h (by omega))
theorem ckV_ok {W : Nat → Int} (hk : wk W) {r : Int} : gok (ckV W r).2 ∧ gkt W (ckV W r).2 := ckRun_ok hk _ _ _ (ckI_0 hk)
