/-! HOTEL -/
def hpl (W : Nat → Int) (k : Nat) : Nat := (W (48 + 2 * k)).toNat
def min2 (a b : Int) : Int := if b < a then b else a
def hRow (W : Nat → Int) (w : Nat) (D : Nat → Int) (k : Nat) : Prop := D (201 * k) = 0 ∧ ∀ p, 1 ≤ p → p ≤ w → D (201 * k + p) = min2 (W (48 + 2 * k + 1) + D (201 * k + (p - hpl W k))) (D (201 * (k + 1) + p))
def hBase (w : Nat) (T : Int) (D : Nat → Int) (K : Nat) : Prop := D (201 * K) = 0 ∧ ∀ p, 1 ≤ p → p ≤ w → D (201 * K + p) = T
def hTab (W : Nat → Int) (w : Nat) (T : Int) (D : Nat → Int) : Prop := hBase w T D (nK W) ∧ ∀ k, k < nK W → hRow W w D k
theorem hT_ge {W D : Nat → Int} {w : Nat} {T : Int} (hw : wk W) (h : hTab W w T D) (hT : 0 ≤ T) : ∀ j, j ≤ nK W → ∀ p, p ≤ w → 0 ≤ D (201 * (nK W - j) + p) := by
  intro j
  induction j with
  | zero =>
    intro _ p hp
    by_cases h0 : p = 0
    · subst h0; rw [show 201 * (nK W - 0) + 0 = 201 * nK W by omega, h.1.1]; decide
    · rw [Nat.sub_zero, h.1.2 p (by omega) hp]; exact hT
  | succ j ih =>
    intro hj p
    have hr := h.2 (nK W - (j + 1)) (by omega)
    have hk := hw.2.2.2 (nK W - (j + 1)) (by omega)
    induction p using Nat.strongRecOn with
    | ind p ih2 =>
      intro hp
      by_cases h0 : p = 0
      · subst h0; rw [Nat.add_zero, hr.1]; decide
      · rw [hr.2 p (by omega) hp]
        have h1 := ih (by omega) p hp
        rw [show nK W - j = nK W - (j + 1) + 1 by omega] at h1
        have h2 := ih2 (p - hpl W (nK W - (j + 1))) (by unfold hpl; omega) (by omega)
        unfold min2
        split <;> omega
theorem hT_le {W D : Nat → Int} {w : Nat} {T : Int} (hw : wk W) (h : hTab W w T D) {k : Nat} (hk : k < nK W) : ∀ p, p ≤ w → D (201 * k + p) ≤ 99 * p := by
  intro p
  have hr := h.2 k hk
  have hk := hw.2.2.2 k hk
  induction p using Nat.strongRecOn with
  | ind p ih2 =>
    intro hp
    by_cases h0 : p = 0
    · subst h0; rw [Nat.add_zero, hr.1]; decide
    · rw [hr.2 p (by omega) hp]
      have h2 := ih2 (p - hpl W k) (by unfold hpl; omega) (by omega)
      have h3 : ((p - hpl W k : Nat) : Int) + 1 ≤ p := by unfold hpl; omega
      unfold min2
      split <;> omega
theorem hT_eq {W D E : Nat → Int} {w : Nat} {T U : Int} (hw : wk W) (hw2 : w ≤ 200) (hT : 30000 ≤ T) (hU : 30000 ≤ U) (h : hTab W w T D) (g : hTab W w U E) : ∀ j, 1 ≤ j → j ≤ nK W → ∀ p, p ≤ w → D (201 * (nK W - j) + p) = E (201 * (nK W - j) + p) := by
  intro j
  induction j with
  | zero => intro h; omega
  | succ j ih =>
    intro _ hj p
    have hr := h.2 (nK W - (j + 1)) (by omega)
    have gr := g.2 (nK W - (j + 1)) (by omega)
    have hk := hw.2.2.2 (nK W - (j + 1)) (by omega)
    induction p using Nat.strongRecOn with
    | ind p ih2 =>
      intro hp
      by_cases h0 : p = 0
      · subst h0; rw [Nat.add_zero, hr.1, gr.1]
      · have h2 := ih2 (p - hpl W (nK W - (j + 1))) (by unfold hpl; omega) (by omega)
        have l1 := hT_le hw h (k := nK W - (j + 1)) (by omega) p hp
        have l2 := hT_le hw g (k := nK W - (j + 1)) (by omega) p hp
        rw [hr.2 p (by omega) hp] at l1 ⊢
        rw [gr.2 p (by omega) hp] at l2 ⊢
        rw [h2] at l1 ⊢
        by_cases hj0 : j = 0
        · subst hj0
          rw [show nK W - (0 + 1) + 1 = nK W by omega] at l1 l2 ⊢
          rw [h.1.2 p (by omega) hp] at l1 ⊢
          rw [g.1.2 p (by omega) hp] at l2 ⊢
          unfold min2 at *
          split at l1 <;> split at l2 <;> (repeat' split) <;> omega
        · have h1 := ih (by omega) (by omega) p hp
          rw [show nK W - j = nK W - (j + 1) + 1 by omega] at h1
          rw [h1]
theorem hT_eqk {W D E : Nat → Int} {w : Nat} {T U : Int} (hw : wk W) (hw2 : w ≤ 200) (hT : 30000 ≤ T) (hU : 30000 ≤ U) (h : hTab W w T D) (g : hTab W w U E) {k p : Nat} (hk : k < nK W) (hp : p ≤ w) : D (201 * k + p) = E (201 * k + p) := by
  have := hT_eq hw hw2 hT hU h g (nK W - k) (by omega) (by omega) p hp
  rwa [show nK W - (nK W - k) = k by omega] at this
theorem hT_st {W D E : Nat → Int} {w : Nat} {T U : Int} (hw : wk W) (hw2 : w ≤ 200) (hT : 30000 ≤ T) (hU : 30000 ≤ U) (h : hTab W w T D) (g : hTab W w U E) {k p : Nat} (hk : k < nK W) (hp : p ≤ w) : (D (201 * k + p) = D (201 * (k + 1) + p)) ↔ (E (201 * k + p) = E (201 * (k + 1) + p)) := by
  have e1 := hT_eqk hw hw2 hT hU h g hk hp
  by_cases hk1 : k + 1 < nK W
  · rw [e1, hT_eqk hw hw2 hT hU h g hk1 hp]
  · have : k + 1 = nK W := by omega
    rw [this]
    have l1 := hT_le hw h hk p hp
    have l2 := hT_le hw g hk p hp
    by_cases h0 : p = 0
    · subst h0
      rw [Nat.add_zero, Nat.add_zero, h.1.1, g.1.1, (h.2 k hk).1, (g.2 k hk).1]
    · rw [h.1.2 p (by omega) hp, g.1.2 p (by omega) hp]
      omega
def htr (D : Nat → Int) (pl k : Nat) : Nat → Nat → Nat × Nat
  | 0, o => (0, o)
  | f + 1, o => if D (201 * k + o) = D (201 * (k + 1) + o) then (0, o) else ((htr D pl k f (o - pl)).1 + 1, (htr D pl k f (o - pl)).2)
def hop (D : Nat → Int) (W : Nat → Int) (w : Nat) : Nat → Nat
  | 0 => w
  | k + 1 => (htr D (hpl W k) k w (hop D W w k)).2
def hbt (D : Nat → Int) (W : Nat → Int) (w k : Nat) : Nat := (htr D (hpl W k) k w (hop D W w k)).1
theorem htr_le {D : Nat → Int} {pl k : Nat} : ∀ (f o : Nat), (htr D pl k f o).2 ≤ o ∧ (htr D pl k f o).1 ≤ f
  | 0, o => ⟨Nat.le_refl o, Nat.le_refl 0⟩
  | f + 1, o => by
    unfold htr
    split
    · exact ⟨Nat.le_refl o, Nat.zero_le _⟩
    · have := htr_le (D := D) (pl := pl) (k := k) f (o - pl)
      exact ⟨by dsimp only; omega, by dsimp only; omega⟩
theorem hop_le {D W : Nat → Int} {w k : Nat} : hop D W w k ≤ w := by
  induction k with
  | zero => exact Nat.le_refl w
  | succ k ih => exact Nat.le_trans (htr_le _ _).1 ih
theorem htr_cg {D E : Nat → Int} {pl k w : Nat} (h : ∀ p, p ≤ w → ((D (201 * k + p) = D (201 * (k + 1) + p)) ↔ (E (201 * k + p) = E (201 * (k + 1) + p)))) : ∀ (f o : Nat), o ≤ w → htr D pl k f o = htr E pl k f o
  | 0, o, _ => rfl
  | f + 1, o, ho => by
    unfold htr
    rw [htr_cg h f (o - pl) (by omega)]
    simp only [h o ho]
theorem hop_cg {W D E : Nat → Int} {w : Nat} {T U : Int} (hw : wk W) (hw2 : w ≤ 200) (hT : 30000 ≤ T) (hU : 30000 ≤ U) (h : hTab W w T D) (g : hTab W w U E) : ∀ k, k ≤ nK W → hop D W w k = hop E W w k
  | 0, _ => rfl
  | k + 1, hk => by
    have := hop_cg hw hw2 hT hU h g k (by omega)
    unfold hop
    rw [htr_cg (fun p hp => hT_st hw hw2 hT hU h g (by omega) hp) w _ hop_le, this]
theorem hbt_cg {W D E : Nat → Int} {w : Nat} {T U : Int} (hw : wk W) (hw2 : w ≤ 200) (hT : 30000 ≤ T) (hU : 30000 ≤ U) (h : hTab W w T D) (g : hTab W w U E) {k : Nat} (hk : k < nK W) : hbt D W w k = hbt E W w k := by
  unfold hbt
  rw [htr_cg (fun p hp => hT_st hw hw2 hT hU h g hk hp) w _ hop_le, hop_cg hw hw2 hT hU h g k (by omega)]
section HOTEL
variable {m sl : Nat} {sh : Nat → Nat × Nat} {I : Nat → Nat → Int} {R : Nat → Nat → Nat} {Q : am_R → am_M → Prop} {d w : Nat} {W N : Nat → Int}
theorem w_htrace (hw : wd sh R) (hk : kit I 6 W N) (hn : I 86 2 = (nK W : Int)) (hw2 : w ≤ 200) (h : ∀ J, (∀ a, a ≠ 88 → J a = I a) → (∀ k, k < nK W → J 88 k = (hbt (I 87) W w k : Int)) → Q am_yv (m, sl, sh, J, R)) : am_wp (d) 17 0 [some (.inr (.inr (86))), some (.inr (.inr (6))), some (.inl ((w : Int))), none, none, none] [] (m, sl, sh, I, R) Q := by
  have n3 := wk_nK hk.1
  refine am_wp_go rfl (by simp (disch := omega) only [s86 hw, am_addE, am_subE, am_mulE, am_laddE, am_lsubE, am_upO, am_upS, am_stS, am_stO, am_tnn, am_brl, am_brg, am_bre, am_brn, am_brG, am_brL, am_st1, am_no2, am_st2, am_clr, and_self, true_and, and_true, true_or, or_true, List.length_cons, List.length_nil] <;> omega) ?_
  try simp (disch := omega) only [s86 hw, am_addE, am_subE, am_mulE, am_laddE, am_lsubE, am_upO, am_upS, am_stS, am_stO, am_tnn, am_brl, am_brg, am_bre, am_brn, am_brG, am_brL, am_st1, am_no2, am_st2, am_clr]
  refine am_lp0 (P := fun k => ∀ z J, (∀ a, a ≠ 88 → J a = I a) → (∀ i, i < k → J 88 i = (hbt (I 87) W w i : Int)) → am_wp (d) 17 5 [some (.inr (.inr (86))), some (.inr (.inr (6))), some (.inl ((w : Int))), some (.inl ((hop (I 87) W w k : Int))), some (.inl ((k : Int))), z] [] (m, sl, sh, J, R) Q) (nK W) (fun k hk1 ih z J j1 j2 => ?_) none I (fun _ _ => rfl) (fun i hi => absurd hi (Nat.not_lt_zero i))
  have e86 : J 86 2 = (nK W : Int) := by rw [j1 86 (by decide)]; exact hn
  refine am_wp_go rfl (by simp (disch := omega) only [s86 hw, r86_0 hw, r86_1 hw, s87 hw, s88 hw, s6 hw, r6_14 hw, s10 hw, e86, am_addE, am_subE, am_mulE, am_laddE, am_lsubE, am_upO, am_upS, am_stS, am_stO, am_tnn, am_brl, am_brg, am_bre, am_brn, am_brG, am_brL, am_st1, am_no2, am_st2, am_clr, and_self, true_and, and_true, true_or, or_true, List.length_cons, List.length_nil] <;> omega) ?_
  try simp (disch := omega) only [s86 hw, r86_0 hw, r86_1 hw, s87 hw, s88 hw, s6 hw, r6_14 hw, s10 hw, e86, am_addE, am_subE, am_mulE, am_laddE, am_lsubE, am_upO, am_upS, am_stS, am_stO, am_tnn, am_brl, am_brg, am_bre, am_brn, am_brG, am_brL, am_st1, am_no2, am_st2, am_clr]
  refine am_wp_br (fun b11 => ?_) (fun b11 => ?_)
  · refine am_wp_ret rfl rfl ?_
    exact h J j1 (fun i hi => j2 i (by omega))
  · have hb := hk.1.2.2.2 k (by omega)
    have hb2 := (hk.2.2.2.2.2 k (by omega)).1
    have ho := hop_le (D := I 87) (W := W) (w := w) (k := k)
    refine am_wp_go rfl (by simp (disch := omega) only [s86 hw, r86_0 hw, r86_1 hw, s87 hw, s88 hw, s6 hw, r6_14 hw, s10 hw, e86, am_addE, am_subE, am_mulE, am_laddE, am_lsubE, am_upO, am_upS, am_stS, am_stO, am_tnn, am_brl, am_brg, am_bre, am_brn, am_brG, am_brL, am_st1, am_no2, am_st2, am_clr, and_self, true_and, and_true, true_or, or_true, List.length_cons, List.length_nil] <;> omega) ?_
    try simp (disch := omega) only [s86 hw, r86_0 hw, r86_1 hw, s87 hw, s88 hw, s6 hw, r6_14 hw, s10 hw, e86, am_addE, am_subE, am_mulE, am_laddE, am_lsubE, am_upO, am_upS, am_stS, am_stO, am_tnn, am_brl, am_brg, am_bre, am_brn, am_brG, am_brL, am_st1, am_no2, am_st2, am_clr]
    -- the inner loop: i pans so far, o PLACES open
    have L : ∀ i, i ≤ w → ∀ (o : Nat) (K : Nat → Nat → Int), o ≤ w → (∀ a, a ≠ 88 → K a = I a) → (∀ i, i < k → K 88 i = (hbt (I 87) W w i : Int)) → K 88 k = (i : Int) → i + (htr (I 87) (hpl W k) k (w - i) o).1 = hbt (I 87) W w k → (htr (I 87) (hpl W k) k (w - i) o).2 = hop (I 87) W w (k + 1) → am_wp (d) 17 25 [some (.inr (.inr (86))), some (.inr (.inr (6))), some (.inl ((w : Int))), some (.inl ((o : Int))), some (.inl ((k : Int))), some (.inl ((i : Int)))] [] (m, sl, sh, K, R) Q := by
      refine am_lp w (fun i hi ih2 o K ho k1 k2 k3 k4 k5 => ?_)
      have e87 : K 87 = I 87 := k1 87 (by decide)
      have e10 : K 10 k = W (48 + 2 * k) := by rw [k1 10 (by decide)]; exact hb2
      refine am_wp_go rfl (by simp (disch := omega) only [s86 hw, r86_0 hw, r86_1 hw, s87 hw, s88 hw, s6 hw, r6_14 hw, s10 hw, e87, e10, am_tnA, am_tnM, Int.reduceToNat, am_addE, am_subE, am_mulE, am_laddE, am_lsubE, am_upO, am_upS, am_stS, am_stO, am_tnn, am_brl, am_brg, am_bre, am_brn, am_brG, am_brL, am_st1, am_no2, am_st2, am_clr, and_self, true_and, and_true, true_or, or_true, List.length_cons, List.length_nil] <;> omega) ?_
      try simp (disch := omega) only [s86 hw, r86_0 hw, r86_1 hw, s87 hw, s88 hw, s6 hw, r6_14 hw, s10 hw, e87, e10, am_tnA, am_tnM, Int.reduceToNat, am_addE, am_subE, am_mulE, am_laddE, am_lsubE, am_upO, am_upS, am_stS, am_stO, am_tnn, am_brl, am_brg, am_bre, am_brn, am_brG, am_brL, am_st1, am_no2, am_st2, am_clr]
      refine am_wp_br (fun b28 => ?_) (fun b28 => ?_)
      · rw [show w - i = 0 by omega] at k4 k5
        refine am_wp_go rfl (by simp (disch := omega) only [s86 hw, r86_0 hw, r86_1 hw, s87 hw, s88 hw, s6 hw, r6_14 hw, s10 hw, e87, e10, am_tnA, am_tnM, Int.reduceToNat, am_addE, am_subE, am_mulE, am_laddE, am_lsubE, am_upO, am_upS, am_stS, am_stO, am_tnn, am_brl, am_brg, am_bre, am_brn, am_brG, am_brL, am_st1, am_no2, am_st2, am_clr, and_self, true_and, and_true, true_or, or_true, List.length_cons, List.length_nil] <;> omega) ?_
        try simp (disch := omega) only [s86 hw, r86_0 hw, r86_1 hw, s87 hw, s88 hw, s6 hw, r6_14 hw, s10 hw, e87, e10, am_tnA, am_tnM, Int.reduceToNat, am_addE, am_subE, am_mulE, am_laddE, am_lsubE, am_upO, am_upS, am_stS, am_stO, am_tnn, am_brl, am_brg, am_bre, am_brn, am_brG, am_brL, am_st1, am_no2, am_st2, am_clr]
        refine am_wp_ls (ih (by omega) (some (.inl (i : Int))) K k1 (fun x hx => ?_)) (by rw [← k5]; rfl)
        by_cases hx2 : x = k
        · subst hx2; rw [k3, ← k4]; rfl
        · exact k2 x (by omega)
      · have hf : w - i = (w - (i + 1)) + 1 := by omega
        rw [hf] at k4 k5
        unfold htr at k4 k5
        refine am_wp_go rfl (by simp (disch := omega) only [s86 hw, r86_0 hw, r86_1 hw, s87 hw, s88 hw, s6 hw, r6_14 hw, s10 hw, e87, e10, am_tnA, am_tnM, Int.reduceToNat, am_addE, am_subE, am_mulE, am_laddE, am_lsubE, am_upO, am_upS, am_stS, am_stO, am_tnn, am_brl, am_brg, am_bre, am_brn, am_brG, am_brL, am_st1, am_no2, am_st2, am_clr, and_self, true_and, and_true, true_or, or_true, List.length_cons, List.length_nil] <;> omega) ?_
        try simp (disch := omega) only [s86 hw, r86_0 hw, r86_1 hw, s87 hw, s88 hw, s6 hw, r6_14 hw, s10 hw, e87, e10, am_tnA, am_tnM, Int.reduceToNat, am_addE, am_subE, am_mulE, am_laddE, am_lsubE, am_upO, am_upS, am_stS, am_stO, am_tnn, am_brl, am_brg, am_bre, am_brn, am_brG, am_brL, am_st1, am_no2, am_st2, am_clr]
        refine am_wp_br (fun b59 => ?_) (fun b59 => ?_)
        · have b59' : I 87 (201 * k + o) = I 87 (201 * (k + 1) + o) := by rw [Nat.mul_comm 201 k, Nat.mul_comm 201 (k + 1)]; exact b59
          rw [if_pos b59'] at k4 k5
          refine am_wp_go rfl (by simp (disch := omega) only [s86 hw, r86_0 hw, r86_1 hw, s87 hw, s88 hw, s6 hw, r6_14 hw, s10 hw, e87, e10, am_tnA, am_tnM, Int.reduceToNat, am_addE, am_subE, am_mulE, am_laddE, am_lsubE, am_upO, am_upS, am_stS, am_stO, am_tnn, am_brl, am_brg, am_bre, am_brn, am_brG, am_brL, am_st1, am_no2, am_st2, am_clr, and_self, true_and, and_true, true_or, or_true, List.length_cons, List.length_nil] <;> omega) ?_
          try simp (disch := omega) only [s86 hw, r86_0 hw, r86_1 hw, s87 hw, s88 hw, s6 hw, r6_14 hw, s10 hw, e87, e10, am_tnA, am_tnM, Int.reduceToNat, am_addE, am_subE, am_mulE, am_laddE, am_lsubE, am_upO, am_upS, am_stS, am_stO, am_tnn, am_brl, am_brg, am_bre, am_brn, am_brG, am_brL, am_st1, am_no2, am_st2, am_clr]
          refine am_wp_ls (ih (by omega) (some (.inl (i : Int))) K k1 (fun x hx => ?_)) (by rw [← k5]; rfl)
          by_cases hx2 : x = k
          · subst hx2; rw [k3, ← k4]; rfl
          · exact k2 x (by omega)
        · have b59' : ¬ I 87 (201 * k + o) = I 87 (201 * (k + 1) + o) := by rw [Nat.mul_comm 201 k, Nat.mul_comm 201 (k + 1)]; exact b59
          rw [if_neg b59'] at k4 k5
          refine am_wp_go rfl (by simp (disch := omega) only [s86 hw, r86_0 hw, r86_1 hw, s87 hw, s88 hw, s6 hw, r6_14 hw, s10 hw, e87, e10, am_tnA, am_tnM, Int.reduceToNat, am_addE, am_subE, am_mulE, am_laddE, am_lsubE, am_upO, am_upS, am_stS, am_stO, am_tnn, am_brl, am_brg, am_bre, am_brn, am_brG, am_brL, am_st1, am_no2, am_st2, am_clr, and_self, true_and, and_true, true_or, or_true, List.length_cons, List.length_nil] <;> omega) ?_
          rw [r86_1 hw, r6_14 hw]
          simp (disch := omega) only [am_upO, e10, am_tnn, am_upS, am_addE, am_subE, k3, am_st1, am_no2]
          refine am_wp_ls (ih2 (by omega) (o - hpl W k) _ (by omega) (fun a ha => by rw [am_upO ha, k1 a ha]) (fun x hx => by rw [am_upS, am_stO (by omega), k2 x hx]) (by rw [am_upS, am_stS rfl]; omega) (by dsimp only at k4; omega) k5) ?_
          simp only [List.cons.injEq, Option.some.injEq, Sum.inl.injEq, and_true, true_and]
          unfold hpl
          refine ⟨?_, by omega⟩
          split <;> omega
    refine am_wp_ls (L 0 (by omega) (hop (I 87) W w k) _ ho (fun a ha => by rw [am_upO ha, j1 a ha]) (fun i hi => by rw [am_upS, am_stO (by omega), j2 i hi]) (by rw [am_upS, am_stS rfl]; rfl) (by rw [Nat.zero_add, Nat.sub_zero]; rfl) rfl) rfl
end HOTEL
