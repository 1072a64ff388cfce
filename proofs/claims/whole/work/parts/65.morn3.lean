/-! MORNINGS: the run -/
theorem kth_ex {c : Nat → Bool} {d : Nat} : ∀ n, d < ax_ct c n → ∃ s, s < n ∧ c s = true ∧ ax_ct c s = d := by
  intro n
  induction n with
  | zero => intro h; exact absurd h (Nat.not_lt_zero d)
  | succ n ih =>
    intro h
    unfold ax_ct at h
    cases hc : c n with
    | false =>
      rw [hc, cond_false] at h
      obtain ⟨s, h1, h2, h3⟩ := ih h
      exact ⟨s, by omega, h2, h3⟩
    | true =>
      rw [hc, cond_true] at h
      by_cases hd : d < ax_ct c n
      · obtain ⟨s, h1, h2, h3⟩ := ih hd
        exact ⟨s, by omega, h2, h3⟩
      · exact ⟨n, by omega, hc, by omega⟩
theorem kth_v {c : Nat → Bool} {n d : Nat} (h : d < ax_ct c n) : ∃ s : Nat, kth c n d = (s : Int) ∧ s < n ∧ c s = true := by
  unfold kth
  rcases am_ff_v (p := fun s => c s && decide (ax_ct c s = d)) (n := n) 0 with e | ⟨s, e, h1, h2, h3⟩
  · obtain ⟨s, h1, h2, h3⟩ := kth_ex n h
    have := am_ff_none e s h1
    rw [h2, decide_eq_true h3] at this
    cases this
  · refine ⟨s, e, h2, ?_⟩
    cases hc : c s with
    | true => rfl
    | false => rw [hc] at h3; cases h3
theorem ax_ct_cg {c e : Nat → Bool} {n : Nat} (h : ∀ k, k < n → c k = e k) : ax_ct c n = ax_ct e n := by
  induction n with
  | zero => rfl
  | succ n ih => unfold ax_ct; rw [ih (fun k hk => h k (by omega)), h n (by omega)]
theorem ax_ct_off {c e : Nat → Bool} {n s : Nat} (hs : s < n) (h1 : c s = true) (h2 : e s = false) (h : ∀ k, k ≠ s → e k = c k) : ax_ct e n + 1 = ax_ct c n := by
  induction n with
  | zero => omega
  | succ n ih =>
    unfold ax_ct
    by_cases hsn : s = n
    · subst hsn
      rw [ax_ct_cg (c := e) (e := c) (fun k hk => h k (by omega)), h1, h2, cond_true, cond_false]
    · rw [h n (by omega)]
      have := ih (by omega)
      cases c n
      · rw [cond_false, cond_false]; exact this
      · rw [cond_true, cond_true]; omega
/-- the SLICE drawn, its side, the seed behind it -/
def mnS (n : Nat) (x : Int) (l : Nat → Nat) (on : Nat) : Nat := (kth (cdr l on) n ((am_ushr (nxt x) 8).toNat % ax_ct (cdr l on) n)).toNat
def mnU (x : Int) (l : Nat → Nat) (s : Nat) : Nat := if 0 < l (2 * s) ∧ 0 < l (2 * s + 1) then 2 * s + (am_ushr (nxt (nxt x)) 8).toNat % 2 else if 0 < l (2 * s) then 2 * s else 2 * s + 1
def mnX (x : Int) (l : Nat → Nat) (s : Nat) : Int := if 0 < l (2 * s) ∧ 0 < l (2 * s + 1) then nxt (nxt x) else nxt x
/-- a PLACE in a minute; so many PLACES -/
def mnP (n : Nat) : Nat → Int × (Nat → Nat) × Nat → Int × (Nat → Nat) × Nat
  | 0, T => T
  | p + 1, T => if ax_ct (cdr T.2.1 T.2.2) n = 0 then T else mnP n p (mnX T.1 T.2.1 (mnS n T.1 T.2.1 T.2.2), am_set T.2.1 (mnU T.1 T.2.1 (mnS n T.1 T.2.1 T.2.2)) (T.2.1 (mnU T.1 T.2.1 (mnS n T.1 T.2.1 T.2.2)) - 1), T.2.2 ||| 2 ^ mnS n T.1 T.2.1 T.2.2)
/-- minutes till all are DONE -/
def mnR (n p : Nat) : Nat → Nat → Int × (Nat → Nat) → Nat
  | 0, t, _ => t
  | c + 1, t, A => if preS A.2 (2 * n) = 0 then t else mnR n p c (t + 1) ((mnP n p (A.1, A.2, 0)).1, (mnP n p (A.1, A.2, 0)).2.1)
theorem mn_draw {n : Nat} {x : Int} {l : Nat → Nat} {on : Nat} (h : 0 < ax_ct (cdr l on) n) : kth (cdr l on) n ((am_ushr (nxt x) 8).toNat % ax_ct (cdr l on) n) = (mnS n x l on : Int) ∧ mnS n x l on < n ∧ cdr l on (mnS n x l on) = true := by
  obtain ⟨s, e, h1, h2⟩ := kth_v (c := cdr l on) (n := n) (Nat.mod_lt ((am_ushr (nxt x) 8).toNat) h)
  unfold mnS
  rw [e, am_tnn]
  exact ⟨rfl, h1, h2⟩
theorem mn_side {x : Int} {l : Nat → Nat} {s : Nat} (h : 0 < l (2 * s) + l (2 * s + 1)) : (mnU x l s = 2 * s ∨ mnU x l s = 2 * s + 1) ∧ 0 < l (mnU x l s) := by
  unfold mnU
  split
  · rename_i hb
    have := Nat.mod_lt ((am_ushr (nxt (nxt x)) 8).toNat) (show 0 < 2 by decide)
    rcases (show (am_ushr (nxt (nxt x)) 8).toNat % 2 = 0 ∨ (am_ushr (nxt (nxt x)) 8).toNat % 2 = 1 by omega) with e | e
    · rw [e, Nat.add_zero]; exact ⟨Or.inl rfl, hb.1⟩
    · rw [e]; exact ⟨Or.inr rfl, hb.2⟩
  · rename_i hb
    split
    · rename_i h2; exact ⟨Or.inl rfl, h2⟩
    · exact ⟨Or.inr rfl, by omega⟩
/-- one less can be drawn behind a draw -/
theorem mn_less {n : Nat} {x : Int} {l : Nat → Nat} {on : Nat} (h : 0 < ax_ct (cdr l on) n) (k : Nat → Nat) (hk : ∀ i, i ≠ 2 * mnS n x l on → i ≠ 2 * mnS n x l on + 1 → k i = l i) : ax_ct (cdr k (on ||| 2 ^ mnS n x l on)) n + 1 = ax_ct (cdr l on) n := by
  obtain ⟨h1, h2, h3⟩ := mn_draw (x := x) h
  refine ax_ct_off h2 h3 ?_ (fun j hj => ?_)
  · unfold cdr; rw [or_tb, decide_eq_true rfl, Bool.or_true]; rfl
  · unfold cdr; rw [or_tb, decide_eq_false (Ne.symm hj), Bool.or_false, hk _ (by omega) (by omega), hk _ (by omega) (by omega)]
