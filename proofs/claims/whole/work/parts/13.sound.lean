/-! THE ABSTRACT MACHINE IS RIGHT: what it comes to, the real one comes to -/
theorem am_step_mono {i : Instr} {nx ta tb pc' : Nat} {ls ls' : am_L} {st st' : List am_V} {M M' : am_M} {C : Prop} (h : am_step i nx ta tb ls st M = some (C, pc', ls', st', M')) : M.1 ≤ M'.1 ∧ M.2.1 ≤ M'.2.1 := by
  obtain ⟨m1, sl, sh, I, R⟩ := M
  have hop : ∀ {D0 : Prop} {s9 : List am_V} {M9 : am_M}, am_hop i ta tb st (m1, sl, sh, I, R) = some (D0, s9, M9) → m1 ≤ M9.1 ∧ sl ≤ M9.2.1 := by
    intro D0 s9 M9 h9
    unfold am_hop at h9
    dsimp only at h9
    repeat' split at h9
    all_goals first | cases h9; done | (cases h9; exact ⟨Nat.le_refl _, Nat.le_refl _⟩) | (cases h9; exact ⟨Nat.le_succ _, Nat.le_add_right _ _⟩)
  unfold am_step at h
  repeat' split at h
  all_goals first | cases h; done | (cases h; exact ⟨Nat.le_refl _, Nat.le_refl _⟩) | skip
  all_goals (rename_i h9; cases h; exact hop h9)
theorem am_end_mono {i : Instr} {st : List am_V} {M M' : am_M} {r : am_R} (h : am_end i st M = some (r, M')) : M.1 ≤ M'.1 ∧ M.2.1 ≤ M'.2.1 := by
  obtain ⟨m1, sl, sh, I, R⟩ := M
  unfold am_end at h
  repeat' split at h
  all_goals first | cases h; done | (cases h; exact ⟨Nat.le_refl _, Nat.le_refl _⟩) | (cases h; exact ⟨Nat.le_succ _, Nat.le_add_right _ _⟩)
theorem am_ex_mono : ∀ (f d mi pc : Nat) (ls : am_L) (st : List am_V) (M : am_M) (r : am_R) (M' : am_M), am_ex f d mi pc ls st M = some (r, M') → M.1 ≤ M'.1 ∧ M.2.1 ≤ M'.2.1 := by
  intro f
  induction f with
  | zero => intro d mi pc ls st M r M' h; cases h
  | succ f ih =>
    intro d mi pc ls st M r M' h
    unfold am_ex at h
    cases hi : am_ins mi pc with
    | none => rw [hi] at h; cases h
    | some x =>
      obtain ⟨nx, ta, tb, i⟩ := x
      rw [hi] at h
      dsimp only at h
      cases he : am_end i st M with
      | some q1 =>
        rw [he] at h
        cases h
        exact am_end_mono he
      | none =>
        rw [he] at h
        dsimp only at h
        cases hc : am_cal i ta with
        | some y =>
          rw [hc] at h
          dsimp only at h
          cases d with
          | zero => cases h
          | succ d' =>
            dsimp only at h
            cases hl : am_cok st y with
            | false => rw [hl] at h; cases h
            | true =>
              rw [hl] at h
              simp only [Bool.not_true, cond_false] at h
              by_cases hrc : am_rcv i y (st.take (am_na y)).reverse M
              · rw [if_pos hrc] at h
                cases hy : am_ex f d' y 0 (am_pad (am_ml y) (am_ent (st.take (am_na y)).reverse)) [] M with
                | none => rw [hy] at h; cases h
                | some q2 =>
                  rw [hy] at h
                  obtain ⟨r2, M2⟩ := q2
                  have h1 := ih _ _ _ _ _ _ _ _ hy
                  cases r2 with
                  | inl v =>
                    have h2 := ih _ _ _ _ _ _ _ _ h
                    exact ⟨Nat.le_trans h1.1 h2.1, Nat.le_trans h1.2 h2.2⟩
                  | inr u =>
                    dsimp only at h
                    cases hh : am_hd mi with
                    | none => rw [hh] at h; cases h
                    | some hp =>
                      rw [hh] at h
                      have h2 := ih _ _ _ _ _ _ _ _ h
                      exact ⟨Nat.le_trans h1.1 h2.1, Nat.le_trans h1.2 h2.2⟩
              · rw [if_neg hrc] at h; cases h
        | none =>
          rw [hc] at h
          dsimp only at h
          cases hs : am_step i nx ta tb ls st M with
          | none => rw [hs] at h; cases h
          | some x =>
            obtain ⟨C, pc', ls', st', M1⟩ := x
            rw [hs] at h
            dsimp only at h
            by_cases hC : C
            · rw [if_pos hC] at h
              have h1 := am_step_mono hs
              have h2 := ih _ _ _ _ _ _ _ _ h
              exact ⟨Nat.le_trans h1.1 h2.1, Nat.le_trans h1.2 h2.2⟩
            · rw [if_neg hC] at h; cases h
theorem am_step_len {i : Instr} {nx ta tb pc' : Nat} {ls ls' : am_L} {st st' : List am_V} {M M' : am_M} {C : Prop} (h : am_step i nx ta tb ls st M = some (C, pc', ls', st', M')) : ls'.length = ls.length := by
  unfold am_step at h
  repeat' split at h
  all_goals first | cases h; done | (cases h; rfl) | (cases h; exact am_st1_len _ _ _) | (cases h; unfold am_st2; rw [am_clr_len, am_st1_len])
/-- the locals at a method's entry -/
theorem am_ent_args (g : am_G) : ∀ (av : List am_V) (k n : Nat) (i : Nat) (v : am_V), am_lg (am_ent av ++ List.replicate n none) i = some v → (k + i, am_cv g v) ∈ lv_args k (av.map (am_cv g))
  | [], k, n, i, v, h => by
    exfalso
    have : ∀ (n i : Nat), am_lg (List.replicate n none) i = none := by
      intro n
      induction n with
      | zero => intro i; rfl
      | succ n ih =>
        intro i
        cases i with
        | zero => rfl
        | succ i => exact ih i
    rw [show am_ent ([] : List am_V) ++ List.replicate n none = List.replicate n none from rfl, this] at h
    cases h
  | .inr (.inl x) :: r, k, n, 0, v, h => by
    cases h
    exact List.mem_cons_self
  | .inr (.inl x) :: r, k, n, 1, v, h => by cases h
  | .inr (.inl x) :: r, k, n, i + 2, v, h => by
    have := am_ent_args g r (k + 2) n i v h
    rw [show k + (i + 2) = k + 2 + i by omega]
    exact List.mem_cons_of_mem _ this
  | .inl x :: r, k, n, 0, v, h => by
    cases h
    exact List.mem_cons_self
  | .inl x :: r, k, n, i + 1, v, h => by
    have := am_ent_args g r (k + 1) n i v h
    rw [show k + (i + 1) = k + 1 + i by omega]
    exact List.mem_cons_of_mem _ this
  | .inr (.inr x) :: r, k, n, 0, v, h => by
    cases h
    exact List.mem_cons_self
  | .inr (.inr x) :: r, k, n, i + 1, v, h => by
    have := am_ent_args g r (k + 1) n i v h
    rw [show k + (i + 1) = k + 1 + i by omega]
    refine List.mem_cons_of_mem _ ?_
    show _ ∈ lv_args (if (am_cv g (.inr (.inr x))).category = 2 then k + 2 else k + 1) (r.map (am_cv g))
    rw [am_cv_cat, if_neg (show ¬ am_cat (.inr (.inr x)) = 2 from fun q => by cases q)]
    exact this
theorem am_ent_len (g : am_G) : ∀ (av : List am_V), (am_ent av).length = (lg_sl (av.map (am_cv g))).length ∧ (am_ent av).length = (av.map am_cat).sum
  | [] => ⟨rfl, rfl⟩
  | .inr (.inl x) :: r => by
    obtain ⟨h1, h2⟩ := am_ent_len g r
    refine ⟨?_, ?_⟩
    · show (am_ent r).length + 1 + 1 = ([Slot.val _, Slot.second] ++ lg_sl (r.map (am_cv g))).length
      rw [List.length_append, ← h1]
      show _ = 2 + _
      omega
    · show (am_ent r).length + 1 + 1 = 2 + (r.map am_cat).sum
      omega
  | .inl x :: r => by
    obtain ⟨h1, h2⟩ := am_ent_len g r
    refine ⟨?_, ?_⟩
    · show (am_ent r).length + 1 = ([Slot.val _] ++ lg_sl (r.map (am_cv g))).length
      rw [List.length_append, ← h1]
      show _ = 1 + _
      omega
    · show (am_ent r).length + 1 = 1 + (r.map am_cat).sum
      omega
  | .inr (.inr x) :: r => by
    obtain ⟨h1, h2⟩ := am_ent_len g r
    refine ⟨?_, ?_⟩
    · show (am_ent r).length + 1 = ((if (am_cv g (.inr (.inr x))).category = 2 then [Slot.val (am_cv g (.inr (.inr x))), Slot.second] else [Slot.val (am_cv g (.inr (.inr x)))]) ++ lg_sl (r.map (am_cv g))).length
      rw [am_cv_cat, if_neg (show ¬ am_cat (.inr (.inr x)) = 2 from fun q => by cases q), List.length_append, ← h1]
      show _ = 1 + _
      omega
    · show (am_ent r).length + 1 = 1 + (r.map am_cat).sum
      omega
theorem am_LR_entry (g : am_G) (av : List am_V) {n : Nat} (h : (av.map am_cat).sum ≤ n) : am_LR g ((lg_sl (av.map (am_cv g)) ++ List.replicate (n - (lg_sl (av.map (am_cv g))).length) Slot.unset).toArray) (am_pad n (am_ent av)) ∧ (am_pad n (am_ent av)).length = n := by
  obtain ⟨h1, h2⟩ := am_ent_len g av
  have hl := lv_entry (av.map (am_cv g)) (n := n) (by omega)
  have hlen : (am_pad n (am_ent av)).length = n := by
    unfold am_pad
    rw [List.length_append, List.length_replicate]
    omega
  refine ⟨⟨?_, hl.2.1, fun i v hv => ?_⟩, hlen⟩
  · rw [hlen]; exact hl.1
  · have := am_ent_args g av 0 _ i v hv
    rw [Nat.zero_add] at this
    exact hl.2.2 _ this
theorem am_ent_ok {m1 : Nat} : ∀ (av : List am_V) (n : Nat), am_oks m1 av → am_okl m1 (am_ent av ++ List.replicate n none)
  | av, n, h => by
    intro i v hv
    have := am_ent_args (0, 0, 0, 0) av 0 n i v hv
    have key : ∀ (av : List am_V) (i : Nat), am_lg (am_ent av ++ List.replicate n none) i = some v → v ∈ av := by
      intro av
      induction av with
      | nil =>
        intro i h
        exfalso
        have hz : ∀ (n i : Nat), am_lg (List.replicate n none) i = none := by
          intro n
          induction n with
          | zero => intro i; rfl
          | succ n ih =>
            intro i
            cases i with
            | zero => rfl
            | succ i => exact ih i
        rw [show am_ent ([] : List am_V) ++ List.replicate n none = List.replicate n none from rfl, hz] at h
        cases h
      | cons w r ih =>
        intro i h
        rcases w with x | x | x
        · cases i with
          | zero => cases h; exact List.mem_cons_self
          | succ i => exact List.mem_cons_of_mem _ (ih i h)
        · match i, h with
          | 0, h => cases h; exact List.mem_cons_self
          | 1, h => cases h
          | i + 2, h => exact List.mem_cons_of_mem _ (ih i h)
        · cases i with
          | zero => cases h; exact List.mem_cons_self
          | succ i => exact List.mem_cons_of_mem _ (ih i h)
    exact h v (key av i hv)
