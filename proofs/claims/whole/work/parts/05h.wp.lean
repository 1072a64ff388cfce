/-! WHAT A RUN OF THE ABSTRACT MACHINE COMES TO -/
theorem am_ex_more : ∀ (f k d mi pc : Nat) (ls : am_L) (st : List am_V) (M : am_M) (q : am_R × am_M), am_ex f d mi pc ls st M = some q → am_ex (f + k) d mi pc ls st M = some q := by
  intro f
  induction f with
  | zero => intro k d mi pc ls st M q h; cases h
  | succ f ih =>
    intro k d mi pc ls st M q h
    rw [Nat.add_right_comm]
    unfold am_ex at h ⊢
    cases hi : am_ins mi pc with
    | none => rw [hi] at h; cases h
    | some x =>
      obtain ⟨nx, ta, tb, i⟩ := x
      rw [hi] at h
      dsimp only at h ⊢
      cases he : am_end i st M with
      | some q1 => rw [he] at h; exact h
      | none =>
        rw [he] at h
        dsimp only at h ⊢
        cases hc : am_cal i ta with
        | some y =>
          rw [hc] at h
          dsimp only at h ⊢
          cases d with
          | zero => cases h
          | succ d' =>
            dsimp only at h ⊢
            cases hl : am_cok st y with
            | false => rw [hl] at h; cases h
            | true =>
              rw [hl] at h
              simp only [Bool.not_true, cond_false] at h ⊢
              by_cases hrc : am_rcv i y (st.take (am_na y)).reverse M
              · rw [if_pos hrc] at h ⊢
                cases hy : am_ex f d' y 0 (am_pad (am_ml y) (am_ent (st.take (am_na y)).reverse)) [] M with
                | none => rw [hy] at h; cases h
                | some q2 =>
                  rw [hy] at h
                  rw [ih k _ _ _ _ _ _ _ hy]
                  obtain ⟨r2, M2⟩ := q2
                  cases r2 with
                  | inl v => exact ih k _ _ _ _ _ _ _ h
                  | inr u =>
                    dsimp only at h ⊢
                    cases hh : am_hd mi with
                    | none => rw [hh] at h; cases h
                    | some hp => rw [hh] at h; exact ih k _ _ _ _ _ _ _ h
              · rw [if_neg hrc] at h; cases h
        | none =>
          rw [hc] at h
          dsimp only at h ⊢
          cases hs : am_step i nx ta tb ls st M with
          | none => rw [hs] at h; cases h
          | some x =>
            obtain ⟨C, pc', ls', st', M'⟩ := x
            rw [hs] at h
            dsimp only at h ⊢
            by_cases hC : C
            · rw [if_pos hC] at h ⊢; exact ih k _ _ _ _ _ _ _ h
            · rw [if_neg hC] at h; cases h
/-- from here the method ends, and Q holds of what comes out -/
def am_wp (d mi pc : Nat) (ls : am_L) (st : List am_V) (M : am_M) (Q : am_R → am_M → Prop) : Prop := ∃ f r M', am_ex f d mi pc ls st M = some (r, M') ∧ Q r M'
/-- n instructions that are no call and no end: what they ask, together, and the state behind them -/
def am_run : Nat → Nat → am_S → Option (Prop × am_S)
  | 0, _, S => some (True, S)
  | n + 1, mi, (pc, ls, st, M) => match am_ins mi pc with
    | none => none
    | some (nx, ta, tb, i) => match am_end i st M with
      | some _ => none
      | none => match am_cal i ta with
        | some _ => none
        | none => match am_step i nx ta tb ls st M with
          | none => none
          | some (C, S) => match am_run n mi S with
            | none => none
            | some (D, S') => some (C ∧ D, S')
theorem am_wp_run {d mi : Nat} {Q : am_R → am_M → Prop} : ∀ (n pc : Nat) (ls : am_L) (st : List am_V) (M : am_M) {C : Prop} {pc' : Nat} {ls' : am_L} {st' : List am_V} {M' : am_M}, am_run n mi (pc, ls, st, M) = some (C, pc', ls', st', M') → C → am_wp d mi pc' ls' st' M' Q → am_wp d mi pc ls st M Q := by
  intro n
  induction n with
  | zero =>
    intro pc ls st M C pc' ls' st' M' h _ k
    unfold am_run at h
    cases h
    exact k
  | succ n ih =>
    intro pc ls st M C pc' ls' st' M' h hC k
    unfold am_run at h
    cases hi : am_ins mi pc with
    | none => rw [hi] at h; cases h
    | some x =>
      obtain ⟨nx, ta, tb, i⟩ := x
      rw [hi] at h
      dsimp only at h
      cases he : am_end i st M with
      | some q => rw [he] at h; cases h
      | none =>
        rw [he] at h
        dsimp only at h
        cases hc : am_cal i ta with
        | some y => rw [hc] at h; cases h
        | none =>
          rw [hc] at h
          dsimp only at h
          cases hs : am_step i nx ta tb ls st M with
          | none => rw [hs] at h; cases h
          | some z =>
            obtain ⟨C1, pc1, ls1, st1, M1⟩ := z
            rw [hs] at h
            dsimp only at h
            cases hr : am_run n mi (pc1, ls1, st1, M1) with
            | none => rw [hr] at h; cases h
            | some z2 =>
              obtain ⟨D, pc2, ls2, st2, M2⟩ := z2
              rw [hr] at h
              cases h
              obtain ⟨f, r, M9, h9, hq⟩ := ih pc1 ls1 st1 M1 hr hC.2 k
              refine ⟨f + 1, r, M9, ?_, hq⟩
              unfold am_ex
              rw [hi]
              dsimp only
              rw [he]
              dsimp only
              rw [hc]
              dsimp only
              rw [hs]
              dsimp only
              rw [if_pos hC.1]
              exact h9
theorem am_wp_ret {d mi pc nx ta tb : Nat} {i : Instr} {ls : am_L} {st : List am_V} {M M' : am_M} {r : am_R} {Q : am_R → am_M → Prop} (hi : am_ins mi pc = some (nx, ta, tb, i)) (he : am_end i st M = some (r, M')) (h : Q r M') : am_wp d mi pc ls st M Q := by
  refine ⟨1, r, M', ?_, h⟩
  unfold am_ex
  rw [hi]
  dsimp only
  rw [he]
theorem am_wp_call {d mi pc nx ta tb y : Nat} {i : Instr} {ls : am_L} {st : List am_V} {M : am_M} {Q Q1 : am_R → am_M → Prop} (hi : am_ins mi pc = some (nx, ta, tb, i)) (hc : am_cal i ta = some y) (hl : am_cok st y = true) (hrc : am_rcv i y (st.take (am_na y)).reverse M) (hw : am_wp d y 0 (am_pad (am_ml y) (am_ent (st.take (am_na y)).reverse)) [] M Q1)
    (hk : ∀ r M', Q1 r M' → ∃ v, r = .inl v ∧ am_wp (d + 1) mi nx ls (v.toList ++ st.drop (am_na y)) M' Q) : am_wp (d + 1) mi pc ls st M Q := by
  obtain ⟨f1, r1, M1, h1, q1⟩ := hw
  obtain ⟨v, rfl, f2, r2, M2, h2, q2⟩ := hk r1 M1 q1
  refine ⟨(f1 + f2) + 1, r2, M2, ?_, q2⟩
  have he : am_end i st M = none := by cases i <;> first | rfl | cases hc
  unfold am_ex
  rw [hi]
  dsimp only
  rw [he]
  dsimp only
  rw [hc]
  dsimp only
  rw [hl, if_pos hrc, am_ex_more f1 f2 _ _ _ _ _ _ _ h1]
  simp only [Bool.not_true, cond_false]
  rw [Nat.add_comm]
  exact am_ex_more f2 f1 _ _ _ _ _ _ _ h2
theorem am_wp_mono {d mi pc : Nat} {ls : am_L} {st : List am_V} {M : am_M} {Q Q1 : am_R → am_M → Prop} (h : am_wp d mi pc ls st M Q1) (hq : ∀ r M', Q1 r M' → Q r M') : am_wp d mi pc ls st M Q := by
  obtain ⟨f, r, M', h1, h2⟩ := h
  exact ⟨f, r, M', h1, hq r M' h2⟩
theorem am_wp_if {d mi a b : Nat} {c : Prop} [Decidable c] {ls : am_L} {st : List am_V} {M : am_M} {Q : am_R → am_M → Prop} (h1 : c → am_wp d mi a ls st M Q) (h2 : ¬ c → am_wp d mi b ls st M Q) : am_wp d mi (if c then a else b) ls st M Q := by
  by_cases h : c
  · rw [if_pos h]; exact h1 h
  · rw [if_neg h]; exact h2 h
