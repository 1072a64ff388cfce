/-! RUNS UP TO THE NEXT CALL, END, BRANCH OR LOOP HEAD -/
abbrev am_yi (v : Int) : am_R := .inl (some (.inl v))
abbrev am_yj (v : Int) : am_R := .inl (some (.inr (.inl v)))
abbrev am_yv : am_R := .inl none
abbrev am_yx : am_R := .inr ()
def am_s0 (i : Instr) (nx ta : Nat) (ls : am_L) (st : List am_V) (M : am_M) : Option am_S := match i with
  | .iconst n => some (nx, ls, .inl n :: st, M)
  | .bipush n => some (nx, ls, .inr (.inl n) :: st, M)
  | .iload k => match am_lg ls k with
    | some (.inl x) => some (nx, ls, .inl x :: st, M)
    | _ => none
  | .lload k => match am_lg ls k with
    | some (.inr (.inl x)) => some (nx, ls, .inr (.inl x) :: st, M)
    | _ => none
  | .aload k => match am_lg ls k with
    | some (.inr (.inr x)) => some (nx, ls, .inr (.inr x) :: st, M)
    | _ => none
  | .istore k => match st with
    | .inl x :: r => bif Nat.blt k ls.length then some (nx, am_st1 ls k (.inl x), r, M) else none
    | _ => none
  | .lstore k => match st with
    | .inr (.inl x) :: r => bif Nat.blt (k + 1) ls.length then some (nx, am_st2 ls k (.inr (.inl x)), r, M) else none
    | _ => none
  | .iinc k n => match am_lg ls k with
    | some (.inl x) => some (nx, am_st1 ls k (.inl (am_add x n)), st, M)
    | _ => none
  | .goto _ => some (ta, ls, st, M)
  | _ => none
theorem am_s0_step {i : Instr} {nx ta tb : Nat} {ls : am_L} {st : List am_V} {M : am_M} {S : am_S} (h : am_s0 i nx ta ls st M = some S) : ∃ C : Prop, am_step i nx ta tb ls st M = some (C, S) ∧ C := by
  unfold am_s0 at h
  split at h
  · cases h; exact ⟨True, rfl, trivial⟩
  · cases h; exact ⟨True, rfl, trivial⟩
  · split at h
    · cases h; rename_i e; exact ⟨True, by simp only [am_step, e], trivial⟩
    · cases h
  · split at h
    · cases h; rename_i e; exact ⟨True, by simp only [am_step, e], trivial⟩
    · cases h
  · split at h
    · cases h; rename_i e; exact ⟨True, by simp only [am_step, e], trivial⟩
    · cases h
  · split at h
    · rename_i k st0 x r
      cases hb : Nat.blt k ls.length with
      | false => rw [hb] at h; cases h
      | true => rw [hb] at h; cases h; exact ⟨k < ls.length, rfl, Nat.le_of_ble_eq_true hb⟩
    · cases h
  · split at h
    · rename_i k st0 x r
      cases hb : Nat.blt (k + 1) ls.length with
      | false => rw [hb] at h; cases h
      | true => rw [hb] at h; cases h; exact ⟨k + 1 < ls.length, rfl, Nat.le_of_ble_eq_true hb⟩
    · cases h
  · split at h
    · cases h; rename_i e; exact ⟨True, by simp only [am_step, e], trivial⟩
    · cases h
  · cases h; exact ⟨True, rfl, trivial⟩
  · cases h
/-- 0 plain, 1 a branch, 2 a call or an end -/
def am_kind (i : Instr) : Nat := match i with
  | .ifCond _ _ => 1
  | .if_icmp _ _ => 1
  | .tableswitch _ _ _ _ => 1
  | .lookupswitch _ _ => 1
  | .invokestatic _ => 2
  | .invokevirtual _ => 2
  | .invokespecial _ => 2
  | .ireturn => 2
  | .freturn => 2
  | .lreturn => 2
  | .return_ => 2
  | .athrow => 2
  | _ => 0
theorem am_kind_end {i : Instr} (h : am_kind i ≠ 2) (st : List am_V) (M : am_M) : am_end i st M = none := by
  cases i <;> first | rfl | exact absurd rfl h
theorem am_kind_cal {i : Instr} (h : am_kind i ≠ 2) (y : Nat) : am_cal i y = none := by
  cases i <;> first | rfl | exact absurd rfl h
def am_mem (a : Nat) : List Nat → Bool
  | [] => false
  | b :: r => bif Nat.beq a b then true else am_mem a r
def am_goS (cuts : List Nat) : Nat → Nat → am_S → Option (Prop × am_S)
  | 0, _, S => some (True, S)
  | n + 1, mi, (pc, ls, st, M) => match am_ins mi pc with
    | none => none
    | some (nx, ta, tb, i) => match am_kind i with
      | 2 => some (True, pc, ls, st, M)
      | 1 => match am_step i nx ta tb ls st M with
        | none => none
        | some (_, S) => some (True, S)
      | _ => match am_s0 i nx ta ls st M with
        | some S => bif am_mem S.1 cuts then some (True, S) else am_goS cuts n mi S
        | none => match am_sop i st with
          | some st' => bif am_mem nx cuts then some (True, nx, ls, st', M) else am_goS cuts n mi (nx, ls, st', M)
          | none => match am_step i nx ta tb ls st M with
            | none => none
            | some (C, S) => bif am_mem S.1 cuts then some (C, S) else match am_goS cuts n mi S with
              | none => none
              | some (D, S') => some (C ∧ D, S')
theorem am_step_br {i : Instr} {nx ta tb : Nat} {ls : am_L} {st : List am_V} {M : am_M} {C : Prop} {S : am_S} (hk : am_kind i = 1) (h : am_step i nx ta tb ls st M = some (C, S)) : C := by
  cases i <;> first | exact absurd (show (0 : Nat) = 1 from hk) (by decide) | exact absurd (show (2 : Nat) = 1 from hk) (by decide) | skip
  all_goals
    unfold am_step at h
    dsimp only at h
    split at h
    · cases h; trivial
    · cases h
theorem am_step_sop {i : Instr} {nx ta tb : Nat} {ls : am_L} {st st' : List am_V} {M : am_M} (hk : am_kind i ≠ 1) (h0 : am_s0 i nx ta ls st M = none) (h : am_sop i st = some st') : ∃ C : Prop, am_step i nx ta tb ls st M = some (C, nx, ls, st', M) ∧ C := by
  refine ⟨True, ?_, trivial⟩
  cases i <;> first | (cases h; done) | exact absurd rfl hk | (unfold am_step; dsimp only; rw [h])
theorem am_wp_one {d mi pc nx ta tb : Nat} {i : Instr} {ls : am_L} {st : List am_V} {M : am_M} {C : Prop} {S : am_S} {Q : am_R → am_M → Prop} (hi : am_ins mi pc = some (nx, ta, tb, i)) (hk : am_kind i ≠ 2) (hs : am_step i nx ta tb ls st M = some (C, S)) (hC : C) (k : am_wp d mi S.1 S.2.1 S.2.2.1 S.2.2.2 Q) : am_wp d mi pc ls st M Q := by
  obtain ⟨f, r, M9, h9, hq⟩ := k
  refine ⟨f + 1, r, M9, ?_, hq⟩
  obtain ⟨pc1, ls1, st1, M1⟩ := S
  unfold am_ex
  rw [hi]
  dsimp only
  rw [am_kind_end hk]
  dsimp only
  rw [am_kind_cal hk]
  dsimp only
  rw [hs]
  dsimp only
  rw [if_pos hC]
  exact h9
theorem am_wp_goS {cuts : List Nat} {d mi : Nat} {Q : am_R → am_M → Prop} : ∀ (n pc : Nat) (ls : am_L) (st : List am_V) (M : am_M) {C : Prop} {S : am_S}, am_goS cuts n mi (pc, ls, st, M) = some (C, S) → C → am_wp d mi S.1 S.2.1 S.2.2.1 S.2.2.2 Q → am_wp d mi pc ls st M Q := by
  intro n
  induction n with
  | zero => intro pc ls st M C S h _ k; unfold am_goS at h; cases h; exact k
  | succ n ih =>
    intro pc ls st M C S h hC k
    unfold am_goS at h
    cases hi : am_ins mi pc with
    | none => rw [hi] at h; cases h
    | some x =>
      obtain ⟨nx, ta, tb, i⟩ := x
      rw [hi] at h
      dsimp only at h
      split at h
      · cases h; exact k
      · rename_i hk
        cases hs : am_step i nx ta tb ls st M with
        | none => rw [hs] at h; cases h
        | some z =>
          obtain ⟨C1, S1⟩ := z
          rw [hs] at h
          cases h
          exact am_wp_one hi (by omega) hs (am_step_br hk hs) k
      · rename_i hk2 hk1
        cases h0 : am_s0 i nx ta ls st M with
        | some S1 =>
          rw [h0] at h
          dsimp only at h
          obtain ⟨C1, hs, hC1⟩ := am_s0_step (tb := tb) h0
          refine am_wp_one hi hk2 hs hC1 ?_
          cases hm : am_mem S1.1 cuts with
          | true => rw [hm] at h; cases h; exact k
          | false => rw [hm] at h; exact ih _ _ _ _ h hC k
        | none =>
          rw [h0] at h
          dsimp only at h
          cases hp : am_sop i st with
          | some st' =>
            rw [hp] at h
            dsimp only at h
            obtain ⟨C1, hs, hC1⟩ := am_step_sop (tb := tb) hk1 h0 hp
            refine am_wp_one hi hk2 hs hC1 ?_
            cases hm : am_mem nx cuts with
            | true => rw [hm] at h; cases h; exact k
            | false => rw [hm] at h; exact ih _ _ _ _ h hC k
          | none =>
            rw [hp] at h
            dsimp only at h
            cases hs : am_step i nx ta tb ls st M with
            | none => rw [hs] at h; cases h
            | some z =>
              obtain ⟨C1, S1⟩ := z
              rw [hs] at h
              dsimp only at h
              cases hm : am_mem S1.1 cuts with
              | true => rw [hm] at h; cases h; exact am_wp_one hi hk2 hs hC k
              | false =>
                rw [hm] at h
                dsimp only [cond_false] at h
                cases hr : am_goS cuts n mi S1 with
                | none => rw [hr] at h; cases h
                | some z2 =>
                  obtain ⟨D, S2⟩ := z2
                  rw [hr] at h
                  cases h
                  exact am_wp_one hi hk2 hs hC.1 (ih _ _ _ _ hr hC.2 k)
/-- up to the next stop; cuts: the method's loop heads -/
theorem am_wp_go {d mi pc : Nat} {ls : am_L} {st : List am_V} {M : am_M} {C : Prop} {pc' : Nat} {ls' : am_L} {st' : List am_V} {M' : am_M} {Q : am_R → am_M → Prop} (h : am_goS (am_cuts mi) 400 mi (pc, ls, st, M) = some (C, pc', ls', st', M')) (hC : C) (k : am_wp d mi pc' ls' st' M' Q) : am_wp d mi pc ls st M Q := am_wp_goS 400 pc ls st M h hC k
theorem am_wp_goc (cuts : List Nat) {d mi pc : Nat} {ls : am_L} {st : List am_V} {M : am_M} {C : Prop} {pc' : Nat} {ls' : am_L} {st' : List am_V} {M' : am_M} {Q : am_R → am_M → Prop} (h : am_goS cuts 400 mi (pc, ls, st, M) = some (C, pc', ls', st', M')) (hC : C) (k : am_wp d mi pc' ls' st' M' Q) : am_wp d mi pc ls st M Q := am_wp_goS 400 pc ls st M h hC k
