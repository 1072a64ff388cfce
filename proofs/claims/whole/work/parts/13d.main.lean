/-! THE ABSTRACT MACHINE IS RIGHT -/
section AMM
variable {l : Launch} {g : am_G} {ca : Nat → ClassId} {D : va_G} {L : Nat} {xs : Nat → Int32}
theorem am_step_cases {i : Instr} {nx ta tb pc' : Nat} {ls ls' : am_L} {st st' : List am_V} {M M' : am_M} {C : Prop} (h : am_step i nx ta tb ls st M = some (C, pc', ls', st', M')) : am_isf i = true ∨ (pc' = nx ∧ ls' = ls ∧ ((am_sop i st = some st' ∧ M' = M) ∨ (am_sop i st = none ∧ am_hop i ta tb st M = some (C, st', M')))) := by
  have key : ∀ j, am_isf j = false → am_step j nx ta tb ls st M = (match am_sop j st with
    | some st' => some (True, nx, ls, st', M)
    | none => match am_hop j ta tb st M with
      | some (C, st', M') => some (C, nx, ls, st', M')
      | none => none) := by
    intro j hj
    cases j <;> first | (cases hj; done) | rfl
  cases hf : am_isf i with
  | true => exact Or.inl rfl
  | false =>
    refine Or.inr ?_
    rw [key i hf] at h
    cases hs : am_sop i st with
    | some s9 =>
      rw [hs] at h
      cases h
      exact ⟨rfl, rfl, Or.inl ⟨rfl, rfl⟩⟩
    | none =>
      rw [hs] at h
      cases hh : am_hop i ta tb st M with
      | none => rw [hh] at h; cases h
      | some x =>
        obtain ⟨C9, s9, M9⟩ := x
        rw [hh] at h
        cases h
        exact ⟨rfl, rfl, Or.inr ⟨rfl, rfl⟩⟩
theorem am_sop_raw {mi pc len nx ta tb : Nat} {raw i : Instr} {st st' : List am_V} (h : am_sop i st = some st') (hn : am_rn mi pc raw len nx ta tb i = true) : raw = i ∧ len = 1 ∧ nx = pc + 1 := by
  unfold am_rn at hn
  simp only [Bool.and_eq_true] at hn
  obtain ⟨e0, hn⟩ := hn
  have e0 := am_nb e0
  cases i <;> first | (cases h; done) | (simp only [Bool.and_eq_true, decide_eq_true_eq] at hn; obtain ⟨rfl, e2⟩ := hn; have e2 := am_nb e2; subst e2; exact ⟨rfl, rfl, e0⟩)
/-- the String constant's instructions -/
def am_iss (i : Instr) : Bool := match i with
  | .ldc _ => true
  | .invokeinterface 1 _ => true
  | .invokeinterface 2 _ => true
  | _ => false
theorem am_hop_kind {i : Instr} {ta tb : Nat} {st st' : List am_V} {M M' : am_M} {C : Prop} (h : am_hop i ta tb st M = some (C, st', M')) : am_ish i = true ∨ am_iss i = true := by
  obtain ⟨m1, sl, sh, I, R⟩ := M
  cases i <;> first | (exact Or.inl rfl) | (exact Or.inr rfl) | (cases h; done) | skip
  case invokeinterface k n =>
    match k, h with
    | 0, _ => exact Or.inl rfl
    | 1, _ => exact Or.inr rfl
    | 2, _ => exact Or.inr rfl
    | 3, _ => exact Or.inl rfl
    | 4, _ => exact Or.inl rfl
    | 5, _ => exact Or.inl rfl
    | k + 6, h => cases h
/-- to be shown apart: the steps of the String constant -/
def am_STR (l : Launch) (g : am_G) (L : Nat) (xs : Nat → Int32) (ca : Nat → ClassId) (D : va_G) : Prop := ∀ (mi pc : Nat) (ls : am_L) (st st' : List am_V) (M M' : am_M) (raw i : Instr) (len nx ta tb : Nat) (C : Prop) (p : Program) (e : Env) (R0 : Room) (s : State) (m : MethodId) (args : Array Value) (below : List Frame) (meth : Method) (c : Code) (H : Heap) (locs : List Loc) (cells slots : Nat) (arr : Array Slot) (Q : State → Prop),
  am_cx g L xs ca D mi p s m args meth c → am_nest g s → ls.length = am_ml mi → am_at g L xs ca D s H locs cells arr ls st M → am_iss i = true → am_rn mi pc raw len nx ta tb i = true → decode (am_code mi) pc = .ok (raw, len) → am_hop i ta tb st M = some (C, st', M') → C → cells ≤ R0.cells → slots ≤ R0.slots → 9 ≤ R0.frames → 540 ≤ R0.locals →
  (M' = M → am_oks M.1 st' → W p l e R0 s m args below meth c H locs cells slots Q (F0 m nx arr (st'.map (am_cv g)))) → W p l e R0 s m args below meth c H locs cells slots Q (F0 m pc arr (st.map (am_cv g)))
theorem am_lg_none (n i : Nat) : am_lg (List.replicate n (none : Option am_V)) i = none := by
  induction n generalizing i with
  | zero => rfl
  | succ n ih =>
    cases i with
    | zero => rfl
    | succ i => exact ih i
theorem am_hd_ge {y : Nat} (h : ¬ am_hd y = none) : 329 ≤ y := by
  refine Nat.le_of_not_lt (fun h1 => h ?_)
  unfold am_hd
  rw [if_neg (by omega), if_neg (by omega), if_neg (by omega), if_neg (by omega), if_neg (by omega)]
theorem am_hd_lt {y : Nat} (h : ¬ am_hd y = none) : y < 334 := by
  refine Nat.lt_of_not_le (fun h1 => h ?_)
  unfold am_hd
  rw [if_neg (by omega), if_neg (by omega), if_neg (by omega), if_neg (by omega), if_neg (by omega)]
theorem am_ex_step {f d mi pc nx ta tb pc' : Nat} {i : Instr} {ls ls' : am_L} {st st' : List am_V} {M M' : am_M} {q : am_R × am_M} {C : Prop} (h : am_ex f d mi pc ls st M = some q) (hi : am_ins mi pc = some (nx, ta, tb, i)) (he : am_end i st M = none) (hc : am_cal i ta = none) (hs : am_step i nx ta tb ls st M = some (C, pc', ls', st', M')) : ∃ f', am_ex f' d mi pc' ls' st' M' = some q := by
  cases f with
  | zero => cases h
  | succ f =>
    unfold am_ex at h
    rw [hi] at h
    dsimp only at h
    rw [he] at h
    dsimp only at h
    rw [hc] at h
    dsimp only at h
    rw [hs] at h
    dsimp only at h
    by_cases hC : C
    · rw [if_pos hC] at h; exact ⟨f, h⟩
    · rw [if_neg hC] at h; cases h
theorem am_ex_end {f d mi pc nx ta tb : Nat} {i : Instr} {ls : am_L} {st : List am_V} {M : am_M} {q q' : am_R × am_M} (h : am_ex f d mi pc ls st M = some q) (hi : am_ins mi pc = some (nx, ta, tb, i)) (he : am_end i st M = some q') : q' = q := by
  cases f with
  | zero => cases h
  | succ f =>
    unfold am_ex at h
    rw [hi] at h
    dsimp only at h
    rw [he] at h
    exact Option.some.inj h
theorem am_hnd {mi hp : Nat} (hh : am_hd mi = some hp) : (329 ≤ mi ∧ mi < 334) ∧ decode (am_code mi) hp = .ok (.astore 4, 2) ∧ decode (am_code mi) (hp + 2) = .ok (.iconst 1, 1) ∧ am_ins mi hp = some (hp + 2, 0, 0, .astore 4) ∧ am_ins mi (hp + 2) = some (hp + 3, 0, 0, .iconst 1) ∧ am_ins mi (hp + 3) = some (hp + 4, 0, 0, .ireturn) ∧ am_ml mi = 5 := by
  unfold am_hd at hh
  repeat' split at hh
  all_goals first | (cases hh; done) | skip
  all_goals (rename_i e; cases hh; subst e; exact ⟨by decide, by decide +kernel, by decide +kernel, rfl, rfl, rfl, rfl⟩)
set_option maxRecDepth 100000 in
theorem am_hc_all : [329, 330, 331, 332, 333].all (fun mi => (am_tab mi).all (fun q => match q.2.2.2.2 with
  | .invokevirtual _ => Nat.beq q.1 5 && decide (am_hd q.2.2.1 = none)
  | .invokestatic _ => false
  | .invokespecial _ => false
  | _ => true)) = true := by decide +kernel
theorem am_hcall {mi pc nx ta tb y : Nat} {i : Instr} (hm : 329 ≤ mi ∧ mi < 334) (hi : am_ins mi pc = some (nx, ta, tb, i)) (hc : am_cal i ta = some y) : pc = 5 ∧ (∃ z, i = .invokevirtual z) ∧ am_hd ta = none := by
  have h0 : mi ∈ [329, 330, 331, 332, 333] := by
    have : mi = 329 ∨ mi = 330 ∨ mi = 331 ∨ mi = 332 ∨ mi = 333 := by omega
    simpa using this
  have h1 := List.all_eq_true.mp (List.all_eq_true.mp am_hc_all mi h0) _ (am_find_mem _ _ _ _ _ _ hi)
  obtain ⟨-, ⟨z, rfl⟩ | ⟨z, rfl⟩ | ⟨z, rfl⟩⟩ := am_cal_inv hc
  · cases h1
  · have h2 : Nat.beq pc 5 = true ∧ decide (am_hd ta = none) = true := Bool.and_eq_true_iff.mp h1
    exact ⟨Nat.eq_of_beq_eq_true h2.1, ⟨z, rfl⟩, of_decide_eq_true h2.2⟩
  · cases h1
theorem am_hrun {f d mi hp k : Nat} {ls : am_L} {M M' : am_M} {res : am_R} (hh : am_hd mi = some hp) (h : am_ex f d mi hp ls [.inr (.inr k)] M = some (res, M')) : res = .inl (some (.inl 1)) ∧ M' = M := by
  obtain ⟨-, -, -, i1, i2, i3, -⟩ := am_hnd hh
  obtain ⟨f1, h1⟩ := am_ex_step h i1 rfl rfl rfl
  obtain ⟨f2, h2⟩ := am_ex_step h1 i2 rfl rfl rfl
  have h3 := am_ex_end h2 i3 rfl
  cases h3
  exact ⟨rfl, rfl⟩
theorem am_sound_open (hl0 : l.stackTraces = false) (hT : am_TAB) (hSt : am_STR l g L xs ca D) : ∀ f, ∀ f', f' ≤ f → am_SND l g L xs ca D f' := by
  intro f
  induction f with
  | zero =>
    intro f' hf'
    have : f' = 0 := by omega
    subst this
    intro d mi pc ls st M res M' h
    cases h
  | succ f ih =>
    intro f' hf'
    by_cases hff : f' ≤ f
    · exact ih f' hff
    have : f' = f + 1 := by omega
    subst this
    have hSN := ih f (Nat.le_refl f)
    intro d mi pc ls st M res M' h hmi p e R0 s m args below meth c H locs cells slots arr Q X hN hTb hll Y hr1 hr2 hr3 hr4 fin
    have hmono := am_ex_mono _ _ _ _ _ _ _ _ _ h
    unfold am_ex at h
    cases hi : am_ins mi pc with
    | none => rw [hi] at h; cases h
    | some x =>
      obtain ⟨nx, ta, tb, i⟩ := x
      obtain ⟨raw, len, hd, hn, hcy⟩ := hT mi hmi pc nx ta tb i hi
      rw [hi] at h
      dsimp only at h
      cases he : am_end i st M with
      | some q1 =>
        rw [he] at h
        cases h
        have := fin pc raw len nx ta tb i ls st M H locs arr hi hn hd he (Nat.le_refl _) (Nat.le_refl _) hll (by simpa using Y)
        simpa using this
      | none =>
        rw [he] at h
        dsimp only at h
        cases hc : am_cal i ta with
        | some y =>
          have hyt : ta = y := by
            cases i <;> simp only [am_cal, reduceCtorEq, Option.some.injEq] at hc <;> exact hc
          subst hyt
          obtain ⟨hylt, hymw⟩ := hcy ta hc
          rw [hc] at h
          dsimp only at h
          cases d with
          | zero => cases h
          | succ d' =>
            dsimp only at h
            cases hl : am_cok st ta with
            | false => rw [hl] at h; cases h
            | true =>
              rw [hl] at h
              simp only [Bool.not_true, cond_false] at h
              by_cases hrc : am_rcv i ta (st.take (am_na ta)).reverse M
              · rw [if_pos hrc] at h
                cases hy : am_ex f d' ta 0 (am_pad (am_ml ta) (am_ent (st.take (am_na ta)).reverse)) [] M with
                | none => rw [hy] at h; cases h
                | some q2 =>
                  rw [hy] at h
                  obtain ⟨r2, M2⟩ := q2
                  have mo1 := am_ex_mono _ _ _ _ _ _ _ _ _ hy
                  cases r2 with
                  | inr u =>
                    dsimp only at h
                    cases hh : am_hd mi with
                    | none => rw [hh] at h; cases h
                    | some hp =>
                      rw [hh] at h
                      dsimp only at h
                      obtain ⟨hm5, dd1, dd2, ii1, ii2, ii3, hml5⟩ := am_hnd hh
                      obtain ⟨rfl, ⟨z, rfl⟩, hhy⟩ := am_hcall hm5 hi hc
                      obtain ⟨rfl, rfl⟩ := am_hrun hh h
                      obtain ⟨x, x1, x2, x3, x4⟩ := hTb hp hh
                      obtain ⟨-, -, -, -, -, -, -, -, -, -, -, -, -, -, -, hlaw⟩ := am_hl hm5.1 hm5.2
                      refine am_callX hl0 hSN X hN hlaw x1 x3 x4 hll Y hn hd (hymw hhy) hylt hhy hl hrc hy (by omega) (by omega) (by omega) (by omega) (fun q H1 locs1 q1 q2 q3 => ?_)
                      rw [x2]
                      obtain ⟨⟨hx, hb, -⟩, -⟩ := X
                      obtain ⟨y1, y2, y3, y4, y5, y6, y7⟩ := Y
                      have hM4 : 4 ≤ M.1 := by obtain ⟨m1, sl, sh, I, R⟩ := M; exact y3.1.1
                      refine lv_astore hx hb dd1 (am_LR_has y6) (by rw [hll, hml5]; decide) rfl (fun arr' hl' => ?_)
                      refine lv_iconst (v := 1) hx hb dd2 (by decide) ?_
                      obtain ⟨rawE, lenE, dE, rE, -⟩ := hT mi hmi (hp + 3) (hp + 4) 0 0 .ireturn ii3
                      exact fin (hp + 3) rawE lenE (hp + 4) 0 0 .ireturn (List.replicate (am_ml mi) none) [.inl 1] M' H1 locs1 arr' ii3 rE dE rfl mo1.1 mo1.2 (List.length_replicate ..) ⟨q1, q2, q3, am_ent_ok [] (am_ml mi) (fun w hw => nomatch hw), (fun w hw => by rw [List.mem_singleton.mp hw]; exact (⟨by decide, by decide⟩ : am_r32 1)), ⟨by rw [List.length_replicate, hl'.1, hll], hl'.2.1, fun j w hw => absurd hw (by rw [am_lg_none]; exact fun z => nomatch z)⟩, by omega⟩
                  | inl v =>
                    dsimp only at h
                    have mo2 := am_ex_mono _ _ _ _ _ _ _ _ _ h
                    have kk : ∀ H1 locs1, va_P D am_cl (am_ws g ca M2) H1 → va_S (am_A g) s.heap H1 locs1 → am_okM L xs M2 → (∀ w, v = some w → am_okv M2.1 w) → W p l e R0 s m args below meth c H1 locs1 (cells + (M2.1 - M.1)) (slots + (M2.2.1 - M.2.1)) Q (F0 m nx arr ((v.toList ++ st.drop (am_na ta)).map (am_cv g))) := by
                      intro H1 locs1 q1 q2 q3 q4
                      obtain ⟨y1, y2, y3, y4, y5, y6, y7⟩ := Y
                      have okst : am_oks M2.1 (v.toList ++ st.drop (am_na ta)) := by
                        intro w hw
                        rcases List.mem_append.mp hw with h9 | h9
                        · cases v with
                          | none => cases h9
                          | some v0 =>
                            have : w = v0 := by simpa using h9
                            subst this
                            exact q4 w rfl
                        · exact am_okv_le mo1.1 (y5 w (List.mem_of_mem_drop h9))
                      have hM4 : 4 ≤ M.1 := by obtain ⟨m1, sl, sh, I, R⟩ := M; exact y3.1.1
                      refine hSN (d' + 1) mi nx ls _ M2 res M' h hmi p e R0 s m args below meth c H1 locs1 _ _ arr Q X hN hTb hll ⟨q1, q2, q3, am_okl_le mo1.1 y4, okst, y6, by omega⟩ (by omega) (by omega) hr3 hr4 ?_
                      intro pcE rawE lenE nxE taE tbE iE lsE stE ME H' locs' arr' z0 z1 z2 z3 z4 z5 z6 z7
                      have e1 : cells + (M2.1 - M.1) + (ME.1 - M2.1) = cells + (ME.1 - M.1) := by omega
                      have e2 : slots + (M2.2.1 - M.2.1) + (ME.2.1 - M2.2.1) = slots + (ME.2.1 - M.2.1) := by omega
                      rw [e1] at z7
                      rw [e1, e2]
                      exact fin pcE rawE lenE nxE taE tbE iE lsE stE ME H' locs' arr' z0 z1 z2 z3 (Nat.le_trans mo1.1 z4) (Nat.le_trans mo1.2 z5) z6 z7
                    by_cases hhy : am_hd ta = none
                    · exact am_call hSN X hN hll Y hn hd hc (hymw hhy) hylt hhy hl hrc hy (by omega) (by omega) (by omega) (by omega) kk
                    · exact am_callW hSN X hN hll Y hn hd hc (am_hd_ge hhy) (by have := am_hd_lt hhy; omega) hl hy (by omega) (by omega) (by omega) (by omega) kk
              · rw [if_neg hrc] at h; cases h
        | none =>
          rw [hc] at h
          dsimp only at h
          cases hs : am_step i nx ta tb ls st M with
          | none => rw [hs] at h; cases h
          | some x =>
            obtain ⟨C, pc', ls', st', M1⟩ := x
            rw [hs] at h
            dsimp only at h
            by_cases hC : C
            · rw [if_pos hC] at h
              have mo1 := am_step_mono hs
              have mo2 := am_ex_mono _ _ _ _ _ _ _ _ _ h
              have hlen := am_step_len hs
              have go : ∀ (H1 : Heap) (locs1 : List Loc) (arr1 : Array Slot), am_at g L xs ca D s H1 locs1 (cells + (M1.1 - M.1)) arr1 ls' st' M1 → W p l e R0 s m args below meth c H1 locs1 (cells + (M1.1 - M.1)) (slots + (M1.2.1 - M.2.1)) Q (F0 m pc' arr1 (st'.map (am_cv g))) := by
                intro H1 locs1 arr1 Y1
                refine hSN d mi pc' ls' st' M1 res M' h hmi p e R0 s m args below meth c H1 locs1 _ _ arr1 Q X hN hTb (hlen.trans hll) Y1 (by omega) (by omega) hr3 hr4 ?_
                intro pcE rawE lenE nxE taE tbE iE lsE stE ME H' locs' arr' z0 z1 z2 z3 z4 z5 z6 z7
                have e1 : cells + (M1.1 - M.1) + (ME.1 - M1.1) = cells + (ME.1 - M.1) := by omega
                have e2 : slots + (M1.2.1 - M.2.1) + (ME.2.1 - M1.2.1) = slots + (ME.2.1 - M.2.1) := by omega
                rw [e1] at z7
                rw [e1, e2]
                exact fin pcE rawE lenE nxE taE tbE iE lsE stE ME H' locs' arr' z0 z1 z2 z3 (Nat.le_trans mo1.1 z4) (Nat.le_trans mo1.2 z5) z6 z7
              rcases am_step_cases hs with hf | ⟨rfl, rfl, ⟨hso, rfl⟩ | ⟨hso, hho⟩⟩
              · refine am_simf X Y hf hn hd hs hC (fun arr' hM Y' => ?_)
                subst hM
                have := go H locs arr' (by simpa using Y')
                simpa using this
              · obtain ⟨rfl, rfl, rfl⟩ := am_sop_raw hso hn
                obtain ⟨⟨hx, hb, -⟩, -⟩ := X
                obtain ⟨y1, y2, y3, y4, y5, y6, y7⟩ := Y
                refine am_s_sop hx hb y5 hso hd (fun ok' => ?_)
                have := go H locs arr ⟨y1, y2, y3, y4, ok', y6, by simpa using y7⟩
                simpa using this
              · rcases am_hop_kind hho with hk | hk
                · exact am_simh X hll Y hk hn hd hho hC (by omega) (by omega) (by omega) (by omega) (fun H1 locs1 Y1 => go H1 locs1 arr Y1)
                · refine hSt mi pc ls' st st' M M1 raw i len pc' ta tb C p e R0 s m args below meth c H locs cells slots arr Q X hN hll Y hk hn hd hho hC (by omega) (by omega) (by omega) (by omega) (fun hM ok' => ?_)
                  subst hM
                  obtain ⟨y1, y2, y3, y4, y5, y6, y7⟩ := Y
                  have := go H locs arr ⟨y1, y2, y3, y4, ok', y6, by simpa using y7⟩
                  simpa using this
            · rw [if_neg hC] at h; cases h
end AMM
