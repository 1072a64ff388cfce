/-! STEPS that touch the heap or ask something -/
section AMY
variable {p : Program} {l : Launch} {e : Env} {R0 : Room} {s : State} {m : MethodId} {args : Array Value} {below : List Frame} {meth : Method} {c : Code} {H : Heap} {locs : List Loc} {cells slots : Nat} {Q : State → Prop} {pc : Nat} {arr : Array Slot} {g : am_G} {ca : Nat → ClassId} {D : va_G} {L : Nat} {xs : Nat → Int32} {mi : Nat}
def am_ish (i : Instr) : Bool := match i with
  | .idiv => true
  | .irem => true
  | .ldiv => true
  | .lrem => true
  | .getfield _ => true
  | .putfield _ => true
  | .arraylength => true
  | .iaload => true
  | .baload => true
  | .caload => true
  | .laload => true
  | .aaload => true
  | .iastore => true
  | .bastore => true
  | .castore => true
  | .lastore => true
  | .aastore => true
  | .new _ => true
  | .newarray _ => true
  | .anewarray _ => true
  | .getstatic _ => true
  | .invokeinterface 0 _ => true
  | .invokeinterface 3 _ => true
  | .invokeinterface 4 _ => true
  | .invokeinterface 5 _ => true
  | _ => false
theorem am_fv_okv {m1 sl : Nat} {sh : Nat → Nat × Nat} {I : Nat → Nat → Int} {R : Nat → Nat → Nat} (ok : am_okM L xs (m1, sl, sh, I, R)) {a k ci : Nat} (hsh : (sh a).1 = ci) (hci : ci < 13) : am_okv m1 (am_fv (am_fk ci k) (I a k) (R a k)) := by
  have h1 := ok.2.1 a k
  have h2 := ok.2.2.1 a k
  unfold am_rgk at h1
  rw [hsh, if_neg (by omega), if_neg (by omega), if_neg (by omega)] at h1
  unfold am_fv
  split
  · rename_i e1
    rw [if_pos ⟨hci, e1⟩] at h1
    exact h1
  · exact h2
  · rename_i n1 n2
    rw [if_neg (fun q => n1 q.2)] at h1
    show am_r32 _
    split at h1
    · unfold am_r32; omega
    · exact h1
theorem am_fits_sum {r : List am_V} (h : am_fit r = true) : ((r.map (am_cv g)).map fun v => v.category).sum ≤ 8 := by
  have e1 : (r.map (am_cv g)).map (fun v => v.category) = r.map am_cat := by
    rw [List.map_map]
    apply List.map_congr_left
    intro v _
    exact am_cv_cat g v
  rw [e1]
  exact Nat.le_of_ble_eq_true h
theorem am_hop0 {st : List am_V} {m1 sl ta tb n0 : Nat} {sh : Nat → Nat × Nat} {I : Nat → Nat → Int} {R : Nat → Nat → Nat} {C : Prop} {st' : List am_V} {M' : am_M} (h : am_hop (.invokeinterface 0 n0) ta tb st (m1, sl, sh, I, R) = some (C, st', M')) : ∃ n dp d sp s r, st = .inl n :: .inl dp :: .inr (.inr d) :: .inl sp :: .inr (.inr s) :: r ∧ am_fit r = true ∧ C = ((sh s).1 = (sh d).1 ∧ ((sh d).1 = 32 ∨ (sh d).1 = 35) ∧ 0 ≤ sp ∧ 0 ≤ dp ∧ 0 ≤ n ∧ sp + n ≤ (sh s).2 ∧ dp + n ≤ (sh d).2 ∧ 4 ≤ d ∧ 4 ≤ s) ∧ st' = r ∧ M' = (m1, sl, sh, am_cpy I s sp.toNat d dp.toNat n.toNat, R) := by
  rw [show am_hop (.invokeinterface 0 n0) ta tb st (m1, sl, sh, I, R) = (match (generalizing := false) st with
      | .inl n :: .inl dp :: .inr (.inr d) :: .inl sp :: .inr (.inr s) :: r => match am_fit r with
        | true => some ((sh s).1 = (sh d).1 ∧ ((sh d).1 = 32 ∨ (sh d).1 = 35) ∧ 0 ≤ sp ∧ 0 ≤ dp ∧ 0 ≤ n ∧ sp + n ≤ (sh s).2 ∧ dp + n ≤ (sh d).2 ∧ 4 ≤ d ∧ 4 ≤ s, r, (m1, sl, sh, am_cpy I s sp.toNat d dp.toNat n.toNat, R))
        | false => none
      | _ => none) from rfl] at h
  split at h
  · split at h
    · rename_i hf
      cases h
      exact ⟨_, _, _, _, _, _, rfl, hf, rfl, rfl, rfl⟩
    · cases h
  · cases h
theorem am_hop3 {st : List am_V} {m1 sl ta tb n0 : Nat} {sh : Nat → Nat × Nat} {I : Nat → Nat → Int} {R : Nat → Nat → Nat} {C : Prop} {st' : List am_V} {M' : am_M} (h : am_hop (.invokeinterface 3 n0) ta tb st (m1, sl, sh, I, R) = some (C, st', M')) : ∃ a r, st = .inr (.inr a) :: r ∧ am_fit r = true ∧ C = (4 ≤ a) ∧ st' = r ∧ M' = (m1, sl, sh, I, R) := by
  rw [show am_hop (.invokeinterface 3 n0) ta tb st (m1, sl, sh, I, R) = (match (generalizing := false) st with
      | .inr (.inr a) :: r => match am_fit r with
        | true => some (4 ≤ a, r, (m1, sl, sh, I, R))
        | false => none
      | _ => none) from rfl] at h
  split at h
  · split at h
    · rename_i hf
      cases h
      exact ⟨_, _, rfl, hf, rfl, rfl, rfl⟩
    · cases h
  · cases h
theorem am_hop4 {st : List am_V} {m1 sl ta tb n0 : Nat} {sh : Nat → Nat × Nat} {I : Nat → Nat → Int} {R : Nat → Nat → Nat} {C : Prop} {st' : List am_V} {M' : am_M} (h : am_hop (.invokeinterface 4 n0) ta tb st (m1, sl, sh, I, R) = some (C, st', M')) : ∃ b a r, st = .inl b :: .inl a :: r ∧ am_fit r = true ∧ st' = .inl (if a < b then b else a) :: r ∧ M' = (m1, sl, sh, I, R) := by
  rw [show am_hop (.invokeinterface 4 n0) ta tb st (m1, sl, sh, I, R) = (match (generalizing := false) st with
      | .inl b :: .inl a :: r => match am_fit r with
        | true => some (True, .inl (if a < b then b else a) :: r, (m1, sl, sh, I, R))
        | false => none
      | _ => none) from rfl] at h
  split at h
  · split at h
    · rename_i hf
      cases h
      exact ⟨_, _, _, rfl, hf, rfl, rfl⟩
    · cases h
  · cases h
theorem am_hop5 {st : List am_V} {m1 sl ta tb n0 : Nat} {sh : Nat → Nat × Nat} {I : Nat → Nat → Int} {R : Nat → Nat → Nat} {C : Prop} {st' : List am_V} {M' : am_M} (h : am_hop (.invokeinterface 5 n0) ta tb st (m1, sl, sh, I, R) = some (C, st', M')) : ∃ b a r, st = .inl b :: .inl a :: r ∧ am_fit r = true ∧ st' = .inl (if b < a then b else a) :: r ∧ M' = (m1, sl, sh, I, R) := by
  rw [show am_hop (.invokeinterface 5 n0) ta tb st (m1, sl, sh, I, R) = (match (generalizing := false) st with
      | .inl b :: .inl a :: r => match am_fit r with
        | true => some (True, .inl (if b < a then b else a) :: r, (m1, sl, sh, I, R))
        | false => none
      | _ => none) from rfl] at h
  split at h
  · split at h
    · rename_i hf
      cases h
      exact ⟨_, _, _, rfl, hf, rfl, rfl⟩
    · cases h
  · cases h
theorem am_simh (X : am_cx g L xs ca D mi p s m args meth c) {ls : am_L} {st st' : List am_V} {M M' : am_M} (hll : ls.length = am_ml mi) (Y : am_at g L xs ca D s H locs cells arr ls st M) {raw i : Instr} {len nx ta tb : Nat} {C : Prop} (hi : am_ish i = true) (hn : am_rn mi pc raw len nx ta tb i = true) (hd : decode (am_code mi) pc = .ok (raw, len)) (hst : am_hop i ta tb st M = some (C, st', M')) (hC : C) (hr1 : cells + (M'.1 - M.1) ≤ R0.cells) (hr2 : slots + (M'.2.1 - M.2.1) ≤ R0.slots) (hr3 : 1 ≤ R0.frames) (hr4 : 100 ≤ R0.locals)
    (kk : ∀ H' locs', am_at g L xs ca D s H' locs' (cells + (M'.1 - M.1)) arr ls st' M' → W p l e R0 s m args below meth c H' locs' (cells + (M'.1 - M.1)) (slots + (M'.2.1 - M.2.1)) Q (F0 m nx arr (st'.map (am_cv g)))) : W p l e R0 s m args below meth c H locs cells slots Q (F0 m pc arr (st.map (am_cv g))) := by
  obtain ⟨⟨hx, hb, hown, hml, hct⟩, hts, hK, hF, ⟨hA9, hA5⟩, hg⟩ := X
  obtain ⟨hP, hS, ok, okl, oks, hl, hcs⟩ := Y
  obtain ⟨m1, sl, sh, I, R⟩ := M
  have h4 : 4 ≤ m1 := ok.1.1
  have hmla : c.maxLocals = arr.size := by rw [hml, hl.1, hll]
  unfold am_rn at hn
  simp only [Bool.and_eq_true] at hn
  obtain ⟨e0, hn⟩ := hn
  have e0 := am_nb e0
  have hst0 := hst
  cases i <;> simp only [am_ish, Bool.false_eq_true] at hi <;> unfold am_hop at hst <;> dsimp only at hst
  case idiv =>
    simp only [Bool.and_eq_true, decide_eq_true_eq] at hn
    obtain ⟨rfl, e2⟩ := hn
    rw [am_nb e2] at hd e0
    split at hst
    · rename_i b a r
      cases hst
      have hb2 := am_oks_h oks
      have k2 := kk H locs ⟨hP, hS, ok, okl, am_oks_c (am_r32_t _) (am_oks_t (am_oks_t oks)), hl, by simpa using hcs⟩
      simp only [Nat.sub_self, Nat.add_zero, e0] at k2
      rw [List.map_cons, show am_cv g (.inl (am_div a b)) = .int (Int32.ofInt (Int32.ofInt a / Int32.ofInt b).toInt) from rfl, am_of] at k2
      exact lv_idiv hx hb hd (fun q => hC ((am_eq hb2 am_r0).mp q)) k2
    · cases hst
  case irem =>
    simp only [Bool.and_eq_true, decide_eq_true_eq] at hn
    obtain ⟨rfl, e2⟩ := hn
    rw [am_nb e2] at hd e0
    split at hst
    · rename_i b a r
      cases hst
      have hb2 := am_oks_h oks
      have k2 := kk H locs ⟨hP, hS, ok, okl, am_oks_c (am_r32_t _) (am_oks_t (am_oks_t oks)), hl, by simpa using hcs⟩
      simp only [Nat.sub_self, Nat.add_zero, e0] at k2
      rw [List.map_cons, show am_cv g (.inl (am_rem a b)) = .int (Int32.ofInt (Int32.ofInt a - Int32.ofInt a / Int32.ofInt b * Int32.ofInt b).toInt) from rfl, am_of] at k2
      exact lv_irem hx hb hd (fun q => hC ((am_eq hb2 am_r0).mp q)) k2
    · cases hst
  case ldiv =>
    simp only [Bool.and_eq_true, decide_eq_true_eq] at hn
    obtain ⟨rfl, e2⟩ := hn
    rw [am_nb e2] at hd e0
    split at hst
    · rename_i b a r
      cases hst
      have hb2 : am_r64 b := am_oks_h oks
      have k2 := kk H locs ⟨hP, hS, ok, okl, am_oks_c (am_r64_t _) (am_oks_t (am_oks_t oks)), hl, by simpa using hcs⟩
      simp only [Nat.sub_self, Nat.add_zero, e0] at k2
      rw [List.map_cons, show am_cv g (.inr (.inl (am_ldiv a b))) = .long (Int64.ofInt (Int64.ofInt a / Int64.ofInt b).toInt) from rfl, am_oj] at k2
      exact lv_ldiv hx hb hd (fun q => hC ((am_jeq hb2 (am_r32_64 am_r0)).mp q)) k2
    · cases hst
  case lrem =>
    simp only [Bool.and_eq_true, decide_eq_true_eq] at hn
    obtain ⟨rfl, e2⟩ := hn
    rw [am_nb e2] at hd e0
    split at hst
    · rename_i b a r
      cases hst
      have hb2 : am_r64 b := am_oks_h oks
      have k2 := kk H locs ⟨hP, hS, ok, okl, am_oks_c (am_r64_t _) (am_oks_t (am_oks_t oks)), hl, by simpa using hcs⟩
      simp only [Nat.sub_self, Nat.add_zero, e0] at k2
      rw [List.map_cons, show am_cv g (.inr (.inl (am_lrem a b))) = .long (Int64.ofInt (Int64.ofInt a - Int64.ofInt a / Int64.ofInt b * Int64.ofInt b).toInt) from rfl, am_oj] at k2
      exact lv_lrem hx hb hd (fun q => hC ((am_jeq hb2 (am_r32_64 am_r0)).mp q)) k2
    · cases hst
  case getfield n =>
    cases raw <;> simp only [Bool.and_eq_true, Bool.false_eq_true] at hn
    rename_i ix
    obtain ⟨⟨e1, e2⟩, e3⟩ := hn
    rw [am_nb e1] at hd e0
    have e2 : ta < 13 := Nat.lt_of_lt_of_le (Nat.lt_of_lt_of_le (Nat.lt_succ_self _) (Nat.le_of_ble_eq_true e2)) (Nat.le_refl _)
    obtain ⟨C0, T0, N0, ty0, hc0, hN, hin, hty, hnm, hfk, hins, hini⟩ := am_cfs ta e2
    obtain ⟨hk, hlk⟩ := am_fl e3 hc0
    split at hst
    · rename_i a r
      cases hst
      have k2 := kk H locs ⟨hP, hS, ok, okl, am_oks_c (am_fv_okv ok hC e2) (am_oks_t oks), hl, by simpa using hcs⟩
      simp only [Nat.sub_self, Nat.add_zero, e0] at k2
      exact am_h_get hx hb hts hin hown hK hP ok hC e2 hc0 hN tb hk (hts _ hlk) hd k2
    · cases hst
  case putfield n =>
    cases raw <;> simp only [Bool.and_eq_true, Bool.false_eq_true] at hn
    rename_i ix
    obtain ⟨⟨⟨e1, e2⟩, e3⟩, e4⟩ := hn
    rw [am_nb e1] at hd e0
    have e2 : ta < 13 := Nat.lt_of_lt_of_le (Nat.lt_of_lt_of_le (Nat.lt_succ_self _) (Nat.le_of_ble_eq_true e2)) (Nat.le_refl _)
    obtain ⟨C0, T0, N0, ty0, hc0, hN, hin, hty, hnm, hfk, hins, hini⟩ := am_cfs ta e2
    obtain ⟨hk, hlk⟩ := am_fl e3 hc0
    have hfin : (T0 tb).2.2.2 = false ∨ ((T0 tb).2.2.2 = true ∧ meth.name = "<init>" ∧ (T0 tb).1 = am_cn (am_ow mi)) := by
      rw [hc0] at e4
      simp only [Bool.or_eq_true, Bool.and_eq_true, decide_eq_true_eq, beq_iff_eq] at e4
      rcases e4 with e4 | ⟨e4, e5⟩
      · exact Or.inl e4
      · cases hf : (T0 tb).2.2.2 with
        | false => exact Or.inl rfl
        | true => exact Or.inr ⟨rfl, hct (am_nb e4), e5⟩
    have hfk1 := hfk tb hk
    split at hst
    · rename_i hf
      split at hst
      · rename_i x a r
        cases hst
        have hty1 : ty0 tb = .int := by
          unfold am_fkb at hfk1
          rw [hf] at hfk1
          split at hfk1 <;> first | assumption | (simp at hfk1; done)
        have rg : am_rgk (sh a).1 tb x := by
          unfold am_rgk
          rw [hC, hf, if_neg (by omega), if_neg (by omega), if_neg (by omega), if_neg (by simp), if_neg (by simp)]
          exact am_oks_h oks
        have a4 := (am_obj ok (a := a) (by omega)).1
        refine am_h_put hx hb hts hin ty0 hty hnm hown hK (m1, sl, sh, am_up I a tb x, R) hP hS ok hC e2 hc0 hN tb hk (hts _ hlk) hfin (v := .int (Int32.ofInt x)) (by rw [hty1]; rfl) (by rw [hty1]; rfl) rfl (fun b hb => am_cell_I hb) ?_ hd (fun H1 locs1 q1 q3 => ?_)
        · rw [am_cell_obj hC (by omega), ← am_fs_I (by omega) 0, hf]
          rfl
        · have k2 := kk H1 locs1 ⟨q1, q3, am_okM_I ok a4 rg, okl, am_oks_t (am_oks_t oks), hl, by simpa using hcs⟩
          simp only [Nat.sub_self, Nat.add_zero, e0] at k2
          exact k2
      · cases hst
    · rename_i hf
      split at hst
      · rename_i x a r
        cases hst
        have hty1 : ty0 tb = .long := by
          unfold am_fkb at hfk1
          rw [hf] at hfk1
          split at hfk1 <;> first | assumption | (simp at hfk1; done)
        have rg : am_rgk (sh a).1 tb x := by
          unfold am_rgk
          rw [hC, hf, if_neg (by omega), if_neg (by omega), if_neg (by omega), if_pos ⟨e2, rfl⟩]
          exact am_oks_h oks
        have a4 := (am_obj ok (a := a) (by omega)).1
        refine am_h_put hx hb hts hin ty0 hty hnm hown hK (m1, sl, sh, am_up I a tb x, R) hP hS ok hC e2 hc0 hN tb hk (hts _ hlk) hfin (v := .long (Int64.ofInt x)) (by rw [hty1]; rfl) (by rw [hty1]; rfl) rfl (fun b hb => am_cell_I hb) ?_ hd (fun H1 locs1 q1 q3 => ?_)
        · rw [am_cell_obj hC (by omega), ← am_fs_I (by omega) 0, hf]
          rfl
        · have k2 := kk H1 locs1 ⟨q1, q3, am_okM_I ok a4 rg, okl, am_oks_t (am_oks_t oks), hl, by simpa using hcs⟩
          simp only [Nat.sub_self, Nat.add_zero, e0] at k2
          exact k2
      · cases hst
    · rename_i hf
      split at hst
      · rename_i x a r
        cases hst
        have hx1 : x < m1 := am_oks_h oks
        have hty1 : (∃ n, ty0 tb = .object n) ∨ ∃ t, ty0 tb = .array t := by
          unfold am_fkb at hfk1
          rw [hf] at hfk1
          split at hfk1 <;> first | (exact Or.inl ⟨_, by assumption⟩) | (exact Or.inr ⟨_, by assumption⟩) | (simp at hfk1; done)
        have hv : ∃ q, am_cv g (.inr (.inr x)) = .ref q := by
          show ∃ q, va_rf (am_ad g x) = .ref q
          match x, hC.2 with
          | 1, _ => exact ⟨_, rfl⟩
          | 2, _ => exact ⟨_, rfl⟩
          | 3, _ => exact ⟨_, rfl⟩
          | k + 4, _ => exact ⟨_, rfl⟩
          | 0, h => exact absurd rfl h
        obtain ⟨q, hq⟩ := hv
        refine am_h_put hx hb hts hin ty0 hty hnm hown hK (m1, sl, sh, I, am_up R a tb x) hP hS ok hC.1 e2 hc0 hN tb hk (hts _ hlk) hfin (v := am_cv g (.inr (.inr x))) (by rw [hq]; rcases hty1 with ⟨n, h⟩ | ⟨t, h⟩ <;> rw [h] <;> rfl) (by rw [hq]; rcases hty1 with ⟨n, h⟩ | ⟨t, h⟩ <;> rw [h] <;> rfl) rfl (fun b hb => am_cell_R hb) ?_ hd (fun H1 locs1 q1 q3 => ?_)
        · rw [am_cell_obj hC.1 (by omega), ← am_fs_R (by omega), hf]
          rfl
        · have k2 := kk H1 locs1 ⟨q1, q3, am_okM_R ok hx1, okl, am_oks_t (am_oks_t oks), hl, by simpa using hcs⟩
          simp only [Nat.sub_self, Nat.add_zero, e0] at k2
          exact k2
      · cases hst
    · rename_i hf
      split at hst
      · rename_i x a r
        cases hst
        have hty1 : ty0 tb = .boolean := by
          unfold am_fkb at hfk1
          rw [hf] at hfk1
          split at hfk1 <;> first | assumption | (simp at hfk1; done)
        have rg : am_rgk (sh a).1 tb x := by
          unfold am_rgk
          rw [hC.1, hf, if_neg (by omega), if_neg (by omega), if_neg (by omega), if_neg (by simp), if_pos ⟨e2, rfl⟩]
          exact hC.2
        have a4 := (am_obj ok (a := a) (by omega)).1
        refine am_h_put hx hb hts hin ty0 hty hnm hown hK (m1, sl, sh, am_up I a tb x, R) hP hS ok hC.1 e2 hc0 hN tb hk (hts _ hlk) hfin (v := .int (Int32.ofInt x)) (by rw [hty1]; rcases hC.2 with h | h <;> rw [h] <;> rfl) (by rw [hty1]; rcases hC.2 with h | h <;> rw [h] <;> rfl) rfl (fun b hb => am_cell_I hb) ?_ hd (fun H1 locs1 q1 q3 => ?_)
        · rw [am_cell_obj hC.1 (by omega), ← am_fs_I (by omega) 0, hf]
          rfl
        · have k2 := kk H1 locs1 ⟨q1, q3, am_okM_I ok a4 rg, okl, am_oks_t (am_oks_t oks), hl, by simpa using hcs⟩
          simp only [Nat.sub_self, Nat.add_zero, e0] at k2
          exact k2
      · cases hst
    · cases hst
  case arraylength =>
    simp only [Bool.and_eq_true, decide_eq_true_eq] at hn
    obtain ⟨rfl, e2⟩ := hn
    rw [am_nb e2] at hd e0
    split at hst
    · rename_i a r
      cases hst
      have hlen := ok.2.2.2.1 a
      have k2 := kk H locs ⟨hP, hS, ok, okl, am_oks_c (am_okv_i ⟨by omega, by omega⟩) (am_oks_t oks), hl, by simpa using hcs⟩
      simp only [Nat.sub_self, Nat.add_zero, e0] at k2
      exact am_h_alen hx hb hK hF hP hS ok hC hd k2
    · cases hst
  case iaload =>
    simp only [Bool.and_eq_true, decide_eq_true_eq] at hn
    obtain ⟨rfl, e2⟩ := hn
    rw [am_nb e2] at hd e0
    split at hst
    · rename_i i a r
      cases hst
      have k2 := kk H locs ⟨hP, hS, ok, okl, am_oks_c (am_okv_i (am_rg32 ok (Or.inl hC.1) _)) (am_oks_t (am_oks_t oks)), hl, by simpa using hcs⟩
      simp only [Nat.sub_self, Nat.add_zero, e0] at k2
      exact am_h_iald hx hb hK hF hP hS ok hC.1 hC.2.1 hC.2.2 hd k2
    · cases hst
  case baload =>
    simp only [Bool.and_eq_true, decide_eq_true_eq] at hn
    obtain ⟨rfl, e2⟩ := hn
    rw [am_nb e2] at hd e0
    split at hst
    · rename_i i a r
      cases hst
      have k2 := kk H locs ⟨hP, hS, ok, okl, am_oks_c (am_okv_i (am_rg32 ok (Or.inr (Or.inl hC.1)) _)) (am_oks_t (am_oks_t oks)), hl, by simpa using hcs⟩
      simp only [Nat.sub_self, Nat.add_zero, e0] at k2
      exact am_h_bald hx hb hK hP ok hC.1 hC.2.1 hC.2.2 hd k2
    · cases hst
  case caload =>
    simp only [Bool.and_eq_true, decide_eq_true_eq] at hn
    obtain ⟨rfl, e2⟩ := hn
    rw [am_nb e2] at hd e0
    split at hst
    · rename_i i a r
      cases hst
      have k2 := kk H locs ⟨hP, hS, ok, okl, am_oks_c (am_okv_i (am_rg32 ok (Or.inr (Or.inr hC.1)) _)) (am_oks_t (am_oks_t oks)), hl, by simpa using hcs⟩
      simp only [Nat.sub_self, Nat.add_zero, e0] at k2
      exact am_h_zald hx hb hK hP ok hC.1 hC.2.1 hC.2.2 hd k2
    · cases hst
  case laload =>
    simp only [Bool.and_eq_true, decide_eq_true_eq] at hn
    obtain ⟨rfl, e2⟩ := hn
    rw [am_nb e2] at hd e0
    split at hst
    · rename_i i a r
      cases hst
      have k2 := kk H locs ⟨hP, hS, ok, okl, am_oks_c (show am_okv m1 (.inr (.inl _)) from am_rg64 ok hC.1 _) (am_oks_t (am_oks_t oks)), hl, by simpa using hcs⟩
      simp only [Nat.sub_self, Nat.add_zero, e0] at k2
      exact am_h_lald hx hb hK hP ok hC.1 hC.2.1 hC.2.2 hd k2
    · cases hst
  case aaload =>
    simp only [Bool.and_eq_true, decide_eq_true_eq] at hn
    obtain ⟨rfl, e2⟩ := hn
    rw [am_nb e2] at hd e0
    split at hst
    · rename_i i a r
      cases hst
      have k2 := kk H locs ⟨hP, hS, ok, okl, am_oks_c (show am_okv m1 (.inr (.inr _)) from ok.2.2.1 _ _) (am_oks_t (am_oks_t oks)), hl, by simpa using hcs⟩
      simp only [Nat.sub_self, Nat.add_zero, e0] at k2
      exact am_h_aald hx hb hK hP ok hC.1 hC.2.1 hC.2.2 hd k2
    · cases hst
  case iastore =>
    simp only [Bool.and_eq_true, decide_eq_true_eq] at hn
    obtain ⟨rfl, e2⟩ := hn
    rw [am_nb e2] at hd e0
    split at hst
    · rename_i x i a r
      cases hst
      obtain ⟨c1, c2, c3, c4⟩ := hC
      have rg : am_rgk (sh a).1 i.toNat x := by
        unfold am_rgk
        rw [c1, if_neg (by decide), if_neg (by decide), if_neg (by decide), if_neg (by omega), if_neg (by omega)]
        exact am_oks_h oks
      refine am_h_iast hx hb hK hP hS ok c1 c4 c2 c3 hd (fun H1 locs1 q1 q3 => ?_)
      have k2 := kk H1 locs1 ⟨q1, q3, am_okM_I ok c4 rg, okl, am_oks_t (am_oks_t (am_oks_t oks)), hl, by simpa using hcs⟩
      simp only [Nat.sub_self, Nat.add_zero, e0] at k2
      exact k2
    · cases hst
  case bastore =>
    simp only [Bool.and_eq_true, decide_eq_true_eq] at hn
    obtain ⟨rfl, e2⟩ := hn
    rw [am_nb e2] at hd e0
    split at hst
    · rename_i x i a r
      cases hst
      obtain ⟨c1, c2, c3, c4⟩ := hC
      have rg : am_rgk (sh a).1 i.toNat (am_byte x) := by
        unfold am_rgk
        rw [c1, if_pos rfl]
        exact am_byte_r x
      refine am_h_bast hx hb hK hP hS ok c1 c2 c3 hd (fun H1 locs1 q1 q3 => ?_)
      have k2 := kk H1 locs1 ⟨q1, q3, am_okM_I ok c4 rg, okl, am_oks_t (am_oks_t (am_oks_t oks)), hl, by simpa using hcs⟩
      simp only [Nat.sub_self, Nat.add_zero, e0] at k2
      exact k2
    · cases hst
  case castore =>
    simp only [Bool.and_eq_true, decide_eq_true_eq] at hn
    obtain ⟨rfl, e2⟩ := hn
    rw [am_nb e2] at hd e0
    split at hst
    · rename_i x i a r
      cases hst
      obtain ⟨c1, c2, c3, c4, c5⟩ := hC
      have rg : am_rgk (sh a).1 i.toNat x := by
        unfold am_rgk
        rw [c1, if_neg (by decide), if_pos rfl]
        exact c5
      refine am_h_zast hx hb hK hP hS ok c1 c2 c3 c5 hd (fun H1 locs1 q1 q3 => ?_)
      have k2 := kk H1 locs1 ⟨q1, q3, am_okM_I ok c4 rg, okl, am_oks_t (am_oks_t (am_oks_t oks)), hl, by simpa using hcs⟩
      simp only [Nat.sub_self, Nat.add_zero, e0] at k2
      exact k2
    · cases hst
  case lastore =>
    simp only [Bool.and_eq_true, decide_eq_true_eq] at hn
    obtain ⟨rfl, e2⟩ := hn
    rw [am_nb e2] at hd e0
    split at hst
    · rename_i x i a r
      cases hst
      obtain ⟨c1, c2, c3, c4⟩ := hC
      have rg : am_rgk (sh a).1 i.toNat x := by
        unfold am_rgk
        rw [c1, if_neg (by decide), if_neg (by decide), if_pos rfl]
        exact am_oks_h oks
      refine am_h_last hx hb hK hP hS ok c1 c2 c3 hd (fun H1 locs1 q1 q3 => ?_)
      have k2 := kk H1 locs1 ⟨q1, q3, am_okM_I ok c4 rg, okl, am_oks_t (am_oks_t (am_oks_t oks)), hl, by simpa using hcs⟩
      simp only [Nat.sub_self, Nat.add_zero, e0] at k2
      exact k2
    · cases hst
  case aastore =>
    simp only [Bool.and_eq_true, decide_eq_true_eq] at hn
    obtain ⟨rfl, e2⟩ := hn
    rw [am_nb e2] at hd e0
    split at hst
    · rename_i x i a r
      cases hst
      obtain ⟨c1, c2, c3, c4, c5⟩ := hC
      have hx1 : x < m1 := am_oks_h oks
      refine am_h_aast hx hb hK hP hS ok c1 c2 c3 hd (fun H1 locs1 q1 q3 => ?_)
      have k2 := kk H1 locs1 ⟨q1, q3, am_okM_R ok hx1, okl, am_oks_t (am_oks_t (am_oks_t oks)), hl, by simpa using hcs⟩
      simp only [Nat.sub_self, Nat.add_zero, e0] at k2
      exact k2
    · cases hst
  case new n =>
    cases raw <;> simp only [Bool.and_eq_true, Bool.false_eq_true] at hn
    rename_i ix
    obtain ⟨⟨⟨e1, e2⟩, e3⟩, e4⟩ := hn
    rw [am_nb e1] at hd e0
    have e2 : ta < 13 := Nat.lt_of_lt_of_le (Nat.lt_of_lt_of_le (Nat.lt_succ_self _) (Nat.le_of_ble_eq_true e2)) (Nat.le_refl _)
    obtain ⟨C0, T0, N0, ty0, hc0, hN, hin, hty, hnm, hfk, hins, hini⟩ := am_cfs ta e2
    have htb : tb = N0 := (am_nb e4).trans hN
    subst htb
    have hz := am_zl e3 hc0
    have hfk2 : ∀ k, k < tb → am_fk ta k = 0 ∧ ty0 k = .int ∨ am_fk ta k = 1 ∧ ty0 k = .long ∨ am_fk ta k = 3 ∧ ty0 k = .boolean ∨ am_fk ta k = 2 ∧ ((∃ n, ty0 k = .object n) ∨ ∃ t, ty0 k = .array t) := by
      intro k hk
      have h := hfk k hk
      unfold am_fkb at h
      split at h
      · rename_i e; exact Or.inl ⟨am_nb h, e⟩
      · rename_i e; exact Or.inr (Or.inl ⟨am_nb h, e⟩)
      · rename_i e; exact Or.inr (Or.inr (Or.inl ⟨am_nb h, e⟩))
      · rename_i e; exact Or.inr (Or.inr (Or.inr ⟨am_nb h, Or.inl ⟨_, e⟩⟩))
      · rename_i e; exact Or.inr (Or.inr (Or.inr ⟨am_nb h, Or.inr ⟨_, e⟩⟩))
      · cases h
    cases hst
    have d1 : (am_mk (m1, sl, sh, I, R) ta tb).1 - m1 = 1 := by show m1 + 1 - m1 = 1; omega
    have d2 : (am_mk (m1, sl, sh, I, R) ta tb).2.1 - sl = tb := by show sl + tb - sl = tb; omega
    simp only [d1, d2] at hr1 hr2 kk
    refine am_size (M := (m1, sl, sh, I, R)) hP hS h4 hcs (fun hsz => ?_) hg
    have hN2 : tb ≤ 100000 := by rw [← hN]; match ta, e2 with
      | 0, _ => decide
      | 1, _ => decide
      | 2, _ => decide
      | 3, _ => decide
      | 4, _ => decide
      | 5, _ => decide
      | 6, _ => decide
      | 7, _ => decide
      | 8, _ => decide
      | 9, _ => decide
      | 10, _ => decide
      | 11, _ => decide
      | 12, _ => decide
    refine am_h_new hx hb hts hin ty0 hty hown (hts _ hz) (hts _ hins) (hts _ hini) hK hP hS h4 hsz hc0 e2 hN hfk2 hr1 hr2 hd (fun H1 q1 q3 => ?_)
    have k2 := kk H1 locs ⟨q1, q3, am_okM_mk ok (Or.inl (by omega)) hN2, am_okl_le (Nat.le_succ _) okl, am_oks_c (Nat.lt_succ_self m1) (am_oks_le (Nat.le_succ _) oks), hl, by show s.heap.size + (cells + 1) = g.2.2.2 + (m1 + 1 - 4); have := hcs; dsimp only at this; omega⟩
    simp only [e0] at k2
    exact k2
  case newarray t =>
    simp only [Bool.and_eq_true, decide_eq_true_eq] at hn
    obtain ⟨⟨rfl, e2⟩, e3⟩ := hn
    rw [am_nb e2] at hd e0
    split at hst
    · rename_i n r
      cases hst
      have d1 : (am_mk (m1, sl, sh, I, R) (am_kd t) n.toNat).1 - m1 = 1 := by show m1 + 1 - m1 = 1; omega
      have d2 : (am_mk (m1, sl, sh, I, R) (am_kd t) n.toNat).2.1 - sl = n.toNat := by show sl + n.toNat - sl = n.toNat; omega
      simp only [d1, d2] at hr1 hr2 kk
      refine am_size (M := (m1, sl, sh, I, R)) hP hS h4 hcs (fun hsz => ?_) hg
      obtain ⟨-, -, -, -, -, -, -, w1, w2, w3, w4⟩ := am_k_nat
      have harr : (Cond.arrayClass (newarray.typeOf t)).before args s = true := by
        rcases e3 with rfl | rfl | rfl | rfl
        · exact hts _ (am_uw_at w1 rfl)
        · exact hts _ (am_uw_at w2 rfl)
        · exact hts _ (am_uw_at w3 rfl)
        · exact hts _ (am_uw_at w4 rfl)
      have hkd : am_kd t < 14 ∨ (32 ≤ am_kd t ∧ am_kd t ≤ 37) := by
        rcases e3 with rfl | rfl | rfl | rfl <;> exact Or.inr (by decide)
      refine am_h_newa hx hb e3 harr hK hP hS h4 hsz hC.1 hC.2 hr1 hr2 hd (fun H1 q1 q3 => ?_)
      have k2 := kk H1 locs ⟨q1, q3, am_okM_mk ok hkd (by omega), am_okl_le (Nat.le_succ _) okl, am_oks_c (Nat.lt_succ_self m1) (am_oks_le (Nat.le_succ _) (am_oks_t oks)), hl, by show s.heap.size + (cells + 1) = g.2.2.2 + (m1 + 1 - 4); have := hcs; dsimp only at this; omega⟩
      simp only [e0] at k2
      exact k2
    · cases hst
  case anewarray n0 =>
    cases raw <;> simp only [Bool.and_eq_true, Bool.false_eq_true] at hn
    rename_i ix
    obtain ⟨e1, e2⟩ := hn
    rw [am_nb e1] at hd e0
    split at hst
    · rename_i n r
      cases hst
      have d1 : (am_mk (m1, sl, sh, I, R) ta n.toNat).1 - m1 = 1 := by show m1 + 1 - m1 = 1; omega
      have d2 : (am_mk (m1, sl, sh, I, R) ta n.toNat).2.1 - sl = n.toNat := by show sl + n.toNat - sl = n.toNat; omega
      simp only [d1, d2] at hr1 hr2 kk
      refine am_size (M := (m1, sl, sh, I, R)) hP hS h4 hcs (fun hsz => ?_) hg
      have hkd : ta < 14 ∨ (32 ≤ ta ∧ ta ≤ 37) := by rcases am_al4 e2 with ⟨h, -⟩ | ⟨h, -⟩ <;> omega
      have fin : ∀ H1, va_P D am_cl (am_ws g ca (am_mk (m1, sl, sh, I, R) ta n.toNat)) H1 → va_S (am_A g) s.heap H1 locs → W p l e R0 s m args below meth c H1 locs (cells + 1) (slots + n.toNat) Q (F0 m (pc + 3) arr (am_cv g (.inr (.inr m1)) :: r.map (am_cv g))) := by
        intro H1 q1 q3
        have k2 := kk H1 locs ⟨q1, q3, am_okM_mk ok hkd (by omega), am_okl_le (Nat.le_succ _) okl, am_oks_c (Nat.lt_succ_self m1) (am_oks_le (Nat.le_succ _) (am_oks_t oks)), hl, by show s.heap.size + (cells + 1) = g.2.2.2 + (m1 + 1 - 4); have := hcs; dsimp only at this; omega⟩
        simp only [e0] at k2
        exact k2
      rcases am_al4 e2 with ⟨h, h'⟩ | ⟨h, h'⟩
      · exact am_h_anew hx hb (Or.inl ⟨h, rfl⟩) hown (hts _ h') hA9 hK hP hS h4 hsz hC.1 hC.2 hr1 hr2 hd fin
      · exact am_h_anew hx hb (Or.inr ⟨h, rfl⟩) hown (hts _ h') hA5 hK hP hS h4 hsz hC.1 hC.2 hr1 hr2 hd fin
    · cases hst
  case getstatic n0 =>
    cases raw <;> simp only [Bool.and_eq_true, Bool.false_eq_true] at hn
    rename_i ix
    obtain ⟨e1, e2⟩ := hn
    rw [am_nb e1] at hd e0
    cases hst
    obtain ⟨pos, hp⟩ := am_sl e2
    have hlk : Cond.fieldLink (am_cn (am_ow mi)) ix "PanSlices" "CHOICES" "[I" ∈ am_uw := am_uw_at (of_decide_eq_true hp) rfl
    have k2 := kk H locs ⟨hP, hS, ok, okl, am_oks_c (show (2 : Nat) < m1 by omega) oks, hl, by simpa using hcs⟩
    simp only [Nat.sub_self, Nat.add_zero, e0] at k2
    exact va_gets hx hb hF.2.1 hS hown (hts _ hlk) (fun _ h => h) hd k2
  case invokeinterface k n0 =>
    obtain ⟨v1, v2, v3, v4, v5, v6, v7, -⟩ := am_k_nat
    clear hst
    match k, hi, hst0 with
    | 0, _, hst =>
      cases raw <;> simp only [Bool.and_eq_true, Bool.or_eq_true, Bool.false_eq_true, Nat.beq, false_and, or_false, true_and, and_false] at hn
      rename_i ix
      obtain ⟨e1, e2⟩ := hn
      have e1 := am_nb e1
      subst e1
      obtain ⟨pos, hp⟩ := am_sl e2
      have hlk : Cond.methodLink (am_cn (am_ow mi)) ix arraycopyName ∈ am_uw := am_uw_at (of_decide_eq_true hp) rfl
      obtain ⟨n, dp, d, sp, a, r, rfl, hfit, rfl, rfl, rfl⟩ := am_hop0 hst
      obtain ⟨c1, c2, c3, c4, c5, c6, c7, c8, c9⟩ := hC
      have hsum := am_fits_sum (g := g) hfit
      have hnw := am_nfw
      refine am_h_cpy hx hb hmla hown (hts _ hlk) (hts _ (am_uw_at v1 rfl)) (hts _ (am_uw_at v2 rfl)) (hts _ (am_uw_at v3 rfl)) hK hP hS ok c1 c2 c9 c8 c3 c4 c5 c6 c7 hr3 (by omega) hd (fun H1 locs1 q1 q3 => ?_)
      have k2 := kk H1 locs1 ⟨q1, q3, am_okM_cpy ok c8 c1 c2, okl, am_oks_t (am_oks_t (am_oks_t (am_oks_t (am_oks_t oks)))), hl, by simpa using hcs⟩
      simp only [Nat.sub_self, Nat.add_zero, e0] at k2
      exact k2
    | 3, _, hst =>
      cases raw <;> simp only [Bool.and_eq_true, Bool.or_eq_true, Bool.false_eq_true, Nat.beq, false_and, or_false, true_and, and_false] at hn
      rename_i ix
      obtain ⟨⟨e1, -⟩, e2⟩ := hn
      have e1 := am_nb e1
      subst e1
      obtain ⟨pos, hp⟩ := am_sl e2
      have hlk : Cond.methodLink (am_cn (am_ow mi)) ix Lib.objectInit ∈ am_uw := am_uw_at (of_decide_eq_true hp) rfl
      obtain ⟨a, r, rfl, hfit, rfl, rfl, rfl⟩ := am_hop3 hst
      have hsum := am_fits_sum (g := g) hfit
      have k2 := kk H locs ⟨hP, hS, ok, okl, am_oks_t oks, hl, by simpa using hcs⟩
      simp only [Nat.sub_self, Nat.add_zero, e0] at k2
      rw [List.map_cons, am_cvr g hC]
      exact W.objInit hx hb hown (hts _ hlk) (hts _ (am_uw_at v4 rfl)) (hts _ (am_uw_at am_k_oco rfl)) rfl hmla.symm rfl hd hr3 (by show 2 * 0 + _ + 12 ≤ _; omega) k2
    | 4, _, hst =>
      cases raw <;> simp only [Bool.and_eq_true, Bool.or_eq_true, Bool.false_eq_true, Nat.beq, false_and, or_false, true_and, and_false, false_or] at hn
      rename_i ix
      obtain ⟨e1, e2⟩ := hn
      have e1 := am_nb e1
      subst e1
      obtain ⟨pos, hp⟩ := am_sl e2
      have hlk : Cond.methodLink (am_cn (am_ow mi)) ix Lib.Math.max.name ∈ am_uw := am_uw_at (of_decide_eq_true hp) rfl
      obtain ⟨b, a, r, rfl, hfit, rfl, rfl⟩ := am_hop4 hst
      have hsum := am_fits_sum (g := g) hfit
      have rb : am_r32 b := am_oks_h oks
      have ra : am_r32 a := am_oks_h (am_oks_t oks)
      have k2 := kk H locs ⟨hP, hS, ok, okl, am_oks_c (show am_r32 (if a < b then b else a) by split <;> assumption) (am_oks_t (am_oks_t oks)), hl, by simpa using hcs⟩
      simp only [Nat.sub_self, Nat.add_zero, e0] at k2
      refine va_mmax hx hb hmla hown (hts _ hlk) (hts _ (am_uw_at v5 rfl)) (hts _ (am_uw_at v7 rfl)) (hts _ (am_uw_at am_k_cmx rfl)) hr3 (by omega) (by simpa using hr1) (by simpa using hr2) hd ?_
      rw [List.map_cons, show am_cv g (.inl (if a < b then b else a)) = .int (Int32.ofInt (if a < b then b else a)) from rfl] at k2
      by_cases h : a < b
      · rw [if_pos h] at k2
        rw [if_pos ((am_lt ra rb).mpr h)]
        exact k2
      · rw [if_neg h] at k2
        rw [if_neg (fun q => h ((am_lt ra rb).mp q))]
        exact k2
    | 5, _, hst =>
      cases raw <;> simp only [Bool.and_eq_true, Bool.or_eq_true, Bool.false_eq_true, Nat.beq, false_and, or_false, true_and, and_false, false_or] at hn
      rename_i ix
      obtain ⟨e1, e2⟩ := hn
      have e1 := am_nb e1
      subst e1
      obtain ⟨pos, hp⟩ := am_sl e2
      have hlk : Cond.methodLink (am_cn (am_ow mi)) ix Lib.Math.min.name ∈ am_uw := am_uw_at (of_decide_eq_true hp) rfl
      obtain ⟨b, a, r, rfl, hfit, rfl, rfl⟩ := am_hop5 hst
      have hsum := am_fits_sum (g := g) hfit
      have rb : am_r32 b := am_oks_h oks
      have ra : am_r32 a := am_oks_h (am_oks_t oks)
      have k2 := kk H locs ⟨hP, hS, ok, okl, am_oks_c (show am_r32 (if b < a then b else a) by split <;> assumption) (am_oks_t (am_oks_t oks)), hl, by simpa using hcs⟩
      simp only [Nat.sub_self, Nat.add_zero, e0] at k2
      refine va_mmin hx hb hmla hown (hts _ hlk) (hts _ (am_uw_at v6 rfl)) (hts _ (am_uw_at v7 rfl)) (hts _ (am_uw_at am_k_cmn rfl)) hr3 (by omega) (by simpa using hr1) (by simpa using hr2) hd ?_
      rw [List.map_cons, show am_cv g (.inl (if b < a then b else a)) = .int (Int32.ofInt (if b < a then b else a)) from rfl] at k2
      by_cases h : b < a
      · rw [if_pos h] at k2
        rw [if_pos ((am_lt rb ra).mpr h)]
        exact k2
      · rw [if_neg h] at k2
        rw [if_neg (fun q => h ((am_lt rb ra).mp q))]
        exact k2
end AMY
