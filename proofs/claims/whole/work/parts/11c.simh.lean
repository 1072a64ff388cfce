/-! STEPS that touch the heap or ask something -/
section AMY
variable {p : Program} {l : Launch} {e : Env} {R0 : Room} {s : State} {m : MethodId} {args : Array Value} {below : List Frame} {meth : Method} {c : Code} {H : Heap} {locs : List Loc} {cells slots : Nat} {Q : State → Prop} {pc : Nat} {arr : Array Slot} {g : am_G} {ca : Nat → ClassId} {D : va_G} {L : Nat} {xs : Nat → Int32} {mi : Nat}
def am_ish (i : Instr) : Bool := match i with
  | .idiv => true
  | .irem => true
  | .ldiv => true
  | .lrem => true
  | .getfield _ => true
  | .putfield _ => true
  | .arraylength => true
  | .iaload => true
  | .baload => true
  | .caload => true
  | .laload => true
  | .aaload => true
  | .iastore => true
  | .bastore => true
  | .castore => true
  | .lastore => true
  | .aastore => true
  | .new _ => true
  | .newarray _ => true
  | .anewarray _ => true
  | .getstatic _ => true
  | .invokeinterface 0 _ => true
  | .invokeinterface 3 _ => true
  | .invokeinterface 4 _ => true
  | .invokeinterface 5 _ => true
  | _ => false
theorem am_fv_okv {m1 sl : Nat} {sh : Nat → Nat × Nat} {I : Nat → Nat → Int} {R : Nat → Nat → Nat} (ok : am_okM L xs (m1, sl, sh, I, R)) {a k ci : Nat} (hsh : (sh a).1 = ci) (hci : ci < 13) : am_okv m1 (am_fv (am_fk ci k) (I a k) (R a k)) := by
  have h1 := ok.2.1 a k
  have h2 := ok.2.2.1 a k
  unfold am_rgk at h1
  rw [hsh, if_neg (by omega), if_neg (by omega), if_neg (by omega)] at h1
  unfold am_fv
  split
  · rename_i e1
    rw [if_pos ⟨hci, e1⟩] at h1
    exact h1
  · exact h2
  · rename_i n1 n2
    rw [if_neg (fun q => n1 q.2)] at h1
    show am_r32 _
    split at h1
    · unfold am_r32; omega
    · exact h1
theorem am_fits_sum {r : List am_V} (h : am_fit r = true) : ((r.map (am_cv g)).map fun v => v.category).sum ≤ 8 := by
  have e1 : (r.map (am_cv g)).map (fun v => v.category) = r.map am_cat := by
    rw [List.map_map]
    apply List.map_congr_left
    intro v _
    exact am_cv_cat g v
  rw [e1]
  exact Nat.le_of_ble_eq_true h
theorem am_simh (X : am_cx g L xs ca D mi p s m args meth c) {ls : am_L} {st st' : List am_V} {M M' : am_M} (hll : ls.length = am_ml mi) (Y : am_at g L xs ca D s H locs cells arr ls st M) {raw i : Instr} {len nx ta tb : Nat} {C : Prop} (hi : am_ish i = true) (hn : am_rn mi pc raw len nx ta tb i = true) (hd : decode (am_code mi) pc = .ok (raw, len)) (hst : am_hop i ta tb st M = some (C, st', M')) (hC : C) (hr1 : cells + (M'.1 - M.1) ≤ R0.cells) (hr2 : slots + (M'.2.1 - M.2.1) ≤ R0.slots) (hr3 : 1 ≤ R0.frames) (hr4 : 100 ≤ R0.locals)
    (kk : ∀ H' locs', am_at g L xs ca D s H' locs' (cells + (M'.1 - M.1)) arr ls st' M' → W p l e R0 s m args below meth c H' locs' (cells + (M'.1 - M.1)) (slots + (M'.2.1 - M.2.1)) Q (F0 m nx arr (st'.map (am_cv g)))) : W p l e R0 s m args below meth c H locs cells slots Q (F0 m pc arr (st.map (am_cv g))) := by
  obtain ⟨⟨hx, hb, hown, hml, hct⟩, hts, hK, hF, ⟨hA9, hA5⟩, hg⟩ := X
  obtain ⟨hP, hS, ok, okl, oks, hl, hcs⟩ := Y
  obtain ⟨m1, sl, sh, I, R⟩ := M
  have h4 : 4 ≤ m1 := ok.1.1
  have hmla : c.maxLocals = arr.size := by rw [hml, hl.1, hll]
  unfold am_rn at hn
  simp only [Bool.and_eq_true] at hn
  obtain ⟨e0, hn⟩ := hn
  have e0 := am_nb e0
  cases i <;> simp only [am_ish, Bool.false_eq_true] at hi <;> unfold am_hop at hst <;> dsimp only at hst
  case idiv =>
    simp only [Bool.and_eq_true, decide_eq_true_eq] at hn
    obtain ⟨rfl, e2⟩ := hn
    rw [am_nb e2] at hd e0
    split at hst
    · rename_i b a r
      cases hst
      have hb2 := am_oks_h oks
      have k2 := kk H locs ⟨hP, hS, ok, okl, am_oks_c (am_r32_t _) (am_oks_t (am_oks_t oks)), hl, by simpa using hcs⟩
      simp only [Nat.sub_self, Nat.add_zero, e0] at k2
      rw [List.map_cons, show am_cv g (.inl (am_div a b)) = .int (Int32.ofInt (Int32.ofInt a / Int32.ofInt b).toInt) from rfl, am_of] at k2
      exact lv_idiv hx hb hd (fun q => hC ((am_eq hb2 am_r0).mp q)) k2
    · cases hst
  case irem =>
    simp only [Bool.and_eq_true, decide_eq_true_eq] at hn
    obtain ⟨rfl, e2⟩ := hn
    rw [am_nb e2] at hd e0
    split at hst
    · rename_i b a r
      cases hst
      have hb2 := am_oks_h oks
      have k2 := kk H locs ⟨hP, hS, ok, okl, am_oks_c (am_r32_t _) (am_oks_t (am_oks_t oks)), hl, by simpa using hcs⟩
      simp only [Nat.sub_self, Nat.add_zero, e0] at k2
      rw [List.map_cons, show am_cv g (.inl (am_rem a b)) = .int (Int32.ofInt (Int32.ofInt a - Int32.ofInt a / Int32.ofInt b * Int32.ofInt b).toInt) from rfl, am_of] at k2
      exact lv_irem hx hb hd (fun q => hC ((am_eq hb2 am_r0).mp q)) k2
    · cases hst
  case ldiv =>
    simp only [Bool.and_eq_true, decide_eq_true_eq] at hn
    obtain ⟨rfl, e2⟩ := hn
    rw [am_nb e2] at hd e0
    split at hst
    · rename_i b a r
      cases hst
      have hb2 : am_r64 b := am_oks_h oks
      have k2 := kk H locs ⟨hP, hS, ok, okl, am_oks_c (am_r64_t _) (am_oks_t (am_oks_t oks)), hl, by simpa using hcs⟩
      simp only [Nat.sub_self, Nat.add_zero, e0] at k2
      rw [List.map_cons, show am_cv g (.inr (.inl (am_ldiv a b))) = .long (Int64.ofInt (Int64.ofInt a / Int64.ofInt b).toInt) from rfl, am_oj] at k2
      exact lv_ldiv hx hb hd (fun q => hC ((am_jeq hb2 (am_r32_64 am_r0)).mp q)) k2
    · cases hst
  case lrem =>
    simp only [Bool.and_eq_true, decide_eq_true_eq] at hn
    obtain ⟨rfl, e2⟩ := hn
    rw [am_nb e2] at hd e0
    split at hst
    · rename_i b a r
      cases hst
      have hb2 : am_r64 b := am_oks_h oks
      have k2 := kk H locs ⟨hP, hS, ok, okl, am_oks_c (am_r64_t _) (am_oks_t (am_oks_t oks)), hl, by simpa using hcs⟩
      simp only [Nat.sub_self, Nat.add_zero, e0] at k2
      rw [List.map_cons, show am_cv g (.inr (.inl (am_lrem a b))) = .long (Int64.ofInt (Int64.ofInt a - Int64.ofInt a / Int64.ofInt b * Int64.ofInt b).toInt) from rfl, am_oj] at k2
      exact lv_lrem hx hb hd (fun q => hC ((am_jeq hb2 (am_r32_64 am_r0)).mp q)) k2
    · cases hst
  case getfield n =>
    cases raw <;> simp only [Bool.and_eq_true, Bool.false_eq_true] at hn
    rename_i ix
    obtain ⟨⟨e1, e2⟩, e3⟩ := hn
    rw [am_nb e1] at hd e0
    have e2 : ta < 13 := Nat.lt_of_lt_of_le (Nat.lt_of_lt_of_le (Nat.lt_succ_self _) (Nat.le_of_ble_eq_true e2)) (Nat.le_refl _)
    obtain ⟨C0, T0, N0, ty0, hc0, hN, hin, hty, hnm, hfk, hins, hini⟩ := am_cfs ta e2
    obtain ⟨hk, hlk⟩ := am_fl e3 hc0
    split at hst
    · rename_i a r
      cases hst
      have k2 := kk H locs ⟨hP, hS, ok, okl, am_oks_c (am_fv_okv ok hC e2) (am_oks_t oks), hl, by simpa using hcs⟩
      simp only [Nat.sub_self, Nat.add_zero, e0] at k2
      exact am_h_get hx hb hts hin hown hK hP ok hC e2 hc0 hN tb hk (hts _ hlk) hd k2
    · cases hst
  case putfield n =>
    cases raw <;> simp only [Bool.and_eq_true, Bool.false_eq_true] at hn
    rename_i ix
    obtain ⟨⟨⟨e1, e2⟩, e3⟩, e4⟩ := hn
    rw [am_nb e1] at hd e0
    have e2 : ta < 13 := Nat.lt_of_lt_of_le (Nat.lt_of_lt_of_le (Nat.lt_succ_self _) (Nat.le_of_ble_eq_true e2)) (Nat.le_refl _)
    obtain ⟨C0, T0, N0, ty0, hc0, hN, hin, hty, hnm, hfk, hins, hini⟩ := am_cfs ta e2
    obtain ⟨hk, hlk⟩ := am_fl e3 hc0
    have hfin : (T0 tb).2.2.2 = false ∨ ((T0 tb).2.2.2 = true ∧ meth.name = "<init>" ∧ (T0 tb).1 = am_cn (am_ow mi)) := by
      rw [hc0] at e4
      simp only [Bool.or_eq_true, Bool.and_eq_true, decide_eq_true_eq, beq_iff_eq] at e4
      rcases e4 with e4 | ⟨e4, e5⟩
      · exact Or.inl e4
      · cases hf : (T0 tb).2.2.2 with
        | false => exact Or.inl rfl
        | true => exact Or.inr ⟨rfl, hct (am_nb e4), e5⟩
    have hfk1 := hfk tb hk
    split at hst
    · rename_i hf
      split at hst
      · rename_i x a r
        cases hst
        have hty1 : ty0 tb = .int := by
          unfold am_fkb at hfk1
          rw [hf] at hfk1
          split at hfk1 <;> first | assumption | (simp at hfk1; done)
        have rg : am_rgk (sh a).1 tb x := by
          unfold am_rgk
          rw [hC, hf, if_neg (by omega), if_neg (by omega), if_neg (by omega), if_neg (by simp), if_neg (by simp)]
          exact am_oks_h oks
        have a4 := (am_obj ok (a := a) (by omega)).1
        refine am_h_put hx hb hts hin ty0 hty hnm hown hK (m1, sl, sh, am_up I a tb x, R) hP hS ok hC e2 hc0 hN tb hk (hts _ hlk) hfin (v := .int (Int32.ofInt x)) (by rw [hty1]; rfl) (by rw [hty1]; rfl) rfl (fun b hb => am_cell_I hb) ?_ hd (fun H1 locs1 q1 q3 => ?_)
        · rw [am_cell_obj hC (by omega), ← am_fs_I (by omega) 0, hf]
          rfl
        · have k2 := kk H1 locs1 ⟨q1, q3, am_okM_I ok a4 rg, okl, am_oks_t (am_oks_t oks), hl, by simpa using hcs⟩
          simp only [Nat.sub_self, Nat.add_zero, e0] at k2
          exact k2
      · cases hst
    · rename_i hf
      split at hst
      · rename_i x a r
        cases hst
        have hty1 : ty0 tb = .long := by
          unfold am_fkb at hfk1
          rw [hf] at hfk1
          split at hfk1 <;> first | assumption | (simp at hfk1; done)
        have rg : am_rgk (sh a).1 tb x := by
          unfold am_rgk
          rw [hC, hf, if_neg (by omega), if_neg (by omega), if_neg (by omega), if_pos ⟨e2, rfl⟩]
          exact am_oks_h oks
        have a4 := (am_obj ok (a := a) (by omega)).1
        refine am_h_put hx hb hts hin ty0 hty hnm hown hK (m1, sl, sh, am_up I a tb x, R) hP hS ok hC e2 hc0 hN tb hk (hts _ hlk) hfin (v := .long (Int64.ofInt x)) (by rw [hty1]; rfl) (by rw [hty1]; rfl) rfl (fun b hb => am_cell_I hb) ?_ hd (fun H1 locs1 q1 q3 => ?_)
        · rw [am_cell_obj hC (by omega), ← am_fs_I (by omega) 0, hf]
          rfl
        · have k2 := kk H1 locs1 ⟨q1, q3, am_okM_I ok a4 rg, okl, am_oks_t (am_oks_t oks), hl, by simpa using hcs⟩
          simp only [Nat.sub_self, Nat.add_zero, e0] at k2
          exact k2
      · cases hst
    · rename_i hf
      split at hst
      · rename_i x a r
        cases hst
        have hx1 : x < m1 := am_oks_h oks
        have hty1 : (∃ n, ty0 tb = .object n) ∨ ∃ t, ty0 tb = .array t := by
          unfold am_fkb at hfk1
          rw [hf] at hfk1
          split at hfk1 <;> first | (exact Or.inl ⟨_, by assumption⟩) | (exact Or.inr ⟨_, by assumption⟩) | (simp at hfk1; done)
        have hv : ∃ q, am_cv g (.inr (.inr x)) = .ref q := by
          show ∃ q, va_rf (am_ad g x) = .ref q
          match x, hC.2 with
          | 1, _ => exact ⟨_, rfl⟩
          | 2, _ => exact ⟨_, rfl⟩
          | 3, _ => exact ⟨_, rfl⟩
          | k + 4, _ => exact ⟨_, rfl⟩
          | 0, h => exact absurd rfl h
        obtain ⟨q, hq⟩ := hv
        refine am_h_put hx hb hts hin ty0 hty hnm hown hK (m1, sl, sh, I, am_up R a tb x) hP hS ok hC.1 e2 hc0 hN tb hk (hts _ hlk) hfin (v := am_cv g (.inr (.inr x))) (by rw [hq]; rcases hty1 with ⟨n, h⟩ | ⟨t, h⟩ <;> rw [h] <;> rfl) (by rw [hq]; rcases hty1 with ⟨n, h⟩ | ⟨t, h⟩ <;> rw [h] <;> rfl) rfl (fun b hb => am_cell_R hb) ?_ hd (fun H1 locs1 q1 q3 => ?_)
        · rw [am_cell_obj hC.1 (by omega), ← am_fs_R (by omega), hf]
          rfl
        · have k2 := kk H1 locs1 ⟨q1, q3, am_okM_R ok hx1, okl, am_oks_t (am_oks_t oks), hl, by simpa using hcs⟩
          simp only [Nat.sub_self, Nat.add_zero, e0] at k2
          exact k2
      · cases hst
    · rename_i hf
      split at hst
      · rename_i x a r
        cases hst
        have hty1 : ty0 tb = .boolean := by
          unfold am_fkb at hfk1
          rw [hf] at hfk1
          split at hfk1 <;> first | assumption | (simp at hfk1; done)
        have rg : am_rgk (sh a).1 tb x := by
          unfold am_rgk
          rw [hC.1, hf, if_neg (by omega), if_neg (by omega), if_neg (by omega), if_neg (by simp), if_pos ⟨e2, rfl⟩]
          exact hC.2
        have a4 := (am_obj ok (a := a) (by omega)).1
        refine am_h_put hx hb hts hin ty0 hty hnm hown hK (m1, sl, sh, am_up I a tb x, R) hP hS ok hC.1 e2 hc0 hN tb hk (hts _ hlk) hfin (v := .int (Int32.ofInt x)) (by rw [hty1]; rcases hC.2 with h | h <;> rw [h] <;> rfl) (by rw [hty1]; rcases hC.2 with h | h <;> rw [h] <;> rfl) rfl (fun b hb => am_cell_I hb) ?_ hd (fun H1 locs1 q1 q3 => ?_)
        · rw [am_cell_obj hC.1 (by omega), ← am_fs_I (by omega) 0, hf]
          rfl
        · have k2 := kk H1 locs1 ⟨q1, q3, am_okM_I ok a4 rg, okl, am_oks_t (am_oks_t oks), hl, by simpa using hcs⟩
          simp only [Nat.sub_self, Nat.add_zero, e0] at k2
          exact k2
      · cases hst
    · cases hst
  all_goals sorry
end AMY
