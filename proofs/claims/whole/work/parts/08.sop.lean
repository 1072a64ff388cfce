/-! STEPS: the stack -/
section AMS
variable {p : Program} {l : Launch} {e : Env} {R : Room} {s : State} {m : MethodId} {args : Array Value} {below : List Frame} {meth : Method} {c : Code} {H : Heap} {locs : List Loc} {cells slots : Nat} {Q : State → Prop} {cc : ByteArray} {pc : Nat} {arr : Array Slot} {g : am_G}
theorem am_b2_inv {f : Int → Int → Int} {st st' : List am_V} (h : am_b2 f st = some st') : ∃ a b r, st = .inl b :: .inl a :: r ∧ st' = .inl (f a b) :: r := by
  unfold am_b2 at h
  split at h
  · rename_i b a r
    cases h
    exact ⟨a, b, r, rfl, rfl⟩
  · cases h
theorem am_l2_inv {f : Int → Int → Int} {st st' : List am_V} (h : am_l2 f st = some st') : ∃ a b r, st = .inr (.inl b) :: .inr (.inl a) :: r ∧ st' = .inr (.inl (f a b)) :: r := by
  unfold am_l2 at h
  split at h
  · rename_i b a r
    cases h
    exact ⟨a, b, r, rfl, rfl⟩
  · cases h
theorem am_o_add (a b : Int) : Int32.ofInt (am_add a b) = Int32.ofInt a + Int32.ofInt b := by unfold am_add; rw [am_oi, Int32.ofInt_add]
theorem am_o_sub (a b : Int) : Int32.ofInt (am_sub a b) = Int32.ofInt a - Int32.ofInt b := by unfold am_sub; rw [am_oi, Int32.ofInt_sub]
theorem am_o_mul (a b : Int) : Int32.ofInt (am_mul a b) = Int32.ofInt a * Int32.ofInt b := by unfold am_mul; rw [am_oi, Int32.ofInt_mul]
theorem am_o_ladd (a b : Int) : Int64.ofInt (am_ladd a b) = Int64.ofInt a + Int64.ofInt b := by unfold am_ladd; rw [am_oJ, Int64.ofInt_add]
theorem am_o_lsub (a b : Int) : Int64.ofInt (am_lsub a b) = Int64.ofInt a - Int64.ofInt b := by unfold am_lsub; rw [am_oJ, Int64.ofInt_sub]
theorem am_o_lmul (a b : Int) : Int64.ofInt (am_lmul a b) = Int64.ofInt a * Int64.ofInt b := by unfold am_lmul; rw [am_oJ, Int64.ofInt_mul]
theorem am_o_lcmp {a b : Int} (ha : am_r64 a) (hb : am_r64 b) : Int32.ofInt (am_lcmp a b) = lg_cmp (Int64.ofInt a) (Int64.ofInt b) := by
  unfold am_lcmp lg_cmp
  have h1 := am_jlt ha hb
  have h2 := am_jlt hb ha
  have h3 := am_jeq ha hb
  by_cases c1 : a < b
  · have c2' : ¬ Int64.ofInt b < Int64.ofInt a := fun q => absurd (h2.mp q) (by omega)
    have c3' : ¬ Int64.ofInt a = Int64.ofInt b := fun q => absurd (h3.mp q) (by omega)
    simp [c1, c2', c3']
  · have c1' : ¬ Int64.ofInt a < Int64.ofInt b := fun q => c1 (h1.mp q)
    by_cases c2 : b < a
    · have c2' := h2.mpr c2
      have c3' : ¬ Int64.ofInt a = Int64.ofInt b := fun q => absurd (h3.mp q) (by omega)
      simp [c1, c1', c2, c2', c3']
    · have c2' : ¬ Int64.ofInt b < Int64.ofInt a := fun q => c2 (h2.mp q)
      have c3' : Int64.ofInt a = Int64.ofInt b := h3.mpr (by omega)
      simp [c1, c1', c2, c2', c3']
theorem am_s_sop (hx : p.tables.exec = Jvm.exec) (hb : c.code = cc) {i : Instr} {st st' : List am_V} {mm : Nat} (hs : am_oks mm st) (h : am_sop i st = some st') (hd : decode cc pc = .ok (i, 1)) (k : am_oks mm st' → W p l e R s m args below meth c H locs cells slots Q (F0 m (pc + 1) arr (st'.map (am_cv g)))) : W p l e R s m args below meth c H locs cells slots Q (F0 m pc arr (st.map (am_cv g))) := by
  cases i <;> try cases h
  case iadd =>
    obtain ⟨a, b, r, rfl, rfl⟩ := am_b2_inv h
    refine lv_iadd hx hb hd ?_
    have := k (am_oks_c (am_r32_t _) (am_oks_t (am_oks_t hs)))
    rw [List.map_cons, show am_cv g (.inl (am_add a b)) = .int (Int32.ofInt (am_add a b)) from rfl, am_o_add] at this
    exact this
  case isub =>
    obtain ⟨a, b, r, rfl, rfl⟩ := am_b2_inv h
    refine lv_isub hx hb hd ?_
    have := k (am_oks_c (am_r32_t _) (am_oks_t (am_oks_t hs)))
    rw [List.map_cons, show am_cv g (.inl (am_sub a b)) = .int (Int32.ofInt (am_sub a b)) from rfl, am_o_sub] at this
    exact this
  case imul =>
    obtain ⟨a, b, r, rfl, rfl⟩ := am_b2_inv h
    refine lv_imul hx hb hd ?_
    have := k (am_oks_c (am_r32_t _) (am_oks_t (am_oks_t hs)))
    rw [List.map_cons, show am_cv g (.inl (am_mul a b)) = .int (Int32.ofInt (am_mul a b)) from rfl, am_o_mul] at this
    exact this
  case iand =>
    obtain ⟨a, b, r, rfl, rfl⟩ := am_b2_inv h
    refine lv_iand hx hb hd ?_
    have := k (am_oks_c (am_r32_t _) (am_oks_t (am_oks_t hs)))
    rw [List.map_cons, show am_cv g (.inl (am_and a b)) = .int (Int32.ofInt (Int32.ofInt a &&& Int32.ofInt b).toInt) from rfl, am_of] at this
    exact this
  case ior =>
    obtain ⟨a, b, r, rfl, rfl⟩ := am_b2_inv h
    refine lv_ior hx hb hd ?_
    have := k (am_oks_c (am_r32_t _) (am_oks_t (am_oks_t hs)))
    rw [List.map_cons, show am_cv g (.inl (am_or a b)) = .int (Int32.ofInt (Int32.ofInt a ||| Int32.ofInt b).toInt) from rfl, am_of] at this
    exact this
  case ixor =>
    obtain ⟨a, b, r, rfl, rfl⟩ := am_b2_inv h
    refine lv_ixor hx hb hd ?_
    have := k (am_oks_c (am_r32_t _) (am_oks_t (am_oks_t hs)))
    rw [List.map_cons, show am_cv g (.inl (am_xor a b)) = .int (Int32.ofInt (Int32.ofInt a ^^^ Int32.ofInt b).toInt) from rfl, am_of] at this
    exact this
  case ishl =>
    obtain ⟨a, b, r, rfl, rfl⟩ := am_b2_inv h
    refine lv_ishl hx hb hd ?_
    have := k (am_oks_c (am_r32_t _) (am_oks_t (am_oks_t hs)))
    rw [List.map_cons, show am_cv g (.inl (am_shl a b)) = .int (Int32.ofInt (Int32.ofInt a <<< (Int32.ofInt b &&& 31)).toInt) from rfl, am_of] at this
    exact this
  case ishr =>
    obtain ⟨a, b, r, rfl, rfl⟩ := am_b2_inv h
    refine lv_ishr hx hb hd ?_
    have := k (am_oks_c (am_r32_t _) (am_oks_t (am_oks_t hs)))
    rw [List.map_cons, show am_cv g (.inl (am_shr a b)) = .int (Int32.ofInt (Int32.ofInt a >>> (Int32.ofInt b &&& 31)).toInt) from rfl, am_of] at this
    exact this
  case iushr =>
    obtain ⟨a, b, r, rfl, rfl⟩ := am_b2_inv h
    refine lv_iushr hx hb hd rfl ?_
    have := k (am_oks_c (am_r32_t _) (am_oks_t (am_oks_t hs)))
    rw [List.map_cons, show am_cv g (.inl (am_ushr a b)) = .int (Int32.ofInt ((Int32.ofInt a).toUInt32 >>> ((Int32.ofInt b).toUInt32 &&& Int32.toUInt32 31)).toInt32.toInt) from rfl, am_of] at this
    exact this
  case ladd =>
    obtain ⟨a, b, r, rfl, rfl⟩ := am_l2_inv h
    refine lv_ladd hx hb hd ?_
    have := k (am_oks_c (am_r64_t _) (am_oks_t (am_oks_t hs)))
    rw [List.map_cons, show am_cv g (.inr (.inl (am_ladd a b))) = .long (Int64.ofInt (am_ladd a b)) from rfl, am_o_ladd] at this
    exact this
  case lsub =>
    obtain ⟨a, b, r, rfl, rfl⟩ := am_l2_inv h
    refine lv_lsub hx hb hd ?_
    have := k (am_oks_c (am_r64_t _) (am_oks_t (am_oks_t hs)))
    rw [List.map_cons, show am_cv g (.inr (.inl (am_lsub a b))) = .long (Int64.ofInt (am_lsub a b)) from rfl, am_o_lsub] at this
    exact this
  case lmul =>
    obtain ⟨a, b, r, rfl, rfl⟩ := am_l2_inv h
    refine lv_lmul hx hb hd ?_
    have := k (am_oks_c (am_r64_t _) (am_oks_t (am_oks_t hs)))
    rw [List.map_cons, show am_cv g (.inr (.inl (am_lmul a b))) = .long (Int64.ofInt (am_lmul a b)) from rfl, am_o_lmul] at this
    exact this
  case ineg =>
    unfold am_sop at h
    dsimp only at h
    split at h
    · rename_i a r
      cases h
      refine lv_ineg hx hb hd ?_
      have := k (am_oks_c (am_r32_t _) (am_oks_t hs))
      rw [List.map_cons, show am_cv g (.inl (am_sub 0 a)) = .int (Int32.ofInt (am_sub 0 a)) from rfl, am_o_sub] at this
      rw [show Int32.ofInt 0 - Int32.ofInt a = - Int32.ofInt a by rw [show Int32.ofInt 0 = 0 from rfl]; simp] at this
      exact this
    · cases h
  case lcmp =>
    unfold am_sop at h
    dsimp only at h
    split at h
    · rename_i b a r
      cases h
      have hb1 := am_oks_h hs
      have ha1 := am_oks_h (am_oks_t hs)
      refine W.lcmp hx hb hd ?_
      have := k (am_oks_c (am_lcmp_r a b) (am_oks_t (am_oks_t hs)))
      rw [List.map_cons, show am_cv g (.inl (am_lcmp a b)) = .int (Int32.ofInt (am_lcmp a b)) from rfl, am_o_lcmp ha1 hb1] at this
      exact this
    · cases h
  case i2l =>
    unfold am_sop at h
    dsimp only at h
    split at h
    · rename_i a r
      cases h
      refine lv_i2l hx hb hd (am_i2l (am_oks_h hs)) ?_
      exact k (am_oks_c (am_r32_64 (am_oks_h hs)) (am_oks_t hs))
    · cases h
  case l2i =>
    unfold am_sop at h
    dsimp only at h
    split at h
    · rename_i a r
      cases h
      refine lv_l2i hx hb hd ((am_l2i a).trans (am_oi a).symm) ?_
      exact k (am_oks_c (am_r32_t _) (am_oks_t hs))
    · cases h
  case i2b =>
    unfold am_sop at h
    dsimp only at h
    split at h
    · rename_i a r
      cases h
      refine lv_i2b hx hb hd (am_of _).symm ?_
      exact k (am_oks_c (am_r32_t _) (am_oks_t hs))
    · cases h
  case dup =>
    unfold am_sop at h
    dsimp only at h
    split at h
    · rename_i a r
      split at h
      · rename_i hc
        cases h
        refine lv_dup hx hb hd ((am_cv_cat g a).trans hc) ?_
        exact k (am_oks_c (am_oks_h hs) hs)
      · cases h
    · cases h
  case dup2 =>
    unfold am_sop at h
    dsimp only at h
    split at h
    · rename_i a b r
      split at h
      · rename_i hc1 hc2
        cases h
        refine lv_dup2_11 hx hb hd ((am_cv_cat g a).trans hc1) ((am_cv_cat g b).trans hc2) ?_
        exact k (am_oks_c (am_oks_h hs) (am_oks_c (am_oks_h (am_oks_t hs)) hs))
      · cases h
    · cases h
  case pop =>
    unfold am_sop at h
    dsimp only at h
    split at h
    · rename_i a r
      split at h
      · rename_i hc
        cases h
        refine lv_pop hx hb hd ((am_cv_cat g a).trans hc) ?_
        exact k (am_oks_t hs)
      · cases h
    · cases h
end AMS
