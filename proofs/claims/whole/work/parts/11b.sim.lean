/-! A STEP OF THE ABSTRACT MACHINE IS A STEP OF THE REAL ONE -/
section AMX
variable {p : Program} {l : Launch} {e : Env} {R0 : Room} {s : State} {m : MethodId} {args : Array Value} {below : List Frame} {meth : Method} {c : Code} {H : Heap} {locs : List Loc} {cells slots : Nat} {Q : State → Prop} {pc : Nat} {arr : Array Slot} {g : am_G} {ca : Nat → ClassId} {D : va_G} {L : Nat} {xs : Nat → Int32} {mi : Nat}
/-- what holds in a frame of method mi -/
def am_cx (g : am_G) (L : Nat) (xs : Nat → Int32) (ca : Nat → ClassId) (D : va_G) (mi : Nat) (p : Program) (s : State) (m : MethodId) (args : Array Value) (meth : Method) (c : Code) : Prop :=
  (p.tables.exec = Jvm.exec ∧ c.code = am_code mi ∧ s.vm.findClass (am_cn (am_ow mi)) = some m.cls ∧ c.maxLocals = am_ml mi ∧ (am_sk mi = 2 → meth.name = "<init>")) ∧ (∀ w ∈ am_uw, w.before args s = true) ∧ va_K D am_cl (am_tys ca) s ∧ am_fx g L xs s s.heap ∧ (va_AO RX9 s ∧ va_AO RX5 s) ∧ g.2.2.2 ≤ s.heap.size
/-- the two machines stand alike -/
def am_at (g : am_G) (L : Nat) (xs : Nat → Int32) (ca : Nat → ClassId) (D : va_G) (s : State) (H : Heap) (locs : List Loc) (cells : Nat) (arr : Array Slot) (ls : am_L) (st : List am_V) (M : am_M) : Prop :=
  va_P D am_cl (am_ws g ca M) H ∧ va_S (am_A g) s.heap H locs ∧ am_okM L xs M ∧ am_okl M.1 ls ∧ am_oks M.1 st ∧ am_LR g arr ls ∧ s.heap.size + cells = g.2.2.2 + (M.1 - 4)
theorem am_nb {a b : Nat} (h : Nat.beq a b = true) : a = b := Nat.eq_of_beq_eq_true h
theorem am_kl {ow ix : Nat} {n : Int} (h : am_KL.any (fun q => Nat.beq q.1 ow && Nat.beq q.2.1 ix && decide (q.2.2.1 = n)) = true) : Cond.constant (am_cn ow) ix (Int32.ofInt n) ∈ am_uw ∧ am_r32 n := by
  obtain ⟨q, hq, h2⟩ := List.any_eq_true.mp h
  simp only [Bool.and_eq_true, decide_eq_true_eq] at h2
  obtain ⟨⟨e1, e2⟩, e3⟩ := h2
  have h3 := List.all_eq_true.mp am_KL_ok q hq
  unfold am_klb at h3
  simp only [Bool.and_eq_true, decide_eq_true_eq] at h3
  obtain ⟨⟨e4, e5⟩, e6⟩ := h3
  rw [am_nb e1, am_nb e2, e3] at e4
  exact ⟨am_uw_at e4 rfl, by rw [← e3]; exact ⟨e5, e6⟩⟩
theorem am_jl {ow ix : Nat} {n : Int} (h : am_JL.any (fun q => Nat.beq q.1 ow && Nat.beq q.2.1 ix && decide (q.2.2.1 = n)) = true) : Cond.constantLong (am_cn ow) ix (Int64.ofInt n) ∈ am_uw ∧ am_r64 n := by
  obtain ⟨q, hq, h2⟩ := List.any_eq_true.mp h
  simp only [Bool.and_eq_true, decide_eq_true_eq] at h2
  obtain ⟨⟨e1, e2⟩, e3⟩ := h2
  have h3 := List.all_eq_true.mp am_JL_ok q hq
  unfold am_jlb at h3
  simp only [Bool.and_eq_true, decide_eq_true_eq] at h3
  obtain ⟨⟨e4, e5⟩, e6⟩ := h3
  rw [am_nb e1, am_nb e2, e3] at e4
  exact ⟨am_uw_at e4 rfl, by rw [← e3]; exact am_r32_64 ⟨e5, e6⟩⟩
theorem am_fl {ow ix ta tb : Nat} (h : am_FL.any (fun q => Nat.beq q.1 ow && Nat.beq q.2.1 ix && Nat.beq q.2.2.1 ta && Nat.beq q.2.2.2.1 tb) = true) {C : String} {T : u_T} {N : Nat} (hc : am_cl[ta]? = some (C, T, N)) : tb < N ∧ Cond.fieldLink (am_cn ow) ix (T tb).1 (T tb).2.1 (T tb).2.2.1 ∈ am_uw := by
  obtain ⟨q, hq, h2⟩ := List.any_eq_true.mp h
  simp only [Bool.and_eq_true] at h2
  obtain ⟨⟨⟨e1, e2⟩, e3⟩, e4⟩ := h2
  have h3 := List.all_eq_true.mp am_FL_ok q hq
  unfold am_flb at h3
  rw [am_nb e1, am_nb e2, am_nb e3, am_nb e4, hc] at h3
  simp only [Bool.and_eq_true, decide_eq_true_eq] at h3
  exact ⟨h3.1, am_uw_at h3.2 rfl⟩
theorem am_f_const (hx : p.tables.exec = Jvm.exec) (hb : c.code = am_code mi) (hown : s.vm.findClass (am_cn (am_ow mi)) = some m.cls) (hts : ∀ w ∈ am_uw, w.before args s = true) {raw : Instr} {len nx ta tb : Nat} {n : Int} {rest : List Value} (hn : am_rn mi pc raw len nx ta tb (.iconst n) = true) (hd : decode (am_code mi) pc = .ok (raw, len)) (kk : am_r32 n → W p l e R0 s m args below meth c H locs cells slots Q (F0 m nx arr (.int (Int32.ofInt n) :: rest))) : W p l e R0 s m args below meth c H locs cells slots Q (F0 m pc arr rest) := by
  unfold am_rn at hn
  simp only [Bool.and_eq_true] at hn
  obtain ⟨e0, hn⟩ := hn
  rw [am_nb e0] at kk
  cases raw <;> simp only [Bool.and_eq_true, decide_eq_true_eq, Bool.false_eq_true] at hn
  case iconst k =>
    obtain ⟨⟨⟨rfl, e2⟩, e3⟩, e4⟩ := hn
    rw [am_nb e2] at hd kk
    exact lv_iconst hx hb hd rfl (kk ⟨by omega, by omega⟩)
  case bipush k =>
    obtain ⟨⟨⟨rfl, e2⟩, e3⟩, e4⟩ := hn
    rw [am_nb e2] at hd kk
    exact lv_bipush hx hb hd (am_bip e3 e4) (kk ⟨by omega, by omega⟩)
  case sipush k =>
    obtain ⟨⟨⟨rfl, e2⟩, e3⟩, e4⟩ := hn
    rw [am_nb e2] at hd kk
    exact lv_sipush hx hb hd (am_sip e3 e4) (kk ⟨by omega, by omega⟩)
  case ldc ix =>
    obtain ⟨e2, e3⟩ := hn
    rw [am_nb e2] at hd kk
    obtain ⟨h1, h2⟩ := am_kl e3
    exact lv_ldc hx hb hown (hts _ h1) hd (kk h2)
  case ldc_w ix =>
    obtain ⟨e2, e3⟩ := hn
    rw [am_nb e2] at hd kk
    obtain ⟨h1, h2⟩ := am_kl e3
    exact lv_ldcw hx hb hown (hts _ h1) hd (kk h2)
theorem am_f_lconst (hx : p.tables.exec = Jvm.exec) (hb : c.code = am_code mi) (hown : s.vm.findClass (am_cn (am_ow mi)) = some m.cls) (hts : ∀ w ∈ am_uw, w.before args s = true) {raw : Instr} {len nx ta tb : Nat} {n : Int} {rest : List Value} (hn : am_rn mi pc raw len nx ta tb (.bipush n) = true) (hd : decode (am_code mi) pc = .ok (raw, len)) (kk : am_r64 n → W p l e R0 s m args below meth c H locs cells slots Q (F0 m nx arr (.long (Int64.ofInt n) :: rest))) : W p l e R0 s m args below meth c H locs cells slots Q (F0 m pc arr rest) := by
  unfold am_rn at hn
  simp only [Bool.and_eq_true] at hn
  obtain ⟨e0, hn⟩ := hn
  rw [am_nb e0] at kk
  cases raw <;> simp only [Bool.and_eq_true, decide_eq_true_eq, Bool.false_eq_true] at hn
  case lconst k =>
    obtain ⟨rfl, e2⟩ := hn
    rw [am_nb e2] at hd kk
    have hk := k.isLt
    exact lv_lconst hx hb hd rfl (kk ⟨by omega, by omega⟩)
  case ldc2_w ix =>
    obtain ⟨e2, e3⟩ := hn
    rw [am_nb e2] at hd kk
    obtain ⟨h1, h2⟩ := am_jl e3
    exact lv_ldc2 hx hb hown (hts _ h1) hd (kk h2)
/-- instructions of the first table: constants, locals, jumps -/
def am_isf (i : Instr) : Bool := match i with
  | .iconst _ => true
  | .bipush _ => true
  | .iload _ => true
  | .lload _ => true
  | .aload _ => true
  | .istore _ => true
  | .lstore _ => true
  | .astore _ => true
  | .iinc _ _ => true
  | .goto _ => true
  | .ifCond _ _ => true
  | .if_icmp _ _ => true
  | .tableswitch _ _ _ _ => true
  | .lookupswitch _ _ => true
  | _ => false
theorem am_okv_i {m1 : Nat} {x : Int} (h : am_r32 x) : am_okv m1 (.inl x) := h
theorem am_simf (X : am_cx g L xs ca D mi p s m args meth c) {ls ls' : am_L} {st st' : List am_V} {M M' : am_M} (Y : am_at g L xs ca D s H locs cells arr ls st M) {raw i : Instr} {len nx ta tb pc' : Nat} {C : Prop} (hi : am_isf i = true) (hn : am_rn mi pc raw len nx ta tb i = true) (hd : decode (am_code mi) pc = .ok (raw, len)) (hst : am_step i nx ta tb ls st M = some (C, pc', ls', st', M')) (hC : C)
    (kk : ∀ arr', M' = M → am_at g L xs ca D s H locs cells arr' ls' st' M → W p l e R0 s m args below meth c H locs cells slots Q (F0 m pc' arr' (st'.map (am_cv g)))) : W p l e R0 s m args below meth c H locs cells slots Q (F0 m pc arr (st.map (am_cv g))) := by
  obtain ⟨⟨hx, hb, hown, hml, -⟩, hts, hK, hF, -, hg⟩ := X
  obtain ⟨hP, hS, ok, okl, oks, hl, hcs⟩ := Y
  cases i <;> simp only [am_isf, Bool.false_eq_true] at hi
  case iconst n =>
    cases hst
    exact am_f_const hx hb hown hts hn hd (fun hr => kk arr rfl ⟨hP, hS, ok, okl, am_oks_c (am_okv_i hr) oks, hl, hcs⟩)
  case bipush n =>
    cases hst
    exact am_f_lconst hx hb hown hts hn hd (fun hr => kk arr rfl ⟨hP, hS, ok, okl, am_oks_c hr oks, hl, hcs⟩)
  case iload k =>
    unfold am_step at hst
    dsimp only at hst
    split at hst
    · rename_i x hlg
      cases hst
      unfold am_rn at hn
      simp only [Bool.and_eq_true] at hn
      obtain ⟨e0, hn⟩ := hn
      have k2 := kk arr rfl ⟨hP, hS, ok, okl, am_oks_c (okl k _ hlg) oks, hl, hcs⟩
      rw [am_nb e0] at k2
      refine am_f_iload hx hb hl hlg ?_ hd k2
      cases raw <;> simp only [Bool.and_eq_true, Bool.false_eq_true] at hn
      case iload_n j => exact Or.inl ⟨j, rfl, am_nb hn.1, am_nb hn.2⟩
      case iload j => exact Or.inr ⟨by rw [am_nb hn.1], am_nb hn.2⟩
    · cases hst
  case lload k =>
    unfold am_step at hst
    dsimp only at hst
    split at hst
    · rename_i x hlg
      cases hst
      unfold am_rn at hn
      simp only [Bool.and_eq_true] at hn
      obtain ⟨e0, hn⟩ := hn
      have k2 := kk arr rfl ⟨hP, hS, ok, okl, am_oks_c (okl k _ hlg) oks, hl, hcs⟩
      rw [am_nb e0] at k2
      refine am_f_lload hx hb hl hlg ?_ hd k2
      cases raw <;> simp only [Bool.and_eq_true, Bool.false_eq_true] at hn
      case lload_n j => exact Or.inl ⟨j, rfl, am_nb hn.1, am_nb hn.2⟩
      case lload j => exact Or.inr ⟨by rw [am_nb hn.1], am_nb hn.2⟩
    · cases hst
  case aload k =>
    unfold am_step at hst
    dsimp only at hst
    split at hst
    · rename_i x hlg
      cases hst
      unfold am_rn at hn
      simp only [Bool.and_eq_true] at hn
      obtain ⟨e0, hn⟩ := hn
      have k2 := kk arr rfl ⟨hP, hS, ok, okl, am_oks_c (okl k _ hlg) oks, hl, hcs⟩
      rw [am_nb e0] at k2
      refine am_f_aload hx hb hl hlg ?_ hd k2
      cases raw <;> simp only [Bool.and_eq_true, Bool.false_eq_true] at hn
      case aload_n j => exact Or.inl ⟨j, rfl, am_nb hn.1, am_nb hn.2⟩
      case aload j => exact Or.inr ⟨by rw [am_nb hn.1], am_nb hn.2⟩
    · cases hst
  case istore k =>
    unfold am_step at hst
    dsimp only at hst
    split at hst
    · rename_i x r
      cases hst
      unfold am_rn at hn
      simp only [Bool.and_eq_true] at hn
      obtain ⟨e0, hn⟩ := hn
      rw [am_nb e0] at kk
      refine am_f_istore hx hb hl hC ?_ hd (fun arr' hl' => kk arr' rfl ⟨hP, hS, ok, am_okl_st1 okl (am_oks_h oks), am_oks_t oks, hl', hcs⟩)
      cases raw <;> simp only [Bool.and_eq_true, Bool.false_eq_true] at hn
      case istore_n j => exact Or.inl ⟨j, rfl, am_nb hn.1, am_nb hn.2⟩
      case istore j => exact Or.inr ⟨by rw [am_nb hn.1], am_nb hn.2⟩
    · cases hst
  case lstore k =>
    unfold am_step at hst
    dsimp only at hst
    split at hst
    · rename_i x r
      cases hst
      unfold am_rn at hn
      simp only [Bool.and_eq_true] at hn
      obtain ⟨e0, hn⟩ := hn
      rw [am_nb e0] at kk
      refine am_f_lstore hx hb hl hC ?_ hd (fun arr' hl' => kk arr' rfl ⟨hP, hS, ok, am_okl_st2 okl (am_oks_h oks), am_oks_t oks, hl', hcs⟩)
      cases raw <;> simp only [Bool.and_eq_true, Bool.false_eq_true] at hn
      case lstore_n j => exact Or.inl ⟨j, rfl, am_nb hn.1, am_nb hn.2⟩
      case lstore j => exact Or.inr ⟨by rw [am_nb hn.1], am_nb hn.2⟩
    · cases hst
  case astore k =>
    unfold am_step at hst
    dsimp only at hst
    split at hst
    · rename_i x r
      cases hst
      unfold am_rn at hn
      simp only [Bool.and_eq_true] at hn
      obtain ⟨e0, hn⟩ := hn
      rw [am_nb e0] at kk
      refine am_f_astore hx hb hl hC.1 ?_ hd (fun arr' hl' => kk arr' rfl ⟨hP, hS, ok, am_okl_st1 okl (am_oks_h oks), am_oks_t oks, hl', hcs⟩)
      cases raw <;> simp only [Bool.and_eq_true, Bool.false_eq_true] at hn
      case astore_n j => exact Or.inl ⟨j, rfl, am_nb hn.1, am_nb hn.2⟩
      case astore j => exact Or.inr ⟨by rw [am_nb hn.1], am_nb hn.2⟩
    · cases hst
  case iinc k n =>
    unfold am_step at hst
    dsimp only at hst
    split at hst
    · rename_i x hlg
      cases hst
      unfold am_rn at hn
      simp only [Bool.and_eq_true, decide_eq_true_eq] at hn
      obtain ⟨e0, rfl, e2⟩ := hn
      rw [am_nb e0, am_nb e2] at kk
      rw [am_nb e2] at hd
      exact am_f_iinc hx hb hl hlg hd (fun arr' hl' => kk arr' rfl ⟨hP, hS, ok, am_okl_st1 okl (am_r32_t _), oks, hl', hcs⟩)
    · cases hst
  case goto t =>
    cases hst
    unfold am_rn at hn
    simp only [Bool.and_eq_true] at hn
    obtain ⟨e0, hn⟩ := hn
    cases raw <;> simp only [Bool.and_eq_true, decide_eq_true_eq, Bool.false_eq_true] at hn
    rw [am_nb hn.1] at hd
    exact am_f_goto hx hb hd hn.2 (kk arr rfl ⟨hP, hS, ok, okl, oks, hl, hcs⟩)
  case ifCond cn t =>
    unfold am_step at hst
    dsimp only at hst
    split at hst
    · rename_i x r
      cases hst
      unfold am_rn at hn
      simp only [Bool.and_eq_true] at hn
      obtain ⟨e0, hn⟩ := hn
      cases raw <;> simp only [Bool.and_eq_true, decide_eq_true_eq, Bool.false_eq_true] at hn
      obtain ⟨⟨rfl, e2⟩, e3⟩ := hn
      rw [am_nb e2] at hd e0
      rw [am_nb e0] at kk
      exact am_f_if hx hb (am_oks_h oks) hd e3 (kk arr rfl ⟨hP, hS, ok, okl, am_oks_t oks, hl, hcs⟩)
    · cases hst
  case if_icmp cn t =>
    unfold am_step at hst
    dsimp only at hst
    split at hst
    · rename_i y x r
      cases hst
      unfold am_rn at hn
      simp only [Bool.and_eq_true] at hn
      obtain ⟨e0, hn⟩ := hn
      cases raw <;> simp only [Bool.and_eq_true, decide_eq_true_eq, Bool.false_eq_true] at hn
      obtain ⟨⟨rfl, e2⟩, e3⟩ := hn
      rw [am_nb e2] at hd e0
      rw [am_nb e0] at kk
      exact am_f_icmp hx hb (am_oks_h (am_oks_t oks)) (am_oks_h oks) hd e3 (kk arr rfl ⟨hP, hS, ok, okl, am_oks_t (am_oks_t oks), hl, hcs⟩)
    · cases hst
  case tableswitch d lo hi' ts =>
    unfold am_step at hst
    dsimp only at hst
    split at hst
    · rename_i x r
      cases hst
      unfold am_rn at hn
      simp only [Bool.and_eq_true] at hn
      obtain ⟨e0, hn⟩ := hn
      cases raw <;> simp only [Bool.and_eq_true, decide_eq_true_eq, Bool.false_eq_true] at hn
      obtain ⟨⟨⟨rfl, rfl, e2, e3, e4⟩, e5⟩, e6⟩ := hn
      exact am_f_tsw hx hb (am_oks_h oks) hd e2 e3 e5 e6 e4 (kk arr rfl ⟨hP, hS, ok, okl, am_oks_t oks, hl, hcs⟩)
    · cases hst
  case lookupswitch d ps =>
    unfold am_step at hst
    dsimp only at hst
    split at hst
    · rename_i x r
      cases hst
      unfold am_rn at hn
      simp only [Bool.and_eq_true] at hn
      obtain ⟨e0, hn⟩ := hn
      cases raw <;> simp only [Bool.and_eq_true, decide_eq_true_eq, Bool.false_eq_true] at hn
      obtain ⟨⟨⟨⟨e2, e3⟩, e4⟩, e5⟩, e6⟩ := hn
      exact am_f_lsw hx hb (am_oks_h oks) hd e6 e2 e3 e4 e5 (kk arr rfl ⟨hP, hS, ok, okl, am_oks_t oks, hl, hcs⟩)
    · cases hst
end AMX
