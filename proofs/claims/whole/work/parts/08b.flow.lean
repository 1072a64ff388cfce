/-! STEPS: locals and jumps -/
section AMF
variable {p : Program} {l : Launch} {e : Env} {R : Room} {s : State} {m : MethodId} {args : Array Value} {below : List Frame} {meth : Method} {c : Code} {H : Heap} {locs : List Loc} {cells slots : Nat} {Q : State → Prop} {cc : ByteArray} {pc : Nat} {arr : Array Slot} {g : am_G} {rest : List Value}
theorem am_f_iload (hx : p.tables.exec = Jvm.exec) (hb : c.code = cc) {raw : Instr} {len k : Nat} {ls : am_L} {x : Int} (hl : am_LR g arr ls) (h : am_lg ls k = some (.inl x)) (hr : (∃ n : Fin 4, raw = .iload_n n ∧ (n : Nat) = k ∧ len = 1) ∨ (raw = .iload k ∧ len = 2)) (hd : decode cc pc = .ok (raw, len)) (kk : W p l e R s m args below meth c H locs cells slots Q (F0 m (pc + len) arr (.int (Int32.ofInt x) :: rest))) : W p l e R s m args below meth c H locs cells slots Q (F0 m pc arr rest) := by
  rcases hr with ⟨n, rfl, hn, rfl⟩ | ⟨rfl, rfl⟩
  · exact lv_iload_n hx hb hd hn (hl.2.2 k _ h) kk
  · exact lv_iload hx hb hd (hl.2.2 k _ h) kk
theorem am_f_lload (hx : p.tables.exec = Jvm.exec) (hb : c.code = cc) {raw : Instr} {len k : Nat} {ls : am_L} {x : Int} (hl : am_LR g arr ls) (h : am_lg ls k = some (.inr (.inl x))) (hr : (∃ n : Fin 4, raw = .lload_n n ∧ (n : Nat) = k ∧ len = 1) ∨ (raw = .lload k ∧ len = 2)) (hd : decode cc pc = .ok (raw, len)) (kk : W p l e R s m args below meth c H locs cells slots Q (F0 m (pc + len) arr (.long (Int64.ofInt x) :: rest))) : W p l e R s m args below meth c H locs cells slots Q (F0 m pc arr rest) := by
  rcases hr with ⟨n, rfl, hn, rfl⟩ | ⟨rfl, rfl⟩
  · exact lv_lload_n hx hb hd hn (hl.2.2 k _ h) kk
  · exact lv_lload hx hb hd (hl.2.2 k _ h) kk
theorem am_f_aload (hx : p.tables.exec = Jvm.exec) (hb : c.code = cc) {raw : Instr} {len k : Nat} {ls : am_L} {x : Nat} (hl : am_LR g arr ls) (h : am_lg ls k = some (.inr (.inr x))) (hr : (∃ n : Fin 4, raw = .aload_n n ∧ (n : Nat) = k ∧ len = 1) ∨ (raw = .aload k ∧ len = 2)) (hd : decode cc pc = .ok (raw, len)) (kk : W p l e R s m args below meth c H locs cells slots Q (F0 m (pc + len) arr (am_cv g (.inr (.inr x)) :: rest))) : W p l e R s m args below meth c H locs cells slots Q (F0 m pc arr rest) := by
  have h1 := hl.2.2 k _ h
  change arr[k]? = some (.val (va_rf (am_ad g x))) at h1
  change W p l e R s m args below meth c H locs cells slots Q (F0 m (pc + len) arr (va_rf (am_ad g x) :: rest)) at kk
  cases ha : am_ad g x with
  | none =>
    rw [ha] at h1 kk
    rcases hr with ⟨n, rfl, hn, rfl⟩ | ⟨rfl, rfl⟩
    · exact lv_aload_nN hx hb hd hn h1 kk
    · exact lv_aloadN hx hb hd h1 kk
  | some q =>
    rw [ha] at h1 kk
    rcases hr with ⟨n, rfl, hn, rfl⟩ | ⟨rfl, rfl⟩
    · exact lv_aload_n hx hb hd hn h1 kk
    · exact lv_aload hx hb hd h1 kk
theorem am_f_istore (hx : p.tables.exec = Jvm.exec) (hb : c.code = cc) {raw : Instr} {len k : Nat} {ls : am_L} {x : Int} (hl : am_LR g arr ls) (hk : k < ls.length) (hr : (∃ n : Fin 4, raw = .istore_n n ∧ (n : Nat) = k ∧ len = 1) ∨ (raw = .istore k ∧ len = 2)) (hd : decode cc pc = .ok (raw, len)) (kk : ∀ arr', am_LR g arr' (am_st1 ls k (.inl x)) → W p l e R s m args below meth c H locs cells slots Q (F0 m (pc + len) arr' rest)) : W p l e R s m args below meth c H locs cells slots Q (F0 m pc arr (.int (Int32.ofInt x) :: rest)) := by
  rcases hr with ⟨n, rfl, hn, rfl⟩ | ⟨rfl, rfl⟩
  · exact lv_istore_n hx hb hd hn (am_LR_has hl) hk rfl (fun arr' h => kk arr' (am_LR_st1 (v := .inl x) h))
  · exact lv_istore hx hb hd (am_LR_has hl) hk rfl (fun arr' h => kk arr' (am_LR_st1 (v := .inl x) h))
theorem am_f_lstore (hx : p.tables.exec = Jvm.exec) (hb : c.code = cc) {raw : Instr} {len k : Nat} {ls : am_L} {x : Int} (hl : am_LR g arr ls) (hk : k + 1 < ls.length) (hr : (∃ n : Fin 4, raw = .lstore_n n ∧ (n : Nat) = k ∧ len = 1) ∨ (raw = .lstore k ∧ len = 2)) (hd : decode cc pc = .ok (raw, len)) (kk : ∀ arr', am_LR g arr' (am_st2 ls k (.inr (.inl x))) → W p l e R s m args below meth c H locs cells slots Q (F0 m (pc + len) arr' rest)) : W p l e R s m args below meth c H locs cells slots Q (F0 m pc arr (.long (Int64.ofInt x) :: rest)) := by
  rcases hr with ⟨n, rfl, hn, rfl⟩ | ⟨rfl, rfl⟩
  · exact lv_lstore_n hx hb hd hn (am_LR_has hl) hk rfl (fun arr' h => kk arr' (am_LR_st2 (v := .inr (.inl x)) h))
  · exact lv_lstore hx hb hd (am_LR_has hl) hk rfl (fun arr' h => kk arr' (am_LR_st2 (v := .inr (.inl x)) h))
theorem am_f_astore (hx : p.tables.exec = Jvm.exec) (hb : c.code = cc) {raw : Instr} {len k : Nat} {ls : am_L} {x : Nat} (hl : am_LR g arr ls) (hk : k < ls.length) (hr : (∃ n : Fin 4, raw = .astore_n n ∧ (n : Nat) = k ∧ len = 1) ∨ (raw = .astore k ∧ len = 2)) (hd : decode cc pc = .ok (raw, len)) (kk : ∀ arr', am_LR g arr' (am_st1 ls k (.inr (.inr x))) → W p l e R s m args below meth c H locs cells slots Q (F0 m (pc + len) arr' rest)) : W p l e R s m args below meth c H locs cells slots Q (F0 m pc arr (am_cv g (.inr (.inr x)) :: rest)) := by
  have k2 : ∀ arr', lv_has arr' ls.length ((k, am_cv g (.inr (.inr x))) :: (am_al g ls).filter (fun q => !(q.1 == k) && !(q.1 + 1 == k && q.2.category == 2))) → W p l e R s m args below meth c H locs cells slots Q (F0 m (pc + len) arr' rest) := fun arr' h => kk arr' (am_LR_st1 (v := .inr (.inr x)) h)
  change ∀ arr', lv_has arr' ls.length ((k, va_rf (am_ad g x)) :: _) → _ at k2
  show W p l e R s m args below meth c H locs cells slots Q (F0 m pc arr (va_rf (am_ad g x) :: rest))
  cases ha : am_ad g x with
  | none =>
    rw [ha] at k2
    rcases hr with ⟨n, rfl, hn, rfl⟩ | ⟨rfl, rfl⟩
    · exact lv_astore_nN hx hb hd hn (am_LR_has hl) hk rfl k2
    · exact lv_astoreN hx hb hd (am_LR_has hl) hk rfl k2
  | some q =>
    rw [ha] at k2
    rcases hr with ⟨n, rfl, hn, rfl⟩ | ⟨rfl, rfl⟩
    · exact lv_astore_n hx hb hd hn (am_LR_has hl) hk rfl k2
    · exact lv_astore hx hb hd (am_LR_has hl) hk rfl k2
theorem am_f_iinc (hx : p.tables.exec = Jvm.exec) (hb : c.code = cc) {k : Nat} {n : Int} {ls : am_L} {x : Int} (hl : am_LR g arr ls) (h : am_lg ls k = some (.inl x)) (hd : decode cc pc = .ok (.iinc k n, 3)) (kk : ∀ arr', am_LR g arr' (am_st1 ls k (.inl (am_add x n))) → W p l e R s m args below meth c H locs cells slots Q (F0 m (pc + 3) arr' rest)) : W p l e R s m args below meth c H locs cells slots Q (F0 m pc arr rest) := by
  obtain ⟨j, hj⟩ := List.getElem?_of_mem (am_mem_al (g := g) h)
  refine lv_iinc (v := Int32.ofInt (am_add x n)) hx hb hd (am_LR_has hl) hj ?_ (am_lg_lt _ _ _ h) rfl (fun arr' h => kk arr' (am_LR_st1 (v := .inl (am_add x n)) h))
  rw [am_o_add]
theorem am_f_goto (hx : p.tables.exec = Jvm.exec) (hb : c.code = cc) {off : Int} {t : Nat} (hd : decode cc pc = .ok (.goto off, 3)) (ht : (pc : Int) + off = t) (kk : W p l e R s m args below meth c H locs cells slots Q (F0 m t arr rest)) : W p l e R s m args below meth c H locs cells slots Q (F0 m pc arr rest) := lv_goto hx hb hd ht kk
theorem am_f_icmp (hx : p.tables.exec = Jvm.exec) (hb : c.code = cc) {cn : Jvm.ClassFile.Cond} {off : Int} {t : Nat} {a b : Int} (ha : am_r32 a) (hb2 : am_r32 b) (hd : decode cc pc = .ok (.if_icmp cn off, 3)) (ht : (pc : Int) + off = t) (kk : W p l e R s m args below meth c H locs cells slots Q (F0 m (am_br cn a b t (pc + 3)) arr rest)) : W p l e R s m args below meth c H locs cells slots Q (F0 m pc arr (.int (Int32.ofInt b) :: .int (Int32.ofInt a) :: rest)) := by
  unfold am_br at kk
  cases cn <;> dsimp only at kk
  case eq => exact lv_icmp_eq hx hb hd ht (fun q => by rw [if_pos ((am_eq ha hb2).mp q)] at kk; exact kk) (fun q => by rw [if_neg (fun z => q ((am_eq ha hb2).mpr z))] at kk; exact kk)
  case ne => exact lv_icmp_ne hx hb hd ht (fun q => by rw [if_pos (fun z => q ((am_eq ha hb2).mpr z))] at kk; exact kk) (fun q => by rw [if_neg (fun z => z ((am_eq ha hb2).mp q))] at kk; exact kk)
  case lt => exact lv_icmp_lt hx hb hd ht (fun q => by rw [if_pos ((am_lt ha hb2).mp q)] at kk; exact kk) (fun q => by rw [if_neg (fun z => q ((am_lt ha hb2).mpr z))] at kk; exact kk)
  case ge => exact lv_icmp_ge hx hb hd ht (fun q => by rw [if_pos ((am_le hb2 ha).mp q)] at kk; exact kk) (fun q => by rw [if_neg (fun z => q ((am_le hb2 ha).mpr z))] at kk; exact kk)
  case gt => exact lv_icmp_gt hx hb hd ht (fun q => by rw [if_pos ((am_lt hb2 ha).mp q)] at kk; exact kk) (fun q => by rw [if_neg (fun z => q ((am_lt hb2 ha).mpr z))] at kk; exact kk)
  case le => exact lv_icmp_le hx hb hd ht (fun q => by rw [if_pos ((am_le ha hb2).mp q)] at kk; exact kk) (fun q => by rw [if_neg (fun z => q ((am_le ha hb2).mpr z))] at kk; exact kk)
theorem am_f_if (hx : p.tables.exec = Jvm.exec) (hb : c.code = cc) {cn : Jvm.ClassFile.Cond} {off : Int} {t : Nat} {a : Int} (ha : am_r32 a) (hd : decode cc pc = .ok (.ifCond cn off, 3)) (ht : (pc : Int) + off = t) (kk : W p l e R s m args below meth c H locs cells slots Q (F0 m (am_br cn a 0 t (pc + 3)) arr rest)) : W p l e R s m args below meth c H locs cells slots Q (F0 m pc arr (.int (Int32.ofInt a) :: rest)) := by
  unfold am_br at kk
  have z0 : Int32.ofInt 0 = 0 := rfl
  have e1 := am_eq ha am_r0
  have e2 := am_lt ha am_r0
  have e3 := am_le am_r0 ha
  have e4 := am_lt am_r0 ha
  have e5 := am_le ha am_r0
  rw [z0] at e1 e2 e3 e4 e5
  cases cn <;> dsimp only at kk
  case eq => exact lv_if_eq hx hb hd ht (fun q => by rw [if_pos (e1.mp q)] at kk; exact kk) (fun q => by rw [if_neg (fun z => q (e1.mpr z))] at kk; exact kk)
  case ne => exact lv_if_ne hx hb hd ht (fun q => by rw [if_pos (fun z => q (e1.mpr z))] at kk; exact kk) (fun q => by rw [if_neg (fun z => z (e1.mp q))] at kk; exact kk)
  case lt => exact lv_if_lt hx hb hd ht (fun q => by rw [if_pos (e2.mp q)] at kk; exact kk) (fun q => by rw [if_neg (fun z => q (e2.mpr z))] at kk; exact kk)
  case ge => exact lv_if_ge hx hb hd ht (fun q => by rw [if_pos (e3.mp q)] at kk; exact kk) (fun q => by rw [if_neg (fun z => q (e3.mpr z))] at kk; exact kk)
  case gt => exact lv_if_gt hx hb hd ht (fun q => by rw [if_pos (e4.mp q)] at kk; exact kk) (fun q => by rw [if_neg (fun z => q (e4.mpr z))] at kk; exact kk)
  case le => exact lv_if_le hx hb hd ht (fun q => by rw [if_pos (e5.mp q)] at kk; exact kk) (fun q => by rw [if_neg (fun z => q (e5.mpr z))] at kk; exact kk)
/-- switches: the places of the table are the offsets beyond pc -/
theorem am_f_tsw (hx : p.tables.exec = Jvm.exec) (hb : c.code = cc) {d d' lo hi : Int} {offs ts : Array Int} {len : Nat} {x : Int} (hxr : am_r32 x) (hd : decode cc pc = .ok (.tableswitch d lo hi offs, len)) (hd' : d' = pc + d) (hd0 : 0 ≤ d') (hts : ts.toList = offs.toList.map (fun o => (pc : Int) + o)) (hnn : ts.toList.all (fun o => decide (0 ≤ o)) = true) (hlen : hi - lo < offs.size)
    (kk : W p l e R s m args below meth c H locs cells slots Q (F0 m (am_tsw lo hi ts.toList d' x) arr rest)) : W p l e R s m args below meth c H locs cells slots Q (F0 m pc arr (.int (Int32.ofInt x) :: rest)) := by
  unfold am_tsw at kk
  by_cases h : x < lo ∨ hi < x
  · rw [if_pos h] at kk
    exact lv_tableOut hx hb hd (by rw [am_toi hxr]; exact h) (by omega) kk
  · rw [if_neg h] at kk
    have hk : (x - lo).toNat < offs.size := by omega
    have e1 : ts.toList.getD (x - lo).toNat d' = pc + offs[(x - lo).toNat] := by
      rw [hts, List.getD_eq_getElem?_getD, List.getElem?_map, List.getElem?_eq_getElem (by simpa using hk)]
      simp
    rw [e1] at kk
    have e2 : 0 ≤ (pc : Int) + offs[(x - lo).toNat] := by
      have := List.all_eq_true.mp hnn (pc + offs[(x - lo).toNat]) (by rw [hts]; exact List.mem_map.mpr ⟨_, Array.getElem_mem_toList hk, rfl⟩)
      simpa using this
    exact lv_tableIn (off := offs[(x - lo).toNat]) hx hb hd (by rw [am_toi hxr]; omega) (by rw [am_toi hxr]; omega) (by rw [am_toi hxr]; exact Array.getElem?_eq_getElem hk) (by omega) kk
theorem am_lsw_eq : ∀ (ps : List (Int × Int)) (d : Int) (pc : Nat) (x : Int), (am_lsw (ps.map (fun q => (q.1, (pc : Int) + q.2))) (pc + d) x : Nat) = ((pc : Int) + Op.lookupswitch.offset ps d x).toNat
  | [], d, pc, x => rfl
  | (a, o) :: r, d, pc, x => by
    have ih := am_lsw_eq r d pc x
    show (if x = a then ((pc : Int) + o).toNat else am_lsw (r.map (fun q => (q.1, (pc : Int) + q.2))) (pc + d) x) = _
    by_cases h : x = a
    · rw [if_pos h]
      subst h
      simp [Op.lookupswitch.offset]
    · rw [if_neg h, ih]
      rw [show Op.lookupswitch.offset ((a, o) :: r) d x = if a = x then o else Op.lookupswitch.offset r d x from rfl, if_neg (fun q => h q.symm)]
theorem am_f_lsw (hx : p.tables.exec = Jvm.exec) (hb : c.code = cc) {d d' : Int} {ps qs : Array (Int × Int)} {len : Nat} {x : Int} (hxr : am_r32 x) (hd : decode cc pc = .ok (.lookupswitch d ps, len)) (hp : (ps.toList.zip (ps.toList.drop 1)).all (fun (a, next) => a.1 < next.1) = true) (hd' : d' = pc + d) (hd0 : 0 ≤ d') (hqs : qs.toList = ps.toList.map (fun q => (q.1, (pc : Int) + q.2))) (hnn : qs.toList.all (fun q => decide (0 ≤ q.2)) = true)
    (kk : W p l e R s m args below meth c H locs cells slots Q (F0 m (am_lsw qs.toList d' x) arr rest)) : W p l e R s m args below meth c H locs cells slots Q (F0 m pc arr (.int (Int32.ofInt x) :: rest)) := by
  rw [hqs, hd', am_lsw_eq] at kk
  refine lv_lookup hx hb hd hp rfl ?_ kk
  rw [am_toi hxr]
  have key : ∀ (l : List (Int × Int)), (∀ q ∈ l, 0 ≤ (pc : Int) + q.2) → 0 ≤ (pc : Int) + Op.lookupswitch.offset l d x := by
    intro l
    induction l with
    | nil => intro _; show 0 ≤ (pc : Int) + d; omega
    | cons q r ih =>
      intro hq
      obtain ⟨a, o⟩ := q
      rw [show Op.lookupswitch.offset ((a, o) :: r) d x = if a = x then o else Op.lookupswitch.offset r d x from rfl]
      split
      · exact hq (a, o) List.mem_cons_self
      · exact ih (fun q h => hq q (List.mem_cons_of_mem _ h))
  have := key ps.toList (fun q hq => by
    have h1 := List.all_eq_true.mp hnn (q.1, (pc : Int) + q.2) (by rw [hqs]; exact List.mem_map.mpr ⟨q, hq, rfl⟩)
    simpa using h1)
  omega
end AMF
