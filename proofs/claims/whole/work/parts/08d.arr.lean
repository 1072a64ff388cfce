/-! STEPS: arrays, and cells that are made -/
section AMA
variable {p : Program} {l : Launch} {e : Env} {R0 : Room} {s : State} {m : MethodId} {args : Array Value} {below : List Frame} {meth : Method} {c : Code} {H : Heap} {locs : List Loc} {cells slots : Nat} {Q : State → Prop} {cc : ByteArray} {pc : Nat} {arr : Array Slot} {g : am_G} {rest : List Value} {ca : Nat → ClassId} {D : va_G} {L : Nat} {xs : Nat → Int32} {mm sl : Nat} {sh : Nat → Nat × Nat} {I : Nat → Nat → Int} {R : Nat → Nat → Nat} {a : Nat}
def am_tys (ca : Nat → ClassId) : List (ClassId × FieldType) := [(ca 32, .int), (ca 33, .byte), (ca 34, .boolean), (ca 35, .long), (ca 36, .object RX9), (ca 37, .object RX5)]
abbrev am_A (g : am_G) : Nat → Prop := fun q => g.2.2.2 ≤ q
/-- what is known of the cells that were there before: the script, CHOICES -/
def am_fx (g : am_G) (L : Nat) (xs : Nat → Int32) (U : State) (H : Heap) : Prop := (va_X g.1 L xs U H ∧ g.1 < H.size ∧ g.1 < g.2.2.2) ∧ va_Z "PanSlices" "CHOICES" "[I" (.ref g.2.1) (am_A g) U H ∧ va_T .int g.2.1 36 (fun k => .int (Int32.ofInt (am_cho k))) (am_A g) U H
theorem am_rg32 (ok : am_okM L xs (mm, sl, sh, I, R)) (h : (sh a).1 = 32 ∨ (sh a).1 = 33 ∨ (sh a).1 = 34) (k : Nat) : am_r32 (I a k) := by
  have := ok.2.1 a k
  unfold am_rgk am_r64 at this
  unfold am_r32 at this ⊢
  rcases h with h | h | h <;> rw [h] at this <;> simp at this <;> omega
theorem am_rg64 (ok : am_okM L xs (mm, sl, sh, I, R)) (h : (sh a).1 = 35) (k : Nat) : am_r64 (I a k) := by
  have := ok.2.1 a k
  unfold am_rgk at this
  rw [h] at this
  simpa using this
theorem am_h_iald (hx : p.tables.exec = Jvm.exec) (hb : c.code = cc) (hK : va_K D am_cl (am_tys ca) s) (hF : am_fx g L xs s s.heap) (hP : va_P D am_cl (am_ws g ca (mm, sl, sh, I, R)) H) (hS : va_S (am_A g) s.heap H locs) (ok : am_okM L xs (mm, sl, sh, I, R)) (hsh : (sh a).1 = 32) {i : Int} (h0 : 0 ≤ i) (h1 : i < (sh a).2) (hd : decode cc pc = .ok (.iaload, 1))
    (kk : W p l e R0 s m args below meth c H locs cells slots Q (F0 m (pc + 1) arr (.int (Int32.ofInt (I a i.toNat)) :: rest))) : W p l e R0 s m args below meth c H locs cells slots Q (F0 m pc arr (.int (Int32.ofInt i) :: am_cv g (.inr (.inr a)) :: rest)) := by
  have hlen := ok.2.2.2.1 a
  have hin := am_ix h0 h1 hlen
  have hcl := am_clp h0 (i := i) ⟨by omega, by omega⟩
  obtain ⟨hlt, hk⟩ := am_live ok (a := a) (by rw [hsh]; decide)
  rcases hk with h4 | rfl | rfl
  · rw [am_cvr g h4]
    have he := am_ws_get g ca (mm, sl, sh, I, R) h4 hlt
    rw [am_cell_int hsh (by decide) (by decide)] at he
    exact va_iald hx hb hK hP (a - 4) 0 he rfl hin hd (by rw [hcl]; exact kk)
  · obtain ⟨⟨-, -, e1, -, -⟩, -, -, -, -, -, e7, -⟩ := ok
    rw [e1] at h1 hin
    refine va_sld hx hb hF.1.1 hF.1.2.1 (fun q => ?_) hS hin hd ?_
    · have q1 : g.2.2.2 ≤ g.1 := q
      exact absurd hF.1.2.2 (by omega)
    · rw [hcl]
      rw [e7 i.toNat (by omega), am_of] at kk
      exact kk
  · obtain ⟨⟨-, -, -, e2, -⟩, -, -, -, -, -, -, e8⟩ := ok
    rw [e2] at h1 hin
    refine va_ti hx hb hF.2.2 hS hin rfl hd ?_
    rw [hcl]
    rw [e8 i.toNat (by omega)] at kk
    exact kk
theorem am_h_bald (hx : p.tables.exec = Jvm.exec) (hb : c.code = cc) (hK : va_K D am_cl (am_tys ca) s) (hP : va_P D am_cl (am_ws g ca (mm, sl, sh, I, R)) H) (ok : am_okM L xs (mm, sl, sh, I, R)) (hsh : (sh a).1 = 33) {i : Int} (h0 : 0 ≤ i) (h1 : i < (sh a).2) (hd : decode cc pc = .ok (.baload, 1))
    (kk : W p l e R0 s m args below meth c H locs cells slots Q (F0 m (pc + 1) arr (.int (Int32.ofInt (I a i.toNat)) :: rest))) : W p l e R0 s m args below meth c H locs cells slots Q (F0 m pc arr (.int (Int32.ofInt i) :: am_cv g (.inr (.inr a)) :: rest)) := by
  have hlen := ok.2.2.2.1 a
  have hin := am_ix h0 h1 hlen
  have hcl := am_clp h0 (i := i) ⟨by omega, by omega⟩
  obtain ⟨h4, hlt⟩ := am_obj ok (a := a) (by omega)
  rw [am_cvr g h4]
  have he := am_ws_get g ca (mm, sl, sh, I, R) h4 hlt
  rw [am_cell_int hsh (by decide) (by decide)] at he
  exact va_bald hx hb hK hP (a - 4) 1 he rfl hin hd (by rw [hcl]; exact kk)
theorem am_h_zald (hx : p.tables.exec = Jvm.exec) (hb : c.code = cc) (hK : va_K D am_cl (am_tys ca) s) (hP : va_P D am_cl (am_ws g ca (mm, sl, sh, I, R)) H) (ok : am_okM L xs (mm, sl, sh, I, R)) (hsh : (sh a).1 = 34) {i : Int} (h0 : 0 ≤ i) (h1 : i < (sh a).2) (hd : decode cc pc = .ok (.baload, 1))
    (kk : W p l e R0 s m args below meth c H locs cells slots Q (F0 m (pc + 1) arr (.int (Int32.ofInt (I a i.toNat)) :: rest))) : W p l e R0 s m args below meth c H locs cells slots Q (F0 m pc arr (.int (Int32.ofInt i) :: am_cv g (.inr (.inr a)) :: rest)) := by
  have hlen := ok.2.2.2.1 a
  have hin := am_ix h0 h1 hlen
  have hcl := am_clp h0 (i := i) ⟨by omega, by omega⟩
  obtain ⟨h4, hlt⟩ := am_obj ok (a := a) (by omega)
  rw [am_cvr g h4]
  have he := am_ws_get g ca (mm, sl, sh, I, R) h4 hlt
  rw [am_cell_int hsh (by decide) (by decide)] at he
  exact va_zald hx hb hK hP (a - 4) 2 he rfl hin hd (by rw [hcl]; exact kk)
theorem am_h_lald (hx : p.tables.exec = Jvm.exec) (hb : c.code = cc) (hK : va_K D am_cl (am_tys ca) s) (hP : va_P D am_cl (am_ws g ca (mm, sl, sh, I, R)) H) (ok : am_okM L xs (mm, sl, sh, I, R)) (hsh : (sh a).1 = 35) {i : Int} (h0 : 0 ≤ i) (h1 : i < (sh a).2) (hd : decode cc pc = .ok (.laload, 1))
    (kk : W p l e R0 s m args below meth c H locs cells slots Q (F0 m (pc + 1) arr (.long (Int64.ofInt (I a i.toNat)) :: rest))) : W p l e R0 s m args below meth c H locs cells slots Q (F0 m pc arr (.int (Int32.ofInt i) :: am_cv g (.inr (.inr a)) :: rest)) := by
  have hlen := ok.2.2.2.1 a
  have hin := am_ix h0 h1 hlen
  have hcl := am_clp h0 (i := i) ⟨by omega, by omega⟩
  obtain ⟨h4, hlt⟩ := am_obj ok (a := a) (by omega)
  rw [am_cvr g h4]
  have he := am_ws_get g ca (mm, sl, sh, I, R) h4 hlt
  rw [am_cell_long hsh] at he
  exact va_lald hx hb hK hP (a - 4) 3 he rfl hin hd (by rw [hcl]; exact kk)
theorem am_h_aald (hx : p.tables.exec = Jvm.exec) (hb : c.code = cc) (hK : va_K D am_cl (am_tys ca) s) (hP : va_P D am_cl (am_ws g ca (mm, sl, sh, I, R)) H) (ok : am_okM L xs (mm, sl, sh, I, R)) (hsh : (sh a).1 = 36 ∨ (sh a).1 = 37) {i : Int} (h0 : 0 ≤ i) (h1 : i < (sh a).2) (hd : decode cc pc = .ok (.aaload, 1))
    (kk : W p l e R0 s m args below meth c H locs cells slots Q (F0 m (pc + 1) arr (am_cv g (.inr (.inr (R a i.toNat))) :: rest))) : W p l e R0 s m args below meth c H locs cells slots Q (F0 m pc arr (.int (Int32.ofInt i) :: am_cv g (.inr (.inr a)) :: rest)) := by
  have hlen := ok.2.2.2.1 a
  have hin := am_ix h0 h1 hlen
  have hcl := am_clp h0 (i := i) ⟨by omega, by omega⟩
  obtain ⟨h4, hlt⟩ := am_obj ok (a := a) (by omega)
  rw [am_cvr g h4]
  have he := am_ws_get g ca (mm, sl, sh, I, R) h4 hlt
  rcases hsh with hsh | hsh
  · rw [am_cell_ref hsh (by decide)] at he
    exact va_aldq hx hb hK hP (a - 4) 4 he rfl hin hd (by rw [hcl]; exact kk)
  · rw [am_cell_ref hsh (by decide)] at he
    exact va_aldq hx hb hK hP (a - 4) 5 he rfl hin hd (by rw [hcl]; exact kk)
theorem am_h_alen (hx : p.tables.exec = Jvm.exec) (hb : c.code = cc) (hK : va_K D am_cl (am_tys ca) s) (hF : am_fx g L xs s s.heap) (hP : va_P D am_cl (am_ws g ca (mm, sl, sh, I, R)) H) (hS : va_S (am_A g) s.heap H locs) (ok : am_okM L xs (mm, sl, sh, I, R)) (hsh : 32 ≤ (sh a).1 ∧ (sh a).1 ≤ 37) (hd : decode cc pc = .ok (.arraylength, 1))
    (kk : W p l e R0 s m args below meth c H locs cells slots Q (F0 m (pc + 1) arr (.int (Int32.ofInt (sh a).2) :: rest))) : W p l e R0 s m args below meth c H locs cells slots Q (F0 m pc arr (am_cv g (.inr (.inr a)) :: rest)) := by
  have hlen := ok.2.2.2.1 a
  obtain ⟨hlt, hk⟩ := am_live ok (a := a) (by omega)
  rcases hk with h4 | rfl | rfl
  · rw [am_cvr g h4]
    have he := am_ws_get g ca (mm, sl, sh, I, R) h4 hlt
    obtain ⟨k1, k2⟩ := hsh
    have hh : (sh a).1 = 32 ∨ (sh a).1 = 33 ∨ (sh a).1 = 34 ∨ (sh a).1 = 35 ∨ (sh a).1 = 36 ∨ (sh a).1 = 37 := by omega
    rcases hh with h | h | h | h | h | h
    · rw [am_cell_int h (by decide) (by decide)] at he
      exact va_alen hx hb hK hP (a - 4) 0 he rfl rfl hd kk
    · rw [am_cell_int h (by decide) (by decide)] at he
      exact va_alen hx hb hK hP (a - 4) 1 he rfl rfl hd kk
    · rw [am_cell_int h (by decide) (by decide)] at he
      exact va_alen hx hb hK hP (a - 4) 2 he rfl rfl hd kk
    · rw [am_cell_long h] at he
      exact va_alen hx hb hK hP (a - 4) 3 he rfl rfl hd kk
    · rw [am_cell_ref h (by decide)] at he
      exact va_alen hx hb hK hP (a - 4) 4 he rfl rfl hd kk
    · rw [am_cell_ref h (by decide)] at he
      exact va_alen hx hb hK hP (a - 4) 5 he rfl rfl hd kk
  · obtain ⟨⟨-, -, e1, -, -⟩, -⟩ := ok
    rw [e1] at kk
    refine va_slen hx hb hF.1.1 hF.1.2.1 (fun q => ?_) hS hd kk
    have q1 : g.2.2.2 ≤ g.1 := q
    exact absurd hF.1.2.2 (by omega)
  · obtain ⟨⟨-, -, -, e2, -⟩, -⟩ := ok
    rw [e2] at kk
    exact va_tlen hx hb hF.2.2 hS rfl hd kk
/-- stores -/
theorem am_h_iast (hx : p.tables.exec = Jvm.exec) (hb : c.code = cc) (hK : va_K D am_cl (am_tys ca) s) (hP : va_P D am_cl (am_ws g ca (mm, sl, sh, I, R)) H) (hS : va_S (am_A g) s.heap H locs) (ok : am_okM L xs (mm, sl, sh, I, R)) (hsh : (sh a).1 = 32) (h4 : 4 ≤ a) {i x : Int} (h0 : 0 ≤ i) (h1 : i < (sh a).2) (hd : decode cc pc = .ok (.iastore, 1))
    (kk : ∀ H1 locs1, va_P D am_cl (am_ws g ca (mm, sl, sh, am_up I a i.toNat x, R)) H1 → va_S (am_A g) s.heap H1 locs1 → W p l e R0 s m args below meth c H1 locs1 cells slots Q (F0 m (pc + 1) arr rest)) : W p l e R0 s m args below meth c H locs cells slots Q (F0 m pc arr (.int (Int32.ofInt x) :: .int (Int32.ofInt i) :: am_cv g (.inr (.inr a)) :: rest)) := by
  have hlen := ok.2.2.2.1 a
  have hin := am_ix h0 h1 hlen
  have hcl := am_clp h0 (i := i) ⟨by omega, by omega⟩
  have hlt := (am_live ok (a := a) (by rw [hsh]; decide)).1
  rw [am_cvr g h4]
  have he := am_ws_get g ca (mm, sl, sh, I, R) h4 hlt
  have hset := am_ws_set g ca (mm, sl, sh, I, R) (mm, sl, sh, am_up I a i.toNat x, R) h4 hlt rfl (fun b hb => am_cell_I hb)
  rw [am_cell_int hsh (by decide) (by decide)] at he hset
  refine va_iast hx hb hK hP (am_ws_D g ca _) hS (a - 4) 0 he rfl hin hd (fun H1 locs1 q1 _ q3 => kk H1 locs1 ?_ q3)
  rw [hcl] at q1
  rw [← hset]
  have : (fun k => Int32.ofInt (am_up I a i.toNat x a k)) = upd (fun k => Int32.ofInt (I a k)) i.toNat (Int32.ofInt x) := by
    funext k
    unfold am_up upd
    by_cases hk : k = i.toNat
    · rw [if_pos ⟨rfl, hk⟩, if_pos hk]
    · rw [if_neg (by omega), if_neg hk]
  rw [this]
  exact q1
end AMA
