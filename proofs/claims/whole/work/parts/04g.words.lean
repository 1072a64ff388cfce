/-! single words, and the places of the library's own calls -/
def am_slb (q : Nat × Nat × Nat × Nat) : Bool := match q.2.2.1 with
  | 0 => decide (lw_tbl[q.2.2.2]? = some (.methodLink (am_cn q.1) q.2.1 arraycopyName))
  | 3 => decide (lw_tbl[q.2.2.2]? = some (.methodLink (am_cn q.1) q.2.1 Lib.objectInit))
  | 4 => decide (lw_tbl[q.2.2.2]? = some (.classLink (am_cn q.1) q.2.1 "java/util/NoSuchElementException"))
  | 6 => decide (lw_tbl[q.2.2.2]? = some (.fieldLink (am_cn q.1) q.2.1 "PanSlices" "CHOICES" "[I"))
  | 7 => decide (lw_tbl[q.2.2.2]? = some (.methodLink (am_cn q.1) q.2.1 Lib.Math.max.name))
  | 8 => decide (lw_tbl[q.2.2.2]? = some (.methodLink (am_cn q.1) q.2.1 Lib.Math.min.name))
  | 1 => decide (lw_tbl[q.2.2.2]? = some (.methodLink (am_cn q.1) q.2.1 yJ0_length_8abf5))
  | 2 => decide (lw_tbl[q.2.2.2]? = some (.methodLink (am_cn q.1) q.2.1 yJ0_charAt_5068e))
  | _ => true
set_option maxRecDepth 100000 in
theorem am_SL_ok : am_SL.all am_slb = true := by decide +kernel
set_option maxRecDepth 100000 in
theorem am_k_nat : lw_tbl[784]? = some (.native arraycopyName) ∧ lw_tbl[783]? = some (.static arraycopyName) ∧ lw_tbl[157]? = some (.initialized "java/lang/System") ∧ lw_tbl[171]? = some (.instanceMethod Lib.objectInit) ∧ lw_tbl[898]? = some (.static Lib.Math.max.name) ∧ lw_tbl[1082]? = some (.static Lib.Math.min.name) ∧ lw_tbl[163]? = some (.initialized "java/lang/Math") ∧ lw_tbl[281]? = some (.arrayClass .int) ∧ lw_tbl[476]? = some (.arrayClass .byte) ∧ lw_tbl[1729]? = some (.arrayClass .boolean) ∧ lw_tbl[673]? = some (.arrayClass .long) := by decide +kernel
set_option maxRecDepth 100000 in
theorem am_k_oco : lw_tbl[172]? = some (.code Lib.objectInit ⟨#[0xb1]⟩ 1 none) := by decide +kernel
set_option maxRecDepth 100000 in
theorem am_k_cmx : lw_tbl[899]? = some (.code Lib.Math.max.name Lib.Math.max.code 2 (some .int)) := by decide +kernel
set_option maxRecDepth 100000 in
theorem am_k_cmn : lw_tbl[1083]? = some (.code Lib.Math.min.name Lib.Math.min.code 2 (some .int)) := by decide +kernel
theorem am_sl {ow ix k : Nat} (h : am_any4 am_SL ow ix k = true) : ∃ pos, am_slb (ow, ix, k, pos) = true := by
  obtain ⟨q, hq, h2⟩ := List.any_eq_true.mp h
  simp only [Bool.and_eq_true] at h2
  obtain ⟨⟨e1, e2⟩, e3⟩ := h2
  have h3 := List.all_eq_true.mp am_SL_ok q hq
  obtain ⟨a1, a2, a3, a4⟩ := q
  have f1 : a1 = ow := Nat.eq_of_beq_eq_true e1
  have f2 : a2 = ix := Nat.eq_of_beq_eq_true e2
  have f3 : a3 = k := Nat.eq_of_beq_eq_true e3
  rw [f1, f2, f3] at h3
  exact ⟨a4, h3⟩
theorem am_al4 {ow ix k : Nat} (h : am_any4 am_AL ow ix k = true) : k = 36 ∧ Cond.classLink (am_cn ow) ix RX9 ∈ am_uw ∨ k = 37 ∧ Cond.classLink (am_cn ow) ix RX5 ∈ am_uw := by
  obtain ⟨q, hq, h2⟩ := List.any_eq_true.mp h
  simp only [Bool.and_eq_true] at h2
  obtain ⟨⟨e1, e2⟩, e3⟩ := h2
  have h3 := List.all_eq_true.mp am_AL_ok q hq
  unfold am_alb at h3
  rw [Nat.eq_of_beq_eq_true e1, Nat.eq_of_beq_eq_true e2, Nat.eq_of_beq_eq_true e3, decide_eq_true_eq] at h3
  rcases h3 with ⟨h, h'⟩ | ⟨h, h'⟩
  · exact Or.inl ⟨h, am_uw_at h' rfl⟩
  · exact Or.inr ⟨h, am_uw_at h' rfl⟩
theorem am_zl {ow ix k : Nat} (h : am_any4 am_ZL ow ix k = true) {C : String} {T : u_T} {N : Nat} (hc : am_cl[k]? = some (C, T, N)) : Cond.classLink (am_cn ow) ix C ∈ am_uw := by
  obtain ⟨q, hq, h2⟩ := List.any_eq_true.mp h
  simp only [Bool.and_eq_true] at h2
  obtain ⟨⟨e1, e2⟩, e3⟩ := h2
  have h3 := List.all_eq_true.mp am_ZL_ok q hq
  unfold am_zlb at h3
  rw [Nat.eq_of_beq_eq_true e1, Nat.eq_of_beq_eq_true e2, Nat.eq_of_beq_eq_true e3, hc] at h3
  exact am_uw_at (of_decide_eq_true h3) rfl
theorem am_nfw : nativeFrameWords "java/lang/System" "arraycopy" 5 ≤ 60 := by decide +kernel
