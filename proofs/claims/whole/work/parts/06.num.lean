/-! NUMBERS: Int in range beside Int32 and Int64 -/
def am_r32 (x : Int) : Prop := -2147483648 ≤ x ∧ x < 2147483648
def am_r64 (x : Int) : Prop := -9223372036854775808 ≤ x ∧ x < 9223372036854775808
theorem am_r32_t (x : Int32) : am_r32 x.toInt := ⟨Int32.le_toInt x, Int32.toInt_lt x⟩
theorem am_r64_t (x : Int64) : am_r64 x.toInt := ⟨Int64.le_toInt x, Int64.toInt_lt x⟩
theorem am_toi {x : Int} (h : am_r32 x) : (Int32.ofInt x).toInt = x := by
  rw [Int32.toInt_ofInt]
  obtain ⟨h1, h2⟩ := h
  exact Int.bmod_eq_of_le (by simp only [Int32.size]; omega) (by simp only [Int32.size]; omega)
theorem am_toj {x : Int} (h : am_r64 x) : (Int64.ofInt x).toInt = x := by
  rw [Int64.toInt_ofInt]
  obtain ⟨h1, h2⟩ := h
  exact Int.bmod_eq_of_le (by simp only [Int64.size]; omega) (by simp only [Int64.size]; omega)
theorem am_of (x : Int32) : Int32.ofInt x.toInt = x := Int32.ofInt_toInt x
theorem am_oj (x : Int64) : Int64.ofInt x.toInt = x := Int64.ofInt_toInt x
theorem am_i_eq {x : Int} (h : am_r32 x) : am_i x = x := am_toi h
theorem am_j_eq {x : Int} (h : am_r64 x) : am_j x = x := am_toj h
theorem am_oi (x : Int) : Int32.ofInt (am_i x) = Int32.ofInt x := am_of _
theorem am_oJ (x : Int) : Int64.ofInt (am_j x) = Int64.ofInt x := am_oj _
theorem am_lt {a b : Int} (ha : am_r32 a) (hb : am_r32 b) : Int32.ofInt a < Int32.ofInt b ↔ a < b := by rw [Int32.lt_iff_toInt_lt, am_toi ha, am_toi hb]
theorem am_le {a b : Int} (ha : am_r32 a) (hb : am_r32 b) : Int32.ofInt a ≤ Int32.ofInt b ↔ a ≤ b := by rw [Int32.le_iff_toInt_le, am_toi ha, am_toi hb]
theorem am_eq {a b : Int} (ha : am_r32 a) (hb : am_r32 b) : Int32.ofInt a = Int32.ofInt b ↔ a = b := by
  constructor
  · intro h
    have := congrArg Int32.toInt h
    rwa [am_toi ha, am_toi hb] at this
  · intro h; rw [h]
theorem am_jlt {a b : Int} (ha : am_r64 a) (hb : am_r64 b) : Int64.ofInt a < Int64.ofInt b ↔ a < b := by rw [Int64.lt_iff_toInt_lt, am_toj ha, am_toj hb]
theorem am_jeq {a b : Int} (ha : am_r64 a) (hb : am_r64 b) : Int64.ofInt a = Int64.ofInt b ↔ a = b := by
  constructor
  · intro h
    have := congrArg Int64.toInt h
    rwa [am_toj ha, am_toj hb] at this
  · intro h; rw [h]
theorem am_r0 : am_r32 0 := ⟨by decide, by decide⟩
theorem am_ix {i : Int} {n : Nat} (h0 : 0 ≤ i) (h : i < n) (hn : n ≤ 100000) : vp_in (Int32.ofInt i) n := by
  rw [vp_in_iff, am_toi ⟨by omega, by omega⟩]
  exact ⟨h0, h⟩
theorem am_clp {i : Int} (h0 : 0 ≤ i) (h : am_r32 i) : (Int32.ofInt i).toNatClampNeg = i.toNat := by
  have : (Int32.ofInt i).toNatClampNeg = (Int32.ofInt i).toInt.toNat := rfl
  rw [this, am_toi h]
theorem am_lcmp_r (a b : Int) : am_r32 (am_lcmp a b) := by
  unfold am_lcmp am_r32
  split
  · omega
  · split <;> omega
theorem am_r32_64 {a : Int} (h : am_r32 a) : am_r64 a := ⟨by have := h.1; omega, by have := h.2; omega⟩
theorem am_i2l {a : Int} (h : am_r32 a) : (Int32.ofInt a).toInt64 = Int64.ofInt a := by
  rw [← Int64.toInt_inj, Int32.toInt_toInt64, am_toi h, am_toj (am_r32_64 h)]
theorem am_l2i (a : Int) : (Int64.ofInt a).toInt32 = Int32.ofInt a := by
  rw [← Int32.toInt_inj]
  rw [Int64.toInt_toInt32, Int64.toInt_ofInt, Int32.toInt_ofInt]
  exact Int.bmod_bmod_of_dvd (by decide)
theorem am_bip {n : Int} (h1 : -128 ≤ n) (h2 : n ≤ 127) : (Int8.ofInt n).toInt32 = Int32.ofInt n := by
  rw [← Int32.toInt_inj, Int8.toInt_toInt32, Int8.toInt_ofInt, am_toi ⟨by omega, by omega⟩]
  exact Int.bmod_eq_of_le (by simp only [Int8.size]; omega) (by simp only [Int8.size]; omega)
theorem am_sip {n : Int} (h1 : -32768 ≤ n) (h2 : n ≤ 32767) : (Int16.ofInt n).toInt32 = Int32.ofInt n := by
  rw [← Int32.toInt_inj, Int16.toInt_toInt32, Int16.toInt_ofInt, am_toi ⟨by omega, by omega⟩]
  exact Int.bmod_eq_of_le (by simp only [Int16.size]; omega) (by simp only [Int16.size]; omega)
theorem am_byte_r (a : Int) : -128 ≤ am_byte a ∧ am_byte a < 128 := by
  unfold am_byte
  rw [Int8.toInt_toInt32]
  exact ⟨Int8.le_toInt _, Int8.toInt_lt _⟩
