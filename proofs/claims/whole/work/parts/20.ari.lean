/-! NUMBERS of the abstract machine: what its operations are where nothing wraps -/
theorem am_add_eq {a b : Int} (h1 : -2147483648 ≤ a + b) (h2 : a + b < 2147483648) : am_add a b = a + b := am_i_eq ⟨h1, h2⟩
theorem am_sub_eq {a b : Int} (h1 : -2147483648 ≤ a - b) (h2 : a - b < 2147483648) : am_sub a b = a - b := am_i_eq ⟨h1, h2⟩
theorem am_mul_eq {a b : Int} (h1 : -2147483648 ≤ a * b) (h2 : a * b < 2147483648) : am_mul a b = a * b := am_i_eq ⟨h1, h2⟩
theorem am_ladd_eq {a b : Int} (h1 : -9223372036854775808 ≤ a + b) (h2 : a + b < 9223372036854775808) : am_ladd a b = a + b := am_j_eq ⟨h1, h2⟩
theorem am_lsub_eq {a b : Int} (h1 : -9223372036854775808 ≤ a - b) (h2 : a - b < 9223372036854775808) : am_lsub a b = a - b := am_j_eq ⟨h1, h2⟩
theorem am_lmul_eq {a b : Int} (h1 : -9223372036854775808 ≤ a * b) (h2 : a * b < 9223372036854775808) : am_lmul a b = a * b := am_j_eq ⟨h1, h2⟩
theorem am_ofn (n : Nat) : Int32.ofInt (n : Int) = nI n := rfl
theorem am_ofnn {x : Int} (h : 0 ≤ x) : Int32.ofInt x = nI x.toNat := by
  have : x = ((x.toNat : Nat) : Int) := by omega
  rw [this]
  exact am_ofn _
theorem am_ofN (n : Nat) : (Int32.ofInt (n : Int)).toBitVec.toNat = n % 4294967296 := by
  rw [am_ofn]
  simp [nI]
theorem am_bvi {x : Int32} (h : x.toBitVec.toNat < 2147483648) : x.toInt = (x.toBitVec.toNat : Int) := by
  have : x.toInt = x.toBitVec.toInt := rfl
  rw [this, BitVec.toInt_eq_toNat_of_lt (by omega)]
/-- bits of numbers that aren't negative -/
theorem am_and_nat {a b : Nat} (ha : a < 2147483648) (hb : b < 2147483648) : am_and a b = ((a &&& b : Nat) : Int) := by
  have h1 : a &&& b < 2147483648 := Nat.lt_of_le_of_lt Nat.and_le_left ha
  have h2 : (Int32.ofInt (a : Int) &&& Int32.ofInt (b : Int)).toBitVec.toNat = a &&& b := by
    rw [Int32.toBitVec_and, BitVec.toNat_and, am_ofN, am_ofN, Nat.mod_eq_of_lt (by omega), Nat.mod_eq_of_lt (by omega)]
  unfold am_and
  rw [am_bvi (by rw [h2]; exact h1), h2]
theorem am_or_nat {a b : Nat} (ha : a < 2147483648) (hb : b < 2147483648) : am_or a b = ((a ||| b : Nat) : Int) := by
  have h1 : a ||| b < 2 ^ 31 := Nat.or_lt_two_pow ha hb
  have h2 : (Int32.ofInt (a : Int) ||| Int32.ofInt (b : Int)).toBitVec.toNat = a ||| b := by
    rw [Int32.toBitVec_or, BitVec.toNat_or, am_ofN, am_ofN, Nat.mod_eq_of_lt (by omega), Nat.mod_eq_of_lt (by omega)]
  unfold am_or
  rw [am_bvi (by rw [h2]; exact h1), h2]
theorem am_xor_nat {a b : Nat} (ha : a < 2147483648) (hb : b < 2147483648) : am_xor a b = ((a ^^^ b : Nat) : Int) := by
  have h1 : a ^^^ b < 2 ^ 31 := Nat.xor_lt_two_pow ha hb
  have h2 : (Int32.ofInt (a : Int) ^^^ Int32.ofInt (b : Int)).toBitVec.toNat = a ^^^ b := by
    rw [Int32.toBitVec_xor, BitVec.toNat_xor, am_ofN, am_ofN, Nat.mod_eq_of_lt (by omega), Nat.mod_eq_of_lt (by omega)]
  unfold am_xor
  rw [am_bvi (by rw [h2]; exact h1), h2]
theorem am_and_mask {x : Int} (h0 : 0 ≤ x) (h1 : x < 2147483648) {m : Int} (k : Nat) (hm : (Int32.ofInt m).toBitVec.toNat = 2 ^ k - 1) : am_and x m = x % 2 ^ k := by
  unfold am_and
  rw [am_ofnn h0, pk_andN (n := x.toNat) (by omega) k hm, nI_toInt]
  · have h2 : x = ((x.toNat : Nat) : Int) := by omega
    conv => rhs; rw [h2]
    simp
  · have := Nat.mod_le x.toNat (2 ^ k)
    omega
theorem am_ushr_eq {x : Int} (h0 : 0 ≤ x) (h1 : x < 2147483648) {y : Int} (k : Nat) (hk : (((Int32.ofInt y).toUInt32 &&& Int32.toUInt32 31).toBitVec % 32).toNat = k) : am_ushr x y = x / 2 ^ k := by
  unfold am_ushr
  rw [am_ofnn h0, pk_ushrN (n := x.toNat) (by omega) (Int32.ofInt y) k hk, nI_toInt]
  · have h2 : x = ((x.toNat : Nat) : Int) := by omega
    conv => rhs; rw [h2]
    simp
  · have := Nat.div_le_self x.toNat (2 ^ k)
    omega
theorem am_shl_eq {x : Int} (h0 : 0 ≤ x) {y : Int} (k : Nat) (hk : ((Int32.ofInt y &&& 31).toBitVec.smod 32).toNat = k) (h1 : x * 2 ^ k < 2147483648) : am_shl x y = x * 2 ^ k := by
  unfold am_shl
  have hx : x = ((x.toNat : Nat) : Int) := by omega
  have hc : ((x.toNat * 2 ^ k : Nat) : Int) = x * 2 ^ k := by rw [hx]; simp
  have h2 : x.toNat * 2 ^ k < 2147483648 := by omega
  rw [am_ofnn h0, pk_shlN (n := x.toNat) (Int32.ofInt y &&& 31) k hk (by omega), nI_toInt (by omega), hc]
theorem am_div_eq {a b : Int} (ha : 0 ≤ a) (ha2 : a < 2147483648) (hb : 0 < b) (hb2 : b < 2147483648) : am_div a b = a / b := by
  unfold am_div
  rw [am_ofnn ha, am_ofnn (Int.le_of_lt hb), pk_div (by omega) (by omega) (by omega), nI_toInt]
  · have h1 : a = ((a.toNat : Nat) : Int) := by omega
    have h2 : b = ((b.toNat : Nat) : Int) := by omega
    conv => rhs; rw [h1, h2]
    rfl
  · have := Nat.div_le_self a.toNat b.toNat
    omega
theorem am_rem_eq {a b : Int} (ha : 0 ≤ a) (ha2 : a < 2147483648) (hb : 0 < b) (hb2 : b < 2147483648) : am_rem a b = a % b := by
  unfold am_rem
  rw [am_ofnn ha, am_ofnn (Int.le_of_lt hb), pk_rem (by omega) (by omega) (by omega), nI_toInt]
  · have h1 : a = ((a.toNat : Nat) : Int) := by omega
    have h2 : b = ((b.toNat : Nat) : Int) := by omega
    conv => rhs; rw [h1, h2]
    rfl
  · have := Nat.mod_le a.toNat b.toNat
    omega
/-- bits that are apart: or is plus -/
theorem am_or_add {a b : Int} (k : Nat) (ha : 0 ≤ a) (hak : a < 2 ^ k) (hb : 0 ≤ b) (hbk : b * 2 ^ k + a < 2147483648) : am_or a (b * 2 ^ k) = a + b * 2 ^ k := by
  obtain ⟨x, rfl⟩ : ∃ x : Nat, a = (x : Int) := ⟨a.toNat, by omega⟩
  obtain ⟨y, rfl⟩ : ∃ y : Nat, b = (y : Int) := ⟨b.toNat, by omega⟩
  have hx : x < 2 ^ k := by exact_mod_cast hak
  have hc : (y : Int) * 2 ^ k = ((y * 2 ^ k : Nat) : Int) := by simp
  rw [hc] at hbk ⊢
  have h2 : y * 2 ^ k + x < 2147483648 := by omega
  rw [am_or_nat (by omega) (by omega), Nat.or_comm, ← Nat.shiftLeft_eq, ← Nat.shiftLeft_add_eq_or_of_lt hx, Nat.shiftLeft_eq]
  omega
