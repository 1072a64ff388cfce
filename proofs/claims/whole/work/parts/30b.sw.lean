/-! SWITCHES -/
def am_tall (P : Int → Nat → Prop) : Int → List Int → Prop
  | _, [] => True
  | lo, t :: r => P lo t.toNat ∧ am_tall P (lo + 1) r
theorem am_tall_at {P : Int → Nat → Prop} : ∀ (ts : List Int) (lo d : Int) (k : Nat), k < ts.length → am_tall P lo ts → P (lo + k) (ts.getD k d).toNat
  | [], _, _, _, h, _ => absurd h (Nat.not_lt_zero _)
  | t :: r, lo, d, 0, _, h => by simpa using h.1
  | t :: r, lo, d, k + 1, hk, h => by
    have := am_tall_at r (lo + 1) d k (by simpa using hk) h.2
    rw [show lo + ((k + 1 : Nat) : Int) = lo + 1 + k by omega]
    simpa using this
theorem am_wp_tsw {d mi : Nat} {lo hi df x : Int} {ts : List Int} {ls : am_L} {st : List am_V} {M : am_M} {Q : am_R → am_M → Prop} (hh : hi = lo + ts.length - 1) (h0 : (x < lo ∨ hi < x) → am_wp d mi df.toNat ls st M Q) (h1 : am_tall (fun v pc => x = v → am_wp d mi pc ls st M Q) lo ts) : am_wp d mi (am_tsw lo hi ts df x) ls st M Q := by
  unfold am_tsw
  by_cases h : x < lo ∨ hi < x
  · rw [if_pos h]; exact h0 h
  · rw [if_neg h]
    exact am_tall_at ts lo df (x - lo).toNat (by omega) h1 (by omega)
def am_lall (P : Int → Nat → Prop) : List (Int × Int) → Prop
  | [] => True
  | (a, t) :: r => P a t.toNat ∧ am_lall P r
def am_lno (x : Int) : List (Int × Int) → Prop
  | [] => True
  | (a, _) :: r => x ≠ a ∧ am_lno x r
theorem am_wp_lsw {d mi : Nat} {df x : Int} {ls : am_L} {st : List am_V} {M : am_M} {Q : am_R → am_M → Prop} : ∀ {ps : List (Int × Int)}, (am_lno x ps → am_wp d mi df.toNat ls st M Q) → am_lall (fun v pc => x = v → am_wp d mi pc ls st M Q) ps → am_wp d mi (am_lsw ps df x) ls st M Q
  | [], h0, _ => h0 trivial
  | (a, t) :: r, h0, h1 => by
    unfold am_lsw
    by_cases h : x = a
    · rw [if_pos h]; exact h1.1 h
    · rw [if_neg h]; exact am_wp_lsw (fun hn => h0 ⟨h, hn⟩) h1.2
