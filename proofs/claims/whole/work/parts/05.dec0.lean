/-! each place decodes to what the tables say, and its normal form is right -/
def am_zok (mi : Nat) : List (Nat × Nat × Nat × Nat × Instr) → List (Nat × Instr × Nat) → Bool
  | [], [] => true
  | (pc, nx, ta, tb, i) :: r, (pc2, raw, len) :: r2 => Nat.beq pc pc2 && am_rn mi pc raw len nx ta tb i && am_zok mi r r2
  | _, _ => false
def am_dok (cc : ByteArray) (l : List (Nat × Instr × Nat)) : Prop := ∀ q ∈ l, decode cc q.1 = .ok (q.2.1, q.2.2)
