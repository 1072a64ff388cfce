/-! THE ABSTRACT MACHINE: ints and longs are Int (in range), references are numbers of cells (0 null, 1 the script, 2 CHOICES, 3 the String constant, 4 and on what was made, in order); a memory is (next number, slots made, shape, numbers, references) -/
abbrev am_V : Type := Int ⊕ Int ⊕ Nat
abbrev am_L : Type := List (Option am_V)
abbrev am_M : Type := Nat × Nat × (Nat → Nat × Nat) × (Nat → Nat → Int) × (Nat → Nat → Nat)
abbrev am_R : Type := Option am_V ⊕ Unit
abbrev am_S : Type := Nat × am_L × List am_V × am_M
def am_up {α : Type} (f : Nat → Nat → α) (a k : Nat) (x : α) : Nat → Nat → α := fun b j => if b = a ∧ j = k then x else f b j
def am_sh1 (f : Nat → Nat × Nat) (a : Nat) (x : Nat × Nat) : Nat → Nat × Nat := fun b => if b = a then x else f b
def am_zero {α : Type} (f : Nat → Nat → α) (a : Nat) (x : α) : Nat → Nat → α := fun b j => if b = a then x else f b j
/-- the wrap of int and of long -/
def am_i (x : Int) : Int := (Int32.ofInt x).toInt
def am_j (x : Int) : Int := (Int64.ofInt x).toInt
def am_add (a b : Int) : Int := am_i (a + b)
def am_sub (a b : Int) : Int := am_i (a - b)
def am_mul (a b : Int) : Int := am_i (a * b)
def am_div (a b : Int) : Int := (Int32.ofInt a / Int32.ofInt b).toInt
def am_rem (a b : Int) : Int := (Int32.ofInt a - Int32.ofInt a / Int32.ofInt b * Int32.ofInt b).toInt
def am_and (a b : Int) : Int := (Int32.ofInt a &&& Int32.ofInt b).toInt
def am_or (a b : Int) : Int := (Int32.ofInt a ||| Int32.ofInt b).toInt
def am_xor (a b : Int) : Int := (Int32.ofInt a ^^^ Int32.ofInt b).toInt
def am_shl (a b : Int) : Int := (Int32.ofInt a <<< (Int32.ofInt b &&& 31)).toInt
def am_shr (a b : Int) : Int := (Int32.ofInt a >>> (Int32.ofInt b &&& 31)).toInt
def am_ushr (a b : Int) : Int := ((Int32.ofInt a).toUInt32 >>> ((Int32.ofInt b).toUInt32 &&& Int32.toUInt32 31)).toInt32.toInt
def am_byte (a : Int) : Int := (Int32.ofInt a).toInt8.toInt32.toInt
def am_ladd (a b : Int) : Int := am_j (a + b)
def am_lsub (a b : Int) : Int := am_j (a - b)
def am_lmul (a b : Int) : Int := am_j (a * b)
def am_ldiv (a b : Int) : Int := (Int64.ofInt a / Int64.ofInt b).toInt
def am_lrem (a b : Int) : Int := (Int64.ofInt a - Int64.ofInt a / Int64.ofInt b * Int64.ofInt b).toInt
def am_lcmp (a b : Int) : Int := if a < b then -1 else if b < a then 1 else 0
/-- locals -/
def am_lg : am_L → Nat → Option am_V
  | [], _ => none
  | a :: _, 0 => a
  | _ :: r, i + 1 => am_lg r i
def am_no2 : Option am_V → Option am_V
  | some (.inr (.inl _)) => none
  | a => a
def am_st1 : am_L → Nat → am_V → am_L
  | [], _, _ => []
  | _ :: r, 0, v => some v :: r
  | a :: r, 1, v => am_no2 a :: am_st1 r 0 v
  | a :: r, i + 2, v => a :: am_st1 r (i + 1) v
def am_clr : am_L → Nat → am_L
  | [], _ => []
  | _ :: r, 0 => none :: r
  | a :: r, i + 1 => a :: am_clr r i
def am_st2 (l : am_L) (i : Nat) (v : am_V) : am_L := am_clr (am_st1 l i v) (i + 1)
/-- stack -/
def am_b2 (f : Int → Int → Int) : List am_V → Option (List am_V)
  | .inl b :: .inl a :: r => some (.inl (f a b) :: r)
  | _ => none
def am_l2 (f : Int → Int → Int) : List am_V → Option (List am_V)
  | .inr (.inl b) :: .inr (.inl a) :: r => some (.inr (.inl (f a b)) :: r)
  | _ => none
def am_cat (v : am_V) : Nat := match v with
  | .inr (.inl _) => 2
  | _ => 1
def am_sop (i : Instr) (st : List am_V) : Option (List am_V) := match i with
  | .iadd => am_b2 am_add st
  | .isub => am_b2 am_sub st
  | .imul => am_b2 am_mul st
  | .iand => am_b2 am_and st
  | .ior => am_b2 am_or st
  | .ixor => am_b2 am_xor st
  | .ishl => am_b2 am_shl st
  | .ishr => am_b2 am_shr st
  | .iushr => am_b2 am_ushr st
  | .ladd => am_l2 am_ladd st
  | .lsub => am_l2 am_lsub st
  | .lmul => am_l2 am_lmul st
  | .ineg => match st with
    | .inl a :: r => some (.inl (am_sub 0 a) :: r)
    | _ => none
  | .lcmp => match st with
    | .inr (.inl b) :: .inr (.inl a) :: r => some (.inl (am_lcmp a b) :: r)
    | _ => none
  | .i2l => match st with
    | .inl a :: r => some (.inr (.inl a) :: r)
    | _ => none
  | .l2i => match st with
    | .inr (.inl a) :: r => some (.inl (am_i a) :: r)
    | _ => none
  | .i2b => match st with
    | .inl a :: r => some (.inl (am_byte a) :: r)
    | _ => none
  | .dup => match st with
    | a :: r => match am_cat a with
      | 1 => some (a :: a :: r)
      | _ => none
    | _ => none
  | .dup2 => match st with
    | a :: b :: r => match am_cat a, am_cat b with
      | 1, 1 => some (a :: b :: a :: b :: r)
      | _, _ => none
    | _ => none
  | .pop => match st with
    | a :: r => match am_cat a with
      | 1 => some r
      | _ => none
    | _ => none
  | _ => none
def am_br (c : Jvm.ClassFile.Cond) (a b : Int) (t n : Nat) : Nat := match c with
  | .eq => if a = b then t else n
  | .ne => if a ≠ b then t else n
  | .lt => if a < b then t else n
  | .ge => if b ≤ a then t else n
  | .gt => if b < a then t else n
  | .le => if a ≤ b then t else n
def am_tsw (lo hi : Int) (ts : List Int) (d x : Int) : Nat := if x < lo ∨ hi < x then d.toNat else (ts.getD (x - lo).toNat d).toNat
def am_lsw : List (Int × Int) → Int → Int → Nat
  | [], d, _ => d.toNat
  | (a, t) :: r, d, x => if x = a then t.toNat else am_lsw r d x
/-- what a field gives, by its kind: 0 int, 1 long, 2 reference, 3 boolean -/
def am_fv (k : Nat) (x : Int) (q : Nat) : am_V := match k with
  | 1 => .inr (.inl x)
  | 2 => .inr (.inr q)
  | _ => .inl x
def am_cpy (I : Nat → Nat → Int) (s sp d dp n : Nat) : Nat → Nat → Int := fun b j => if b = d ∧ dp ≤ j ∧ j < dp + n then I s (sp + (j - dp)) else I b j
def am_mk (M : am_M) (kd n : Nat) : am_M := match M with
  | (m, sl, sh, I, R) => (m + 1, sl + n, am_sh1 sh m (kd, n), am_zero I m 0, am_zero R m 0)
def am_kd (t : ArrayType) : Nat := match t with
  | .int => 32
  | .byte => 33
  | .boolean => 34
  | .long => 35
  | _ => 99
/-- the stack's words are few -/
def am_fit (r : List am_V) : Bool := Nat.ble (r.map am_cat).sum 8
/-- instructions that touch the heap, or ask something -/
def am_hop (i : Instr) (ca kb : Nat) (st : List am_V) (M : am_M) : Option (Prop × List am_V × am_M) := match M with
  | (m, sl, sh, I, R) => match i with
    | .idiv => match st with
      | .inl b :: .inl a :: r => some (b ≠ 0, .inl (am_div a b) :: r, M)
      | _ => none
    | .irem => match st with
      | .inl b :: .inl a :: r => some (b ≠ 0, .inl (am_rem a b) :: r, M)
      | _ => none
    | .ldiv => match st with
      | .inr (.inl b) :: .inr (.inl a) :: r => some (b ≠ 0, .inr (.inl (am_ldiv a b)) :: r, M)
      | _ => none
    | .lrem => match st with
      | .inr (.inl b) :: .inr (.inl a) :: r => some (b ≠ 0, .inr (.inl (am_lrem a b)) :: r, M)
      | _ => none
    | .getfield _ => match st with
      | .inr (.inr a) :: r => some ((sh a).1 = ca, am_fv (am_fk ca kb) (I a kb) (R a kb) :: r, M)
      | _ => none
    | .putfield _ => match am_fk ca kb with
      | 0 => match st with
        | .inl x :: .inr (.inr a) :: r => some ((sh a).1 = ca, r, (m, sl, sh, am_up I a kb x, R))
        | _ => none
      | 1 => match st with
        | .inr (.inl x) :: .inr (.inr a) :: r => some ((sh a).1 = ca, r, (m, sl, sh, am_up I a kb x, R))
        | _ => none
      | 2 => match st with
        | .inr (.inr x) :: .inr (.inr a) :: r => some ((sh a).1 = ca ∧ x ≠ 0, r, (m, sl, sh, I, am_up R a kb x))
        | _ => none
      | 3 => match st with
        | .inl x :: .inr (.inr a) :: r => some ((sh a).1 = ca ∧ (x = 0 ∨ x = 1), r, (m, sl, sh, am_up I a kb x, R))
        | _ => none
      | _ => none
    | .arraylength => match st with
      | .inr (.inr a) :: r => some (32 ≤ (sh a).1 ∧ (sh a).1 ≤ 37, .inl (sh a).2 :: r, M)
      | _ => none
    | .iaload => match st with
      | .inl i :: .inr (.inr a) :: r => some ((sh a).1 = 32 ∧ 0 ≤ i ∧ i < (sh a).2, .inl (I a i.toNat) :: r, M)
      | _ => none
    | .baload => match st with
      | .inl i :: .inr (.inr a) :: r => some ((sh a).1 = 33 ∧ 0 ≤ i ∧ i < (sh a).2, .inl (I a i.toNat) :: r, M)
      | _ => none
    | .caload => match st with
      | .inl i :: .inr (.inr a) :: r => some ((sh a).1 = 34 ∧ 0 ≤ i ∧ i < (sh a).2, .inl (I a i.toNat) :: r, M)
      | _ => none
    | .laload => match st with
      | .inl i :: .inr (.inr a) :: r => some ((sh a).1 = 35 ∧ 0 ≤ i ∧ i < (sh a).2, .inr (.inl (I a i.toNat)) :: r, M)
      | _ => none
    | .aaload => match st with
      | .inl i :: .inr (.inr a) :: r => some (((sh a).1 = 36 ∨ (sh a).1 = 37) ∧ 0 ≤ i ∧ i < (sh a).2, .inr (.inr (R a i.toNat)) :: r, M)
      | _ => none
    | .iastore => match st with
      | .inl x :: .inl i :: .inr (.inr a) :: r => some ((sh a).1 = 32 ∧ 0 ≤ i ∧ i < (sh a).2 ∧ 4 ≤ a, r, (m, sl, sh, am_up I a i.toNat x, R))
      | _ => none
    | .bastore => match st with
      | .inl x :: .inl i :: .inr (.inr a) :: r => some ((sh a).1 = 33 ∧ 0 ≤ i ∧ i < (sh a).2 ∧ 4 ≤ a, r, (m, sl, sh, am_up I a i.toNat (am_byte x), R))
      | _ => none
    | .castore => match st with
      | .inl x :: .inl i :: .inr (.inr a) :: r => some ((sh a).1 = 34 ∧ 0 ≤ i ∧ i < (sh a).2 ∧ 4 ≤ a ∧ (x = 0 ∨ x = 1), r, (m, sl, sh, am_up I a i.toNat x, R))
      | _ => none
    | .lastore => match st with
      | .inr (.inl x) :: .inl i :: .inr (.inr a) :: r => some ((sh a).1 = 35 ∧ 0 ≤ i ∧ i < (sh a).2 ∧ 4 ≤ a, r, (m, sl, sh, am_up I a i.toNat x, R))
      | _ => none
    | .aastore => match st with
      | .inr (.inr x) :: .inl i :: .inr (.inr a) :: r => some (((sh a).1 = 36 ∧ (sh x).1 = 9 ∨ (sh a).1 = 37 ∧ (sh x).1 = 5) ∧ 0 ≤ i ∧ i < (sh a).2 ∧ 4 ≤ a ∧ 4 ≤ x, r, (m, sl, sh, I, am_up R a i.toNat x))
      | _ => none
    | .new _ => some (True, .inr (.inr m) :: st, am_mk M ca kb)
    | .newarray t => match st with
      | .inl n :: r => some (0 ≤ n ∧ n ≤ 100000, .inr (.inr m) :: r, am_mk M (am_kd t) n.toNat)
      | _ => none
    | .anewarray _ => match st with
      | .inl n :: r => some (0 ≤ n ∧ n ≤ 100000, .inr (.inr m) :: r, am_mk M ca n.toNat)
      | _ => none
    | .getstatic _ => some (True, .inr (.inr 2) :: st, M)
    | .ldc _ => some (True, .inr (.inr 3) :: st, M)
    | .invokeinterface 0 _ => match st with
      | .inl n :: .inl dp :: .inr (.inr d) :: .inl sp :: .inr (.inr s) :: r => match am_fit r with
        | true => some ((sh s).1 = (sh d).1 ∧ ((sh d).1 = 32 ∨ (sh d).1 = 35) ∧ 0 ≤ sp ∧ 0 ≤ dp ∧ 0 ≤ n ∧ sp + n ≤ (sh s).2 ∧ dp + n ≤ (sh d).2 ∧ 4 ≤ d ∧ 4 ≤ s, r, (m, sl, sh, am_cpy I s sp.toNat d dp.toNat n.toNat, R))
        | false => none
      | _ => none
    | .invokeinterface 1 _ => match st with
      | .inr (.inr a) :: r => match am_fit r with
        | true => some (a = 3, .inl (am_str.length : Nat) :: r, M)
        | false => none
      | _ => none
    | .invokeinterface 2 _ => match st with
      | .inl i :: .inr (.inr a) :: r => match am_fit r with
        | true => some (a = 3 ∧ 0 ≤ i ∧ i < (am_str.length : Nat), .inl (am_str.getD i.toNat 0) :: r, M)
        | false => none
      | _ => none
    | .invokeinterface 3 _ => match st with
      | .inr (.inr a) :: r => match am_fit r with
        | true => some (4 ≤ a, r, M)
        | false => none
      | _ => none
    | .invokeinterface 4 _ => match st with
      | .inl b :: .inl a :: r => match am_fit r with
        | true => some (True, .inl (if a < b then b else a) :: r, M)
        | false => none
      | _ => none
    | .invokeinterface 5 _ => match st with
      | .inl b :: .inl a :: r => match am_fit r with
        | true => some (True, .inl (if b < a then b else a) :: r, M)
        | false => none
      | _ => none
    | _ => none
/-- one instruction that is no call and no end: what it asks, and the state behind it -/
def am_step (i : Instr) (nx ta tb : Nat) (ls : am_L) (st : List am_V) (M : am_M) : Option (Prop × am_S) := match i with
  | .iconst n => some (True, nx, ls, .inl n :: st, M)
  | .bipush n => some (True, nx, ls, .inr (.inl n) :: st, M)
  | .iload k => match am_lg ls k with
    | some (.inl x) => some (True, nx, ls, .inl x :: st, M)
    | _ => none
  | .lload k => match am_lg ls k with
    | some (.inr (.inl x)) => some (True, nx, ls, .inr (.inl x) :: st, M)
    | _ => none
  | .aload k => match am_lg ls k with
    | some (.inr (.inr x)) => some (True, nx, ls, .inr (.inr x) :: st, M)
    | _ => none
  | .istore k => match st with
    | .inl x :: r => some (k < ls.length, nx, am_st1 ls k (.inl x), r, M)
    | _ => none
  | .lstore k => match st with
    | .inr (.inl x) :: r => some (k + 1 < ls.length, nx, am_st2 ls k (.inr (.inl x)), r, M)
    | _ => none
  | .astore k => match st with
    | .inr (.inr x) :: r => some (k < ls.length ∧ x ≠ 0, nx, am_st1 ls k (.inr (.inr x)), r, M)
    | _ => none
  | .iinc k n => match am_lg ls k with
    | some (.inl x) => some (True, nx, am_st1 ls k (.inl (am_add x n)), st, M)
    | _ => none
  | .goto _ => some (True, ta, ls, st, M)
  | .ifCond c _ => match st with
    | .inl a :: r => some (True, am_br c a 0 ta nx, ls, r, M)
    | _ => none
  | .if_icmp c _ => match st with
    | .inl b :: .inl a :: r => some (True, am_br c a b ta nx, ls, r, M)
    | _ => none
  | .tableswitch d lo hi ts => match st with
    | .inl x :: r => some (True, am_tsw lo hi ts.toList d x, ls, r, M)
    | _ => none
  | .lookupswitch d ps => match st with
    | .inl x :: r => some (True, am_lsw ps.toList d x, ls, r, M)
    | _ => none
  | i => match am_sop i st with
    | some st' => some (True, nx, ls, st', M)
    | none => match am_hop i ta tb st M with
      | some (C, st', M') => some (C, nx, ls, st', M')
      | none => none
/-- a call: the callee -/
def am_cal (i : Instr) (y : Nat) : Option Nat := match i with
  | .invokestatic _ => some y
  | .invokevirtual _ => some y
  | .invokespecial _ => some y
  | _ => none
/-- an end: what comes out -/
def am_end (i : Instr) (st : List am_V) (M : am_M) : Option (am_R × am_M) := match i with
  | .ireturn => match st with
    | [.inl x] => some (.inl (some (.inl x)), M)
    | _ => none
  | .freturn => match st with
    | [.inl x] => if x = 0 ∨ x = 1 then some (.inl (some (.inl x)), M) else none
    | _ => none
  | .lreturn => match st with
    | [.inr (.inl x)] => some (.inl (some (.inr (.inl x))), M)
    | _ => none
  | .return_ => match st with
    | [] => some (.inl none, M)
    | _ => none
  | .athrow => match st with
    | [] => some (.inr (), am_mk M 13 6)
    | _ => none
  | _ => none
/-- what a callee's locals are at its entry -/
def am_ent : List am_V → am_L
  | [] => []
  | .inr (.inl x) :: r => some (.inr (.inl x)) :: none :: am_ent r
  | v :: r => some v :: am_ent r
def am_pad (n : Nat) (l : am_L) : am_L := l ++ List.replicate (n - l.length) none
/-- the stack is fit for a call of y -/
def am_cok (st : List am_V) (y : Nat) : Bool := Nat.ble (am_na y) st.length && Nat.ble ((st.drop (am_na y)).map am_cat).sum 8 && Nat.ble ((st.take (am_na y)).map am_cat).sum (am_ml y)
/-- what a call asks of its receiver -/
def am_rcv (i : Instr) (y : Nat) (av : List am_V) (M : am_M) : Prop := match i with
  | .invokevirtual _ => match av with
    | .inr (.inr a) :: _ => (M.2.2.1 a).1 = am_ow y
    | _ => False
  | .invokespecial _ => match av with
    | .inr (.inr a) :: _ => 4 ≤ a
    | _ => False
  | _ => True
/-- the machine: fuel, depth, method, place, locals, stack, memory -/
noncomputable def am_ex : Nat → Nat → Nat → Nat → am_L → List am_V → am_M → Option (am_R × am_M)
  | 0, _, _, _, _, _, _ => none
  | f + 1, d, mi, pc, ls, st, M => match am_ins mi pc with
    | none => none
    | some (nx, ta, tb, i) => match am_end i st M with
      | some q => some q
      | none => match am_cal i ta with
        | some y => match d with
          | 0 => none
          | d' + 1 => bif !am_cok st y then none else @ite _ (am_rcv i y (st.take (am_na y)).reverse M) (Classical.propDecidable _) (match am_ex f d' y 0 (am_pad (am_ml y) (am_ent (st.take (am_na y)).reverse)) [] M with
            | none => none
            | some (.inl v, M') => am_ex f d mi nx ls (v.toList ++ st.drop (am_na y)) M'
            | some (.inr _, M') => match am_hd mi with
              | none => none
              | some h => am_ex f d mi h ls [.inr (.inr (M'.1 - 1))] M') none
        | none => match am_step i nx ta tb ls st M with
          | none => none
          | some (C, pc', ls', st', M') => @ite _ C (Classical.propDecidable C) (am_ex f d mi pc' ls' st' M') none
