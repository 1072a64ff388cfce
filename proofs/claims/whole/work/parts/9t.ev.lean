/-! said(): what the steps say together (v: what the plain ones say) -/
def bks (c : Nat → Int) (v : Nat → Bool) : Nat → List Bool
  | 0 => []
  | i + 1 => if c i = 12 then (!((bks c v i).headD false)) :: (bks c v i).drop 1 else if c i = 15 then (((bks c v i).drop 1).headD false && (bks c v i).headD false) :: (bks c v i).drop 2 else if c i = 16 then (((bks c v i).drop 1).headD false || (bks c v i).headD false) :: (bks c v i).drop 2 else v i :: bks c v i
def evN (c : Nat → Int) (v : Nat → Bool) (j : Nat) : Bool := (bks c v (j + 1)).headD false
theorem bks_map {c : Nat → Int} {v : Nat → Bool} : ∀ i, bks c v i = (sx_stk c i).map (evN c v)
  | 0 => rfl
  | i + 1 => by
    have ih := bks_map (c := c) (v := v) i
    have e : ∀ (a : Bool) (r : List Nat), bks c v (i + 1) = a :: r.map (evN c v) → bks c v (i + 1) = (i :: r).map (evN c v) := fun a r h => by
      rw [h, List.map_cons]
      congr 1
      unfold evN
      rw [h]; rfl
    unfold sx_stk
    by_cases h12 : c i = 12
    · rw [if_pos h12]
      refine e (!((bks c v i).headD false)) _ ?_
      conv => lhs; unfold bks
      rw [if_pos h12, List.map_drop, ← ih]
    · rw [if_neg h12]
      by_cases h15 : c i = 15
      · rw [if_pos (Or.inl h15)]
        refine e (((bks c v i).drop 1).headD false && (bks c v i).headD false) _ ?_
        conv => lhs; unfold bks
        rw [if_neg h12, if_pos h15, List.map_drop, ← ih]
      · by_cases h16 : c i = 16
        · rw [if_pos (Or.inr h16)]
          refine e (((bks c v i).drop 1).headD false || (bks c v i).headD false) _ ?_
          conv => lhs; unfold bks
          rw [if_neg h12, if_neg h15, if_pos h16, List.map_drop, ← ih]
        · rw [if_neg (by omega)]
          refine e (v i) _ ?_
          conv => lhs; unfold bks
          rw [if_neg h12, if_neg h15, if_neg h16, ← ih]
theorem evN_12 {c : Nat → Int} {v : Nat → Bool} {i x : Nat} {r : List Nat} (h : c i = 12) (hs : sx_stk c i = x :: r) : evN c v i = !(evN c v x) := by
  conv => lhs; unfold evN bks
  rw [if_pos h, bks_map, hs]
  rfl
theorem evN_15 {c : Nat → Int} {v : Nat → Bool} {i x y : Nat} {r : List Nat} (h : c i = 15) (hs : sx_stk c i = y :: x :: r) : evN c v i = (evN c v x && evN c v y) := by
  conv => lhs; unfold evN bks
  rw [if_neg (by omega), if_pos h, bks_map, hs]
  rfl
theorem evN_16 {c : Nat → Int} {v : Nat → Bool} {i x y : Nat} {r : List Nat} (h : c i = 16) (hs : sx_stk c i = y :: x :: r) : evN c v i = (evN c v x || evN c v y) := by
  conv => lhs; unfold evN bks
  rw [if_neg (by omega), if_neg (by omega), if_pos h, bks_map, hs]
  rfl
theorem evN_v {c : Nat → Int} {v : Nat → Bool} {i : Nat} (h : c i ≠ 12 ∧ c i ≠ 15 ∧ c i ≠ 16) : evN c v i = v i := by
  conv => lhs; unfold evN bks
  rw [if_neg h.1, if_neg h.2.1, if_neg h.2.2]
  rfl
/-- the steps that stand open came before -/
theorem sx_lt {c : Nat → Int} : ∀ i, ∀ x, x ∈ sx_stk c i → x < i
  | 0, x, h => by cases h
  | i + 1, x, h => by
    unfold sx_stk at h
    have ih := sx_lt (c := c) i
    split at h
    · rcases List.mem_cons.mp h with h | h
      · omega
      · have := ih x (List.mem_of_mem_drop h); omega
    · split at h
      · rcases List.mem_cons.mp h with h | h
        · omega
        · have := ih x (List.mem_of_mem_drop h); omega
      · rcases List.mem_cons.mp h with h | h
        · omega
        · have := ih x h; omega
