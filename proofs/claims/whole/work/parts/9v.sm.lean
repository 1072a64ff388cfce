/-! said(): slicesMeant of the class -/
section SD
variable {m sl : Nat} {sh : Nat → Nat × Nat} {I : Nat → Nat → Int} {R : Nat → Nat → Nat} {Q : am_R → am_M → Prop} {d : Nat} {W N : Nat → Int} {G : List Go}
def smE (I : Nat → Nat → Int) (W : Nat → Int) (G : List Go) (j s : Nat) : Bool := evN (I 17) (fun k => svA W G (I 17 k) (I 18 k) (I 19 k) s) j
def smM (I : Nat → Nat → Int) (W : Nat → Int) (G : List Go) (j : Nat) : Nat := ax_bs (smE I W G j) (nS W)
def smI (I X : Nat → Nat → Int) (W : Nat → Int) (G : List Go) (st : List Nat) : Prop := (∀ a, a ≠ 20 → X a = I a) ∧ ∀ p, p < st.length → X 20 (st.length - 1 - p) = (smM I W G (st.getD p 0) : Int)
theorem smI_push {X : Nat → Nat → Int} {st : List Nat} {j : Nat} {x : Int} (h : smI I X W G st) (hx : x = (smM I W G j : Int)) : smI I (am_up X 20 st.length x) W G (j :: st) := by
  refine ⟨fun a ha => by rw [am_upO ha, h.1 a ha], fun p hp => ?_⟩
  rw [List.length_cons] at hp ⊢
  rw [am_upS]
  cases p with
  | zero => rw [am_stS (by omega), hx]; rfl
  | succ p =>
    rw [am_stO (by omega), List.getD_cons_succ, ← h.2 p (by omega)]
    congr 1
    omega
theorem smI_drop {X : Nat → Nat → Int} {st : List Nat} {y : Nat} (h : smI I X W G (y :: st)) : smI I X W G st := by
  refine ⟨h.1, fun p hp => ?_⟩
  have t := h.2 (p + 1) (by rw [List.length_cons]; omega)
  rw [List.length_cons, List.getD_cons_succ] at t
  rw [← t]
  congr 1
  omega
theorem smM_lt {j : Nat} (h : nS W ≤ 8) : smM I W G j ≤ 255 := by
  have a := ax_bs_lt (smE I W G j) (nS W)
  have b : 2 ^ nS W ≤ 2 ^ 8 := Nat.pow_le_pow_right (by decide) h
  unfold smM
  omega
end SD
