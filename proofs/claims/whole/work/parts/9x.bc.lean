/-! Integer.bitCount of a small number -/
section BC
variable {m sl : Nat} {sh : Nat → Nat × Nat} {I : Nat → Nat → Int} {R : Nat → Nat → Nat} {Q : am_R → am_M → Prop} {d : Nat}
def bcN (x : Nat) : Nat := x % 2 + x / 2 % 2 + x / 4 % 2 + x / 8 % 2 + x / 16 % 2 + x / 32 % 2 + x / 64 % 2 + x / 128 % 2
def bc1 (v : Int) : Int := am_sub v (am_and (am_ushr v 1) 1431655765)
def bc2 (v : Int) : Int := am_add (am_and v 858993459) (am_and (am_ushr v 2) 858993459)
def bc3 (v : Int) : Int := am_and (am_add v (am_ushr v 4)) 252645135
def bc4 (v : Int) : Int := am_add v (am_ushr v 8)
def bc5 (v : Int) : Int := am_add v (am_ushr v 16)
theorem bc_all : ∀ x : Fin 256, am_and (bc5 (bc4 (bc3 (bc2 (bc1 (x.val : Int)))))) 63 = (bcN x.val : Int) := by decide +kernel
theorem w_bitCount {x : Nat} (hx : x < 256) (h : Q (am_yi (bcN x : Int)) (m, sl, sh, I, R)) : am_wp d 326 0 [some (.inl (x : Int))] [] (m, sl, sh, I, R) Q := by
  refine am_wp_pc (pc' := 0) rfl ?_
  refine am_wp_go rfl (by simp (disch := omega) only [am_addE, am_subE, am_mulE, am_laddE, am_lsubE, am_upO, am_upS, am_stS, am_stO, am_tnn, am_brl, am_brg, am_bre, am_brn, am_brG, am_brL, am_st1, am_no2, am_st2, am_clr, and_self, true_and, and_true, true_or, or_true, List.length_cons, List.length_nil] <;> omega) ?_
  refine am_wp_ret rfl rfl ?_
  have e := bc_all ⟨x, hx⟩
  dsimp only at e
  rw [← e] at h
  exact h
end BC
