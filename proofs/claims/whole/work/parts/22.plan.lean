/-! A PLAN'S OWN METHODS -/
section PLAN
variable {m sl : Nat} {sh : Nat → Nat × Nat} {I : Nat → Nat → Int} {R : Nat → Nat → Nat} {Q : am_R → am_M → Prop} {d p q : Nat}
/-- p is a Plan, q its row -/
def pl_is (sh : Nat → Nat × Nat) (R : Nat → Nat → Nat) (p q : Nat) : Prop := sh p = (5, 2) ∧ R p 0 = q ∧ sh q = (32, 400) ∧ 4 ≤ q
def pl_bits (I : Nat → Nat → Int) (p q : Nat) (k : Int) : Int := if 0 ≤ k ∧ k < I p 1 then I q k.toNat else 0
theorem w_bitsOf (hp : pl_is sh R p q) (hn : I p 1 ≤ 400) {k : Int} (h : Q (.inl (some (.inl (pl_bits I p q k)))) (m, sl, sh, I, R)) : am_wp d 61 0 [some (.inr (.inr p)), some (.inl k)] [] (m, sl, sh, I, R) Q := by
  obtain ⟨h1, h2, h3, h4⟩ := hp
  refine am_wp_run 2 _ _ _ _ rfl ⟨trivial, trivial, trivial⟩ ?_
  refine am_wp_if (fun hk => ?_) (fun hk => ?_)
  · refine am_wp_run 1 _ _ _ _ rfl ⟨trivial, trivial⟩ ?_
    refine am_wp_ret rfl rfl ?_
    rw [show pl_bits I p q k = 0 from if_neg (by omega)] at h
    exact h
  · refine am_wp_run 4 _ _ _ _ rfl ⟨trivial, trivial, by rw [h1], trivial, trivial⟩ ?_
    refine am_wp_if (fun hk2 => ?_) (fun hk2 => ?_)
    · refine am_wp_run 1 _ _ _ _ rfl ⟨trivial, trivial⟩ ?_
      refine am_wp_ret rfl rfl ?_
      rw [show pl_bits I p q k = 0 from if_neg (by omega)] at h
      exact h
    · refine am_wp_run 5 _ _ _ _ rfl ⟨trivial, by rw [h1], trivial, ?_, trivial, trivial⟩ ?_
      · rw [h2, h3]; exact ⟨rfl, by omega, by show k < 400; omega⟩
      refine am_wp_ret rfl rfl ?_
      rw [h2]
      rw [show pl_bits I p q k = I q k.toNat from if_pos (by omega)] at h
      exact h
end PLAN
