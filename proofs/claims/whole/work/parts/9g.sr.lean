/-! A SENTENCE's text by the reference: the word at hand -/
def oneW (t : Tk) : Int := if 7 ≤ owC t ∧ owC t ≤ 14 then (rpi (owC t).toNat : Int) else -1
def wl8 (k : Nat) : Nat := am_nth 0 [12, 5, 13, 14, 8, 9, 15, 16] k
theorem wl8_lt : ∀ k : Fin 8, wl8 k.val < 17 ∧ 7 ≤ rpm (wl8 k.val) ∧ rpm (wl8 k.val) ≤ 14 ∧ rpi (rpm (wl8 k.val)) = wl8 k.val := by decide +kernel
theorem wl8_all : ∀ w : Fin 17, 7 ≤ w.val → w.val ≤ 14 → ∃ k : Fin 8, rpm (wl8 k.val) = w.val := by decide +kernel
theorem wd_mk {sh : Nat → Nat × Nat} {R : Nat → Nat → Nat} {m : Nat} {p : Nat × Nat} (hw : wd sh R) (hm : 161 ≤ m) : wd (am_sh1 sh m p) (am_zero R m 0) := by
  refine ⟨fun a a1 a2 => ?_, fun a k a1 a2 => ?_⟩
  · rw [← hw.1 a a1 a2]
    unfold am_sh1
    rw [if_neg (by omega)]
  · rw [← hw.2 a k a1 a2]
    unfold am_zero
    rw [if_neg (by omega)]
def mo (sh : Nat → Nat × Nat) (R : Nat → Nat → Nat) (sh' : Nat → Nat × Nat) (R' : Nat → Nat → Nat) : Prop := (∀ a, a < 161 → sh' a = sh a) ∧ ∀ a, a < 161 → R' a = R a
theorem mo_rf {sh : Nat → Nat × Nat} {R : Nat → Nat → Nat} : mo sh R sh R := ⟨fun _ _ => rfl, fun _ _ => rfl⟩
theorem mo_tr {sh sh1 sh2 : Nat → Nat × Nat} {R R1 R2 : Nat → Nat → Nat} (h : mo sh R sh1 R1) (g : mo sh1 R1 sh2 R2) : mo sh R sh2 R2 := ⟨fun a ha => (g.1 a ha).trans (h.1 a ha), fun a ha => (g.2 a ha).trans (h.2 a ha)⟩
theorem mo_wd {sh sh1 : Nat → Nat × Nat} {R R1 : Nat → Nat → Nat} (h : mo sh R sh1 R1) (hw : wd sh R) : wd sh1 R1 := ⟨fun a a1 a2 => by rw [h.1 a a2]; exact hw.1 a a1 a2, fun a k a1 a2 => by rw [h.2 a a2]; exact hw.2 a k a1 a2⟩
section SR
variable {m sl : Nat} {sh : Nat → Nat × Nat} {I : Nat → Nat → Int} {R : Nat → Nat → Nat} {Q : am_R → am_M → Prop} {d : Nat} {b : Nat → Nat} {n lim : Nat} {j : Nat}
theorem w_M_oneAtHand (hw : wd sh R) (hm : 161 ≤ m) (hc : rpR I b n lim j) (h : ∀ sh' R' J, mo sh R sh' R' → (∀ a, a ≠ m → J a = I a) → Q (am_yi (oneW (lxJ b n lim j))) (m + 1, sl + 8, sh', J, R')) : am_wp (d + 3) 312 0 [some (.inr (.inr (124))), none, none] [] (m, sl, sh, I, R) Q := by
  have hw' : wd (am_sh1 sh m (am_kd ArrayType.int, Int.toNat 8)) (am_zero R m 0) := wd_mk hw hm
  have hsm : am_sh1 sh m (am_kd ArrayType.int, Int.toNat 8) m = (32, 8) := by unfold am_sh1; rw [if_pos rfl]; rfl
  refine am_wp_go rfl (by simp (disch := omega) only [hsm, am_addE, am_subE, am_mulE, am_laddE, am_lsubE, am_upO, am_upS, am_stS, am_stO, am_tnn, am_brl, am_brg, am_bre, am_brn, am_brG, am_brL, am_st1, am_no2, am_st2, am_clr, and_self, true_and, and_true, true_or, or_true, List.length_cons, List.length_nil] <;> omega) ?_
  try simp (disch := omega) only [hsm, am_addE, am_subE, am_mulE, am_laddE, am_lsubE, am_upO, am_upS, am_stS, am_stO, am_tnn, am_brl, am_brg, am_bre, am_brn, am_brG, am_brL, am_st1, am_no2, am_st2, am_clr]
  have hR : ∀ k, k < 8 → am_up (am_up (am_up (am_up (am_up (am_up (am_up (am_up (am_zero I m 0) m (Int.toNat 0) 12) m (Int.toNat 1) 5) m (Int.toNat 2) 13) m (Int.toNat 3) 14) m (Int.toNat 4) 8) m (Int.toNat 5) 9) m (Int.toNat 6) 15) m (Int.toNat 7) 16 m k = (wl8 k : Int) := fun k hk => by
    simp only [am_upS]
    rcases (show k = 0 ∨ k = 1 ∨ k = 2 ∨ k = 3 ∨ k = 4 ∨ k = 5 ∨ k = 6 ∨ k = 7 by omega) with rfl | rfl | rfl | rfl | rfl | rfl | rfl | rfl <;> rfl
  have hF : ∀ a, a ≠ m → am_up (am_up (am_up (am_up (am_up (am_up (am_up (am_up (am_zero I m 0) m (Int.toNat 0) 12) m (Int.toNat 1) 5) m (Int.toNat 2) 13) m (Int.toNat 3) 14) m (Int.toNat 4) 8) m (Int.toNat 5) 9) m (Int.toNat 6) 15) m (Int.toNat 7) 16 a = I a := fun a ha => by
    simp (disch := exact ha) only [am_upO]
    funext k
    unfold am_zero
    rw [if_neg ha]
  generalize am_up (am_up (am_up (am_up (am_up (am_up (am_up (am_up (am_zero I m 0) m (Int.toNat 0) 12) m (Int.toNat 1) 5) m (Int.toNat 2) 13) m (Int.toNat 3) 14) m (Int.toNat 4) 8) m (Int.toNat 5) 9) m (Int.toNat 6) 15) m (Int.toNat 7) 16 = J at hR hF ⊢
  have hc' : rpR J b n lim j := by
    unfold rpR rTk at hc ⊢
    rw [hF 124 (by omega), hF 125 (by omega)]; exact hc
  have hmo : mo sh R (am_sh1 sh m (am_kd ArrayType.int, Int.toNat 8)) (am_zero R m 0) := ⟨fun a ha => by unfold am_sh1; rw [if_neg (by omega)], fun a ha => by funext k; unfold am_zero; rw [if_neg (by omega)]⟩
  have h := h _ _ J hmo hF
  clear hmo
  rw [show sl + 8 = sl + Int.toNat 8 from rfl] at h
  generalize am_sh1 sh m (am_kd ArrayType.int, Int.toNat 8) = sh' at *
  generalize am_zero R m 0 = R' at *
  have hw := hw'
  have LP : ∀ k : Nat, k ≤ 8 → (∀ i, i < k → owC (lxJ b n lim j) ≠ (rpm (wl8 i) : Int)) → am_wp (d + 3) 312 48 [some (Sum.inr (Sum.inr 124)), some (Sum.inr (Sum.inr m)), some (Sum.inl (k : Int))] [] (m + 1, sl + Int.toNat 8, sh', J, R') Q := by
    refine am_lp 8 (fun k hk ih hno => ?_)
    refine am_wp_go rfl (by simp (disch := omega) only [hsm, am_addE, am_subE, am_mulE, am_laddE, am_lsubE, am_upO, am_upS, am_stS, am_stO, am_tnn, am_brl, am_brg, am_bre, am_brn, am_brG, am_brL, am_st1, am_no2, am_st2, am_clr, and_self, true_and, and_true, true_or, or_true, List.length_cons, List.length_nil] <;> omega) ?_
    try simp (disch := omega) only [hsm, am_addE, am_subE, am_mulE, am_laddE, am_lsubE, am_upO, am_upS, am_stS, am_stO, am_tnn, am_brl, am_brg, am_bre, am_brn, am_brG, am_brL, am_st1, am_no2, am_st2, am_clr]
    refine am_wp_br (fun b51 => ?_) (fun b51 => ?_)
    · refine am_wp_go rfl (by simp (disch := omega) only [hsm, am_addE, am_subE, am_mulE, am_laddE, am_lsubE, am_upO, am_upS, am_stS, am_stO, am_tnn, am_brl, am_brg, am_bre, am_brn, am_brG, am_brL, am_st1, am_no2, am_st2, am_clr, and_self, true_and, and_true, true_or, or_true, List.length_cons, List.length_nil] <;> omega) ?_
      try simp (disch := omega) only [hsm, am_addE, am_subE, am_mulE, am_laddE, am_lsubE, am_upO, am_upS, am_stS, am_stO, am_tnn, am_brl, am_brg, am_bre, am_brn, am_brG, am_brL, am_st1, am_no2, am_st2, am_clr]
      refine am_wp_ret rfl rfl ?_
      have e : oneW (lxJ b n lim j) = -1 := by
        unfold oneW
        rw [if_neg]
        intro hx
        obtain ⟨i, hi⟩ := wl8_all ⟨(owC (lxJ b n lim j)).toNat, by omega⟩ (by dsimp only; omega) (by dsimp only; omega)
        dsimp only at hi
        exact hno i.val (by have := i.isLt; omega) (by omega)
      rw [e] at h
      exact h
    · have hk8 : k < 8 := by omega
      have e1 := hR k hk8
      obtain ⟨w1, w2, w3, w4⟩ := wl8_lt ⟨k, hk8⟩
      dsimp only at w1 w2 w3 w4
      refine am_wp_go rfl (by simp (disch := omega) only [hsm, e1, am_b0, am_addE, am_subE, am_mulE, am_laddE, am_lsubE, am_upO, am_upS, am_stS, am_stO, am_tnn, am_brl, am_brg, am_bre, am_brn, am_brG, am_brL, am_st1, am_no2, am_st2, am_clr, and_self, true_and, and_true, true_or, or_true, List.length_cons, List.length_nil] <;> omega) ?_
      try simp (disch := omega) only [hsm, e1, am_b0, am_addE, am_subE, am_mulE, am_laddE, am_lsubE, am_upO, am_upS, am_stS, am_stO, am_tnn, am_brl, am_brg, am_bre, am_brn, am_brG, am_brL, am_st1, am_no2, am_st2, am_clr]
      refine am_wp_cc rfl rfl rfl (congrArg Prod.fst (s124 hw)) (w_M_isWord' (k := wl8 k) (y := (rpm (wl8 k) : Int)) rfl rfl hw' w1 hc' ⟨_, rfl, ?_⟩)
      refine am_wp_go rfl (by simp (disch := omega) only [hsm, e1, am_b0, am_addE, am_subE, am_mulE, am_laddE, am_lsubE, am_upO, am_upS, am_stS, am_stO, am_tnn, am_brl, am_brg, am_bre, am_brn, am_brG, am_brL, am_st1, am_no2, am_st2, am_clr, and_self, true_and, and_true, true_or, or_true, List.length_cons, List.length_nil] <;> omega) ?_
      try simp (disch := omega) only [hsm, e1, am_b0, am_addE, am_subE, am_mulE, am_laddE, am_lsubE, am_upO, am_upS, am_stS, am_stO, am_tnn, am_brl, am_brg, am_bre, am_brn, am_brG, am_brL, am_st1, am_no2, am_st2, am_clr]
      refine am_wp_br (fun b61 => ?_) (fun b61 => ?_)
      · have ih := ih hk8 (fun i hi => by
          by_cases hik : i = k
          · rw [hik]; exact b61
          · exact hno i (by omega))
        refine am_wp_go rfl (by simp (disch := omega) only [am_b0, am_addE, am_subE, am_mulE, am_laddE, am_lsubE, am_upO, am_upS, am_stS, am_stO, am_tnn, am_brl, am_brg, am_bre, am_brn, am_brG, am_brL, am_st1, am_no2, am_st2, am_clr, and_self, true_and, and_true, true_or, or_true, List.length_cons, List.length_nil] <;> omega) ?_
        try simp (disch := omega) only [am_b0, am_addE, am_subE, am_mulE, am_laddE, am_lsubE, am_upO, am_upS, am_stS, am_stO, am_tnn, am_brl, am_brg, am_bre, am_brn, am_brG, am_brL, am_st1, am_no2, am_st2, am_clr]
        exact am_wp_ls ih rfl
      · have e : oneW (lxJ b n lim j) = (wl8 k : Int) := by
          have b61 := Classical.not_not.mp b61
          unfold oneW
          rw [if_pos (by omega), b61, Int.toNat_natCast, w4]
        rw [e] at h
        refine am_wp_go rfl (by simp (disch := omega) only [hsm, e1, am_b0, am_addE, am_subE, am_mulE, am_laddE, am_lsubE, am_upO, am_upS, am_stS, am_stO, am_tnn, am_brl, am_brg, am_bre, am_brn, am_brG, am_brL, am_st1, am_no2, am_st2, am_clr, and_self, true_and, and_true, true_or, or_true, List.length_cons, List.length_nil] <;> omega) ?_
        try simp (disch := omega) only [hsm, e1, am_b0, am_addE, am_subE, am_mulE, am_laddE, am_lsubE, am_upO, am_upS, am_stS, am_stO, am_tnn, am_brl, am_brg, am_bre, am_brn, am_brG, am_brL, am_st1, am_no2, am_st2, am_clr]
        refine am_wp_ret rfl rfl ?_
        exact h
  exact am_wp_ls (LP 0 (by decide) (fun i hi => absurd hi (Nat.not_lt_zero i))) rfl
end SR
