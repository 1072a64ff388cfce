/-! MASTERS: what the run leaves is a PLAN -/
theorem msR_ok {W : Nat → Int} (hk : wk W) : ∀ c x S, msK W x S → ∃ y, msK W y (msR W c x S)
  | 0, x, S, h => ⟨x, h⟩
  | c + 1, x, S, h => by
    unfold msR
    split
    · exact ⟨x, h⟩
    · rename_i hn
      exact msR_ok hk c (x + 1) _ (ms_min hk h hn)
theorem msK_0 {W : Nat → Int} (hk : wk W) (o : Nat → Int) : msK W 0 (0, fun _ => 0, o, []) := by
  have t0 : preS (ndW W) (2 * nS W) ≤ 320 := by
    have a2 := preS_fsum hk (nS W) (Nat.le_refl _)
    have a3 : am_fsum (fun s => W (8 + 3 * s) + W (8 + 3 * s + 1)) (nS W) = totW W 0 + totW W 1 := allW_eq
    have a4 := totW_le hk (u := 0) (by decide)
    have a5 := totW_le hk (u := 1) (by decide)
    omega
  refine ⟨Nat.two_pow_pos _, ?_, ?_, fun g hg => absurd hg (by simp)⟩
  · show 0 = msCt 0 (2 * nS W)
    unfold msCt
    rw [preS_cg (k := fun _ => 0) (fun i hi => by rw [Nat.zero_testBit, if_neg (by decide)])]
    generalize 2 * nS W = n
    induction n with
    | zero => rfl
    | succ n ih => unfold preS; omega
  · show 0 + msRm W 0 (2 * nS W) + (0 - 0) + (0 - 0) ≤ 320
    unfold msRm
    rw [preS_cg (k := ndW W) (fun i hi => by rw [Nat.zero_testBit, if_neg (by decide)])]
    omega
theorem msF_ok {W : Nat → Int} (hk : wk W) (o : Nat → Int) : gok (msF W o).2.2.2 ∧ gkt W (msF W o).2.2.2 := by
  obtain ⟨y, k1, k2, k3, k4⟩ := msR_ok hk 1000 0 _ (msK_0 hk o)
  have n1 := wk_nS hk
  have l2 := msCt_le (g := (msF W o).1) (n := 2 * nS W)
  have k2 : (msF W o).2.2.2.length = msCt (msF W o).1 (2 * nS W) := k2
  refine ⟨⟨by omega, fun k hk2 => (gs_all k4 hk2).1⟩, fun k hk2 => ?_⟩
  have := gs_all k4 hk2
  exact ⟨by have h := this.2; unfold gS; rw [n1.1]; exact h, this.1.2.2.2.2.2.2.2.1⟩
