/-! sentence(): the two together -/
theorem cp_fault3 {X : Nat → Int} {I J K : Nat → Nat → Int} {k : Int} (h : cp X I) (c : txF I J k) (r : txR3 J K k) : cp X K := by
  obtain ⟨r1, r2, r3, r4, r5, r6⟩ := r
  have c2 : txR2 J (fun a => if a < 161 then K a else J a) k := by
    refine ⟨fun a a1 a2 a3 a4 a5 a6 => ?_, fun j hj => ?_, ?_, ?_, ?_, ?_⟩
    · dsimp only
      split
      · rename_i h
        exact r1 a h a1 a2 a3 a4 a5 a6
      · rfl
    · exact r2 j hj
    · exact r3
    · exact r4
    · exact r5
    · exact r6
  refine cp_rq (cp_fault h c c2) ⟨fun a ha => ?_, ⟨rfl, rfl, rfl, rfl, rfl, rfl, rfl⟩, Or.inl ⟨rfl, rfl⟩⟩
  dsimp only
  rw [if_pos (by omega)]
theorem cp_sentence {X : Nat → Int} {I J K : Nat → Nat → Int} {q : Nat} {S : SNS} (h : cp X I) (c : snC I J S) (r : snR J K q S) (hq : lw I 5 = (q : Int)) (hK : sK (0, 0, []) S) (hP : sP (0, 0, []) S) : cp X K := by
  obtain ⟨c1, c2, c3, c4, ⟨c5, c6⟩⟩ := c
  obtain ⟨r1, r2, r3, r4, r5, r6, r7, r8, r9⟩ := r
  obtain ⟨cc, ⟨k1, k2⟩, g, s, hh, ⟨i0, i1⟩, t, x, f, v, p⟩ := h
  have e124 : J 124 = I 124 := c1 124 (by omega)
  have e126 : J 126 = I 126 := c1 126 (by omega)
  have el : lw J = lw I := by unfold lw; rw [e124, e126]
  rw [el] at r6
  have elk : lw K = K 126 := by unfold lw; rw [r5]; rfl
  have eq : ∀ a, a < 161 → ¬ (a = 4 ∨ 16 ≤ a ∧ a ≤ 19 ∨ 50 ≤ a ∧ a ≤ 53 ∨ a = 55 ∨ 58 ≤ a ∧ a ≤ 60 ∨ a = 124 ∨ a = 126 ∨ a = 159) → K a = I a := fun a a0 ha => by rw [r1 a a0 (by omega) (by omega) (by omega), c1 a (by omega)]
  have cl : ∀ a, a < 124 → K a = J a := fun a ha => r1 a (by omega) (by omega) (by omega) (by omega)
  have im : ∀ k, k < 2 → cpI I k → cpI K k := by
    intro k hk ⟨a, b, d⟩
    unfold cpI kpW kpN
    rw [eq 133 (by omega) (by omega), eq 128 (by omega) (by omega), eq 132 (by omega) (by omega)]
    refine ⟨by rw [eq _ (by omega) (by omega)]; exact a, b, fun hk => ?_⟩
    obtain ⟨d1, d2, d3⟩ := d hk
    exact ⟨kit_fr d1 (fun a h1 h2 => eq a (by omega) (by omega)), cpG_fr d2 (eq _ (by omega) (by omega)) (eq _ (by omega) (by omega)), sen_fr d3 (eq _ (by omega) (by omega)) (eq _ (by omega) (by omega)) (eq _ (by omega) (by omega)) (eq _ (by omega) (by omega))⟩
  obtain ⟨G, g1, g2, g3⟩ := g
  obtain ⟨H, hh1, hh2, hh3⟩ := hh
  refine ⟨?_, ⟨?_, Or.inr r5⟩, ⟨G, pl_fr g1 (eq 14 (by omega) (by omega)) (eq 15 (by omega) (by omega)), ?_, ?_⟩, ?_, ⟨H, hsC_fr hh1 (fun a ha => eq a (by omega) (by omega)), hsR_fr hh2 (by rw [r2 22 (by omega), e124]) (eq 129 (by omega) (by omega)), fun j hj => ?_⟩, ⟨im 0 (by decide) i0, im 1 (by decide) i1⟩, ?_, ?_, ?_, ?_, ?_⟩
  · unfold cpC at cc ⊢; rw [eq 1 (by omega) (by omega), eq 2 (by omega) (by omega), eq 57 (by omega) (by omega)]; exact cc
  · rw [elk, eq 130 (by omega) (by omega)]
    exact kit_row (kit_fr k1 (fun a h1 h2 => eq a (by omega) (by omega))) (fun j hj => r6 j (by omega))
  · have gl := g1.2.1
    have g2 := rf_lw k2 g2
    unfold rf pw at g2 ⊢
    refine ⟨by rw [r6 _ (by omega)]; exact g2.1, fun k hk => ?_⟩
    rw [r6 _ (by omega), r6 _ (by omega), r6 _ (by omega), r6 _ (by omega), r6 _ (by omega)]
    exact g2.2 k hk
  · rw [elk]; exact gkt_row g3 (r6 0 (by omega)) (r6 5 (by omega))
  · rw [elk]
    unfold sK at hK
    dsimp only [List.length_nil] at hK
    have pl := hP.2.1
    have c16 : K 16 = J 16 := cl 16 (by decide)
    have c17 : K 17 = J 17 := cl 17 (by decide)
    have c18 : K 18 = J 18 := cl 18 (by decide)
    have c19 : K 19 = J 19 := cl 19 (by decide)
    refine Or.inr ⟨r7, S.2.2.length, by dsimp only [List.length_nil] at pl; omega, by omega, by rw [c16]; exact c5, r8, ?_, fun i hi => ?_⟩
    · rw [c17, sx_stk_cg (c := stf S.2.2) (fun i hi => (c6 i hi).1), hP.2.2]
      rfl
    · rw [c17, c18, c19, r6 5 (by omega), hq]
      exact sx_node_cg (r9 i hi) (fun j hj => (c6 j (by omega)).1) (c6 i hi).2.1 (c6 i hi).2.2
  · rw [elk]; exact gkt_row (hh3 j hj) (r6 0 (by omega)) (r6 5 (by omega))
  · exact ⟨0, by decide, by rw [cl 55 (by decide), c4]; rfl, by rw [r3]; rfl, fun i hi => absurd hi (Nat.not_lt_zero i)⟩
  · unfold cpX at x ⊢
    rw [cl 4 (by decide), c2 15 (by decide), r2 29 (by omega), e124, eq 135 (by omega) (by omega), eq 89 (by omega) (by omega)]
    exact x
  · unfold cpF at f ⊢
    rw [cl 4 (by decide), c3, r4, c2 17 (by decide), r2 26 (by omega), e124]
    exact ⟨rfl, f.2⟩
  · unfold cpV at v ⊢
    rw [eq 80 (by omega) (by omega), r2 49 (by omega), e124, eq 85 (by omega) (by omega), eq 153 (by omega) (by omega)]
    exact v
  · unfold cpP at p ⊢
    rw [eq 86 (by omega) (by omega), r2 53 (by omega), e124, eq 88 (by omega) (by omega), eq 156 (by omega) (by omega)]
    exact p
theorem sTxt_P {T : Nat → Tk} {NM : Nat → List Nat} {n : Nat} {S : SNS} (h : sTxt T NM n = .inr S) : sP (0, 0, []) S := by
  unfold sTxt at h
  cases hg : sSeq (sSeq (sOne T NM n 8) 15 T) 16 T (0, 0, []) with
  | inl y => rw [hg] at h; cases h
  | inr Z =>
    have k := sSeq_P (Or.inr rfl) (sSeq_P (Or.inl rfl) (sOne_P 8)) (0, 0, []) Z hg
    rw [hg] at h
    dsimp only at h
    split at h
    · cases h; exact k
    · cases h
