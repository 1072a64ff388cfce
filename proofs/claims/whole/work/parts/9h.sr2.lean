/-! A SENTENCE's steps as a stack -/
def stf (L : List SnP) : Nat → Int := fun i => (tS L i).1
def stg (L : List SnP) : Nat → Int := fun i => (tS L i).2.1
def stx (L : List SnP) : Nat → Int := fun i => (tS L i).2.2
theorem tS_pre {L M : List SnP} {k : Nat} (h : k < L.length) : tS (L ++ M) k = tS L k := by
  unfold tS; simp only [List.getD_eq_getElem?_getD, List.getElem?_append_left h]
theorem stk_pre {L M : List SnP} {k : Nat} (h : k ≤ L.length) : sx_stk (stf (L ++ M)) k = sx_stk (stf L) k := sx_stk_cg (fun i hi => by unfold stf; rw [tS_pre (by omega)])
theorem stk_app {L : List SnP} {g : SnP} : sx_stk (stf (L ++ [g])) (L ++ [g]).length = if g.1 = 12 then L.length :: (sx_stk (stf L) L.length).drop 1 else if g.1 = 15 ∨ g.1 = 16 then L.length :: (sx_stk (stf L) L.length).drop 2 else L.length :: sx_stk (stf L) L.length := by
  rw [List.length_append, List.length_singleton]
  conv => lhs; unfold sx_stk
  have e : stf (L ++ [g]) L.length = g.1 := by unfold stf; rw [tS_app2]
  rw [e, stk_pre (Nat.le_refl _)]
def sP (S S' : SNS) : Prop := (∃ M, S'.2.2 = S.2.2 ++ M) ∧ S.2.2.length < S'.2.2.length ∧ sx_stk (stf S'.2.2) S'.2.2.length = (S'.2.2.length - 1) :: sx_stk (stf S.2.2) S.2.2.length
theorem sP_leaf {S S' : SNS} {g : SnP} (h : S'.2.2 = S.2.2 ++ [g]) (h1 : g.1 ≠ 12) (h2 : ¬ (g.1 = 15 ∨ g.1 = 16)) : sP S S' := by
  refine ⟨⟨_, h⟩, by rw [h, List.length_append, List.length_singleton]; omega, ?_⟩
  rw [h, stk_app, if_neg h1, if_neg h2, List.length_append, List.length_singleton]
  rfl
theorem sP_not {S S' S2 : SNS} {g : SnP} (h : sP S S') (e : S2.2.2 = S'.2.2 ++ [g]) (h1 : g.1 = 12) : sP S S2 := by
  obtain ⟨⟨M, a⟩, l, b⟩ := h
  refine ⟨⟨M ++ [g], by rw [e, a, List.append_assoc]⟩, by rw [e, List.length_append, List.length_singleton]; omega, ?_⟩
  rw [e, stk_app, if_pos h1, b, List.length_append, List.length_singleton]
  rfl
theorem sP_two {A S S' S2 : SNS} {g : SnP} (h0 : sP A S) (h : sP S S') (e : S2.2.2 = S'.2.2 ++ [g]) (h1 : g.1 = 15 ∨ g.1 = 16) : sP A S2 := by
  obtain ⟨⟨M0, a0⟩, l0, b0⟩ := h0
  obtain ⟨⟨M, a⟩, l, b⟩ := h
  refine ⟨⟨M0 ++ (M ++ [g]), by rw [e, a, a0, List.append_assoc, List.append_assoc]⟩, by rw [e, List.length_append, List.length_singleton]; omega, ?_⟩
  rw [e, stk_app, if_neg (by omega), if_pos h1, b, b0, List.length_append, List.length_singleton]
  rfl
theorem sP_j {S S' : SNS} {j o : Nat} (h : sP (j, o, S.2.2) S') : sP S S' := h
theorem sP_j' {S S' : SNS} {j : Nat} (h : sP S S') : sP S (j, S'.2) := h
theorem sLp_P {f : SNS → SNR} {w : Int} {T : Nat → Tk} {A Z : SNS} (hw : w = 15 ∨ w = 16) (hf : ∀ S S', f S = .inr S' → sP S S') : ∀ (c : Nat) (S : SNS), sP A S → sLp f w T c S = .inr Z → sP A Z
  | 0, S, hs, h => by cases h; exact hs
  | c + 1, S, hs, h => by
    by_cases ho : owC (T S.1) = w
    · rw [sLp_y ho] at h
      cases hg : f (S.1 + 1, S.2) with
      | inl e => rw [hg] at h; cases h
      | inr S' =>
        rw [hg] at h
        have k : sP S S' := hf (S.1 + 1, S.2) _ hg
        exact sLp_P hw hf c _ (sP_two (S2 := (S'.1, S'.2.1, S'.2.2 ++ [(w, 0, 0)])) hs k rfl hw) h
    · rw [sLp_n (Or.inr ho)] at h; cases h; exact hs
theorem sSeq_P {f : SNS → SNR} {w : Int} {T : Nat → Tk} (hw : w = 15 ∨ w = 16) (hf : ∀ S S', f S = .inr S' → sP S S') : ∀ S S', sSeq f w T S = .inr S' → sP S S' := fun S S' h => by
  unfold sSeq at h
  cases hg : f S with
  | inl e => rw [hg] at h; cases h
  | inr Z => rw [hg] at h; exact sLp_P hw hf 20 Z (hf _ _ hg) h
theorem sLeaf_P {T : Nat → Tk} {NM : Nat → List Nat} {n : Nat} {w : Int} {S S' : SNS} (hw : 7 ≤ w ∧ w ≤ 14 ∧ w ≠ 12) (h : sLeaf T NM n w S = .inr S') : sP S S' := by
  unfold sLeaf at h
  split at h
  · cases h; exact sP_leaf (g := (w, 0, 0)) rfl (by dsimp only; omega) (by dsimp only; omega)
  · split at h
    · split at h
      · cases h
      · split at h
        · cases h
        · cases h; exact sP_leaf (g := (14, 0, _)) rfl (by dsimp only; omega) (by dsimp only; omega)
    · split at h
      · cases h
      · split at h
        · cases h
        · cases h; exact sP_leaf (g := (w, _, _)) rfl (by dsimp only; omega) (by dsimp only; omega)
theorem sOne_P {T : Nat → Tk} {NM : Nat → List Nat} {n : Nat} : ∀ (e : Nat) (S S' : SNS), sOne T NM n e S = .inr S' → sP S S'
  | 0, S, S', h => by
    unfold sOne at h
    split at h <;> cases h
  | e + 1, S, S', h => by
    rw [sOne_s] at h
    unfold sOneB at h
    split at h
    · cases h
    · rename_i hbg
      split at h
      · cases h
      · split at h
        · cases hg : sSeq (sSeq (sOne T NM n e) 15 T) 16 T (S.1 + 1, S.2.1 + 1, S.2.2) with
          | inl x => rw [hg] at h; cases h
          | inr Z =>
            have k := sSeq_P (Or.inr rfl) (sSeq_P (Or.inl rfl) (sOne_P e)) _ _ hg
            rw [hg] at h
            unfold sCls at h
            dsimp only at h
            split at h
            · cases h; exact k
            · cases h
        · rename_i hns
          split at h
          · cases hg : sOne T NM n e (S.1 + 1, S.2.1 + 1, S.2.2) with
            | inl x => rw [hg] at h; cases h
            | inr Z =>
              have k := sOne_P e _ _ hg
              rw [hg] at h
              cases h
              exact sP_not (g := (12, 0, 0)) k rfl rfl
          · rename_i h12
            have hb : sBgn T S.1 := Classical.not_not.mp hbg
            have hb2 : 7 ≤ owC (T S.1) ∧ owC (T S.1) ≤ 14 := by
              rcases hb with hx | hx
              · exact absurd hx hns
              · exact hx
            exact sP_j (sLeaf_P (S := (S.1 + 1, S.2.1 + 1, S.2.2)) ⟨hb2.1, hb2.2, h12⟩ h)
/-- the reference's nodes are the steps -/
def ndR (I : Nat → Nat → Int) (q : Nat) (S : SNS) : Prop := I 124 58 = (S.2.2.length : Int) ∧ I 124 59 = (S.2.1 : Int) ∧ ∀ i, i < S.2.2.length → sx_node (stf S.2.2) (stg S.2.2) (stx S.2.2) (q : Int) (I 159) i
theorem nd_app {D D' : Nat → Int} {q : Nat} {L : List SnP} {g : SnP} (h : ∀ i, i < L.length → sx_node (stf L) (stg L) (stx L) (q : Int) D i) (e : ∀ j, j < 4 * L.length → D' j = D j) (hn : sx_node (stf (L ++ [g])) (stg (L ++ [g])) (stx (L ++ [g])) (q : Int) D' L.length) : ∀ i, i < (L ++ [g]).length → sx_node (stf (L ++ [g])) (stg (L ++ [g])) (stx (L ++ [g])) (q : Int) D' i := fun i hi => by
  rw [List.length_append, List.length_singleton] at hi
  by_cases hil : i < L.length
  · have t := h i hil
    unfold sx_node at t ⊢
    have e0 : stf (L ++ [g]) i = stf L i := by unfold stf; rw [tS_app hil]
    have e1 : stg (L ++ [g]) i = stg L i := by unfold stg; rw [tS_app hil]
    have e2 : stx (L ++ [g]) i = stx L i := by unfold stx; rw [tS_app hil]
    rw [e0, e1, e2, stk_pre (by omega), e (4 * i) (by omega), e (4 * i + 1) (by omega), e (4 * i + 2) (by omega), e (4 * i + 3) (by omega)]
    exact t
  · have : i = L.length := by omega
    rw [this]; exact hn
