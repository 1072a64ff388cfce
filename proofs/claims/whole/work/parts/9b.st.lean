/-! A SENTENCE's text: abstractly; the class's leaves -/
abbrev SnP : Type := Int × Int × Int
abbrev SNS : Type := Nat × Nat × List SnP
abbrev SNR : Type := (Nat × Nat) ⊕ SNS
def sLeaf (T : Nat → Tk) (NM : Nat → List Nat) (n : Nat) (w : Int) (S : SNS) : SNR :=
  if w = 7 ∨ w = 13 then .inr (S.1, S.2.1, S.2.2 ++ [(w, 0, 0)])
  else if w = 14 then (if cK (T S.1) ≠ 2 then .inl (1, plT T S.1) else if kFd NM 0 n (T S.1).2.2.1 = -1 then .inl (3, plT T S.1) else .inr (S.1 + 1, S.2.1, S.2.2 ++ [(14, 0, kFd NM 0 n (T S.1).2.2.1)]))
  else if ¬ (isSg (T S.1) 60 ∨ isSg (T S.1) 61 ∨ isSg (T S.1) 62) then .inl (1, plT T S.1)
  else if nmF (T (S.1 + 1)) 0 999 ≠ 0 then .inl (nmF (T (S.1 + 1)) 0 999, plT T (S.1 + 1))
  else .inr (S.1 + 2, S.2.1, S.2.2 ++ [(w, ((T S.1).2.2.2 : Int), ((T (S.1 + 1)).2.2.2 : Int))])
def sLp (f : SNS → SNR) (w : Int) (T : Nat → Tk) : Nat → SNS → SNR
  | 0, S => .inr S
  | c + 1, S => if owC (T S.1) = w then (match f (S.1 + 1, S.2) with
    | .inl e => .inl e
    | .inr S' => sLp f w T c (S'.1, S'.2.1, S'.2.2 ++ [(w, 0, 0)])) else .inr S
def sSeq (f : SNS → SNR) (w : Int) (T : Nat → Tk) (S : SNS) : SNR := match f S with
  | .inl e => .inl e
  | .inr S' => sLp f w T 20 S'
abbrev sBgn (T : Nat → Tk) (j : Nat) : Prop := isSg (T j) 40 ∨ 7 ≤ owC (T j) ∧ owC (T j) ≤ 14
def sCls (T : Nat → Tk) (r : SNR) : SNR := match r with
  | .inl e => .inl e
  | .inr S => if isSg (T S.1) 41 then .inr (S.1 + 1, S.2) else .inl (1, plT T S.1)
def sNot (r : SNR) : SNR := match r with
  | .inl e => .inl e
  | .inr S => .inr (S.1, S.2.1, S.2.2 ++ [(12, 0, 0)])
def sOne (T : Nat → Tk) (NM : Nat → List Nat) (n : Nat) : Nat → SNS → SNR
  | 0, S => if ¬ sBgn T S.1 then .inl (1, plT T S.1) else .inl (4, plT T S.1)
  | e + 1, S => if ¬ sBgn T S.1 then .inl (1, plT T S.1) else if 20 ≤ S.2.1 then .inl (4, plT T S.1)
    else if isSg (T S.1) 40 then sCls T (sSeq (sSeq (sOne T NM n e) 15 T) 16 T (S.1 + 1, S.2.1 + 1, S.2.2))
    else if owC (T S.1) = 12 then sNot (sOne T NM n e (S.1 + 1, S.2.1 + 1, S.2.2))
    else sLeaf T NM n (owC (T S.1)) (S.1 + 1, S.2.1 + 1, S.2.2)
/-- how many steps and ones more -/
def sK (S S' : SNS) : Prop := S'.2.2.length + 2 * S.2.1 + 1 ≤ S.2.2.length + 2 * S'.2.1 ∧ S.2.1 < S'.2.1 ∧ S'.2.1 ≤ 20
theorem sLp_K {f : SNS → SNR} {w : Int} {T : Nat → Tk} {A Z : SNS} (hf : ∀ S S', S.2.1 ≤ 20 → f S = .inr S' → sK S S') : ∀ (c : Nat) (S : SNS), sK A S → sLp f w T c S = .inr Z → sK A Z
  | 0, S, hs, h => by cases h; exact hs
  | c + 1, S, hs, h => by
    unfold sLp at h
    split at h
    · cases hg : f (S.1 + 1, S.2) with
      | inl e => rw [hg] at h; cases h
      | inr S' =>
        rw [hg] at h
        have k := hf (S.1 + 1, S.2) _ hs.2.2 hg
        refine sLp_K hf c _ ?_ h
        unfold sK at k hs ⊢
        dsimp only at k ⊢
        rw [List.length_append, List.length_singleton]
        omega
    · cases h; exact hs
theorem sSeq_K {f : SNS → SNR} {w : Int} {T : Nat → Tk} (hf : ∀ S S', S.2.1 ≤ 20 → f S = .inr S' → sK S S') : ∀ S S', S.2.1 ≤ 20 → sSeq f w T S = .inr S' → sK S S' := fun S S' h0 h => by
  unfold sSeq at h
  cases hg : f S with
  | inl e => rw [hg] at h; cases h
  | inr Z =>
    rw [hg] at h
    exact sLp_K hf 20 Z (hf _ _ h0 hg) h
theorem sLeaf_K {T : Nat → Tk} {NM : Nat → List Nat} {n : Nat} {w : Int} {S S' : SNS} (h : sLeaf T NM n w S = .inr S') : S'.2.2.length = S.2.2.length + 1 ∧ S'.2.1 = S.2.1 := by
  unfold sLeaf at h
  split at h
  · cases h; exact ⟨by dsimp only; rw [List.length_append]; rfl, rfl⟩
  · split at h
    · split at h
      · cases h
      · split at h
        · cases h
        · cases h; exact ⟨by dsimp only; rw [List.length_append]; rfl, rfl⟩
    · split at h
      · cases h
      · split at h
        · cases h
        · cases h; exact ⟨by dsimp only; rw [List.length_append]; rfl, rfl⟩
theorem sOne_K {T : Nat → Tk} {NM : Nat → List Nat} {n : Nat} : ∀ (e : Nat) (S S' : SNS), S.2.1 ≤ 20 → sOne T NM n e S = .inr S' → sK S S'
  | 0, S, S', h0, h => by
    unfold sOne at h
    split at h <;> cases h
  | e + 1, S, S', h0, h => by
    unfold sOne at h
    split at h
    · cases h
    · split at h
      · cases h
      · rename_i h20
        split at h
        · cases hg : sSeq (sSeq (sOne T NM n e) 15 T) 16 T (S.1 + 1, S.2.1 + 1, S.2.2) with
          | inl x => rw [hg] at h; cases h
          | inr Z =>
            have k := sSeq_K (sSeq_K (sOne_K e)) _ _ (by dsimp only; omega) hg
            rw [hg] at h
            unfold sCls at h
            dsimp only at h
            split at h
            · cases h
              unfold sK at k ⊢
              dsimp only at k ⊢
              omega
            · cases h
        · split at h
          · cases hg : sOne T NM n e (S.1 + 1, S.2.1 + 1, S.2.2) with
            | inl x => rw [hg] at h; cases h
            | inr Z =>
              have k := sOne_K e _ _ (by dsimp only; omega) hg
              rw [hg] at h
              cases h
              unfold sK at k ⊢
              dsimp only at k ⊢
              rw [List.length_append, List.length_singleton]
              omega
          · have k := sLeaf_K h
            unfold sK
            dsimp only at k
            omega
/-- the class's spare SENTENCE -/
def tS (L : List SnP) (k : Nat) : SnP := L.getD k (0, 0, 0)
def stC (I : Nat → Nat → Int) (S : SNS) : Prop := I 50 4 = (S.2.2.length : Int) ∧ I 50 5 = (S.2.1 : Int) ∧ ∀ k, k < S.2.2.length → I 51 k = (tS S.2.2 k).1 ∧ I 52 k = (tS S.2.2 k).2.1 ∧ I 53 k = (tS S.2.2 k).2.2
theorem tS_app {L : List SnP} {g : SnP} {k : Nat} (h : k < L.length) : tS (L ++ [g]) k = tS L k := by
  unfold tS; simp only [List.getD_eq_getElem?_getD, List.getElem?_append_left h]
theorem tS_app2 {L : List SnP} {g : SnP} : tS (L ++ [g]) L.length = g := by
  unfold tS; simp
def frS (I J : Nat → Nat → Int) : Prop := (∀ a, ¬ (50 ≤ a ∧ a ≤ 53) → a ≠ 55 → J a = I a) ∧ J 55 1 = I 55 1
theorem frS_rf {I : Nat → Nat → Int} : frS I I := ⟨fun _ _ _ => rfl, rfl⟩
theorem frS_tr {I J K : Nat → Nat → Int} (h : frS I J) (g : frS J K) : frS I K := ⟨fun a a1 a2 => (g.1 a a1 a2).trans (h.1 a a1 a2), g.2.trans h.2⟩
theorem frS_A {I J : Nat → Nat → Int} (h : frA I J) : frS I J := ⟨fun a _ a2 => h.1 a a2, fr55 h⟩
theorem frS_5 {I J : Nat → Nat → Int} (h : ∀ a, ¬ (50 ≤ a ∧ a ≤ 53) → J a = I a) : frS I J := ⟨fun a a1 _ => h a a1, by rw [h 55 (by decide)]⟩
theorem stC_A {I J : Nat → Nat → Int} {S : SNS} (h : stC I S) (g : frA I J) : stC J S := by
  unfold stC at h ⊢
  rw [g.1 50 (by decide), g.1 51 (by decide), g.1 52 (by decide), g.1 53 (by decide)]; exact h
theorem stC_j {I : Nat → Nat → Int} {S : SNS} {j : Nat} (h : stC I S) : stC I (j, S.2) := h
theorem tpC_5 {I J : Nat → Nat → Int} {T : Nat → Tk} {N j : Nat} (h : tpC I T N j) (g : ∀ a, ¬ (50 ≤ a ∧ a ≤ 53) → J a = I a) : tpC J T N j := tpC_fr h (fun k _ _ _ => by rw [g 55 (by decide)]) (g 58 (by decide)) (g 59 (by decide)) (g 60 (by decide))
theorem nmC_S {I J : Nat → Nat → Int} {NM : Nat → List Nat} {n : Nat} (h : nmC I NM n) (g : frS I J) : nmC J NM n := by
  unfold nmC at h ⊢
  rw [g.1 6 (by decide) (by decide), g.1 12 (by decide) (by decide)]; exact h
section SP
variable {m sl : Nat} {sh : Nat → Nat × Nat} {I : Nat → Nat → Int} {R : Nat → Nat → Nat} {Q : am_R → am_M → Prop} {d : Nat} {N j : Nat} {T : Nat → Tk} {NM : Nat → List Nat} {n : Nat} {S : SNS}
theorem w_putStep {w g x : Int} (hw : wd sh R) (hs : stC I S) (hl : S.2.2.length < 40) (h : ∀ J, (∀ a, ¬ (50 ≤ a ∧ a ≤ 53) → J a = I a) → stC J (S.1, S.2.1, S.2.2 ++ [(w, g, x)]) → Q am_yv (m, sl, sh, J, R)) : am_wp (d) 88 0 [some (.inr (.inr (50))), some (.inl (w)), some (.inl (g)), some (.inl (x))] [] (m, sl, sh, I, R) Q := by
  obtain ⟨s1, s2, s3⟩ := hs
  refine am_wp_go rfl (by simp (disch := omega) only [s50 hw, r50_0 hw, s51 hw, r50_1 hw, s52 hw, r50_2 hw, s53 hw, s1, am_addE, am_subE, am_mulE, am_laddE, am_lsubE, am_upO, am_upS, am_stS, am_stO, am_tnn, am_brl, am_brg, am_bre, am_brn, am_brG, am_brL, am_st1, am_no2, am_st2, am_clr, and_self, true_and, and_true, true_or, or_true, List.length_cons, List.length_nil] <;> omega) ?_
  try simp (disch := omega) only [s50 hw, r50_0 hw, s51 hw, r50_1 hw, s52 hw, r50_2 hw, s53 hw, s1, am_addE, am_subE, am_mulE, am_laddE, am_lsubE, am_upO, am_upS, am_stS, am_stO, am_tnn, am_brl, am_brg, am_bre, am_brn, am_brG, am_brL, am_st1, am_no2, am_st2, am_clr]
  refine am_wp_br (fun b6 => ?_) (fun b6 => ?_)
  · omega
  · refine am_wp_go rfl (by simp (disch := omega) only [s50 hw, r50_0 hw, s51 hw, r50_1 hw, s52 hw, r50_2 hw, s53 hw, s1, am_addE, am_subE, am_mulE, am_laddE, am_lsubE, am_upO, am_upS, am_stS, am_stO, am_tnn, am_brl, am_brg, am_bre, am_brn, am_brG, am_brL, am_st1, am_no2, am_st2, am_clr, and_self, true_and, and_true, true_or, or_true, List.length_cons, List.length_nil] <;> omega) ?_
    try simp (disch := omega) only [s50 hw, r50_0 hw, s51 hw, r50_1 hw, s52 hw, r50_2 hw, s53 hw, s1, am_addE, am_subE, am_mulE, am_laddE, am_lsubE, am_upO, am_upS, am_stS, am_stO, am_tnn, am_brl, am_brg, am_bre, am_brn, am_brG, am_brL, am_st1, am_no2, am_st2, am_clr]
    refine am_wp_ret rfl rfl ?_
    refine h _ (fun a ha => ?_) ⟨?_, ?_, fun k hk => ?_⟩
    · simp (disch := omega) only [am_upO]
    · simp (disch := omega) only [am_upO, am_upS, am_stS]
      rw [List.length_append, List.length_singleton]
      omega
    · simp (disch := omega) only [am_upO, am_upS, am_stO]
      exact s2
    · dsimp only at hk ⊢
      rw [List.length_append, List.length_singleton] at hk
      by_cases hk2 : k < S.2.2.length
      · rw [tS_app hk2]
        simp (disch := omega) only [am_upO, am_upS, am_stO]
        exact s3 k hk2
      · have e : k = S.2.2.length := by omega
        rw [e, tS_app2]
        simp (disch := omega) only [am_upO, am_upS, am_stS]
        exact ⟨trivial, trivial, trivial⟩
end SP
