/-! A PLAN's text: abstractly, and by the class -/
abbrev PLS : Type := Nat × List Go
abbrev PLR : Type := (Nat × Nat) ⊕ PLS
def pN (T : Nat → Tk) (j a b : Nat) (k : Nat → PLR) : PLR := if nmF (T j) a b ≠ 0 then .inl (nmF (T j) a b, plT T j) else k (T j).2.2.2
def pGo (T : Nat → Tk) (NM : Nat → List Nat) (n P : Nat) (S : PLS) : PLR := if cK (T S.1) ≠ 2 then .inl (1, plT T S.1) else if kFd NM 0 n (T S.1).2.2.1 = -1 then .inl (3, plT T S.1) else if S.2.length = 30 then .inl (4, plT T S.1) else if ¬ (owC (T (S.1 + 1)) = 8 ∨ owC (T (S.1 + 1)) = 9) then .inl (1, plT T (S.1 + 1)) else pN T (S.1 + 2) 0 240 (fun b => pN T (S.1 + 3) 0 P (fun l => pN T (S.1 + 4) 1 20 (fun q => .inr (S.1 + 5, S.2 ++ [(kFd NM 0 n (T S.1).2.2.1, (if owC (T (S.1 + 1)) = 8 then 0 else 1), (b : Int), (l : Int), (q : Int))]))))
def pEnd (T : Nat → Tk) (r : PLR) : PLR := match r with
  | .inl e => .inl e
  | .inr S => if isSg (T S.1) 59 then .inr (S.1 + 1, S.2) else .inl (1, plT T S.1)
def pAll (T : Nat → Tk) (NM : Nat → List Nat) (n P : Nat) : Nat → PLS → PLR
  | 0, S => .inr S
  | c + 1, S => if (T S.1).1 = 0 then .inr S else match pEnd T (pGo T NM n P S) with
    | .inl e => .inl e
    | .inr S' => pAll T NM n P c S'
theorem pN_0 {T : Nat → Tk} {j a b : Nat} {k : Nat → PLR} (h : nmF (T j) a b ≠ 0) : pN T j a b k = .inl (nmF (T j) a b, plT T j) := if_pos h
theorem pN_1 {T : Nat → Tk} {j a b : Nat} {k : Nat → PLR} (h : nmF (T j) a b = 0) : pN T j a b k = k (T j).2.2.2 := if_neg (fun hx => hx h)
theorem pAll_s {T : Nat → Tk} {NM : Nat → List Nat} {n P c : Nat} {S : PLS} (h : (T S.1).1 ≠ 0) : pAll T NM n P (c + 1) S = match pEnd T (pGo T NM n P S) with
    | .inl e => .inl e
    | .inr S' => pAll T NM n P c S' := by
  conv => lhs; unfold pAll
  rw [if_neg h]
theorem pAll_0 {T : Nat → Tk} {NM : Nat → List Nat} {n P c : Nat} {S : PLS} (h : (T S.1).1 = 0) : pAll T NM n P (c + 1) S = .inr S := by
  conv => lhs; unfold pAll
  rw [if_pos h]
/-- FAULTS stand at a TOKEN -/
theorem pN_pl {T : Nat → Tk} {j a b : Nat} {k : Nat → PLR} {e : Nat × Nat} (h : pN T j a b k = .inl e) (hk : ∀ v, k v = .inl e → ∃ i, e.2 = plT T i) : ∃ i, e.2 = plT T i := by
  unfold pN at h
  split at h
  · cases h; exact ⟨_, rfl⟩
  · exact hk _ h
theorem pGo_pl {T : Nat → Tk} {NM : Nat → List Nat} {n P : Nat} {S : PLS} {e : Nat × Nat} (h : pGo T NM n P S = .inl e) : ∃ i, e.2 = plT T i := by
  unfold pGo at h
  split at h
  · cases h; exact ⟨_, rfl⟩
  · split at h
    · cases h; exact ⟨_, rfl⟩
    · split at h
      · cases h; exact ⟨_, rfl⟩
      · split at h
        · cases h; exact ⟨_, rfl⟩
        · exact pN_pl h (fun v hv => pN_pl hv (fun u hu => pN_pl hu (fun x hx => by cases hx)))
theorem pEnd_pl {T : Nat → Tk} {NM : Nat → List Nat} {n P : Nat} {S : PLS} {e : Nat × Nat} (h : pEnd T (pGo T NM n P S) = .inl e) : ∃ i, e.2 = plT T i := by
  cases hg : pGo T NM n P S with
  | inl e' =>
    rw [hg] at h
    cases h
    exact pGo_pl hg
  | inr S' =>
    rw [hg] at h
    unfold pEnd at h
    dsimp only at h
    split at h
    · cases h
    · cases h; exact ⟨_, rfl⟩
theorem pAll_pl {T : Nat → Tk} {NM : Nat → List Nat} {n P : Nat} {e : Nat × Nat} : ∀ (c : Nat) (S : PLS), pAll T NM n P c S = .inl e → ∃ i, e.2 = plT T i
  | 0, S, h => by cases h
  | c + 1, S, h => by
    by_cases h0 : (T S.1).1 = 0
    · rw [pAll_0 h0] at h; cases h
    · rw [pAll_s h0] at h
      cases hg : pEnd T (pGo T NM n P S) with
      | inl e' =>
        rw [hg] at h
        cases h
        exact pEnd_pl hg
      | inr S' =>
        rw [hg] at h
        exact pAll_pl c S' h
def frP (I J : Nat → Nat → Int) : Prop := (∀ a, a ≠ 48 → a ≠ 49 → a ≠ 55 → J a = I a) ∧ J 55 1 = I 55 1
theorem frP_tr {I J K : Nat → Nat → Int} (h : frP I J) (g : frP J K) : frP I K := ⟨fun a a1 a2 a3 => (g.1 a a1 a2 a3).trans (h.1 a a1 a2 a3), g.2.trans h.2⟩
theorem frP_A {I J : Nat → Nat → Int} (h : frA I J) : frP I J := ⟨fun a _ _ a3 => h.1 a a3, fr55 h⟩
/-- the NAMES of the KITCHEN at 6 -/
def nmC (I : Nat → Nat → Int) (NM : Nat → List Nat) (n : Nat) : Prop := I 6 6 = (n : Int) ∧ n ≤ 8 ∧ ∀ s, s < n → letOk (NM s) ∧ I 12 s = (nm32 (NM s) : Int)
theorem nmC_fr {I J : Nat → Nat → Int} {NM : Nat → List Nat} {n : Nat} (h : nmC I NM n) (g : frP I J) : nmC J NM n := by
  unfold nmC at h ⊢
  rw [g.1 6 (by decide) (by decide) (by decide), g.1 12 (by decide) (by decide) (by decide)]; exact h
section PP
variable {m sl : Nat} {sh : Nat → Nat × Nat} {I : Nat → Nat → Int} {R : Nat → Nat → Nat} {Q : am_R → am_M → Prop} {d : Nat} {N j : Nat} {T : Nat → Tk} {NM : Nat → List Nat} {n P : Nat}
theorem w_findSlice (hw : wd sh R) (hc : tpC I T N j) (hT : tkOk T) (hm : nmC I NM n)
    (h1 : cK (T j) ≠ 2 → ∀ J, frA I J → J 55 11 = 1 → J 55 12 = (plT T j : Int) → Q (am_yi (-1)) (m, sl, sh, J, R))
    (h3 : cK (T j) = 2 → kFd NM 0 n (T j).2.2.1 = -1 → ∀ J, frA I J → J 55 11 = 3 → J 55 12 = (plT T j : Int) → Q (am_yi (-1)) (m, sl, sh, J, R))
    (h0 : cK (T j) = 2 → kFd NM 0 n (T j).2.2.1 ≠ -1 → Q (am_yi (kFd NM 0 n (T j).2.2.1)) (m, sl, sh, I, R)) : am_wp (d + 1) 131 0 [some (.inr (.inr (55))), some (.inr (.inr (6))), none] [] (m, sl, sh, I, R) Q := by
  obtain ⟨-, -, -, -, -, h8, h9, -⟩ := id hc
  obtain ⟨m1, m2, m3⟩ := hm
  refine am_wp_go rfl (by simp (disch := omega) only [s55 hw, h8, am_addE, am_subE, am_mulE, am_laddE, am_lsubE, am_upO, am_upS, am_stS, am_stO, am_tnn, am_brl, am_brg, am_bre, am_brn, am_brG, am_brL, am_st1, am_no2, am_st2, am_clr, and_self, true_and, and_true, true_or, or_true, List.length_cons, List.length_nil] <;> omega) ?_
  try simp (disch := omega) only [s55 hw, h8, am_addE, am_subE, am_mulE, am_laddE, am_lsubE, am_upO, am_upS, am_stS, am_stO, am_tnn, am_brl, am_brg, am_bre, am_brn, am_brG, am_brL, am_st1, am_no2, am_st2, am_clr]
  refine am_wp_br (fun b5 => ?_) (fun b5 => ?_)
  · have hn := cK_2.mp b5
    have e9 := h9 (by have := hn.1; omega)
    have ev : cV (T j) = (nm32 (T j).2.2.1 : Int) := by unfold cV; rw [if_pos hn.1, if_pos hn.2]
    rw [ev] at e9
    have lo := (hT j).1 hn.1
    have h3 := h3 b5
    have h0 := h0 b5
    clear h1 h9
    refine am_wp_go rfl (by simp (disch := omega) only [s55 hw, e9, am_addE, am_subE, am_mulE, am_laddE, am_lsubE, am_upO, am_upS, am_stS, am_stO, am_tnn, am_brl, am_brg, am_bre, am_brn, am_brG, am_brL, am_st1, am_no2, am_st2, am_clr, and_self, true_and, and_true, true_or, or_true, List.length_cons, List.length_nil] <;> omega) ?_
    try simp (disch := omega) only [s55 hw, e9, am_addE, am_subE, am_mulE, am_laddE, am_lsubE, am_upO, am_upS, am_stS, am_stO, am_tnn, am_brl, am_brg, am_bre, am_brn, am_brG, am_brL, am_st1, am_no2, am_st2, am_clr]
    refine am_wp_cc rfl rfl rfl (congrArg Prod.fst (s6 hw)) (w_sliceNamed (c := 6) (NM := NM) (ws := (T j).2.2.1) (kt_w hw (by decide)) m1 m2 m3 lo ⟨_, rfl, ?_⟩)
    refine am_wp_go rfl (by simp (disch := omega) only [s55 hw, e9, am_addE, am_subE, am_mulE, am_laddE, am_lsubE, am_upO, am_upS, am_stS, am_stO, am_tnn, am_brl, am_brg, am_bre, am_brn, am_brG, am_brL, am_st1, am_no2, am_st2, am_clr, and_self, true_and, and_true, true_or, or_true, List.length_cons, List.length_nil] <;> omega) ?_
    try simp (disch := omega) only [s55 hw, e9, am_addE, am_subE, am_mulE, am_laddE, am_lsubE, am_upO, am_upS, am_stS, am_stO, am_tnn, am_brl, am_brg, am_bre, am_brn, am_brG, am_brL, am_st1, am_no2, am_st2, am_clr]
    refine am_wp_br (fun b27 => ?_) (fun b27 => ?_)
    · refine am_wp_go rfl (by simp (disch := omega) only [s55 hw, e9, am_addE, am_subE, am_mulE, am_laddE, am_lsubE, am_upO, am_upS, am_stS, am_stO, am_tnn, am_brl, am_brg, am_bre, am_brn, am_brG, am_brL, am_st1, am_no2, am_st2, am_clr, and_self, true_and, and_true, true_or, or_true, List.length_cons, List.length_nil] <;> omega) ?_
      try simp (disch := omega) only [s55 hw, e9, am_addE, am_subE, am_mulE, am_laddE, am_lsubE, am_upO, am_upS, am_stS, am_stO, am_tnn, am_brl, am_brg, am_bre, am_brn, am_brG, am_brL, am_st1, am_no2, am_st2, am_clr]
      refine am_wp_ret rfl rfl ?_
      exact h0 b27
    · have h := h3 (Classical.not_not.mp b27)
      refine am_wp_go rfl (by simp (disch := omega) only [s55 hw, e9, am_addE, am_subE, am_mulE, am_laddE, am_lsubE, am_upO, am_upS, am_stS, am_stO, am_tnn, am_brl, am_brg, am_bre, am_brn, am_brG, am_brL, am_st1, am_no2, am_st2, am_clr, and_self, true_and, and_true, true_or, or_true, List.length_cons, List.length_nil] <;> omega) ?_
      try simp (disch := omega) only [s55 hw, e9, am_addE, am_subE, am_mulE, am_laddE, am_lsubE, am_upO, am_upS, am_stS, am_stO, am_tnn, am_brl, am_brg, am_bre, am_brn, am_brG, am_brL, am_st1, am_no2, am_st2, am_clr]
      refine am_wp_cc rfl rfl rfl (congrArg Prod.fst (s55 hw)) (w_tfail (k := 3) hw hc (fun J j0 j1 j2 => ⟨_, rfl, ?_⟩))
      refine am_wp_go rfl (by simp (disch := omega) only [s55 hw, e9, am_addE, am_subE, am_mulE, am_laddE, am_lsubE, am_upO, am_upS, am_stS, am_stO, am_tnn, am_brl, am_brg, am_bre, am_brn, am_brG, am_brL, am_st1, am_no2, am_st2, am_clr, and_self, true_and, and_true, true_or, or_true, List.length_cons, List.length_nil] <;> omega) ?_
      try simp (disch := omega) only [s55 hw, e9, am_addE, am_subE, am_mulE, am_laddE, am_lsubE, am_upO, am_upS, am_stS, am_stO, am_tnn, am_brl, am_brg, am_bre, am_brn, am_brG, am_brL, am_st1, am_no2, am_st2, am_clr]
      refine am_wp_ret rfl rfl ?_
      have e : kFd NM 0 n (T j).2.2.1 = -1 := Classical.not_not.mp b27
      rw [e]
      exact h J j0 j1 j2
  · have h := h1 b5
    refine am_wp_go rfl (by simp (disch := omega) only [s55 hw, h8, am_addE, am_subE, am_mulE, am_laddE, am_lsubE, am_upO, am_upS, am_stS, am_stO, am_tnn, am_brl, am_brg, am_bre, am_brn, am_brG, am_brL, am_st1, am_no2, am_st2, am_clr, and_self, true_and, and_true, true_or, or_true, List.length_cons, List.length_nil] <;> omega) ?_
    try simp (disch := omega) only [s55 hw, h8, am_addE, am_subE, am_mulE, am_laddE, am_lsubE, am_upO, am_upS, am_stS, am_stO, am_tnn, am_brl, am_brg, am_bre, am_brn, am_brG, am_brL, am_st1, am_no2, am_st2, am_clr]
    refine am_wp_cc rfl rfl rfl (congrArg Prod.fst (s55 hw)) (w_tfail (k := 1) hw hc (fun J j0 j1 j2 => ⟨_, rfl, ?_⟩))
    refine am_wp_go rfl (by simp (disch := omega) only [s55 hw, h8, am_addE, am_subE, am_mulE, am_laddE, am_lsubE, am_upO, am_upS, am_stS, am_stO, am_tnn, am_brl, am_brg, am_bre, am_brn, am_brG, am_brL, am_st1, am_no2, am_st2, am_clr, and_self, true_and, and_true, true_or, or_true, List.length_cons, List.length_nil] <;> omega) ?_
    try simp (disch := omega) only [s55 hw, h8, am_addE, am_subE, am_mulE, am_laddE, am_lsubE, am_upO, am_upS, am_stS, am_stO, am_tnn, am_brl, am_brg, am_bre, am_brn, am_brG, am_brL, am_st1, am_no2, am_st2, am_clr]
    refine am_wp_ret rfl rfl ?_
    exact h J j0 j1 j2
end PP
