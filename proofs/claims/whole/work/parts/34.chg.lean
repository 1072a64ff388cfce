/-! A CHANGED PLAN: the two stay together -/
theorem nS_row {W V : Nat → Int} (e : ∀ j, j < 58 → V j = W j) : nS V = nS W ∧ nG V = nG W ∧ nK V = nK W := by
  unfold nS nG nK; rw [e 5 (by decide), e 6 (by decide), e 7 (by decide)]; exact ⟨rfl, rfl, rfl⟩
theorem ax_bs_cg {p q : Nat → Bool} {n : Nat} (h : ∀ k, k < n → p k = q k) : ax_bs p n = ax_bs q n := by
  induction n with
  | zero => rfl
  | succ n ih => unfold ax_bs; rw [ih (fun k hk => h k (by omega)), h n (by omega)]
theorem wk_row {W V : Nat → Int} (h : wk W) (e : ∀ j, j < 58 → V j = W j) : wk V := by
  obtain ⟨e1, e2, e3⟩ := nS_row e
  have n1 := wk_nS h
  have n2 := wk_nG h
  have n3 := wk_nK h
  obtain ⟨a, b, c, d⟩ := h
  refine ⟨?_, fun s hs => ?_, fun s hs => ?_, fun s hs => ?_⟩
  · unfold wk0 at a ⊢
    rw [e 0 (by decide), e 1 (by decide), e 2 (by decide), e 3 (by decide), e 4 (by decide), e 5 (by decide), e 6 (by decide), e 7 (by decide)]
    exact a
  · rw [e1] at hs; rw [e _ (by omega), e _ (by omega), e _ (by omega)]; exact b s hs
  · rw [e2] at hs; rw [e _ (by omega), e _ (by omega)]; exact c s hs
  · rw [e3] at hs; rw [e _ (by omega), e _ (by omega)]; exact d s hs
theorem onB_row {W V : Nat → Int} (h : wk W) (e : ∀ j, j < 58 → V j = W j) : onB V = onB W := by
  obtain ⟨e1, e2, e3⟩ := nS_row e
  have n1 := wk_nS h
  unfold onB
  rw [e1]
  exact ax_bs_cg (fun s hs => by rw [e _ (by omega)])
theorem kit_row {I : Nat → Nat → Int} {c : Nat} {W V N : Nat → Int} (h : kit I c W N) (e : ∀ j, j < 58 → V j = W j) : kit I c V N := by
  obtain ⟨e1, e2, e3⟩ := nS_row e
  obtain ⟨h0, a, b, d, f, g⟩ := h
  have n1 := wk_nS h0
  have n2 := wk_nG h0
  have n3 := wk_nK h0
  refine ⟨wk_row h0 e, ?_, fun s hs => ?_, fun s hs => ?_, fun s hs => ?_, fun s hs => ?_⟩
  · unfold kit0 at a ⊢
    rw [onB_row h0 e, e 0 (by decide), e 1 (by decide), e 2 (by decide), e 3 (by decide), e 4 (by decide), e 5 (by decide), e 6 (by decide), e 7 (by decide)]
    exact a
  · rw [e1] at hs; rw [e _ (by omega), e _ (by omega)]; exact b s hs
  · rw [e1] at hs; exact d s hs
  · rw [e2] at hs; rw [e _ (by omega), e _ (by omega)]; exact f s hs
  · rw [e3] at hs; rw [e _ (by omega), e _ (by omega)]; exact g s hs
theorem sen_row {I : Nat → Nat → Int} {c : Nat} {W V : Nat → Int} (h : sen I c W) (e5 : V 5 = W 5) (e : ∀ j, 2059 ≤ j → V j = W j) : sen I c V := by
  have e2 : (fun j => V (2061 + j)) = fun j => W (2061 + j) := funext (fun j => e _ (by omega))
  unfold sen at h ⊢
  rw [e 2059 (by decide), e 2060 (by decide), e5, e2]
  exact h
theorem gkt_row {G : List Go} {W V : Nat → Int} (h : gkt W G) (e0 : V 0 = W 0) (e5 : V 5 = W 5) : gkt V G := by
  unfold gkt at h ⊢; rw [e5]; exact h
/-- the class has changed no more than PLANS -/
def cqp (I J : Nat → Nat → Int) : Prop := (∀ a, (1 ≤ a ∧ a ≤ 2 ∨ 6 ≤ a ∧ a ≤ 13 ∨ 16 ≤ a ∧ a ≤ 19 ∨ a = 56 ∨ a = 57 ∨ a = 85 ∨ a = 88 ∨ a = 89 ∨ 93 ≤ a ∧ a ≤ 106 ∨ 109 ≤ a ∧ a ≤ 122 ∨ 124 ≤ a) → J a = I a) ∧ J 4 15 = I 4 15 ∧ J 4 16 = I 4 16 ∧ J 4 17 = I 4 17 ∧ J 55 1 = I 55 1 ∧ J 80 5 = I 80 5 ∧ J 86 2 = I 86 2 ∧ J 92 3 = I 92 3 ∧ J 108 3 = I 108 3
/-- the reference has changed no more than PLANS -/
def rqp (I J : Nat → Nat → Int) : Prop := (∀ a, (a < 124 ∨ a = 125 ∨ a = 128 ∨ a = 130 ∨ 132 ≤ a ∧ a ≤ 133 ∨ a = 135 ∨ a = 153 ∨ a = 156) → J a = I a) ∧ (J 124 2 = I 124 2 ∧ J 124 10 = I 124 10 ∧ J 124 26 = I 124 26 ∧ J 124 29 = I 124 29 ∧ J 124 49 = I 124 49 ∧ J 124 53 = I 124 53) ∧ J 124 23 = 1 ∧ (∀ j, (j < 58 ∨ 2059 ≤ j) → J 126 j = lw I j)
theorem cp_plan {X : Nat → Int} {I J K : Nat → Nat → Int} {G : List Go} {H : List (List Go)} (h : cp X I) (q : cqp I J) (pj : pl J 14 G) (hj : hsC J H) (r : rqp J K) (pk : rf (pw (K 126)) G) (hk : hsR K H) (g1 : gkt (lw I) G) (g2 : ∀ j, j < H.length → gkt (lw I) (H.getD j [])) : cp X K := by
  obtain ⟨q, q1, q2, q3, q4, q5, q6, q7, q8⟩ := q
  obtain ⟨r, ⟨r1, r2, r3, r4, r5, r6⟩, r7, r8⟩ := r
  obtain ⟨c, ⟨k1, k2⟩, g, s, hh, ⟨i0, i1⟩, t, x, f, v, p⟩ := h
  have e124 := q 124 (by omega)
  have e126 := q 126 (by omega)
  have el : lw J = lw I := by unfold lw; rw [e124, e126]
  rw [el] at r8
  have elk : lw K = K 126 := by unfold lw; rw [r7]; rfl
  have cl : ∀ a, (1 ≤ a ∧ a ≤ 2 ∨ 6 ≤ a ∧ a ≤ 13 ∨ 16 ≤ a ∧ a ≤ 19 ∨ a = 56 ∨ a = 57 ∨ a = 85 ∨ a = 88 ∨ a = 89 ∨ 93 ≤ a ∧ a ≤ 106 ∨ 109 ≤ a ∧ a ≤ 122) → K a = I a := fun a ha => (r a (by omega)).trans (q a (by omega))
  have rr : ∀ a, (a = 125 ∨ a = 128 ∨ a = 130 ∨ 132 ≤ a ∧ a ≤ 133 ∨ a = 135 ∨ a = 153 ∨ a = 156) → K a = I a := fun a ha => (r a (by omega)).trans (q a (by omega))
  have im : ∀ k, k < 2 → K (92 + 16 * k) 3 = I (92 + 16 * k) 3 → cpI I k → cpI K k := by
    intro k hk e3 ⟨a, b, d⟩
    unfold cpI kpW kpN
    rw [rr 133 (by omega), rr 128 (by omega), rr 132 (by omega)]
    refine ⟨e3.trans a, b, fun hk => ?_⟩
    obtain ⟨d1, d2, d3⟩ := d hk
    exact ⟨kit_fr d1 (fun a h1 h2 => cl a (by omega)), cpG_fr d2 (cl _ (by omega)) (cl _ (by omega)), sen_fr d3 (cl _ (by omega)) (cl _ (by omega)) (cl _ (by omega)) (cl _ (by omega))⟩
  refine ⟨?_, ⟨?_, Or.inr r7⟩, ⟨G, pl_fr pj (r 14 (by omega)) (r 15 (by omega)), pk, ?_⟩, ?_, ⟨H, hsC_fr hj (fun a ha => r a (by omega)), hk, fun j hj => ?_⟩, ⟨im 0 (by decide) ?_ i0, im 1 (by decide) ?_ i1⟩, ?_, ?_, ?_, ?_, ?_⟩
  · unfold cpC; rw [cl 1 (by omega), cl 2 (by omega), cl 57 (by omega)]; exact c
  · rw [elk, rr 130 (by omega)]
    exact kit_row (kit_fr k1 (fun a h1 h2 => cl a (by omega))) (fun j hj => r8 j (by omega))
  · rw [elk]; exact gkt_row g1 (r8 0 (by omega)) (r8 5 (by omega))
  · rw [elk]; exact sen_row (sen_fr s (cl 16 (by omega)) (cl 17 (by omega)) (cl 18 (by omega)) (cl 19 (by omega))) (r8 5 (by omega)) (fun j hj => r8 j (by omega))
  · rw [elk]; exact gkt_row (g2 j hj) (r8 0 (by omega)) (r8 5 (by omega))
  · rw [r _ (by omega)]; exact q7
  · rw [r _ (by omega)]; exact q8
  · unfold cpT; rw [r 55 (by omega), q4, r1, e124, rr 125 (by omega), cl 56 (by omega)]; exact t
  · unfold cpX; rw [r 4 (by omega), q1, r4, e124, rr 135 (by omega), cl 89 (by omega)]; exact x
  · unfold cpF; rw [r 4 (by omega), q2, q3, r2, r3, e124]; exact f
  · unfold cpV; rw [r 80 (by omega), q5, r5, e124, cl 85 (by omega), rr 153 (by omega)]; exact v
  · unfold cpP; rw [r 86 (by omega), q6, r6, e124, cl 88 (by omega), rr 156 (by omega)]; exact p
theorem cqp_of {I J : Nat → Nat → Int} (h : ∀ a, ¬ (14 ≤ a ∧ a ≤ 15 ∨ 20 ≤ a ∧ a ≤ 54 ∨ 58 ≤ a ∧ a ≤ 79 ∨ 81 ≤ a ∧ a ≤ 84 ∨ a = 87 ∨ 90 ≤ a ∧ a ≤ 91) → J a = I a) : cqp I J :=
  ⟨fun a ha => h a (by omega), by rw [h 4 (by omega)], by rw [h 4 (by omega)], by rw [h 4 (by omega)], by rw [h 55 (by omega)], by rw [h 80 (by omega)], by rw [h 86 (by omega)], by rw [h 92 (by omega)], by rw [h 108 (by omega)]⟩
theorem cq_of {I J : Nat → Nat → Int} (h : ∀ a, ¬ (20 ≤ a ∧ a ≤ 21 ∨ a = 23 ∨ 40 ≤ a ∧ a ≤ 54 ∨ 58 ≤ a ∧ a ≤ 79 ∨ 81 ≤ a ∧ a ≤ 84 ∨ a = 87 ∨ 90 ≤ a ∧ a ≤ 91) → J a = I a) : cq I J :=
  ⟨fun a ha => h a (by omega), by rw [h 4 (by omega)], by rw [h 4 (by omega)], by rw [h 4 (by omega)], by rw [h 55 (by omega)], by rw [h 80 (by omega)], by rw [h 86 (by omega)], by rw [h 92 (by omega)], by rw [h 108 (by omega)]⟩
theorem rqp_of {I J K : Nat → Nat → Int} (q : rq I J) (j3 : J 124 23 = 1) (j4 : J 126 = lw I) (k1 : ∀ a, (a < 124 ∨ a = 125 ∨ a = 128 ∨ a = 130 ∨ 132 ≤ a ∧ a ≤ 133 ∨ a = 135 ∨ a = 153 ∨ a = 156) → K a = J a) (k2 : ∀ j, j ≠ 22 → j ≠ 35 → j ≠ 41 → j ≠ 56 → K 124 j = J 124 j) (k3 : ∀ j, (j < 58 ∨ 2059 ≤ j) → K 126 j = J 126 j) : rqp I K := by
  obtain ⟨q, ⟨q1, q2, q3, q4, q5, q6, q7⟩, -⟩ := q
  refine ⟨fun a ha => (k1 a ha).trans (q a (by omega)), ⟨(k2 2 (by decide) (by decide) (by decide) (by decide)).trans q1, (k2 10 (by decide) (by decide) (by decide) (by decide)).trans q2, (k2 26 (by decide) (by decide) (by decide) (by decide)).trans q4, (k2 29 (by decide) (by decide) (by decide) (by decide)).trans q5, (k2 49 (by decide) (by decide) (by decide) (by decide)).trans q6, (k2 53 (by decide) (by decide) (by decide) (by decide)).trans q7⟩, (k2 23 (by decide) (by decide) (by decide) (by decide)).trans j3, fun j hj => by rw [k3 j hj, j4]⟩
/-- GOES there, so lay() was called -/
theorem beg_len {I : Nat → Nat → Int} {G : List Go} (hb : beg I) (hr : rf (pw (I 126)) G) (hn : 0 < G.length) : I 124 23 = 1 ∧ I 126 = lw I := by
  rcases hb with ⟨a, b⟩ | a
  · have h1 := hr.1
    rw [b] at h1
    have h1 : (0 : Int) = G.length := h1
    omega
  · exact ⟨a, by unfold lw; rw [a]; rfl⟩
section CHG
variable {m sl : Nat} {sh : Nat → Nat × Nat} {I : Nat → Nat → Int} {R : Nat → Nat → Nat} {Q : am_R → am_M → Prop} {d : Nat} {G : List Go} {H : List (List Go)}
/-- lays(): a GO behind the others -/
theorem w_M_lays {g : Go} {s u b l n : Int} (hw : wd sh R) (hr : rf (pw (I 126)) G) (hn : G.length < 400) (e0 : s = g.1) (e1 : u = g.2.1) (e2 : b = g.2.2.1) (e3 : l = g.2.2.2.1) (e4 : n = g.2.2.2.2) (h : ∀ J, (∀ a, a ≠ 126 → J a = I a) → (∀ j, (j < 58 ∨ 2059 ≤ j) → J 126 j = I 126 j) → rf (pw (J 126)) (G ++ [g]) → Q am_yv (m, sl, sh, J, R)) : am_wp (d + 1) 239 0 [some (.inr (.inr (124))), some (.inl (s)), some (.inl (u)), some (.inl (b)), some (.inl (l)), some (.inl (n)), none] [] (m, sl, sh, I, R) Q := by
  have r0 : I 126 58 = (G.length : Int) := hr.1
  subst e0 e1 e2 e3 e4
  refine am_wp_go rfl (by simp (disch := omega) only [s124 hw, r124_14 hw, s126 hw, r0, am_tnA, am_tnM, Int.reduceToNat, am_addE, am_subE, am_mulE, am_laddE, am_lsubE, am_upO, am_upS, am_stS, am_stO, am_tnn, am_brl, am_brg, am_bre, am_brn, am_brG, am_brL, am_st1, am_no2, am_st2, am_clr, and_self, true_and, and_true, true_or, or_true, List.length_cons, List.length_nil] <;> omega) ?_
  try simp (disch := omega) only [s124 hw, r124_14 hw, s126 hw, r0, am_tnA, am_tnM, Int.reduceToNat, am_addE, am_subE, am_mulE, am_laddE, am_lsubE, am_upO, am_upS, am_stS, am_stO, am_tnn, am_brl, am_brg, am_bre, am_brn, am_brG, am_brL, am_st1, am_no2, am_st2, am_clr]
  refine am_wp_cc rfl rfl rfl (congrArg Prod.fst (s124 hw)) (w_M_goesG hw hr ⟨_, rfl, ?_⟩)
  refine am_wp_go rfl (by simp (disch := omega) only [s124 hw, r124_14 hw, s126 hw, r0, am_tnA, am_tnM, Int.reduceToNat, am_addE, am_subE, am_mulE, am_laddE, am_lsubE, am_upO, am_upS, am_stS, am_stO, am_tnn, am_brl, am_brg, am_bre, am_brn, am_brG, am_brL, am_st1, am_no2, am_st2, am_clr, and_self, true_and, and_true, true_or, or_true, List.length_cons, List.length_nil] <;> omega) ?_
  try simp (disch := omega) only [s124 hw, r124_14 hw, s126 hw, r0, am_tnA, am_tnM, Int.reduceToNat, am_addE, am_subE, am_mulE, am_laddE, am_lsubE, am_upO, am_upS, am_stS, am_stO, am_tnn, am_brl, am_brg, am_bre, am_brn, am_brG, am_brL, am_st1, am_no2, am_st2, am_clr]
  refine am_wp_ret rfl rfl ?_
  refine h _ (fun a ha => ?_) (fun j hj => ?_) ⟨?_, fun k hk => ?_⟩
  · rw [am_upO ha, am_upO ha, am_upO ha, am_upO ha, am_upO ha, am_upO ha]
  · simp (disch := omega) only [am_upS, am_stO]
  · unfold pw
    rw [am_upS, am_stS rfl]
    simp
  · rw [List.length_append, List.length_singleton] at hk
    unfold pw gS gU gB gL gN
    by_cases hk2 : k < G.length
    · have t := hr.2 k hk2
      unfold pw gS gU gB gL gN at t
      rw [gs_app hk2]
      simp (disch := omega) only [am_upS, am_stO]
      exact t
    · have : k = G.length := by omega
      subst this
      rw [gs_app2]
      simp (disch := omega) only [am_upS, am_stO, am_stS, and_self]
end CHG
