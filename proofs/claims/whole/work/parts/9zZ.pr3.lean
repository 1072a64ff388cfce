/-! THE LAW'S CASES: what changes the tape, the text, the fault, the goods of SERVED and HOTEL, images -/
theorem cp_mix {X : Nat → Int} {I K : Nat → Nat → Int} (h : cp X I) (q : ∀ a, (1 ≤ a ∧ a ≤ 2 ∨ 6 ≤ a ∧ a ≤ 19 ∨ a = 22 ∨ 24 ≤ a ∧ a ≤ 39 ∨ a = 57 ∨ 93 ≤ a ∧ a ≤ 106 ∨ 109 ≤ a ∧ a ≤ 122 ∨ 128 ≤ a ∧ a ≤ 130 ∨ 132 ≤ a ∧ a ≤ 133) → K a = I a) (f92 : K 92 3 = I 92 3) (f108 : K 108 3 = I 108 3) (e22 : K 124 22 = I 124 22) (w : now_same I K)
    (t : (K 55 1 = I 55 1 ∧ K 124 2 = I 124 2 ∧ K 125 = I 125 ∧ K 56 = I 56) ∨ cpT K)
    (x : (K 4 15 = I 4 15 ∧ K 124 29 = I 124 29 ∧ K 135 = I 135 ∧ K 89 = I 89) ∨ cpX K)
    (f : (K 4 16 = I 4 16 ∧ K 124 10 = I 124 10 ∧ K 4 17 = I 4 17 ∧ K 124 26 = I 124 26) ∨ cpF K)
    (v : (K 80 5 = I 80 5 ∧ K 124 49 = I 124 49 ∧ K 85 = I 85 ∧ K 153 = I 153) ∨ cpV K)
    (p : (K 86 2 = I 86 2 ∧ K 124 53 = I 124 53 ∧ K 88 = I 88 ∧ K 156 = I 156) ∨ cpP K) : cp X K := by
  obtain ⟨-, -, -, -, -, -, t', x', f', v', p'⟩ := id h
  refine core_cp (core_fr (cp_core h) q f92 f108 e22 w) ?_ ?_ ?_ ?_ ?_
  · rcases t with ⟨a, b, c, d⟩ | t
    · unfold cpT at t' ⊢; rw [a, b, c, d]; exact t'
    · exact t
  · rcases x with ⟨a, b, c, d⟩ | t
    · unfold cpX at x' ⊢; rw [a, b, c, d]; exact x'
    · exact t
  · rcases f with ⟨a, b, c, d⟩ | t
    · unfold cpF at f' ⊢; rw [a, b, c, d]; exact f'
    · exact t
  · rcases v with ⟨a, b, c, d⟩ | t
    · unfold cpV at v' ⊢; rw [a, b, c, d]; exact v'
    · exact t
  · rcases p with ⟨a, b, c, d⟩ | t
    · unfold cpP at p' ⊢; rw [a, b, c, d]; exact p'
    · exact t
theorem ns_tr {I J K : Nat → Nat → Int} (e124 : J 124 23 = I 124 23) (e126 : J 126 = I 126) (h : now_same J K) : now_same I K := by
  unfold now_same at h ⊢
  have : lw J = lw I := by unfold lw; rw [e124, e126]
  rw [e124, e126, this] at h
  exact h
/-- tape alone has changed -/
theorem cp_tape {X : Nat → Int} {I K : Nat → Nat → Int} (h : cp X I) (f : ∀ a, ¬ (a = 55 ∨ a = 56 ∨ a = 90 ∨ a = 91 ∨ a = 124 ∨ a = 125 ∨ a = 157 ∨ a = 158) → K a = I a) (g : ∀ j, j ≠ 0 → j ≠ 2 → K 124 j = I 124 j) (t : cpT K) : cp X K :=
  cp_mix h (fun a ha => f a (by omega)) (by rw [f 92 (by omega)]) (by rw [f 108 (by omega)]) (g 22 (by decide) (by decide)) (Or.inl ⟨g 23 (by decide) (by decide), f 126 (by omega)⟩) (Or.inr t)
    (Or.inl ⟨by rw [f 4 (by omega)], g 29 (by decide) (by decide), f 135 (by omega), f 89 (by omega)⟩)
    (Or.inl ⟨by rw [f 4 (by omega)], g 10 (by decide) (by decide), by rw [f 4 (by omega)], g 26 (by decide) (by decide)⟩)
    (Or.inl ⟨by rw [f 80 (by omega)], g 49 (by decide) (by decide), f 85 (by omega), f 153 (by omega)⟩)
    (Or.inl ⟨by rw [f 86 (by omega)], g 53 (by decide) (by decide), f 88 (by omega), f 156 (by omega)⟩)
theorem fb_le (a b c e f : Int) (i : Nat) : 0 ≤ fb a b c e f i ∧ fb a b c e f i ≤ 255 := by
  unfold fb
  split
  · exact nb_le _ _
  · split
    · exact nb_le _ _
    · split
      · exact nb_le _ _
      · split
        · exact nb_le _ _
        · exact nb_le _ _
theorem numT_by {v : Int} (hv : 0 ≤ v ∧ v ≤ 999) : ∀ x, x ∈ numT v → 0 ≤ x ∧ x ≤ 127 := by
  intro x hx
  unfold numT at hx
  split at hx <;> split at hx <;> simp only [List.mem_append, List.mem_singleton, List.nil_append, List.not_mem_nil, false_or, or_false] at hx <;> omega
theorem nameT_by {ws : List Nat} (h : letOk ws) : ∀ x, x ∈ nameT ws → 0 ≤ x ∧ x ≤ 127 := by
  intro x hx
  unfold nameT at hx
  obtain ⟨w, w1, w2⟩ := List.mem_map.mp hx
  obtain ⟨i, i1, i2⟩ := List.mem_iff_getElem.mp w1
  have a := h.2.2 i i1
  rw [List.getD_eq_getElem?_getD, List.getElem?_eq_getElem i1, Option.getD_some, i2] at a
  rw [← w2]
  omega
theorem goT_by {G : List Go} {ls : Nat → List Nat} (hg : gok G) {k : Nat} (hk : k < G.length) (hl : letOk (ls (gS G k).toNat)) : ∀ x, x ∈ goT ls G k → 0 ≤ x ∧ x ≤ 127 := by
  intro x hx
  have a := hg.2 k hk
  unfold goT at hx
  simp only [List.mem_append, List.mem_singleton, List.mem_cons, List.not_mem_nil, or_false] at hx
  have b1 := nameT_by hl x
  have b2 := numT_by (v := gB G k) (by omega) x
  have b3 := numT_by (v := gL G k) (by omega) x
  have b4 := numT_by (v := gN G k) (by omega) x
  rcases hx with h | h | h | (h | h) | (h | h) | (h | h) | h
  · exact b1 h
  · omega
  · split at h <;> omega
  · omega
  · exact b2 h
  · omega
  · exact b3 h
  · omega
  · exact b4 h
  · omega
theorem wrT_mem {G : List Go} {ls : Nat → List Nat} (hg : gok G) (hl : ∀ k, k < G.length → letOk (ls (gS G k).toNat)) : ∀ k, k ≤ G.length → ∀ x, x ∈ wrT ls G k → 0 ≤ x ∧ x ≤ 127 := by
  intro k
  induction k with
  | zero => intro _ x hx; unfold wrT at hx; exact absurd hx List.not_mem_nil
  | succ k ih =>
    intro hk x hx
    unfold wrT at hx
    rcases List.mem_append.mp hx with h | h
    · exact ih (by omega) x h
    · exact goT_by hg (by omega) (hl k (by omega)) x h
theorem wrT_by {G : List Go} {ls : Nat → List Nat} (hg : gok G) (hl : ∀ k, k < G.length → letOk (ls (gS G k).toNat)) (k : Nat) (hk : k ≤ G.length) (i : Nat) (hi : i < (wrT ls G k).length) : 0 ≤ (wrT ls G k).getD i 0 ∧ (wrT ls G k).getD i 0 ≤ 127 := by
  refine wrT_mem hg hl k hk _ ?_
  rw [List.getD_eq_getElem?_getD, List.getElem?_eq_getElem hi]
  exact List.getElem_mem hi
/-- the names of the SLICES, as letters -/
theorem nm_get {I : Nat → Nat → Int} {W N : Nat → Int} (h : kit I 6 W N) : ∃ NM : Nat → List Nat, ∀ s, s < nS W → letOk (NM s) ∧ I 12 s = (nm32 (NM s) : Int) ∧ N s = (nm27 (NM s) : Int) := by
  have a := fun s (hs : s < nS W) => nm_letOk (h.2.2.2.1 s hs)
  refine ⟨fun s => if hs : s < nS W then Classical.choose (a s hs) else [], fun s hs => ?_⟩
  dsimp only
  rw [dif_pos hs]
  exact Classical.choose_spec (a s hs)
section PAIRS
variable {m sl : Nat} {sh : Nat → Nat × Nat} {I : Nat → Nat → Int} {R : Nat → Nat → Nat} {Q : am_R → am_M → Prop} {X : Nat → Int}

theorem p_feed {a b c e f : Int} (hw : wd sh R) (hc : cp X I) (h : ∀ J av, J 1 = I 1 → (∀ Q2 : am_R → am_M → Prop, (∀ K, cp X K → Q2 (am_yi av) (m, sl, sh, K, R)) → am_wp 999 193 0 [some (.inr (.inr 124)), some (.inl a), some (.inl b), some (.inl c), some (.inl e), some (.inl f)] [] (m, sl, sh, J, R) Q2) → Q (am_yi av) (m, sl, sh, J, R)) : am_wp 999 133 0 [some (.inr (.inr 4)), some (.inl a), some (.inl b), some (.inl c), some (.inl e), some (.inl f)] [] (m, sl, sh, I, R) Q := by
  obtain ⟨G, H, kk, hb, hp, hr, hr2, hg, hgk, hhC, hhR, hH, hG, hgH⟩ := cp_get hc
  have hk := kk.1
  obtain ⟨n, n1, t1, t2, t3⟩ := hc.2.2.2.2.2.2.1
  refine c_feed hw n1 t1 (fun z => h I _ rfl (fun Q2 h2 => r_feed hw n1 t2 (fun _ K q => h2 K (cp_rq hc q)) (fun z2 => absurd z2 (by omega)))) (fun z J j1 j2 j3 j4 => h J _ (j1 1 (by decide) (by decide)) (fun Q2 h2 => ?_))
  have e : ∀ a, 124 ≤ a → J a = I a := fun a ha => j1 a (by omega) (by omega)
  refine r_feed hw n1 (by rw [e 124 (by decide)]; exact t2) (fun z2 => absurd z2 (by omega)) (fun _ K k1 k2 k3 k4 k5 => h2 K (cp_tape hc (fun a ha => by rw [k1 a (by omega) (by omega), j1 a (by omega) (by omega)]) (fun j a1 a2 => by rw [k2 j a2 a1, e 124 (by decide)]) ⟨n + 20, by omega, by rw [k1 55 (by decide) (by decide)]; exact j2, k3, fun i hi => ?_⟩))
  rw [k1 56 (by decide) (by decide)]
  by_cases hin : i < n
  · rw [k4 i hin, j3 i hin, e 125 (by decide)]; exact t3 i hin
  · obtain ⟨j, rfl⟩ : ∃ j, i = n + j := ⟨i - n, by omega⟩
    rw [k5 j (by omega), j4 j (by omega)]
    exact ⟨(fb_le _ _ _ _ _ _).1, (fb_le _ _ _ _ _ _).2, rfl⟩

theorem p_end {v : Int} (hw : wd sh R) (hc : cp X I) (h : ∀ J av, J 1 = I 1 → (∀ Q2 : am_R → am_M → Prop, (∀ K, cp X K → Q2 (am_yi av) (m, sl, sh, K, R)) → am_wp 999 194 0 [some (.inr (.inr 124)), some (.inl v)] [] (m, sl, sh, J, R) Q2) → Q (am_yi av) (m, sl, sh, J, R)) : am_wp 999 134 0 [some (.inr (.inr 4)), some (.inl v)] [] (m, sl, sh, I, R) Q := by
  obtain ⟨G, H, kk, hb, hp, hr, hr2, hg, hgk, hhC, hhR, hH, hG, hgH⟩ := cp_get hc
  have hk := kk.1
  obtain ⟨n, n1, t1, t2, t3⟩ := hc.2.2.2.2.2.2.1
  refine c_end hw t1 (fun z => h I _ rfl (fun Q2 h2 => r_end hw t2 (fun _ K q => h2 K (cp_rq hc q)) (fun z2 => absurd z2 z))) (fun z => h _ _ (by rw [am_upO (by decide)]) (fun Q2 h2 => ?_))
  obtain ⟨y, rfl⟩ : ∃ y : Nat, v = (y : Int) := ⟨v.toNat, by omega⟩
  refine r_end hw (by rw [am_upO (by decide)]; exact t2) (fun z2 => absurd z z2) (fun _ => h2 _ (cp_tape hc (fun a ha => by rw [am_upO (by omega), am_upO (by omega), am_upO (by omega)]) (fun j a1 a2 => by rw [am_upS, am_stO a2, am_upS, am_stO a1, am_upO (by decide)]) ⟨y, by omega, by rw [am_upO (by decide), am_upO (by decide), am_upS, am_stS rfl], by rw [am_upS, am_stS rfl], fun i hi => ?_⟩))
  rw [am_upO (by decide), am_upO (by decide), am_upO (by decide), am_upO (by decide), am_upO (by decide), am_upO (by decide)]
  exact t3 i (by omega)

theorem p_kitchen (hw : wd sh R) (hc : cp X I) (h : ∀ J av, J 1 = I 1 → (∀ Q2 : am_R → am_M → Prop, (∀ K, cp X K → Q2 (am_yi av) (m, sl, sh, K, R)) → am_wp 999 226 0 [some (.inr (.inr 124)), none, none] [] (m, sl, sh, J, R) Q2) → Q (am_yi av) (m, sl, sh, J, R)) : am_wp 999 135 0 [some (.inr (.inr 4))] [] (m, sl, sh, I, R) Q := by
  obtain ⟨G, H, kk, hb, hp, hr, hr2, hg, hgk, hhC, hhR, hH, hG, hgH⟩ := cp_get hc
  have hk := kk.1
  obtain ⟨n, n1, t1, t2, t3⟩ := hc.2.2.2.2.2.2.1
  have h57 : I 57 = ownR := hc.1.2.2
  have hbr : ∀ k, k < n → I 125 k = (((I 125 k).toNat : Nat) : Int) ∧ (I 125 k).toNat ≤ 255 := fun k hk => by have a := t3 k hk; omega
  have hbt : ∀ k, k < n → I 56 k = sbyte (((I 125 k).toNat : Nat) : Int) ∧ (I 125 k).toNat ≤ 255 := fun k hk => by have a := t3 k hk; rw [← (hbr k hk).1]; exact ⟨a.2.2, (hbr k hk).2⟩
  refine c_kitchen (b := fun k => (I 125 k).toNat) hw n1 t1 h57 hbt (fun er z J f => h J _ (f.1 1 (by omega)) (fun Q2 h2 => ?_)) (fun q S z J f => h J _ (f.1 1 (by omega)) (fun Q2 h2 => ?_))
  · have e : ∀ a, 124 ≤ a → J a = I a := fun a ha => f.1 a (by omega)
    refine r_kitchen (b := fun k => (I 125 k).toNat) hw (sr_beg e hb) n1 (by rw [e 124 (by decide)]; exact t2) (fun k hk => by rw [e 125 (by decide)]; exact hbr k hk) (fun e2 z2 K r => ?_) (fun q2 S2 z2 => by rw [z] at z2; cases z2)
    rw [z] at z2; cases z2
    exact h2 K (cp_fault hc f r)
  · have e : ∀ a, 124 ≤ a → J a = I a := fun a ha => f.1 a (by omega)
    refine r_kitchen (b := fun k => (I 125 k).toNat) hw (sr_beg e hb) n1 (by rw [e 124 (by decide)]; exact t2) (fun k hk => by rw [e 125 (by decide)]; exact hbr k hk) (fun e2 z2 => by rw [z] at z2; cases z2) (fun q2 S2 z2 K r => ?_)
    rw [z] at z2; cases z2
    exact h2 K (cp_kitchen hc f r)

theorem p_plan (hw : wd sh R) (hc : cp X I) (h : ∀ J av, J 1 = I 1 → (∀ Q2 : am_R → am_M → Prop, (∀ K, cp X K → Q2 (am_yi av) (m, sl, sh, K, R)) → am_wp 999 243 0 [some (.inr (.inr 124)), none, none] [] (m, sl, sh, J, R) Q2) → Q (am_yi av) (m, sl, sh, J, R)) : am_wp 999 137 0 [some (.inr (.inr 4))] [] (m, sl, sh, I, R) Q := by
  obtain ⟨G, H, kk, hb, hp, hr, hr2, hg, hgk, hhC, hhR, hH, hG, hgH⟩ := cp_get hc
  have hk := kk.1
  obtain ⟨n, n1, t1, t2, t3⟩ := hc.2.2.2.2.2.2.1
  have h57 : I 57 = ownR := hc.1.2.2
  have hbr : ∀ k, k < n → I 125 k = (((I 125 k).toNat : Nat) : Int) ∧ (I 125 k).toNat ≤ 255 := fun k hk => by have a := t3 k hk; omega
  have hbt : ∀ k, k < n → I 56 k = sbyte (((I 125 k).toNat : Nat) : Int) ∧ (I 125 k).toNat ≤ 255 := fun k hk => by have a := t3 k hk; rw [← (hbr k hk).1]; exact ⟨a.2.2, (hbr k hk).2⟩
  obtain ⟨NM, nm⟩ := nm_get kk
  have nk := wk_nS hk
  have w0 := hk.1
  unfold wk0 at w0
  have o6 : I 6 6 = (nS (lw I) : Int) := by rw [kk.2.1.2.2.2.2.2.1]; exact nk.1
  have hm : nmC I NM (nS (lw I)) := ⟨o6, nk.2, fun s hs => ⟨(nm s hs).1, (nm s hs).2.1⟩⟩
  have hm3 : ∀ s, s < nS (lw I) → letOk (NM (0 + s)) ∧ I 130 (0 + s) = (nm27 (NM (0 + s)) : Int) := fun s hs => by rw [Nat.zero_add]; exact ⟨(nm s hs).1, (nm s hs).2.2⟩
  obtain ⟨P, hP⟩ : ∃ P : Nat, lw I 0 = (P : Int) + 1 := ⟨(lw I 0 - 1).toNat, by omega⟩
  have o1 : I 6 1 = (P : Int) + 1 := by rw [kk.2.1.1]; exact hP
  refine c_plan (b := fun k => (I 125 k).toNat) (NM := NM) (q := nS (lw I)) (P := P) hw n1 t1 h57 hbt hm o1 (by omega) hp hhC (fun er z J f => h J _ (f.1 1 (by omega)) (fun Q2 h2 => ?_)) (fun S z zl J f => h J _ (f.1 1 (by omega)) (fun Q2 h2 => ?_))
  · have e : ∀ a, 124 ≤ a → J a = I a := fun a ha => f.1 a (by omega)
    have el := sr_lw e
    refine r_plan (b := fun k => (I 125 k).toNat) (NM := NM) (q := nS (lw I)) (P := P) hw (sr_beg e hb) n1 (by rw [e 124 (by decide)]; exact t2) (fun k hk => by rw [e 125 (by decide)]; exact hbr k hk) (by rw [el]; exact nk.1) nk.2 (by rw [e 130 (by decide)]; exact hm3) (by rw [el]; exact hP) (by omega) (by rw [el]; exact hr2) hg.1 hH hG (sr_hs e hhR) (fun e2 z2 K r => ?_) (fun S2 z2 => by rw [z] at z2; cases z2)
    rw [z] at z2; cases z2
    exact h2 K (cp_fault hc f r)
  · have e : ∀ a, 124 ≤ a → J a = I a := fun a ha => f.1 a (by omega)
    have el := sr_lw e
    refine r_plan (b := fun k => (I 125 k).toNat) (NM := NM) (q := nS (lw I)) (P := P) hw (sr_beg e hb) n1 (by rw [e 124 (by decide)]; exact t2) (fun k hk => by rw [e 125 (by decide)]; exact hbr k hk) (by rw [el]; exact nk.1) nk.2 (by rw [e 130 (by decide)]; exact hm3) (by rw [el]; exact hP) (by omega) (by rw [el]; exact hr2) hg.1 hH hG (sr_hs e hhR) (fun e2 z2 => by rw [z] at z2; cases z2) (fun S2 z2 _ K r => ?_)
    rw [z] at z2; cases z2
    exact h2 K (cp_ptext hc f r (pAll_i nk.1 (by omega) 32 (0, []) (fun k hk => absurd hk (Nat.not_lt_zero k)) z) (gkt_push hH hgk hgH))

theorem p_judge (hw : wd sh R) (hc : cp X I) (h : ∀ J av, J 1 = I 1 → (∀ Q2 : am_R → am_M → Prop, (∀ K, cp X K → Q2 (am_yi av) (m, sl, sh, K, R)) → am_wp 999 246 0 [some (.inr (.inr 124)), none] [] (m, sl, sh, J, R) Q2) → Q (am_yi av) (m, sl, sh, J, R)) : am_wp 999 145 0 [some (.inr (.inr 4)), none] [] (m, sl, sh, I, R) Q := by
  obtain ⟨G, H, kk, hb, hp, hr, hr2, hg, hgk, hhC, hhR, hH, hG, hgH⟩ := cp_get hc
  have hk := kk.1
  refine c_judge hw kk hp hgk (fun J j1 j2 j3 => h J _ (j1 1 (by decide) (by decide) (by decide)) (fun Q2 h2 => ?_))
  have e : ∀ a, 124 ≤ a → J a = I a := fun a ha => j1 a (by omega) (by omega) (by omega)
  have el := sr_lw e
  refine r_judge hw (sr_beg e hb) (by rw [el]; exact hk) (by rw [el]; exact hr2) hg (by rw [el]; exact hgk) (fun K k1 k2 k3 k4 => ?_)
  have f : ∀ a, ¬ (a = 4 ∨ a = 62 ∨ a = 63 ∨ a = 124 ∨ a = 126) → K a = I a := fun a ha => by rw [k1 a (by omega) (by omega), j1 a (by omega) (by omega) (by omega)]
  have g : ∀ j, j ≠ 0 → j ≠ 23 → j ≠ 26 → K 124 j = I 124 j := fun j a1 a2 a3 => by rw [k2 j a1 a2 a3, e 124 (by decide)]
  have K4 : K 4 = J 4 := k1 4 (by decide) (by decide)
  have F := hc.2.2.2.2.2.2.2.2.1
  rw [el] at k4 ⊢
  exact h2 K (cp_mix hc (fun a ha => f a (by omega)) (by rw [f 92 (by omega)]) (by rw [f 108 (by omega)]) (g 22 (by decide) (by decide) (by decide)) (ns_tr (by rw [e 124 (by decide)]) (e 126 (by decide)) k3)
    (Or.inl ⟨by rw [f 55 (by omega)], g 2 (by decide) (by decide) (by decide), f 125 (by omega), f 56 (by omega)⟩)
    (Or.inl ⟨by rw [K4, j2 15 (by decide)], g 29 (by decide) (by decide) (by decide), f 135 (by omega), f 89 (by omega)⟩)
    (Or.inr ⟨by rw [K4, j2 16 (by decide), g 10 (by decide) (by decide) (by decide)]; exact F.1, by rw [K4, j3, k4]⟩)
    (Or.inl ⟨by rw [f 80 (by omega)], g 49 (by decide) (by decide) (by decide), f 85 (by omega), f 153 (by omega)⟩)
    (Or.inl ⟨by rw [f 86 (by omega)], g 53 (by decide) (by decide) (by decide), f 88 (by omega), f 156 (by omega)⟩))

theorem p_write (hw : wd sh R) (hc : cp X I) (h : ∀ J av, J 1 = I 1 → (∀ Q2 : am_R → am_M → Prop, (∀ K, cp X K → Q2 (am_yi av) (m, sl, sh, K, R)) → am_wp 999 259 0 [some (.inr (.inr 124)), none, none] [] (m, sl, sh, J, R) Q2) → Q (am_yi av) (m, sl, sh, J, R)) : am_wp 999 154 0 [some (.inr (.inr 4)), none, none] [] (m, sl, sh, I, R) Q := by
  obtain ⟨G, H, kk, hb, hp, hr, hr2, hg, hgk, hhC, hhR, hH, hG, hgH⟩ := cp_get hc
  have hk := kk.1
  obtain ⟨NM, nm⟩ := nm_get kk
  have nk := wk_nS hk
  refine c_write (ls := NM) hw kk hp hgk (fun s hs => ⟨(nm s hs).1, (nm s hs).2.1⟩) (fun J j1 j2 => h J _ (j1.1 1 (by decide) (by decide)) (fun Q2 h2 => ?_))
  have e : ∀ a, 124 ≤ a → J a = I a := fun a ha => j1.1 a (by omega) (by omega)
  refine r_write (ls := NM) hw (by rw [e 126 (by decide)]; exact hr) hg (fun k hk2 => ?_) (fun K k1 k2 => ?_)
  · have a1 := hg.2 k hk2
    have a2 := (hgk k hk2).1
    rw [nk.1] at a2
    have a3 := nm (gS G k).toNat (by omega)
    rw [e 130 (by decide)]
    exact ⟨a3.1, a3.2.2⟩
  · have f : ∀ a, ¬ (a = 4 ∨ a = 89 ∨ a = 124 ∨ a = 135 ∨ a = 136) → K a = I a := fun a ha => by rw [k1.1 a (by omega) (by omega) (by omega), am_upO (by omega), j1.1 a (by omega) (by omega)]
    have g : ∀ j, j ≠ 0 → j ≠ 29 → K 124 j = I 124 j := fun j a1 a2 => by rw [k1.2 j a2, am_upS, am_stO a1, e 124 (by decide)]
    have K4 : K 4 = J 4 := by rw [k1.1 4 (by decide) (by decide) (by decide), am_upO (by decide)]
    have K89 : K 89 = J 89 := by rw [k1.1 89 (by decide) (by decide) (by decide), am_upO (by decide)]
    have wl : ∀ k, k < G.length → letOk (NM (gS G k).toNat) := fun k hk2 => by
      have a1 := hg.2 k hk2
      have a2 := (hgk k hk2).1
      rw [nk.1] at a2
      exact (nm (gS G k).toNat (by omega)).1
    obtain ⟨x1, x2, x3⟩ := j2
    obtain ⟨y1, y2, y3⟩ := k2
    exact h2 K (cp_mix hc (fun a ha => f a (by omega)) (by rw [f 92 (by omega)]) (by rw [f 108 (by omega)]) (g 22 (by decide) (by decide)) (Or.inl ⟨g 23 (by decide) (by decide), f 126 (by omega)⟩)
      (Or.inl ⟨by rw [f 55 (by omega)], g 2 (by decide) (by decide), f 125 (by omega), f 56 (by omega)⟩)
      (Or.inr ⟨_, x2, by rw [K4]; exact x1, y1, fun i hi => by rw [K89, x3 i hi, y3 i hi]; have wb := wrT_by hg wl G.length (Nat.le_refl _) i hi; exact ⟨wb.1, wb.2, rfl⟩⟩)
      (Or.inl ⟨by rw [K4, j1.2 16 (by decide)], g 10 (by decide) (by decide), by rw [K4, j1.2 17 (by decide)], g 26 (by decide) (by decide)⟩)
      (Or.inl ⟨by rw [f 80 (by omega)], g 49 (by decide) (by decide), f 85 (by omega), f 153 (by omega)⟩)
      (Or.inl ⟨by rw [f 86 (by omega)], g 53 (by decide) (by decide), f 88 (by omega), f 156 (by omega)⟩))

theorem p_hotel {n u a : Int} (hw : wd sh R) (hc : cp X I) (h : ∀ J av, J 1 = I 1 → (∀ Q2 : am_R → am_M → Prop, (∀ K, cp X K → Q2 (am_yi av) (m, sl, sh, K, R)) → am_wp 999 300 0 [some (.inr (.inr 124)), some (.inl n), some (.inl u), some (.inl a), none, none, none, none, none, none] [] (m, sl, sh, J, R) Q2) → Q (am_yi av) (m, sl, sh, J, R)) : am_wp 999 174 0 [some (.inr (.inr 4)), some (.inl n), some (.inl u), some (.inl a), none, none] [] (m, sl, sh, I, R) Q := by
  obtain ⟨G, H, kk, hb, hp, hr, hr2, hg, hgk, hhC, hhR, hH, hG, hgH⟩ := cp_get hc
  have hk := kk.1
  refine c_hotel hw kk (fun z => h I _ rfl (fun Q2 h2 => r_hotel hw hb hk (fun _ K q => h2 K (cp_rq hc q)) (fun z2 => absurd z2 z))) (fun z J D j1 j2 j3 j4 => h J _ (j1 1 (by decide) (by decide) (by decide)) (fun Q2 h2 => ?_))
  have e : ∀ a, 124 ≤ a → J a = I a := fun a ha => j1 a (by omega) (by omega) (by omega)
  have el := sr_lw e
  have n3 := wk_nK hk
  have zz := z
  unfold hotOk at zz
  have fw := fewN_le (by omega) zz.2.2.2.2.2.2.1
  refine r_hotel hw (sr_beg e hb) (by rw [el]; exact hk) (fun z2 => absurd z (by rw [el] at z2; exact z2)) (fun _ K E k1 k2 k3 k4 k5 k6 => ?_)
  rw [el] at k4 k5 k6
  have eD := hT_eqk (k := 0) (p := (fewN n u a).toNat) hk (by omega) (by decide) (by decide) j2 k4 (by omega) (Nat.le_refl _)
  rw [Nat.mul_zero, Nat.zero_add] at eD
  rw [← eD]
  have f : ∀ a, ¬ (86 ≤ a ∧ a ≤ 88 ∨ a = 124 ∨ a = 126 ∨ a = 155 ∨ a = 156) → K a = I a := fun a ha => by rw [k1 a (by omega), j1 a (by omega) (by omega) (by omega)]
  have g : ∀ j, j ≠ 0 → j ≠ 23 → j ≠ 53 → K 124 j = I 124 j := fun j a1 a2 a3 => by rw [k2 j a1 a2 a3, e 124 (by decide)]
  exact h2 K (cp_mix hc (fun a ha => f a (by omega)) (by rw [f 92 (by omega)]) (by rw [f 108 (by omega)]) (g 22 (by decide) (by decide) (by decide)) (ns_tr (by rw [e 124 (by decide)]) (e 126 (by decide)) k3)
    (Or.inl ⟨by rw [f 55 (by omega)], g 2 (by decide) (by decide) (by decide), f 125 (by omega), f 56 (by omega)⟩)
    (Or.inl ⟨by rw [f 4 (by omega)], g 29 (by decide) (by decide) (by decide), f 135 (by omega), f 89 (by omega)⟩)
    (Or.inl ⟨by rw [f 4 (by omega)], g 10 (by decide) (by decide) (by decide), by rw [f 4 (by omega)], g 26 (by decide) (by decide) (by decide)⟩)
    (Or.inl ⟨by rw [f 80 (by omega)], g 49 (by decide) (by decide) (by decide), f 85 (by omega), f 153 (by omega)⟩)
    (Or.inr ⟨nK (lw I), n3.2, by rw [k1 86 (by omega)]; exact j3, k5, fun k hk2 => by rw [k1 88 (by omega), j4 k hk2, k6 k hk2, hbt_cg hk (by omega) (by decide) (by decide) j2 k4 hk2]⟩))

theorem p_served {x : Int} (hw : wd sh R) (hc : cp X I) (h : ∀ J av, J 1 = I 1 → (∀ Q2 : am_R → am_M → Prop, (∀ K, cp X K → Q2 (am_yi av) (m, sl, sh, K, R)) → am_wp 999 297 0 [some (.inr (.inr 124)), some (.inl x), none, none, none, none, none, none, none, none] [] (m, sl, sh, J, R) Q2) → Q (am_yi av) (m, sl, sh, J, R)) : am_wp 999 176 0 [some (.inr (.inr 4)), some (.inl x)] [] (m, sl, sh, I, R) Q := by
  obtain ⟨G, H, kk, hb, hp, hr, hr2, hg, hgk, hhC, hhR, hH, hG, hgH⟩ := cp_get hc
  have hk := kk.1
  obtain ⟨P, hP⟩ : ∃ P : Nat, lw I 0 = (P : Int) := ⟨(lw I 0).toNat, by have := hk.1; unfold wk0 at this; omega⟩
  have n3 := wk_nG hk
  refine c_served (n := nG (lw I)) hw kk rfl hP (fun z => h I _ rfl (fun Q2 h2 => r_served (n := nG (lw I)) hw hb hk rfl hP (fun _ K q => h2 K (cp_rq hc q)) (fun u z2 _ _ => absurd z (by omega)))) (fun u z z1 z2 J a B j1 j2 j3 j4 j5 => h J _ (j1 1 (by omega)) (fun Q2 h2 => ?_))
  have e : ∀ a, 124 ≤ a → J a = I a := fun a ha => j1 a (by omega)
  have el := sr_lw e
  refine r_served (n := nG (lw I)) (P := P) hw (sr_beg e hb) (by rw [el]; exact hk) (by rw [el]) (by rw [el]; exact hP) (fun z3 => absurd z3 (by omega)) (fun u2 y _ _ K b A k1 k2 k3 k4 k5 k6 k7 => ?_)
  have eu : u2 = u := by omega
  subst eu
  rw [el] at k5 k6
  obtain ⟨e1, e2⟩ := gz_both hk rfl hP ⟨z1, z2⟩ j3 j4 k5 k6
  rw [e2]
  exact h2 K (cp_served hc j1 j2 n3.2 k1 k2 k3 k4 (fun g hg => by rw [j5 g hg, k7 g hg, e1 g hg]))

theorem p_image {k : Int} (hw : wd sh R) (hc : cp X I) (h : ∀ J av, J 1 = I 1 → (∀ Q2 : am_R → am_M → Prop, (∀ K, cp X K → Q2 (am_yi av) (m, sl, sh, K, R)) → am_wp 999 323 0 [some (.inr (.inr 124)), some (.inl k), none] [] (m, sl, sh, J, R) Q2) → Q (am_yi av) (m, sl, sh, J, R)) : am_wp 999 186 0 [some (.inr (.inr 4)), some (.inl k)] [] (m, sl, sh, I, R) Q := by
  obtain ⟨G, H, kk, hb, hp, hr, hr2, hg, hgk, hhC, hhR, hH, hG, hgH⟩ := cp_get hc
  have hk := kk.1
  have hs := hc.2.2.2.1
  refine c_image hw kk hp hs (fun z => h I _ rfl (fun Q2 h2 => r_image hw hb (fun _ K q => h2 K (cp_rq hc q)) (fun z2 => absurd z2 z))) (fun z J f => h J _ (f.1 1 (by omega)) (fun Q2 h2 => ?_))
  have e : ∀ a, 124 ≤ a → J a = I a := fun a ha => f.1 a (by omega)
  exact r_image hw (sr_beg e hb) (fun z2 => absurd z z2) (fun _ K r => h2 K (cp_image (by omega) hc hr hgk f r))

theorem p_restore {k : Int} (hw : wd sh R) (hc : cp X I) (h : ∀ J av, J 1 = I 1 → (∀ Q2 : am_R → am_M → Prop, (∀ K, cp X K → Q2 (am_yi av) (m, sl, sh, K, R)) → am_wp 999 324 0 [some (.inr (.inr 124)), some (.inl k), none] [] (m, sl, sh, J, R) Q2) → Q (am_yi av) (m, sl, sh, J, R)) : am_wp 999 187 0 [some (.inr (.inr 4)), some (.inl k)] [] (m, sl, sh, I, R) Q := by
  obtain ⟨G, H, kk, hb, hp, hr, hr2, hg, hgk, hhC, hhR, hH, hG, hgH⟩ := cp_get hc
  have hk := kk.1
  obtain ⟨i0, i1⟩ := hc.2.2.2.2.2.1
  have hI : ∀ j, j < 2 → cpI I j := fun j hj => by
    rcases (show j = 0 ∨ j = 1 by omega) with rfl | rfl
    · exact i0
    · exact i1
  have hf : ∀ j, j < 2 → I 133 j = 0 ∨ I 133 j = 1 := fun j hj => (hI j hj).2.1
  have hf2 : ∀ j, j < 2 → I (92 + 16 * j) 3 = 0 ∨ I (92 + 16 * j) 3 = 1 := fun j hj => by rw [(hI j hj).1]; exact hf j hj
  by_cases z : 0 ≤ k ∧ k ≤ 1 ∧ I 133 k.toNat = 1
  · have hj : k.toNat < 2 := by omega
    obtain ⟨c1, c2, c3⟩ := hI _ hj
    obtain ⟨d1, ⟨G', d2, d3, d4⟩, d5⟩ := c3 z.2.2
    refine c_restore hw hf2 (fun z2 => absurd z (by rw [c1] at z2; exact z2)) (fun _ => ⟨d1, d2, d5⟩) (fun _ J f => h J _ (f.1 1 (by omega)) (fun Q2 h2 => ?_))
    have e : ∀ a, 124 ≤ a → J a = I a := fun a ha => f.1 a (by omega)
    refine r_restore hw (sr_beg e hb) (by rw [e 133 (by decide)]; exact hf) (fun z2 => absurd z (by rw [e 133 (by decide)] at z2; exact z2)) (fun _ K r => h2 K (cp_restore hj hc d3 d4 f r))
  · have zc : ¬ (0 ≤ k ∧ k ≤ 1 ∧ I (92 + 16 * k.toNat) 3 = 1) := fun hc2 => z ⟨hc2.1, hc2.2.1, by rw [← (hI k.toNat (by omega)).1]; exact hc2.2.2⟩
    exact c_restore (W := fun _ => 0) (N := fun _ => 0) (G := []) hw hf2 (fun _ => h I _ rfl (fun Q2 h2 => r_restore hw hb hf (fun _ K q => h2 K (cp_rq hc q)) (fun z2 => absurd z2 z))) (fun z2 => absurd z2 zc) (fun z2 => absurd z2 zc)

theorem p_brown {t p : Int} (hw : wd sh R) (hc : cp X I) (hs2 : sh 2 = (32, 36)) (h : ∀ J av, J 1 = I 1 → (∀ Q2 : am_R → am_M → Prop, (∀ K, cp X K → Q2 (am_yj av) (m, sl, sh, K, R)) → am_wp 999 303 0 [some (.inr (.inr 124)), some (.inl t), some (.inl p), none, none, none, none, none, none] [] (m, sl, sh, J, R) Q2) → Q (am_yj av) (m, sl, sh, J, R)) : am_wp 999 180 0 [some (.inr (.inr 4)), some (.inl t), some (.inl p), none, none, none, none, none] [] (m, sl, sh, I, R) Q := by
  obtain ⟨G, H, kk, hb, hp, hr, hr2, hg, hgk, hhC, hhR, hH, hG, hgH⟩ := cp_get hc
  have hk := kk.1
  obtain ⟨n, n1, t1, t2, t3⟩ := hc.2.2.2.2.2.2.1
  have hbr : ∀ k, k < n → (I 125 k).toNat ≤ 255 ∧ I 125 k = (((I 125 k).toNat : Nat) : Int) := fun k hk => by have a := t3 k hk; omega
  have hbt : ∀ k, k < n → (I 125 k).toNat ≤ 255 ∧ I 56 k = sbyte (((I 125 k).toNat : Nat) : Int) := fun k hk => by have a := t3 k hk; rw [← (hbr k hk).2]; exact ⟨(hbr k hk).1, a.2.2⟩
  have fin : ∀ J K, brFC I J → brFR J K → cp X K := fun J K f r => by
    obtain ⟨f1, f2, f3⟩ := f
    obtain ⟨r1, r2, r3⟩ := r
    refine cp_tape hc (fun a ha => by rw [r1 a (by omega) (by omega) (by omega), f1 a (by omega) (by omega) (by omega)]) (fun j a1 a2 => by rw [r2 j a1 a2, f1 124 (by decide) (by decide) (by decide)]) ⟨0, by decide, by rw [r1 55 (by decide) (by decide) (by decide)]; exact f3, r3, fun i hi => absurd hi (Nat.not_lt_zero i)⟩
  refine c_brown (tb := fun k => (I 125 k).toNat) hw hs2 hc.1.2.1 n1 t1 hbt (fun z J f => h J _ (f.1 1 (by decide) (by decide) (by decide)) (fun Q2 h2 => ?_)) (fun z J f => h J _ (f.1 1 (by decide) (by decide) (by decide)) (fun Q2 h2 => ?_))
  · have e : ∀ a, 124 ≤ a → J a = I a := fun a ha => f.1 a (by omega) (by omega) (by omega)
    exact r_brown (tb := fun k => (I 125 k).toNat) hw n1 (by rw [e 124 (by decide)]; exact t2) (by rw [e 125 (by decide)]; exact hbr) (fun _ K r => h2 K (fin J K f r)) (fun z2 => absurd z2 z)
  · have e : ∀ a, 124 ≤ a → J a = I a := fun a ha => f.1 a (by omega) (by omega) (by omega)
    exact r_brown (tb := fun k => (I 125 k).toNat) hw n1 (by rw [e 124 (by decide)]; exact t2) (by rw [e 125 (by decide)]; exact hbr) (fun z2 => absurd z z2) (fun _ K r => h2 K (fin J K f r))

theorem p_said {k : Int} (hw : wd sh R) (hc : cp X I) (h : ∀ J av, J 1 = I 1 → (∀ Q2 : am_R → am_M → Prop, (∀ K, cp X K → Q2 (am_yi av) (m, sl, sh, K, R)) → am_wp 999 322 0 [some (.inr (.inr 124)), some (.inl k), none, none] [] (m, sl, sh, J, R) Q2) → Q (am_yi av) (m, sl, sh, J, R)) : am_wp 999 185 0 [some (.inr (.inr 4)), some (.inl k), none, none, none] [] (m, sl, sh, I, R) Q := by
  obtain ⟨G, H, kk, hb, hp, hr, hr2, hg, hgk, hhC, hhR, hH, hG, hgH⟩ := cp_get hc
  have hk := kk.1
  have n1 := wk_nS hk
  rcases hc.2.2.2.1 with ⟨s1, s2⟩ | ⟨s1, n, a1, a2, a3, a4, a5, a6⟩
  · have z : I 126 2059 = 0 := by
      rcases hb with ⟨b1, b2⟩ | b1
      · rw [b2]
      · unfold lw at s1; rw [b1] at s1; exact s1
    exact c_said0 hw s2 (h I _ rfl (fun Q2 h2 => r_said0 hw z (h2 _ (cp_rq hc rq_thrown))))
  · have b1 : lw I = I 126 := by
      unfold lw
      rcases hb with ⟨b1, b2⟩ | b1
      · unfold lw at s1; rw [b1, if_pos rfl] at s1; exact absurd s1 (by decide)
      · rw [b1]; rfl
    have wf : smW (I 17) n := by
      refine ⟨fun i hi => ⟨fun h12 => ?_, fun h15 => ?_⟩, a5⟩
      · have nd : sx_node (I 17) (I 18) (I 19) (lw I 5) (fun j => lw I (2061 + j)) i := a6 i hi
        rcases nd with ⟨-, -, x, r, e, -⟩ | ⟨c, -⟩ | ⟨c, -⟩ | ⟨c, -⟩ | ⟨c, -⟩ | ⟨c, -⟩
        · exact ⟨x, r, e⟩
        all_goals exact absurd h12 (by omega)
      · have nd : sx_node (I 17) (I 18) (I 19) (lw I 5) (fun j => lw I (2061 + j)) i := a6 i hi
        rcases nd with ⟨c, -⟩ | ⟨-, y, x, r, e, -⟩ | ⟨c, -⟩ | ⟨c, -⟩ | ⟨c, -⟩ | ⟨c, -⟩
        · exact absurd h15 (by omega)
        · exact ⟨y, x, r, e⟩
        all_goals exact absurd h15 (by omega)
    refine c_said hw kk hp a3 a1 a2 wf (fun J j1 => h J _ (j1 1 (by decide)) (fun Q2 h2 => ?_))
    have e : ∀ a, 124 ≤ a → J a = I a := fun a ha => j1 a (by omega)
    have c := cp_cq hc (J := J) ⟨fun a ha => j1 a (by omega), by rw [j1 4 (by decide)], by rw [j1 4 (by decide)], by rw [j1 4 (by decide)], by rw [j1 55 (by decide)], by rw [j1 80 (by decide)], by rw [j1 86 (by decide)], by rw [j1 92 (by decide)], by rw [j1 108 (by decide)]⟩
    unfold smM at h2
    rw [saidV_c n1.2] at h2
    have E126 : J 126 = lw I := by rw [e 126 (by decide), b1]
    refine r_said (n := n) (c := I 17) (g := I 18) (x := I 19) hw (by rw [E126]; exact hr2) hg (by rw [E126]; exact wk_w hk) a1 a2 (by rw [E126]; exact a6) (by rw [E126]; exact s1) (by rw [E126]; exact a4) ?_
    rw [E126]
    exact h2 _ (cp_rq c rq_thrown)

end PAIRS
