/-! THE LAW'S CASES: what changes the PLAN -/
theorem gkt_app {W : Nat → Int} {G : List Go} {s u b l n : Int} (h : gkt W G) (hk : wk W) (z : addOk W G s u b l n) : gkt W (G ++ [(s, u, b, l, n)]) := by
  intro k hk2
  rw [List.length_append] at hk2
  have hk2 : k < G.length + 1 := hk2
  have w0 := hk.1
  unfold wk0 at w0
  unfold addOk at z
  unfold gS gL
  by_cases e : k < G.length
  · rw [gs_app e]; exact h k e
  · rw [show k = G.length by omega, gs_app2]
    dsimp only
    omega
theorem gkt_del {W : Nat → Int} {G : List Go} {k : Nat} (h : gkt W G) (hk : k < G.length) : gkt W (G.eraseIdx k) := by
  intro j hj
  rw [List.length_eraseIdx_of_lt hk] at hj
  unfold gS gL
  rw [gs_del]
  split
  · exact h j (by omega)
  · exact h (j + 1) (by omega)
theorem gkt_lat {W : Nat → Int} {G : List Go} {k : Nat} {y : Int} (h : gkt W G) (hk : k < G.length) : gkt W (latG G k y) := by
  intro j hj
  unfold latG at hj ⊢
  rw [List.length_set] at hj
  unfold gS gL
  by_cases e : j = k
  · subst e; rw [gs_set hj]; exact h j hj
  · rw [gs_set2 e]; exact h j hj
section PAIRS
variable {m sl : Nat} {sh : Nat → Nat × Nat} {I : Nat → Nat → Int} {R : Nat → Nat → Nat} {Q : am_R → am_M → Prop} {X : Nat → Int}

theorem p_add {s u b l n : Int} (hw : wd sh R) (hc : cp X I) (h : ∀ J av, J 1 = I 1 → (∀ Q2 : am_R → am_M → Prop, (∀ K, cp X K → Q2 (am_yi av) (m, sl, sh, K, R)) → am_wp 999 282 0 [some (.inr (.inr 124)), some (.inl s), some (.inl u), some (.inl b), some (.inl l), some (.inl n)] [] (m, sl, sh, J, R) Q2) → Q (am_yi av) (m, sl, sh, J, R)) : am_wp 999 165 0 [some (.inr (.inr 4)), some (.inl s), some (.inl u), some (.inl b), some (.inl l), some (.inl n), none, none] [] (m, sl, sh, I, R) Q := by
  obtain ⟨G, H, kk, hb, hp, hr, hr2, hg, hgk, hhC, hhR, hH, hG, hgH⟩ := cp_get hc
  have hk := kk.1
  refine c_add  hw kk hp hhC (fun z => h I _ rfl (fun Q2 h2 => r_add hw hb hk hr2 hg hH hG hhR (fun _ K q => h2 K (cp_rq hc q)) (fun z2 => absurd z2 z))) (fun z J q pj hj => h J _ (q.1 1 (by omega)) (fun Q2 h2 => ?_))
  have e : ∀ a, 124 ≤ a → J a = I a := fun a ha => q.1 a (by omega)
  have el := sr_lw e
  refine r_add hw (sr_beg e hb) (by rw [el]; exact hk) (by rw [el]; exact hr2) hg hH hG (sr_hs e hhR) (fun z2 => absurd z (by rw [el] at z2; exact z2)) (fun _ K r pk hk2 => ?_)
  exact h2 K (cp_plan hc q pj hj r pk hk2 (gkt_app hgk hk z) (gkt_push hH hgk hgH))

theorem p_drop {k : Int} (hw : wd sh R) (hc : cp X I) (h : ∀ J av, J 1 = I 1 → (∀ Q2 : am_R → am_M → Prop, (∀ K, cp X K → Q2 (am_yi av) (m, sl, sh, K, R)) → am_wp 999 283 0 [some (.inr (.inr 124)), some (.inl k), none] [] (m, sl, sh, J, R) Q2) → Q (am_yi av) (m, sl, sh, J, R)) : am_wp 999 166 0 [some (.inr (.inr 4)), some (.inl k)] [] (m, sl, sh, I, R) Q := by
  obtain ⟨G, H, kk, hb, hp, hr, hr2, hg, hgk, hhC, hhR, hH, hG, hgH⟩ := cp_get hc
  have hk := kk.1
  refine c_drop  hw hp hhC (fun z => h I _ rfl (fun Q2 h2 => r_drop hw hb hr hg hH hG hhR (fun _ K q => h2 K (cp_rq hc q)) (fun z2 => absurd z2 z))) (fun z J q pj hj => h J _ (q.1 1 (by omega)) (fun Q2 h2 => ?_))
  have e : ∀ a, 124 ≤ a → J a = I a := fun a ha => q.1 a (by omega)
  have el := sr_lw e
  refine r_drop hw (sr_beg e hb) (by rw [e 126 (by decide)]; exact hr) hg hH hG (sr_hs e hhR) (fun z2 => absurd z (by exact z2)) (fun _ K r pk hk2 => ?_)
  exact h2 K (cp_plan hc q pj hj r pk hk2 (gkt_del hgk (by omega)) (gkt_push hH hgk hgH))

theorem p_later {k y : Int} (hw : wd sh R) (hc : cp X I) (hy : -2147483648 ≤ y ∧ y ≤ 2147483647) (h : ∀ J av, J 1 = I 1 → (∀ Q2 : am_R → am_M → Prop, (∀ K, cp X K → Q2 (am_yi av) (m, sl, sh, K, R)) → am_wp 999 284 0 [some (.inr (.inr 124)), some (.inl k), some (.inl y)] [] (m, sl, sh, J, R) Q2) → Q (am_yi av) (m, sl, sh, J, R)) : am_wp 999 167 0 [some (.inr (.inr 4)), some (.inl k), some (.inl y), none, none] [] (m, sl, sh, I, R) Q := by
  obtain ⟨G, H, kk, hb, hp, hr, hr2, hg, hgk, hhC, hhR, hH, hG, hgH⟩ := cp_get hc
  have hk := kk.1
  refine c_later hy hw hp hhC (fun z => h I _ rfl (fun Q2 h2 => r_later hw hb hr hg hH hG hhR (fun _ K q => h2 K (cp_rq hc q)) (fun z2 => absurd z2 z))) (fun z J q pj hj => h J _ (q.1 1 (by omega)) (fun Q2 h2 => ?_))
  have e : ∀ a, 124 ≤ a → J a = I a := fun a ha => q.1 a (by omega)
  have el := sr_lw e
  refine r_later hw (sr_beg e hb) (by rw [e 126 (by decide)]; exact hr) hg hH hG (sr_hs e hhR) (fun z2 => absurd z (by exact z2)) (fun _ K r pk hk2 => ?_)
  exact h2 K (cp_plan hc q pj hj r pk hk2 (gkt_lat hgk (by have := z.1; have := z.2.1; omega)) (gkt_push hH hgk hgH))

theorem p_several (hw : wd sh R) (hc : cp X I) (h : ∀ J av, J 1 = I 1 → (∀ Q2 : am_R → am_M → Prop, (∀ K, cp X K → Q2 (am_yi av) (m, sl, sh, K, R)) → am_wp 999 263 0 [some (.inr (.inr 124)), none, none, none, none, none, none] [] (m, sl, sh, J, R) Q2) → Q (am_yi av) (m, sl, sh, J, R)) : am_wp 999 159 0 [some (.inr (.inr 4)), none] [] (m, sl, sh, I, R) Q := by
  obtain ⟨G, H, kk, hb, hp, hr, hr2, hg, hgk, hhC, hhR, hH, hG, hgH⟩ := cp_get hc
  have hk := kk.1
  refine c_several  hw kk hp hhC (fun z => h I _ rfl (fun Q2 h2 => r_several hw hb hk hr2 hg hH hG hhR (fun _ K q => h2 K (cp_rq hc q)) (fun z2 => absurd z2 (by omega)))) (fun z J q pj hj => h J _ (q.1 1 (by omega)) (fun Q2 h2 => ?_))
  have e : ∀ a, 124 ≤ a → J a = I a := fun a ha => q.1 a (by omega)
  have el := sr_lw e
  refine r_several hw (sr_beg e hb) (by rw [el]; exact hk) (by rw [el]; exact hr2) hg hH hG (sr_hs e hhR) (fun z2 => absurd z (by rw [el] at z2; omega)) (fun _ K r pk hk2 => ?_)
  rw [el] at pk ⊢
  exact h2 K (cp_plan hc q pj hj r pk hk2 (sev_ok hk z).2.1 (gkt_push hH hgk hgH))

theorem p_masters (hw : wd sh R) (hc : cp X I) (h : ∀ J av, J 1 = I 1 → (∀ Q2 : am_R → am_M → Prop, (∀ K, cp X K → Q2 (am_yi av) (m, sl, sh, K, R)) → am_wp 999 269 0 [some (.inr (.inr 124)), none, none, none, none, none] [] (m, sl, sh, J, R) Q2) → Q (am_yi av) (m, sl, sh, J, R)) : am_wp 999 161 0 [some (.inr (.inr 4))] [] (m, sl, sh, I, R) Q := by
  obtain ⟨G, H, kk, hb, hp, hr, hr2, hg, hgk, hhC, hhR, hH, hG, hgH⟩ := cp_get hc
  have hk := kk.1
  refine c_masters (I 143) hw kk hp hhC (fun z => h I _ rfl (fun Q2 h2 => r_masters hw hb hk hr2 hg hH hG hhR (fun _ K q => h2 K (cp_rq hc q)) (fun z2 => absurd z2 (by omega)))) (fun z J q pj hj => h J _ (q.1 1 (by omega)) (fun Q2 h2 => ?_))
  have e : ∀ a, 124 ≤ a → J a = I a := fun a ha => q.1 a (by omega)
  have el := sr_lw e
  refine r_masters hw (sr_beg e hb) (by rw [el]; exact hk) (by rw [el]; exact hr2) hg hH hG (sr_hs e hhR) (fun z2 => absurd z (by rw [el] at z2; omega)) (fun _ K r pk hk2 => ?_)
  rw [el, e 143 (by decide)] at pk ⊢
  exact h2 K (cp_plan hc q pj hj r pk hk2 (msF_ok hk _).2 (gkt_push hH hgk hgH))

theorem p_cook {r : Int} (hw : wd sh R) (hc : cp X I) (h : ∀ J av, J 1 = I 1 → (∀ Q2 : am_R → am_M → Prop, (∀ K, cp X K → Q2 (am_yi av) (m, sl, sh, K, R)) → am_wp 999 280 0 [some (.inr (.inr 124)), some (.inl r)] [] (m, sl, sh, J, R) Q2) → Q (am_yi av) (m, sl, sh, J, R)) : am_wp 999 162 0 [some (.inr (.inr 4)), some (.inl r), none] [] (m, sl, sh, I, R) Q := by
  obtain ⟨G, H, kk, hb, hp, hr, hr2, hg, hgk, hhC, hhR, hH, hG, hgH⟩ := cp_get hc
  have hk := kk.1
  refine c_cook  hw kk hp hhC (fun z => h I _ rfl (fun Q2 h2 => r_cook hw hb hk hr2 hg hH hG hhR (fun _ K q => h2 K (cp_rq hc q)) (fun z2 => absurd z2 z))) (fun z J q pj hj => h J _ (q.1 1 (by omega)) (fun Q2 h2 => ?_))
  have e : ∀ a, 124 ≤ a → J a = I a := fun a ha => q.1 a (by omega)
  have el := sr_lw e
  refine r_cook hw (sr_beg e hb) (by rw [el]; exact hk) (by rw [el]; exact hr2) hg hH hG (sr_hs e hhR) (fun z2 => absurd z (by rw [el] at z2; exact z2)) (fun _ K r pk hk2 => ?_)
  rw [el] at pk ⊢
  exact h2 K (cp_plan hc q pj hj r pk hk2 (ckV_ok hk).2 (gkt_push hH hgk hgH))

theorem p_early (hw : wd sh R) (hc : cp X I) (h : ∀ J av, J 1 = I 1 → (∀ Q2 : am_R → am_M → Prop, (∀ K, cp X K → Q2 (am_yi av) (m, sl, sh, K, R)) → am_wp 999 287 0 [some (.inr (.inr 124)), none, none, none] [] (m, sl, sh, J, R) Q2) → Q (am_yi av) (m, sl, sh, J, R)) : am_wp 999 168 0 [some (.inr (.inr 4)), none, none, none] [] (m, sl, sh, I, R) Q := by
  obtain ⟨G, H, kk, hb, hp, hr, hr2, hg, hgk, hhC, hhR, hH, hG, hgH⟩ := cp_get hc
  have hk := kk.1
  refine c_early hw kk hp hgk hhC (fun z J q => h J _ (q.1 1 (by omega)) (fun Q2 h2 => ?_)) (fun z J q pj hj => h J _ (q.1 1 (by omega)) (fun Q2 h2 => ?_))
  · have e : ∀ a, 124 ≤ a → J a = I a := fun a ha => q.1 a (by omega)
    have el := sr_lw e
    exact r_early hw (sr_beg e hb) (by rw [el]; exact hk) (by rw [el]; exact hr2) hg (by rw [el]; exact hgk) hH hG (sr_hs e hhR) (fun _ K r => h2 K (cp_rq (cp_cq hc q) r)) (fun z2 => absurd z (by rw [el] at z2; omega))
  · have e : ∀ a, 124 ≤ a → J a = I a := fun a ha => q.1 a (by omega)
    have el := sr_lw e
    refine r_early hw (sr_beg e hb) (by rw [el]; exact hk) (by rw [el]; exact hr2) hg (by rw [el]; exact hgk) hH hG (sr_hs e hhR) (fun z2 => absurd z (by rw [el] at z2; omega)) (fun _ K r pk hk2 => ?_)
    rw [el] at pk ⊢
    exact h2 K (cp_plan hc q pj hj r pk hk2 (er_ok hg hgk G.length (Nat.le_refl _)).2.2.1 (gkt_push hH hgk hgH))

theorem p_undo (hw : wd sh R) (hc : cp X I) (h : ∀ J av, J 1 = I 1 → (∀ Q2 : am_R → am_M → Prop, (∀ K, cp X K → Q2 (am_yi av) (m, sl, sh, K, R)) → am_wp 999 241 0 [some (.inr (.inr 124)), none] [] (m, sl, sh, J, R) Q2) → Q (am_yi av) (m, sl, sh, J, R)) : am_wp 999 169 0 [some (.inr (.inr 4))] [] (m, sl, sh, I, R) Q := by
  obtain ⟨G, H, kk, hb, hp, hr, hr2, hg, hgk, hhC, hhR, hH, hG, hgH⟩ := cp_get hc
  have hk := kk.1
  refine c_undo hw hhC (fun z => h I _ rfl (fun Q2 h2 => r_undo hw hb hH hG hhR (fun _ K q => h2 K (cp_rq hc q)) (fun n z2 => by omega))) (fun n z J q pj hj => h J _ (q.1 1 (by omega)) (fun Q2 h2 => ?_))
  have e : ∀ a, 124 ≤ a → J a = I a := fun a ha => q.1 a (by omega)
  have el := sr_lw e
  refine r_undo hw (sr_beg e hb) hH hG (sr_hs e hhR) (fun z2 => by omega) (fun n2 z2 K r pk hk2 => ?_)
  have en : n2 = n := by omega
  subst en
  refine h2 K (cp_plan hc q pj hj r pk hk2 (hgH n2 (by omega)) (fun j hj2 => ?_))
  rw [List.length_take] at hj2
  have e2 : (H.take n2).getD j [] = H.getD j [] := by
    rw [List.getD_eq_getElem?_getD, List.getD_eq_getElem?_getD, List.getElem?_take, if_pos (by omega)]
  rw [e2]
  exact hgH j (by omega)

theorem p_one (hw : wd sh R) (hc : cp X I) (h : ∀ J av, J 1 = I 1 → (∀ Q2 : am_R → am_M → Prop, (∀ K, cp X K → Q2 (am_yi av) (m, sl, sh, K, R)) → am_wp 999 267 0 [some (.inr (.inr 124)), none, none, none, none, none, none] [] (m, sl, sh, J, R) Q2) → Q (am_yi av) (m, sl, sh, J, R)) : am_wp 999 160 0 [some (.inr (.inr 4)), none] [] (m, sl, sh, I, R) Q := by
  obtain ⟨G, H, kk, hb, hp, hr, hr2, hg, hgk, hhC, hhR, hH, hG, hgH⟩ := cp_get hc
  have hk := kk.1
  obtain ⟨P, hP⟩ : ∃ P : Nat, lw I 0 = (P : Int) := ⟨(lw I 0).toNat, by have := hk.1; unfold wk0 at this; omega⟩
  refine c_one hw kk hp hhC hP (fun z => h I _ rfl (fun Q2 h2 => r_one hw hb hk hP hr2 hg hH hG hhR (fun _ K q => h2 K (cp_rq hc q)) (fun a b => absurd ⟨a, b⟩ z))) (fun a b J p F Gn q pj hj ho => h J _ (q.1 1 (by omega)) (fun Q2 h2 => ?_))
  have e : ∀ a, 124 ≤ a → J a = I a := fun a ha => q.1 a (by omega)
  have el := sr_lw e
  have eZ := ozZ_eq (x := 9999) (y := 256) hk hP b (by decide) (by decide)
  have P4 := (ozQ_W hk hP b).2.2.2.1
  refine r_one hw (sr_beg e hb) (by rw [el]; exact hk) (by rw [el]; exact hP) (by rw [el]; exact hr2) hg hH hG (sr_hs e hhR) (fun z2 => absurd (And.intro a b) (by rw [el] at z2; exact z2)) (fun _ _ K p2 F2 G2 r pk hk2 ho2 => ?_)
  rw [el, eZ] at ho2
  rw [el, eZ]
  have eG := (ozG_u P4 _ _ _ _ _ _ _ ho ho2).2.2
  subst eG
  exact h2 K (cp_plan hc q pj hj r pk hk2 (oz_kt hk hP b ho) (gkt_push hH hgk hgH))

end PAIRS
