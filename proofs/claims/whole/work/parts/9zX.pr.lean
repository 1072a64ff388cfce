/-! THE LAW'S CASES: a method of the class, then the reference's -/
theorem sr_lw {I J : Nat → Nat → Int} (e : ∀ a, 124 ≤ a → J a = I a) : lw J = lw I := by
  unfold lw; rw [e 124 (by decide), e 126 (by decide)]
theorem sr_beg {I J : Nat → Nat → Int} (e : ∀ a, 124 ≤ a → J a = I a) (h : beg I) : beg J := by
  unfold beg at h ⊢; rw [e 124 (by decide), e 126 (by decide)]; exact h
theorem sr_hs {I J : Nat → Nat → Int} {H : List (List Go)} (e : ∀ a, 124 ≤ a → J a = I a) (h : hsR I H) : hsR J H := hsR_fr h (by rw [e 124 (by decide)]) (e 129 (by decide))
theorem cp_get {X : Nat → Int} {I : Nat → Nat → Int} (hc : cp X I) : ∃ G H, kit I 6 (lw I) (I 130) ∧ beg I ∧ pl I 14 G ∧ rf (pw (I 126)) G ∧ rf (pw (lw I)) G ∧ gok G ∧ gkt (lw I) G ∧ hsC I H ∧ hsR I H ∧ H.length ≤ 8 ∧ (∀ j, j < H.length → (H.getD j []).length ≤ 400) ∧ ∀ j, j < H.length → gkt (lw I) (H.getD j []) := by
  obtain ⟨-, ⟨k1, k2⟩, ⟨G, g1, g2, g3⟩, -, ⟨H, h1, h2, h3⟩, -⟩ := hc
  refine ⟨G, H, k1, k2, g1, g2, rf_lw k2 g2, pl_gok g1, g3, h1, h2, ?_, fun j hj => ?_, h3⟩
  · obtain ⟨o, -, a, -⟩ := h1; exact a
  · obtain ⟨o, -, -, -, -, a⟩ := h1; exact (a j hj).2.1
theorem gkt_push {W : Nat → Int} {G : List Go} {H : List (List Go)} (hH : H.length ≤ 8) (g : gkt W G) (h : ∀ j, j < H.length → gkt W (H.getD j [])) : ∀ j, j < (hpush H G).length → gkt W ((hpush H G).getD j []) := by
  intro j hj
  have hl := hpush_len (G := G) hH
  rw [hpush_at hH hj]
  split
  · exact g
  · split
    · rename_i a b
      rw [if_pos b] at hl
      exact h j (by omega)
    · rename_i a b
      rw [if_neg b] at hl
      exact h (j + 1) (by omega)
section PAIRS
variable {m sl : Nat} {sh : Nat → Nat × Nat} {I : Nat → Nat → Int} {R : Nat → Nat → Nat} {Q : am_R → am_M → Prop} {X : Nat → Int}

theorem p_go {k w : Int} (hw : wd sh R) (hc : cp X I) (h : ∀ J av, J 1 = I 1 → (∀ Q2 : am_R → am_M → Prop, (∀ K, cp X K → Q2 (am_yi av) (m, sl, sh, K, R)) → am_wp 999 248 0 [some (.inr (.inr 124)), some (.inl k), some (.inl w)] [] (m, sl, sh, J, R) Q2) → Q (am_yi av) (m, sl, sh, J, R)) : am_wp 999 147 0 [some (.inr (.inr 4)), some (.inl k), some (.inl w)] [] (m, sl, sh, I, R) Q := by
  obtain ⟨G, H, kk, hb, hp, hr, hr2, hg, hgk, hhC, hhR, hH, hG, hgH⟩ := cp_get hc
  have hk := kk.1
  exact c_go hw hp (h I _ rfl (fun Q2 h2 => r_go hw hr hg (fun K q => h2 K (cp_rq hc q))))

theorem p_ends (hw : wd sh R) (hc : cp X I) (h : ∀ J av, J 1 = I 1 → (∀ Q2 : am_R → am_M → Prop, (∀ K, cp X K → Q2 (am_yi av) (m, sl, sh, K, R)) → am_wp 999 252 0 [some (.inr (.inr 124))] [] (m, sl, sh, J, R) Q2) → Q (am_yi av) (m, sl, sh, J, R)) : am_wp 999 149 0 [some (.inr (.inr 4))] [] (m, sl, sh, I, R) Q := by
  obtain ⟨G, H, kk, hb, hp, hr, hr2, hg, hgk, hhC, hhR, hH, hG, hgH⟩ := cp_get hc
  have hk := kk.1
  exact c_ends hw hp (h I _ rfl (fun Q2 h2 => r_ends hw hr hg (fun K q => h2 K (cp_rq hc q))))

theorem p_done (hw : wd sh R) (hc : cp X I) (h : ∀ J av, J 1 = I 1 → (∀ Q2 : am_R → am_M → Prop, (∀ K, cp X K → Q2 (am_yi av) (m, sl, sh, K, R)) → am_wp 999 254 0 [some (.inr (.inr 124)), none, none] [] (m, sl, sh, J, R) Q2) → Q (am_yi av) (m, sl, sh, J, R)) : am_wp 999 150 0 [some (.inr (.inr 4))] [] (m, sl, sh, I, R) Q := by
  obtain ⟨G, H, kk, hb, hp, hr, hr2, hg, hgk, hhC, hhR, hH, hG, hgH⟩ := cp_get hc
  have hk := kk.1
  exact c_done hw kk hp (h I _ rfl (fun Q2 h2 => r_done hw hb hk hr hg (fun K q => h2 K (cp_rq hc q))))

theorem p_on {t : Int} (hw : wd sh R) (hc : cp X I) (h : ∀ J av, J 1 = I 1 → (∀ Q2 : am_R → am_M → Prop, (∀ K, cp X K → Q2 (am_yi av) (m, sl, sh, K, R)) → am_wp 999 255 0 [some (.inr (.inr 124)), some (.inl t), none, none] [] (m, sl, sh, J, R) Q2) → Q (am_yi av) (m, sl, sh, J, R)) : am_wp 999 151 0 [some (.inr (.inr 4)), some (.inl t)] [] (m, sl, sh, I, R) Q := by
  obtain ⟨G, H, kk, hb, hp, hr, hr2, hg, hgk, hhC, hhR, hH, hG, hgH⟩ := cp_get hc
  have hk := kk.1
  exact c_on hw hp (h I _ rfl (fun Q2 h2 => r_on hw hr hg (fun K q => h2 K (cp_rq hc q))))

theorem p_bound {w : Int} (hw : wd sh R) (hc : cp X I) (h : ∀ J av, J 1 = I 1 → (∀ Q2 : am_R → am_M → Prop, (∀ K, cp X K → Q2 (am_yi av) (m, sl, sh, K, R)) → am_wp 999 264 0 [some (.inr (.inr 124)), some (.inl w), none, none] [] (m, sl, sh, J, R) Q2) → Q (am_yi av) (m, sl, sh, J, R)) : am_wp 999 144 0 [some (.inr (.inr 4)), some (.inl w)] [] (m, sl, sh, I, R) Q := by
  obtain ⟨G, H, kk, hb, hp, hr, hr2, hg, hgk, hhC, hhR, hH, hG, hgH⟩ := cp_get hc
  have hk := kk.1
  exact c_bound hw kk (h I _ rfl (fun Q2 h2 => r_bound hw hb hk (fun K q => h2 K (cp_rq hc q))))

theorem p_forgotten (hw : wd sh R) (hc : cp X I) (h : ∀ J av, J 1 = I 1 → (∀ Q2 : am_R → am_M → Prop, (∀ K, cp X K → Q2 (am_yi av) (m, sl, sh, K, R)) → am_wp 999 289 0 [some (.inr (.inr 124)), none] [] (m, sl, sh, J, R) Q2) → Q (am_yi av) (m, sl, sh, J, R)) : am_wp 999 153 0 [some (.inr (.inr 4)), none] [] (m, sl, sh, I, R) Q := by
  obtain ⟨G, H, kk, hb, hp, hr, hr2, hg, hgk, hhC, hhR, hH, hG, hgH⟩ := cp_get hc
  have hk := kk.1
  exact c_forgotten hw kk hp (h I _ rfl (fun Q2 h2 => r_forgotten hw hb hk hr hg (fun K q => h2 K (cp_rq hc q))))

theorem p_fewest {n u a : Int} (hw : wd sh R) (hc : cp X I) (h : ∀ J av, J 1 = I 1 → (∀ Q2 : am_R → am_M → Prop, (∀ K, cp X K → Q2 (am_yi av) (m, sl, sh, K, R)) → am_wp 999 291 0 [some (.inr (.inr 124)), some (.inl n), some (.inl u), some (.inl a)] [] (m, sl, sh, J, R) Q2) → Q (am_yi av) (m, sl, sh, J, R)) : am_wp 999 170 0 [some (.inr (.inr 4)), some (.inl n), some (.inl u), some (.inl a), none] [] (m, sl, sh, I, R) Q := by
  obtain ⟨G, H, kk, hb, hp, hr, hr2, hg, hgk, hhC, hhR, hH, hG, hgH⟩ := cp_get hc
  have hk := kk.1
  exact c_fewest hw (h I _ rfl (fun Q2 h2 => r_fewest hw  (fun K q => h2 K (cp_rq hc q))))

theorem p_alike {n k : Int} (hw : wd sh R) (hc : cp X I) (h : ∀ J av, J 1 = I 1 → (∀ Q2 : am_R → am_M → Prop, (∀ K, cp X K → Q2 (am_yi av) (m, sl, sh, K, R)) → am_wp 999 293 0 [some (.inr (.inr 124)), some (.inl n), some (.inl k)] [] (m, sl, sh, J, R) Q2) → Q (am_yi av) (m, sl, sh, J, R)) : am_wp 999 172 0 [some (.inr (.inr 4)), some (.inl n), some (.inl k)] [] (m, sl, sh, I, R) Q := by
  obtain ⟨G, H, kk, hb, hp, hr, hr2, hg, hgk, hhC, hhR, hH, hG, hgH⟩ := cp_get hc
  have hk := kk.1
  exact c_alike  (h I _ rfl (fun Q2 h2 => r_alike hw  (fun K q => h2 K (cp_rq hc q))))

theorem p_alikeAt {n k t p : Int} (hw : wd sh R) (hc : cp X I) (h : ∀ J av, J 1 = I 1 → (∀ Q2 : am_R → am_M → Prop, (∀ K, cp X K → Q2 (am_yi av) (m, sl, sh, K, R)) → am_wp 999 294 0 [some (.inr (.inr 124)), some (.inl n), some (.inl k), some (.inl t), some (.inl p), none] [] (m, sl, sh, J, R) Q2) → Q (am_yi av) (m, sl, sh, J, R)) : am_wp 999 173 0 [some (.inr (.inr 4)), some (.inl n), some (.inl k), some (.inl t), some (.inl p), none, none] [] (m, sl, sh, I, R) Q := by
  obtain ⟨G, H, kk, hb, hp, hr, hr2, hg, hgk, hhC, hhR, hH, hG, hgH⟩ := cp_get hc
  have hk := kk.1
  exact c_alikeAt hw (h I _ rfl (fun Q2 h2 => r_alikeAt hw  (fun K q => h2 K (cp_rq hc q))))

theorem p_fault (hw : wd sh R) (hc : cp X I) (h : ∀ J av, J 1 = I 1 → (∀ Q2 : am_R → am_M → Prop, (∀ K, cp X K → Q2 (am_yi av) (m, sl, sh, K, R)) → am_wp 999 227 0 [some (.inr (.inr 124))] [] (m, sl, sh, J, R) Q2) → Q (am_yi av) (m, sl, sh, J, R)) : am_wp 999 136 0 [some (.inr (.inr 4))] [] (m, sl, sh, I, R) Q := by
  obtain ⟨G, H, kk, hb, hp, hr, hr2, hg, hgk, hhC, hhR, hH, hG, hgH⟩ := cp_get hc
  have hk := kk.1
  have F := hc.2.2.2.2.2.2.2.2.1
  exact c_fault hw (h I _ rfl (fun Q2 h2 => r_fault hw (fun K q => by rw [← F.1]; exact h2 K (cp_rq hc q))))

theorem p_why (hw : wd sh R) (hc : cp X I) (h : ∀ J av, J 1 = I 1 → (∀ Q2 : am_R → am_M → Prop, (∀ K, cp X K → Q2 (am_yi av) (m, sl, sh, K, R)) → am_wp 999 247 0 [some (.inr (.inr 124))] [] (m, sl, sh, J, R) Q2) → Q (am_yi av) (m, sl, sh, J, R)) : am_wp 999 146 0 [some (.inr (.inr 4))] [] (m, sl, sh, I, R) Q := by
  obtain ⟨G, H, kk, hb, hp, hr, hr2, hg, hgk, hhC, hhR, hH, hG, hgH⟩ := cp_get hc
  have hk := kk.1
  have F := hc.2.2.2.2.2.2.2.2.1
  exact c_why hw (h I _ rfl (fun Q2 h2 => r_why hw (fun K q => by rw [← F.2]; exact h2 K (cp_rq hc q))))

theorem p_count {w : Int} (hw : wd sh R) (hc : cp X I) (h : ∀ J av, J 1 = I 1 → (∀ Q2 : am_R → am_M → Prop, (∀ K, cp X K → Q2 (am_yi av) (m, sl, sh, K, R)) → am_wp 999 325 0 [some (.inr (.inr 124)), some (.inl w)] [] (m, sl, sh, J, R) Q2) → Q (am_yi av) (m, sl, sh, J, R)) : am_wp 999 143 0 [some (.inr (.inr 4)), some (.inl w)] [] (m, sl, sh, I, R) Q := by
  obtain ⟨G, H, kk, hb, hp, hr, hr2, hg, hgk, hhC, hhR, hH, hG, hgH⟩ := cp_get hc
  have hk := kk.1
  obtain ⟨n, -, t1, t2, -⟩ := hc.2.2.2.2.2.2.1
  refine c_count hw kk hp (h I _ rfl (fun Q2 h2 => r_count hw hb hr2 (fun K q => ?_)))
  rw [t2, ← t1]
  exact h2 K (cp_rq hc q)

theorem p_byteAt {k : Int} (hw : wd sh R) (hc : cp X I) (h : ∀ J av, J 1 = I 1 → (∀ Q2 : am_R → am_M → Prop, (∀ K, cp X K → Q2 (am_yi av) (m, sl, sh, K, R)) → am_wp 999 260 0 [some (.inr (.inr 124)), some (.inl k)] [] (m, sl, sh, J, R) Q2) → Q (am_yi av) (m, sl, sh, J, R)) : am_wp 999 158 0 [some (.inr (.inr 4)), some (.inl k)] [] (m, sl, sh, I, R) Q := by
  obtain ⟨G, H, kk, hb, hp, hr, hr2, hg, hgk, hhC, hhR, hH, hG, hgH⟩ := cp_get hc
  have hk := kk.1
  obtain ⟨n, n1, x1, x2, x3⟩ := hc.2.2.2.2.2.2.2.1
  have e : (if 0 ≤ k ∧ k < (n : Int) then I 89 k.toNat else -1) = if 0 ≤ k ∧ k < (n : Int) then I 135 k.toNat else -1 := by
    split
    · exact (x3 _ (by omega)).2.2
    · rfl
  refine c_byteAt hw n1 x1 (fun i hi => by have := x3 i hi; rw [this.2.2]; exact ⟨this.1, this.2.1⟩) (h I _ rfl (fun Q2 h2 => r_byteAt hw n1 x2 (fun K q => ?_)))
  rw [← e]
  exact h2 K (cp_rq hc q)

theorem p_servedAt {k : Int} (hw : wd sh R) (hc : cp X I) (h : ∀ J av, J 1 = I 1 → (∀ Q2 : am_R → am_M → Prop, (∀ K, cp X K → Q2 (am_yi av) (m, sl, sh, K, R)) → am_wp 999 298 0 [some (.inr (.inr 124)), some (.inl k)] [] (m, sl, sh, J, R) Q2) → Q (am_yi av) (m, sl, sh, J, R)) : am_wp 999 177 0 [some (.inr (.inr 4)), some (.inl k)] [] (m, sl, sh, I, R) Q := by
  obtain ⟨G, H, kk, hb, hp, hr, hr2, hg, hgk, hhC, hhR, hH, hG, hgH⟩ := cp_get hc
  have hk := kk.1
  obtain ⟨n, n1, x1, x2, x3⟩ := hc.2.2.2.2.2.2.2.2.2.1
  have e : (if 0 ≤ k ∧ k < (n : Int) then I 85 k.toNat else -1) = if 0 ≤ k ∧ k < (n : Int) then I 153 k.toNat else -1 := by
    split
    · exact x3 _ (by omega)
    · rfl
  refine c_servedAt hw n1 x1 (h I _ rfl (fun Q2 h2 => r_servedAt hw n1 x2 (fun K q => ?_)))
  rw [← e]
  exact h2 K (cp_rq hc q)

theorem p_pans {k : Int} (hw : wd sh R) (hc : cp X I) (h : ∀ J av, J 1 = I 1 → (∀ Q2 : am_R → am_M → Prop, (∀ K, cp X K → Q2 (am_yi av) (m, sl, sh, K, R)) → am_wp 999 301 0 [some (.inr (.inr 124)), some (.inl k)] [] (m, sl, sh, J, R) Q2) → Q (am_yi av) (m, sl, sh, J, R)) : am_wp 999 175 0 [some (.inr (.inr 4)), some (.inl k)] [] (m, sl, sh, I, R) Q := by
  obtain ⟨G, H, kk, hb, hp, hr, hr2, hg, hgk, hhC, hhR, hH, hG, hgH⟩ := cp_get hc
  have hk := kk.1
  obtain ⟨n, n1, x1, x2, x3⟩ := hc.2.2.2.2.2.2.2.2.2.2
  have e : (if 0 ≤ k ∧ k < (n : Int) then I 88 k.toNat else -1) = if 0 ≤ k ∧ k < (n : Int) then I 156 k.toNat else -1 := by
    split
    · exact x3 _ (by omega)
    · rfl
  refine c_pans hw n1 x1 (h I _ rfl (fun Q2 h2 => r_pans hw n1 x2 (fun K q => ?_)))
  rw [← e]
  exact h2 K (cp_rq hc q)

theorem p_idle {q : Int} (hw : wd sh R) (hc : cp X I) (h : ∀ J av, J 1 = I 1 → (∀ Q2 : am_R → am_M → Prop, (∀ K, cp X K → Q2 (am_yi av) (m, sl, sh, K, R)) → am_wp 999 288 0 [some (.inr (.inr 124)), some (.inl q), none, none, none, none] [] (m, sl, sh, J, R) Q2) → Q (am_yi av) (m, sl, sh, J, R)) : am_wp 999 152 0 [some (.inr (.inr 4)), some (.inl q), none] [] (m, sl, sh, I, R) Q := by
  obtain ⟨G, H, kk, hb, hp, hr, hr2, hg, hgk, hhC, hhR, hH, hG, hgH⟩ := cp_get hc
  have hk := kk.1
  refine c_idle hw kk hp (fun J q => h J _ (q.1 1 (by omega)) (fun Q2 h2 => ?_))
  have e : ∀ a, 124 ≤ a → J a = I a := fun a ha => q.1 a (by omega)
  have el := sr_lw e
  refine r_idle hw (sr_beg e hb) (by rw [el]; exact hk) (by rw [el]; exact hr2) hg (fun K qk => ?_)
  rw [el]
  exact h2 K (cp_rq (cp_cq hc q) qk)

theorem p_morning {x : Int} (hw : wd sh R) (hc : cp X I) (h : ∀ J av, J 1 = I 1 → (∀ Q2 : am_R → am_M → Prop, (∀ K, cp X K → Q2 (am_yi av) (m, sl, sh, K, R)) → am_wp 999 307 0 [some (.inr (.inr 124)), some (.inl x)] [] (m, sl, sh, J, R) Q2) → Q (am_yi av) (m, sl, sh, J, R)) : am_wp 999 183 0 [some (.inr (.inr 4)), some (.inl x)] [] (m, sl, sh, I, R) Q := by
  obtain ⟨G, H, kk, hb, hp, hr, hr2, hg, hgk, hhC, hhR, hH, hG, hgH⟩ := cp_get hc
  have hk := kk.1
  refine c_morning hw kk (fun z => h I _ rfl (fun Q2 h2 => r_morning hw hb hk (fun _ K q => h2 K (cp_rq hc q)) (fun z2 => absurd z2 (by omega)))) (fun z J q => h J _ (q.1 1 (by omega)) (fun Q2 h2 => ?_))
  have e : ∀ a, 124 ≤ a → J a = I a := fun a ha => q.1 a (by omega)
  have el := sr_lw e
  refine r_morning hw (sr_beg e hb) (by rw [el]; exact hk) (fun z2 => absurd z (by rw [el] at z2; omega)) (fun _ K qk => ?_)
  rw [el]
  exact h2 K (cp_rq (cp_cq hc q) qk)

theorem p_mornings {n x : Int} (hw : wd sh R) (hc : cp X I) (h : ∀ J av, J 1 = I 1 → (∀ Q2 : am_R → am_M → Prop, (∀ K, cp X K → Q2 (am_yi av) (m, sl, sh, K, R)) → am_wp 999 308 0 [some (.inr (.inr 124)), some (.inl n), some (.inl x), none, none, none] [] (m, sl, sh, J, R) Q2) → Q (am_yi av) (m, sl, sh, J, R)) : am_wp 999 184 0 [some (.inr (.inr 4)), some (.inl n), some (.inl x), none, none] [] (m, sl, sh, I, R) Q := by
  obtain ⟨G, H, kk, hb, hp, hr, hr2, hg, hgk, hhC, hhR, hH, hG, hgH⟩ := cp_get hc
  have hk := kk.1
  refine c_mornings hw kk (fun z => h I _ rfl (fun Q2 h2 => r_mornings hw hb hk (fun _ K q => h2 K (cp_rq hc q)) (fun z2 => absurd z2 z))) (fun z J q => h J _ (q.1 1 (by omega)) (fun Q2 h2 => ?_))
  have e : ∀ a, 124 ≤ a → J a = I a := fun a ha => q.1 a (by omega)
  have el := sr_lw e
  refine r_mornings hw (sr_beg e hb) (by rw [el]; exact hk) (fun z2 => absurd z (by rw [el] at z2; exact z2)) (fun _ K qk => ?_)
  rw [el]
  exact h2 K (cp_rq (cp_cq hc q) qk)

theorem p_best (hw : wd sh R) (hc : cp X I) (h : ∀ J av, J 1 = I 1 → (∀ Q2 : am_R → am_M → Prop, (∀ K, cp X K → Q2 (am_yi av) (m, sl, sh, K, R)) → am_wp 999 281 0 [some (.inr (.inr 124)), none, none, none, none] [] (m, sl, sh, J, R) Q2) → Q (am_yi av) (m, sl, sh, J, R)) : am_wp 999 163 0 [some (.inr (.inr 4)), none, none, none, none] [] (m, sl, sh, I, R) Q := by
  obtain ⟨G, H, kk, hb, hp, hr, hr2, hg, hgk, hhC, hhR, hH, hG, hgH⟩ := cp_get hc
  have hk := kk.1
  refine c_best hw kk (fun z => h I _ rfl (fun Q2 h2 => r_best hw hb hk (fun _ K q => h2 K (cp_rq hc q)) (fun z2 => absurd z2 (by omega)))) (fun z J q => h J _ (q.1 1 (by omega)) (fun Q2 h2 => ?_))
  have e : ∀ a, 124 ≤ a → J a = I a := fun a ha => q.1 a (by omega)
  have el := sr_lw e
  refine r_best hw (sr_beg e hb) (by rw [el]; exact hk) (fun z2 => absurd z (by rw [el] at z2; omega)) (fun _ K qk => ?_)
  rw [el]
  exact h2 K (cp_rq (cp_cq hc q) qk)

end PAIRS
