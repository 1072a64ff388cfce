/-! ONE: what can be reached, the search, what may be left out -/
def ozR (n P : Nat) (ρ : Int) (q : Nat → Int) : Nat → (Nat → Int) → Int → Prop
  | 0, b, e => e = ozM n q b
  | k + 1, b, e => ∃ s, s < n ∧ b s = -1 ∧ ozR n P ρ q k (am_set b s (oze n P ρ q b s)) e
def ozF (f : Nat → Int × List Nat × (Nat → Int) → Int × List Nat × (Nat → Int)) : Nat → Int × List Nat × (Nat → Int) → Int × List Nat × (Nat → Int)
  | 0, B => B
  | j + 1, B => f j (ozF f j B)
noncomputable def ozS (n P : Nat) (ρ : Int) (q : Nat → Int) : Nat → (Nat → Int) → List Nat → Int × List Nat × (Nat → Int) → Int × List Nat × (Nat → Int)
  | 0, b, od, B => if B.1 ≤ ozM n q b then B else (ozM n q b, od, b)
  | k + 1, b, od, B => if B.1 ≤ ozM n q b then B else ozF (fun s B => if b s = -1 then ozS n P ρ q k (am_set b s (oze n P ρ q b s)) (od ++ [s]) B else B) n B
section OZ
variable {n P : Nat} {ρ : Int} {q b : Nat → Int}
theorem ozF_le {f : Nat → Int × List Nat × (Nat → Int) → Int × List Nat × (Nat → Int)} (h : ∀ s B, (f s B).1 ≤ B.1) : ∀ j B, (ozF f j B).1 ≤ B.1
  | 0, B => Int.le_refl _
  | j + 1, B => Int.le_trans (h j _) (ozF_le h j B)
theorem ozF_lb {f : Nat → Int × List Nat × (Nat → Int) → Int × List Nat × (Nat → Int)} (h : ∀ s B, (f s B).1 ≤ B.1) {s : Nat} {x : Int} (hx : ∀ B, (f s B).1 ≤ x) : ∀ j B, s < j → (ozF f j B).1 ≤ x
  | 0, B, hj => absurd hj (Nat.not_lt_zero s)
  | j + 1, B, hj => by
    by_cases e : s = j
    · subst e; exact hx _
    · exact Int.le_trans (h j _) (ozF_lb h hx j B (by omega))
theorem ozF_id {f : Nat → Int × List Nat × (Nat → Int) → Int × List Nat × (Nat → Int)} {B : Int × List Nat × (Nat → Int)} : ∀ j, (∀ s, s < j → f s B = B) → ozF f j B = B
  | 0, _ => rfl
  | j + 1, h => by
    have e := ozF_id j (fun s hs => h s (by omega))
    show f j (ozF f j B) = B
    rw [e]; exact h j (by omega)
theorem ozM_up {s : Nat} (hQ : ozQ n P ρ q) (hs : s < n) (h0 : b s = -1) : ozM n q b ≤ ozM n q (am_set b s (oze n P ρ q b s)) ∧ oze n P ρ q b s + q s ≤ ozM n q (am_set b s (oze n P ρ q b s)) ∧ ozM n q (am_set b s (oze n P ρ q b s)) ≤ ozM n q b + 29 := by
  have sp := oze_sp (b := b) hQ hs
  have q1 := hQ.2.2.2.2.2.2 s hs
  have q2 := hQ.2.2.2.2.2.1
  have q3 := hQ.2.2.2.2.1
  rw [ozM_set hs h0 sp.1.1]
  split <;> omega
theorem ozR_ge (hQ : ozQ n P ρ q) {e : Int} : ∀ k (b : Nat → Int), ozR n P ρ q k b e → ozM n q b ≤ e
  | 0, b, h => by
    have h : e = ozM n q b := h
    omega
  | k + 1, b, h => by
    obtain ⟨s, hs, h0, h⟩ := h
    have a := ozR_ge hQ k _ h
    have c := (ozM_up (b := b) hQ hs h0).1
    omega
theorem ozS_le : ∀ k (b : Nat → Int) od B, (ozS n P ρ q k b od B).1 ≤ B.1
  | 0, b, od, B => by
    unfold ozS
    split
    · exact Int.le_refl _
    · dsimp only; omega
  | k + 1, b, od, B => by
    unfold ozS
    split
    · exact Int.le_refl _
    · refine ozF_le (fun s B => ?_) n B
      split
      · exact ozS_le k _ _ _
      · exact Int.le_refl _
theorem ozS_lb (hQ : ozQ n P ρ q) {e : Int} : ∀ k (b : Nat → Int) od B, ozR n P ρ q k b e → (ozS n P ρ q k b od B).1 ≤ e
  | 0, b, od, B, h => by
    have h : e = ozM n q b := h
    unfold ozS
    split
    · omega
    · dsimp only; omega
  | k + 1, b, od, B, h => by
    have g := ozR_ge hQ (k + 1) b h
    obtain ⟨s, hs, h0, h⟩ := h
    unfold ozS
    split
    · omega
    · refine ozF_lb (fun s B => ?_) (s := s) (fun B => ?_) n B hs
      · split
        · exact ozS_le k _ _ _
        · exact Int.le_refl _
      · rw [if_pos h0]
        exact ozS_lb hQ k _ _ _ h
theorem ozS_id : ∀ k (b : Nat → Int) od B, (∀ e, ozR n P ρ q k b e → B.1 ≤ e) → ozS n P ρ q k b od B = B
  | 0, b, od, B, h => by
    unfold ozS
    rw [if_pos (h _ rfl)]
  | k + 1, b, od, B, h => by
    unfold ozS
    split
    · rfl
    · refine ozF_id n (fun s hs => ?_)
      split
      · rename_i h0
        exact ozS_id k _ _ _ (fun e he => h e ⟨s, hs, h0, he⟩)
      · rfl
theorem ozO_set {s : Nat} {x : Int} {k : Nat} (hs : s < n) (h0 : b s = -1) (hx : 0 ≤ x) (h : ozO n b = k + 1) : ozO n (am_set b s x) = k := by
  have := ax_ct_off (c := fun s => decide (b s = -1)) (e := fun k => decide (am_set b s x k = -1)) hs (decide_eq_true h0) (by rw [am_stS rfl]; exact decide_eq_false (by omega)) (fun k hk => by rw [am_stO hk])
  unfold ozO at h ⊢
  omega
theorem ozO_0 (h : ozO n b = 0) : ∀ s, s < n → b s ≠ -1 := fun s hs hc => by
  have := ax_ct_pos (c := fun s => decide (b s = -1)) hs (decide_eq_true hc)
  unfold ozO at h
  omega
/-- where it ends once all are set -/
theorem ozR_full (hQ : ozQ n P ρ q) {e : Int} : ∀ k (b : Nat → Int), ozV n P ρ q b → ozO n b = k → ozR n P ρ q k b e → ∃ c, ozV n P ρ q c ∧ (∀ s, s < n → c s ≠ -1) ∧ (∀ s, s < n → b s ≠ -1 → c s = b s) ∧ (∀ s, s < n → b s = -1 → oze n P ρ q b s ≤ c s) ∧ e = ozM n q c
  | 0, b, hV, hO, h => ⟨b, hV, ozO_0 hO, fun _ _ _ => rfl, fun s hs h0 => absurd h0 (ozO_0 hO s hs), h⟩
  | k + 1, b, hV, hO, h => by
    obtain ⟨s, hs, h0, h⟩ := h
    have sp := (oze_sp (b := b) hQ hs).1
    obtain ⟨c, c1, c2, c3, c4, c5⟩ := ozR_full hQ k _ (ozV_set hQ hV hs h0 sp.1 sp.2.1) (ozO_set hs h0 sp.1 hO) h
    refine ⟨c, c1, c2, fun r hr hb => ?_, fun r hr hb => ?_, c5⟩
    · have ne : r ≠ s := fun e => by rw [e] at hb; exact hb h0
      have := c3 r hr (by rw [am_stO ne]; exact hb)
      rwa [am_stO ne] at this
    · by_cases e : r = s
      · subst e
        have := c3 r hr (by rw [am_stS rfl]; have := sp.1; omega)
        rw [am_stS rfl] at this
        omega
      · have := c4 r hr (by rw [am_stO e]; exact hb)
        have := oze_mono (b := b) (x := oze n P ρ q b s) hQ hr hs e h0 sp.1
        omega
/-- the first best counts for nothing, if it is late enough -/
theorem ozS_2 (hQ : ozQ n P ρ q) : ∀ k (b : Nat → Int) od B C, ozO n b = k → ozM n q b + 29 * (k : Int) ≤ 255 → 256 ≤ B.1 → 256 ≤ C.1 → ozS n P ρ q k b od B = ozS n P ρ q k b od C
  | 0, b, od, B, C, _, h1, h2, h3 => by
    unfold ozS
    rw [if_neg (by omega), if_neg (by omega)]
  | k + 1, b, od, B, C, hO, h1, h2, h3 => by
    unfold ozS
    rw [if_neg (by omega), if_neg (by omega)]
    generalize hf : (fun s B => if b s = -1 then ozS n P ρ q k (am_set b s (oze n P ρ q b s)) (od ++ [s]) B else B) = f
    have fe : ∀ s B, f s B = if b s = -1 then ozS n P ρ q k (am_set b s (oze n P ρ q b s)) (od ++ [s]) B else B := fun s B => by rw [← hf]
    have L : ∀ j, j ≤ n → ((∀ s, s < j → b s ≠ -1) ∧ ozF f j B = B ∧ ozF f j C = C) ∨ ozF f j B = ozF f j C := by
      intro j
      induction j with
      | zero => intro _; exact Or.inl ⟨fun s hs => absurd hs (Nat.not_lt_zero s), rfl, rfl⟩
      | succ j ih =>
        intro hj
        have e1 : ∀ D, ozF f (j + 1) D = f j (ozF f j D) := fun D => rfl
        rw [e1, e1]
        rcases ih (by omega) with ⟨a, b1, c1⟩ | h
        · rw [b1, c1, fe, fe]
          by_cases h0 : b j = -1
          · right
            rw [if_pos h0, if_pos h0]
            have sp := (oze_sp (b := b) hQ (show j < n by omega)).1
            have up := ozM_up (b := b) hQ (show j < n by omega) h0
            exact ozS_2 hQ k _ _ B C (ozO_set (by omega) h0 sp.1 hO) (by omega) h2 h3
          · left
            rw [if_neg h0, if_neg h0]
            refine ⟨fun s hs => ?_, rfl, rfl⟩
            by_cases e : s = j
            · rw [e]; exact h0
            · exact a s (by omega)
        · right; rw [h]
    rcases L n (Nat.le_refl n) with ⟨a, -, -⟩ | h
    · exfalso
      have z : ozO n b = 0 := by
        unfold ozO
        rw [ax_ct_cg (e := fun _ => false) (fun s hs => decide_eq_false (a s hs)), ct_none]
      omega
    · exact h
/-! sides or SLICES that are alike -/
def ozT (i j s : Nat) : Nat := if s = i then j else if s = j then i else s
def ozU (a s r : Nat) : Nat := if r = a then s else if r = s then a else if r = a + 1 then s + 1 else if r = s + 1 then a + 1 else r
theorem ct_tr {p : Nat → Bool} {i j : Nat} (hi : i < n) (hj : j < n) : ax_ct (fun s => p (ozT i j s)) n = ax_ct p n := by
  by_cases e : i = j
  · subst e
    refine ax_ct_cg (fun s _ => ?_)
    unfold ozT
    split
    · rename_i h; rw [h]
    · rfl
  · have S : ∀ p : Nat → Bool, ax_ct p n = ax_ct (fun s => if s = j then false else if s = i then false else p s) n + (bif p j then 1 else 0) + (bif p i then 1 else 0) := by
      intro p
      have a := ct_set (p := fun s => if s = i then false else p s) (w := p) hi (if_pos rfl) (fun k hk => (if_neg hk).symm)
      have c := ct_set (p := fun s => if s = j then false else if s = i then false else p s) (w := fun s => if s = i then false else p s) hj (if_pos rfl) (fun k hk => (if_neg hk).symm)
      rw [if_neg (fun h => e h.symm)] at c
      rw [a, c]
    rw [S p, S (fun s => p (ozT i j s))]
    have t1 : ozT i j i = j := if_pos rfl
    have t2 : ozT i j j = i := by unfold ozT; rw [if_neg (fun h => e h.symm), if_pos rfl]
    rw [t1, t2, ax_ct_cg (c := fun s => if s = j then false else if s = i then false else p (ozT i j s)) (e := fun s => if s = j then false else if s = i then false else p s) (fun s _ => ?_)]
    · omega
    · by_cases h1 : s = j
      · rw [if_pos h1, if_pos h1]
      · by_cases h2 : s = i
        · rw [if_neg h1, if_neg h1, if_pos h2, if_pos h2]
        · rw [if_neg h1, if_neg h1, if_neg h2, if_neg h2]
          unfold ozT
          rw [if_neg h2, if_neg h1]
def ozPi (n : Nat) (q : Nat → Int) (f : Nat → Nat) : Prop := (∀ s, s < n → f s < n ∧ f (f s) = s ∧ q (f s) = q s ∧ f (ozP s) = ozP (f s)) ∧ ∀ p : Nat → Bool, ax_ct (fun s => p (f s)) n = ax_ct p n
theorem ozB_pm {f : Nat → Nat} {c : Nat → Int} (hf : ozPi n q f) (hc : ∀ s, s < n → c s = b (f s)) (t : Int) : ozB n q c t = ozB n q b t := by
  unfold ozB
  rw [← hf.2 (ozI q b t)]
  refine ax_ct_cg (fun s hs => ?_)
  unfold ozI
  rw [hc s hs, (hf.1 s hs).2.2.1]
theorem ozM_pm {f : Nat → Nat} {c : Nat → Int} (hf : ozPi n q f) (hc : ∀ s, s < n → c s = b (f s)) : ozM n q c = ozM n q b := by
  have A := fmax_0 (f := fun s => if b s = -1 then 0 else b s + q s) n
  have C := fmax_0 (f := fun s => if c s = -1 then 0 else c s + q s) n
  have l1 : ozM n q c ≤ ozM n q b := (am_fmax_le A (fun s hs => by
    have h := hf.1 s hs
    rw [hc s hs, ← h.2.2.1]
    exact ozfg (f := fun s => if b s = -1 then 0 else b s + q s) n (f s) h.1)).2
  have l2 : ozM n q b ≤ ozM n q c := (am_fmax_le C (fun s hs => by
    have h := hf.1 s hs
    have e := hc (f s) h.1
    rw [h.2.1] at e
    have := ozfg (f := fun s => if c s = -1 then 0 else c s + q s) n (f s) h.1
    rw [e, h.2.2.1] at this
    exact this)).2
  omega
theorem oze_pm {f : Nat → Nat} {c : Nat → Int} {s : Nat} (hn : n % 2 = 0) (hf : ozPi n q f) (hc : ∀ s, s < n → c s = b (f s)) (hs : s < n) : oze n P ρ q c (f s) = oze n P ρ q b s := by
  have h := hf.1 s hs
  have e : (fun x => ozE n P ρ q c (f s) x) = fun x => ozE n P ρ q b s x := by
    funext x
    have C : ∀ x, ozC n P ρ q c (f s) x = ozC n P ρ q b s x := by
      intro x
      unfold ozC
      have p1 := ozP_lt hn hs
      have p2 := hf.1 (ozP s) p1
      rw [← h.2.2.2, h.2.2.1, p2.2.2.1, hc _ p2.1, p2.2.1]
      simp only [ozB_pm hf hc]
    unfold ozE
    simp only [C]
  unfold oze
  rw [e]
theorem ozR_pm {f : Nat → Nat} (hn : n % 2 = 0) (hf : ozPi n q f) {e : Int} : ∀ k (b c : Nat → Int), (∀ s, s < n → c s = b (f s)) → ozR n P ρ q k b e → ozR n P ρ q k c e
  | 0, b, c, hc, h => by
    show e = ozM n q c
    rw [ozM_pm hf hc]; exact h
  | k + 1, b, c, hc, h => by
    obtain ⟨s, hs, h0, h⟩ := h
    have g := hf.1 s hs
    refine ⟨f s, g.1, by rw [hc _ g.1, g.2.1]; exact h0, ozR_pm hn hf k _ _ (fun r hr => ?_) h⟩
    rw [oze_pm hn hf hc hs]
    have g2 := hf.1 r hr
    by_cases e1 : r = f s
    · rw [am_stS e1, am_stS (by rw [e1]; exact g.2.1)]
    · rw [am_stO e1, am_stO (fun e2 => e1 (by rw [← e2]; exact g2.2.1.symm)), hc r hr]
theorem ozR_tw {f : Nat → Nat} (hn : n % 2 = 0) (hf : ozPi n q f) (hb : ∀ s, s < n → b (f s) = b s) {e : Int} {s k : Nat} (hs : s < n) (h : ozR n P ρ q k (am_set b s (oze n P ρ q b s)) e) : ozR n P ρ q k (am_set b (f s) (oze n P ρ q b (f s))) e := by
  have g := hf.1 s hs
  refine ozR_pm hn hf k _ _ (fun r hr => ?_) h
  rw [oze_pm hn hf (fun s hs => (hb s hs).symm) hs]
  have g2 := hf.1 r hr
  by_cases e1 : r = f s
  · rw [am_stS e1, am_stS (by rw [e1]; exact g.2.1)]
  · rw [am_stO e1, am_stO (fun e2 => e1 (by rw [← e2]; exact g2.2.1.symm)), hb r hr]
theorem ozPi_1 {s : Nat} (hn : n % 2 = 0) (hs : s + 1 < n) (h2 : s % 2 = 0) (hq : q s = q (s + 1)) : ozPi n q (ozT s (s + 1)) := by
  refine ⟨fun r hr => ⟨?_, ?_, ?_, ?_⟩, fun p => ct_tr (by omega) (by omega)⟩
  · unfold ozT; (repeat' split) <;> omega
  · unfold ozT; (repeat' split) <;> omega
  · unfold ozT
    by_cases e1 : r = s
    · rw [if_pos e1, e1, hq]
    · by_cases e2 : r = s + 1
      · rw [if_neg e1, if_pos e2, e2, hq]
      · rw [if_neg e1, if_neg e2]
  · unfold ozT ozP; (repeat' split) <;> omega
theorem ozPi_2 {s a : Nat} (hn : n % 2 = 0) (hs : s + 1 < n) (h2 : s % 2 = 0) (ha : a < s) (a2 : a % 2 = 0) (hq : q a = q s) (hq1 : q (a + 1) = q (s + 1)) : ozPi n q (ozU a s) := by
  refine ⟨fun r hr => ⟨?_, ?_, ?_, ?_⟩, fun p => ?_⟩
  · unfold ozU; (repeat' split) <;> omega
  · unfold ozU; (repeat' split) <;> omega
  · unfold ozU
    by_cases e3 : r = a
    · rw [if_pos e3, e3, hq]
    · by_cases e4 : r = s
      · rw [if_neg e3, if_pos e4, e4, hq]
      · by_cases e1 : r = a + 1
        · rw [if_neg e3, if_neg e4, if_pos e1, e1, hq1]
        · by_cases e2 : r = s + 1
          · rw [if_neg e3, if_neg e4, if_neg e1, if_pos e2, e2, hq1]
          · rw [if_neg e3, if_neg e4, if_neg e1, if_neg e2]
  · unfold ozU ozP; (repeat' split) <;> omega
  · rw [← ct_tr (n := n) (p := p) (i := a) (j := s) (by omega) (by omega), ← ct_tr (n := n) (p := fun r => p (ozT a s r)) (i := a + 1) (j := s + 1) (by omega) (by omega)]
    refine ax_ct_cg (fun r _ => ?_)
    congr 1
    unfold ozU ozT
    (repeat' split) <;> omega
end OZ
