/-! ONE: the GOES of the order that is best, one by one (o i: the i-th side of the order) -/
def ozK (n : Nat) (o : Nat → Nat) (b : Nat → Int) (p : Nat → Bool) (i : Nat) : Prop := i < n ∧ p (o i) = false ∧ ∀ j, j < n → p (o j) = false → b (o i) < b (o j) ∨ b (o i) = b (o j) ∧ i ≤ j
def ozg (q b : Nat → Int) (s x : Nat) : Go := (((s / 2 : Nat) : Int), ((s % 2 : Nat) : Int), b s, (x : Int), q s)
def ozG (n P : Nat) (q : Nat → Int) (o : Nat → Nat) (b : Nat → Int) : Nat → (Nat → Bool) → (Nat → Int) → List Go → Prop
  | 0, p, F, G => (∀ s, p s = false) ∧ (∀ x, x < 4 → F x = 0) ∧ G = []
  | j + 1, p, F, G => ∃ p' F' G' i x, ozG n P q o b j p' F' G' ∧ ozK n o b p' i ∧ x < P ∧ F' x ≤ b (o i) ∧ (∀ y, y < x → b (o i) < F' y) ∧ (∀ s, p s = if s = o i then true else p' s) ∧ (∀ y, y < 4 → F y = if y = x then b (o i) + q (o i) else F' y) ∧ G = G' ++ [ozg q b (o i) x]
section PK
variable {n P : Nat} {q b : Nat → Int} {o : Nat → Nat}
theorem ozK_u {p : Nat → Bool} {i j : Nat} (h1 : ozK n o b p i) (h2 : ozK n o b p j) : i = j := by
  have a := h1.2.2 j h2.1 h2.2.1
  have c := h2.2.2 i h1.1 h1.2.1
  omega
theorem ozG_u (hP : P ≤ 4) : ∀ (j : Nat) (p p' : Nat → Bool) (F F' : Nat → Int) (G G' : List Go), ozG n P q o b j p F G → ozG n P q o b j p' F' G' → (∀ s, p s = p' s) ∧ (∀ x, x < 4 → F x = F' x) ∧ G = G'
  | 0, p, p', F, F', G, G', h1, h2 => ⟨fun s => by rw [h1.1, h2.1], fun x hx => by rw [h1.2.1 x hx, h2.2.1 x hx], by rw [h1.2.2, h2.2.2]⟩
  | j + 1, p, p', F, F', G, G', h1, h2 => by
    obtain ⟨a1, a2, a3, i, x, a4, a5, a6, a7, a8, a9, a10, a11⟩ := h1
    obtain ⟨c1, c2, c3, k, y, c4, c5, c6, c7, c8, c9, c10, c11⟩ := h2
    obtain ⟨e1, e2, e3⟩ := ozG_u hP j _ _ _ _ _ _ a4 c4
    have ei : i = k := by
      have e : a1 = c1 := funext e1
      subst e
      exact ozK_u a5 c5
    subst ei
    have ex : x = y := by
      rcases Nat.lt_trichotomy x y with h | h | h
      · have := c8 x h
        rw [← e2 x (by omega)] at this
        omega
      · exact h
      · have := a8 y h
        rw [e2 y (by omega)] at this
        omega
    subst ex
    refine ⟨fun s => ?_, fun z hz => ?_, ?_⟩
    · rw [a9, c9, e1]
    · rw [a10 z hz, c10 z hz, e2 z hz]
    · rw [a11, c11, e3]
theorem ozG_ct (ho : ∀ i, i < n → o i < n) : ∀ (j : Nat) (p : Nat → Bool) (F : Nat → Int) (G : List Go), ozG n P q o b j p F G → ax_ct p n = j ∧ G.length = j
  | 0, p, F, G, h => ⟨by rw [ax_ct_cg (e := fun _ => false) (fun s _ => h.1 s), ct_none], by rw [h.2.2]; rfl⟩
  | j + 1, p, F, G, h => by
    obtain ⟨a1, a2, a3, i, x, a4, a5, a6, a7, a8, a9, a10, a11⟩ := h
    have ih := ozG_ct ho j _ _ _ a4
    have e := ct_set (p := a1) (w := p) (n := n) (ho i a5.1) a5.2.1 (fun k hk => by rw [a9, if_neg hk])
    rw [e, a9, if_pos rfl, ih.1, a11, List.length_append, ih.2]
    exact ⟨rfl, rfl⟩
/-- who is on which PLACE -/
def ozW (n : Nat) (q b : Nat → Int) (p : Nat → Bool) (F : Nat → Int) (a : Nat → Nat) : Prop := (∀ x, x < 4 → F x = 0 ∨ ∃ s, s < n ∧ p s = true ∧ a s = x ∧ F x = b s + q s) ∧ ∀ s r, s < n → r < n → p s = true → p r = false → b s ≤ b r
theorem ozG_W (ho : ∀ i, i < n → o i < n) (hc : ∀ s, s < n → ∃ i, i < n ∧ o i = s) : ∀ (j : Nat) (p : Nat → Bool) (F : Nat → Int) (G : List Go), ozG n P q o b j p F G → ∃ a, ozW n q b p F a
  | 0, p, F, G, h => ⟨fun _ => 0, fun x hx => Or.inl (h.2.1 x hx), fun s r _ _ h1 _ => by rw [h.1] at h1; exact absurd h1 (by decide)⟩
  | j + 1, p, F, G, h => by
    obtain ⟨a1, a2, a3, i, x, a4, a5, a6, a7, a8, a9, a10, a11⟩ := h
    obtain ⟨a, w1, w2⟩ := ozG_W ho hc j _ _ _ a4
    refine ⟨fun s => if s = o i then x else a s, fun y hy => ?_, fun s r hs hr h1 h2 => ?_⟩
    · by_cases e : y = x
      · refine Or.inr ⟨o i, ho i a5.1, by rw [a9, if_pos rfl], by dsimp only; rw [if_pos rfl, e], by rw [a10 y hy, if_pos e]⟩
      · rcases w1 y hy with h | ⟨s, s1, s2, s3, s4⟩
        · left; rw [a10 y hy, if_neg e]; exact h
        · have ne : s ≠ o i := fun hc => by rw [hc, a5.2.1] at s2; exact absurd s2 (by decide)
          refine Or.inr ⟨s, s1, by rw [a9, if_neg ne]; exact s2, by dsimp only; rw [if_neg ne]; exact s3, by rw [a10 y hy, if_neg e]; exact s4⟩
    · have nr : r ≠ o i := fun hc => by rw [a9, if_pos hc] at h2; exact absurd h2 (by decide)
      rw [a9, if_neg nr] at h2
      by_cases e : s = o i
      · obtain ⟨k, k1, k2⟩ := hc r hr
        have := a5.2.2 k k1 (by rw [k2]; exact h2)
        rw [k2] at this
        rw [e]; omega
      · rw [a9, if_neg e] at h1
        exact w2 s r hs hr h1 h2
theorem ct_img {A : Nat → Bool} {a : Nat → Nat} {P : Nat} {Bx : Nat → Bool} : ∀ n, (∀ x, x < P → Bx x = true → ∃ s, s < n ∧ A s = true ∧ a s = x) → ax_ct Bx P ≤ ax_ct A n
  | 0, h => by
    rw [ax_ct_cg (e := fun _ => false) (fun x hx => ?_), ct_none]
    · exact Nat.zero_le _
    · cases hb : Bx x
      · rfl
      · obtain ⟨s, s1, -⟩ := h x hx hb
        exact absurd s1 (Nat.not_lt_zero s)
  | n + 1, h => by
    have e2 : ax_ct A (n + 1) = bif A n then ax_ct A n + 1 else ax_ct A n := rfl
    rw [e2]
    cases hA : A n
    · rw [cond_false]
      refine ct_img (a := a) n (fun x hx hb => ?_)
      obtain ⟨s, s1, s2, s3⟩ := h x hx hb
      have : s ≠ n := fun hc => by rw [hc, hA] at s2; exact absurd s2 (by decide)
      exact ⟨s, by omega, s2, s3⟩
    · rw [cond_true]
      have ih := ct_img (A := A) (a := a) (P := P) (Bx := fun x => Bx x && !decide (x = a n)) n (fun x hx hb => by
        rw [Bool.and_eq_true] at hb
        obtain ⟨s, s1, s2, s3⟩ := h x hx hb.1
        have : s ≠ n := fun hc => by
          rw [hc] at s3
          rw [s3, decide_eq_true rfl] at hb
          exact absurd hb.2 (by decide)
        exact ⟨s, by omega, s2, s3⟩)
      have : ax_ct Bx P ≤ ax_ct (fun x => Bx x && !decide (x = a n)) P + 1 := by
        by_cases hl : a n < P
        · have e := ct_set (p := fun x => Bx x && !decide (x = a n)) (w := Bx) (n := P) hl (by rw [decide_eq_true rfl]; exact Bool.and_false _) (fun k hk => by rw [decide_eq_false hk]; simp)
          rw [e]
          cases Bx (a n) <;> simp
        · rw [ax_ct_cg (c := fun x => Bx x && !decide (x = a n)) (e := Bx) (fun x hx => by rw [decide_eq_false (by omega)]; simp)]
          omega
      omega
/-- a PLACE is free -/
theorem ozG_free {ρ : Int} {i : Nat} (hQ : ozQ n P ρ q) (hV : ozV n P ρ q b) (hs : ∀ s, s < n → b s ≠ -1) (ho : ∀ i, i < n → o i < n) (hc : ∀ s, s < n → ∃ i, i < n ∧ o i = s) {j : Nat} {p : Nat → Bool} {F : Nat → Int} {G : List Go} (h : ozG n P q o b j p F G) (hi : ozK n o b p i) : ∃ x, x < P ∧ F x ≤ b (o i) := by
  obtain ⟨a, w1, w2⟩ := ozG_W ho hc j p F G h
  have P4 := hQ.2.2.2.1
  have oi := ho i hi.1
  have b0 : 0 ≤ b (o i) := by have := hV.1 _ oi; have := hs _ oi; omega
  refine Classical.byContradiction (fun hn => ?_)
  have all : ∀ x, x < P → b (o i) < F x := fun x hx => by
    refine Classical.byContradiction (fun hc2 => hn ⟨x, hx, by omega⟩)
  have l1 := ct_img (A := fun s => p s && ozI q b (b (o i)) s) (a := a) (P := P) (Bx := fun _ => true) n (fun x hx _ => by
    rcases w1 x (by omega) with h0 | ⟨s, s1, s2, s3, s4⟩
    · have := all x hx; omega
    · refine ⟨s, s1, ?_, s3⟩
      rw [s2, Bool.true_and]
      unfold ozI
      have := all x hx
      have := w2 s (o i) s1 oi s2 hi.2.1
      have := hV.1 s s1
      have := hs s s1
      exact decide_eq_true ⟨by omega, by omega, by omega⟩)
  have c1 : ∀ P, ax_ct (fun _ => true) P = P := fun P => by
    induction P with
    | zero => rfl
    | succ P ih =>
      have e2 : ax_ct (fun _ => true) (P + 1) = ax_ct (fun _ => true) P + 1 := rfl
      rw [e2, ih]
  rw [c1] at l1
  have l2 := hV.2.1 (b (o i))
  have qi := hQ.2.2.2.2.2.2 _ oi
  have l3 : ax_ct (fun s => p s && ozI q b (b (o i)) s) n + 1 ≤ ozB n q b (b (o i)) := by
    have e := ax_ct_off (c := fun s => if s = o i then true else p s && ozI q b (b (o i)) s) (e := fun s => p s && ozI q b (b (o i)) s) (n := n) oi (if_pos rfl) (by rw [hi.2.1]; rfl) (fun k hk => (if_neg hk).symm)
    rw [e]
    unfold ozB
    refine ct_mono n (fun s hs2 hh => ?_)
    by_cases e2 : s = o i
    · rw [e2]
      unfold ozI
      exact decide_eq_true ⟨b0, Int.le_refl _, by omega⟩
    · rw [if_neg e2, Bool.and_eq_true] at hh
      exact hh.2
  omega
end PK
/-! what the search finds -/
def ozGd (n P : Nat) (ρ : Int) (q : Nat → Int) (B : Int × List Nat × (Nat → Int)) : Prop := ozV n P ρ q B.2.2 ∧ (∀ s, s < n → B.2.2 s ≠ -1) ∧ B.1 = ozM n q B.2.2 ∧ B.1 ≤ 232 ∧ B.2.1.length = n ∧ (∀ i, i < n → B.2.1.getD i 0 < n) ∧ (∀ s, s < n → ∃ i, i < n ∧ B.2.1.getD i 0 = s) ∧ ∀ i j, i < n → j < n → B.2.1.getD i 0 = B.2.1.getD j 0 → i = j
def ozHd (n : Nat) (b : Nat → Int) (od : List Nat) : Prop := (∀ i, i < od.length → od.getD i 0 < n ∧ b (od.getD i 0) ≠ -1) ∧ (∀ s, s < n → b s ≠ -1 → ∃ i, i < od.length ∧ od.getD i 0 = s) ∧ ∀ i j, i < od.length → j < od.length → od.getD i 0 = od.getD j 0 → i = j
section PK
variable {n P : Nat} {ρ : Int} {q : Nat → Int}
theorem ozHd_s {b : Nat → Int} {od : List Nat} {s : Nat} {x : Int} (h : ozHd n b od) (hs : s < n) (hb : b s = -1) (hx : 0 ≤ x) : ozHd n (am_set b s x) (od ++ [s]) := by
  obtain ⟨h1, h2, h3⟩ := h
  have ol : (od ++ [s]).length = od.length + 1 := by rw [List.length_append]; rfl
  have ne : ∀ i, i < od.length → od.getD i 0 ≠ s := fun i hi hc => (h1 i hi).2 (by rw [hc]; exact hb)
  refine ⟨fun i hi => ?_, fun r hr hbr => ?_, fun i j hi hj e => ?_⟩
  · rw [getD_snoc]
    by_cases e : i < od.length
    · rw [if_pos e, am_stO (ne i e)]; exact h1 i e
    · rw [if_neg e, if_pos (by omega), am_stS rfl]; exact ⟨hs, by omega⟩
  · by_cases e : r = s
    · exact ⟨od.length, by omega, by rw [getD_snoc, if_neg (Nat.lt_irrefl _), if_pos rfl, e]⟩
    · rw [am_stO e] at hbr
      obtain ⟨i, i1, i2⟩ := h2 r hr hbr
      exact ⟨i, by omega, by rw [getD_snoc, if_pos i1, i2]⟩
  · rw [getD_snoc, getD_snoc] at e
    by_cases ei : i < od.length
    · by_cases ej : j < od.length
      · rw [if_pos ei, if_pos ej] at e; exact h3 i j ei ej e
      · rw [if_pos ei, if_neg ej, if_pos (by omega)] at e; exact absurd e (ne i ei)
    · by_cases ej : j < od.length
      · rw [if_neg ei, if_pos (by omega), if_pos ej] at e; exact absurd e.symm (ne j ej)
      · omega
theorem ozS_gd (hQ : ozQ n P ρ q) : ∀ (k : Nat) (b : Nat → Int) (od : List Nat) (B : Int × List Nat × (Nat → Int)), od.length + k = n → ozV n P ρ q b → ozO n b = k → ozM n q b + 29 * (k : Int) ≤ 232 → ozHd n b od → ozS n P ρ q k b od B = B ∨ ozGd n P ρ q (ozS n P ρ q k b od B)
  | 0, b, od, B, hl, hV, hO, hM, hd => by
    unfold ozS
    split
    · exact Or.inl rfl
    · right
      have al := ozO_0 hO
      rw [Nat.add_zero] at hl
      refine ⟨hV, al, rfl, by dsimp only; omega, hl, fun i hi => (hd.1 i (by omega)).1, fun s hs => ?_, fun i j hi hj e => hd.2.2 i j (by omega) (by omega) e⟩
      obtain ⟨i, i1, i2⟩ := hd.2.1 s hs (al s hs)
      exact ⟨i, by omega, i2⟩
  | k + 1, b, od, B, hl, hV, hO, hM, hd => by
    unfold ozS
    split
    · exact Or.inl rfl
    · generalize hf : (fun s B => if b s = -1 then ozS n P ρ q k (am_set b s (oze n P ρ q b s)) (od ++ [s]) B else B) = f
      have fe : ∀ s, s < n → ∀ B, f s B = B ∨ ozGd n P ρ q (f s B) := fun s hs B => by
        rw [← hf]
        dsimp only
        split
        · rename_i hb
          have sp := (oze_sp (b := b) hQ hs).1
          have up := ozM_up (b := b) hQ hs hb
          exact ozS_gd hQ k _ _ B (by rw [List.length_append]; have : [s].length = 1 := rfl; omega) (ozV_set hQ hV hs hb sp.1 sp.2.1) (ozO_set hs hb sp.1 hO) (by omega) (ozHd_s hd hs hb sp.1)
        · exact Or.inl rfl
      have L : ∀ j, j ≤ n → ozF f j B = B ∨ ozGd n P ρ q (ozF f j B) := by
        intro j
        induction j with
        | zero => intro _; exact Or.inl rfl
        | succ j ih =>
          intro hj
          have e : ozF f (j + 1) B = f j (ozF f j B) := rfl
          rw [e]
          rcases fe j (by omega) (ozF f j B) with h | h
          · rw [h]; exact ih (by omega)
          · exact Or.inr h
      exact L n (Nat.le_refl n)
end PK
