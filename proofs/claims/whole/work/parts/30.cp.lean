/-! THE TWO TOGETHER: what the class's cells and the reference's have to do with each other -/
/-- GOES are of the KITCHEN's SLICES (MASTERS have two PLACES whatever PLACES says) -/
def gkt (W : Nat → Int) (G : List Go) : Prop := ∀ k, k < G.length → gS G k < W 5 ∧ gL G k < 4
/-- which steps stand open ahead of step i (c: what the steps are) -/
def sx_stk (c : Nat → Int) : Nat → List Nat
  | 0 => []
  | i + 1 => if c i = 12 then i :: (sx_stk c i).drop 1 else if c i = 15 ∨ c i = 16 then i :: (sx_stk c i).drop 2 else i :: sx_stk c i
/-- step i and node i say the same -/
def sx_node (c g n : Nat → Int) (S : Int) (D : Nat → Int) (i : Nat) : Prop :=
  (c i = 12 ∧ D (4 * i) = 1 ∧ ∃ x r, sx_stk c i = x :: r ∧ D (4 * i + 1) = (x : Int)) ∨
  ((c i = 15 ∧ D (4 * i) = 2 ∨ c i = 16 ∧ D (4 * i) = 3) ∧ ∃ y x r, sx_stk c i = y :: x :: r ∧ D (4 * i + 1) = (x : Int) ∧ D (4 * i + 2) = (y : Int)) ∨
  (c i = 7 ∧ D (4 * i) = 55) ∨ (c i = 13 ∧ D (4 * i) = 63) ∨
  (c i = 14 ∧ D (4 * i) = 64 ∧ D (4 * i + 1) = n i ∧ 0 ≤ n i ∧ n i < S) ∨
  ((c i = 8 ∧ D (4 * i) = 58 ∨ c i = 9 ∧ D (4 * i) = 59 ∨ c i = 10 ∧ D (4 * i) = 65 ∨ c i = 11 ∧ D (4 * i) = 66) ∧ D (4 * i + 2) = n i ∧ D (4 * i + 3) = g i ∧ (g i = 60 ∨ g i = 61 ∨ g i = 62))
/-- the Sentence at c is that of the row W -/
def sen (I : Nat → Nat → Int) (c : Nat) (W : Nat → Int) : Prop := (W 2059 = 0 ∧ I c 4 = 0) ∨ (W 2059 = 1 ∧ ∃ n : Nat, 1 ≤ n ∧ n ≤ 40 ∧ I c 4 = (n : Int) ∧ W 2060 = (n : Int) - 1 ∧ sx_stk (I (c + 1)) n = [n - 1] ∧ ∀ i, i < n → sx_node (I (c + 1)) (I (c + 2)) (I (c + 3)) (W 5) (fun j => W (2061 + j)) i)
theorem sen_fr {I J : Nat → Nat → Int} {c : Nat} {W : Nat → Int} (h : sen I c W) (h0 : J c = I c) (h1 : J (c + 1) = I (c + 1)) (h2 : J (c + 2) = I (c + 2)) (h3 : J (c + 3) = I (c + 3)) : sen J c W := by
  unfold sen at h ⊢; rw [h0, h1, h2, h3]; exact h
def cpG (I : Nat → Nat → Int) (p : Nat) (T W : Nat → Int) : Prop := ∃ G, pl I p G ∧ rf T G ∧ gkt W G
def cpK (I : Nat → Nat → Int) : Prop := kit I 6 (lw I) (I 130) ∧ beg I
/-- PLANS that can come back: the class's, the reference's -/
def hsC (I : Nat → Nat → Int) (H : List (List Go)) : Prop := ∃ o : Nat, o < 8 ∧ H.length ≤ 8 ∧ I 22 1 = (o : Int) ∧ I 22 2 = (H.length : Int) ∧ ∀ j, j < H.length → pl I (24 + 2 * ((o + j) % 8)) (H.getD j [])
def hsR (I : Nat → Nat → Int) (H : List (List Go)) : Prop := I 124 22 = (H.length : Int) ∧ ∀ j, j < H.length → rf (fun i => I 129 (2001 * j + i)) (H.getD j [])
def cpH (I : Nat → Nat → Int) : Prop := ∃ H, hsC I H ∧ hsR I H ∧ ∀ j, j < H.length → gkt (lw I) (H.getD j [])
theorem hsC_fr {I J : Nat → Nat → Int} {H : List (List Go)} (h : hsC I H) (e : ∀ a, (a = 22 ∨ 24 ≤ a ∧ a ≤ 39) → J a = I a) : hsC J H := by
  obtain ⟨o, h1, h2, h3, h4, h5⟩ := h
  exact ⟨o, h1, h2, by rw [e 22 (by omega)]; exact h3, by rw [e 22 (by omega)]; exact h4, fun j hj => pl_fr (h5 j hj) (e _ (by omega)) (e _ (by omega))⟩
theorem hsR_fr {I J : Nat → Nat → Int} {H : List (List Go)} (h : hsR I H) (e : J 124 22 = I 124 22) (e2 : J 129 = I 129) : hsR J H := by
  unfold hsR at h ⊢; rw [e, e2]; exact h
def kpW (I : Nat → Nat → Int) (k : Nat) : Nat → Int := fun j => I 128 (2301 * k + j)
def kpN (I : Nat → Nat → Int) (k : Nat) : Nat → Int := fun j => I 132 (21 * k + j)
def cpI (I : Nat → Nat → Int) (k : Nat) : Prop := I (92 + 16 * k) 3 = I 133 k ∧ (I 133 k = 0 ∨ I 133 k = 1) ∧ (I 133 k = 1 → kit I (93 + 16 * k) (kpW I k) (kpN I k) ∧ cpG I (101 + 16 * k) (pw (kpW I k)) (kpW I k) ∧ sen I (103 + 16 * k) (kpW I k))
def sbyte (x : Int) : Int := if x < 128 then x else x - 256
def cpT (I : Nat → Nat → Int) : Prop := ∃ n : Nat, n ≤ 640 ∧ I 55 1 = (n : Int) ∧ I 124 2 = (n : Int) ∧ ∀ i, i < n → 0 ≤ I 125 i ∧ I 125 i ≤ 255 ∧ I 56 i = sbyte (I 125 i)
def cpX (I : Nat → Nat → Int) : Prop := ∃ n : Nat, n ≤ 7200 ∧ I 4 15 = (n : Int) ∧ I 124 29 = (n : Int) ∧ ∀ i, i < n → 0 ≤ I 135 i ∧ I 135 i ≤ 127 ∧ I 89 i = I 135 i
def cpF (I : Nat → Nat → Int) : Prop := I 4 16 = I 124 10 ∧ I 4 17 = I 124 26
def cpV (I : Nat → Nat → Int) : Prop := ∃ n : Nat, n ≤ 8 ∧ I 80 5 = (n : Int) ∧ I 124 49 = (n : Int) ∧ ∀ g, g < n → I 85 g = I 153 g
def cpP (I : Nat → Nat → Int) : Prop := ∃ n : Nat, n ≤ 5 ∧ I 86 2 = (n : Int) ∧ I 124 53 = (n : Int) ∧ ∀ k, k < n → I 88 k = I 156 k
/-- the words that are no NAMES, as the class keeps them -/
def ownR : Nat → Int := fun k => am_nth 0 [16430, 595572, 114052, 87630, 20325477, 8033908, 638548, 505957, 20976, 22483122, 244915, 178323, 14836, 146885, 1265842, 1476, 498] k
def cpC (X : Nat → Int) (I : Nat → Nat → Int) : Prop := I 1 = X ∧ I 2 = am_cho ∧ I 57 = ownR
def cp (X : Nat → Int) (I : Nat → Nat → Int) : Prop := cpC X I ∧ cpK I ∧ cpG I 14 (pw (I 126)) (lw I) ∧ sen I 16 (lw I) ∧ cpH I ∧ (cpI I 0 ∧ cpI I 1) ∧ cpT I ∧ cpX I ∧ cpF I ∧ cpV I ∧ cpP I
/-- the class has changed nothing that counts -/
def cq (I J : Nat → Nat → Int) : Prop := (∀ a, (1 ≤ a ∧ a ≤ 2 ∨ 6 ≤ a ∧ a ≤ 19 ∨ a = 22 ∨ 24 ≤ a ∧ a ≤ 39 ∨ a = 56 ∨ a = 57 ∨ a = 85 ∨ a = 88 ∨ a = 89 ∨ 93 ≤ a ∧ a ≤ 106 ∨ 109 ≤ a ∧ a ≤ 122 ∨ 124 ≤ a) → J a = I a) ∧ J 4 15 = I 4 15 ∧ J 4 16 = I 4 16 ∧ J 4 17 = I 4 17 ∧ J 55 1 = I 55 1 ∧ J 80 5 = I 80 5 ∧ J 86 2 = I 86 2 ∧ J 92 3 = I 92 3 ∧ J 108 3 = I 108 3
/-- the reference has changed nothing that counts, but for lay() -/
def rq (I J : Nat → Nat → Int) : Prop := (∀ a, (a < 124 ∨ a = 125 ∨ 128 ≤ a ∧ a ≤ 130 ∨ 132 ≤ a ∧ a ≤ 133 ∨ a = 135 ∨ a = 153 ∨ a = 156 ∨ a = 160) → J a = I a) ∧ (J 124 2 = I 124 2 ∧ J 124 10 = I 124 10 ∧ J 124 22 = I 124 22 ∧ J 124 26 = I 124 26 ∧ J 124 29 = I 124 29 ∧ J 124 49 = I 124 49 ∧ J 124 53 = I 124 53) ∧ (J 124 23 = I 124 23 ∧ J 126 = I 126 ∨ J 124 23 = 1 ∧ J 126 = lw I)
theorem cpG_fr {I J : Nat → Nat → Int} {p : Nat} {T W : Nat → Int} (h : cpG I p T W) (h0 : J p = I p) (h1 : J (p + 1) = I (p + 1)) : cpG J p T W := by
  obtain ⟨G, a, b, c⟩ := h
  exact ⟨G, pl_fr a h0 h1, b, c⟩
theorem cp_cq {X : Nat → Int} {I J : Nat → Nat → Int} (h : cp X I) (q : cq I J) : cp X J := by
  obtain ⟨q, q1, q2, q3, q4, q5, q6, q7, q8⟩ := q
  obtain ⟨c, k, g, s, hh, ⟨i0, i1⟩, t, x, f, v, p⟩ := h
  have e124 := q 124 (by omega)
  have e126 := q 126 (by omega)
  have el : lw J = lw I := by unfold lw; rw [e124, e126]
  refine ⟨?_, ?_, ?_, ?_, ?_, ⟨?_, ?_⟩, ?_, ?_, ?_, ?_, ?_⟩
  · unfold cpC; rw [q 1 (by omega), q 2 (by omega), q 57 (by omega)]; exact c
  · obtain ⟨k1, k2⟩ := k
    refine ⟨?_, ?_⟩
    · rw [el, q 130 (by omega)]; exact kit_fr k1 (fun a h1 h2 => q a (by omega))
    · unfold beg; rw [e124, e126]; exact k2
  · rw [e126, el]; exact cpG_fr g (q 14 (by omega)) (q 15 (by omega))
  · rw [el]; exact sen_fr s (q 16 (by omega)) (q 17 (by omega)) (q 18 (by omega)) (q 19 (by omega))
  · obtain ⟨H, h1, h2, h3⟩ := hh
    exact ⟨H, hsC_fr h1 (fun a ha => q a (by omega)), hsR_fr h2 (by rw [e124]) (q 129 (by omega)), by rw [el]; exact h3⟩
  · obtain ⟨a, b, d⟩ := i0
    unfold cpI kpW kpN
    rw [q 133 (by omega), q 128 (by omega), q 132 (by omega)]
    refine ⟨by rw [show 92 + 16 * 0 = 92 from rfl, q7]; exact a, b, fun hk => ?_⟩
    obtain ⟨d1, d2, d3⟩ := d hk
    exact ⟨kit_fr d1 (fun a h1 h2 => q a (by omega)), cpG_fr d2 (q _ (by omega)) (q _ (by omega)), sen_fr d3 (q _ (by omega)) (q _ (by omega)) (q _ (by omega)) (q _ (by omega))⟩
  · obtain ⟨a, b, d⟩ := i1
    unfold cpI kpW kpN
    rw [q 133 (by omega), q 128 (by omega), q 132 (by omega)]
    refine ⟨by rw [show 92 + 16 * 1 = 108 from rfl, q8]; exact a, b, fun hk => ?_⟩
    obtain ⟨d1, d2, d3⟩ := d hk
    exact ⟨kit_fr d1 (fun a h1 h2 => q a (by omega)), cpG_fr d2 (q _ (by omega)) (q _ (by omega)), sen_fr d3 (q _ (by omega)) (q _ (by omega)) (q _ (by omega)) (q _ (by omega))⟩
  · unfold cpT; rw [q4, e124, q 125 (by omega), q 56 (by omega)]; exact t
  · unfold cpX; rw [q1, e124, q 135 (by omega), q 89 (by omega)]; exact x
  · unfold cpF; rw [q2, q3, e124]; exact f
  · unfold cpV; rw [q5, e124, q 85 (by omega), q 153 (by omega)]; exact v
  · unfold cpP; rw [q6, e124, q 88 (by omega), q 156 (by omega)]; exact p
theorem rq_lw {I J : Nat → Nat → Int} (q : rq I J) : lw J = lw I := by
  obtain ⟨-, -, ⟨a, b⟩ | ⟨a, b⟩⟩ := q
  · unfold lw; rw [a, b]
  · conv => lhs; unfold lw
    rw [a, b]; rfl
theorem pw_plain : rf (pw plainR) [] := ⟨rfl, fun k hk => absurd hk (Nat.not_lt_zero k)⟩
/-- the PLAN that the reference shows ahead of lay() is that behind it -/
theorem rf_lw {I : Nat → Nat → Int} {G : List Go} (hb : beg I) (h : rf (pw (I 126)) G) : rf (pw (lw I)) G := by
  unfold lw
  rcases hb with ⟨a, b⟩ | a
  · rw [if_pos a]
    rw [b] at h
    have : G.length = 0 := by have h1 : (0 : Int) = G.length := h.1; omega
    rw [List.length_eq_zero_iff.mp this]
    exact pw_plain
  · rw [if_neg (by omega)]; exact h
theorem cp_rq {X : Nat → Int} {I J : Nat → Nat → Int} (h : cp X I) (r : rq I J) : cp X J := by
  have el := rq_lw r
  obtain ⟨q, ⟨q1, q2, q3, q4, q5, q6, q7⟩, w⟩ := r
  obtain ⟨c, ⟨k1, k2⟩, g, s, hh, ⟨i0, i1⟩, t, x, f, v, p⟩ := h
  have im : ∀ k, k < 2 → cpI I k → cpI J k := by
    intro k hk ⟨a, b, d⟩
    unfold cpI kpW kpN
    rw [q 133 (by omega), q 128 (by omega), q 132 (by omega)]
    refine ⟨by rw [q _ (by omega)]; exact a, b, fun hk => ?_⟩
    obtain ⟨d1, d2, d3⟩ := d hk
    exact ⟨kit_fr d1 (fun a h1 h2 => q a (by omega)), cpG_fr d2 (q _ (by omega)) (q _ (by omega)), sen_fr d3 (q _ (by omega)) (q _ (by omega)) (q _ (by omega)) (q _ (by omega))⟩
  refine ⟨?_, ⟨?_, ?_⟩, ?_, ?_, ?_, ⟨im 0 (by decide) i0, im 1 (by decide) i1⟩, ?_, ?_, ?_, ?_, ?_⟩
  · unfold cpC; rw [q 1 (by omega), q 2 (by omega), q 57 (by omega)]; exact c
  · rw [el, q 130 (by omega)]; exact kit_fr k1 (fun a h1 h2 => q a (by omega))
  · unfold beg
    rcases w with ⟨a, b⟩ | ⟨a, b⟩
    · rw [a, b]; exact k2
    · exact Or.inr a
  · rw [el]
    obtain ⟨G, a, b, e⟩ := g
    refine ⟨G, pl_fr a (q 14 (by omega)) (q 15 (by omega)), ?_, e⟩
    rcases w with ⟨-, b2⟩ | ⟨-, b2⟩
    · rw [b2]; exact b
    · rw [b2]; exact rf_lw k2 b
  · rw [el]; exact sen_fr s (q 16 (by omega)) (q 17 (by omega)) (q 18 (by omega)) (q 19 (by omega))
  · obtain ⟨H, h1, h2, h3⟩ := hh
    exact ⟨H, hsC_fr h1 (fun a ha => q a (by omega)), hsR_fr h2 q3 (q 129 (by omega)), by rw [el]; exact h3⟩
  · unfold cpT; rw [q 55 (by omega), q1, q 125 (by omega), q 56 (by omega)]; exact t
  · unfold cpX; rw [q 4 (by omega), q5, q 135 (by omega), q 89 (by omega)]; exact x
  · unfold cpF; rw [q 4 (by omega), q2, q4]; exact f
  · unfold cpV; rw [q 80 (by omega), q6, q 85 (by omega), q 153 (by omega)]; exact v
  · unfold cpP; rw [q 86 (by omega), q7, q 88 (by omega), q 156 (by omega)]; exact p
theorem cq_refl {I : Nat → Nat → Int} : cq I I := ⟨fun _ _ => rfl, rfl, rfl, rfl, rfl, rfl, rfl, rfl, rfl⟩
theorem rq_refl {I : Nat → Nat → Int} : rq I I := ⟨fun _ _ => rfl, ⟨rfl, rfl, rfl, rfl, rfl, rfl, rfl⟩, Or.inl ⟨rfl, rfl⟩⟩
/-- the reference's 'thrown' is set, nothing else -/
theorem rq_thrown {I : Nat → Nat → Int} {x : Int} : rq I (am_up I 124 0 x) := by
  refine ⟨fun a ha => am_upO (by omega), ?_, Or.inl ⟨?_, am_upO (by decide)⟩⟩
  · rw [am_upS]; exact ⟨rfl, rfl, rfl, rfl, rfl, rfl, rfl⟩
  · rw [am_upS]; rfl
theorem rq_trans {I J K : Nat → Nat → Int} (a : rq I J) (b : rq J K) : rq I K := by
  have el := rq_lw a
  obtain ⟨q, ⟨q1, q2, q3, q4, q5, q6, q7⟩, w⟩ := a
  obtain ⟨p, ⟨p1, p2, p3, p4, p5, p6, p7⟩, u⟩ := b
  refine ⟨fun c hc => (p c hc).trans (q c hc), ⟨p1.trans q1, p2.trans q2, p3.trans q3, p4.trans q4, p5.trans q5, p6.trans q6, p7.trans q7⟩, ?_⟩
  rcases u with ⟨u1, u2⟩ | ⟨u1, u2⟩
  · rw [u1, u2]; exact w
  · rw [u1, u2, el]; exact Or.inr ⟨rfl, rfl⟩
/-- lay() -/
theorem rq_lay {I J : Nat → Nat → Int} (h1 : ∀ a, a ≠ 124 → a ≠ 126 → J a = I a) (h2 : ∀ j, j ≠ 23 → J 124 j = I 124 j) (h3 : J 124 23 = 1) (h4 : J 126 = lw I) : rq I J :=
  ⟨fun a ha => h1 a (by omega) (by omega), ⟨h2 _ (by decide), h2 _ (by decide), h2 _ (by decide), h2 _ (by decide), h2 _ (by decide), h2 _ (by decide), h2 _ (by decide)⟩, Or.inr ⟨h3, h4⟩⟩
