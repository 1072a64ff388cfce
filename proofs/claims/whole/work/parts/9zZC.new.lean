/-! THE CONSTRUCTORS: a log of what is made and written -/
abbrev LE : Type := Nat × Nat × Nat × Int
/-- (0, kind, length, number): a new cell; (1, a, k, v): an int; (2, a, k, r): a reference; (3, a, 0, 0): the words -/
def lgs (M : am_M) (e : LE) : am_M := match M with
  | (m, sl, sh, I, R) => if e.1 = 0 then am_mk (m, sl, sh, I, R) e.2.1 e.2.2.1 else if e.1 = 1 then (m, sl, sh, am_up I e.2.1 e.2.2.1 e.2.2.2, R) else if e.1 = 2 then (m, sl, sh, I, am_up R e.2.1 e.2.2.1 e.2.2.2.toNat) else (m, sl, sh, (fun b => if b = e.2.1 then ownR else I b), R)
def lgm (M : am_M) (l : List LE) : am_M := l.foldl lgs M
theorem lgm_app {M : am_M} {l e : List LE} : lgm M (l ++ e) = lgm (lgm M l) e := List.foldl_append
def AT (M : am_M) (l : List LE) (m sl : Nat) (sh : Nat → Nat × Nat) (I : Nat → Nat → Int) (R : Nat → Nat → Nat) : Prop := (m, sl, sh, I, R) = lgm M l
theorem at_l {M : am_M} {l e : List LE} {m sl : Nat} {sh : Nat → Nat × Nat} {I : Nat → Nat → Int} {R : Nat → Nat → Nat} {m2 sl2 : Nat} {sh2 : Nat → Nat × Nat} {I2 : Nat → Nat → Int} {R2 : Nat → Nat → Nat} (a : AT M l m sl sh I R) (h : (m2, sl2, sh2, I2, R2) = lgm (m, sl, sh, I, R) e) : AT M (l ++ e) m2 sl2 sh2 I2 R2 := by
  unfold AT at a ⊢
  rw [lgm_app, ← a, h]
theorem am_sh1O {f : Nat → Nat × Nat} {a b : Nat} {x : Nat × Nat} (h : b ≠ a) : am_sh1 f a x b = f b := if_neg h
theorem am_sh1S {f : Nat → Nat × Nat} {a : Nat} {x : Nat × Nat} : am_sh1 f a x a = x := if_pos rfl
theorem am_zeO {α : Type} {f : Nat → Nat → α} {a b : Nat} {x : α} (h : b ≠ a) : am_zero f a x b = f b := funext (fun _ => if_neg h)
section NEW
variable {m sl p d : Nat} {sh : Nat → Nat × Nat} {I : Nat → Nat → Int} {R : Nat → Nat → Nat} {Q : am_R → am_M → Prop} {M : am_M} {l : List LE}

def lgPlan (p m : Nat) : List LE := [(0, 32, 400, ((m : Nat) : Int)), (2, p, 0, ((m : Nat) : Int)), (1, p, 1, 0)]
theorem n_Plan (a : AT M l m sl sh I R) (hp : sh p = (5, 2)) (hpm : p < m) (h4 : 4 ≤ p) (h : ∀ m' sl' sh' I' R', AT M (l ++ lgPlan p m) m' sl' sh' I' R' → m' = m + 1 → (∀ b, b < m → sh' b = sh b) → (∀ b, b < m → b ≠ p → R' b = R b) → Q am_yv (m', sl', sh', I', R')) : am_wp (d + 0) 57 0 [some (.inr (.inr p))] [] (m, sl, sh, I, R) Q := by
  refine am_wp_go rfl (by simp (disch := omega) only [hp, am_sh1O, am_sh1S, am_upO, am_upS, am_stS, am_stO, am_zeO, am_kd, am_tnn, Int.reduceToNat, Int.reduceEq, Nat.reduceEqDiff, eq_self, List.length_cons, List.length_nil, and_self, and_true, true_and, and_false, false_and, or_true, true_or, or_false, false_or, ne_eq, not_false_eq_true] <;> omega) ?_
  refine am_wp_ret rfl rfl ?_
  exact h _ _ _ _ _ (at_l a rfl) rfl (fun b hb => by simp (disch := omega) only [am_sh1O]) (fun b hb hn => by simp (disch := omega) only [am_upO, am_zeO])

def lgSentence (p m : Nat) : List LE := [(0, 32, 40, ((m : Nat) : Int)), (2, p, 0, ((m : Nat) : Int)), (0, 32, 40, ((m + 1 : Nat) : Int)), (2, p, 1, ((m + 1 : Nat) : Int)), (0, 32, 40, ((m + 2 : Nat) : Int)), (2, p, 2, ((m + 2 : Nat) : Int)), (0, 32, 40, ((m + 3 : Nat) : Int)), (2, p, 3, ((m + 3 : Nat) : Int)), (1, p, 4, 0), (1, p, 5, 0)]
theorem n_Sentence (a : AT M l m sl sh I R) (hp : sh p = (6, 6)) (hpm : p < m) (h4 : 4 ≤ p) (h : ∀ m' sl' sh' I' R', AT M (l ++ lgSentence p m) m' sl' sh' I' R' → m' = m + 4 → (∀ b, b < m → sh' b = sh b) → (∀ b, b < m → b ≠ p → R' b = R b) → Q am_yv (m', sl', sh', I', R')) : am_wp (d + 0) 78 0 [some (.inr (.inr p))] [] (m, sl, sh, I, R) Q := by
  refine am_wp_go rfl (by simp (disch := omega) only [hp, am_sh1O, am_sh1S, am_upO, am_upS, am_stS, am_stO, am_zeO, am_kd, am_tnn, Int.reduceToNat, Int.reduceEq, Nat.reduceEqDiff, eq_self, List.length_cons, List.length_nil, and_self, and_true, true_and, and_false, false_and, or_true, true_or, or_false, false_or, ne_eq, not_false_eq_true] <;> omega) ?_
  refine am_wp_ret rfl rfl ?_
  exact h _ _ _ _ _ (at_l a rfl) rfl (fun b hb => by simp (disch := omega) only [am_sh1O]) (fun b hb hn => by simp (disch := omega) only [am_upO, am_zeO])

def lgBoard (p m : Nat) : List LE := [(0, 32, 1000, ((m : Nat) : Int)), (2, p, 0, ((m : Nat) : Int)), (0, 32, 16, ((m + 1 : Nat) : Int)), (2, p, 1, ((m + 1 : Nat) : Int))]
theorem n_Board (a : AT M l m sl sh I R) (hp : sh p = (0, 2)) (hpm : p < m) (h4 : 4 ≤ p) (h : ∀ m' sl' sh' I' R', AT M (l ++ lgBoard p m) m' sl' sh' I' R' → m' = m + 2 → (∀ b, b < m → sh' b = sh b) → (∀ b, b < m → b ≠ p → R' b = R b) → Q am_yv (m', sl', sh', I', R')) : am_wp (d + 0) 0 0 [some (.inr (.inr p))] [] (m, sl, sh, I, R) Q := by
  refine am_wp_go rfl (by simp (disch := omega) only [hp, am_sh1O, am_sh1S, am_upO, am_upS, am_stS, am_stO, am_zeO, am_kd, am_tnn, Int.reduceToNat, Int.reduceEq, Nat.reduceEqDiff, eq_self, List.length_cons, List.length_nil, and_self, and_true, true_and, and_false, false_and, or_true, true_or, or_false, false_or, ne_eq, not_false_eq_true] <;> omega) ?_
  refine am_wp_ret rfl rfl ?_
  exact h _ _ _ _ _ (at_l a rfl) rfl (fun b hb => by simp (disch := omega) only [am_sh1O]) (fun b hb hn => by simp (disch := omega) only [am_upO, am_zeO])

def lgShortest (p m : Nat) : List LE := [(0, 32, 256, ((m : Nat) : Int)), (2, p, 0, ((m : Nat) : Int)), (0, 32, 8, ((m + 1 : Nat) : Int)), (2, p, 1, ((m + 1 : Nat) : Int)), (0, 32, 8, ((m + 2 : Nat) : Int)), (2, p, 2, ((m + 2 : Nat) : Int)), (0, 32, 8, ((m + 3 : Nat) : Int)), (2, p, 3, ((m + 3 : Nat) : Int)), (0, 32, 8, ((m + 4 : Nat) : Int)), (2, p, 4, ((m + 4 : Nat) : Int)), (0, 32, 64, ((m + 5 : Nat) : Int)), (2, p, 5, ((m + 5 : Nat) : Int)), (0, 32, 4, ((m + 6 : Nat) : Int)), (2, p, 6, ((m + 6 : Nat) : Int)), (0, 32, 8, ((m + 7 : Nat) : Int)), (2, p, 7, ((m + 7 : Nat) : Int))]
theorem n_Shortest (a : AT M l m sl sh I R) (hp : sh p = (8, 13)) (hpm : p < m) (h4 : 4 ≤ p) (h : ∀ m' sl' sh' I' R', AT M (l ++ lgShortest p m) m' sl' sh' I' R' → m' = m + 8 → (∀ b, b < m → sh' b = sh b) → (∀ b, b < m → b ≠ p → R' b = R b) → Q am_yv (m', sl', sh', I', R')) : am_wp (d + 0) 101 0 [some (.inr (.inr p))] [] (m, sl, sh, I, R) Q := by
  refine am_wp_go rfl (by simp (disch := omega) only [hp, am_sh1O, am_sh1S, am_upO, am_upS, am_stS, am_stO, am_zeO, am_kd, am_tnn, Int.reduceToNat, Int.reduceEq, Nat.reduceEqDiff, eq_self, List.length_cons, List.length_nil, and_self, and_true, true_and, and_false, false_and, or_true, true_or, or_false, false_or, ne_eq, not_false_eq_true] <;> omega) ?_
  refine am_wp_ret rfl rfl ?_
  exact h _ _ _ _ _ (at_l a rfl) rfl (fun b hb => by simp (disch := omega) only [am_sh1O]) (fun b hb hn => by simp (disch := omega) only [am_upO, am_zeO])

def lgMakers (p m : Nat) : List LE := [(0, 32, 16, ((m : Nat) : Int)), (2, p, 0, ((m : Nat) : Int)), (0, 32, 4, ((m + 1 : Nat) : Int)), (2, p, 1, ((m + 1 : Nat) : Int)), (0, 32, 4, ((m + 2 : Nat) : Int)), (2, p, 2, ((m + 2 : Nat) : Int)), (0, 32, 4, ((m + 3 : Nat) : Int)), (2, p, 3, ((m + 3 : Nat) : Int)), (0, 32, 8, ((m + 4 : Nat) : Int)), (2, p, 4, ((m + 4 : Nat) : Int)), (0, 32, 2, ((m + 5 : Nat) : Int)), (2, p, 5, ((m + 5 : Nat) : Int))]
theorem n_Makers (a : AT M l m sl sh I R) (hp : sh p = (4, 8)) (hpm : p < m) (h4 : 4 ≤ p) (h : ∀ m' sl' sh' I' R', AT M (l ++ lgMakers p m) m' sl' sh' I' R' → m' = m + 6 → (∀ b, b < m → sh' b = sh b) → (∀ b, b < m → b ≠ p → R' b = R b) → Q am_yv (m', sl', sh', I', R')) : am_wp (d + 0) 37 0 [some (.inr (.inr p))] [] (m, sl, sh, I, R) Q := by
  refine am_wp_go rfl (by simp (disch := omega) only [hp, am_sh1O, am_sh1S, am_upO, am_upS, am_stS, am_stO, am_zeO, am_kd, am_tnn, Int.reduceToNat, Int.reduceEq, Nat.reduceEqDiff, eq_self, List.length_cons, List.length_nil, and_self, and_true, true_and, and_false, false_and, or_true, true_or, or_false, false_or, ne_eq, not_false_eq_true] <;> omega) ?_
  refine am_wp_ret rfl rfl ?_
  exact h _ _ _ _ _ (at_l a rfl) rfl (fun b hb => by simp (disch := omega) only [am_sh1O]) (fun b hb hn => by simp (disch := omega) only [am_upO, am_zeO])

def lgServings (p m : Nat) : List LE := [(0, 32, 249, ((m : Nat) : Int)), (2, p, 0, ((m : Nat) : Int)), (0, 32, 128, ((m + 1 : Nat) : Int)), (2, p, 1, ((m + 1 : Nat) : Int)), (0, 32, 256, ((m + 2 : Nat) : Int)), (2, p, 2, ((m + 2 : Nat) : Int)), (0, 32, 33024, ((m + 3 : Nat) : Int)), (2, p, 3, ((m + 3 : Nat) : Int)), (0, 32, 8, ((m + 4 : Nat) : Int)), (2, p, 4, ((m + 4 : Nat) : Int)), (1, p, 5, 0)]
theorem n_Servings (a : AT M l m sl sh I R) (hp : sh p = (7, 7)) (hpm : p < m) (h4 : 4 ≤ p) (h : ∀ m' sl' sh' I' R', AT M (l ++ lgServings p m) m' sl' sh' I' R' → m' = m + 5 → (∀ b, b < m → sh' b = sh b) → (∀ b, b < m → b ≠ p → R' b = R b) → Q am_yv (m', sl', sh', I', R')) : am_wp (d + 0) 93 0 [some (.inr (.inr p))] [] (m, sl, sh, I, R) Q := by
  refine am_wp_go rfl (by simp (disch := omega) only [hp, am_sh1O, am_sh1S, am_upO, am_upS, am_stS, am_stO, am_zeO, am_kd, am_tnn, Int.reduceToNat, Int.reduceEq, Nat.reduceEqDiff, eq_self, List.length_cons, List.length_nil, and_self, and_true, true_and, and_false, false_and, or_true, true_or, or_false, false_or, ne_eq, not_false_eq_true] <;> omega) ?_
  refine am_wp_ret rfl rfl ?_
  exact h _ _ _ _ _ (at_l a rfl) rfl (fun b hb => by simp (disch := omega) only [am_sh1O]) (fun b hb hn => by simp (disch := omega) only [am_upO, am_zeO])

def lgHotel (p m : Nat) : List LE := [(0, 32, 1206, ((m : Nat) : Int)), (2, p, 0, ((m : Nat) : Int)), (0, 32, 5, ((m + 1 : Nat) : Int)), (2, p, 1, ((m + 1 : Nat) : Int)), (1, p, 2, 0)]
theorem n_Hotel (a : AT M l m sl sh I R) (hp : sh p = (2, 3)) (hpm : p < m) (h4 : 4 ≤ p) (h : ∀ m' sl' sh' I' R', AT M (l ++ lgHotel p m) m' sl' sh' I' R' → m' = m + 2 → (∀ b, b < m → sh' b = sh b) → (∀ b, b < m → b ≠ p → R' b = R b) → Q am_yv (m', sl', sh', I', R')) : am_wp (d + 0) 15 0 [some (.inr (.inr p))] [] (m, sl, sh, I, R) Q := by
  refine am_wp_go rfl (by simp (disch := omega) only [hp, am_sh1O, am_sh1S, am_upO, am_upS, am_stS, am_stO, am_zeO, am_kd, am_tnn, Int.reduceToNat, Int.reduceEq, Nat.reduceEqDiff, eq_self, List.length_cons, List.length_nil, and_self, and_true, true_and, and_false, false_and, or_true, true_or, or_false, false_or, ne_eq, not_false_eq_true] <;> omega) ?_
  refine am_wp_ret rfl rfl ?_
  exact h _ _ _ _ _ (at_l a rfl) rfl (fun b hb => by simp (disch := omega) only [am_sh1O]) (fun b hb hn => by simp (disch := omega) only [am_upO, am_zeO])

def lgModel (p m : Nat) : List LE := [(0, 32, 640, ((m : Nat) : Int)), (2, p, 1, ((m : Nat) : Int)), (0, 32, 2301, ((m + 1 : Nat) : Int)), (2, p, 14, ((m + 1 : Nat) : Int)), (0, 32, 58, ((m + 2 : Nat) : Int)), (2, p, 15, ((m + 2 : Nat) : Int)), (0, 32, 4602, ((m + 3 : Nat) : Int)), (2, p, 16, ((m + 3 : Nat) : Int)), (0, 32, 16008, ((m + 4 : Nat) : Int)), (2, p, 17, ((m + 4 : Nat) : Int)), (0, 35, 21, ((m + 5 : Nat) : Int)), (2, p, 18, ((m + 5 : Nat) : Int)), (0, 35, 21, ((m + 6 : Nat) : Int)), (2, p, 19, ((m + 6 : Nat) : Int)), (0, 35, 42, ((m + 7 : Nat) : Int)), (2, p, 20, ((m + 7 : Nat) : Int)), (0, 34, 2, ((m + 8 : Nat) : Int)), (2, p, 21, ((m + 8 : Nat) : Int)), (0, 32, 150, ((m + 9 : Nat) : Int)), (2, p, 25, ((m + 9 : Nat) : Int)), (1, p, 26, (-1)), (0, 32, 9000, ((m + 10 : Nat) : Int)), (2, p, 27, ((m + 10 : Nat) : Int)), (0, 32, 6, ((m + 11 : Nat) : Int)), (2, p, 28, ((m + 11 : Nat) : Int)), (0, 32, 8, ((m + 12 : Nat) : Int)), (2, p, 30, ((m + 12 : Nat) : Int)), (0, 32, 8, ((m + 13 : Nat) : Int)), (2, p, 31, ((m + 13 : Nat) : Int)), (0, 32, 8, ((m + 14 : Nat) : Int)), (2, p, 32, ((m + 14 : Nat) : Int)), (0, 32, 8, ((m + 15 : Nat) : Int)), (2, p, 33, ((m + 15 : Nat) : Int)), (0, 32, 400, ((m + 16 : Nat) : Int)), (2, p, 34, ((m + 16 : Nat) : Int)), (0, 32, 64, ((m + 17 : Nat) : Int)), (2, p, 36, ((m + 17 : Nat) : Int)), (0, 32, 4, ((m + 18 : Nat) : Int)), (2, p, 37, ((m + 18 : Nat) : Int)), (0, 32, 4, ((m + 19 : Nat) : Int)), (2, p, 38, ((m + 19 : Nat) : Int)), (0, 32, 16, ((m + 20 : Nat) : Int)), (2, p, 39, ((m + 20 : Nat) : Int)), (0, 32, 4, ((m + 21 : Nat) : Int)), (2, p, 40, ((m + 21 : Nat) : Int)), (0, 32, 16, ((m + 22 : Nat) : Int)), (2, p, 42, ((m + 22 : Nat) : Int)), (0, 32, 8, ((m + 23 : Nat) : Int)), (2, p, 43, ((m + 23 : Nat) : Int)), (0, 32, 4, ((m + 24 : Nat) : Int)), (2, p, 44, ((m + 24 : Nat) : Int)), (0, 32, 4, ((m + 25 : Nat) : Int)), (2, p, 45, ((m + 25 : Nat) : Int)), (0, 32, 2001, ((m + 26 : Nat) : Int)), (2, p, 46, ((m + 26 : Nat) : Int)), (0, 32, 87552, ((m + 27 : Nat) : Int)), (2, p, 47, ((m + 27 : Nat) : Int)), (0, 32, 8, ((m + 28 : Nat) : Int)), (2, p, 48, ((m + 28 : Nat) : Int)), (0, 32, 256, ((m + 29 : Nat) : Int)), (2, p, 50, ((m + 29 : Nat) : Int)), (0, 32, 1300, ((m + 30 : Nat) : Int)), (2, p, 51, ((m + 30 : Nat) : Int)), (0, 32, 5, ((m + 31 : Nat) : Int)), (2, p, 52, ((m + 31 : Nat) : Int)), (0, 35, 1024, ((m + 32 : Nat) : Int)), (2, p, 54, ((m + 32 : Nat) : Int)), (0, 35, 1024, ((m + 33 : Nat) : Int)), (2, p, 55, ((m + 33 : Nat) : Int)), (0, 32, 240, ((m + 34 : Nat) : Int)), (2, p, 57, ((m + 34 : Nat) : Int))]
set_option maxRecDepth 8000 in
theorem n_Model (a : AT M l m sl sh I R) (hp : sh p = (12, 62)) (hpm : p < m) (h4 : 4 ≤ p) (h : ∀ m' sl' sh' I' R', AT M (l ++ lgModel p m) m' sl' sh' I' R' → m' = m + 35 → (∀ b, b < m → sh' b = sh b) → (∀ b, b < m → b ≠ p → R' b = R b) → Q am_yv (m', sl', sh', I', R')) : am_wp (d + 0) 188 0 [some (.inr (.inr p))] [] (m, sl, sh, I, R) Q := by
  refine am_wp_go rfl (by simp (disch := omega) only [hp, am_sh1O, am_sh1S, am_upO, am_upS, am_stS, am_stO, am_zeO, am_kd, am_tnn, Int.reduceToNat, Int.reduceEq, Nat.reduceEqDiff, eq_self, List.length_cons, List.length_nil, and_self, and_true, true_and, and_false, false_and, or_true, true_or, or_false, false_or, ne_eq, not_false_eq_true] <;> omega) ?_
  refine am_wp_ret rfl rfl ?_
  exact h _ _ _ _ _ (at_l a rfl) rfl (fun b hb => by simp (disch := omega) only [am_sh1O]) (fun b hb hn => by simp (disch := omega) only [am_upO, am_zeO])

def lgKitchen (p m : Nat) : List LE := [(0, 32, 16, ((m : Nat) : Int)), (2, p, 11, ((m : Nat) : Int)), (0, 32, 8, ((m + 1 : Nat) : Int)), (2, p, 12, ((m + 1 : Nat) : Int)), (0, 32, 8, ((m + 2 : Nat) : Int)), (2, p, 13, ((m + 2 : Nat) : Int)), (0, 32, 5, ((m + 3 : Nat) : Int)), (2, p, 14, ((m + 3 : Nat) : Int)), (0, 32, 5, ((m + 4 : Nat) : Int)), (2, p, 15, ((m + 4 : Nat) : Int)), (0, 32, 8, ((m + 5 : Nat) : Int)), (2, p, 16, ((m + 5 : Nat) : Int)), (0, 32, 8, ((m + 6 : Nat) : Int)), (2, p, 17, ((m + 6 : Nat) : Int)), (1, p, 0, 0), (1, p, 1, 2), (1, p, 2, 0), (1, p, 3, 10), (1, p, 4, 0), (1, p, 5, 1), (1, p, 6, 0), (1, p, 7, 0), (1, p, 8, 0), (1, p, 9, 0), (1, p, 10, 0)]
theorem n_Kitchen (a : AT M l m sl sh I R) (hp : sh p = (3, 18)) (hpm : p < m) (h4 : 4 ≤ p) (h : ∀ m' sl' sh' I' R', AT M (l ++ lgKitchen p m) m' sl' sh' I' R' → m' = m + 7 → (∀ b, b < m → sh' b = sh b) → (∀ b, b < m → b ≠ p → R' b = R b) → Q am_yv (m', sl', sh', I', R')) : am_wp (d + 1) 18 0 [some (.inr (.inr p))] [] (m, sl, sh, I, R) Q := by
  refine am_wp_go rfl (by simp (disch := omega) only [hp, am_sh1O, am_sh1S, am_upO, am_upS, am_stS, am_stO, am_zeO, am_kd, am_tnn, Int.reduceToNat, Int.reduceEq, Nat.reduceEqDiff, eq_self, List.length_cons, List.length_nil, and_self, and_true, true_and, and_false, false_and, or_true, true_or, or_false, false_or, ne_eq, not_false_eq_true] <;> omega) ?_
  refine am_wp_cc rfl rfl rfl (by show Prod.fst _ = 3; simp (disch := omega) only [hp, am_sh1O]) ?_
  refine am_wp_go rfl (by simp (disch := omega) only [hp, am_sh1O, am_sh1S, am_upO, am_upS, am_stS, am_stO, am_zeO, am_kd, am_tnn, Int.reduceToNat, Int.reduceEq, Nat.reduceEqDiff, eq_self, List.length_cons, List.length_nil, and_self, and_true, true_and, and_false, false_and, or_true, true_or, or_false, false_or, ne_eq, not_false_eq_true] <;> omega) ?_
  refine am_wp_ret rfl rfl ⟨_, rfl, ?_⟩
  refine am_wp_ret rfl rfl ?_
  exact h _ _ _ _ _ (at_l a rfl) rfl (fun b hb => by simp (disch := omega) only [am_sh1O]) (fun b hb hn => by simp (disch := omega) only [am_upO, am_zeO])

def ownC (j : Nat) : Int := am_nth 0 am_str j
def ownS : Nat → Nat → Int
  | 0, _ => 0
  | j + 1, k => if ownC j ≠ 32 ∧ k = j / 6 then ownS j k * 32 + ownC j - 96 else ownS j k
theorem ownC_le : ∀ j, j < 102 → 32 ≤ ownC j ∧ ownC j ≤ 122 ∧ am_str.getD j 0 = ownC j := by decide +kernel
theorem ownS_le : ∀ j, j < 102 → 0 ≤ ownS j (j / 6) ∧ ownS j (j / 6) ≤ 40000000 := by decide +kernel
theorem ownS_hi : ∀ j, j ≤ 102 → ∀ k, 17 ≤ k → ownS j k = 0 := by
  intro j
  induction j with
  | zero => intro _ k _; rfl
  | succ j ih =>
    intro hj k hk
    unfold ownS
    rw [if_neg (by omega)]
    exact ih (by omega) k hk
theorem ownS_end : ownS 102 = ownR := by
  funext k
  by_cases hk : k < 17
  · have : ∀ k, k < 17 → ownS 102 k = ownR k := by decide +kernel
    exact this k hk
  · rw [ownS_hi 102 (by decide) k (by omega)]
    have key : ∀ (l : List Int) (k : Nat), l.length ≤ k → am_nth 0 l k = 0 := by
      intro l
      induction l with
      | nil => intro k _; rfl
      | cons a r ih =>
        intro k hk
        cases k with
        | zero => exact absurd hk (by simp)
        | succ k => exact ih k (by simpa using hk)
    unfold ownR
    rw [key _ k (by show 17 ≤ k; omega)]
def lgTape (p m : Nat) : List LE := [(0, 33, 640, ((m : Nat) : Int)), (2, p, 0, ((m : Nat) : Int)), (1, p, 1, 0), (0, 32, 17, ((m + 1 : Nat) : Int)), (2, p, 2, ((m + 1 : Nat) : Int)), (0, 32, 641, ((m + 2 : Nat) : Int)), (2, p, 3, ((m + 2 : Nat) : Int)), (0, 32, 641, ((m + 3 : Nat) : Int)), (2, p, 4, ((m + 3 : Nat) : Int)), (0, 32, 641, ((m + 4 : Nat) : Int)), (2, p, 5, ((m + 4 : Nat) : Int)), (3, m + 1, 0, 0)]
theorem own_st {J : Nat → Nat → Int} {q k : Nat} (h2 : ¬ ownC k = 32) (j2 : J q = ownS k) : am_up J q (k / 6) (ownS k (k / 6) * 32 + ownC k - 96) q = ownS (k + 1) := by
  rw [am_upS, j2]
  funext j
  by_cases hj : j = k / 6
  · rw [am_stS hj, hj]; exact (if_pos ⟨h2, rfl⟩).symm
  · rw [am_stO hj]; exact (if_neg (fun z => hj z.2)).symm
theorem own_eq {q : Nat} {I1 J : Nat → Nat → Int} (h1 : ∀ b, b ≠ q → J b = I1 b) (h2 : J q = ownR) : J = fun b => if b = q then ownR else I1 b := funext (fun b => by
  by_cases e : b = q
  · rw [if_pos e, e]; exact h2
  · rw [if_neg e]; exact h1 b e)
theorem n_TapeL {q : Nat} (hp : sh p = (10, 13)) (hq : sh q = (32, 17)) (hr : R p 2 = q) (h4 : 4 ≤ q) (hI : I q = fun _ => 0) (h : ∀ J, (∀ b, b ≠ q → J b = I b) → J q = ownR → Q am_yv (m, sl, sh, J, R)) : am_wp d 118 61 [some (.inr (.inr p)), some (.inl 0), none, none] [] (m, sl, sh, I, R) Q := by
  have hl : am_str.length = 102 := rfl
  refine am_lp0 (P := fun k => ∀ J z2 z3, (∀ b, b ≠ q → J b = I b) → J q = ownS k → am_wp d 118 61 [some (.inr (.inr p)), some (.inl (k : Int)), z2, z3] [] (m, sl, sh, J, R) Q) 102 (fun k hk ih J z2 z3 j1 j2 => ?_) I none none (fun _ _ => rfl) (by rw [hI]; rfl)
  refine am_wp_go rfl (by simp (disch := omega) only [hp, hq, hr, hl, am_addE, am_subE, am_mulE, am_laddE, am_lsubE, am_upO, am_upS, am_stS, am_stO, am_tnn, am_brl, am_brg, am_bre, am_brn, am_brG, am_brL, am_st1, am_no2, am_st2, am_clr, and_self, true_and, and_true, true_or, or_true, List.length_cons, List.length_nil] <;> omega) ?_
  try simp (disch := omega) only [hp, hq, hr, hl, am_addE, am_subE, am_mulE, am_laddE, am_lsubE, am_upO, am_upS, am_stS, am_stO, am_tnn, am_brl, am_brg, am_bre, am_brn, am_brG, am_brL, am_st1, am_no2, am_st2, am_clr]
  refine am_wp_br (fun h1 => ?_) (fun h1 => ?_)
  · refine am_wp_ret rfl rfl ?_
    rw [show k = 102 by omega] at j2
    exact h J j1 (j2.trans ownS_end)
  · have hc := ownC_le k (by omega)
    have hs := ownS_le k (by omega)
    have h6 : ((k : Nat) : Int) / 6 = ((k / 6 : Nat) : Int) := by omega
    have hk6 : k / 6 < 17 := by omega
    have hcc := hc.2.2
    refine am_wp_go rfl (by simp (disch := omega) only [hp, hq, hr, hl, hcc, j2, am_divE, h6, am_addE, am_subE, am_mulE, am_laddE, am_lsubE, am_upO, am_upS, am_stS, am_stO, am_tnn, am_brl, am_brg, am_bre, am_brn, am_brG, am_brL, am_st1, am_no2, am_st2, am_clr, and_self, true_and, and_true, true_or, or_true, List.length_cons, List.length_nil] <;> omega) ?_
    try simp (disch := omega) only [hp, hq, hr, hl, hcc, j2, am_divE, h6, am_addE, am_subE, am_mulE, am_laddE, am_lsubE, am_upO, am_upS, am_stS, am_stO, am_tnn, am_brl, am_brg, am_bre, am_brn, am_brG, am_brL, am_st1, am_no2, am_st2, am_clr]
    refine am_wp_br (fun h2 => ?_) (fun h2 => ?_)
    · refine am_wp_go rfl (by simp (disch := omega) only [hp, hq, hr, hl, hcc, j2, am_divE, h6, am_addE, am_subE, am_mulE, am_laddE, am_lsubE, am_upO, am_upS, am_stS, am_stO, am_tnn, am_brl, am_brg, am_bre, am_brn, am_brG, am_brL, am_st1, am_no2, am_st2, am_clr, and_self, true_and, and_true, true_or, or_true, List.length_cons, List.length_nil] <;> omega) ?_
      try simp (disch := omega) only [hp, hq, hr, hl, hcc, j2, am_divE, h6, am_addE, am_subE, am_mulE, am_laddE, am_lsubE, am_upO, am_upS, am_stS, am_stO, am_tnn, am_brl, am_brg, am_bre, am_brn, am_brG, am_brL, am_st1, am_no2, am_st2, am_clr]
      exact am_wp_ls (ih (by omega) J (some (.inl (ownC k))) z3 j1 (by rw [j2]; funext j; exact (if_neg (fun z => z.1 h2)).symm)) (by simp (disch := omega) only [hp, hq, hr, hl, hcc, j2, am_divE, h6, am_addE, am_subE, am_mulE, am_laddE, am_lsubE, am_upO, am_upS, am_stS, am_stO, am_tnn, am_brl, am_brg, am_bre, am_brn, am_brG, am_brL, am_st1, am_no2, am_st2, am_clr, List.cons.injEq, Option.some.injEq, Sum.inl.injEq, Sum.inr.injEq, and_self, true_and, and_true] <;> omega)
    · refine am_wp_go rfl (by simp (disch := omega) only [hp, hq, hr, hl, hcc, j2, am_divE, h6, am_addE, am_subE, am_mulE, am_laddE, am_lsubE, am_upO, am_upS, am_stS, am_stO, am_tnn, am_brl, am_brg, am_bre, am_brn, am_brG, am_brL, am_st1, am_no2, am_st2, am_clr, and_self, true_and, and_true, true_or, or_true, List.length_cons, List.length_nil] <;> omega) ?_
      try simp (disch := omega) only [hp, hq, hr, hl, hcc, j2, am_divE, h6, am_addE, am_subE, am_mulE, am_laddE, am_lsubE, am_upO, am_upS, am_stS, am_stO, am_tnn, am_brl, am_brg, am_bre, am_brn, am_brG, am_brL, am_st1, am_no2, am_st2, am_clr]
      exact am_wp_ls (ih (by omega) (am_up J q (k / 6) (ownS k (k / 6) * 32 + ownC k - 96)) (some (.inl (ownC k))) (some (.inl ((k / 6 : Nat) : Int))) (fun b hb => by rw [am_upO hb]; exact j1 b hb) (own_st h2 j2)) (by simp (disch := omega) only [hp, hq, hr, hl, hcc, j2, am_divE, h6, am_addE, am_subE, am_mulE, am_laddE, am_lsubE, am_upO, am_upS, am_stS, am_stO, am_tnn, am_brl, am_brg, am_bre, am_brn, am_brG, am_brL, am_st1, am_no2, am_st2, am_clr, List.cons.injEq, Option.some.injEq, Sum.inl.injEq, Sum.inr.injEq, and_self, true_and, and_true] <;> omega)
theorem n_Tape (a : AT M l m sl sh I R) (hp : sh p = (10, 13)) (hpm : p < m) (h4 : 4 ≤ p) (h : ∀ m' sl' sh' I' R', AT M (l ++ lgTape p m) m' sl' sh' I' R' → m' = m + 5 → (∀ b, b < m → sh' b = sh b) → (∀ b, b < m → b ≠ p → R' b = R b) → Q am_yv (m', sl', sh', I', R')) : am_wp (d + 0) 118 0 [some (.inr (.inr p)), none, none, none] [] (m, sl, sh, I, R) Q := by
  have hd : am_div ((am_str.length : Nat) : Int) 6 = 17 := by decide +kernel
  refine am_wp_go rfl (by simp (disch := omega) only [hp, hd, am_sh1O, am_sh1S, am_upO, am_upS, am_stS, am_stO, am_zeO, am_kd, am_tnn, Int.reduceToNat, Int.reduceEq, Nat.reduceEqDiff, eq_self, List.length_cons, List.length_nil, and_self, and_true, true_and, and_false, false_and, or_true, true_or, or_false, false_or, ne_eq, not_false_eq_true] <;> omega) ?_
  simp only [hd]
  refine n_TapeL (q := m + 1) (by simp (disch := omega) only [hp, am_sh1O]) (by simp (disch := omega) only [am_sh1O, am_sh1S, am_kd, Int.reduceToNat]) (by simp (disch := omega) only [am_upO, am_upS, am_stS, am_stO, am_zeO]) (by omega) (by simp (disch := omega) only [am_upO, am_zeO]; funext j; exact if_pos rfl) (fun J j1 j2 => ?_)
  have ej := own_eq j1 j2
  subst ej
  exact h _ _ _ _ _ (at_l a rfl) rfl (fun b hb => by simp (disch := omega) only [am_sh1O]) (fun b hb hn => by simp (disch := omega) only [am_upO, am_zeO])

def lgState (p m : Nat) : List LE := [(0, 3, 18, ((m : Nat) : Int))] ++ (lgKitchen (m) (m + 1) ++ ([(2, p, 0, ((m : Nat) : Int)), (0, 5, 2, ((m + 8 : Nat) : Int))] ++ (lgPlan (m + 8) (m + 9) ++ ([(2, p, 1, ((m + 8 : Nat) : Int)), (0, 6, 6, ((m + 10 : Nat) : Int))] ++ (lgSentence (m + 10) (m + 11) ++ ([(2, p, 2, ((m + 10 : Nat) : Int)), (1, p, 3, 0)]))))))
set_option maxHeartbeats 4000000 in
set_option maxRecDepth 8000 in
theorem n_State (a : AT M l m sl sh I R) (hp : sh p = (9, 4)) (hpm : p < m) (h4 : 4 ≤ p) (h : ∀ m' sl' sh' I' R', AT M (l ++ lgState p m) m' sl' sh' I' R' → m' = m + 15 → (∀ b, b < m → sh' b = sh b) → (∀ b, b < m → b ≠ p → R' b = R b) → Q am_yv (m', sl', sh', I', R')) : am_wp (d + 2) 114 0 [some (.inr (.inr p))] [] (m, sl, sh, I, R) Q := by
  refine am_wp_go rfl (by simp (disch := omega) only [hp, am_sh1O, am_sh1S, am_upO, am_upS, am_stS, am_stO, am_zeO, am_kd, am_tnn, Int.reduceToNat, Int.reduceEq, Nat.reduceEqDiff, eq_self, List.length_cons, List.length_nil, and_self, and_true, true_and, and_false, false_and, or_true, true_or, or_false, false_or, ne_eq, not_false_eq_true] <;> omega) ?_
  refine am_wp_cc rfl rfl rfl (show 4 ≤ _ by omega) (n_Kitchen (p := m) (at_l (e := [(0, 3, 18, ((m : Nat) : Int))]) a rfl) am_sh1S (by omega) (by omega) (fun m1 sl1 sh1 I1 R1 a1 e1 f1 g1 => ⟨_, rfl, ?_⟩))
  have e1 : m1 = m + 8 := e1
  subst e1
  have hp1 : sh1 p = (9, 4) := by simp (disch := omega) only [f1, am_sh1O, am_sh1S, hp]
  have hx1 : sh1 (m) = (3, 18) := by simp (disch := omega) only [f1, am_sh1O, am_sh1S]
  refine am_wp_go rfl (by simp (disch := omega) only [hp1, hx1, am_sh1O, am_sh1S, am_upO, am_upS, am_stS, am_stO, am_zeO, am_kd, am_tnn, Int.reduceToNat, Int.reduceEq, Nat.reduceEqDiff, eq_self, List.length_cons, List.length_nil, and_self, and_true, true_and, and_false, false_and, or_true, true_or, or_false, false_or, ne_eq, not_false_eq_true] <;> omega) ?_
  refine am_wp_cc rfl rfl rfl (show 4 ≤ _ by omega) (n_Plan (p := m + 8) (at_l (e := [(2, p, 0, ((m : Nat) : Int)), (0, 5, 2, ((m + 8 : Nat) : Int))]) a1 rfl) am_sh1S (by omega) (by omega) (fun m2 sl2 sh2 I2 R2 a2 e2 f2 g2 => ⟨_, rfl, ?_⟩))
  have e2 : m2 = m + 10 := e2
  subst e2
  have hp2 : sh2 p = (9, 4) := by simp (disch := omega) only [f2, am_sh1O, am_sh1S, hp1, hx1]
  have hx2 : sh2 (m + 8) = (5, 2) := by simp (disch := omega) only [f2, am_sh1O, am_sh1S]
  refine am_wp_go rfl (by simp (disch := omega) only [hp2, hx2, am_sh1O, am_sh1S, am_upO, am_upS, am_stS, am_stO, am_zeO, am_kd, am_tnn, Int.reduceToNat, Int.reduceEq, Nat.reduceEqDiff, eq_self, List.length_cons, List.length_nil, and_self, and_true, true_and, and_false, false_and, or_true, true_or, or_false, false_or, ne_eq, not_false_eq_true] <;> omega) ?_
  refine am_wp_cc rfl rfl rfl (show 4 ≤ _ by omega) (n_Sentence (p := m + 10) (at_l (e := [(2, p, 1, ((m + 8 : Nat) : Int)), (0, 6, 6, ((m + 10 : Nat) : Int))]) a2 rfl) am_sh1S (by omega) (by omega) (fun m3 sl3 sh3 I3 R3 a3 e3 f3 g3 => ⟨_, rfl, ?_⟩))
  have e3 : m3 = m + 15 := e3
  subst e3
  have hp3 : sh3 p = (9, 4) := by simp (disch := omega) only [f3, am_sh1O, am_sh1S, hp2, hx2]
  have hx3 : sh3 (m + 10) = (6, 6) := by simp (disch := omega) only [f3, am_sh1O, am_sh1S]
  refine am_wp_go rfl (by simp (disch := omega) only [hp3, hx3, am_sh1O, am_sh1S, am_upO, am_upS, am_stS, am_stO, am_zeO, am_kd, am_tnn, Int.reduceToNat, Int.reduceEq, Nat.reduceEqDiff, eq_self, List.length_cons, List.length_nil, and_self, and_true, true_and, and_false, false_and, or_true, true_or, or_false, false_or, ne_eq, not_false_eq_true] <;> omega) ?_
  refine am_wp_ret rfl rfl ?_
  exact h _ _ _ _ _ (by unfold lgState; simp only [← List.append_assoc]; exact at_l (e := [(2, p, 2, ((m + 10 : Nat) : Int)), (1, p, 3, 0)]) a3 rfl) (show _ = m + 15 from rfl) (fun b hb => by simp (disch := omega) only [f1, f2, f3, am_sh1O]) (fun b hb hn => by simp (disch := omega) only [g1, g2, g3, am_upO, am_zeO])

end NEW
