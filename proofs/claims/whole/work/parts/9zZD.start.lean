/-! WHAT THE CONSTRUCTORS LEAVE -/
def bigLog : List LE := [(0, 11, 18, 4)] ++ (lgPan 4 5 ++ ([(0, 12, 62, 124)] ++ (lgModel 124 125 ++ [(0, 35, 1, 160)])))
def lgM1 : am_M := (4, 0, fun _ => (98, 0), fun _ _ => 0, fun _ _ => 0)
def lgRel (M N : am_M) : Prop := M.1 = N.1 ∧ M.2.1 = N.2.1 ∧ ∀ a, 4 ≤ a → M.2.2.1 a = N.2.2.1 a ∧ M.2.2.2.1 a = N.2.2.2.1 a ∧ M.2.2.2.2 a = N.2.2.2.2 a
theorem lgs_rel {M N : am_M} (h : lgRel M N) (e : LE) : lgRel (lgs M e) (lgs N e) := by
  obtain ⟨m, sl, sh, I, R⟩ := M
  obtain ⟨n, sn, th, J, S⟩ := N
  obtain ⟨h1, h2, h3⟩ := h
  have h1 : m = n := h1
  have h2 : sl = sn := h2
  subst h1
  subst h2
  have h3 : ∀ a, 4 ≤ a → sh a = th a ∧ I a = J a ∧ R a = S a := h3
  unfold lgs
  dsimp only
  by_cases e0 : e.1 = 0
  · rw [if_pos e0, if_pos e0]
    refine ⟨rfl, rfl, fun a ha => ⟨?_, ?_, ?_⟩⟩
    · show (if a = m then _ else sh a) = (if a = m then _ else th a)
      rw [(h3 a ha).1]
    · funext j
      show (if a = m then _ else I a j) = (if a = m then _ else J a j)
      rw [(h3 a ha).2.1]
    · funext j
      show (if a = m then _ else R a j) = (if a = m then _ else S a j)
      rw [(h3 a ha).2.2]
  · rw [if_neg e0, if_neg e0]
    by_cases e1 : e.1 = 1
    · rw [if_pos e1, if_pos e1]
      refine ⟨rfl, rfl, fun a ha => ⟨(h3 a ha).1, ?_, (h3 a ha).2.2⟩⟩
      funext j
      show (if a = e.2.1 ∧ j = e.2.2.1 then _ else I a j) = (if a = e.2.1 ∧ j = e.2.2.1 then _ else J a j)
      rw [(h3 a ha).2.1]
    · rw [if_neg e1, if_neg e1]
      by_cases e2 : e.1 = 2
      · rw [if_pos e2, if_pos e2]
        refine ⟨rfl, rfl, fun a ha => ⟨(h3 a ha).1, (h3 a ha).2.1, ?_⟩⟩
        funext j
        show (if a = e.2.1 ∧ j = e.2.2.1 then _ else R a j) = (if a = e.2.1 ∧ j = e.2.2.1 then _ else S a j)
        rw [(h3 a ha).2.2]
      · rw [if_neg e2, if_neg e2]
        refine ⟨rfl, rfl, fun a ha => ⟨(h3 a ha).1, ?_, (h3 a ha).2.2⟩⟩
        show (if a = e.2.1 then ownR else I a) = (if a = e.2.1 then ownR else J a)
        rw [(h3 a ha).2.1]
theorem lg_rel : ∀ (l : List LE) {M N : am_M}, lgRel M N → lgRel (lgm M l) (lgm N l)
  | [], _, _, h => h
  | e :: r, _, _, h => lg_rel r (lgs_rel h e)
theorem lgs_m {M : am_M} {e : LE} : M.1 ≤ (lgs M e).1 := by
  obtain ⟨m, sl, sh, I, R⟩ := M
  unfold lgs
  dsimp only
  split
  · exact Nat.le_succ m
  · split
    · exact Nat.le_refl m
    · split <;> exact Nat.le_refl m
/-- cell a has no ints of its own written -/
def lgNo (a : Nat) (e : LE) : Bool := Nat.beq e.1 0 || Nat.beq e.1 2 || !(Nat.beq e.2.1 a)
theorem lgs_keep {M : am_M} {e : LE} {a : Nat} (ha : a < M.1) (h : lgNo a e = true) : (lgs M e).2.2.2.1 a = M.2.2.2.1 a := by
  obtain ⟨m, sl, sh, I, R⟩ := M
  have ha : a < m := ha
  unfold lgNo at h
  simp only [Bool.or_eq_true, Bool.not_eq_true', Nat.beq_eq, ← Bool.not_eq_true] at h
  unfold lgs
  dsimp only
  by_cases e0 : e.1 = 0
  · rw [if_pos e0]
    funext j
    exact if_neg (by omega)
  · rw [if_neg e0]
    by_cases e1 : e.1 = 1
    · rw [if_pos e1]
      funext j
      exact if_neg (by omega)
    · rw [if_neg e1]
      by_cases e2 : e.1 = 2
      · rw [if_pos e2]
      · rw [if_neg e2]
        exact if_neg (by omega)
theorem lg_keep {a : Nat} : ∀ (l : List LE) {M : am_M}, a < M.1 → l.all (lgNo a) = true → (lgm M l).2.2.2.1 a = M.2.2.2.1 a
  | [], _, _, _ => rfl
  | e :: r, M, ha, h => by
    rw [List.all_cons, Bool.and_eq_true] at h
    exact (lg_keep r (Nat.lt_of_lt_of_le ha lgs_m) h.2).trans (lgs_keep ha h.1)
theorem lgs_nil {M : am_M} {e : LE} {a : Nat} (ha : M.2.2.2.1 a = fun _ => 0) (h : lgNo a e = true) : (lgs M e).2.2.2.1 a = fun _ => 0 := by
  obtain ⟨m, sl, sh, I, R⟩ := M
  have ha : I a = fun _ => 0 := ha
  unfold lgNo at h
  simp only [Bool.or_eq_true, Bool.not_eq_true', Nat.beq_eq, ← Bool.not_eq_true] at h
  unfold lgs
  dsimp only
  by_cases e0 : e.1 = 0
  · rw [if_pos e0]
    funext j
    show (if a = m then (0 : Int) else I a j) = 0
    rw [ha]
    split <;> rfl
  · rw [if_neg e0]
    by_cases e1 : e.1 = 1
    · rw [if_pos e1]
      funext j
      show (if a = e.2.1 ∧ j = e.2.2.1 then _ else I a j) = 0
      rw [if_neg (by omega), ha]
    · rw [if_neg e1]
      by_cases e2 : e.1 = 2
      · rw [if_pos e2]; exact ha
      · rw [if_neg e2]
        show (if a = e.2.1 then ownR else I a) = _
        rw [if_neg (by omega)]; exact ha
theorem lg_nil {a : Nat} : ∀ (l : List LE) {M : am_M}, (M.2.2.2.1 a = fun _ => 0) → l.all (lgNo a) = true → (lgm M l).2.2.2.1 a = fun _ => 0
  | [], _, h, _ => h
  | e :: r, M, ha, h => by
    rw [List.all_cons, Bool.and_eq_true] at h
    exact lg_nil r (lgs_nil ha h.1) h.2
/-- nothing below 4 is touched -/
def lgHi (e : LE) : Bool := Nat.beq e.1 0 || Nat.ble 4 e.2.1
theorem lgs_low {M : am_M} {e : LE} {a : Nat} (hm : 4 ≤ M.1) (h : lgHi e = true) (ha : a < 4) : (lgs M e).2.2.1 a = M.2.2.1 a ∧ (lgs M e).2.2.2.1 a = M.2.2.2.1 a := by
  obtain ⟨m, sl, sh, I, R⟩ := M
  have hm : 4 ≤ m := hm
  unfold lgHi at h
  simp only [Bool.or_eq_true, Nat.beq_eq, Nat.ble_eq] at h
  unfold lgs
  dsimp only
  by_cases e0 : e.1 = 0
  · rw [if_pos e0]
    exact ⟨if_neg (by omega), funext (fun j => if_neg (by omega))⟩
  · rw [if_neg e0]
    by_cases e1 : e.1 = 1
    · rw [if_pos e1]
      exact ⟨rfl, funext (fun j => if_neg (by omega))⟩
    · rw [if_neg e1]
      by_cases e2 : e.1 = 2
      · rw [if_pos e2]; exact ⟨rfl, rfl⟩
      · rw [if_neg e2]
        exact ⟨rfl, if_neg (by omega)⟩
theorem lg_low {a : Nat} (ha : a < 4) : ∀ (l : List LE) {M : am_M}, 4 ≤ M.1 → l.all lgHi = true → (lgm M l).2.2.1 a = M.2.2.1 a ∧ (lgm M l).2.2.2.1 a = M.2.2.2.1 a
  | [], _, _, _ => ⟨rfl, rfl⟩
  | e :: r, M, hm, h => by
    rw [List.all_cons, Bool.and_eq_true] at h
    have h1 := lg_low ha r (M := lgs M e) (Nat.le_trans hm lgs_m) h.2
    have h2 := lgs_low hm h.1 ha
    exact ⟨h1.1.trans h2.1, h1.2.trans h2.2⟩
/-- the references of cell a -/
def rlS (a : Nat) (q : Nat × List (Nat × Nat)) (e : LE) : Nat × List (Nat × Nat) := if e.1 = 0 then (q.1 + 1, if q.1 = a then [] else q.2) else if e.1 = 2 ∧ e.2.1 = a then (q.1, (e.2.2.1, e.2.2.2.toNat) :: q.2) else q
def look : List (Nat × Nat) → Nat → Nat
  | [], _ => 0
  | x :: t, k => if k = x.1 then x.2 else look t k
theorem rlS_ok {M : am_M} {q : Nat × List (Nat × Nat)} {e : LE} {a : Nat} (h1 : M.1 = q.1) (h2 : ∀ k, M.2.2.2.2 a k = look q.2 k) : (lgs M e).1 = (rlS a q e).1 ∧ ∀ k, (lgs M e).2.2.2.2 a k = look (rlS a q e).2 k := by
  obtain ⟨m, sl, sh, I, R⟩ := M
  have h1 : m = q.1 := h1
  have h2 : ∀ k, R a k = look q.2 k := h2
  unfold lgs rlS
  dsimp only
  by_cases e0 : e.1 = 0
  · rw [if_pos e0, if_pos e0]
    refine ⟨congrArg (· + 1) h1, fun k => ?_⟩
    show (if a = m then (0 : Nat) else R a k) = look (if q.1 = a then [] else q.2) k
    by_cases hq : a = m
    · rw [if_pos hq, if_pos (by omega)]; rfl
    · rw [if_neg hq, if_neg (by omega)]; exact h2 k
  · rw [if_neg e0, if_neg e0]
    by_cases e1 : e.1 = 1
    · rw [if_pos e1, if_neg (by omega)]; exact ⟨h1, h2⟩
    · rw [if_neg e1]
      by_cases e2 : e.1 = 2
      · rw [if_pos e2]
        by_cases e3 : e.2.1 = a
        · rw [if_pos ⟨e2, e3⟩]
          refine ⟨h1, fun k => ?_⟩
          show (if a = e.2.1 ∧ k = e.2.2.1 then _ else R a k) = (if k = e.2.2.1 then e.2.2.2.toNat else look q.2 k)
          by_cases hk : k = e.2.2.1
          · rw [if_pos ⟨e3.symm, hk⟩, if_pos hk]
          · rw [if_neg (fun z => hk z.2), if_neg hk]; exact h2 k
        · rw [if_neg (fun z => e3 z.2)]
          refine ⟨h1, fun k => ?_⟩
          show (if a = e.2.1 ∧ k = e.2.2.1 then _ else R a k) = look q.2 k
          rw [if_neg (fun z => e3 z.1.symm)]; exact h2 k
      · rw [if_neg e2, if_neg (fun z => e2 z.1)]; exact ⟨h1, h2⟩
theorem rl_ok {a : Nat} : ∀ (l : List LE) {M : am_M} {q : Nat × List (Nat × Nat)}, M.1 = q.1 → (∀ k, M.2.2.2.2 a k = look q.2 k) → ∀ k, (lgm M l).2.2.2.2 a k = look (l.foldl (rlS a) q).2 k
  | [], _, _, _, h => h
  | e :: r, _, _, h1, h2 => rl_ok r (rlS_ok (e := e) h1 h2).1 (rlS_ok h1 h2).2
theorem look_hi : ∀ (q : List (Nat × Nat)) (k : Nat), q.all (fun x => Nat.blt x.1 62) = true → 62 ≤ k → look q k = 0
  | [], _, _, _ => rfl
  | x :: t, k, h, hk => by
    rw [List.all_cons, Bool.and_eq_true] at h
    unfold look
    have := Nat.le_of_ble_eq_true h.1
    rw [if_neg (by omega)]
    exact look_hi t k h.2 hk
theorem nth_hi : ∀ (l : List Nat) (k : Nat), l.length ≤ k → am_nth 0 l k = 0
  | [], _, _ => rfl
  | _ :: _, 0, h => absurd h (by simp)
  | _ :: r, k + 1, h => nth_hi r k (by simpa using h)
def rlT : List (List (Nat × Nat)) := [[(14, 91), (13, 90), (12, 89), (11, 86), (10, 80), (9, 73), (8, 64), (7, 61), (6, 55), (5, 50), (4, 48), (3, 40), (2, 22), (1, 21), (0, 5)], [(2, 16), (1, 14), (0, 6)], [(17, 13), (16, 12), (15, 11), (14, 10), (13, 9), (12, 8), (11, 7)], [], [], [], [], [], [], [], [(0, 15)], [], [(3, 20), (2, 19), (1, 18), (0, 17)], [], [], [], [], [(1, 108), (0, 92)], [(0, 23)], [(7, 38), (6, 36), (5, 34), (4, 32), (3, 30), (2, 28), (1, 26), (0, 24)], [(0, 25)], [], [(0, 27)], [], [(0, 29)], [], [(0, 31)], [], [(0, 33)], [], [(0, 35)], [], [(0, 37)], [], [(0, 39)], [], [(17, 47), (16, 46), (15, 45), (14, 44), (13, 43), (12, 42), (11, 41)], [], [], [], [], [], [], [], [(0, 49)], [], [(3, 54), (2, 53), (1, 52), (0, 51)], [], [], [], [], [(5, 60), (4, 59), (3, 58), (2, 57), (0, 56)], [], [], [], [], [], [(1, 63), (0, 62)], [], [], [(7, 72), (6, 71), (5, 70), (4, 69), (3, 68), (2, 67), (1, 66), (0, 65)], [], [], [], [], [], [], [], [], [(5, 79), (4, 78), (3, 77), (2, 76), (1, 75), (0, 74)], [], [], [], [], [], [], [(4, 85), (3, 84), (2, 83), (1, 82), (0, 81)], [], [], [], [], [], [(1, 88), (0, 87)], [], [], [], [], [], [(2, 103), (1, 101), (0, 93)], [(17, 100), (16, 99), (15, 98), (14, 97), (13, 96), (12, 95), (11, 94)], [], [], [], [], [], [], [], [(0, 102)], [], [(3, 107), (2, 106), (1, 105), (0, 104)], [], [], [], [], [(2, 119), (1, 117), (0, 109)], [(17, 116), (16, 115), (15, 114), (14, 113), (13, 112), (12, 111), (11, 110)], [], [], [], [], [], [], [], [(0, 118)], [], [(3, 123), (2, 122), (1, 121), (0, 120)], [], [], [], [], [(57, 159), (55, 158), (54, 157), (52, 156), (51, 155), (50, 154), (48, 153), (47, 152), (46, 151), (45, 150), (44, 149), (43, 148), (42, 147), (40, 146), (39, 145), (38, 144), (37, 143), (36, 142), (34, 141), (33, 140), (32, 139), (31, 138), (30, 137), (28, 136), (27, 135), (25, 134), (21, 133), (20, 132), (19, 131), (18, 130), (17, 129), (16, 128), (15, 127), (14, 126), (1, 125)], [], [], [], [], [], [], [], [], [], [], [], [], [], [], [], [], [], [], [], [], [], [], [], [], [], [], [], [], [], [], [], [], [], [], [], []]
theorem rlT_ok : ∀ a, a < 161 → 4 ≤ a → (bigLog.foldl (rlS a) (4, [])).2 = am_nth [] rlT (a - 4) := by decide +kernel
theorem rlT_look : ∀ a, a < 157 → ∀ k, k < 62 → look (am_nth [] rlT a) k = am_nth 0 (am_nth [] wd_R a) k := by decide +kernel
theorem rlT_hi : ∀ a, a < 157 → (am_nth [] rlT a).all (fun x => Nat.blt x.1 62) = true ∧ (am_nth [] wd_R a).length ≤ 62 := by decide +kernel
theorem bl_R {a k : Nat} (h4 : 4 ≤ a) (ha : a < 161) : (lgm lgM1 bigLog).2.2.2.2 a k = am_nth 0 (am_nth [] wd_R (a - 4)) k := by
  rw [rl_ok bigLog (M := lgM1) (q := (4, [])) rfl (fun _ => rfl) k, rlT_ok a ha h4]
  by_cases hk : k < 62
  · exact rlT_look (a - 4) (by omega) k hk
  · obtain ⟨h1, h2⟩ := rlT_hi (a - 4) (by omega)
    rw [look_hi _ k h1 (by omega), nth_hi _ k (by omega)]
theorem bl_sh : ∀ a, a < 161 → 4 ≤ a → (lgm lgM1 bigLog).2.2.1 a = am_nth (0, 0) wd_sh (a - 4) := by decide +kernel
theorem bl_m : (lgm lgM1 bigLog).1 = 161 ∧ (lgm lgM1 bigLog).2.1 ≤ 300000 ∧ bigLog.all lgHi = true ∧ bigLog.all (lgNo 126) = true := by decide +kernel
/-- the ints that count -/
def blI : List (Nat × Nat × Int) := [(6, 1, 2), (6, 2, 0), (6, 3, 10), (6, 4, 0), (6, 5, 1), (6, 6, 0), (6, 7, 0), (6, 8, 0), (6, 9, 0), (124, 23, 0), (14, 1, 0), (16, 4, 0), (22, 1, 0), (22, 2, 0), (124, 22, 0), (133, 0, 0), (133, 1, 0), (92, 3, 0), (108, 3, 0), (55, 1, 0), (124, 2, 0), (4, 15, 0), (124, 29, 0), (4, 16, 0), (124, 10, 0), (4, 17, -1), (124, 26, -1), (80, 5, 0), (124, 49, 0), (86, 2, 0), (124, 53, 0)]
theorem bl_I : ∀ q ∈ blI, (lgm lgM1 bigLog).2.2.2.1 q.1 q.2.1 = q.2.2 := by decide +kernel
def blN : Nat := 152
theorem bl_cut : bigLog = bigLog.take blN ++ ((3, 57, 0, 0) :: bigLog.drop (blN + 1)) := by decide +kernel
theorem bl_cut2 : 57 < (lgm lgM1 (bigLog.take blN)).1 ∧ (bigLog.drop (blN + 1)).all (lgNo 57) = true := by decide +kernel
theorem lgm_cons {M : am_M} {e : LE} {l : List LE} : lgm M (e :: l) = lgm (lgs M e) l := rfl
theorem bl_own : (lgm lgM1 bigLog).2.2.2.1 57 = ownR := by
  have h := bl_cut2
  have e := bl_cut
  generalize bigLog.take blN = A at h e
  generalize bigLog.drop (blN + 1) = B at h e
  rw [e, lgm_app, lgm_cons, lg_keep _ (Nat.lt_of_lt_of_le h.1 lgs_m) h.2]
  generalize lgm lgM1 A = M
  obtain ⟨m, sl, sh, I, R⟩ := M
  rfl
theorem bl_nil : (lgm lgM1 bigLog).2.2.2.1 126 = fun _ => 0 := lg_nil bigLog rfl bl_m.2.2.2
theorem lg_start (L : Nat) (xs : Nat → Int32) : lgRel (am_M0 L xs) lgM1 := by
  refine ⟨rfl, rfl, fun a ha => ⟨?_, ?_, rfl⟩⟩
  · show am_sh0 L a = (98, 0)
    unfold am_sh0
    rw [if_neg (by omega), if_neg (by omega)]
  · funext k
    show am_I0 L xs a k = 0
    unfold am_I0
    rw [if_neg (by omega), if_neg (by omega)]
theorem start_ok {L : Nat} {xs : Nat → Int32} {m sl : Nat} {sh : Nat → Nat × Nat} {I : Nat → Nat → Int} {R : Nat → Nat → Nat} (a : AT (am_M0 L xs) bigLog m sl sh I R) : m = 161 ∧ sl ≤ 300000 ∧ wd sh R ∧ sh 1 = (32, L) ∧ sh 2 = (32, 36) ∧ cp (am_I0 L xs 1) I := by
  unfold AT at a
  have r := lg_rel bigLog (lg_start L xs)
  have lo := fun b (hb : b < 4) => lg_low hb bigLog (M := am_M0 L xs) (Nat.le_refl 4) bl_m.2.2.1
  rw [← a] at r lo
  clear a
  have bm := bl_m.1
  have bs := bl_m.2.1
  have bI := bl_I
  have bS := bl_sh
  have bR := @bl_R
  have bO := bl_own
  have bN := bl_nil
  generalize lgm lgM1 bigLog = N at r bm bs bI bS bR bO bN
  obtain ⟨r1, r2, r3⟩ := r
  have r1 : m = N.1 := r1
  have r2 : sl = N.2.1 := r2
  have r3 : ∀ b, 4 ≤ b → sh b = N.2.2.1 b ∧ I b = N.2.2.2.1 b ∧ R b = N.2.2.2.2 b := r3
  have lo : ∀ b, b < 4 → sh b = am_sh0 L b ∧ I b = am_I0 L xs b := lo
  have v : ∀ x k w, (x, k, w) ∈ blI → 4 ≤ x → I x k = w := fun x k w hq h4 => by rw [(r3 x h4).2.1]; exact bI (x, k, w) hq
  have i126 : I 126 = fun _ => 0 := by rw [(r3 126 (by decide)).2.1]; exact bN
  have i23 : I 124 23 = 0 := v _ _ _ (by decide) (by decide)
  have el : lw I = plainR := by unfold lw; rw [if_pos i23]
  refine ⟨r1.trans bm, by rw [r2]; exact bs, ⟨fun b h4 hb => by rw [(r3 b h4).1]; exact bS b hb h4, fun b k h4 hb => by rw [(r3 b h4).2.2]; exact bR h4 hb⟩, (lo 1 (by decide)).1, (lo 2 (by decide)).1, ?_⟩
  refine ⟨⟨(lo 1 (by decide)).2, (lo 2 (by decide)).2, by rw [(r3 57 (by decide)).2.1]; exact bO⟩, ⟨?_, Or.inl ⟨i23, i126⟩⟩, ?_, ?_, ?_, ⟨?_, ?_⟩, ?_, ?_, ?_, ?_, ?_⟩
  · rw [el]
    refine ⟨wk_plain, ⟨v _ _ _ (by decide) (by decide), v _ _ _ (by decide) (by decide), v _ _ _ (by decide) (by decide), v _ _ _ (by decide) (by decide), v _ _ _ (by decide) (by decide), v _ _ _ (by decide) (by decide), v _ _ _ (by decide) (by decide), v _ _ _ (by decide) (by decide), ?_⟩, fun s hs => absurd hs (Nat.not_lt_zero s), fun s hs => absurd hs (Nat.not_lt_zero s), fun s hs => absurd hs (Nat.not_lt_zero s), fun s hs => absurd hs (Nat.not_lt_zero s)⟩
    rw [onB_plain]; exact v _ _ _ (by decide) (by decide)
  · refine ⟨[], ⟨v _ _ _ (by decide) (by decide), Nat.zero_le _, fun k hk => absurd hk (Nat.not_lt_zero k)⟩, ⟨by rw [i126]; rfl, fun k hk => absurd hk (Nat.not_lt_zero k)⟩, fun k hk => absurd hk (Nat.not_lt_zero k)⟩
  · rw [el]; exact Or.inl ⟨rfl, v _ _ _ (by decide) (by decide)⟩
  · exact ⟨[], ⟨0, by decide, Nat.zero_le _, v _ _ _ (by decide) (by decide), v _ _ _ (by decide) (by decide), fun j hj => absurd hj (Nat.not_lt_zero j)⟩, ⟨v _ _ _ (by decide) (by decide), fun j hj => absurd hj (Nat.not_lt_zero j)⟩, fun j hj => absurd hj (Nat.not_lt_zero j)⟩
  · have e : I 133 0 = 0 := v _ _ _ (by decide) (by decide)
    exact ⟨(v 92 3 0 (by decide) (by decide)).trans e.symm, Or.inl e, fun h => absurd (e.symm.trans h) (by decide)⟩
  · have e : I 133 1 = 0 := v _ _ _ (by decide) (by decide)
    exact ⟨(v 108 3 0 (by decide) (by decide)).trans e.symm, Or.inl e, fun h => absurd (e.symm.trans h) (by decide)⟩
  · exact ⟨0, by decide, v _ _ _ (by decide) (by decide), v _ _ _ (by decide) (by decide), fun i hi => absurd hi (Nat.not_lt_zero i)⟩
  · exact ⟨0, by decide, v _ _ _ (by decide) (by decide), v _ _ _ (by decide) (by decide), fun i hi => absurd hi (Nat.not_lt_zero i)⟩
  · exact ⟨(v 4 16 0 (by decide) (by decide)).trans (v 124 10 0 (by decide) (by decide)).symm, (v 4 17 (-1) (by decide) (by decide)).trans (v 124 26 (-1) (by decide) (by decide)).symm⟩
  · exact ⟨0, by decide, v _ _ _ (by decide) (by decide), v _ _ _ (by decide) (by decide), fun i hi => absurd hi (Nat.not_lt_zero i)⟩
  · exact ⟨0, by decide, v _ _ _ (by decide) (by decide), v _ _ _ (by decide) (by decide), fun i hi => absurd hi (Nat.not_lt_zero i)⟩
