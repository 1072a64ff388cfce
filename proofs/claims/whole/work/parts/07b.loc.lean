/-! LOCALS of the two machines -/
def am_LR (g : am_G) (arr : Array Slot) (ls : am_L) : Prop := arr.size = ls.length ∧ lv_wf arr ∧ ∀ i v, am_lg ls i = some v → arr[i]? = some (.val (am_cv g v))
def am_al (g : am_G) (ls : am_L) : List (Nat × Value) := (List.range ls.length).filterMap (fun i => (am_lg ls i).map (fun v => (i, am_cv g v)))
theorem am_lg_lt : ∀ (ls : am_L) (i : Nat) (v : am_V), am_lg ls i = some v → i < ls.length
  | [], i, v, h => by cases h
  | a :: r, 0, v, h => Nat.zero_lt_succ _
  | a :: r, i + 1, v, h => Nat.succ_lt_succ (am_lg_lt r i v h)
theorem am_LR_has {g : am_G} {arr : Array Slot} {ls : am_L} (h : am_LR g arr ls) : lv_has arr ls.length (am_al g ls) := by
  refine ⟨h.1, h.2.1, fun q hq => ?_⟩
  obtain ⟨i, -, hi⟩ := List.mem_filterMap.mp hq
  cases hv : am_lg ls i with
  | none => rw [hv] at hi; cases hi
  | some v =>
    rw [hv] at hi
    cases hi
    exact h.2.2 i v hv
theorem am_mem_al {g : am_G} {ls : am_L} {i : Nat} {v : am_V} (h : am_lg ls i = some v) : (i, am_cv g v) ∈ am_al g ls := by
  refine List.mem_filterMap.mpr ⟨i, List.mem_range.mpr (am_lg_lt ls i v h), ?_⟩
  rw [h]; rfl
theorem am_st1_len : ∀ (ls : am_L) (i : Nat) (v : am_V), (am_st1 ls i v).length = ls.length
  | [], i, v => by cases i <;> rfl
  | a :: r, 0, v => rfl
  | a :: r, 1, v => by
    show (am_no2 a :: am_st1 r 0 v).length = _
    rw [List.length_cons, List.length_cons, am_st1_len r 0 v]
  | a :: r, i + 2, v => by
    show (a :: am_st1 r (i + 1) v).length = _
    rw [List.length_cons, List.length_cons, am_st1_len r (i + 1) v]
theorem am_st1_get : ∀ (ls : am_L) (i : Nat) (v : am_V) (j : Nat) (w : am_V), am_lg (am_st1 ls i v) j = some w → (j = i ∧ w = v) ∨ (j ≠ i ∧ am_lg ls j = some w ∧ ¬ (j + 1 = i ∧ am_cat w = 2))
  | [], i, v, j, w, h => by cases i <;> cases h
  | a :: r, 0, v, 0, w, h => by
    cases h
    exact Or.inl ⟨rfl, rfl⟩
  | a :: r, 0, v, j + 1, w, h => Or.inr ⟨by omega, h, by omega⟩
  | a :: r, 1, v, 0, w, h => by
    have h' : am_no2 a = some w := h
    refine Or.inr ⟨by omega, ?_, ?_⟩
    · show a = some w
      rcases a with _ | (x | (x | x))
      · exact h'
      · exact h'
      · cases h'
      · exact h'
    · rintro ⟨-, hc⟩
      rcases a with _ | (x | (x | x))
      · cases h'
      · cases h'; cases hc
      · cases h'
      · cases h'; cases hc
  | a :: r, 1, v, j + 1, w, h => by
    have h' : am_lg (am_st1 r 0 v) j = some w := h
    rcases am_st1_get r 0 v j w h' with ⟨rfl, h2⟩ | ⟨h1, h2, h3⟩
    · exact Or.inl ⟨rfl, h2⟩
    · exact Or.inr ⟨by omega, h2, by omega⟩
  | a :: r, i + 2, v, 0, w, h => Or.inr ⟨by omega, h, by omega⟩
  | a :: r, i + 2, v, j + 1, w, h => by
    have h' : am_lg (am_st1 r (i + 1) v) j = some w := h
    rcases am_st1_get r (i + 1) v j w h' with ⟨rfl, h2⟩ | ⟨h1, h2, h3⟩
    · exact Or.inl ⟨rfl, h2⟩
    · exact Or.inr ⟨by omega, h2, by omega⟩
theorem am_clr_len : ∀ (ls : am_L) (i : Nat), (am_clr ls i).length = ls.length
  | [], i => by cases i <;> rfl
  | a :: r, 0 => rfl
  | a :: r, i + 1 => by
    show (a :: am_clr r i).length = _
    rw [List.length_cons, List.length_cons, am_clr_len r i]
theorem am_clr_get : ∀ (ls : am_L) (i j : Nat) (w : am_V), am_lg (am_clr ls i) j = some w → j ≠ i ∧ am_lg ls j = some w
  | [], i, j, w, h => by cases i <;> cases h
  | a :: r, 0, 0, w, h => by cases h
  | a :: r, 0, j + 1, w, h => ⟨by omega, h⟩
  | a :: r, i + 1, 0, w, h => ⟨by omega, h⟩
  | a :: r, i + 1, j + 1, w, h => by
    have h' : am_lg (am_clr r i) j = some w := h
    obtain ⟨h1, h2⟩ := am_clr_get r i j w h'
    exact ⟨by omega, h2⟩
theorem am_LR_st1 {g : am_G} {ls : am_L} {i : Nat} {v : am_V} {arr' : Array Slot} (h : lv_has arr' ls.length ((i, am_cv g v) :: (am_al g ls).filter (fun q => !(q.1 == i) && !(q.1 + 1 == i && q.2.category == 2)))) : am_LR g arr' (am_st1 ls i v) := by
  refine ⟨h.1.trans (am_st1_len ls i v).symm, h.2.1, fun j w hw => ?_⟩
  rcases am_st1_get ls i v j w hw with ⟨rfl, rfl⟩ | ⟨h1, h2, h3⟩
  · exact h.2.2 _ List.mem_cons_self
  · refine h.2.2 (j, am_cv g w) (List.mem_cons_of_mem _ (List.mem_filter.mpr ⟨am_mem_al h2, ?_⟩))
    rw [am_cv_cat]
    simp [h1]
    omega
theorem am_LR_st2 {g : am_G} {ls : am_L} {i : Nat} {v : am_V} {arr' : Array Slot} (h : lv_has arr' ls.length ((i, am_cv g v) :: (am_al g ls).filter (fun q => !(q.1 == i) && (!(q.1 == i + 1) && !(q.1 + 1 == i && q.2.category == 2))))) : am_LR g arr' (am_st2 ls i v) := by
  unfold am_st2
  refine ⟨h.1.trans (by rw [am_clr_len, am_st1_len]), h.2.1, fun j w hw => ?_⟩
  obtain ⟨n1, hw⟩ := am_clr_get _ _ _ _ hw
  rcases am_st1_get ls i v j w hw with ⟨rfl, rfl⟩ | ⟨h1, h2, h3⟩
  · exact h.2.2 _ List.mem_cons_self
  · refine h.2.2 (j, am_cv g w) (List.mem_cons_of_mem _ (List.mem_filter.mpr ⟨am_mem_al h2, ?_⟩))
    rw [am_cv_cat]
    simp [h1, n1]
    omega
/-- ranges of values -/
def am_okv (m : Nat) : am_V → Prop
  | .inl x => am_r32 x
  | .inr (.inl x) => am_r64 x
  | .inr (.inr a) => a < m
def am_okl (m : Nat) (ls : am_L) : Prop := ∀ i v, am_lg ls i = some v → am_okv m v
def am_oks (m : Nat) (st : List am_V) : Prop := ∀ v ∈ st, am_okv m v
theorem am_okv_le {m n : Nat} (h : m ≤ n) {v : am_V} (hv : am_okv m v) : am_okv n v := by
  rcases v with x | x | a
  · exact hv
  · exact hv
  · exact Nat.lt_of_lt_of_le hv h
theorem am_okl_le {m n : Nat} (h : m ≤ n) {ls : am_L} (hl : am_okl m ls) : am_okl n ls := fun i v hv => am_okv_le h (hl i v hv)
theorem am_oks_le {m n : Nat} (h : m ≤ n) {st : List am_V} (hs : am_oks m st) : am_oks n st := fun v hv => am_okv_le h (hs v hv)
theorem am_okl_st1 {m i : Nat} {ls : am_L} {v : am_V} (hl : am_okl m ls) (hv : am_okv m v) : am_okl m (am_st1 ls i v) := by
  intro j w hw
  rcases am_st1_get ls i v j w hw with ⟨-, rfl⟩ | ⟨-, h2, -⟩
  · exact hv
  · exact hl j w h2
theorem am_okl_st2 {m i : Nat} {ls : am_L} {v : am_V} (hl : am_okl m ls) (hv : am_okv m v) : am_okl m (am_st2 ls i v) := by
  intro j w hw
  obtain ⟨-, hw⟩ := am_clr_get _ _ _ _ hw
  exact am_okl_st1 hl hv j w hw
theorem am_oks_c {m : Nat} {v : am_V} {st : List am_V} (hv : am_okv m v) (hs : am_oks m st) : am_oks m (v :: st) := fun w hw => (List.mem_cons.mp hw).elim (fun e => e ▸ hv) (hs w)
theorem am_oks_h {m : Nat} {v : am_V} {st : List am_V} (h : am_oks m (v :: st)) : am_okv m v := h v List.mem_cons_self
theorem am_oks_t {m : Nat} {v : am_V} {st : List am_V} (h : am_oks m (v :: st)) : am_oks m st := fun w hw => h w (List.mem_cons_of_mem _ hw)
