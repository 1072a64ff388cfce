/-! STEPS: the heap -/
section AMH
variable {p : Program} {l : Launch} {e : Env} {R0 : Room} {s : State} {m : MethodId} {args : Array Value} {below : List Frame} {meth : Method} {c : Code} {H : Heap} {locs : List Loc} {cells slots : Nat} {Q : State → Prop} {cc : ByteArray} {pc : Nat} {arr : Array Slot} {g : am_G} {rest : List Value} {ca : Nat → ClassId} {D : va_G} {tys : List (ClassId × FieldType)} {L : Nat} {xs : Nat → Int32} {mm sl : Nat} {sh : Nat → Nat × Nat} {I : Nat → Nat → Int} {R : Nat → Nat → Nat} {a : Nat} {H0 : Heap}
def am_fs (g : am_G) (ci : Nat) (I : Nat → Nat → Int) (R : Nat → Nat → Nat) (a : Nat) : List Value := (List.range (am_nf ci)).map (fun k => am_cv g (am_fv (am_fk ci k) (I a k) (R a k)))
theorem am_cell_obj {ci : Nat} (h : (sh a).1 = ci) (hc : ci < 32) : am_cell g ca (mm, sl, sh, I, R) a = .inr (ci, am_fs g ci I R a) := by
  unfold am_cell am_fs
  subst h
  dsimp only
  rw [if_pos hc]
theorem am_cell_int {kd : Nat} (h : (sh a).1 = kd) (h1 : 32 ≤ kd) (h2 : kd < 35) : am_cell g ca (mm, sl, sh, I, R) a = .inl (ca kd, (sh a).2, .inl (fun k => Int32.ofInt (I a k))) := by
  unfold am_cell
  subst h
  dsimp only
  rw [if_neg (by omega), if_pos h2]
theorem am_cell_long (h : (sh a).1 = 35) : am_cell g ca (mm, sl, sh, I, R) a = .inl (ca 35, (sh a).2, .inr (.inl (fun k => Int64.ofInt (I a k)))) := by
  unfold am_cell
  dsimp only
  rw [h, if_neg (by omega), if_neg (by omega), if_pos rfl]
theorem am_cell_ref {kd : Nat} (h : (sh a).1 = kd) (h1 : 36 ≤ kd) : am_cell g ca (mm, sl, sh, I, R) a = .inl (ca kd, (sh a).2, .inr (.inr (.inr (.inr (fun k => am_ad g (R a k)))))) := by
  unfold am_cell
  subst h
  dsimp only
  rw [if_neg (by omega), if_neg (by omega), if_neg (by omega)]
theorem am_cell_I {x : Int} {k b : Nat} (hb : b ≠ a) : am_cell g ca (mm, sl, sh, am_up I a k x, R) b = am_cell g ca (mm, sl, sh, I, R) b := by
  have : ∀ j, am_up I a k x b j = I b j := fun j => by unfold am_up; rw [if_neg (by omega)]
  unfold am_cell
  simp only [this]
theorem am_cell_R {x k b : Nat} (hb : b ≠ a) : am_cell g ca (mm, sl, sh, I, am_up R a k x) b = am_cell g ca (mm, sl, sh, I, R) b := by
  have : ∀ j, am_up R a k x b j = R b j := fun j => by unfold am_up; rw [if_neg (by omega)]
  unfold am_cell
  simp only [this]
theorem am_cell_cpy {s0 sp dp n b : Nat} (hb : b ≠ a) : am_cell g ca (mm, sl, sh, am_cpy I s0 sp a dp n, R) b = am_cell g ca (mm, sl, sh, I, R) b := by
  have : ∀ j, am_cpy I s0 sp a dp n b j = I b j := fun j => by unfold am_cpy; rw [if_neg (by omega)]
  unfold am_cell
  simp only [this]
theorem am_cell_mk {M : am_M} {kd n b : Nat} (hb : b < M.1) : am_cell g ca (am_mk M kd n) b = am_cell g ca M b := by
  obtain ⟨m1, sl, sh, I, R⟩ := M
  have hb' : b < m1 := hb
  have e1 : am_sh1 sh m1 (kd, n) b = sh b := by unfold am_sh1; rw [if_neg (by omega)]
  have e2 : ∀ j, am_zero I m1 0 b j = I b j := fun j => by unfold am_zero; rw [if_neg (by omega)]
  have e3 : ∀ j, am_zero R m1 0 b j = R b j := fun j => by unfold am_zero; rw [if_neg (by omega)]
  unfold am_cell am_mk
  simp only [e1, e2, e3]
theorem am_range_set {α : Type} (n k : Nat) (f f' : Nat → α) (hk : k < n) (h : ∀ j, j ≠ k → f' j = f j) : ((List.range n).map f).set k (f' k) = (List.range n).map f' := by
  apply List.ext_getElem?
  intro j
  by_cases hj : j = k
  · subst hj
    rw [List.getElem?_set_self (by simpa using hk), List.getElem?_map, List.getElem?_range hk]
    rfl
  · rw [List.getElem?_set_ne (Ne.symm hj), List.getElem?_map, List.getElem?_map]
    by_cases h2 : j < n
    · rw [List.getElem?_range h2]
      show some (f j) = some (f' j)
      rw [h j hj]
    · rw [List.getElem?_eq_none (by simp; omega)]
      rfl
theorem am_fs_I {ci k : Nat} {x : Int} (hk : k < am_nf ci) (q : Nat) : (am_fs g ci I R a).set k (am_cv g (am_fv (am_fk ci k) x (R a k))) = am_fs g ci (am_up I a k x) R a := by
  unfold am_fs
  have h1 := am_range_set (am_nf ci) k (fun k => am_cv g (am_fv (am_fk ci k) (I a k) (R a k))) (fun j => am_cv g (am_fv (am_fk ci j) (am_up I a k x a j) (R a j))) hk (fun j hj => by
    have : am_up I a k x a j = I a j := by unfold am_up; rw [if_neg (by omega)]
    simp only [this])
  have h2 : am_up I a k x a k = x := by unfold am_up; rw [if_pos ⟨rfl, rfl⟩]
  simp only [h2] at h1
  exact h1
theorem am_fs_R {ci k x : Nat} (hk : k < am_nf ci) : (am_fs g ci I R a).set k (am_cv g (am_fv (am_fk ci k) (I a k) x)) = am_fs g ci I (am_up R a k x) a := by
  unfold am_fs
  have h1 := am_range_set (am_nf ci) k (fun k => am_cv g (am_fv (am_fk ci k) (I a k) (R a k))) (fun j => am_cv g (am_fv (am_fk ci j) (I a j) (am_up R a k x a j))) hk (fun j hj => by
    have : am_up R a k x a j = R a j := by unfold am_up; rw [if_neg (by omega)]
    simp only [this])
  have h2 : am_up R a k x a k = x := by unfold am_up; rw [if_pos ⟨rfl, rfl⟩]
  simp only [h2] at h1
  exact h1
theorem am_fs_get {ci k : Nat} (hk : k < am_nf ci) : (am_fs g ci I R a)[k]? = some (am_cv g (am_fv (am_fk ci k) (I a k) (R a k))) := by
  unfold am_fs
  rw [List.getElem?_map, List.getElem?_range hk]
  rfl
theorem am_h_get (hx : p.tables.exec = Jvm.exec) (hb : c.code = cc) {own C : String} {T : u_T} {N ci index : Nat} {Ts : List Cond} (hts : ∀ w ∈ Ts, w.before args s = true) (hin : ∀ w ∈ u_ws C T N, w ∈ Ts) (hown : s.vm.findClass own = some m.cls) (hK : va_K D am_cl tys s) (hP : va_P D am_cl (am_ws g ca (mm, sl, sh, I, R)) H) (ok : am_okM L xs (mm, sl, sh, I, R)) (hsh : (sh a).1 = ci) (hci : ci < 13) (hc : am_cl[ci]? = some (C, T, N)) (hN : am_nf ci = N) (k : Nat) (hk : k < N) (hlink : (Cond.fieldLink own index (T k).1 (T k).2.1 (T k).2.2.1).before args s = true) (hd : decode cc pc = .ok (.getfield index, 3))
    (kk : W p l e R0 s m args below meth c H locs cells slots Q (F0 m (pc + 3) arr (am_cv g (am_fv (am_fk ci k) (I a k) (R a k)) :: rest))) : W p l e R0 s m args below meth c H locs cells slots Q (F0 m pc arr (am_cv g (.inr (.inr a)) :: rest)) := by
  obtain ⟨h4, hlt⟩ := am_obj ok (a := a) (by omega)
  rw [am_cvr g h4]
  have he := am_ws_get g ca (mm, sl, sh, I, R) h4 hlt
  rw [am_cell_obj hsh (by omega)] at he
  exact va_get hx hb hts hin hown hK hP (a - 4) he hc k hk hlink (fun _ h => h) (am_fs_get (by omega)) hd kk
/-- a store into a field: an ordinary one, or a final one in its constructor -/
theorem am_h_put (hx : p.tables.exec = Jvm.exec) (hb : c.code = cc) {own C : String} {T : u_T} {N ci index : Nat} {Ts : List Cond} (hts : ∀ w ∈ Ts, w.before args s = true) (hin : ∀ w ∈ u_ws C T N, w ∈ Ts) (ty0 : Nat → FieldType) (hty : ∀ k, k < N → parseFieldDescriptor (T k).2.2.1 = some (ty0 k)) (hnm : ∀ a, a < N → ∀ b, b < N → a ≠ b → (T a).2.1 ≠ (T b).2.1) (hown : s.vm.findClass own = some m.cls) (hK : va_K D am_cl tys s) (M' : am_M) (hP : va_P D am_cl (am_ws g ca (mm, sl, sh, I, R)) H) (hS : va_S (fun q => g.2.2.2 ≤ q) H0 H locs) (ok : am_okM L xs (mm, sl, sh, I, R)) (hsh : (sh a).1 = ci) (hci : ci < 13) (hc : am_cl[ci]? = some (C, T, N)) (hN : am_nf ci = N) (k : Nat) (hk : k < N) (hlink : (Cond.fieldLink own index (T k).1 (T k).2.1 (T k).2.2.1).before args s = true)
    (hfin : (T k).2.2.2 = false ∨ ((T k).2.2.2 = true ∧ meth.name = "<init>" ∧ (T k).1 = own)) {v : Value} (hn : narrow (ty0 k) v = v) (hfit : fits (ty0 k) v = true) (hm : M'.1 = mm) (hc1 : ∀ b, b ≠ a → am_cell g ca M' b = am_cell g ca (mm, sl, sh, I, R) b) (hc2 : am_cell g ca M' a = .inr (ci, (am_fs g ci I R a).set k v)) (hd : decode cc pc = .ok (.putfield index, 3))
    (kk : ∀ H1 locs1, va_P D am_cl (am_ws g ca M') H1 → va_S (fun q => g.2.2.2 ≤ q) H0 H1 locs1 → W p l e R0 s m args below meth c H1 locs1 cells slots Q (F0 m (pc + 3) arr rest)) : W p l e R0 s m args below meth c H locs cells slots Q (F0 m pc arr (v :: am_cv g (.inr (.inr a)) :: rest)) := by
  obtain ⟨h4, hlt⟩ := am_obj ok (a := a) (by omega)
  rw [am_cvr g h4]
  have he := am_ws_get g ca (mm, sl, sh, I, R) h4 hlt
  rw [am_cell_obj hsh (by omega)] at he
  have hset := am_ws_set g ca (mm, sl, sh, I, R) M' h4 hlt hm hc1
  rw [hc2] at hset
  have hl : k < (am_fs g ci I R a).length := by unfold am_fs; simp; omega
  rcases hfin with hf | ⟨hf, hi, ho⟩
  · exact va_put hx hb hts hin ty0 hty hnm hown hK hP (am_ws_D g ca _) hS (a - 4) he hc k hk hlink (fun _ h => h) hf (hty k hk) hn hfit hl hd (fun H1 locs1 q1 _ q3 => kk H1 locs1 (by rw [← hset]; exact q1) q3)
  · exact va_putF hx hb hts hin ty0 hty hnm hown hK hP (am_ws_D g ca _) hS (a - 4) he hc k hk hlink (fun _ h => h) hf hi ho (hty k hk) hn hfit hl hd (fun H1 locs1 q1 _ q3 => kk H1 locs1 (by rw [← hset]; exact q1) q3)
end AMH
