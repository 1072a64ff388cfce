/-! STEPS: more stores, copies, cells that are made -/
section AMB
variable {p : Program} {l : Launch} {e : Env} {R0 : Room} {s : State} {m : MethodId} {args : Array Value} {below : List Frame} {meth : Method} {c : Code} {H : Heap} {locs : List Loc} {cells slots : Nat} {Q : State → Prop} {cc : ByteArray} {pc : Nat} {arr : Array Slot} {g : am_G} {rest : List Value} {ca : Nat → ClassId} {D : va_G} {L : Nat} {xs : Nat → Int32} {mm sl : Nat} {sh : Nat → Nat × Nat} {I : Nat → Nat → Int} {R : Nat → Nat → Nat} {a : Nat}
theorem am_up_fn {i x : Nat} {y : Int} : (fun k => Int32.ofInt (am_up I a i y a k)) = upd (fun k => Int32.ofInt (I a k)) i (Int32.ofInt y) := by
  funext k
  unfold am_up upd
  by_cases hk : k = i
  · rw [if_pos ⟨rfl, hk⟩, if_pos hk]
  · rw [if_neg (by omega), if_neg hk]
theorem am_h_bast (hx : p.tables.exec = Jvm.exec) (hb : c.code = cc) (hK : va_K D am_cl (am_tys ca) s) (hP : va_P D am_cl (am_ws g ca (mm, sl, sh, I, R)) H) (hS : va_S (am_A g) s.heap H locs) (ok : am_okM L xs (mm, sl, sh, I, R)) (hsh : (sh a).1 = 33) {i x : Int} (h0 : 0 ≤ i) (h1 : i < (sh a).2) (hd : decode cc pc = .ok (.bastore, 1))
    (kk : ∀ H1 locs1, va_P D am_cl (am_ws g ca (mm, sl, sh, am_up I a i.toNat (am_byte x), R)) H1 → va_S (am_A g) s.heap H1 locs1 → W p l e R0 s m args below meth c H1 locs1 cells slots Q (F0 m (pc + 1) arr rest)) : W p l e R0 s m args below meth c H locs cells slots Q (F0 m pc arr (.int (Int32.ofInt x) :: .int (Int32.ofInt i) :: am_cv g (.inr (.inr a)) :: rest)) := by
  have hlen := ok.2.2.2.1 a
  have hin := am_ix h0 h1 hlen
  have hcl := am_clp h0 (i := i) ⟨by omega, by omega⟩
  obtain ⟨h4, hlt⟩ := am_obj ok (a := a) (by omega)
  rw [am_cvr g h4]
  have he := am_ws_get g ca (mm, sl, sh, I, R) h4 hlt
  have hset := am_ws_set g ca (mm, sl, sh, I, R) (mm, sl, sh, am_up I a i.toNat (am_byte x), R) h4 hlt rfl (fun b hb => am_cell_I hb)
  rw [am_cell_int hsh (by decide) (by decide)] at he hset
  refine va_bast hx hb hK hP (am_ws_D g ca _) hS (a - 4) 1 he rfl hin hd (fun H1 locs1 q1 _ q3 => kk H1 locs1 ?_ q3)
  rw [hcl, vp_nar_byte] at q1
  rw [← hset, am_up_fn (x := 0), show Int32.ofInt (am_byte x) = (Int32.ofInt x).toInt8.toInt32 from am_of _]
  exact q1
theorem am_h_zast (hx : p.tables.exec = Jvm.exec) (hb : c.code = cc) (hK : va_K D am_cl (am_tys ca) s) (hP : va_P D am_cl (am_ws g ca (mm, sl, sh, I, R)) H) (hS : va_S (am_A g) s.heap H locs) (ok : am_okM L xs (mm, sl, sh, I, R)) (hsh : (sh a).1 = 34) {i x : Int} (h0 : 0 ≤ i) (h1 : i < (sh a).2) (hz : x = 0 ∨ x = 1) (hd : decode cc pc = .ok (.bastore, 1))
    (kk : ∀ H1 locs1, va_P D am_cl (am_ws g ca (mm, sl, sh, am_up I a i.toNat x, R)) H1 → va_S (am_A g) s.heap H1 locs1 → W p l e R0 s m args below meth c H1 locs1 cells slots Q (F0 m (pc + 1) arr rest)) : W p l e R0 s m args below meth c H locs cells slots Q (F0 m pc arr (.int (Int32.ofInt x) :: .int (Int32.ofInt i) :: am_cv g (.inr (.inr a)) :: rest)) := by
  have hlen := ok.2.2.2.1 a
  have hin := am_ix h0 h1 hlen
  have hcl := am_clp h0 (i := i) ⟨by omega, by omega⟩
  obtain ⟨h4, hlt⟩ := am_obj ok (a := a) (by omega)
  rw [am_cvr g h4]
  have he := am_ws_get g ca (mm, sl, sh, I, R) h4 hlt
  have hset := am_ws_set g ca (mm, sl, sh, I, R) (mm, sl, sh, am_up I a i.toNat x, R) h4 hlt rfl (fun b hb => am_cell_I hb)
  rw [am_cell_int hsh (by decide) (by decide)] at he hset
  refine va_zast hx hb hK hP (am_ws_D g ca _) hS (a - 4) 2 he rfl hin hd (fun H1 locs1 q1 _ q3 => kk H1 locs1 ?_ q3)
  rw [hcl, show vp_nar .boolean (Int32.ofInt x) = Int32.ofInt x by rcases hz with rfl | rfl <;> rfl] at q1
  rw [← hset, am_up_fn (x := 0)]
  exact q1
theorem am_h_last (hx : p.tables.exec = Jvm.exec) (hb : c.code = cc) (hK : va_K D am_cl (am_tys ca) s) (hP : va_P D am_cl (am_ws g ca (mm, sl, sh, I, R)) H) (hS : va_S (am_A g) s.heap H locs) (ok : am_okM L xs (mm, sl, sh, I, R)) (hsh : (sh a).1 = 35) {i x : Int} (h0 : 0 ≤ i) (h1 : i < (sh a).2) (hd : decode cc pc = .ok (.lastore, 1))
    (kk : ∀ H1 locs1, va_P D am_cl (am_ws g ca (mm, sl, sh, am_up I a i.toNat x, R)) H1 → va_S (am_A g) s.heap H1 locs1 → W p l e R0 s m args below meth c H1 locs1 cells slots Q (F0 m (pc + 1) arr rest)) : W p l e R0 s m args below meth c H locs cells slots Q (F0 m pc arr (.long (Int64.ofInt x) :: .int (Int32.ofInt i) :: am_cv g (.inr (.inr a)) :: rest)) := by
  have hlen := ok.2.2.2.1 a
  have hin := am_ix h0 h1 hlen
  have hcl := am_clp h0 (i := i) ⟨by omega, by omega⟩
  obtain ⟨h4, hlt⟩ := am_obj ok (a := a) (by omega)
  rw [am_cvr g h4]
  have he := am_ws_get g ca (mm, sl, sh, I, R) h4 hlt
  have hset := am_ws_set g ca (mm, sl, sh, I, R) (mm, sl, sh, am_up I a i.toNat x, R) h4 hlt rfl (fun b hb => am_cell_I hb)
  rw [am_cell_long hsh] at he hset
  refine va_last hx hb hK hP (am_ws_D g ca _) hS (a - 4) 3 he rfl hin hd (fun H1 locs1 q1 _ q3 => kk H1 locs1 ?_ q3)
  rw [hcl] at q1
  rw [← hset]
  have : (fun k => Int64.ofInt (am_up I a i.toNat x a k)) = vp_updL (fun k => Int64.ofInt (I a k)) i.toNat (Int64.ofInt x) := by
    funext k
    unfold am_up vp_updL
    by_cases hk : k = i.toNat
    · rw [if_pos ⟨rfl, hk⟩, if_pos hk]
    · rw [if_neg (by omega), if_neg hk]
  rw [this]
  exact q1
theorem am_h_aast (hx : p.tables.exec = Jvm.exec) (hb : c.code = cc) (hK : va_K D am_cl (am_tys ca) s) (hP : va_P D am_cl (am_ws g ca (mm, sl, sh, I, R)) H) (hS : va_S (am_A g) s.heap H locs) (ok : am_okM L xs (mm, sl, sh, I, R)) {v : Nat} (hsh : (sh a).1 = 36 ∧ (sh v).1 = 9 ∨ (sh a).1 = 37 ∧ (sh v).1 = 5) {i : Int} (h0 : 0 ≤ i) (h1 : i < (sh a).2) (hd : decode cc pc = .ok (.aastore, 1))
    (kk : ∀ H1 locs1, va_P D am_cl (am_ws g ca (mm, sl, sh, I, am_up R a i.toNat v)) H1 → va_S (am_A g) s.heap H1 locs1 → W p l e R0 s m args below meth c H1 locs1 cells slots Q (F0 m (pc + 1) arr rest)) : W p l e R0 s m args below meth c H locs cells slots Q (F0 m pc arr (am_cv g (.inr (.inr v)) :: .int (Int32.ofInt i) :: am_cv g (.inr (.inr a)) :: rest)) := by
  have hlen := ok.2.2.2.1 a
  have hin := am_ix h0 h1 hlen
  have hcl := am_clp h0 (i := i) ⟨by omega, by omega⟩
  obtain ⟨h4, hlt⟩ := am_obj ok (a := a) (by omega)
  obtain ⟨v4, vlt⟩ := am_obj ok (a := v) (by omega)
  rw [am_cvr g h4, am_cvr g v4]
  have he := am_ws_get g ca (mm, sl, sh, I, R) h4 hlt
  have hv := am_ws_get g ca (mm, sl, sh, I, R) v4 vlt
  have hset := am_ws_set g ca (mm, sl, sh, I, R) (mm, sl, sh, I, am_up R a i.toNat v) h4 hlt rfl (fun b hb => am_cell_R hb)
  have hfn : (fun k => am_ad g (am_up R a i.toNat v a k)) = va_up (fun k => am_ad g (R a k)) i.toNat (some (g.2.2.2 + (v - 4))) := by
    funext k
    unfold am_up va_up
    by_cases hk : k = i.toNat
    · rw [if_pos ⟨rfl, hk⟩, if_pos hk, am_ad4 g v4]
    · rw [if_neg (by omega), if_neg hk]
  rcases hsh with ⟨hsh, hsv⟩ | ⟨hsh, hsv⟩
  · rw [am_cell_ref hsh (by decide)] at he hset
    rw [am_cell_obj hsv (by decide)] at hv
    refine va_astq (r := (RX9, TX9, 4)) hx hb hK hP (am_ws_D g ca _) hS (a - 4) 4 (v - 4) 9 he rfl hv rfl hin hd (fun H1 locs1 q1 _ q3 => kk H1 locs1 ?_ q3)
    rw [hcl] at q1
    rw [← hset, hfn]
    exact q1
  · rw [am_cell_ref hsh (by decide)] at he hset
    rw [am_cell_obj hsv (by decide)] at hv
    refine va_astq (r := (RX5, TX5, 2)) hx hb hK hP (am_ws_D g ca _) hS (a - 4) 5 (v - 4) 5 he rfl hv rfl hin hd (fun H1 locs1 q1 _ q3 => kk H1 locs1 ?_ q3)
    rw [hcl] at q1
    rw [← hset, hfn]
    exact q1
theorem am_h_cpy (hx : p.tables.exec = Jvm.exec) (hb : c.code = cc) (hml : c.maxLocals = arr.size) {own : String} {index : Nat} (hown : s.vm.findClass own = some m.cls) (hlink : (Cond.methodLink own index arraycopyName).before args s = true) (hnat : (Cond.native arraycopyName).before args s = true) (hstat : (Cond.static arraycopyName).before args s = true) (hini : (Cond.initialized "java/lang/System").before args s = true)
    (hK : va_K D am_cl (am_tys ca) s) (hP : va_P D am_cl (am_ws g ca (mm, sl, sh, I, R)) H) (hS : va_S (am_A g) s.heap H locs) (ok : am_okM L xs (mm, sl, sh, I, R)) {d : Nat} (hk : (sh a).1 = (sh d).1) (hk2 : (sh d).1 = 32 ∨ (sh d).1 = 35) (a4 : 4 ≤ a) (d4 : 4 ≤ d) {sp dp n : Int} (h1 : 0 ≤ sp) (h2 : 0 ≤ dp) (h3 : 0 ≤ n) (h5 : sp + n ≤ (sh a).2) (h6 : dp + n ≤ (sh d).2)
    (hframes : 1 ≤ R0.frames) (hlocals : (rest.map fun v => v.category).sum + (nativeFrameWords "java/lang/System" "arraycopy" 5 + 11) ≤ R0.locals) (hd : decode cc pc = .ok (.invokestatic index, 3))
    (kk : ∀ H1 locs1, va_P D am_cl (am_ws g ca (mm, sl, sh, am_cpy I a sp.toNat d dp.toNat n.toNat, R)) H1 → va_S (am_A g) s.heap H1 locs1 → W p l e R0 s m args below meth c H1 locs1 cells slots Q (F0 m (pc + 3) arr rest)) : W p l e R0 s m args below meth c H locs cells slots Q (F0 m pc arr (.int (Int32.ofInt n) :: .int (Int32.ofInt dp) :: am_cv g (.inr (.inr d)) :: .int (Int32.ofInt sp) :: am_cv g (.inr (.inr a)) :: rest)) := by
  have hlena := ok.2.2.2.1 a
  have hlend := ok.2.2.2.1 d
  have r1 : am_r32 sp := ⟨by omega, by omega⟩
  have r2 : am_r32 dp := ⟨by omega, by omega⟩
  have r3 : am_r32 n := ⟨by omega, by omega⟩
  have c1 := am_clp h1 r1
  have c2 := am_clp h2 r2
  have c3 := am_clp h3 r3
  have n1 : ¬ Int32.ofInt sp < 0 := fun q => absurd ((am_lt r1 am_r0).mp q) (by omega)
  have n2 : ¬ Int32.ofInt dp < 0 := fun q => absurd ((am_lt r2 am_r0).mp q) (by omega)
  have n3 : ¬ Int32.ofInt n < 0 := fun q => absurd ((am_lt r3 am_r0).mp q) (by omega)
  have alt := (am_live ok (a := a) (by omega)).1
  have dlt := (am_live ok (a := d) (by omega)).1
  rw [am_cvr g a4, am_cvr g d4]
  have ha := am_ws_get g ca (mm, sl, sh, I, R) a4 alt
  have he := am_ws_get g ca (mm, sl, sh, I, R) d4 dlt
  have hset := am_ws_set g ca (mm, sl, sh, I, R) (mm, sl, sh, am_cpy I a sp.toNat d dp.toNat n.toNat, R) d4 dlt rfl (fun b hb => am_cell_cpy hb)
  rcases hk2 with hsh | hsh
  · rw [am_cell_int (hk.trans hsh) (by decide) (by decide)] at ha
    rw [am_cell_int hsh (by decide) (by decide)] at he hset
    refine va_copyi (ty := .int) hx hb hml hown hlink hnat hstat hini hK hP (am_ws_D g ca _) hS (a - 4) (d - 4) 0 0 ha he rfl rfl rfl n1 n2 n3 (by rw [c1, c3]; omega) (by rw [c2, c3]; omega) (fun _ _ => rfl) hframes hlocals hd (fun H1 locs1 q1 _ q3 => kk H1 locs1 ?_ q3)
    rw [c1, c2, c3] at q1
    rw [← hset]
    have : (fun k => Int32.ofInt (am_cpy I a sp.toNat d dp.toNat n.toNat d k)) = va_cpy (fun k => Int32.ofInt (I a k)) (fun k => Int32.ofInt (I d k)) sp.toNat dp.toNat n.toNat := by
      funext k
      unfold am_cpy va_cpy
      by_cases hk : dp.toNat ≤ k ∧ k < dp.toNat + n.toNat
      · rw [if_pos ⟨rfl, hk⟩, if_pos hk]
      · rw [if_neg (by omega), if_neg hk]
    rw [this]
    exact q1
  · rw [am_cell_long (hk.trans hsh)] at ha
    rw [am_cell_long hsh] at he hset
    refine va_copyl (ty := .long) hx hb hml hown hlink hnat hstat hini hK hP (am_ws_D g ca _) hS (a - 4) (d - 4) 3 3 ha he rfl rfl rfl n1 n2 n3 (by rw [c1, c3]; omega) (by rw [c2, c3]; omega) (fun _ _ => rfl) hframes hlocals hd (fun H1 locs1 q1 _ q3 => kk H1 locs1 ?_ q3)
    rw [c1, c2, c3] at q1
    rw [← hset]
    have : (fun k => Int64.ofInt (am_cpy I a sp.toNat d dp.toNat n.toNat d k)) = va_cpy (fun k => Int64.ofInt (I a k)) (fun k => Int64.ofInt (I d k)) sp.toNat dp.toNat n.toNat := by
      funext k
      unfold am_cpy va_cpy
      by_cases hk : dp.toNat ≤ k ∧ k < dp.toNat + n.toNat
      · rw [if_pos ⟨rfl, hk⟩, if_pos hk]
      · rw [if_neg (by omega), if_neg hk]
    rw [this]
    exact q1
/-- the heap's size is what the numbers say -/
theorem am_size {M : am_M} {gf : JFrame} (hP : va_P D am_cl (am_ws g ca M) H) (hS : va_S (am_A g) s.heap H locs) (h4 : 4 ≤ M.1) (hc : s.heap.size + cells = g.2.2.2 + (M.1 - 4)) (k : H.size = g.2.2.2 + (M.1 - 4) → W p l e R0 s m args below meth c H locs cells slots Q gf) (hg : g.2.2.2 ≤ s.heap.size) : W p l e R0 s m args below meth c H locs cells slots Q gf := by
  intro T hT X
  have h1 : T.heap.size ≤ s.heap.size + cells := X.same.2.2.1
  have h2 : g.2.2.2 + (M.1 - 4) ≤ H.size := by
    by_cases hm : M.1 = 4
    · rw [hm]; exact Nat.le_trans hg hS.1
    · have := hP _ _ (am_ws_get g ca M (a := M.1 - 1) (by omega) (by omega))
      have := this.lt
      dsimp only at this
      omega
  exact k (by rw [← hT] at h2 ⊢; omega) T hT X
theorem am_push_P {M M' : am_M} {H1 : Heap} (hP : va_P D am_cl (am_ws g ca M) H) (hsz : H.size = g.2.2.2 + (M.1 - 4)) (h4 : 4 ≤ M.1) (hm : M'.1 = M.1 + 1) (hc : ∀ b, b < M.1 → am_cell g ca M' b = am_cell g ca M b) (o1 : ∀ q, q < H.size → H1[q]? = H[q]?) (hnew : va_at D am_cl (H.size, am_cell g ca M' M.1) H1) : va_P D am_cl (am_ws g ca M') H1 := by
  rw [am_ws_push g ca M M' h4 hm hc]
  refine (hP.kept (fun k x hx => o1 x.1 ((hP k x hx).lt))).app (fun k x hx => ?_)
  have hz : k < 1 := (List.getElem?_eq_some_iff.mp hx).1
  rw [show k = 0 by omega] at hx
  cases hx
  rw [hsz] at hnew
  exact hnew
theorem am_mk_1 (M : am_M) (kd n : Nat) : (am_mk M kd n).1 = M.1 + 1 := rfl
theorem am_mk_self (m1 sl : Nat) (sh : Nat → Nat × Nat) (I : Nat → Nat → Int) (R : Nat → Nat → Nat) (kd n : Nat) : am_sh1 sh m1 (kd, n) m1 = (kd, n) ∧ (∀ k, am_zero I m1 0 m1 k = 0) ∧ ∀ k, am_zero R m1 0 m1 k = 0 := by
  refine ⟨?_, fun k => ?_, fun k => ?_⟩
  · unfold am_sh1; rw [if_pos rfl]
  · unfold am_zero; rw [if_pos rfl]
  · unfold am_zero; rw [if_pos rfl]
theorem am_h_newa (hx : p.tables.exec = Jvm.exec) (hb : c.code = cc) {t : ArrayType} (ht : t = .int ∨ t = .byte ∨ t = .boolean ∨ t = .long) (harr : (Cond.arrayClass (newarray.typeOf t)).before args s = true) (hK : va_K D am_cl (am_tys ca) s) {M : am_M} (hP : va_P D am_cl (am_ws g ca M) H) (hS : va_S (am_A g) s.heap H locs) (h4 : 4 ≤ M.1) (hsz : H.size = g.2.2.2 + (M.1 - 4)) {n : Int} (h0 : 0 ≤ n) (h1 : n ≤ 100000) (hcells : cells + 1 ≤ R0.cells) (hslots : slots + n.toNat ≤ R0.slots) (hd : decode cc pc = .ok (.newarray t, 2))
    (kk : ∀ H1, va_P D am_cl (am_ws g ca (am_mk M (am_kd t) n.toNat)) H1 → va_S (am_A g) s.heap H1 locs → W p l e R0 s m args below meth c H1 locs (cells + 1) (slots + n.toNat) Q (F0 m (pc + 2) arr (am_cv g (.inr (.inr M.1)) :: rest))) : W p l e R0 s m args below meth c H locs cells slots Q (F0 m pc arr (.int (Int32.ofInt n) :: rest)) := by
  have r1 : am_r32 n := ⟨by omega, by omega⟩
  have c1 := am_clp h0 r1
  have n1 : ¬ Int32.ofInt n < 0 := fun q => absurd ((am_lt r1 am_r0).mp q) (by omega)
  refine va_newaK hx hb harr rfl hd rfl n1 c1 (by rcases ht with rfl | rfl | rfl | rfl <;> simp only [newarray.typeOf, componentBytes] <;> omega) hcells hslots hsz (fun H1 cA e1 z1 o1 hAr hNm => ?_)
  rw [← hsz] at e1 z1 o1
  obtain ⟨m1, sl1, sh1, I1, R1⟩ := M
  obtain ⟨q1, q2, q3⟩ := am_mk_self m1 sl1 sh1 I1 R1 (am_kd t) n.toNat
  have hP1 : va_P D am_cl (am_ws g ca (am_mk (m1, sl1, sh1, I1, R1) (am_kd t) n.toNat)) H1 := by
    refine am_push_P hP hsz h4 rfl (fun b hb => am_cell_mk hb) o1 ?_
    rcases ht with rfl | rfl | rfl | rfl
    · have hcA : cA = ca 32 := Option.some.inj (hNm.symm.trans (hK.2 0 _ rfl).2)
      rw [show am_cell g ca (am_mk (m1, sl1, sh1, I1, R1) (am_kd .int) n.toNat) m1 = .inl (ca 32, n.toNat, .inl (fun _ => 0)) by
        unfold am_mk
        rw [am_cell_int (kd := 32) (by rw [q1]; rfl) (by decide) (by decide), q1]
        simp only [q2]
        rfl]
      show H1[H.size]? = some (vp_cell _ _)
      rw [e1, hcA]
      rfl
    · have hcA : cA = ca 33 := Option.some.inj (hNm.symm.trans (hK.2 1 _ rfl).2)
      rw [show am_cell g ca (am_mk (m1, sl1, sh1, I1, R1) (am_kd .byte) n.toNat) m1 = .inl (ca 33, n.toNat, .inl (fun _ => 0)) by
        unfold am_mk
        rw [am_cell_int (kd := 33) (by rw [q1]; rfl) (by decide) (by decide), q1]
        simp only [q2]
        rfl]
      show H1[H.size]? = some (vp_cell _ _)
      rw [e1, hcA]
      rfl
    · have hcA : cA = ca 34 := Option.some.inj (hNm.symm.trans (hK.2 2 _ rfl).2)
      rw [show am_cell g ca (am_mk (m1, sl1, sh1, I1, R1) (am_kd .boolean) n.toNat) m1 = .inl (ca 34, n.toNat, .inl (fun _ => 0)) by
        unfold am_mk
        rw [am_cell_int (kd := 34) (by rw [q1]; rfl) (by decide) (by decide), q1]
        simp only [q2]
        rfl]
      show H1[H.size]? = some (vp_cell _ _)
      rw [e1, hcA]
      rfl
    · have hcA : cA = ca 35 := Option.some.inj (hNm.symm.trans (hK.2 3 _ rfl).2)
      rw [show am_cell g ca (am_mk (m1, sl1, sh1, I1, R1) (am_kd .long) n.toNat) m1 = .inl (ca 35, n.toNat, .inr (.inl (fun _ => 0))) by
        unfold am_mk
        rw [am_cell_long (by rw [q1]; rfl), q1]
        simp only [q2]
        rfl]
      show H1[H.size]? = some (vp_cell _ _)
      rw [e1, hcA]
      rfl
  have hS1 : va_S (am_A g) s.heap H1 locs := ⟨Nat.le_trans hS.1 (by omega), fun x w1 w2 => (o1 x (Nat.lt_of_lt_of_le w1 hS.1)).trans (hS.2.1 x w1 w2), hS.2.2⟩
  have := kk H1 hP1 hS1
  rw [am_cvr g h4] at this
  exact this
theorem am_h_anew (hx : p.tables.exec = Jvm.exec) (hb : c.code = cc) {own C : String} {index kd : Nat} (hkd : kd = 36 ∧ C = RX9 ∨ kd = 37 ∧ C = RX5) (hown : s.vm.findClass own = some m.cls) (hclink : (Cond.classLink own index C).before args s = true) (hover : va_AO C s) (hK : va_K D am_cl (am_tys ca) s) {M : am_M} (hP : va_P D am_cl (am_ws g ca M) H) (hS : va_S (am_A g) s.heap H locs) (h4 : 4 ≤ M.1) (hsz : H.size = g.2.2.2 + (M.1 - 4)) {n : Int} (h0 : 0 ≤ n) (h1 : n ≤ 100000) (hcells : cells + 1 ≤ R0.cells) (hslots : slots + n.toNat ≤ R0.slots) (hd : decode cc pc = .ok (.anewarray index, 3))
    (kk : ∀ H1, va_P D am_cl (am_ws g ca (am_mk M kd n.toNat)) H1 → va_S (am_A g) s.heap H1 locs → W p l e R0 s m args below meth c H1 locs (cells + 1) (slots + n.toNat) Q (F0 m (pc + 3) arr (am_cv g (.inr (.inr M.1)) :: rest))) : W p l e R0 s m args below meth c H locs cells slots Q (F0 m pc arr (.int (Int32.ofInt n) :: rest)) := by
  have r1 : am_r32 n := ⟨by omega, by omega⟩
  have c1 := am_clp h0 r1
  have n1 : ¬ Int32.ofInt n < 0 := fun q => absurd ((am_lt r1 am_r0).mp q) (by omega)
  refine W.anew hx hb hown hclink (va_AO.use hover) rfl hd rfl n1 (by rw [c1]; omega) hcells (by rw [c1]; exact hslots) (fun cA kA comp f1 f2 f3 f4 => ?_)
  rw [c1]
  generalize hH1 : H.push ({ cls := cA, slots := Array.replicate n.toNat .null, vm := .none } : Cell) = H1
  have z1 : H1.size = H.size + 1 := by rw [← hH1, Array.size_push]
  have e1 : H1[H.size]? = some (arrV cA n.toNat (fun _ => .null)) := by rw [← hH1, Array.getElem?_push_size, ← arrV_new]
  have o1 : ∀ q : Nat, q < H.size → H1[q]? = H[q]? := fun q hq => by rw [← hH1, Array.getElem?_push, if_neg (Nat.ne_of_lt hq)]
  obtain ⟨m1, sl1, sh1, I1, R1⟩ := M
  obtain ⟨q1, q2, q3⟩ := am_mk_self m1 sl1 sh1 I1 R1 kd n.toNat
  have hP1 : va_P D am_cl (am_ws g ca (am_mk (m1, sl1, sh1, I1, R1) kd n.toNat)) H1 := by
    refine am_push_P hP hsz h4 rfl (fun b hb => am_cell_mk hb) o1 ?_
    have hcell : am_cell g ca (am_mk (m1, sl1, sh1, I1, R1) kd n.toNat) m1 = .inl (ca kd, n.toNat, .inr (.inr (.inr (.inr (fun _ => none))))) := by
      unfold am_mk
      rw [am_cell_ref (kd := kd) (by rw [q1]) (by omega), q1]
      simp only [q3]
      rfl
    rw [hcell]
    have hcA : cA = ca kd := by
      rcases hkd with ⟨rfl, rfl⟩ | ⟨rfl, rfl⟩
      · obtain ⟨kA', comp', -, -, -, h9⟩ := (hK.2 4 _ rfl).2
        exact Option.some.inj (f1.symm.trans h9)
      · obtain ⟨kA', comp', -, -, -, h9⟩ := (hK.2 5 _ rfl).2
        exact Option.some.inj (f1.symm.trans h9)
    show H1[H.size]? = some (vp_cell _ _)
    rw [e1, hcA]
    rfl
  have hS1 : va_S (am_A g) s.heap H1 locs := ⟨Nat.le_trans hS.1 (by omega), fun x w1 w2 => (o1 x (Nat.lt_of_lt_of_le w1 hS.1)).trans (hS.2.1 x w1 w2), hS.2.2⟩
  have := kk H1 hP1 hS1
  rw [am_cvr g h4, ← hsz] at this
  exact this
/-- what a field is at first -/
theorem am_dflt {ci k : Nat} {ty : FieldType} (h : am_fk ci k = 0 ∧ ty = .int ∨ am_fk ci k = 1 ∧ ty = .long ∨ am_fk ci k = 3 ∧ ty = .boolean ∨ am_fk ci k = 2 ∧ ((∃ n, ty = .object n) ∨ ∃ t, ty = .array t)) : defaultValue ty = am_cv g (am_fv (am_fk ci k) 0 0) := by
  rcases h with ⟨e, rfl⟩ | ⟨e, rfl⟩ | ⟨e, rfl⟩ | ⟨e, ⟨n, rfl⟩ | ⟨t, rfl⟩⟩ <;> rw [e] <;> rfl
theorem am_h_new (hx : p.tables.exec = Jvm.exec) (hb : c.code = cc) {own C : String} {T : u_T} {N ci index : Nat} {Ts : List Cond} (hts : ∀ w ∈ Ts, w.before args s = true) (hin : ∀ w ∈ u_ws C T N, w ∈ Ts) (ty : Nat → FieldType) (hty : ∀ k, k < N → parseFieldDescriptor (T k).2.2.1 = some (ty k)) (hown : s.vm.findClass own = some m.cls) (hcl : (Cond.classLink own index C).before args s = true) (hinst : (Cond.instantiable C N).before args s = true) (hini : (Cond.initialized C).before args s = true)
    (hK : va_K D am_cl (am_tys ca) s) {M : am_M} (hP : va_P D am_cl (am_ws g ca M) H) (hS : va_S (am_A g) s.heap H locs) (h4 : 4 ≤ M.1) (hsz : H.size = g.2.2.2 + (M.1 - 4)) (hc : am_cl[ci]? = some (C, T, N)) (hci : ci < 13) (hN : am_nf ci = N) (hfk : ∀ k, k < N → am_fk ci k = 0 ∧ ty k = .int ∨ am_fk ci k = 1 ∧ ty k = .long ∨ am_fk ci k = 3 ∧ ty k = .boolean ∨ am_fk ci k = 2 ∧ ((∃ n, ty k = .object n) ∨ ∃ t, ty k = .array t)) (hcells : cells + 1 ≤ R0.cells) (hslots : slots + N ≤ R0.slots) (hd : decode cc pc = .ok (.new index, 3))
    (kk : ∀ H1, va_P D am_cl (am_ws g ca (am_mk M ci N)) H1 → va_S (am_A g) s.heap H1 locs → W p l e R0 s m args below meth c H1 locs (cells + 1) (slots + N) Q (F0 m (pc + 3) arr (am_cv g (.inr (.inr M.1)) :: rest))) : W p l e R0 s m args below meth c H locs cells slots Q (F0 m pc arr rest) := by
  have hKn := hK.1 ci _ hc
  refine W.newcK hx hb hown hcl hinst hini rfl hd hcells hslots hKn.2.1 hsz fun H1 kC hkC e1 z1 o1 => ?_
  rw [← hsz] at e1 z1 o1
  obtain ⟨m1, sl1, sh1, I1, R1⟩ := M
  obtain ⟨q1, q2, q3⟩ := am_mk_self m1 sl1 sh1 I1 R1 ci N
  have hP1 : va_P D am_cl (am_ws g ca (am_mk (m1, sl1, sh1, I1, R1) ci N)) H1 := by
    refine am_push_P hP hsz h4 rfl (fun b hb => am_cell_mk hb) o1 ?_
    have hcell : am_cell g ca (am_mk (m1, sl1, sh1, I1, R1) ci N) m1 = .inr (ci, am_fs g ci (am_zero I1 m1 0) (am_zero R1 m1 0) m1) := by
      unfold am_mk
      rw [am_cell_obj (ci := ci) (by rw [q1]) (by omega)]
    rw [hcell]
    refine ⟨_, hc, (u_born ty hts hin hKn hkC e1 hty).to (fun k hk => ?_)⟩
    rw [am_dflt (g := g) (hfk k hk)]
    unfold vp_V
    rw [List.getD_eq_getElem?_getD, am_fs_get (by rw [hN]; exact hk), q2, q3]
    rfl
  have hS1 : va_S (am_A g) s.heap H1 locs := ⟨Nat.le_trans hS.1 (by omega), fun x w1 w2 => (o1 x (Nat.lt_of_lt_of_le w1 hS.1)).trans (hS.2.1 x w1 w2), hS.2.2⟩
  have := kk H1 hP1 hS1
  rw [am_cvr g h4] at this
  exact this
end AMB
