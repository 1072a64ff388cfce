/-! CALLS: a callee's run in the abstract machine is its contract -/
section AMC
variable {p : Program} {l : Launch} {e : Env} {R0 : Room} {s : State} {m : MethodId} {args : Array Value} {below : List Frame} {meth : Method} {c : Code} {H : Heap} {locs : List Loc} {cells slots : Nat} {Q : State → Prop} {pc : Nat} {arr : Array Slot} {g : am_G} {ca : Nat → ClassId} {D : va_G} {L : Nat} {xs : Nat → Int32} {mi : Nat}
/-- the nest's words -/
def am_nest (g : am_G) (U : State) : Prop := (∀ q ∈ am_NL, va_Nw (.methodLinkNest (am_cn q.1) q.2.1 (am_yn q.2.2.1) "PanSlices") U) ∧ am_fz g U U.heap
/-- the table of a method that catches -/
def am_tb (mi : Nat) (c : Code) : Prop := ∀ h, am_hd mi = some h → ∃ x, c.exceptionTable.toList = [x] ∧ x.handlerPc = h ∧ x.catchType = 13 ∧ covers x 5 = true
/-- what holds of a state when a method is called with the values av and the memory M -/
def am_Pc (g : am_G) (L : Nat) (xs : Nat → Int32) (ca : Nat → ClassId) (D : va_G) (av : List am_V) (M : am_M) : Array Value → State → Prop := fun a U => a = (av.map (am_cv g)).toArray ∧ va_P D am_cl (am_ws g ca M) U.heap ∧ va_K D am_cl (am_tys ca) U ∧ am_fx g L xs U U.heap ∧ (va_AO RX9 U ∧ va_AO RX5 U) ∧ am_nest g U ∧ U.heap.size = g.2.2.2 + (M.1 - 4) ∧ g.2.2.2 ≤ U.heap.size
def am_Qc (g : am_G) (L : Nat) (xs : Nat → Int32) (ca : Nat → ClassId) (D : va_G) (r : Option am_V) (M' : am_M) : Array Value → State → Outcome → State → Prop := fun _ st o t => o = .returned (r.map (am_cv g)) ∧ va_P D am_cl (am_ws g ca M') t.heap ∧ va_F (am_A g) st t ∧ am_okM L xs M' ∧ ∀ v, r = some v → am_okv M'.1 v
def am_rm (d mc ms : Nat) : Room := { frames := d + 9, cells := mc, slots := ms, locals := 60 * (d + 9) }
/-- a frame of method mi at pc: what the abstract machine comes to, the real one does -/
def am_SND (l : Launch) (g : am_G) (L : Nat) (xs : Nat → Int32) (ca : Nat → ClassId) (D : va_G) (f : Nat) : Prop :=
  ∀ (d mi pc : Nat) (ls : am_L) (st : List am_V) (M : am_M) (res : am_R) (M' : am_M), am_ex f d mi pc ls st M = some (res, M') → mi < 335 →
  ∀ (p : Program) (e : Env) (R0 : Room) (s : State) (m : MethodId) (args : Array Value) (below : List Frame) (meth : Method) (c : Code) (H : Heap) (locs : List Loc) (cells slots : Nat) (arr : Array Slot) (Q : State → Prop),
  am_cx g L xs ca D mi p s m args meth c → am_nest g s → am_tb mi c → ls.length = am_ml mi → am_at g L xs ca D s H locs cells arr ls st M → cells + (M'.1 - M.1) ≤ R0.cells → slots + (M'.2.1 - M.2.1) ≤ R0.slots → d + 9 ≤ R0.frames → 60 * (d + 9) ≤ R0.locals →
  (∀ (pcE : Nat) (raw : Instr) (len nx ta tb : Nat) (i : Instr) (lsE : am_L) (stE : List am_V) (ME : am_M) (H' : Heap) (locs' : List Loc) (arr' : Array Slot), am_ins mi pcE = some (nx, ta, tb, i) → am_rn mi pcE raw len nx ta tb i = true → decode (am_code mi) pcE = .ok (raw, len) → am_end i stE ME = some (res, M') → M.1 ≤ ME.1 → M.2.1 ≤ ME.2.1 → lsE.length = am_ml mi → am_at g L xs ca D s H' locs' (cells + (ME.1 - M.1)) arr' lsE stE ME → W p l e R0 s m args below meth c H' locs' (cells + (ME.1 - M.1)) (slots + (ME.2.1 - M.2.1)) Q (F0 m pcE arr' (stE.map (am_cv g)))) →
  W p l e R0 s m args below meth c H locs cells slots Q (F0 m pc arr (st.map (am_cv g)))
theorem am_Pc_blind {av : List am_V} {M : am_M} : FrameBlind (am_Pc g L xs ca D av M) := by
  intro a U gf mk q
  obtain ⟨q0, qP, qK, ⟨⟨x1, x2, x3⟩, x4, x5⟩, ⟨a1, a2⟩, qn, qs, qb⟩ := q
  have hA : U.vm.Alike (U.calling gf mk a).vm := Vm.Alike.refl U.vm
  exact ⟨q0, qP, va_K.moved hA qK, ⟨⟨va_X.moved hA x1, x2, x3⟩, va_Z.moved hA x4, va_T.moved hA x5⟩, ⟨va_AO.moved hA a1, va_AO.moved hA a2⟩, ⟨fun q hq => va_Nw.same rfl rfl (qn.1 q hq), am_fz_cl qn.2⟩, qs, qb⟩
theorem am_ylb_inv {y : Nat} (h : am_ylb y = true) : ∃ q, am_YL[y]? = some q ∧ lw_tbl[q.2.1]? = some (.initialized (am_yn y).cls) ∧ am_cn (am_ow y) = (am_yn y).cls ∧ ((am_yn y).cls ≠ "java/lang/invoke/MethodHandle" ∧ (am_yn y).cls ≠ "java/lang/invoke/VarHandle") ∧ plainName (am_yn y).cls = true ∧ am_ml y ≤ 13 ∧ (match am_sk y with
    | 0 => decide (lw_tbl[q.2.2.1]? = some (.instanceMethod (am_yn y))) && decide (lw_tbl[q.2.2.2]? = some (.selects (am_yn y).cls (am_yn y) (am_yn y))) && decide ((parseMethodDescriptor (am_yn y).desc).map (fun d => d.parameters.length + 1) = some (am_na y)) && decide (am_ow y < 13)
    | 1 => decide (lw_tbl[q.2.2.1]? = some (.static (am_yn y))) && decide ((parseMethodDescriptor (am_yn y).desc).map (fun d => d.parameters.length) = some (am_na y))
    | 2 => decide (lw_tbl[q.2.2.1]? = some (.instanceMethod (am_yn y))) && decide ((am_yn y).name = "<init>") && decide ((parseMethodDescriptor (am_yn y).desc).map (fun d => d.parameters.length + 1) = some (am_na y)) && decide (am_rt y = none)
    | _ => false) = true := by
  unfold am_ylb at h
  split at h
  · rename_i q hq
    simp only [Bool.and_eq_true, decide_eq_true_eq] at h
    obtain ⟨⟨⟨⟨⟨⟨⟨h1, h2⟩, h3⟩, h4⟩, h5⟩, h6⟩, h7⟩, h8⟩ := h
    exact ⟨q, hq, h1, h2, ⟨h3, h4⟩, h5, h6, h8⟩
  · cases h
theorem am_met {l : Launch} {f d : Nat} (hSN : am_SND l g L xs ca D f) {y : Nat} (hy : am_mw y) (hlt : y < 335) (hh : am_hd y = none) {av : List am_V} {M M' : am_M} {r : Option am_V} (ok : am_okM L xs M) (oka : am_oks M.1 av) (hsl : (av.map am_cat).sum ≤ am_ml y) (hex : am_ex f d y 0 (am_pad (am_ml y) (am_ent av)) [] M = some (.inl r, M')) :
    Met l (am_yn y) (am_ycw y :: am_uw) (am_rm d (M'.1 - M.1) (M'.2.1 - M.2.1)) (am_Pc g L xs ca D av M) (am_Qc g L xs ca D r M') (M'.1 - M.1) (M'.2.1 - M.2.1) (am_A g) := by
  obtain ⟨hyc, hyb⟩ := hy
  obtain ⟨q, -, -, hcn, -, hpl, -, hsk⟩ := am_ylb_inv hyb
  refine Met.ofW (cc := am_code y) (maxL := am_ml y) (ret := am_rt y) hpl rfl ?_
  intro p e s m args below meth c s₁ B hml hv
  obtain ⟨rfl, hP, hK, hF, hAO, hN, hsz, hbs⟩ := hv
  have hx := B.exec
  have hb := B.bytes
  have hr := B.returns
  have hts0 := atoms_spec (ws := am_ycw y :: am_uw) B.pre
  have hts : ∀ w ∈ am_uw, w.before (av.map (am_cv g)).toArray s = true := fun w hw => hts0 w (List.mem_cons_of_mem _ hw)
  have hown : s.vm.findClass (am_cn (am_ow y)) = some m.cls := by rw [hcn]; exact findClass_of_methodNamed B.named
  have hlocks := B.notSynchronized
  have hct : am_sk y = 2 → meth.name = "<init>" := by
    intro h2
    rw [h2] at hsk
    simp only [Bool.and_eq_true, decide_eq_true_eq] at hsk
    rw [(name_of_methodNamed B.named B.method).1]
    exact hsk.1.1.2
  obtain ⟨hlr, hlen⟩ := am_LR_entry g av hsl
  rw [lg_entry_eq]
  generalize (lg_sl (av.map (am_cv g)) ++ List.replicate (am_ml y - (lg_sl (av.map (am_cv g))).length) Slot.unset).toArray = arr at hlr ⊢
  have X : am_cx g L xs ca D y p s m (av.map (am_cv g)).toArray meth c := ⟨⟨hx, hb, hown, hml, hct⟩, hts, hK, hF, hAO, hbs⟩
  have Y : am_at g L xs ca D s s.heap [] 0 arr (am_pad (am_ml y) (am_ent av)) [] M := ⟨hP, va_S.rf, ok, am_ent_ok av _ oka, (fun v hv => nomatch hv), hlr, by rw [hsz]; rfl⟩
  refine hSN d y 0 _ [] M (.inl r) M' hex hlt p e _ s m _ below meth c s.heap [] 0 0 arr _ X hN (fun h9 e9 => by rw [hh] at e9; cases e9) hlen Y (by rw [Nat.zero_add]; exact Nat.le_refl _) (by rw [Nat.zero_add]; exact Nat.le_refl _) (Nat.le_refl _) (Nat.le_refl _) ?_
  intro pcE raw len nx ta tb i lsE stE ME H' locs' arr' hin hn hd hend hm1 hm2 hlE YE
  obtain ⟨hP', hS', ok', -, oks', -, -⟩ := YE
  rw [Nat.zero_add, Nat.zero_add]
  unfold am_rn at hn
  simp only [Bool.and_eq_true] at hn
  obtain ⟨-, hn⟩ := hn
  unfold am_end at hend
  cases i <;> dsimp only at hend <;> try (cases hend; done)
  case ireturn =>
    simp only [Bool.and_eq_true, decide_eq_true_eq] at hn
    obtain ⟨⟨rfl, e2⟩, e3⟩ := hn
    rw [am_nb e2] at hd
    split at hend
    · rename_i x
      cases hend
      exact W.iret (v := Int32.ofInt x) hx hb (hr.trans e3) (fun t ht hW => ⟨rfl, by rw [ht]; exact hP', hS'.F ht, ok', fun v hv => by cases hv; exact am_oks_h oks'⟩) hS'.2.2 hd
    · cases hend
  case freturn =>
    simp only [Bool.and_eq_true, decide_eq_true_eq] at hn
    obtain ⟨⟨rfl, e2⟩, e3⟩ := hn
    rw [am_nb e2] at hd
    split at hend
    · rename_i x
      split at hend
      · rename_i hz
        cases hend
        exact W.zret (ty := .boolean) (v := Int32.ofInt x) hx hb (hr.trans e3) (by rcases hz with h | h <;> rw [h] <;> rfl) (fun t ht hW => ⟨rfl, by rw [ht]; exact hP', hS'.F ht, ok', fun v hv => by cases hv; exact am_oks_h oks'⟩) hS'.2.2 hd
      · cases hend
    · cases hend
  case lreturn =>
    simp only [Bool.and_eq_true, decide_eq_true_eq] at hn
    obtain ⟨⟨rfl, e2⟩, e3⟩ := hn
    rw [am_nb e2] at hd
    split at hend
    · rename_i x
      cases hend
      exact W.lret (v := Int64.ofInt x) hx hb (hr.trans e3) (fun t ht hW => ⟨rfl, by rw [ht]; exact hP', hS'.F ht, ok', fun v hv => by cases hv; exact am_oks_h oks'⟩) hS'.2.2 hd
    · cases hend
  case return_ =>
    simp only [Bool.and_eq_true, decide_eq_true_eq] at hn
    obtain ⟨⟨rfl, e2⟩, e3⟩ := hn
    rw [am_nb e2] at hd
    split at hend
    · cases hend
      exact W.vret hx hb (hr.trans e3) (fun t ht hW => ⟨rfl, by rw [ht]; exact hP', hS'.F ht, ok', fun v hv => by cases hv⟩) hS'.2.2 hd
    · cases hend
  case athrow =>
    split at hend <;> cases hend
theorem am_after {M1 : am_M} {v : Option am_V} {a : Array Value} {stk rest : List Value} {mc ms : Nat} (hr : va_Run p l e R0 s m args below meth c H locs cells slots mc ms (F0 m pc arr stk) rest (am_Qc g L xs ca D v M1 a) (am_A g)) (hS : va_S (am_A g) s.heap H locs)
    (kk : ∀ H1 locs1, va_P D am_cl (am_ws g ca M1) H1 → va_S (am_A g) s.heap H1 locs1 → am_okM L xs M1 → (∀ w, v = some w → am_okv M1.1 w) → W p l e R0 s m args below meth c H1 locs1 (cells + mc) (slots + ms) Q (F0 m (pc + 3) arr ((v.map (am_cv g)).toList ++ rest))) : W p l e R0 s m args below meth c H locs cells slots Q (F0 m pc arr stk) := by
  intro T hT X
  obtain ⟨v', st₀, t, T', Lc, h0, X', hL, e1, e2, ⟨hv, hP1, ⟨hz, hk⟩, ok1, okv1⟩, st⟩ := hr T hT X
  rw [h0] at hz hk
  cases hv
  obtain ⟨t2, a1, b1⟩ := kk T'.heap (locs ++ Lc) (by rw [e1]; exact hP1) ⟨Nat.le_trans hS.1 (by rw [e1]; exact hz), fun q h1 h2 => by rw [e1, hk q (Nat.lt_of_lt_of_le h1 hS.1) h2]; exact hS.2.1 q h1 h2, fun q hq => by
      rcases List.mem_append.mp hq with h | h
      · exact hS.2.2 q h
      · exact hL q h⟩ ok1 okv1 T' rfl X'
  exact ⟨t2, st t2 a1, b1⟩
end AMC
