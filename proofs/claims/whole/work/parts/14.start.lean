/-! THE LAW'S START: from the abstract machine's run of the law to the claim -/
def R_law : String := "PanSlicesLaw"
def lw_P (b : Addr) (xs : List Int32) (args : Array Value) (s : State) : Prop := args = #[.ref b] ∧ s.IntsAt b xs ∧ xs.length ≤ 3072 ∧ (Jvm.Cond.and given_1 narrow_1).before args s = true
def lw_Q (_ : Array Value) (s : State) (o : Outcome) (t : State) : Prop := o = .returned (some (.int 1)) ∧ Framed s o t [] 601024 7293034
def lw_Z (below : List Frame) (a : Array Value) (s : State) : State → Prop := fun t => ∃ o, t.status = .running ∧ Ended t below o ∧ lw_Q a s o t
/-- the law's own end, with 1 on the stack, nothing written that was there before, its room as the claim has it -/
theorem lw_ret {p : Program} {l : Launch} {e : Env} {s : State} {m : MethodId} {below : List Frame} {meth : Method} {c : Code} {b : Nat} (hx : p.tables.exec = Jvm.exec) (hb : c.code = code) (hr : meth.sig.returnType = ret) (hlocks : meth.locks = false) {pc : Nat} {H : Heap} {ls : Array Slot} (hdg : decode code pc = .ok (.ireturn, 1)) : W p l e room_1 s m #[Value.ref b] below meth c H [] 601024 7293034 (lw_Z below #[Value.ref b] s) (F0 m pc ls [.int 1]) := by
  intro T hT X
  obtain ⟨fs, hret, hrun, hended, hW, hframe⟩ := X.leave (v := some (.int 1)) (hlocks := hlocks) (fun h => by rw [hr] at h; cases h)
  have hmeth' : T.vm.method? m = some meth := X.method'
  refine ⟨T.setFrames fs, ?_, .returned (some (.int 1)), hrun, hended, rfl, ⟨_, rfl⟩, hW, hframe⟩
  jvm_step X.here [X.here.top, hx, hb, hdg, hmeth', hr, ret, narrow_b1]
  (try refine ⟨rfl, ?_⟩); (try refine ⟨rfl, ?_⟩)
  first | (intro acts; rw [hret _ acts rfl rfl rfl]) | rw [hret _ _ rfl rfl rfl]
  exact Steps.refl _
/-- what holds at the law's entry: the machine, the code, the tables' words (any of lw_tbl by 'hts w (by decide +kernel)'), the script of L ints xs at the cell b, what the Statement gives of the start (any of its parts by flat_of_before) -/
def lw_At (p : Program) (s : State) (m : MethodId) (meth : Method) (c : Code) (b L : Nat) (xs : Nat → Int32) : Prop :=
  p.tables.exec = Jvm.exec ∧ c.code = code ∧ meth.sig.returnType = ret ∧ c.maxLocals = 8 ∧ s.vm.findClass R_law = some m.cls ∧ (∀ w ∈ lw_tbl, w.before #[Value.ref b] s = true) ∧ va_X b L xs s s.heap ∧ b < s.heap.size ∧ meth.locks = false ∧ (Jvm.Cond.and given_1 narrow_1).before #[Value.ref b] s = true
def am_sh0 (L : Nat) : Nat → Nat × Nat := fun a => if a = 1 then (32, L) else if a = 2 then (32, 36) else (98, 0)
def am_I0 (L : Nat) (xs : Nat → Int32) : Nat → Nat → Int := fun a k => if a = 1 then (if k < L then (xs k).toInt else 0) else if a = 2 then am_cho k else 0
/-- the memory at the law's start -/
def am_M0 (L : Nat) (xs : Nat → Int32) : am_M := (4, 0, am_sh0 L, am_I0 L xs, fun _ _ => 0)
theorem am_cho_r (k : Nat) : am_r32 (am_cho k) := by
  by_cases h : k < 36
  · have : ∀ k, k < 36 → (-2147483648 ≤ am_cho k ∧ am_cho k < 2147483648) := by decide +kernel
    exact this k h
  · have key : ∀ (l : List Int) (k : Nat), l.length ≤ k → am_nth 0 l k = 0 := by
      intro l
      induction l with
      | nil => intro k _; rfl
      | cons a r ih =>
        intro k hk
        cases k with
        | zero => exact absurd hk (by simp)
        | succ k => exact ih k (by simpa using hk)
    unfold am_cho
    rw [key am_choL k (by show 36 ≤ k; omega)]
    exact am_r0
theorem am_M0_ok {L : Nat} (hL : L ≤ 3072) (xs : Nat → Int32) : am_okM L xs (am_M0 L xs) := by
  refine ⟨⟨Nat.le_refl 4, rfl, rfl, rfl, rfl⟩, fun a k => ?_, fun _ _ => Nat.zero_lt_succ _, fun a => ?_, fun a ha => ?_, fun a h1 h2 => absurd h1 (by omega), fun k hk => ?_, fun k hk => ?_⟩
  · unfold am_sh0 am_I0
    by_cases h1 : a = 1
    · simp only [h1, if_true]
      unfold am_rgk
      simp only [Nat.reduceEqDiff, if_false, Nat.reduceLT, false_and]
      split
      · exact am_r32_t _
      · exact am_r0
    · by_cases h2 : a = 2
      · simp only [h2, if_true]
        unfold am_rgk
        simp only [Nat.reduceEqDiff, if_false, Nat.reduceLT, false_and]
        exact am_cho_r k
      · simp only [h1, h2, if_false]
        exact am_rgk0 _ _
  · unfold am_sh0
    split
    · show L ≤ 100000; omega
    · split
      · show 36 ≤ 100000; decide
      · exact Nat.zero_le _
  · unfold am_sh0
    rw [if_neg (by omega), if_neg (by omega)]
  · show am_I0 L xs 1 k = _
    unfold am_I0
    rw [if_pos rfl, if_pos hk]
  · show am_I0 L xs 2 k = _
    unfold am_I0
    rw [if_neg (by decide), if_pos rfl]
set_option maxRecDepth 100000 in
theorem am_ch_in : ∀ j, j < 36 → (Cond.eq (.elem (.static "PanSlices" "CHOICES" "[I") (.int (Int32.ofNat j))) (.int (Int32.ofInt (am_cho j)))) ∈ flatC (Jvm.Cond.and given_1 narrow_1) := by decide +kernel
set_option maxRecDepth 100000 in
theorem am_ch_in2 : (Cond.eq (.length (.static "PanSlices" "CHOICES" "[I")) (.int (Int32.ofNat 36))) ∈ flatC (Jvm.Cond.and given_1 narrow_1) ∧ (Cond.arrayOf (.static "PanSlices" "CHOICES" "[I") .int) ∈ flatC (Jvm.Cond.and given_1 narrow_1) := by decide +kernel
set_option maxRecDepth 100000 in
theorem am_st_in : lw_tbl[617]? = some (.laysStatic "PanSlices" "CHOICES" "[I") ∧ lw_tbl[1443]? = some (.instantiable "java/util/NoSuchElementException" 6) ∧ lw_tbl[342]? = some (.arrayOver (.object RX9)) ∧ lw_tbl[350]? = some (.arrayOver (.object RX5)) := by decide +kernel
set_option maxRecDepth 100000 in
theorem am_sf_in : (Cond.exactly (.string "PanSlices$Tape" 19) "java/lang/String") ∈ flatC (Jvm.Cond.and given_1 narrow_1) ∧ (Cond.eq (.field (.string "PanSlices$Tape" 19) "java/lang/String" "coder" "B") (.int 0)) ∈ flatC (Jvm.Cond.and given_1 narrow_1) ∧ (Cond.arrayOf (.field (.string "PanSlices$Tape" 19) "java/lang/String" "value" "[B") .byte) ∈ flatC (Jvm.Cond.and given_1 narrow_1) ∧ (Cond.eq (.length (.field (.string "PanSlices$Tape" 19) "java/lang/String" "value" "[B")) (.int (Int32.ofNat (([102] : List Nat).getD 0 0)))) ∈ flatC (Jvm.Cond.and given_1 narrow_1) ∧
    (Cond.eq (.static "java/lang/String" "COMPACT_STRINGS" "Z") (.int 1)) ∈ flatC (Jvm.Cond.and given_1 narrow_1) ∧ (Cond.isRef (.static "jdk/internal/util/Preconditions" "SIOOBE_FORMATTER" "Ljava/util/function/BiFunction;")) ∈ flatC (Jvm.Cond.and given_1 narrow_1) ∧ (Cond.isRef (.static Bundle.tN "UNASSIGNED_STACK" Bundle.steD)) ∈ flatC (Jvm.Cond.and given_1 narrow_1) ∧ (Cond.isRef (.static Bundle.tN "SUPPRESSED_SENTINEL" Bundle.listD)) ∈ flatC (Jvm.Cond.and given_1 narrow_1) := by decide +kernel
set_option maxRecDepth 100000 in
theorem am_se_in : ∀ j, j < ([102] : List Nat).getD 0 0 → (Cond.eq (.elem (.field (.string "PanSlices$Tape" 19) "java/lang/String" "value" "[B") (.int (Int32.ofNat j))) (.int (([am_bs].getD 0 []).getD j 0))) ∈ flatC (Jvm.Cond.and given_1 narrow_1) := by decide +kernel
set_option maxRecDepth 100000 in
theorem am_sw_in : lw_tbl[375]? = some (.stringRef "PanSlices$Tape" 19 am_tx) ∧ lw_tbl[385]? = some (.laysStatic "java/lang/String" "COMPACT_STRINGS" "Z") ∧ lw_tbl[401]? = some (.laysStatic "jdk/internal/util/Preconditions" "SIOOBE_FORMATTER" "Ljava/util/function/BiFunction;") ∧ lw_tbl[1469]? = some (.laysStatic Bundle.tN "UNASSIGNED_STACK" Bundle.steD) ∧ lw_tbl[1471]? = some (.laysStatic Bundle.tN "SUPPRESSED_SENTINEL" Bundle.listD) ∧ lw_tbl[147]? = some (.initialized "java/lang/String") ∧ lw_tbl[149]? = some (.initialized "jdk/internal/util/Preconditions") ∧ lw_tbl[158]? = some (.initialized Bundle.tN) := by decide +kernel
set_option maxRecDepth 100000 in
theorem am_sc_in : lw_tbl[1444]? = some (.castable am_nse am_nse) ∧ lw_tbl[1445]? = some (.declares (Bundle.init0 "java/lang/RuntimeException")) ∧ lw_tbl[1447]? = some (.declares (Bundle.init0 "java/lang/Exception")) ∧ lw_tbl[1449]? = some (.declares (Bundle.init0 Bundle.tN)) := by decide +kernel
theorem am_arrK {s : State} {args : Array Value} {ty : FieldType} (h : (Cond.arrayClass ty).before args s = true) : ∃ cA, ArrOfT s cA ty ∧ s.vm.findClass ("[" ++ ty.toString) = some cA := by
  obtain ⟨c, k, comp, h1, h2, h3⟩ := Cond.arrayClass_spec h
  exact ⟨c, fun N z => ⟨(fun k h => by cases h), k, h2, comp, h3⟩, h1⟩
theorem am_arrQ {s : State} {args : Array Value} {C : String} (h : (Cond.arrayOver (.object C)).before args s = true) : ∃ cA, ArrOfT s cA (.object C) ∧ va_RA s cA (.object C) := by
  obtain ⟨comp, c, k, h1, -, h3, h4, h5⟩ := Cond.arrayOver_spec h
  exact ⟨c, fun N z => ⟨(fun k h => by cases h), k, h3, comp, h4⟩, k, comp, h3, h4, h1, h5⟩
/-- what the abstract machine owes: the law's run ends with 1, within the room -/
def am_LAW : Prop := ∀ (L : Nat) (xs : Nat → Int32), L ≤ 3072 → ∃ f M', am_ex f 1000 334 0 (am_pad 8 (am_ent [.inr (.inr 1)])) [] (am_M0 L xs) = some (.inl (some (.inl 1)), M') ∧ M'.1 ≤ 601028 ∧ M'.2.1 ≤ 7293034
theorem am_start_open (hLaw : am_LAW) (hSt : ∀ l g L xs ca D, am_STR l g L xs ca D) {p : Program} {e : Env} {s : State} {m : MethodId} {below : List Frame} {meth : Method} {c : Code} (l : Launch) (hl0 : l.stackTraces = false) {b L : Nat} {xs : Nat → Int32} (hL : L ≤ 3072) (C0 : lw_At p s m meth c b L xs) : W p l e room_1 s m #[Value.ref b] below meth c s.heap [] 0 0 (lw_Z below #[Value.ref b] s) (entryFrame m ([Value.ref b] : List Value).toArray 8) := by
  obtain ⟨hx, hb, hr, hml, hown, hts, hX, hbl, hlocks, hgv⟩ := C0
  obtain ⟨f, M', hex, hc1, hc2⟩ := hLaw L xs hL
  have htu : ∀ w ∈ am_uw, w.before #[Value.ref b] s = true := fun w h => hts w (List.mem_filter.mp h).1
  have hat : ∀ {k : Nat} {w : Cond}, lw_tbl[k]? = some w → w.before #[Value.ref b] s = true := fun h => hts _ (List.mem_of_getElem? h)
  have hflat := flat_of_before _ hgv
  obtain ⟨-, -, -, -, -, -, -, wI, wB, wZ, wJ⟩ := am_k_nat
  obtain ⟨wS, wN, wO9, wO5⟩ := am_st_in
  -- the classes
  have hcls : ∀ (k : Nat), ∃ x : ClassId × (Nat → Nat), ∀ q, am_cl[k]? = some q → u_Kn s q.1 q.2.1 q.2.2 x.1 x.2 := by
    intro k
    by_cases hk : k < 13
    · obtain ⟨C1, T1, N1, ty1, h1, h2, h3, h4, h5, h6, h7, h8⟩ := am_cfs k hk
      obtain ⟨cC, iS, hKn⟩ := u_known (C := C1) (T := T1) (N := N1) (n := N1) htu h3 (htu _ h7)
      exact ⟨(cC, iS), fun q hq => by rw [h1] at hq; cases hq; exact hKn⟩
    · by_cases hk2 : k = 13
      · subst hk2
        obtain ⟨cC, iS, hKn⟩ := u_known (C := "java/util/NoSuchElementException") (T := TX0) (N := 0) (n := 6) htu (fun w hw => by cases hw) (hat wN)
        exact ⟨(cC, iS), fun q hq => by cases hq; exact hKn⟩
      · exact ⟨(0, fun _ => 0), fun q hq => by
          have : am_cl[k]? = none := List.getElem?_eq_none (by show 14 ≤ k; omega)
          rw [this] at hq
          cases hq⟩
  have hD : ∃ D : va_G, ∀ k q, am_cl[k]? = some q → u_Kn s q.1 q.2.1 q.2.2 (D.1 k) (D.2 k) := ⟨(fun k => (Classical.choose (hcls k)).1, fun k => (Classical.choose (hcls k)).2), fun k q hq => Classical.choose_spec (hcls k) q hq⟩
  obtain ⟨D, hD⟩ := hD
  obtain ⟨cI, aI1, aI2⟩ := am_arrK (hat wI)
  obtain ⟨cB, aB1, aB2⟩ := am_arrK (hat wB)
  obtain ⟨cZ, aZ1, aZ2⟩ := am_arrK (hat wZ)
  obtain ⟨cJ, aJ1, aJ2⟩ := am_arrK (hat wJ)
  obtain ⟨cS, aS1, aS2⟩ := am_arrQ (hat wO9)
  obtain ⟨cP, aP1, aP2⟩ := am_arrQ (hat wO5)
  obtain ⟨ca, k1, k2, k3, k4, k5, k6⟩ : ∃ ca : Nat → ClassId, ca 32 = cI ∧ ca 33 = cB ∧ ca 34 = cZ ∧ ca 35 = cJ ∧ ca 36 = cS ∧ ca 37 = cP := ⟨fun k => if k = 32 then cI else if k = 33 then cB else if k = 34 then cZ else if k = 35 then cJ else if k = 36 then cS else cP, rfl, rfl, rfl, rfl, rfl, rfl⟩
  have hK : va_K D am_cl (am_tys ca) s := by
    refine ⟨hD, fun k q hk => ?_⟩
    unfold am_tys at hk
    rw [k1, k2, k3, k4, k5, k6] at hk
    match k, hk with
    | 0, hk => cases hk; exact ⟨aI1, aI2⟩
    | 1, hk => cases hk; exact ⟨aB1, aB2⟩
    | 2, hk => cases hk; exact ⟨aZ1, aZ2⟩
    | 3, hk => cases hk; exact ⟨aJ1, aJ2⟩
    | 4, hk => cases hk; exact ⟨aS1, aS2⟩
    | 5, hk => cases hk; exact ⟨aP1, aP2⟩
    | k + 6, hk => simp at hk
  -- what was there before
  have hA : ∀ (t1 t3 : Nat) (a : Nat), a < s.heap.size → ¬ am_A (b, t1, t3, s.heap.size) a := fun t1 t3 a ha q => absurd (show s.heap.size ≤ a from q) (by omega)
  obtain ⟨t1, ht1, hT1⟩ := va_Tof (N := 36) (f := fun k => .int (Int32.ofInt (am_cho k))) (A := fun q => s.heap.size ≤ q) (by decide) (hflat _ am_ch_in2.2) (va_eqt (hflat _ am_ch_in2.1)) (fun j hj => va_eqt (hflat _ (am_ch_in j hj))) (fun a ha q => absurd q (by omega))
  have hZ1 : va_Z "PanSlices" "CHOICES" "[I" (.ref t1) (fun q => s.heap.size ≤ q) s s.heap := va_Zof (hat wS) (hat (w := .initialized "PanSlices") am_ci11.2) ht1 (fun a ha q => absurd q (by omega))
  obtain ⟨s1, s2, s3, s4, s5, s6, s7, s8⟩ := am_sf_in
  obtain ⟨adK, adV, hStr, hStv⟩ := vk_Sof (N := 1) (tm := fun _ => Term.string "PanSlices$Tape" 19) (len := [102]) (byt := [am_bs]) (A := fun q => s.heap.size ≤ q) (fun i hi => by rw [show i = 0 by omega]; decide) (fun i _ => hflat _ s1) (fun i _ => hflat _ s2) (fun i _ => hflat _ s3) (fun i hi => by rw [show i = 0 by omega]; exact hflat _ s4) (fun i hi j hj => by
    have e0 : i = 0 := by omega
    subst e0
    exact hflat _ (am_se_in j hj)) (fun i j hi hj hij => absurd (show i = j by omega) hij) (fun a ha q => absurd q (by omega))
  obtain ⟨wT, wL1, wL2, wL3, wL4, wI1, wI2, wI3⟩ := am_sw_in
  obtain ⟨g, hg⟩ : ∃ g : am_G, g = (b, t1, adK 0, s.heap.size) := ⟨_, rfl⟩
  have hAq : ∀ a : Nat, a < s.heap.size → ¬ (fun q => s.heap.size ≤ q) a := fun a ha q => absurd (show s.heap.size ≤ a from q) (by omega)
  have hFz : am_fz g s s.heap := by
    subst hg
    refine ⟨⟨vk_R.of (hat wT) (hStv 0 (by decide)), ⟨adV 0, fun i hi => ?_, fun i j hi hj _ => by omega⟩, va_Zof (hat wL1) (hat wI1) (va_eqt (hflat _ s5)) hAq, va_Zqof (hat wL2) (hat wI2) (hflat _ s6) hAq⟩, ⟨va_Nw.of rfl (hat (w := .castable am_nse am_nse) am_sc_in.1), fun x hx => va_Nw.of (A := #[Value.ref b]) rfl ?_⟩, vx_Zqof (hat wL3) (hat wI3) (hflat _ s7) hAq, vx_Zqof (hat wL4) (hat wI3) (hflat _ s8) hAq⟩
    · have e0 : i = 0 := by omega
      subst e0
      exact hStr.1 0 (by decide)
    · simp only [am_dcl, List.mem_cons, List.not_mem_nil, or_false] at hx
      rcases hx with rfl | rfl | rfl
      · exact hat am_sc_in.2.1
      · exact hat am_sc_in.2.2.1
      · exact hat am_sc_in.2.2.2
  have hF : am_fx g L xs s s.heap := by subst hg; exact ⟨⟨hX, hbl, hbl⟩, hZ1, hT1⟩
  have hN : am_nest g s := ⟨fun q hq => va_Nw.of rfl (hat (of_decide_eq_true (List.all_eq_true.mp am_NL_ok q hq))), hFz⟩
  have X : am_cx g L xs ca D 334 p s m #[Value.ref b] meth c := ⟨⟨hx, hb, hown, hml, fun h => by cases h⟩, htu, hK, hF, ⟨hat wO9, hat wO5⟩, by subst hg; exact Nat.le_refl _⟩
  obtain ⟨hlr, hlen⟩ := am_LR_entry g [.inr (.inr 1)] (n := 8) (by decide)
  have hcv : ([.inr (.inr 1)] : List am_V).map (am_cv g) = [Value.ref b] := by subst hg; rfl
  rw [hcv] at hlr
  rw [lg_entry_eq]
  generalize (lg_sl [Value.ref b] ++ List.replicate (8 - (lg_sl [Value.ref b]).length) Slot.unset).toArray = arr at hlr ⊢
  have ok := am_M0_ok hL xs
  have Y : am_at g L xs ca D s s.heap [] 0 arr (am_pad 8 (am_ent [.inr (.inr 1)])) [] (am_M0 L xs) := ⟨(fun k q hk => by rw [show am_ws g ca (am_M0 L xs) = [] from rfl] at hk; cases hk), va_S.rf, ok, am_ent_ok [.inr (.inr 1)] _ (fun v hv => by cases List.mem_singleton.mp hv; exact (by decide : (1 : Nat) < 4)), (fun v hv => nomatch hv), hlr, by subst hg; rfl⟩
  have hSN := am_sound_open hl0 am_tables (hSt l g L xs ca D) f f (Nat.le_refl f)
  refine hSN 1000 334 0 _ [] _ _ M' hex (by decide) p e room_1 s m _ below meth c s.heap [] 0 0 arr _ X hN (fun h9 e9 => by cases e9) hlen Y ?_ ?_ (by decide) (by decide) ?_
  · show 0 + (M'.1 - 4) ≤ 601024; omega
  · show 0 + (M'.2.1 - 0) ≤ 7293034; omega
  intro pcE raw len nx ta tb i lsE stE ME H' locs' arr' hin hn hd hend hm1 hm2 hlE YE
  obtain ⟨hP', hS', ok', -, oks', -, -⟩ := YE
  have hmE := am_end_mono hend
  unfold am_rn at hn
  simp only [Bool.and_eq_true] at hn
  obtain ⟨-, hn⟩ := hn
  unfold am_end at hend
  cases i <;> dsimp only at hend <;> try (cases hend; done)
  case ireturn =>
    simp only [Bool.and_eq_true, decide_eq_true_eq] at hn
    exact absurd hn.2 (by decide)
  case freturn =>
    simp only [Bool.and_eq_true, decide_eq_true_eq] at hn
    obtain ⟨⟨rfl, e2⟩, e3⟩ := hn
    rw [am_nb e2] at hd
    split at hend
    · rename_i x
      split at hend
      · cases hend
        refine va_forget (fun q hq => by have := hS'.2.2 q hq; subst hg; exact this) ?_
        refine W.widen (k := 601024) (n := 7293034) (by show 0 + (M'.1 - 4) ≤ 601024; omega) (by show 0 + (M'.2.1 - 0) ≤ 7293034; omega) ?_
        exact lw_ret hx hb hr hlocks hd
      · cases hend
    · cases hend
  case athrow =>
    split at hend <;> cases hend
  case lreturn =>
    split at hend <;> cases hend
  case return_ =>
    split at hend <;> cases hend
