/-! A METHOD THAT THROWS, AND ONE THAT CATCHES, BY CONTRACT -/
set_option maxRecDepth 100000 in
theorem am_thr_all : (List.range 335).all (fun y => (am_tab y).all (fun q => match q.2.2.2.2 with
  | .athrow => decide ((y, q.1) ∈ [(140, 23), (141, 27), (142, 27), (148, 23), (178, 23)])
  | _ => true)) = true := by decide +kernel
theorem am_thr140 : decode (am_code 140) 23 = .ok (.new 178, 3) ∧ decode (am_code 140) (23 + 3) = .ok (.dup, 1) ∧ decode (am_code 140) (23 + 4) = .ok (.invokespecial 180, 3) ∧ decode (am_code 140) (23 + 7) = .ok (.athrow, 1) := by decide +kernel
theorem am_thr141 : decode (am_code 141) 27 = .ok (.new 178, 3) ∧ decode (am_code 141) (27 + 3) = .ok (.dup, 1) ∧ decode (am_code 141) (27 + 4) = .ok (.invokespecial 180, 3) ∧ decode (am_code 141) (27 + 7) = .ok (.athrow, 1) := by decide +kernel
theorem am_thr142 : decode (am_code 142) 27 = .ok (.new 178, 3) ∧ decode (am_code 142) (27 + 3) = .ok (.dup, 1) ∧ decode (am_code 142) (27 + 4) = .ok (.invokespecial 180, 3) ∧ decode (am_code 142) (27 + 7) = .ok (.athrow, 1) := by decide +kernel
theorem am_thr148 : decode (am_code 148) 23 = .ok (.new 178, 3) ∧ decode (am_code 148) (23 + 3) = .ok (.dup, 1) ∧ decode (am_code 148) (23 + 4) = .ok (.invokespecial 180, 3) ∧ decode (am_code 148) (23 + 7) = .ok (.athrow, 1) := by decide +kernel
theorem am_thr178 : decode (am_code 178) 23 = .ok (.new 178, 3) ∧ decode (am_code 178) (23 + 3) = .ok (.dup, 1) ∧ decode (am_code 178) (23 + 4) = .ok (.invokespecial 180, 3) ∧ decode (am_code 178) (23 + 7) = .ok (.athrow, 1) := by decide +kernel
theorem am_thr_pc {y pc nx ta tb : Nat} (hy : y < 335) (h : am_ins y pc = some (nx, ta, tb, .athrow)) : am_cn (am_ow y) = "PanSlices" ∧ decode (am_code y) pc = .ok (.new 178, 3) ∧ decode (am_code y) (pc + 3) = .ok (.dup, 1) ∧ decode (am_code y) (pc + 4) = .ok (.invokespecial 180, 3) ∧ decode (am_code y) (pc + 7) = .ok (.athrow, 1) := by
  have h1 := List.all_eq_true.mp (List.all_eq_true.mp am_thr_all y (List.mem_range.mpr hy)) _ (am_find_mem _ _ _ _ _ _ h)
  have h2 : (y, pc) ∈ [(140, 23), (141, 27), (142, 27), (148, 23), (178, 23)] := of_decide_eq_true h1
  simp only [List.mem_cons, Prod.mk.injEq, List.not_mem_nil, or_false] at h2
  rcases h2 with ⟨e1, e2⟩ | ⟨e1, e2⟩ | ⟨e1, e2⟩ | ⟨e1, e2⟩ | ⟨e1, e2⟩ <;> subst e1 <;> subst e2
  · exact ⟨rfl, am_thr140⟩
  · exact ⟨rfl, am_thr141⟩
  · exact ⟨rfl, am_thr142⟩
  · exact ⟨rfl, am_thr148⟩
  · exact ⟨rfl, am_thr178⟩
set_option maxRecDepth 100000 in
theorem am_thr_wk : lw_tbl[1442]? = some (.classLink "PanSlices" 178 am_nse) ∧ lw_tbl[161]? = some (.initialized am_nse) ∧ lw_tbl[1437]? = some (.classLink "PanSlicesLaw" 13 am_nse) := by decide +kernel
theorem am_thr_fit : Bundle.fit am_nse = true ∧ ∀ n ∈ ["java/lang/RuntimeException", "java/lang/Exception"], Bundle.fit n = true := by decide +kernel
section AMX
variable {g : am_G} {ca : Nat → ClassId} {D : va_G} {L : Nat} {xs : Nat → Int32}
/-- where a method has thrown: the memory with the new exception -/
def am_XC (g : am_G) (L : Nat) (xs : Nat → Int32) (ca : Nat → ClassId) (D : va_G) (M' : am_M) : String → State → State → Prop := fun E st t => E = am_nse ∧ va_P D am_cl (am_ws g ca M') t.heap ∧ va_F (am_A g) st t ∧ am_okM L xs M'
theorem am_metX {l : Launch} {f d : Nat} (hl : l.stackTraces = false) (hSN : am_SND l g L xs ca D f) {y : Nat} (hy : am_mw y) (hlt : y < 335) (hh : am_hd y = none) {av : List am_V} {M M' : am_M} (ok : am_okM L xs M) (oka : am_oks M.1 av) (hsl : (av.map am_cat).sum ≤ am_ml y) (hex : am_ex f d y 0 (am_pad (am_ml y) (am_ent av)) [] M = some (.inr (), M')) :
    vx_Met l (am_yn y) (am_ycw y :: am_uw) (am_rm d (M'.1 - M.1) (M'.2.1 - M.2.1)) (am_Pc g L xs ca D av M) (fun _ _ _ _ => False) (am_XC g L xs ca D M') (M'.1 - M.1) (M'.2.1 - M.2.1) (am_A g) := by
  obtain ⟨hyc, hyb⟩ := hy
  obtain ⟨q, -, -, hcn, -, hpl, -, hsk⟩ := am_ylb_inv hyb
  refine vx_ofW (cc := am_code y) (maxL := am_ml y) (ret := am_rt y) hpl rfl ?_
  intro p e s m args below meth c s₁ B hml htab hv
  obtain ⟨rfl, hP, hK, hF, hAO, hN, hsz, hbs⟩ := hv
  have hx := B.exec
  have hb := B.bytes
  have hts0 := atoms_spec (ws := am_ycw y :: am_uw) B.pre
  have hts : ∀ w ∈ am_uw, w.before (av.map (am_cv g)).toArray s = true := fun w hw => hts0 w (List.mem_cons_of_mem _ hw)
  have hown : s.vm.findClass (am_cn (am_ow y)) = some m.cls := by rw [hcn]; exact findClass_of_methodNamed B.named
  have hlocks := B.notSynchronized
  have hct : am_sk y = 2 → meth.name = "<init>" := by
    intro h2
    rw [h2] at hsk
    simp only [Bool.and_eq_true, decide_eq_true_eq] at hsk
    rw [(name_of_methodNamed B.named B.method).1]
    exact hsk.1.1.2
  obtain ⟨hlr, hlen⟩ := am_LR_entry g av hsl
  rw [lg_entry_eq]
  generalize (lg_sl (av.map (am_cv g)) ++ List.replicate (am_ml y - (lg_sl (av.map (am_cv g))).length) Slot.unset).toArray = arr at hlr ⊢
  have X : am_cx g L xs ca D y p s m (av.map (am_cv g)).toArray meth c := ⟨⟨hx, hb, hown, hml, hct⟩, hts, hK, hF, hAO, hbs⟩
  have Y : am_at g L xs ca D s s.heap [] 0 arr (am_pad (am_ml y) (am_ent av)) [] M := ⟨hP, va_S.rf, ok, am_ent_ok av _ oka, (fun v hv => nomatch hv), hlr, by rw [hsz]; rfl⟩
  refine hSN d y 0 _ [] M (.inr ()) M' hex hlt p e _ s m _ below meth c s.heap [] 0 0 arr _ X hN (fun h9 e9 => by rw [hh] at e9; cases e9) hlen Y (by rw [Nat.zero_add]; exact Nat.le_refl _) (by rw [Nat.zero_add]; exact Nat.le_refl _) (Nat.le_refl _) (Nat.le_refl _) ?_
  intro pcE raw len nx ta tb i lsE stE ME H' locs' arr' hin hn hd hend hm1 hm2 hlE YE
  obtain ⟨hP', hS', ok', -, oks', hlr', hcs'⟩ := YE
  rw [Nat.zero_add] at hcs'
  rw [Nat.zero_add, Nat.zero_add]
  have h4 : 4 ≤ ME.1 := by obtain ⟨m1, sl, sh, I, R⟩ := ME; exact ok'.1.1
  have hi : i = .athrow ∧ stE = [] ∧ M' = am_mk ME 13 6 := by
    unfold am_end at hend
    cases i <;> dsimp only at hend <;> try (cases hend; done)
    case athrow =>
      split at hend
      · cases hend; exact ⟨rfl, rfl, rfl⟩
      · cases hend
    case ireturn => split at hend <;> cases hend
    case lreturn => split at hend <;> cases hend
    case return_ => split at hend <;> cases hend
    case freturn =>
      split at hend
      · split at hend <;> cases hend
      · cases hend
  obtain ⟨rfl, rfl, rfl⟩ := hi
  obtain ⟨hown2, d0, d3, d4, d7⟩ := am_thr_pc hlt hin
  obtain ⟨w1, w2, -⟩ := am_thr_wk
  obtain ⟨o1, o2, o3, o4⟩ := am_thr_ot
  refine am_size hP' hS' h4 hcs' (fun hszE => ?_) hbs
  have hM1 : (am_mk ME 13 6).1 = ME.1 + 1 := rfl
  have hM2 : (am_mk ME 13 6).2.1 = ME.2.1 + 6 := rfl
  refine am_throw0 (own := "PanSlices") (cls := am_nse) (names := ["java/lang/RuntimeException", "java/lang/Exception"]) (ik := 178) (ic := 180) (A := am_A g) hx hb hl (by rw [← hown2]; exact hown) am_thr_fit.1 am_thr_fit.2 (hts _ (am_uw_at w1 rfl)) (hts _ (am_uw_at w2 rfl)) (fun w hw => (am_thr_hat hts hN.2 w hw).1) ?_ hN.2.2.2.1 hN.2.2.2.2 hS' (by rw [hlr'.1, hlE, hml]) d0 d3 d4 d7 (fun x hx => (htab x hx).elim) ?_ ?_ ?_ ?_ hlocks ?_ hS'.2.2 ?_ ?_
  · intro w hw
    rcases List.mem_cons.mp hw with rfl | hw
    · exact o3
    · rcases List.mem_cons.mp hw with rfl | hw
      · exact o4
      · exact (am_thr_hat hts hN.2 w hw).2
  · show 2 + 3 < d + 9; omega
  · show 0 + (13 * (2 + 1) + 42) ≤ 60 * (d + 9); omega
  · show ME.1 - M.1 + 1 ≤ ME.1 + 1 - M.1; omega
  · show ME.2.1 - M.2.1 + 6 ≤ ME.2.1 + 6 - M.2.1; omega
  · intro t ce hal hsz1 hkp hce hcv hcl
    refine ⟨rfl, am_push_P hP' hszE h4 rfl (fun b hb => am_cell_mk hb) hkp ?_, ⟨Nat.le_trans hS'.1 hsz1, fun q h1 h2 => by rw [hkp q (Nat.lt_of_lt_of_le h1 hS'.1)]; exact hS'.2.1 q h1 h2⟩, am_okM_mk ok' (Or.inl (by decide)) (by decide)⟩
    obtain ⟨m1, sl, sh, I, R⟩ := ME
    have hk13 : (am_sh1 sh m1 (13, 6) m1).1 = 13 := by unfold am_sh1; rw [if_pos rfl]
    show va_at D am_cl (H'.size, am_cell g ca (m1 + 1, sl + 6, am_sh1 sh m1 (13, 6), am_zero I m1 0, am_zero R m1 0) m1) t.heap
    rw [am_cell_obj hk13 (by decide)]
    have h13 := (hK.1 13 _ rfl).2.1
    refine ⟨_, rfl, ce, hce, ?_, hcv, fun k hk => absurd hk (Nat.not_lt_zero _)⟩
    exact Option.some.inj (hcl.symm.trans h13)
  · show ME.1 - M.1 + 1 ≤ ME.1 + 1 - M.1; omega
  · show ME.2.1 - M.2.1 + 6 ≤ ME.2.1 + 6 - M.2.1; omega
set_option maxRecDepth 100000 in
/-- the law's own methods that catch -/
theorem am_hl {y : Nat} (h1 : 329 ≤ y) (h2 : y < 334) : ∃ (hh : List (Nat × Nat × Nat × Nat)) (x : ExceptionTableEntry), (Cond.codeWith (am_yn y) (am_code y) (am_ml y) (am_rt y) hh ∈ am_uw) ∧ tableOf hh = [x] ∧ am_hd y = some x.handlerPc ∧ x.catchType = 13 ∧ covers x 5 = true ∧ Cond.static (am_yn y) ∈ am_uw ∧ Cond.initialized (am_yn y).cls ∈ am_uw ∧ ((am_yn y).cls ≠ "java/lang/invoke/MethodHandle" ∧ (am_yn y).cls ≠ "java/lang/invoke/VarHandle" ∧ (parseMethodDescriptor (am_yn y).desc).map (fun d => d.parameters.length) = some (am_na y)) ∧ plainName (am_yn y).cls = true ∧ am_cn (am_ow y) = (am_yn y).cls ∧ am_sk y = 1 ∧ am_ml y = 5 ∧ am_rt y = some .int ∧ am_cn (am_ow y) = "PanSlicesLaw" := by
  have h : y = 329 ∨ y = 330 ∨ y = 331 ∨ y = 332 ∨ y = 333 := by omega
  rcases h with rfl | rfl | rfl | rfl | rfl
  · exact ⟨_, _, am_uw_at (k := 1436) rfl rfl, rfl, rfl, rfl, by decide, am_uw_at (k := 1435) rfl rfl, am_uw_at (k := 139) rfl rfl, by decide +kernel, by decide +kernel, rfl, rfl, rfl, rfl, rfl⟩
  · exact ⟨_, _, am_uw_at (k := 1506) rfl rfl, rfl, rfl, rfl, by decide, am_uw_at (k := 1505) rfl rfl, am_uw_at (k := 139) rfl rfl, by decide +kernel, by decide +kernel, rfl, rfl, rfl, rfl, rfl⟩
  · exact ⟨_, _, am_uw_at (k := 1513) rfl rfl, rfl, rfl, rfl, by decide, am_uw_at (k := 1512) rfl rfl, am_uw_at (k := 139) rfl rfl, by decide +kernel, by decide +kernel, rfl, rfl, rfl, rfl, rfl⟩
  · exact ⟨_, _, am_uw_at (k := 1520) rfl rfl, rfl, rfl, rfl, by decide, am_uw_at (k := 1519) rfl rfl, am_uw_at (k := 139) rfl rfl, by decide +kernel, by decide +kernel, rfl, rfl, rfl, rfl, rfl⟩
  · exact ⟨_, _, am_uw_at (k := 1527) rfl rfl, rfl, rfl, rfl, by decide, am_uw_at (k := 1526) rfl rfl, am_uw_at (k := 139) rfl rfl, by decide +kernel, by decide +kernel, rfl, rfl, rfl, rfl, rfl⟩
theorem am_metW {l : Launch} {f d : Nat} (hSN : am_SND l g L xs ca D f) {y : Nat} (hy1 : 329 ≤ y) (hy2 : y < 334) {hh : List (Nat × Nat × Nat × Nat)} {x : ExceptionTableEntry} (hcw : Cond.codeWith (am_yn y) (am_code y) (am_ml y) (am_rt y) hh ∈ am_uw) (htx : tableOf hh = [x]) (hhd : am_hd y = some x.handlerPc) (hct13 : x.catchType = 13) (hcov : covers x 5 = true) (hpl : plainName (am_yn y).cls = true) (hcn : am_cn (am_ow y) = (am_yn y).cls) (hsk : am_sk y = 1) (hrt : am_rt y = some .int) {av : List am_V} {M M' : am_M} {r : Option am_V} (ok : am_okM L xs M) (oka : am_oks M.1 av) (hsl : (av.map am_cat).sum ≤ am_ml y) (hex : am_ex f d y 0 (am_pad (am_ml y) (am_ent av)) [] M = some (.inl r, M')) :
    Met l (am_yn y) (Cond.codeWith (am_yn y) (am_code y) (am_ml y) (am_rt y) hh :: am_uw) (am_rm d (M'.1 - M.1) (M'.2.1 - M.2.1)) (am_Pc g L xs ca D av M) (am_Qc g L xs ca D r M') (M'.1 - M.1) (M'.2.1 - M.2.1) (am_A g) := by
  refine va_MetW (cc := am_code y) (maxL := am_ml y) (ret := am_rt y) (hh := hh) hpl rfl ?_
  intro p e s m args below meth c s₁ B hml hv
  obtain ⟨rfl, hP, hK, hF, hAO, hN, hsz, hbs⟩ := hv
  have hx := B.exec
  have hb := B.bytes
  have hr := B.returns
  have hts0 := atoms_spec (ws := Cond.codeWith (am_yn y) (am_code y) (am_ml y) (am_rt y) hh :: am_uw) B.pre
  have hts : ∀ w ∈ am_uw, w.before (av.map (am_cv g)).toArray s = true := fun w hw => hts0 w (List.mem_cons_of_mem _ hw)
  have hown : s.vm.findClass (am_cn (am_ow y)) = some m.cls := by rw [hcn]; exact findClass_of_methodNamed B.named
  have htab := vx_table (x := am_yn y) B (hts _ hcw)
  rw [htx] at htab
  have hct : am_sk y = 2 → meth.name = "<init>" := by
    intro h2
    rw [hsk] at h2
    cases h2
  obtain ⟨hlr, hlen⟩ := am_LR_entry g av hsl
  rw [lg_entry_eq]
  generalize (lg_sl (av.map (am_cv g)) ++ List.replicate (am_ml y - (lg_sl (av.map (am_cv g))).length) Slot.unset).toArray = arr at hlr ⊢
  have X : am_cx g L xs ca D y p s m (av.map (am_cv g)).toArray meth c := ⟨⟨hx, hb, hown, hml, hct⟩, hts, hK, hF, hAO, hbs⟩
  have Y : am_at g L xs ca D s s.heap [] 0 arr (am_pad (am_ml y) (am_ent av)) [] M := ⟨hP, va_S.rf, ok, am_ent_ok av _ oka, (fun v hv => nomatch hv), hlr, by rw [hsz]; rfl⟩
  refine hSN d y 0 _ [] M (.inl r) M' hex (by omega) p e _ s m _ below meth c s.heap [] 0 0 arr _ X hN (fun h9 e9 => ⟨x, htab, by rw [hhd] at e9; exact Option.some.inj e9, hct13, hcov⟩) hlen Y (by rw [Nat.zero_add]; exact Nat.le_refl _) (by rw [Nat.zero_add]; exact Nat.le_refl _) (Nat.le_refl _) (Nat.le_refl _) ?_
  intro pcE raw len nx ta tb i lsE stE ME H' locs' arr' hin hn hd hend hm1 hm2 hlE YE
  obtain ⟨hP', hS', ok', -, oks', -, -⟩ := YE
  rw [Nat.zero_add, Nat.zero_add]
  unfold am_rn at hn
  simp only [Bool.and_eq_true] at hn
  obtain ⟨-, hn⟩ := hn
  unfold am_end at hend
  cases i <;> dsimp only at hend <;> try (cases hend; done)
  case ireturn =>
    simp only [Bool.and_eq_true, decide_eq_true_eq] at hn
    obtain ⟨⟨rfl, e2⟩, e3⟩ := hn
    rw [am_nb e2] at hd
    split at hend
    · rename_i v
      cases hend
      exact W.iret (v := Int32.ofInt v) hx hb (hr.trans e3) (fun t ht hW => ⟨rfl, by rw [ht]; exact hP', hS'.F ht, ok', fun v hv => by cases hv; exact am_oks_h oks'⟩) hS'.2.2 hd
    · cases hend
  case freturn =>
    simp only [Bool.and_eq_true, decide_eq_true_eq] at hn
    rw [hrt] at hn
    exact absurd hn.2 (by decide)
  case lreturn =>
    simp only [Bool.and_eq_true, decide_eq_true_eq] at hn
    rw [hrt] at hn
    exact absurd hn.2 (by decide)
  case return_ =>
    simp only [Bool.and_eq_true, decide_eq_true_eq] at hn
    rw [hrt] at hn
    exact absurd hn.2 (by decide)
  case athrow =>
    split at hend <;> cases hend
end AMX
