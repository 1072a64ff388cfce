/-! THE STRING CONSTANT: length and charAt, walked by hand -/
section AMS
def am_Sp (g : am_G) (aV : Nat) (As : List Value) : Array Value → State → Prop := fun a U => a = As.toArray ∧ am_fz g U U.heap ∧ vk_S 1 [102] [am_bs] (fun _ => g.2.2.1) (fun _ => aV) (am_A g) U U.heap
def am_Sq (v : Option Value) : Array Value → State → Outcome → State → Prop := fun _ st o t => o = .returned v ∧ t.heap = st.heap
variable {p : Program} {l : Launch} {e : Env} {R0 : Room} {s : State} {m : MethodId} {args : Array Value} {below : List Frame} {meth : Method} {c : Code} {H : Heap} {locs : List Loc} {cells slots : Nat} {Q : State → Prop} {pc : Nat} {arr : Array Slot} {g : am_G} {aV : Nat}
theorem am_Sp_blind {As : List Value} : FrameBlind (am_Sp g aV As) := fun a U gf mk q => ⟨q.1, am_fz_cl q.2.1, vk_S.moved (U := U.calling gf mk a) (Vm.Alike.refl U.vm) q.2.2⟩
theorem am_smet {y : MethodName} {cc : ByteArray} {maxL : Nat} {ret : Option FieldType} {rm : Room} {As : List Value} {v : Option Value} (hpl : plainName y.cls = true) (hlen : (lg_sl As).length ≤ maxL)
    (body : ∀ (p : Program) (e : Env) (s : State) (m : MethodId) (below : List Frame) (meth : Method) (c : Code) (ls : Array Slot), p.tables.exec = Jvm.exec → c.code = cc → meth.sig.returnType = ret → c.maxLocals = maxL → meth.locks = false → s.vm.findClass y.cls = some m.cls → (∀ w ∈ am_uw, w.before As.toArray s = true) → am_fz g s s.heap → vk_S 1 [102] [am_bs] (fun _ => g.2.2.1) (fun _ => aV) (am_A g) s s.heap → lv_has ls maxL (lv_args 0 As) → ls.size = maxL →
      W p l e rm s m As.toArray below meth c s.heap [] 0 0 (MQ below (am_Sq v) As.toArray s 0 0 (fun _ => False)) (F0 m 0 ls [])) : Met l y (Cond.code y cc maxL ret :: am_uw) rm (am_Sp g aV As) (am_Sq v) 0 0 (fun _ => False) := by
  refine Met.ofW (cc := cc) (maxL := maxL) (ret := ret) hpl rfl ?_
  intro p e s m args below meth c s₁ B hml hv
  obtain ⟨rfl, hz, hE⟩ := hv
  have hts0 := atoms_spec (ws := Cond.code y cc maxL ret :: am_uw) B.pre
  have hl := lv_entry As (n := maxL) hlen
  rw [lg_entry_eq]
  generalize (lg_sl As ++ List.replicate (maxL - (lg_sl As).length) Slot.unset).toArray = ls at hl ⊢
  exact body p e s m below meth c ls B.exec B.bytes B.returns hml B.notSynchronized (findClass_of_methodNamed B.named) (fun w hw => hts0 w (List.mem_cons_of_mem _ hw)) hz hE hl hl.1
theorem am_safter {v : Option Value} {a : Array Value} {stk rest : List Value} (hr : va_Run p l e R0 s m args below meth c H locs cells slots 0 0 (F0 m pc arr stk) rest (am_Sq v a) (fun _ => False)) (kk : W p l e R0 s m args below meth c H locs cells slots Q (F0 m (pc + 3) arr (v.toList ++ rest))) : W p l e R0 s m args below meth c H locs cells slots Q (F0 m pc arr stk) := by
  intro T hT X
  obtain ⟨v', st₀, t, T', Lc, h0, X', hL, e1, e2, ⟨hv, hh⟩, st⟩ := hr T hT X
  cases hv
  have hLc : Lc = [] := List.eq_nil_iff_forall_not_mem.mpr hL
  subst hLc
  rw [List.append_nil] at X'
  obtain ⟨t2, a1, b1⟩ := kk T' (by rw [e1, hh, h0]) X'
  exact ⟨t2, st t2 a1, b1⟩
/-- a call of such a method -/
theorem am_scS {cc bytes : ByteArray} {nL maxL index : Nat} {own : String} {y : MethodName} {ret : Option FieldType} {rm : Room} {As rest : List Value} {v : Option Value} (S5 : CallFix p m c cc nL s args am_uw own) (hM : Met l y (Cond.code y bytes maxL ret :: am_uw) rm (am_Sp g aV As) (am_Sq v) 0 0 (fun _ => False)) (hcw : Cond.code y bytes maxL ret ∈ am_uw) (hst : Cond.static y ∈ am_uw) (hini : Cond.initialized y.cls ∈ am_uw) (hlk : Cond.methodLink own index y ∈ am_uw)
    (hd2 : y.cls ≠ "java/lang/invoke/MethodHandle" ∧ y.cls ≠ "java/lang/invoke/VarHandle" ∧ (parseMethodDescriptor y.desc).map (fun d => d.parameters.length) = some As.length) (hrm : rm.cells = 0 ∧ rm.slots = 0) (hRm : rm.frames + 1 ≤ R0.frames ∧ 8 + (maxL + 11) + rm.locals ≤ R0.locals) (hz : am_fz g s s.heap) (hE : vk_S 1 [102] [am_bs] (fun _ => g.2.2.1) (fun _ => aV) (am_A g) s s.heap) (hS : va_S (am_A g) s.heap H locs) (hsize : arr.size = nL) (hsum : (rest.map fun v => v.category).sum ≤ 8) (hdg : decode cc pc = .ok (.invokestatic index, 3)) (hf : cells ≤ R0.cells ∧ slots ≤ R0.slots)
    (kk : W p l e R0 s m args below meth c H locs cells slots Q (F0 m (pc + 3) arr (v.toList ++ rest))) : W p l e R0 s m args below meth c H locs cells slots Q (F0 m pc arr (As.reverse ++ rest)) := by
  have hts := S5.2.2.2.2
  have hG : GoodIn am_uw (Cond.code y bytes maxL ret :: am_uw) := fun w hw => by
    rcases List.mem_cons.mp hw with rfl | h
    · exact am_uw_good _ hcw
    · exact am_uw_good _ h
  exact am_safter (va_runS (As := As) (n := As.length) S5 hM ⟨callB_of As.length hts hG rfl hrm.1 hrm.2 (hts _ hini) (hts _ hlk) hd2 hRm, hts _ hst⟩ ⟨am_Sp_blind, fun U hU hW => ⟨rfl, am_fz_mv hW hS hU hz, by rw [hU]; exact vk_S.moved hW.alike (hE.kept hS.2.1)⟩⟩ rfl rfl hsize rfl (lv_room hsum) hdg ⟨hf.1, hf.2⟩) kk
theorem am_scV {cc bytes : ByteArray} {nL maxL index : Nat} {own : String} {y : MethodName} {ret : Option FieldType} {rm : Room} {As rest : List Value} {v : Option Value} (S5 : CallFix p m c cc nL s args am_uw own) (hM : Met l y (Cond.code y bytes maxL ret :: am_uw) rm (am_Sp g aV (.ref g.2.2.1 :: As)) (am_Sq v) 0 0 (fun _ => False)) (hcw : Cond.code y bytes maxL ret ∈ am_uw) (hst : Cond.instanceMethod y ∈ am_uw) (hsel : Cond.selects "java/lang/String" y y ∈ am_uw) (hini : Cond.initialized y.cls ∈ am_uw) (hlk : Cond.methodLink own index y ∈ am_uw)
    (hd2 : y.cls ≠ "java/lang/invoke/MethodHandle" ∧ y.cls ≠ "java/lang/invoke/VarHandle" ∧ (parseMethodDescriptor y.desc).map (fun d => d.parameters.length) = some As.length) (hrm : rm.cells = 0 ∧ rm.slots = 0) (hRm : rm.frames + 1 ≤ R0.frames ∧ 8 + (maxL + 11) + rm.locals ≤ R0.locals) (hz : am_fz g s s.heap) (hE : vk_S 1 [102] [am_bs] (fun _ => g.2.2.1) (fun _ => aV) (am_A g) s s.heap) (hS : va_S (am_A g) s.heap H locs) (hsize : arr.size = nL) (hsum : (rest.map fun v => v.category).sum ≤ 8) (hdg : decode cc pc = .ok (.invokevirtual index, 3)) (hf : cells ≤ R0.cells ∧ slots ≤ R0.slots)
    (kk : W p l e R0 s m args below meth c H locs cells slots Q (F0 m (pc + 3) arr (v.toList ++ rest))) : W p l e R0 s m args below meth c H locs cells slots Q (F0 m pc arr (As.reverse ++ .ref g.2.2.1 :: rest)) := by
  have hts := S5.2.2.2.2
  have hG : GoodIn am_uw (Cond.code y bytes maxL ret :: am_uw) := fun w hw => by
    rcases List.mem_cons.mp hw with rfl | h
    · exact am_uw_good _ hcw
    · exact am_uw_good _ h
  exact am_safter (va_runV (As := As) (n := As.length) (C := "java/lang/String") (b := g.2.2.1) S5 hM ⟨callB_of As.length hts hG rfl hrm.1 hrm.2 (hts _ hini) (hts _ hlk) hd2 hRm, hts _ hst, hts _ hsel⟩ ⟨am_Sp_blind, vk_recv (i := 0) hE (by decide) hS, fun U hU hW => ⟨rfl, am_fz_mv hW hS hU hz, by rw [hU]; exact vk_S.moved hW.alike (hE.kept hS.2.1)⟩⟩ rfl rfl hsize rfl (lv_room hsum) hdg ⟨hf.1, hf.2⟩) kk
set_option maxRecDepth 100000 in
theorem am_sw0 : lw_tbl[384]? = some (.fieldLink "java/lang/String" 38 "java/lang/String" "COMPACT_STRINGS" "Z") ∧ lw_tbl[2284]? = some (.fieldLink "java/lang/String" 9 "java/lang/String" "value" "[B") ∧ lw_tbl[2285]? = some (.fieldLink "java/lang/String" 15 "java/lang/String" "coder" "B") ∧ lw_tbl[380]? = some (.methodLink "java/lang/String" 335 yJ0_coder_7d493) ∧ lw_tbl[390]? = some (.methodLink "java/lang/String" 492 yJ0_isLatin1_aae02) ∧ lw_tbl[394]? = some (.methodLink "java/lang/String" 495 yJ1_charAt_3b067) ∧ lw_tbl[397]? = some (.methodLink "java/lang/StringLatin1" 9 yJ0_checkIndex_df160) ∧ lw_tbl[400]? = some (.fieldLink "java/lang/String" 1053 "jdk/internal/util/Preconditions" "SIOOBE_FORMATTER" "Ljava/util/function/BiFunction;") ∧ lw_tbl[402]? = some (.methodLink "java/lang/String" 1059 yJ3_checkIndex_8e157) := by decide +kernel
set_option maxRecDepth 100000 in
theorem am_sw1 : lw_tbl[377]? = some (.instanceMethod yJ0_length_8abf5) ∧ lw_tbl[378]? = some (.selects "java/lang/String" yJ0_length_8abf5 yJ0_length_8abf5) ∧ lw_tbl[381]? = some (.instanceMethod yJ0_coder_7d493) ∧ lw_tbl[382]? = some (.selects "java/lang/String" yJ0_coder_7d493 yJ0_coder_7d493) ∧ lw_tbl[387]? = some (.instanceMethod yJ0_charAt_5068e) ∧ lw_tbl[388]? = some (.selects "java/lang/String" yJ0_charAt_5068e yJ0_charAt_5068e) ∧ lw_tbl[391]? = some (.instanceMethod yJ0_isLatin1_aae02) ∧ lw_tbl[392]? = some (.selects "java/lang/String" yJ0_isLatin1_aae02 yJ0_isLatin1_aae02) ∧ lw_tbl[395]? = some (.static yJ1_charAt_3b067) ∧ lw_tbl[398]? = some (.static yJ0_checkIndex_df160) ∧ lw_tbl[403]? = some (.static yJ3_checkIndex_8e157) ∧ lw_tbl[147]? = some (.initialized "java/lang/String") ∧ lw_tbl[148]? = some (.initialized "java/lang/StringLatin1") ∧ lw_tbl[149]? = some (.initialized "jdk/internal/util/Preconditions") := by decide +kernel
set_option maxRecDepth 100000 in
theorem am_sk1 : Cond.code yJ0_length_8abf5 prog_22_method_54_code 1 (some .int) ∈ am_uw := am_uw_at (k := 379) rfl rfl
set_option maxRecDepth 100000 in
theorem am_sk2 : Cond.code yJ0_coder_7d493 prog_22_method_152_code 1 (some .byte) ∈ am_uw := am_uw_at (k := 383) rfl rfl
set_option maxRecDepth 100000 in
theorem am_sk3 : Cond.code yJ0_charAt_5068e prog_22_method_56_code 2 (some .char) ∈ am_uw := am_uw_at (k := 389) rfl rfl
set_option maxRecDepth 100000 in
theorem am_sk4 : Cond.code yJ0_isLatin1_aae02 prog_22_method_154_code 1 (some .boolean) ∈ am_uw := am_uw_at (k := 393) rfl rfl
set_option maxRecDepth 100000 in
theorem am_sk5 : Cond.code yJ1_charAt_3b067 prog_23_method_2_code 2 (some .char) ∈ am_uw := am_uw_at (k := 396) rfl rfl
set_option maxRecDepth 100000 in
theorem am_sk6 : Cond.code yJ0_checkIndex_df160 prog_22_method_155_code 2 none ∈ am_uw := am_uw_at (k := 399) rfl rfl
set_option maxRecDepth 100000 in
theorem am_sk7 : Cond.code yJ3_checkIndex_8e157 prog_31_method_11_code 3 (some .int) ∈ am_uw := am_uw_at (k := 404) rfl rfl
theorem am_m_coder : Met l yJ0_coder_7d493 (Cond.code yJ0_coder_7d493 prog_22_method_152_code 1 (some .byte) :: am_uw) { frames := 0, cells := 0, slots := 0, locals := 0 } (am_Sp g aV [.ref g.2.2.1]) (am_Sq (some (.int 0))) 0 0 (fun _ => False) := by
  refine am_smet (by decide) (Nat.le_refl 1) ?_
  intro p e s m below meth c ls hx hb hr hml hlocks hown hts hz hE hl hls
  obtain ⟨⟨-, -, hC, -⟩, -⟩ := hz
  obtain ⟨-, hco, hva, hT⟩ := hE.1 0 (by decide)
  obtain ⟨w1, w2, w3, -⟩ := am_sw0
  refine va_gets hx hb hC va_S.rf hown (hts _ (am_uw_at w1 rfl)) (fun _ h => h) (by decide +kernel : decode prog_22_method_152_code 0 = .ok (.getstatic 38, 3)) ?_
  refine lv_if_eq (tgt := 13) hx hb (by decide +kernel : decode prog_22_method_152_code 3 = .ok (.ifCond .eq 10, 3)) (by decide) (fun h => absurd h (by decide)) (fun _ => ?_)
  refine lv_aload_n hx hb (by decide +kernel : decode prog_22_method_152_code 6 = .ok (.aload_n 0, 1)) rfl (lv_at hl 0 rfl) ?_
  refine vk_getf hx hb hco va_S.rf hown (hts _ (am_uw_at w3 rfl)) (fun _ h => h) (by decide +kernel : decode prog_22_method_152_code 7 = .ok (.getfield 15, 3)) ?_
  refine lv_goto (tgt := 14) hx hb (by decide +kernel : decode prog_22_method_152_code 10 = .ok (.goto 4, 3)) (by decide) ?_
  exact W.zret (ty := .byte) (v := 0) hx hb hr rfl (fun t ht hW => ⟨rfl, ht⟩) (fun q hq => nomatch hq) (by decide +kernel)
theorem am_m_latin : Met l yJ0_isLatin1_aae02 (Cond.code yJ0_isLatin1_aae02 prog_22_method_154_code 1 (some .boolean) :: am_uw) { frames := 0, cells := 0, slots := 0, locals := 0 } (am_Sp g aV [.ref g.2.2.1]) (am_Sq (some (.int 1))) 0 0 (fun _ => False) := by
  refine am_smet (by decide) (Nat.le_refl 1) ?_
  intro p e s m below meth c ls hx hb hr hml hlocks hown hts hz hE hl hls
  obtain ⟨⟨-, -, hC, -⟩, -⟩ := hz
  obtain ⟨-, hco, hva, hT⟩ := hE.1 0 (by decide)
  obtain ⟨w1, w2, w3, -⟩ := am_sw0
  refine va_gets hx hb hC va_S.rf hown (hts _ (am_uw_at w1 rfl)) (fun _ h => h) (by decide +kernel : decode prog_22_method_154_code 0 = .ok (.getstatic 38, 3)) ?_
  refine lv_if_eq (tgt := 17) hx hb (by decide +kernel : decode prog_22_method_154_code 3 = .ok (.ifCond .eq 14, 3)) (by decide) (fun h => absurd h (by decide)) (fun _ => ?_)
  refine lv_aload_n hx hb (by decide +kernel : decode prog_22_method_154_code 6 = .ok (.aload_n 0, 1)) rfl (lv_at hl 0 rfl) ?_
  refine vk_getf hx hb hco va_S.rf hown (hts _ (am_uw_at w3 rfl)) (fun _ h => h) (by decide +kernel : decode prog_22_method_154_code 7 = .ok (.getfield 15, 3)) ?_
  refine lv_if_ne (tgt := 17) hx hb (by decide +kernel : decode prog_22_method_154_code 10 = .ok (.ifCond .ne 7, 3)) (by decide) (fun h => absurd rfl h) (fun _ => ?_)
  refine lv_iconst (v := 1) hx hb (by decide +kernel : decode prog_22_method_154_code 13 = .ok (.iconst 1, 1)) (by decide) ?_
  refine lv_goto (tgt := 18) hx hb (by decide +kernel : decode prog_22_method_154_code 14 = .ok (.goto 4, 3)) (by decide) ?_
  exact W.zret (ty := .boolean) (v := 1) hx hb hr rfl (fun t ht hW => ⟨rfl, ht⟩) (fun q hq => nomatch hq) (by decide +kernel)
theorem am_m_length : Met l yJ0_length_8abf5 (Cond.code yJ0_length_8abf5 prog_22_method_54_code 1 (some .int) :: am_uw) { frames := 1, cells := 0, slots := 0, locals := 20 } (am_Sp g aV [.ref g.2.2.1]) (am_Sq (some (.int 102))) 0 0 (fun _ => False) := by
  refine am_smet (by decide) (Nat.le_refl 1) ?_
  intro p e s m below meth c ls hx hb hr hml hlocks hown hts hz hE hl hls
  obtain ⟨⟨-, -, hC, -⟩, -⟩ := id hz
  obtain ⟨-, hco, hva, hT⟩ := hE.1 0 (by decide)
  obtain ⟨w1, w2, w3, w4, -⟩ := am_sw0
  obtain ⟨-, -, v3, v4, -, -, -, -, -, -, -, v12, -⟩ := am_sw1
  refine lv_aload_n hx hb (by decide +kernel : decode prog_22_method_54_code 0 = .ok (.aload_n 0, 1)) rfl (lv_at hl 0 rfl) ?_
  refine vk_getf hx hb hva va_S.rf hown (hts _ (am_uw_at w2 rfl)) (fun _ h => h) (by decide +kernel : decode prog_22_method_54_code 1 = .ok (.getfield 9, 3)) ?_
  refine va_tlen (v := 102) hx hb hT va_S.rf rfl (by decide +kernel : decode prog_22_method_54_code 4 = .ok (.arraylength, 1)) ?_
  refine lv_aload_n hx hb (by decide +kernel : decode prog_22_method_54_code 5 = .ok (.aload_n 0, 1)) rfl (lv_at hl 0 rfl) ?_
  refine am_scV (As := []) (v := some (.int 0)) ⟨hx, hb, hml, hown, hts⟩ am_m_coder am_sk2 (am_uw_at v3 rfl) (am_uw_at v4 rfl) (am_uw_at v12 rfl) (am_uw_at w4 rfl) (by decide +kernel) ⟨rfl, rfl⟩ ⟨by decide, by decide⟩ hz hE va_S.rf hls (by decide) (by decide +kernel) ⟨Nat.le_refl _, Nat.le_refl _⟩ ?_
  refine lv_ishr hx hb (by decide +kernel : decode prog_22_method_54_code 9 = .ok (.ishr, 1)) ?_
  exact W.iret (v := 102) hx hb hr (fun t ht hW => ⟨rfl, ht⟩) (fun q hq => nomatch hq) (by decide +kernel)
theorem am_m_pre {i n : Int32} {vv : Value} (hv : vv = .null ∨ ∃ t, vv = .ref t) (h0 : ¬ i < 0) (h1 : i < n) : Met l yJ3_checkIndex_8e157 (Cond.code yJ3_checkIndex_8e157 prog_31_method_11_code 3 (some .int) :: am_uw) { frames := 0, cells := 0, slots := 0, locals := 0 } (am_Sp g aV [.int i, .int n, vv]) (am_Sq (some (.int i))) 0 0 (fun _ => False) := by
  refine am_smet (by decide) (by rcases hv with rfl | ⟨t, rfl⟩ <;> exact Nat.le_refl 3) ?_
  intro p e s m below meth c ls hx hb hr hml hlocks hown hts hz hE hl hls
  refine lv_iload_n hx hb (by decide +kernel : decode prog_31_method_11_code 0 = .ok (.iload_n 0, 1)) rfl (lv_at hl 0 rfl) ?_
  refine lv_if_lt (tgt := 9) hx hb (by decide +kernel : decode prog_31_method_11_code 1 = .ok (.ifCond .lt 8, 3)) (by decide) (fun h => absurd h h0) (fun _ => ?_)
  refine lv_iload_n hx hb (by decide +kernel : decode prog_31_method_11_code 4 = .ok (.iload_n 0, 1)) rfl (lv_at hl 0 rfl) ?_
  refine lv_iload_n hx hb (by decide +kernel : decode prog_31_method_11_code 5 = .ok (.iload_n 1, 1)) rfl (lv_at hl 1 rfl) ?_
  refine lv_icmp_lt (tgt := 16) hx hb (by decide +kernel : decode prog_31_method_11_code 6 = .ok (.if_icmp .lt 10, 3)) (by decide) (fun _ => ?_) (fun h => absurd h1 h)
  refine lv_iload_n hx hb (by decide +kernel : decode prog_31_method_11_code 16 = .ok (.iload_n 0, 1)) rfl (lv_at hl 0 rfl) ?_
  exact W.iret (v := i) hx hb hr (fun t ht hW => ⟨rfl, ht⟩) (fun q hq => nomatch hq) (by decide +kernel)
theorem am_m_check {i n : Int32} (h0 : ¬ i < 0) (h1 : i < n) : Met l yJ0_checkIndex_df160 (Cond.code yJ0_checkIndex_df160 prog_22_method_155_code 2 none :: am_uw) { frames := 1, cells := 0, slots := 0, locals := 22 } (am_Sp g aV [.int i, .int n]) (am_Sq none) 0 0 (fun _ => False) := by
  refine am_smet (by decide) (Nat.le_refl 2) ?_
  intro p e s m below meth c ls hx hb hr hml hlocks hown hts hz hE hl hls
  obtain ⟨⟨-, -, -, hq⟩, -⟩ := id hz
  obtain ⟨-, -, -, -, -, -, -, w8, w9⟩ := am_sw0
  obtain ⟨-, -, -, -, -, -, -, -, -, -, v11, -, -, v14⟩ := am_sw1
  refine lv_iload_n hx hb (by decide +kernel : decode prog_22_method_155_code 0 = .ok (.iload_n 0, 1)) rfl (lv_at hl 0 rfl) ?_
  refine lv_iload_n hx hb (by decide +kernel : decode prog_22_method_155_code 1 = .ok (.iload_n 1, 1)) rfl (lv_at hl 1 rfl) ?_
  have key : ∀ vv : Value, (vv = .null ∨ ∃ t, vv = .ref t) → va_Z "jdk/internal/util/Preconditions" "SIOOBE_FORMATTER" "Ljava/util/function/BiFunction;" vv (am_A g) s s.heap → W p l e { frames := 1, cells := 0, slots := 0, locals := 22 } s m ([.int i, .int n] : List Value).toArray below meth c s.heap [] 0 0 (MQ below (am_Sq none) ([.int i, .int n] : List Value).toArray s 0 0 (fun _ => False)) (F0 m (0 + 1 + 1) ls [.int n, .int i]) := by
    intro vv hvv hZ
    refine va_gets hx hb hZ va_S.rf hown (hts _ (am_uw_at w8 rfl)) (fun _ h => h) (by decide +kernel : decode prog_22_method_155_code 2 = .ok (.getstatic 1053, 3)) ?_
    refine am_scS (As := [.int i, .int n, vv]) (rest := []) (v := some (.int i)) ⟨hx, hb, hml, hown, hts⟩ (am_m_pre hvv h0 h1) am_sk7 (am_uw_at v11 rfl) (am_uw_at v14 rfl) (am_uw_at w9 rfl) ⟨by decide, by decide, by rfl⟩ ⟨rfl, rfl⟩ ⟨by decide, by decide⟩ hz hE va_S.rf hls (by decide) (by decide +kernel) ⟨Nat.le_refl _, Nat.le_refl _⟩ ?_
    refine lv_pop hx hb (by decide +kernel : decode prog_22_method_155_code 8 = .ok (.pop, 1)) rfl ?_
    exact W.vret hx hb hr (fun t ht hW => ⟨rfl, ht⟩) (fun q hq => nomatch hq) (by decide +kernel)
  rcases hq with hZ | ⟨t, hZ⟩
  · exact key _ (Or.inl rfl) hZ
  · exact key _ (Or.inr ⟨t, rfl⟩) hZ
theorem am_bs_c : ∀ j, j < 102 → (((am_bs.getD j 0 &&& 255).toUInt32 % 65536).toInt32 = Int32.ofInt (am_str.getD j 0) ∧ narrow .char (.int (Int32.ofInt (am_str.getD j 0))) = .int (Int32.ofInt (am_str.getD j 0))) := by decide +kernel
theorem am_m_lat1 {j : Nat} (hj : j < 102) : Met l yJ1_charAt_3b067 (Cond.code yJ1_charAt_3b067 prog_23_method_2_code 2 (some .char) :: am_uw) { frames := 2, cells := 0, slots := 0, locals := 43 } (am_Sp g aV [.ref aV, .int (Int32.ofInt j)]) (am_Sq (some (.int (Int32.ofInt (am_str.getD j 0))))) 0 0 (fun _ => False) := by
  have hjI : (0 : Int) ≤ (j : Int) ∧ (j : Int) < 102 := by omega
  have hj0 : ¬ Int32.ofInt j < 0 := fun h => by
    have := (am_lt (a := j) (b := 0) (by unfold am_r32; omega) (by unfold am_r32; omega)).mp h
    omega
  have hj1 : Int32.ofInt j < 102 := (am_lt (a := j) (b := 102) (by unfold am_r32; omega) (by unfold am_r32; omega)).mpr (by omega)
  have hcl := am_clp (i := (j : Int)) hjI.1 ⟨by omega, by omega⟩
  refine am_smet (by decide) (Nat.le_refl 2) ?_
  intro p e s m below meth c ls hx hb hr hml hlocks hown hts hz hE hl hls
  have hT : va_T .byte aV 102 (fun j => .int (am_bs.getD j 0)) (am_A g) s s.heap := (hE.1 0 (by decide)).2.2.2
  obtain ⟨-, -, -, -, -, -, w7, -, -⟩ := am_sw0
  obtain ⟨-, -, -, -, -, -, -, -, -, v10, -, v12, -, -⟩ := am_sw1
  obtain ⟨c1, c2⟩ := am_bs_c j hj
  refine lv_iload_n hx hb (by decide +kernel : decode prog_23_method_2_code 0 = .ok (.iload_n 1, 1)) rfl (lv_at hl 1 rfl) ?_
  refine lv_aload_n hx hb (by decide +kernel : decode prog_23_method_2_code 1 = .ok (.aload_n 0, 1)) rfl (lv_at hl 0 rfl) ?_
  refine va_tlen (v := 102) hx hb hT va_S.rf rfl (by decide +kernel : decode prog_23_method_2_code 2 = .ok (.arraylength, 1)) ?_
  refine am_scS (As := [.int (Int32.ofInt j), .int 102]) (rest := []) (v := none) ⟨hx, hb, hml, hown, hts⟩ (am_m_check hj0 hj1) am_sk6 (am_uw_at v10 rfl) (am_uw_at v12 rfl) (am_uw_at w7 rfl) ⟨by decide, by decide, by rfl⟩ ⟨rfl, rfl⟩ ⟨by decide, by decide⟩ hz hE va_S.rf hls (by decide) (by decide +kernel) ⟨Nat.le_refl _, Nat.le_refl _⟩ ?_
  refine lv_aload_n hx hb (by decide +kernel : decode prog_23_method_2_code 6 = .ok (.aload_n 0, 1)) rfl (lv_at hl 0 rfl) ?_
  refine lv_iload_n hx hb (by decide +kernel : decode prog_23_method_2_code 7 = .ok (.iload_n 1, 1)) rfl (lv_at hl 1 rfl) ?_
  refine va_tb (v := .int (am_bs.getD j 0)) hx hb hT va_S.rf (am_ix hjI.1 hjI.2 (by decide)) (by rw [hcl]; rfl) (by decide +kernel : decode prog_23_method_2_code 8 = .ok (.baload, 1)) ?_
  refine lv_sipush (v := 255) hx hb (by decide +kernel : decode prog_23_method_2_code 9 = .ok (.sipush 255, 3)) rfl ?_
  refine lv_iand hx hb (by decide +kernel : decode prog_23_method_2_code 12 = .ok (.iand, 1)) ?_
  refine lv_i2c hx hb (by decide +kernel : decode prog_23_method_2_code 13 = .ok (.i2c, 1)) c1 ?_
  exact W.zret (ty := .char) hx hb hr c2 (fun t ht hW => ⟨rfl, ht⟩) (fun q hq => nomatch hq) (by decide +kernel)
theorem am_m_charAt {j : Nat} (hj : j < 102) : Met l yJ0_charAt_5068e (Cond.code yJ0_charAt_5068e prog_22_method_56_code 2 (some .char) :: am_uw) { frames := 3, cells := 0, slots := 0, locals := 64 } (am_Sp g aV [.ref g.2.2.1, .int (Int32.ofInt j)]) (am_Sq (some (.int (Int32.ofInt (am_str.getD j 0))))) 0 0 (fun _ => False) := by
  refine am_smet (by decide) (Nat.le_refl 2) ?_
  intro p e s m below meth c ls hx hb hr hml hlocks hown hts hz hE hl hls
  obtain ⟨-, hco, hva, hT⟩ := hE.1 0 (by decide)
  obtain ⟨-, w2, -, -, w5, w6, -, -, -⟩ := am_sw0
  obtain ⟨-, -, -, -, -, -, v7, v8, v9, -, -, v12, v13, -⟩ := am_sw1
  obtain ⟨c1, c2⟩ := am_bs_c j hj
  refine lv_aload_n hx hb (by decide +kernel : decode prog_22_method_56_code 0 = .ok (.aload_n 0, 1)) rfl (lv_at hl 0 rfl) ?_
  refine am_scV (As := []) (rest := []) (v := some (.int 1)) ⟨hx, hb, hml, hown, hts⟩ am_m_latin am_sk4 (am_uw_at v7 rfl) (am_uw_at v8 rfl) (am_uw_at v12 rfl) (am_uw_at w5 rfl) ⟨by decide, by decide, by rfl⟩ ⟨rfl, rfl⟩ ⟨by decide, by decide⟩ hz hE va_S.rf hls (by decide) (by decide +kernel) ⟨Nat.le_refl _, Nat.le_refl _⟩ ?_
  refine lv_if_eq (tgt := 16) hx hb (by decide +kernel : decode prog_22_method_56_code 4 = .ok (.ifCond .eq 12, 3)) (by decide) (fun h => absurd h (by decide)) (fun _ => ?_)
  refine lv_aload_n hx hb (by decide +kernel : decode prog_22_method_56_code 7 = .ok (.aload_n 0, 1)) rfl (lv_at hl 0 rfl) ?_
  refine vk_getf hx hb hva va_S.rf hown (hts _ (am_uw_at w2 rfl)) (fun _ h => h) (by decide +kernel : decode prog_22_method_56_code 8 = .ok (.getfield 9, 3)) ?_
  refine lv_iload_n hx hb (by decide +kernel : decode prog_22_method_56_code 11 = .ok (.iload_n 1, 1)) rfl (lv_at hl 1 rfl) ?_
  refine am_scS (As := [.ref aV, .int (Int32.ofInt j)]) (rest := []) (v := some (.int (Int32.ofInt (am_str.getD j 0)))) ⟨hx, hb, hml, hown, hts⟩ (am_m_lat1 hj) am_sk5 (am_uw_at v9 rfl) (am_uw_at v13 rfl) (am_uw_at w6 rfl) ⟨by decide, by decide, by rfl⟩ ⟨rfl, rfl⟩ ⟨by decide, by decide⟩ hz hE va_S.rf hls (by decide) (by decide +kernel) ⟨Nat.le_refl _, Nat.le_refl _⟩ ?_
  exact W.zret (ty := .char) hx hb hr c2 (fun t ht hW => ⟨rfl, ht⟩) (fun q hq => nomatch hq) (by decide +kernel)
theorem am_sl5 {ow ix : Nat} (h : am_any4 am_SL ow ix 5 = true) : ow = 10 ∧ ix = 19 := by
  have hall : am_SL.all (fun q => !(Nat.beq q.2.2.1 5) || (Nat.beq q.1 10 && Nat.beq q.2.1 19)) = true := by decide +kernel
  obtain ⟨q, hq, h2⟩ := List.any_eq_true.mp h
  simp only [Bool.and_eq_true] at h2
  obtain ⟨⟨e1, e2⟩, e3⟩ := h2
  have h3 := List.all_eq_true.mp hall q hq
  rw [e3] at h3
  simp only [Bool.not_true, Bool.false_or, Bool.and_eq_true] at h3
  rw [← am_nb e1, ← am_nb e2]
  exact ⟨am_nb h3.1, am_nb h3.2⟩
theorem am_hop1 {st : List am_V} {m1 sl ta tb n0 : Nat} {sh : Nat → Nat × Nat} {I : Nat → Nat → Int} {R : Nat → Nat → Nat} {C : Prop} {st' : List am_V} {M' : am_M} (h : am_hop (.invokeinterface 1 n0) ta tb st (m1, sl, sh, I, R) = some (C, st', M')) : ∃ a r, st = .inr (.inr a) :: r ∧ am_fit r = true ∧ st' = .inl (am_str.length : Nat) :: r ∧ C = (a = 3) ∧ M' = (m1, sl, sh, I, R) := by
  rw [show am_hop (.invokeinterface 1 n0) ta tb st (m1, sl, sh, I, R) = (match (generalizing := false) st with
      | .inr (.inr a) :: r => match am_fit r with
        | true => some (a = 3, .inl (am_str.length : Nat) :: r, (m1, sl, sh, I, R))
        | false => none
      | _ => none) from rfl] at h
  split at h
  · split at h
    · rename_i hf
      cases h
      exact ⟨_, _, rfl, hf, rfl, rfl, rfl⟩
    · cases h
  · cases h
theorem am_hop2 {st : List am_V} {m1 sl ta tb n0 : Nat} {sh : Nat → Nat × Nat} {I : Nat → Nat → Int} {R : Nat → Nat → Nat} {C : Prop} {st' : List am_V} {M' : am_M} (h : am_hop (.invokeinterface 2 n0) ta tb st (m1, sl, sh, I, R) = some (C, st', M')) : ∃ i a r, st = .inl i :: .inr (.inr a) :: r ∧ am_fit r = true ∧ st' = .inl (am_str.getD i.toNat 0) :: r ∧ C = (a = 3 ∧ 0 ≤ i ∧ i < (am_str.length : Nat)) ∧ M' = (m1, sl, sh, I, R) := by
  rw [show am_hop (.invokeinterface 2 n0) ta tb st (m1, sl, sh, I, R) = (match (generalizing := false) st with
      | .inl i :: .inr (.inr a) :: r => match am_fit r with
        | true => some (a = 3 ∧ 0 ≤ i ∧ i < (am_str.length : Nat), .inl (am_str.getD i.toNat 0) :: r, (m1, sl, sh, I, R))
        | false => none
      | _ => none) from rfl] at h
  split at h
  · split at h
    · rename_i hf
      cases h
      exact ⟨_, _, _, rfl, hf, rfl, rfl, rfl⟩
    · cases h
  · cases h
theorem am_str_r : ∀ j, j < 102 → -2147483648 ≤ am_str.getD j 0 ∧ am_str.getD j 0 < 2147483648 := by decide +kernel
theorem am_str_ok {ca : Nat → ClassId} {D : va_G} {L : Nat} {xs : Nat → Int32} : am_STR l g L xs ca D := by
  intro mi pc ls st st' M M' raw i len nx ta tb C p e R0 s m args below meth c H locs cells slots arr Q X hN hll Y hi hn hd hst hC hr1 hr2 hr3 hr4 kk
  obtain ⟨⟨hx, hb, hown, hml, hct⟩, hts, hK, hF, -, hg⟩ := X
  obtain ⟨hP, hS, ok, okl, oks, hl, hcs⟩ := Y
  have hz := hN.2
  obtain ⟨⟨hR, ⟨aV, hE⟩, -, -⟩, -⟩ := id hz
  obtain ⟨m1, sl, sh, I, R⟩ := M
  have h4 : 4 ≤ m1 := ok.1.1
  have hsize : arr.size = am_ml mi := by rw [hl.1, hll]
  unfold am_rn at hn
  rw [Bool.and_eq_true] at hn
  obtain ⟨e0, hn⟩ := hn
  have e0 := am_nb e0
  obtain ⟨-, -, -, -, -, -, -, -, -⟩ := am_sw0
  obtain ⟨v1, v2, -, -, v5, v6, -, -, -, -, -, v12, -, -⟩ := am_sw1
  cases i <;> try (cases hi; done)
  case ldc k0 =>
    cases raw <;> simp only [Bool.and_eq_true, Bool.false_eq_true] at hn
    rename_i ix
    obtain ⟨e1, e2⟩ := hn
    have e1 := am_nb e1
    subst e1
    obtain ⟨f1, f2⟩ := am_sl5 e2
    subst f2
    rw [f1] at hown
    have hst : (some (True, .inr (.inr 3) :: st, (m1, sl, sh, I, R)) : Option (Prop × List am_V × am_M)) = some (C, st', M') := hst
    cases hst
    rw [e0] at kk
    exact va_ldcS (own := "PanSlices$Tape") (index := 19) (tx := am_tx) (q := g.2.2.1) hx hb hown hR hd (kk rfl (am_oks_c (show 3 < m1 by omega) oks))
  case invokeinterface k n0 =>
    match k, hi, hst with
    | 1, _, hst =>
      cases raw <;> simp only [Bool.and_eq_true, Bool.or_eq_true, Bool.false_eq_true] at hn
      case invokestatic ix =>
        obtain ⟨-, (⟨h9, -⟩ | ⟨h9, -⟩) | ⟨h9, -⟩⟩ := hn <;> cases h9
      case invokespecial ix =>
        obtain ⟨⟨-, h9⟩, -⟩ := hn
        cases h9
      case invokevirtual ix =>
        obtain ⟨e1, ⟨-, e2⟩ | ⟨h9, -⟩⟩ := hn
        · have e1 := am_nb e1
          subst e1
          obtain ⟨pos, hp⟩ := am_sl e2
          have hlk : Cond.methodLink (am_cn (am_ow mi)) ix yJ0_length_8abf5 ∈ am_uw := am_uw_at (of_decide_eq_true hp) rfl
          obtain ⟨a, r, rfl, hfit, rfl, rfl, rfl⟩ := am_hop1 hst
          have hC : a = 3 := hC
          subst hC
          have hsum := am_fits_sum (g := g) hfit
          rw [e0] at kk
          exact am_scV (As := []) (rest := r.map (am_cv g)) (v := some (.int 102)) ⟨hx, hb, hml, hown, hts⟩ am_m_length am_sk1 (am_uw_at v1 rfl) (am_uw_at v2 rfl) (am_uw_at v12 rfl) hlk ⟨by decide, by decide, by rfl⟩ ⟨rfl, rfl⟩ ⟨by show 1 + 1 ≤ R0.frames; omega, by show 8 + (1 + 11) + 20 ≤ R0.locals; omega⟩ hz hE hS hsize (by omega) hd ⟨hr1, hr2⟩ (kk rfl (am_oks_c (show am_r32 _ from ⟨by decide, by decide⟩) (am_oks_t oks)))
        · cases h9
    | 2, _, hst =>
      cases raw <;> simp only [Bool.and_eq_true, Bool.or_eq_true, Bool.false_eq_true] at hn
      case invokestatic ix =>
        obtain ⟨-, (⟨h9, -⟩ | ⟨h9, -⟩) | ⟨h9, -⟩⟩ := hn <;> cases h9
      case invokespecial ix =>
        obtain ⟨⟨-, h9⟩, -⟩ := hn
        cases h9
      case invokevirtual ix =>
        obtain ⟨e1, ⟨h9, -⟩ | ⟨-, e2⟩⟩ := hn
        · cases h9
        · have e1 := am_nb e1
          subst e1
          obtain ⟨pos, hp⟩ := am_sl e2
          have hlk : Cond.methodLink (am_cn (am_ow mi)) ix yJ0_charAt_5068e ∈ am_uw := am_uw_at (of_decide_eq_true hp) rfl
          obtain ⟨j, a, r, rfl, hfit, rfl, rfl, rfl⟩ := am_hop2 hst
          have hC : a = 3 ∧ 0 ≤ j ∧ j < 102 := hC
          obtain ⟨rfl, c1, c2⟩ := hC
          have hsum := am_fits_sum (g := g) hfit
          obtain ⟨jn, rfl⟩ : ∃ jn : Nat, j = (jn : Int) := ⟨j.toNat, by omega⟩
          have hjn : jn < 102 := by omega
          rw [e0] at kk
          refine am_scV (As := [.int (Int32.ofInt jn)]) (rest := r.map (am_cv g)) (v := some (.int (Int32.ofInt (am_str.getD jn 0)))) ⟨hx, hb, hml, hown, hts⟩ (am_m_charAt hjn) am_sk3 (am_uw_at v5 rfl) (am_uw_at v6 rfl) (am_uw_at v12 rfl) hlk ⟨by decide, by decide, by rfl⟩ ⟨rfl, rfl⟩ ⟨by show 3 + 1 ≤ R0.frames; omega, by show 8 + (2 + 11) + 64 ≤ R0.locals; omega⟩ hz hE hS hsize (by omega) hd ⟨hr1, hr2⟩ (kk rfl (am_oks_c ?_ (am_oks_t (am_oks_t oks))))
          exact am_str_r jn hjn
end AMS
