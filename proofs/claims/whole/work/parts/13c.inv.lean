/-! CALLS: the three ways -/
section AMI
variable {p : Program} {l : Launch} {e : Env} {R0 : Room} {s : State} {m : MethodId} {args : Array Value} {below : List Frame} {meth : Method} {c : Code} {H : Heap} {locs : List Loc} {cells slots : Nat} {Q : State → Prop} {pc : Nat} {arr : Array Slot} {g : am_G} {ca : Nat → ClassId} {D : va_G} {L : Nat} {xs : Nat → Int32} {mi : Nat}
theorem am_cl4 {ow ix k : Nat} (h : am_any4 am_CL ow ix k = true) : Cond.methodLink (am_cn ow) ix (am_yn k) ∈ am_uw := by
  obtain ⟨q, hq, h2⟩ := List.any_eq_true.mp h
  simp only [Bool.and_eq_true] at h2
  obtain ⟨⟨e1, e2⟩, e3⟩ := h2
  have h3 := List.all_eq_true.mp am_CL_ok q hq
  unfold am_clb at h3
  rw [am_nb e1, am_nb e2, am_nb e3] at h3
  exact am_uw_at (of_decide_eq_true h3) rfl
theorem am_nl4 {ow ix k : Nat} (h : am_any4 am_NL ow ix k = true) (hN : am_nest g s) : (Cond.methodLinkNest (am_cn ow) ix (am_yn k) "PanSlices").before args s = true := by
  obtain ⟨q, hq, h2⟩ := List.any_eq_true.mp h
  simp only [Bool.and_eq_true] at h2
  obtain ⟨⟨e1, e2⟩, e3⟩ := h2
  have h3 := hN.1 q hq
  rw [am_nb e1, am_nb e2, am_nb e3] at h3
  exact va_Nw.use rfl h3
theorem am_fx_moved {U : State} {Hq : Heap} (hvm : s.vm.Alike U.vm) (hF : am_fx g L xs s s.heap) (hS : va_S (am_A g) s.heap H locs) (hU : U.heap = H) : am_fx g L xs U U.heap := by
  obtain ⟨⟨x1, x2, x3⟩, x4, x5⟩ := hF
  have hA : ¬ am_A g g.1 := fun q => absurd x3 (Nat.not_lt.mpr q)
  rw [hU]
  refine ⟨⟨va_X.moved hvm (x1.kept (hS.2.1 _ x2 hA)), Nat.lt_of_lt_of_le x2 hS.1, x3⟩, va_Z.moved hvm (x4.kept hS.2.1), va_T.moved hvm (x5.kept hS.2.1)⟩
theorem am_call {f d : Nat} (hSN : am_SND l g L xs ca D f) (X : am_cx g L xs ca D mi p s m args meth c) (hN : am_nest g s) {ls : am_L} {st : List am_V} {M M1 : am_M} (hll : ls.length = am_ml mi) (Y : am_at g L xs ca D s H locs cells arr ls st M) {raw i : Instr} {len nx y tb : Nat} (hn : am_rn mi pc raw len nx y tb i = true) (hd : decode (am_code mi) pc = .ok (raw, len)) (hc : am_cal i y = some y) (hy : am_mw y) (hlt : y < 335) (hh : am_hd y = none) (hcok : am_cok st y = true) (hrc : am_rcv i y (st.take (am_na y)).reverse M) {v : Option am_V}
    (hex : am_ex f d y 0 (am_pad (am_ml y) (am_ent (st.take (am_na y)).reverse)) [] M = some (.inl v, M1)) (hr1 : cells + (M1.1 - M.1) ≤ R0.cells) (hr2 : slots + (M1.2.1 - M.2.1) ≤ R0.slots) (hr3 : d + 10 ≤ R0.frames) (hr4 : 60 * (d + 10) ≤ R0.locals)
    (kk : ∀ H1 locs1, va_P D am_cl (am_ws g ca M1) H1 → va_S (am_A g) s.heap H1 locs1 → am_okM L xs M1 → (∀ w, v = some w → am_okv M1.1 w) → W p l e R0 s m args below meth c H1 locs1 (cells + (M1.1 - M.1)) (slots + (M1.2.1 - M.2.1)) Q (F0 m nx arr ((v.toList ++ st.drop (am_na y)).map (am_cv g)))) : W p l e R0 s m args below meth c H locs cells slots Q (F0 m pc arr (st.map (am_cv g))) := by
  obtain ⟨⟨hx, hb, hown, hml, hct⟩, hts, hK, hF, ⟨hA9, hA5⟩, hg⟩ := X
  obtain ⟨hP, hS, ok, okl, oks, hl, hcs⟩ := Y
  have h4 : 4 ≤ M.1 := by obtain ⟨m1, sl, sh, I, R⟩ := M; exact ok.1.1
  unfold am_cok at hcok
  simp only [Bool.and_eq_true] at hcok
  obtain ⟨⟨k1, k2⟩, k3⟩ := hcok
  have k1 := Nat.le_of_ble_eq_true k1
  have k2 := Nat.le_of_ble_eq_true k2
  have k3 := Nat.le_of_ble_eq_true k3
  generalize hav : (st.take (am_na y)).reverse = av at hrc hex
  have hst : st = av.reverse ++ st.drop (am_na y) := by rw [← hav, List.reverse_reverse, List.take_append_drop]
  have havl : av.length = am_na y := by rw [← hav, List.length_reverse, List.length_take]; omega
  have oka : am_oks M.1 av := fun w hw => oks w (by rw [hst]; exact List.mem_append_left _ (List.mem_reverse.mpr hw))
  have hsl : (av.map am_cat).sum ≤ am_ml y := by
    rw [← hav, List.map_reverse, List.sum_reverse]
    exact k3
  have hsum : 2 * (F0 m pc arr (st.map (am_cv g))).monitorRoom + (((st.drop (am_na y)).map (am_cv g)).map fun v => v.category).sum ≤ 8 := by
    refine lv_room ?_
    have e1 : ((st.drop (am_na y)).map (am_cv g)).map (fun v => v.category) = (st.drop (am_na y)).map am_cat := by
      rw [List.map_map]
      exact List.map_congr_left (fun v _ => am_cv_cat g v)
    rw [e1]
    exact k2
  have hmet := am_met hSN hy hlt hh ok oka hsl hex
  obtain ⟨hyc, hyb⟩ := hy
  obtain ⟨q, -, hini, hcn, hnh, hpl, hml13, hsk⟩ := am_ylb_inv hyb
  have hG : GoodIn am_uw (am_ycw y :: am_uw) := fun w hw => by
    rcases List.mem_cons.mp hw with rfl | h
    · exact am_uw_good _ hyc
    · exact am_uw_good _ h
  have hini' := hts _ (am_uw_at hini rfl)
  have hRm : (am_rm d (M1.1 - M.1) (M1.2.1 - M.2.1)).frames + 1 ≤ R0.frames ∧ 8 + (am_ml y + 11) + (am_rm d (M1.1 - M.1) (M1.2.1 - M.2.1)).locals ≤ R0.locals := by
    unfold am_rm
    dsimp only
    clear hex hmet
    omega
  have hsize : arr.size = am_ml mi := by rw [hl.1, hll]
  have hS5 : CallFix p m c (am_code mi) (am_ml mi) s args am_uw (am_cn (am_ow mi)) := ⟨hx, hb, hml, hown, hts⟩
  refine am_size hP hS h4 hcs (fun hsz => ?_) hg
  have hPc : ∀ U : State, U.heap = H → s.WarmedH U.vm → am_Pc g L xs ca D av M (av.map (am_cv g)).toArray U := by
    intro U hU hW
    have hvm := hW.alike
    refine ⟨rfl, by rw [hU]; exact hP, va_K.moved hvm hK, am_fx_moved (Hq := H) hvm hF hS hU, ⟨va_AO.moved hvm hA9, va_AO.moved hvm hA5⟩, ⟨fun q hq => va_Nw.warmM hW (hN.1 q hq), am_fz_mv hW hS hU hN.2⟩, by rw [hU]; exact hsz, by rw [hU]; exact Nat.le_trans hg hS.1⟩
  have kk2 : ∀ H1 locs1, va_P D am_cl (am_ws g ca M1) H1 → va_S (am_A g) s.heap H1 locs1 → am_okM L xs M1 → (∀ w, v = some w → am_okv M1.1 w) → W p l e R0 s m args below meth c H1 locs1 (cells + (M1.1 - M.1)) (slots + (M1.2.1 - M.2.1)) Q (F0 m nx arr ((v.map (am_cv g)).toList ++ (st.drop (am_na y)).map (am_cv g))) := by
    intro H1 locs1 q1 q2 q3 q4
    have := kk H1 locs1 q1 q2 q3 q4
    rw [List.map_append] at this
    cases v <;> exact this
  have hstk : st.map (am_cv g) = (av.map (am_cv g)).reverse ++ (st.drop (am_na y)).map (am_cv g) := by
    conv => lhs; rw [hst]
    rw [List.map_append, List.map_reverse]
  unfold am_rn at hn
  simp only [Bool.and_eq_true] at hn
  obtain ⟨e0, hn⟩ := hn
  have e0 := am_nb e0
  cases i <;> simp only [am_cal, reduceCtorEq] at hc
  case invokestatic z =>
    cases raw <;> simp only [Bool.and_eq_true, Bool.false_eq_true] at hn
    rename_i ix
    obtain ⟨⟨e1, e2⟩, e3⟩ := hn
    have e1 := am_nb e1
    subst e1
    rw [am_nb e3] at hsk
    simp only [Bool.and_eq_true, decide_eq_true_eq] at hsk
    rw [e0] at kk2
    exact am_after (va_runS (As := av.map (am_cv g)) (n := am_na y) hS5 hmet ⟨callB_of (am_na y) hts hG rfl rfl rfl hini' (hts _ (am_cl4 e2)) ⟨hnh.1, hnh.2, hsk.2⟩ hRm, hts _ (am_uw_at hsk.1 rfl)⟩ ⟨am_Pc_blind, hPc⟩ rfl (by rw [List.length_map, havl]) hsize hstk hsum hd ⟨hr1, hr2⟩) hS kk2
  case invokevirtual z =>
    cases raw <;> simp only [Bool.and_eq_true, Bool.false_eq_true] at hn
    rename_i ix
    obtain ⟨⟨e1, e2⟩, e3⟩ := hn
    have e1 := am_nb e1
    subst e1
    rw [am_nb e3] at hsk
    simp only [Bool.and_eq_true, decide_eq_true_eq] at hsk
    obtain ⟨⟨⟨w1, w2⟩, w3⟩, w4⟩ := hsk
    rw [e0] at kk2
    match av, hrc, havl, hstk, hmet, hPc with
    | .inr (.inr a) :: As, hrc, havl, hstk, hmet, hPc =>
      obtain ⟨m1, sl, sh, I, R⟩ := M
      have hrc : (sh a).1 = am_ow y := hrc
      obtain ⟨a4, alt⟩ := am_obj ok (a := a) (by omega)
      have he := am_ws_get g ca (m1, sl, sh, I, R) a4 alt
      rw [am_cell_obj hrc (by omega)] at he
      obtain ⟨C0, T0, N0, ty0, hc0, -⟩ := am_cfs (am_ow y) w4
      have hrecv := va_recv hK hP hc0 he
      have hC0 : C0 = (am_yn y).cls := by
        rw [← hcn]
        match am_ow y, w4, hc0 with
        | 0, _, h => cases h; rfl
        | 1, _, h => cases h; rfl
        | 2, _, h => cases h; rfl
        | 3, _, h => cases h; rfl
        | 4, _, h => cases h; rfl
        | 5, _, h => cases h; rfl
        | 6, _, h => cases h; rfl
        | 7, _, h => cases h; rfl
        | 8, _, h => cases h; rfl
        | 9, _, h => cases h; rfl
        | 10, _, h => cases h; rfl
        | 11, _, h => cases h; rfl
        | 12, _, h => cases h; rfl
        | k + 13, w, _ => omega
      have hlen : (parseMethodDescriptor (am_yn y).desc).map (fun d => d.parameters.length) = some As.length := by
        cases hpd : parseMethodDescriptor (am_yn y).desc with
        | none => rw [hpd] at w3; cases w3
        | some dd =>
          rw [hpd] at w3
          have w5 : dd.parameters.length + 1 = am_na y := Option.some.inj w3
          have w6 : As.length + 1 = am_na y := havl
          show some dd.parameters.length = some As.length
          rw [show dd.parameters.length = As.length by omega]
      rw [List.map_cons, am_cvr g a4, List.reverse_cons, List.append_assoc] at hstk
      have hPc2 : ∀ U : State, U.heap = H → s.WarmedH U.vm → am_Pc g L xs ca D (.inr (.inr a) :: As) (m1, sl, sh, I, R) (Value.ref (g.2.2.2 + (a - 4)) :: As.map (am_cv g)).toArray U := by
        intro U hU hW
        have := hPc U hU hW
        rw [List.map_cons, am_cvr g a4] at this
        exact this
      exact am_after (va_runV (As := As.map (am_cv g)) (n := As.length) (C := (am_yn y).cls) (b := g.2.2.2 + (a - 4)) hS5 hmet ⟨callB_of As.length hts hG rfl rfl rfl hini' (hts _ (am_cl4 e2)) ⟨hnh.1, hnh.2, hlen⟩ hRm, hts _ (am_uw_at w1 rfl), hts _ (am_uw_at w2 rfl)⟩ ⟨am_Pc_blind, by rw [← hC0]; exact hrecv, hPc2⟩ rfl (by rw [List.length_map]) hsize hstk hsum hd ⟨hr1, hr2⟩) hS kk2
  case invokespecial z =>
    cases raw <;> simp only [Bool.and_eq_true, Bool.or_eq_true, Bool.false_eq_true] at hn
    rename_i ix
    obtain ⟨⟨e1, e2⟩, e3⟩ := hn
    have e1 := am_nb e1
    subst e1
    rw [am_nb e3] at hsk
    simp only [Bool.and_eq_true, decide_eq_true_eq] at hsk
    obtain ⟨⟨⟨w1, w2⟩, w3⟩, w4⟩ := hsk
    rw [e0] at kk2
    match av, hrc, havl, hstk, hmet, hPc with
    | .inr (.inr a) :: As, hrc, havl, hstk, hmet, hPc =>
      have a4 : 4 ≤ a := hrc
      have hlen : (parseMethodDescriptor (am_yn y).desc).map (fun d => d.parameters.length) = some As.length := by
        cases hpd : parseMethodDescriptor (am_yn y).desc with
        | none => rw [hpd] at w3; cases w3
        | some dd =>
          rw [hpd] at w3
          have w5 : dd.parameters.length + 1 = am_na y := Option.some.inj w3
          have w6 : As.length + 1 = am_na y := havl
          show some dd.parameters.length = some As.length
          rw [show dd.parameters.length = As.length by omega]
      rw [List.map_cons, am_cvr g a4, List.reverse_cons, List.append_assoc] at hstk
      have hPc2 : ∀ U : State, U.heap = H → s.WarmedH U.vm → am_Pc g L xs ca D (.inr (.inr a) :: As) M (Value.ref (g.2.2.2 + (a - 4)) :: As.map (am_cv g)).toArray U := by
        intro U hU hW
        have := hPc U hU hW
        rw [List.map_cons, am_cvr g a4] at this
        exact this
      rcases e2 with e2 | e2
      · exact am_after (va_runI (As := As.map (am_cv g)) (n := As.length) (b := g.2.2.2 + (a - 4)) hS5 hmet ⟨callB_of As.length hts hG (by rw [← w4]) rfl rfl hini' (hts _ (am_cl4 e2)) ⟨hnh.1, hnh.2, hlen⟩ hRm, w2, hts _ (am_uw_at w1 rfl)⟩ ⟨am_Pc_blind, hPc2⟩ rfl (by rw [List.length_map]) hsize hstk hsum hd ⟨hr1, hr2⟩) hS kk2
      · refine am_after (va_runIN (As := As.map (am_cv g)) (n := As.length) (b := g.2.2.2 + (a - 4)) (host := "PanSlices") (bytes := am_code y) (maxL := am_ml y) hS5 hmet ⟨⟨⟨rfl, rfl, hRm.1, hRm.2, pay_in hts hG, by rw [← w4]; exact List.mem_cons_self⟩, by rw [← w4]; exact hts _ hyc, hini', hnh, fun sig h => ?_, am_nl4 e2 hN⟩, w2, hts _ (am_uw_at w1 rfl)⟩ ⟨am_Pc_blind, hPc2⟩ rfl (by rw [List.length_map]) hsize hstk hsum hd ⟨hr1, hr2⟩) hS kk2
        rw [h] at hlen
        exact (Option.some.inj hlen).symm
end AMI
