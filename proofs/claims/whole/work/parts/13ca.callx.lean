/-! CALLS: one that throws, from a method that catches; and a call of a method that catches -/
set_option maxRecDepth 10000 in
theorem am_rl {d R n : Nat} (hn : n ≤ 13) (h : 60 * (d + 10) ≤ R) : 8 + (n + 11) + 60 * (d + 9) ≤ R := by omega
section AMJ
variable {p : Program} {l : Launch} {e : Env} {R0 : Room} {s : State} {m : MethodId} {args : Array Value} {below : List Frame} {meth : Method} {c : Code} {H : Heap} {locs : List Loc} {cells slots : Nat} {Q : State → Prop} {pc : Nat} {arr : Array Slot} {g : am_G} {ca : Nat → ClassId} {D : va_G} {L : Nat} {xs : Nat → Int32} {mi : Nat}
theorem am_callX {f d : Nat} (hl0 : l.stackTraces = false) (hSN : am_SND l g L xs ca D f) (X : am_cx g L xs ca D mi p s m args meth c) (hN : am_nest g s) (hlaw : am_cn (am_ow mi) = "PanSlicesLaw") {x : ExceptionTableEntry} (htab : c.exceptionTable.toList = [x]) (hct13 : x.catchType = 13) (hcov : covers x pc = true) {ls : am_L} {st : List am_V} {M M1 : am_M} (hll : ls.length = am_ml mi) (Y : am_at g L xs ca D s H locs cells arr ls st M) {raw : Instr} {len nx y tb z : Nat} (hn : am_rn mi pc raw len nx y tb (.invokevirtual z) = true) (hd : decode (am_code mi) pc = .ok (raw, len)) (hy : am_mw y) (hlt : y < 335) (hh : am_hd y = none) (hcok : am_cok st y = true) (hrc : am_rcv (.invokevirtual z) y (st.take (am_na y)).reverse M)
    (hex : am_ex f d y 0 (am_pad (am_ml y) (am_ent (st.take (am_na y)).reverse)) [] M = some (.inr (), M1)) (hr1 : cells + (M1.1 - M.1) ≤ R0.cells) (hr2 : slots + (M1.2.1 - M.2.1) ≤ R0.slots) (hr3 : d + 10 ≤ R0.frames) (hr4 : 60 * (d + 10) ≤ R0.locals)
    (kk : ∀ q H1 locs1, va_P D am_cl (am_ws g ca M1) H1 → va_S (am_A g) s.heap H1 locs1 → am_okM L xs M1 → W p l e R0 s m args below meth c H1 locs1 (cells + (M1.1 - M.1)) (slots + (M1.2.1 - M.2.1)) Q (F0 m x.handlerPc arr [.ref q])) : W p l e R0 s m args below meth c H locs cells slots Q (F0 m pc arr (st.map (am_cv g))) := by
  obtain ⟨⟨hx, hb, hown, hml, hct⟩, hts, hK, hF, ⟨hA9, hA5⟩, hg⟩ := X
  obtain ⟨hP, hS, ok, okl, oks, hl, hcs⟩ := Y
  have h4 : 4 ≤ M.1 := by obtain ⟨m1, sl, sh, I, R⟩ := M; exact ok.1.1
  unfold am_cok at hcok
  simp only [Bool.and_eq_true] at hcok
  obtain ⟨⟨k1, k2⟩, k3⟩ := hcok
  have k1 := Nat.le_of_ble_eq_true k1
  have k2 := Nat.le_of_ble_eq_true k2
  have k3 := Nat.le_of_ble_eq_true k3
  generalize hav : (st.take (am_na y)).reverse = av at hrc hex
  have hst : st = av.reverse ++ st.drop (am_na y) := by rw [← hav, List.reverse_reverse, List.take_append_drop]
  have havl : av.length = am_na y := by rw [← hav, List.length_reverse, List.length_take]; omega
  have oka : am_oks M.1 av := fun w hw => oks w (by rw [hst]; exact List.mem_append_left _ (List.mem_reverse.mpr hw))
  have hsl : (av.map am_cat).sum ≤ am_ml y := by
    rw [← hav, List.map_reverse, List.sum_reverse]
    exact k3
  have hsum : 2 * (F0 m pc arr (st.map (am_cv g))).monitorRoom + (((st.drop (am_na y)).map (am_cv g)).map fun v => v.category).sum ≤ 8 := by
    refine lv_room ?_
    have e1 : ((st.drop (am_na y)).map (am_cv g)).map (fun v => v.category) = (st.drop (am_na y)).map am_cat := by
      rw [List.map_map]
      exact List.map_congr_left (fun v _ => am_cv_cat g v)
    rw [e1]
    exact k2
  have hmet := am_metX hl0 hSN hy hlt hh ok oka hsl hex
  obtain ⟨hyc, hyb⟩ := hy
  obtain ⟨q, -, hini, hcn, hnh, hpl, hml13, hsk⟩ := am_ylb_inv hyb
  have hG : GoodIn am_uw (am_ycw y :: am_uw) := fun w hw => by
    rcases List.mem_cons.mp hw with rfl | h
    · exact am_uw_good _ hyc
    · exact am_uw_good _ h
  have hini' := hts _ (am_uw_at hini rfl)
  have hRm : (am_rm d (M1.1 - M.1) (M1.2.1 - M.2.1)).frames + 1 ≤ R0.frames ∧ 8 + (am_ml y + 11) + (am_rm d (M1.1 - M.1) (M1.2.1 - M.2.1)).locals ≤ R0.locals := by
    unfold am_rm
    dsimp only
    clear hex hmet
    omega
  have hsize : arr.size = am_ml mi := by rw [hl.1, hll]
  have hS5 : CallFix p m c (am_code mi) (am_ml mi) s args am_uw (am_cn (am_ow mi)) := ⟨hx, hb, hml, hown, hts⟩
  refine am_size hP hS h4 hcs (fun hsz => ?_) hg
  have hPc : ∀ U : State, U.heap = H → s.WarmedH U.vm → am_Pc g L xs ca D av M (av.map (am_cv g)).toArray U := by
    intro U hU hW
    have hvm := hW.alike
    refine ⟨rfl, by rw [hU]; exact hP, va_K.moved hvm hK, am_fx_moved (Hq := H) hvm hF hS hU, ⟨va_AO.moved hvm hA9, va_AO.moved hvm hA5⟩, ⟨fun q hq => va_Nw.warmM hW (hN.1 q hq), am_fz_mv hW hS hU hN.2⟩, by rw [hU]; exact hsz, by rw [hU]; exact Nat.le_trans hg hS.1⟩
  have hstk : st.map (am_cv g) = (av.map (am_cv g)).reverse ++ (st.drop (am_na y)).map (am_cv g) := by
    conv => lhs; rw [hst]
    rw [List.map_append, List.map_reverse]
  unfold am_rn at hn
  simp only [Bool.and_eq_true] at hn
  obtain ⟨e0, hn⟩ := hn
  have e0 := am_nb e0
  cases raw <;> simp only [Bool.and_eq_true, Bool.false_eq_true] at hn
  rename_i ix
  obtain ⟨⟨e1, e2⟩, e3⟩ := hn
  have e1 := am_nb e1
  subst e1
  rw [am_nb e3] at hsk
  simp only [Bool.and_eq_true, decide_eq_true_eq] at hsk
  obtain ⟨⟨⟨w1, w2⟩, w3⟩, w4⟩ := hsk
  match av, hrc, havl, hstk, hmet, hPc with
  | .inr (.inr a) :: As, hrc, havl, hstk, hmet, hPc =>
    obtain ⟨m1, sl, sh, I, R⟩ := M
    have hrc : (sh a).1 = am_ow y := hrc
    obtain ⟨a4, alt⟩ := am_obj ok (a := a) (by omega)
    have he := am_ws_get g ca (m1, sl, sh, I, R) a4 alt
    rw [am_cell_obj hrc (by omega)] at he
    obtain ⟨C0, T0, N0, ty0, hc0, -⟩ := am_cfs (am_ow y) w4
    have hrecv := va_recv hK hP hc0 he
    have hC0 : C0 = (am_yn y).cls := by
      rw [← hcn]
      match am_ow y, w4, hc0 with
      | 0, _, h => cases h; rfl
      | 1, _, h => cases h; rfl
      | 2, _, h => cases h; rfl
      | 3, _, h => cases h; rfl
      | 4, _, h => cases h; rfl
      | 5, _, h => cases h; rfl
      | 6, _, h => cases h; rfl
      | 7, _, h => cases h; rfl
      | 8, _, h => cases h; rfl
      | 9, _, h => cases h; rfl
      | 10, _, h => cases h; rfl
      | 11, _, h => cases h; rfl
      | 12, _, h => cases h; rfl
      | k + 13, w, _ => omega
    have hlen : (parseMethodDescriptor (am_yn y).desc).map (fun d => d.parameters.length) = some As.length := by
      cases hpd : parseMethodDescriptor (am_yn y).desc with
      | none => rw [hpd] at w3; cases w3
      | some dd =>
        rw [hpd] at w3
        have w5 : dd.parameters.length + 1 = am_na y := Option.some.inj w3
        have w6 : As.length + 1 = am_na y := havl
        show some dd.parameters.length = some As.length
        rw [show dd.parameters.length = As.length by omega]
    rw [List.map_cons, am_cvr g a4, List.reverse_cons, List.append_assoc] at hstk
    have hPc2 : ∀ U : State, U.heap = H → s.WarmedH U.vm → am_Pc g L xs ca D (.inr (.inr a) :: As) (m1, sl, sh, I, R) (Value.ref (g.2.2.2 + (a - 4)) :: As.map (am_cv g)).toArray U := by
      intro U hU hW
      have := hPc U hU hW
      rw [List.map_cons, am_cvr g a4] at this
      exact this
    have hr := vx_runV (p := p) (e := e) (below := below) (meth := meth) (locs := locs) (cells := cells) (slots := slots) (g := F0 m pc arr (st.map (am_cv g))) (As := As.map (am_cv g)) (n := As.length) (C := (am_yn y).cls) (b := g.2.2.2 + (a - 4)) hS5 hmet ⟨callB_of As.length hts hG rfl rfl rfl hini' (hts _ (am_cl4 e2)) ⟨hnh.1, hnh.2, hlen⟩ hRm, hts _ (am_uw_at w1 rfl), hts _ (am_uw_at w2 rfl)⟩ ⟨am_Pc_blind, by rw [← hC0]; exact hrecv, hPc2⟩ rfl (by rw [List.length_map]) hsize hstk hsum hd ⟨hr1, hr2⟩
    intro T hT XX
    rcases hr T hT XX with ⟨v, st₀, t, T', L', h0, X', hL, q1, q2, hq, -⟩ | ⟨q, st₀, t, T', L', E, ce, h0, X', hL, q1, q2, ⟨rfl, hP1, ⟨hz, hk⟩, ok1⟩, hce, hcv, hcl, sts⟩
    · exact hq.elim
    · rw [h0] at hz hk
      obtain ⟨t2, a1, b1⟩ := am_catch (own := "PanSlicesLaw") (name := am_nse) (pc := pc) (ls := arr) (rest := (st.drop (am_na y)).map (am_cv g)) (by rw [← hlaw]; exact hown) x htab hcov (by rw [hct13]; decide) (by rw [hct13]; exact hts _ (am_uw_at am_thr_wk.2.2 rfl)) (by rw [q1]; exact hce) hcv hcl (kk q T'.heap (locs ++ L') (by rw [q1]; exact hP1) ⟨Nat.le_trans hS.1 (by rw [q1]; exact hz), fun q h1 h2 => by rw [q1, hk q (Nat.lt_of_lt_of_le h1 hS.1) h2]; exact hS.2.1 q h1 h2, fun q hq => by
        rcases List.mem_append.mp hq with h | h
        · exact hS.2.2 q h
        · exact hL q h⟩ ok1) T' rfl X'
      exact ⟨t2, sts.trans a1, b1⟩
theorem am_callW {f d : Nat} (hSN : am_SND l g L xs ca D f) (X : am_cx g L xs ca D mi p s m args meth c) (hN : am_nest g s) {ls : am_L} {st : List am_V} {M M1 : am_M} (hll : ls.length = am_ml mi) (Y : am_at g L xs ca D s H locs cells arr ls st M) {raw i : Instr} {len nx y tb : Nat} (hn : am_rn mi pc raw len nx y tb i = true) (hd : decode (am_code mi) pc = .ok (raw, len)) (hc : am_cal i y = some y) (hy1 : 329 ≤ y) (hy2 : y < 334) (hcok : am_cok st y = true) {v : Option am_V}
    (hex : am_ex f d y 0 (am_pad (am_ml y) (am_ent (st.take (am_na y)).reverse)) [] M = some (.inl v, M1)) (hr1 : cells + (M1.1 - M.1) ≤ R0.cells) (hr2 : slots + (M1.2.1 - M.2.1) ≤ R0.slots) (hr3 : d + 10 ≤ R0.frames) (hr4 : 60 * (d + 10) ≤ R0.locals)
    (kk : ∀ H1 locs1, va_P D am_cl (am_ws g ca M1) H1 → va_S (am_A g) s.heap H1 locs1 → am_okM L xs M1 → (∀ w, v = some w → am_okv M1.1 w) → W p l e R0 s m args below meth c H1 locs1 (cells + (M1.1 - M.1)) (slots + (M1.2.1 - M.2.1)) Q (F0 m nx arr ((v.toList ++ st.drop (am_na y)).map (am_cv g)))) : W p l e R0 s m args below meth c H locs cells slots Q (F0 m pc arr (st.map (am_cv g))) := by
  obtain ⟨⟨hx, hb, hown, hml, hct⟩, hts, hK, hF, ⟨hA9, hA5⟩, hg⟩ := X
  obtain ⟨hP, hS, ok, okl, oks, hl, hcs⟩ := Y
  have h4 : 4 ≤ M.1 := by obtain ⟨m1, sl, sh, I, R⟩ := M; exact ok.1.1
  unfold am_cok at hcok
  simp only [Bool.and_eq_true] at hcok
  obtain ⟨⟨k1, k2⟩, k3⟩ := hcok
  have k1 := Nat.le_of_ble_eq_true k1
  have k2 := Nat.le_of_ble_eq_true k2
  have k3 := Nat.le_of_ble_eq_true k3
  generalize hav : (st.take (am_na y)).reverse = av at hex
  have hst : st = av.reverse ++ st.drop (am_na y) := by rw [← hav, List.reverse_reverse, List.take_append_drop]
  have havl : av.length = am_na y := by rw [← hav, List.length_reverse, List.length_take]; omega
  have oka : am_oks M.1 av := fun w hw => oks w (by rw [hst]; exact List.mem_append_left _ (List.mem_reverse.mpr hw))
  have hsl : (av.map am_cat).sum ≤ am_ml y := by
    rw [← hav, List.map_reverse, List.sum_reverse]
    exact k3
  have hsum : 2 * (F0 m pc arr (st.map (am_cv g))).monitorRoom + (((st.drop (am_na y)).map (am_cv g)).map fun v => v.category).sum ≤ 8 := by
    refine lv_room ?_
    have e1 : ((st.drop (am_na y)).map (am_cv g)).map (fun v => v.category) = (st.drop (am_na y)).map am_cat := by
      rw [List.map_map]
      exact List.map_congr_left (fun v _ => am_cv_cat g v)
    rw [e1]
    exact k2
  obtain ⟨hh, x, g1, g2, g3, g4, g5, g6, g7, g8, g9, g10, g11, g12, g13, -⟩ := am_hl hy1 hy2
  have hmet := am_metW hSN hy1 hy2 g1 g2 g3 g4 g5 g9 g10 g11 g13 ok oka hsl hex
  have hG : GoodIn am_uw (Cond.codeWith (am_yn y) (am_code y) (am_ml y) (am_rt y) hh :: am_uw) := fun w hw => by
    rcases List.mem_cons.mp hw with rfl | h
    · exact am_uw_good _ g1
    · exact am_uw_good _ h
  have hsize : arr.size = am_ml mi := by rw [hl.1, hll]
  have hS5 : CallFix p m c (am_code mi) (am_ml mi) s args am_uw (am_cn (am_ow mi)) := ⟨hx, hb, hml, hown, hts⟩
  refine am_size hP hS h4 hcs (fun hsz => ?_) hg
  have hPc : ∀ U : State, U.heap = H → s.WarmedH U.vm → am_Pc g L xs ca D av M (av.map (am_cv g)).toArray U := by
    intro U hU hW
    have hvm := hW.alike
    refine ⟨rfl, by rw [hU]; exact hP, va_K.moved hvm hK, am_fx_moved (Hq := H) hvm hF hS hU, ⟨va_AO.moved hvm hA9, va_AO.moved hvm hA5⟩, ⟨fun q hq => va_Nw.warmM hW (hN.1 q hq), am_fz_mv hW hS hU hN.2⟩, by rw [hU]; exact hsz, by rw [hU]; exact Nat.le_trans hg hS.1⟩
  have kk2 : ∀ H1 locs1, va_P D am_cl (am_ws g ca M1) H1 → va_S (am_A g) s.heap H1 locs1 → am_okM L xs M1 → (∀ w, v = some w → am_okv M1.1 w) → W p l e R0 s m args below meth c H1 locs1 (cells + (M1.1 - M.1)) (slots + (M1.2.1 - M.2.1)) Q (F0 m nx arr ((v.map (am_cv g)).toList ++ (st.drop (am_na y)).map (am_cv g))) := by
    intro H1 locs1 q1 q2 q3 q4
    have := kk H1 locs1 q1 q2 q3 q4
    rw [List.map_append] at this
    cases v <;> exact this
  have hstk : st.map (am_cv g) = (av.map (am_cv g)).reverse ++ (st.drop (am_na y)).map (am_cv g) := by
    conv => lhs; rw [hst]
    rw [List.map_append, List.map_reverse]
  unfold am_rn at hn
  simp only [Bool.and_eq_true] at hn
  obtain ⟨e0, hn⟩ := hn
  have e0 := am_nb e0
  obtain ⟨-, hc⟩ := am_cal_inv hc
  rcases hc with ⟨z, rfl⟩ | ⟨z, rfl⟩ | ⟨z, rfl⟩
  · cases raw <;> simp only [Bool.and_eq_true, Bool.false_eq_true] at hn
    rename_i ix
    obtain ⟨⟨e1, e2⟩, e3⟩ := hn
    have e1 := am_nb e1
    subst e1
    rw [e0] at kk2
    refine am_after (vx_runSW (hh := hh) (bytes := am_code y) (maxL := am_ml y) (ret := am_rt y) (As := av.map (am_cv g)) (n := am_na y) hS5 hmet ⟨⟨rfl, rfl, ?_, ?_, pay_in hts hG, List.mem_cons_self⟩, hts _ g1, hts _ g7, ⟨g8.1, g8.2.1⟩, ?_, hts _ (am_cl4 e2), hts _ g6⟩ ⟨am_Pc_blind, hPc⟩ rfl (by rw [List.length_map, havl]) hsize hstk hsum hd ⟨hr1, hr2⟩) hS kk2
    · exact hr3
    · exact am_rl (by rw [g12]; decide) hr4
    · intro sig h9
      have h8 := g8.2.2
      rw [h9] at h8
      exact (Option.some.inj h8).symm
  · cases raw <;> simp only [Bool.and_eq_true, Bool.false_eq_true] at hn
    have := am_nb hn.2
    rw [g11] at this
    cases this
  · cases raw <;> simp only [Bool.and_eq_true, Bool.false_eq_true] at hn
    have := am_nb hn.2
    rw [g11] at this
    cases this
end AMJ
