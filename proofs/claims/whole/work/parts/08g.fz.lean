/-! WHAT THE START GIVES BESIDES: the String constant, and what a throw needs -/
def am_tx : String := "pan   rest  cold  burn  slice guest sort  once  top   under goes  ends  not   done  after and   or    "
def am_bs : List Int32 := am_str.map Int32.ofInt
abbrev am_nse : String := "java/util/NoSuchElementException"
def am_dcl : List MethodName := [Bundle.init0 "java/lang/RuntimeException", Bundle.init0 "java/lang/Exception", Bundle.init0 Bundle.tN]
def am_fz (g : am_G) (U : State) (H : Heap) : Prop :=
  (vk_R "PanSlices$Tape" 19 am_tx g.2.2.1 U ∧ (∃ aV : Nat, vk_S 1 [102] [am_bs] (fun _ => g.2.2.1) (fun _ => aV) (am_A g) U H) ∧ va_Z "java/lang/String" "COMPACT_STRINGS" "Z" (.int 1) (am_A g) U H ∧ va_Zq "jdk/internal/util/Preconditions" "SIOOBE_FORMATTER" "Ljava/util/function/BiFunction;" (am_A g) U H) ∧
  (va_Nw (.castable am_nse am_nse) U ∧ ∀ x ∈ am_dcl, va_Nw (.declares x) U) ∧ vx_Zq Bundle.tN "UNASSIGNED_STACK" Bundle.steD (am_A g) U H ∧ vx_Zq Bundle.tN "SUPPRESSED_SENTINEL" Bundle.listD (am_A g) U H
theorem am_fz_mv {g : am_G} {s U : State} {H : Heap} {locs : List Loc} (hW : s.WarmedH U.vm) (hS : va_S (am_A g) s.heap H locs) (hU : U.heap = H) (h : am_fz g s s.heap) : am_fz g U U.heap := by
  obtain ⟨⟨h1, ⟨aV, h2⟩, h3, h4⟩, h5, h6, h7⟩ := h
  have hA := hW.alike
  rw [hU]
  exact ⟨⟨vk_R.warm hW h1, ⟨aV, vk_S.moved hA (h2.kept hS.2.1)⟩, va_Z.moved hA (h3.kept hS.2.1), va_Zq.moved hA (h4.kept hS.2.1)⟩, ⟨va_Nw.warmC hW h5.1, fun x hx => va_Nw.warmD hW (h5.2 x hx)⟩, vx_Zq.moved hA (h6.kept hS.2.1), vx_Zq.moved hA (h7.kept hS.2.1)⟩
theorem am_fz_cl {g : am_G} {U : State} {gf : JFrame} {mk : MethodId} {a : Array Value} (h : am_fz g U U.heap) : am_fz g (U.calling gf mk a) (U.calling gf mk a).heap := by
  obtain ⟨⟨h1, ⟨aV, h2⟩, h3, h4⟩, h5, h6, h7⟩ := h
  have hA : U.vm.Alike (U.calling gf mk a).vm := Vm.Alike.refl U.vm
  exact ⟨⟨vk_R.same rfl h1, ⟨aV, vk_S.moved hA h2⟩, va_Z.moved hA h3, va_Zq.moved hA h4⟩, ⟨va_Nw.same rfl rfl h5.1, fun x hx => va_Nw.same rfl rfl (h5.2 x hx)⟩, vx_Zq.moved hA h6, vx_Zq.moved hA h7⟩
/-! the words of a throw -/
def am_pw (w : Cond) : Bool := match w with
  | .isRef _ => false
  | .laysStatic _ _ _ => false
  | .castable _ _ => false
  | .declares _ => false
  | _ => true
abbrev am_thr : List Cond := Bundle.ownAtoms0 "PanSlices" 180 am_nse ["java/lang/RuntimeException", "java/lang/Exception"]
set_option maxRecDepth 100000 in
theorem am_thr_rest : ∀ w ∈ am_thr, am_pw w = false → (w = .castable am_nse am_nse ∨ ∃ x ∈ am_dcl, w = .declares x) ∨ w = .isRef (.static Bundle.tN "UNASSIGNED_STACK" Bundle.steD) ∨ w = .isRef (.static Bundle.tN "SUPPRESSED_SENTINEL" Bundle.listD) ∨ w = .laysStatic Bundle.tN "UNASSIGNED_STACK" Bundle.steD ∨ w = .laysStatic Bundle.tN "SUPPRESSED_SENTINEL" Bundle.listD := by decide +kernel
set_option maxRecDepth 100000 in
theorem am_thr_good : (am_thr.filter am_pw).all goodWord = true := by decide +kernel
set_option maxRecDepth 100000 in
theorem am_thr_at : (am_thr.filter am_pw).map some = ([158, 1464, 1473, 1475, 1478, 1480, 1465, 1466, 171, 172, 1467, 1472, 1476, 1492, 1454, 1493, 1456, 1494, 1458, 1468, 1470, 1460, 1482, 1483, 1484, 1485, 1485, 1486, 1487, 1488, 1488, 1489, 1490, 1465, 1481, 1443, 1451, 1452, 1453, 1455, 1457, 1459, 1463, 1462, 1461] : List Nat).map (fun i => lw_tbl[i]?) := by rfl
theorem am_thr_in {w : Cond} (hw : w ∈ am_thr) (hp : am_pw w = true) : w ∈ am_uw := by
  have h1 : w ∈ am_thr.filter am_pw := List.mem_filter.mpr ⟨hw, hp⟩
  have h2 : some w ∈ (am_thr.filter am_pw).map some := List.mem_map.mpr ⟨w, h1, rfl⟩
  rw [am_thr_at] at h2
  obtain ⟨i, -, hi⟩ := List.mem_map.mp h2
  exact am_uw_at hi (List.all_eq_true.mp am_thr_good w h1)
theorem am_thr_no : vx_no (.isRef (.static Bundle.tN "UNASSIGNED_STACK" Bundle.steD)) = false ∧ vx_no (.isRef (.static Bundle.tN "SUPPRESSED_SENTINEL" Bundle.listD)) = false ∧ vx_no (.laysStatic Bundle.tN "UNASSIGNED_STACK" Bundle.steD) = false ∧ vx_no (.laysStatic Bundle.tN "SUPPRESSED_SENTINEL" Bundle.listD) = false := by decide +kernel
theorem am_thr_ot : vx_ot (.castable am_nse am_nse) = true ∧ (∀ x : MethodName, vx_ot (.declares x) = true) ∧ vx_ot (.classLink "PanSlices" 178 am_nse) = true ∧ vx_ot (.initialized am_nse) = true := ⟨rfl, fun _ => rfl, rfl, rfl⟩
/-- the words of a throw hold, and are such as stay -/
theorem am_thr_hat {g : am_G} {s : State} {args : Array Value} (hts : ∀ w ∈ am_uw, w.before args s = true) (hz : am_fz g s s.heap) : ∀ w ∈ vx_at0 "PanSlices" 180 am_nse ["java/lang/RuntimeException", "java/lang/Exception"], w.before args s = true ∧ vx_ot w = true := by
  intro w hw
  obtain ⟨h1, h2⟩ := List.mem_filter.mp hw
  obtain ⟨n1, n2, n3, n4⟩ := am_thr_no
  obtain ⟨o1, o2, -, -⟩ := am_thr_ot
  cases hp : am_pw w with
  | true =>
    have h3 := am_thr_in h1 hp
    refine ⟨hts _ h3, ?_⟩
    unfold vx_ot
    rw [(List.mem_filter.mp h3).2, Bool.or_true]
  | false =>
    rcases am_thr_rest w h1 hp with (rfl | ⟨x, hx, rfl⟩) | rfl | rfl | rfl | rfl
    · exact ⟨va_Nw.use rfl hz.2.1.1, o1⟩
    · exact ⟨va_Nw.use rfl (hz.2.1.2 x hx), o2 x⟩
    · rw [n1] at h2; cases h2
    · rw [n2] at h2; cases h2
    · rw [n3] at h2; cases h2
    · rw [n4] at h2; cases h2
