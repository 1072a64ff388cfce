/-! AN INSTRUCTION AND ITS NORMAL FORM -/
def am_any4 (l : List (Nat × Nat × Nat × Nat)) (ow ix k : Nat) : Bool := l.any (fun q => Nat.beq q.1 ow && Nat.beq q.2.1 ix && Nat.beq q.2.2.1 k)
def am_rn (mi pc : Nat) (raw : Instr) (len nx ta tb : Nat) (i : Instr) : Bool := Nat.beq nx (pc + len) && (match i with
  | .iconst n => match raw with
    | .iconst k => decide (k = n) && Nat.beq len 1 && decide (-1 ≤ n) && decide (n ≤ 5)
    | .bipush k => decide (k = n) && Nat.beq len 2 && decide (-128 ≤ n) && decide (n ≤ 127)
    | .sipush k => decide (k = n) && Nat.beq len 3 && decide (-32768 ≤ n) && decide (n ≤ 32767)
    | .ldc ix => Nat.beq len 2 && am_KL.any (fun q => Nat.beq q.1 (am_ow mi) && Nat.beq q.2.1 ix && decide (q.2.2.1 = n))
    | .ldc_w ix => Nat.beq len 3 && am_KL.any (fun q => Nat.beq q.1 (am_ow mi) && Nat.beq q.2.1 ix && decide (q.2.2.1 = n))
    | _ => false
  | .bipush n => match raw with
    | .lconst k => decide (n = (k.val : Nat)) && Nat.beq len 1
    | .ldc2_w ix => Nat.beq len 3 && am_JL.any (fun q => Nat.beq q.1 (am_ow mi) && Nat.beq q.2.1 ix && decide (q.2.2.1 = n))
    | _ => false
  | .iload k => match raw with
    | .iload_n j => Nat.beq j.val k && Nat.beq len 1
    | .iload j => Nat.beq j k && Nat.beq len 2
    | _ => false
  | .lload k => match raw with
    | .lload_n j => Nat.beq j.val k && Nat.beq len 1
    | .lload j => Nat.beq j k && Nat.beq len 2
    | _ => false
  | .aload k => match raw with
    | .aload_n j => Nat.beq j.val k && Nat.beq len 1
    | .aload j => Nat.beq j k && Nat.beq len 2
    | _ => false
  | .istore k => match raw with
    | .istore_n j => Nat.beq j.val k && Nat.beq len 1
    | .istore j => Nat.beq j k && Nat.beq len 2
    | _ => false
  | .lstore k => match raw with
    | .lstore_n j => Nat.beq j.val k && Nat.beq len 1
    | .lstore j => Nat.beq j k && Nat.beq len 2
    | _ => false
  | .astore k => match raw with
    | .astore_n j => Nat.beq j.val k && Nat.beq len 1
    | .astore j => Nat.beq j k && Nat.beq len 2
    | _ => false
  | .iinc k n => decide (raw = .iinc k n) && Nat.beq len 3
  | .goto _ => match raw with
    | .goto off => Nat.beq len 3 && decide ((pc : Int) + off = (ta : Nat))
    | _ => false
  | .ifCond c _ => match raw with
    | .ifCond c' off => decide (c' = c) && Nat.beq len 3 && decide ((pc : Int) + off = (ta : Nat))
    | _ => false
  | .if_icmp c _ => match raw with
    | .if_icmp c' off => decide (c' = c) && Nat.beq len 3 && decide ((pc : Int) + off = (ta : Nat))
    | _ => false
  | .tableswitch d' lo' hi' ts => match raw with
    | .tableswitch d lo hi offs => decide (lo' = lo ∧ hi' = hi ∧ d' = pc + d ∧ 0 ≤ d' ∧ hi - lo < offs.size) && decide (ts.toList = offs.toList.map (fun o => (pc : Int) + o)) && ts.toList.all (fun o => decide (0 ≤ o))
    | _ => false
  | .lookupswitch d' qs => match raw with
    | .lookupswitch d ps => decide (d' = pc + d ∧ 0 ≤ d') && decide (qs.toList = ps.toList.map (fun q => (q.1, (pc : Int) + q.2))) && qs.toList.all (fun q => decide (0 ≤ q.2)) && (ps.toList.zip (ps.toList.drop 1)).all (fun (a, next) => a.1 < next.1)
    | _ => false
  | .getfield _ => match raw with
    | .getfield ix => Nat.beq len 3 && Nat.blt ta 13 && am_FL.any (fun q => Nat.beq q.1 (am_ow mi) && Nat.beq q.2.1 ix && Nat.beq q.2.2.1 ta && Nat.beq q.2.2.2.1 tb)
    | _ => false
  | .putfield _ => match raw with
    | .putfield ix => Nat.beq len 3 && Nat.blt ta 13 && am_FL.any (fun q => Nat.beq q.1 (am_ow mi) && Nat.beq q.2.1 ix && Nat.beq q.2.2.1 ta && Nat.beq q.2.2.2.1 tb) && (match am_cl[ta]? with
      | some r => (r.2.1 tb).2.2.2 == false || (Nat.beq (am_sk mi) 2 && decide ((r.2.1 tb).1 = am_cn (am_ow mi)))
      | none => false)
    | _ => false
  | .new _ => match raw with
    | .new ix => Nat.beq len 3 && Nat.blt ta 13 && am_any4 am_ZL (am_ow mi) ix ta && Nat.beq tb (am_nf ta)
    | _ => false
  | .newarray t => decide (raw = .newarray t) && Nat.beq len 2 && decide (t = .int ∨ t = .byte ∨ t = .boolean ∨ t = .long)
  | .anewarray _ => match raw with
    | .anewarray ix => Nat.beq len 3 && am_any4 am_AL (am_ow mi) ix ta
    | _ => false
  | .getstatic _ => match raw with
    | .getstatic ix => Nat.beq len 3 && am_any4 am_SL (am_ow mi) ix 6
    | _ => false
  | .ldc _ => match raw with
    | .ldc ix => Nat.beq len 2 && am_any4 am_SL (am_ow mi) ix 5
    | _ => false
  | .invokeinterface k _ => match raw with
    | .invokestatic ix => Nat.beq len 3 && ((Nat.beq k 0 && am_any4 am_SL (am_ow mi) ix 0) || (Nat.beq k 4 && am_any4 am_SL (am_ow mi) ix 7) || (Nat.beq k 5 && am_any4 am_SL (am_ow mi) ix 8))
    | .invokevirtual ix => Nat.beq len 3 && ((Nat.beq k 1 && am_any4 am_SL (am_ow mi) ix 1) || (Nat.beq k 2 && am_any4 am_SL (am_ow mi) ix 2))
    | .invokespecial ix => Nat.beq len 3 && Nat.beq k 3 && am_any4 am_SL (am_ow mi) ix 3
    | _ => false
  | .invokestatic _ => match raw with
    | .invokestatic ix => Nat.beq len 3 && am_any4 am_CL (am_ow mi) ix ta && Nat.beq (am_sk ta) 1
    | _ => false
  | .invokevirtual _ => match raw with
    | .invokevirtual ix => Nat.beq len 3 && am_any4 am_CL (am_ow mi) ix ta && Nat.beq (am_sk ta) 0
    | _ => false
  | .invokespecial _ => match raw with
    | .invokespecial ix => Nat.beq len 3 && (am_any4 am_CL (am_ow mi) ix ta || am_any4 am_NL (am_ow mi) ix ta) && Nat.beq (am_sk ta) 2
    | _ => false
  | .athrow => match raw with
    | .new ix => Nat.beq len 3 && am_any4 am_SL (am_ow mi) ix 4
    | _ => false
  | .ireturn => decide (raw = .ireturn) && Nat.beq len 1 && decide (am_rt mi = some .int)
  | .freturn => decide (raw = .ireturn) && Nat.beq len 1 && decide (am_rt mi = some .boolean)
  | .lreturn => decide (raw = .lreturn) && Nat.beq len 1 && decide (am_rt mi = some .long)
  | .return_ => decide (raw = .return_) && Nat.beq len 1 && decide (am_rt mi = none)
  | .caload => decide (raw = .baload) && Nat.beq len 1
  | .castore => decide (raw = .bastore) && Nat.beq len 1
  | j => decide (raw = j) && Nat.beq len 1)
/-- of a class of the worlds: its words, its fields -/
def am_fkb (ci k : Nat) (ty : FieldType) : Bool := match ty with
  | .int => Nat.beq (am_fk ci k) 0
  | .long => Nat.beq (am_fk ci k) 1
  | .boolean => Nat.beq (am_fk ci k) 3
  | .object _ => Nat.beq (am_fk ci k) 2
  | .array _ => Nat.beq (am_fk ci k) 2
  | _ => false
def am_cf (ci : Nat) (C : String) (T : u_T) (N : Nat) (ty : Nat → FieldType) : Prop := am_cl[ci]? = some (C, T, N) ∧ am_nf ci = N ∧ (∀ w ∈ u_ws C T N, w ∈ am_uw) ∧ (∀ k, k < N → parseFieldDescriptor (T k).2.2.1 = some (ty k)) ∧ (∀ a, a < N → ∀ b, b < N → a ≠ b → (T a).2.1 ≠ (T b).2.1) ∧ (∀ k, k < N → am_fkb ci k (ty k) = true) ∧ Cond.instantiable C N ∈ am_uw ∧ Cond.initialized C ∈ am_uw
theorem am_wsin {ws : List Cond} {ps : List Nat} (h : ws.map some = ps.map (fun i => lw_tbl[i]?) ∧ ws.all goodWord = true) : ∀ w ∈ ws, w ∈ am_uw := by
  intro w hw
  have h1 : some w ∈ ps.map (fun i => lw_tbl[i]?) := by rw [← h.1]; exact List.mem_map.mpr ⟨w, hw, rfl⟩
  obtain ⟨i, -, hi⟩ := List.mem_map.mp h1
  exact am_uw_at hi (List.all_eq_true.mp h.2 w hw)
theorem am_cf0 : am_cf 0 RX0 TX0 2 tyX0 := ⟨rfl, rfl, am_wsin am_cw0, tyX0_ok, nmX0, by decide +kernel, am_uw_at am_ci0.1 rfl, am_uw_at am_ci0.2 rfl⟩
theorem am_cf1 : am_cf 1 RX1 TX1 3 tyX1 := ⟨rfl, rfl, am_wsin am_cw1, tyX1_ok, nmX1, by decide +kernel, am_uw_at am_ci1.1 rfl, am_uw_at am_ci1.2 rfl⟩
theorem am_cf2 : am_cf 2 RX2 TX2 3 tyX2 := ⟨rfl, rfl, am_wsin am_cw2, tyX2_ok, nmX2, by decide +kernel, am_uw_at am_ci2.1 rfl, am_uw_at am_ci2.2 rfl⟩
theorem am_cf3 : am_cf 3 RX3 TX3 18 tyX3 := ⟨rfl, rfl, am_wsin am_cw3, tyX3_ok, nmX3, by decide +kernel, am_uw_at am_ci3.1 rfl, am_uw_at am_ci3.2 rfl⟩
theorem am_cf4 : am_cf 4 RX4 TX4 8 tyX4 := ⟨rfl, rfl, am_wsin am_cw4, tyX4_ok, nmX4, by decide +kernel, am_uw_at am_ci4.1 rfl, am_uw_at am_ci4.2 rfl⟩
theorem am_cf5 : am_cf 5 RX5 TX5 2 tyX5 := ⟨rfl, rfl, am_wsin am_cw5, tyX5_ok, nmX5, by decide +kernel, am_uw_at am_ci5.1 rfl, am_uw_at am_ci5.2 rfl⟩
theorem am_cf6 : am_cf 6 RX6 TX6 6 tyX6 := ⟨rfl, rfl, am_wsin am_cw6, tyX6_ok, nmX6, by decide +kernel, am_uw_at am_ci6.1 rfl, am_uw_at am_ci6.2 rfl⟩
theorem am_cf7 : am_cf 7 RX7 TX7 7 tyX7 := ⟨rfl, rfl, am_wsin am_cw7, tyX7_ok, nmX7, by decide +kernel, am_uw_at am_ci7.1 rfl, am_uw_at am_ci7.2 rfl⟩
theorem am_cf8 : am_cf 8 RX8 TX8 13 tyX8 := ⟨rfl, rfl, am_wsin am_cw8, tyX8_ok, nmX8, by decide +kernel, am_uw_at am_ci8.1 rfl, am_uw_at am_ci8.2 rfl⟩
theorem am_cf9 : am_cf 9 RX9 TX9 4 tyX9 := ⟨rfl, rfl, am_wsin am_cw9, tyX9_ok, nmX9, by decide +kernel, am_uw_at am_ci9.1 rfl, am_uw_at am_ci9.2 rfl⟩
theorem am_cf10 : am_cf 10 RX10 TX10 13 tyX10 := ⟨rfl, rfl, am_wsin am_cw10, tyX10_ok, nmX10, by decide +kernel, am_uw_at am_ci10.1 rfl, am_uw_at am_ci10.2 rfl⟩
theorem am_cf11 : am_cf 11 RX11 TX11 18 tyX11 := ⟨rfl, rfl, am_wsin am_cw11, tyX11_ok, nmX11, by decide +kernel, am_uw_at am_ci11.1 rfl, am_uw_at am_ci11.2 rfl⟩
theorem am_cf12 : am_cf 12 RX12 TX12 62 tyX12 := ⟨rfl, rfl, am_wsin am_cw12, tyX12_ok, nmX12, by decide +kernel, am_uw_at am_ci12.1 rfl, am_uw_at am_ci12.2 rfl⟩
theorem am_cfs (ci : Nat) (h : ci < 13) : ∃ C T N ty, am_cf ci C T N ty := by
  match ci, h with
  | 0, _ => exact ⟨_, _, _, _, am_cf0⟩
  | 1, _ => exact ⟨_, _, _, _, am_cf1⟩
  | 2, _ => exact ⟨_, _, _, _, am_cf2⟩
  | 3, _ => exact ⟨_, _, _, _, am_cf3⟩
  | 4, _ => exact ⟨_, _, _, _, am_cf4⟩
  | 5, _ => exact ⟨_, _, _, _, am_cf5⟩
  | 6, _ => exact ⟨_, _, _, _, am_cf6⟩
  | 7, _ => exact ⟨_, _, _, _, am_cf7⟩
  | 8, _ => exact ⟨_, _, _, _, am_cf8⟩
  | 9, _ => exact ⟨_, _, _, _, am_cf9⟩
  | 10, _ => exact ⟨_, _, _, _, am_cf10⟩
  | 11, _ => exact ⟨_, _, _, _, am_cf11⟩
  | 12, _ => exact ⟨_, _, _, _, am_cf12⟩
  | k + 13, h => omega
