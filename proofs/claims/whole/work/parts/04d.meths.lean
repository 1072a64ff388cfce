/-- of each method that is called: its words -/
def am_ylb (mi : Nat) : Bool := match am_YL[mi]? with
  | some q => decide (lw_tbl[q.2.1]? = some (.initialized (am_yn mi).cls)) && decide (am_cn (am_ow mi) = (am_yn mi).cls) && decide ((am_yn mi).cls ≠ "java/lang/invoke/MethodHandle") && decide ((am_yn mi).cls ≠ "java/lang/invoke/VarHandle") && plainName (am_yn mi).cls && decide (am_ml mi ≤ 13) && decide (am_na mi ≤ 6) && (match am_sk mi with
    | 0 => decide (lw_tbl[q.2.2.1]? = some (.instanceMethod (am_yn mi))) && decide (lw_tbl[q.2.2.2]? = some (.selects (am_yn mi).cls (am_yn mi) (am_yn mi))) && decide ((parseMethodDescriptor (am_yn mi).desc).map (fun d => d.parameters.length + 1) = some (am_na mi)) && decide (am_ow mi < 13)
    | 1 => decide (lw_tbl[q.2.2.1]? = some (.static (am_yn mi))) && decide ((parseMethodDescriptor (am_yn mi).desc).map (fun d => d.parameters.length) = some (am_na mi))
    | 2 => decide (lw_tbl[q.2.2.1]? = some (.instanceMethod (am_yn mi))) && decide ((am_yn mi).name = "<init>") && decide ((parseMethodDescriptor (am_yn mi).desc).map (fun d => d.parameters.length + 1) = some (am_na mi)) && decide (am_rt mi = none)
    | _ => false)
  | none => false
abbrev am_ycw (mi : Nat) : Cond := .code (am_yn mi) (am_code mi) (am_ml mi) (am_rt mi)
