/-! the links stand where the tables say -/
def am_flb (q : Nat × Nat × Nat × Nat × Nat) : Bool := match am_cl[q.2.2.1]? with
  | some r => decide (q.2.2.2.1 < r.2.2) && decide (lw_tbl[q.2.2.2.2]? = some (.fieldLink (am_cn q.1) q.2.1 (r.2.1 q.2.2.2.1).1 (r.2.1 q.2.2.2.1).2.1 (r.2.1 q.2.2.2.1).2.2.1))
  | none => false
set_option maxRecDepth 100000 in
theorem am_FL_ok : am_FL.all am_flb = true := by decide +kernel
def am_klb (q : Nat × Nat × Int × Nat) : Bool := decide (lw_tbl[q.2.2.2]? = some (.constant (am_cn q.1) q.2.1 (Int32.ofInt q.2.2.1))) && decide (-2147483648 ≤ q.2.2.1) && decide (q.2.2.1 < 2147483648)
set_option maxRecDepth 100000 in
theorem am_KL_ok : am_KL.all am_klb = true := by decide +kernel
def am_jlb (q : Nat × Nat × Int × Nat) : Bool := decide (lw_tbl[q.2.2.2]? = some (.constantLong (am_cn q.1) q.2.1 (Int64.ofInt q.2.2.1))) && decide (-2147483648 ≤ q.2.2.1) && decide (q.2.2.1 < 2147483648)
set_option maxRecDepth 100000 in
theorem am_JL_ok : am_JL.all am_jlb = true := by decide +kernel
def am_clb (q : Nat × Nat × Nat × Nat) : Bool := decide (lw_tbl[q.2.2.2]? = some (.methodLink (am_cn q.1) q.2.1 (am_yn q.2.2.1)))
set_option maxRecDepth 100000 in
theorem am_CL_ok : am_CL.all am_clb = true := by decide +kernel
def am_nlb (q : Nat × Nat × Nat × Nat) : Bool := decide (lw_tbl[q.2.2.2]? = some (.methodLinkNest (am_cn q.1) q.2.1 (am_yn q.2.2.1) "PanSlices"))
set_option maxRecDepth 100000 in
theorem am_NL_ok : am_NL.all am_nlb = true := by decide +kernel
def am_zlb (q : Nat × Nat × Nat × Nat) : Bool := match am_cl[q.2.2.1]? with
  | some r => decide (lw_tbl[q.2.2.2]? = some (.classLink (am_cn q.1) q.2.1 r.1))
  | none => false
set_option maxRecDepth 100000 in
theorem am_ZL_ok : am_ZL.all am_zlb = true := by decide +kernel
def am_alb (q : Nat × Nat × Nat × Nat) : Bool := decide (q.2.2.1 = 36 ∧ lw_tbl[q.2.2.2]? = some (.classLink (am_cn q.1) q.2.1 RX9) ∨ q.2.2.1 = 37 ∧ lw_tbl[q.2.2.2]? = some (.classLink (am_cn q.1) q.2.1 RX5))
set_option maxRecDepth 100000 in
theorem am_AL_ok : am_AL.all am_alb = true := by decide +kernel
