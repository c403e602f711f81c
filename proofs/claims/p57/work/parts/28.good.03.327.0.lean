/-! the tables are checked (gen211.py) -/
def z_okr (m lo n : Nat) : Bool := (List.range n).all fun i => match z_ins m (lo + i) with
  | some x => decide (x.1 = 99) || z_okb m (lo + i) x
  | none => true
set_option maxRecDepth 100000 in
theorem z_okp_327_0 : z_okr 327 0 66 = true := by decide +kernel
set_option maxRecDepth 100000 in
theorem z_okp_327_1 : z_okr 327 66 66 = true := by decide +kernel
set_option maxRecDepth 100000 in
theorem z_okp_327_2 : z_okr 327 132 66 = true := by decide +kernel
set_option maxRecDepth 100000 in
theorem z_okp_327_3 : z_okr 327 198 66 = true := by decide +kernel
