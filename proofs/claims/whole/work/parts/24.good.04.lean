/-! the tables are checked -/
def z_okr (m lo n : Nat) : Bool := (List.range n).all fun i => match z_ins m (lo + i) with
  | some x => decide (x.1 = 99) || z_okb m (lo + i) x
  | none => true
set_option maxRecDepth 100000 in
theorem z_okl_0 : z_okr 372 0 130 = true := by decide +kernel
set_option maxRecDepth 100000 in
theorem z_okl_1 : z_okr 372 130 130 = true := by decide +kernel
set_option maxRecDepth 100000 in
theorem z_okl_2 : z_okr 372 260 130 = true := by decide +kernel
set_option maxRecDepth 100000 in
theorem z_okl_3 : z_okr 372 390 130 = true := by decide +kernel
set_option maxRecDepth 100000 in
theorem z_okl_4 : z_okr 372 520 130 = true := by decide +kernel
set_option maxRecDepth 100000 in
theorem z_okl_5 : z_okr 372 650 130 = true := by decide +kernel
set_option maxRecDepth 100000 in
theorem z_okl_6 : z_okr 372 780 130 = true := by decide +kernel
