/-! the tables are checked -/
set_option maxRecDepth 100000 in
theorem z_okl_14 : z_okr 372 1820 130 = true := by decide +kernel
set_option maxRecDepth 100000 in
theorem z_okl_15 : z_okr 372 1950 130 = true := by decide +kernel
set_option maxRecDepth 100000 in
theorem z_okl_16 : z_okr 372 2080 130 = true := by decide +kernel
set_option maxRecDepth 100000 in
theorem z_okl_17 : z_okr 372 2210 130 = true := by decide +kernel
set_option maxRecDepth 100000 in
theorem z_okl_18 : z_okr 372 2340 84 = true := by decide +kernel
