/-! the tables are checked -/
set_option maxRecDepth 100000 in
theorem z_okl_7 : z_okr 372 910 130 = true := by decide +kernel
set_option maxRecDepth 100000 in
theorem z_okl_8 : z_okr 372 1040 130 = true := by decide +kernel
set_option maxRecDepth 100000 in
theorem z_okl_9 : z_okr 372 1170 130 = true := by decide +kernel
set_option maxRecDepth 100000 in
theorem z_okl_10 : z_okr 372 1300 130 = true := by decide +kernel
set_option maxRecDepth 100000 in
theorem z_okl_11 : z_okr 372 1430 130 = true := by decide +kernel
set_option maxRecDepth 100000 in
theorem z_okl_12 : z_okr 372 1560 130 = true := by decide +kernel
set_option maxRecDepth 100000 in
theorem z_okl_13 : z_okr 372 1690 130 = true := by decide +kernel
