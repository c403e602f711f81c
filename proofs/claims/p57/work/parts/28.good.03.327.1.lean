/-! the tables are checked (gen211.py) -/
set_option maxRecDepth 100000 in
theorem z_okp_327_4 : z_okr 327 264 66 = true := by decide +kernel
set_option maxRecDepth 100000 in
theorem z_okp_327_5 : z_okr 327 330 66 = true := by decide +kernel
set_option maxRecDepth 100000 in
theorem z_okp_327_6 : z_okr 327 396 66 = true := by decide +kernel
set_option maxRecDepth 100000 in
theorem z_okp_327_7 : z_okr 327 462 64 = true := by decide +kernel
