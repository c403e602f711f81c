/-! the law's own instructions -/
set_option maxRecDepth 100000 in
theorem z_okl_0 : z_okr 372 0 202 = true := zfr_eq (by decide +kernel)
set_option maxRecDepth 100000 in
theorem z_okl_1 : z_okr 372 202 202 = true := zfr_eq (by decide +kernel)
set_option maxRecDepth 100000 in
theorem z_okl_2 : z_okr 372 404 202 = true := zfr_eq (by decide +kernel)
set_option maxRecDepth 100000 in
theorem z_okl_3 : z_okr 372 606 202 = true := zfr_eq (by decide +kernel)
set_option maxRecDepth 100000 in
theorem z_okl_4 : z_okr 372 808 202 = true := zfr_eq (by decide +kernel)
set_option maxRecDepth 100000 in
theorem z_okl_5 : z_okr 372 1010 202 = true := zfr_eq (by decide +kernel)
set_option maxRecDepth 100000 in
theorem z_okl_6 : z_okr 372 1212 202 = true := zfr_eq (by decide +kernel)
set_option maxRecDepth 100000 in
theorem z_okl_7 : z_okr 372 1414 202 = true := zfr_eq (by decide +kernel)
set_option maxRecDepth 100000 in
theorem z_okl_8 : z_okr 372 1616 202 = true := zfr_eq (by decide +kernel)
set_option maxRecDepth 100000 in
theorem z_okl_9 : z_okr 372 1818 202 = true := zfr_eq (by decide +kernel)
set_option maxRecDepth 100000 in
theorem z_okl_10 : z_okr 372 2020 202 = true := zfr_eq (by decide +kernel)
set_option maxRecDepth 100000 in
theorem z_okl_11 : z_okr 372 2222 202 = true := zfr_eq (by decide +kernel)
