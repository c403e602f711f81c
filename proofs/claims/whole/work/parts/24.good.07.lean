/-! the tables are checked -/
set_option maxRecDepth 100000 in
theorem z_mok_0 : (List.range 186).all (fun j => z_mok j && decide (z_pc j 0 = 0)) = true := by decide +kernel
set_option maxRecDepth 100000 in
theorem z_mok_1 : (List.range 186).all (fun j => z_mok (186 + j) && decide (z_pc (186 + j) 0 = 0)) = true := by decide +kernel
theorem z_len : z_codes.length = 373 := by decide +kernel
theorem z_len_law : (z_codes.getD 372 []).length = 2424 := by decide +kernel
