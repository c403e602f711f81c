/-! the tables are checked (gen211.py) -/
set_option maxRecDepth 100000 in
theorem z_mok_24 : (List.range 12).all (fun j => z_mok (288 + j) && decide (z_pc (288 + j) 0 = 0)) = true := by decide +kernel
set_option maxRecDepth 100000 in
theorem z_mok_25 : (List.range 12).all (fun j => z_mok (300 + j) && decide (z_pc (300 + j) 0 = 0)) = true := by decide +kernel
set_option maxRecDepth 100000 in
theorem z_mok_26 : (List.range 12).all (fun j => z_mok (312 + j) && decide (z_pc (312 + j) 0 = 0)) = true := by decide +kernel
set_option maxRecDepth 100000 in
theorem z_mok_27 : (List.range 12).all (fun j => z_mok (324 + j) && decide (z_pc (324 + j) 0 = 0)) = true := by decide +kernel
set_option maxRecDepth 100000 in
theorem z_mok_28 : (List.range 2).all (fun j => z_mok (336 + j) && decide (z_pc (336 + j) 0 = 0)) = true := by decide +kernel
