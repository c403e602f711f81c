/-! the tables are checked (gen211.py) -/
set_option maxRecDepth 100000 in
theorem z_mok_8 : (List.range 12).all (fun j => z_mok (96 + j) && decide (z_pc (96 + j) 0 = 0)) = true := by decide +kernel
set_option maxRecDepth 100000 in
theorem z_mok_9 : (List.range 12).all (fun j => z_mok (108 + j) && decide (z_pc (108 + j) 0 = 0)) = true := by decide +kernel
set_option maxRecDepth 100000 in
theorem z_mok_10 : (List.range 12).all (fun j => z_mok (120 + j) && decide (z_pc (120 + j) 0 = 0)) = true := by decide +kernel
set_option maxRecDepth 100000 in
theorem z_mok_11 : (List.range 12).all (fun j => z_mok (132 + j) && decide (z_pc (132 + j) 0 = 0)) = true := by decide +kernel
set_option maxRecDepth 100000 in
theorem z_mok_12 : (List.range 12).all (fun j => z_mok (144 + j) && decide (z_pc (144 + j) 0 = 0)) = true := by decide +kernel
set_option maxRecDepth 100000 in
theorem z_mok_13 : (List.range 12).all (fun j => z_mok (156 + j) && decide (z_pc (156 + j) 0 = 0)) = true := by decide +kernel
set_option maxRecDepth 100000 in
theorem z_mok_14 : (List.range 12).all (fun j => z_mok (168 + j) && decide (z_pc (168 + j) 0 = 0)) = true := by decide +kernel
set_option maxRecDepth 100000 in
theorem z_mok_15 : (List.range 12).all (fun j => z_mok (180 + j) && decide (z_pc (180 + j) 0 = 0)) = true := by decide +kernel
