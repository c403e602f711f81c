/-! the tables are checked (gen211.py) -/
set_option maxRecDepth 100000 in
theorem z_mok_0 : (List.range 12).all (fun j => z_mok (0 + j) && decide (z_pc (0 + j) 0 = 0)) = true := by decide +kernel
set_option maxRecDepth 100000 in
theorem z_mok_1 : (List.range 12).all (fun j => z_mok (12 + j) && decide (z_pc (12 + j) 0 = 0)) = true := by decide +kernel
set_option maxRecDepth 100000 in
theorem z_mok_2 : (List.range 12).all (fun j => z_mok (24 + j) && decide (z_pc (24 + j) 0 = 0)) = true := by decide +kernel
set_option maxRecDepth 100000 in
theorem z_mok_3 : (List.range 12).all (fun j => z_mok (36 + j) && decide (z_pc (36 + j) 0 = 0)) = true := by decide +kernel
set_option maxRecDepth 100000 in
theorem z_mok_4 : (List.range 12).all (fun j => z_mok (48 + j) && decide (z_pc (48 + j) 0 = 0)) = true := by decide +kernel
set_option maxRecDepth 100000 in
theorem z_mok_5 : (List.range 12).all (fun j => z_mok (60 + j) && decide (z_pc (60 + j) 0 = 0)) = true := by decide +kernel
set_option maxRecDepth 100000 in
theorem z_mok_6 : (List.range 12).all (fun j => z_mok (72 + j) && decide (z_pc (72 + j) 0 = 0)) = true := by decide +kernel
set_option maxRecDepth 100000 in
theorem z_mok_7 : (List.range 12).all (fun j => z_mok (84 + j) && decide (z_pc (84 + j) 0 = 0)) = true := by decide +kernel
