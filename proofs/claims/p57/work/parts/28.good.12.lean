/-! the tables are checked (gen211.py) -/
set_option maxRecDepth 100000 in
theorem z_mok_16 : (List.range 12).all (fun j => z_mok (192 + j) && decide (z_pc (192 + j) 0 = 0)) = true := by decide +kernel
set_option maxRecDepth 100000 in
theorem z_mok_17 : (List.range 12).all (fun j => z_mok (204 + j) && decide (z_pc (204 + j) 0 = 0)) = true := by decide +kernel
set_option maxRecDepth 100000 in
theorem z_mok_18 : (List.range 12).all (fun j => z_mok (216 + j) && decide (z_pc (216 + j) 0 = 0)) = true := by decide +kernel
set_option maxRecDepth 100000 in
theorem z_mok_19 : (List.range 12).all (fun j => z_mok (228 + j) && decide (z_pc (228 + j) 0 = 0)) = true := by decide +kernel
set_option maxRecDepth 100000 in
theorem z_mok_20 : (List.range 12).all (fun j => z_mok (240 + j) && decide (z_pc (240 + j) 0 = 0)) = true := by decide +kernel
set_option maxRecDepth 100000 in
theorem z_mok_21 : (List.range 12).all (fun j => z_mok (252 + j) && decide (z_pc (252 + j) 0 = 0)) = true := by decide +kernel
set_option maxRecDepth 100000 in
theorem z_mok_22 : (List.range 12).all (fun j => z_mok (264 + j) && decide (z_pc (264 + j) 0 = 0)) = true := by decide +kernel
set_option maxRecDepth 100000 in
theorem z_mok_23 : (List.range 12).all (fun j => z_mok (276 + j) && decide (z_pc (276 + j) 0 = 0)) = true := by decide +kernel
