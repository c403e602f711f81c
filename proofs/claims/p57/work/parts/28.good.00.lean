/-! the tables are checked (gen211.py) -/
set_option maxRecDepth 100000 in
theorem z_ok_0 : (List.range 16).all (fun j => z_okm (0 + j)) = true := by decide +kernel
set_option maxRecDepth 100000 in
theorem z_ok_1 : (List.range 10).all (fun j => z_okm (16 + j)) = true := by decide +kernel
set_option maxRecDepth 100000 in
theorem z_ok_2 : (List.range 23).all (fun j => z_okm (26 + j)) = true := by decide +kernel
set_option maxRecDepth 100000 in
theorem z_ok_3 : (List.range 9).all (fun j => z_okm (49 + j)) = true := by decide +kernel
set_option maxRecDepth 100000 in
theorem z_ok_4 : (List.range 7).all (fun j => z_okm (58 + j)) = true := by decide +kernel
set_option maxRecDepth 100000 in
theorem z_ok_5 : (List.range 13).all (fun j => z_okm (65 + j)) = true := by decide +kernel
