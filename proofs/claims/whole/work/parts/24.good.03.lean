/-! the tables are checked -/
set_option maxRecDepth 100000 in
theorem z_ok_18 : (List.range 6).all (fun j => z_okm (294 + j)) = true := by decide +kernel
set_option maxRecDepth 100000 in
theorem z_ok_19 : (List.range 11).all (fun j => z_okm (300 + j)) = true := by decide +kernel
set_option maxRecDepth 100000 in
theorem z_ok_20 : (List.range 9).all (fun j => z_okm (311 + j)) = true := by decide +kernel
set_option maxRecDepth 100000 in
theorem z_ok_21 : (List.range 16).all (fun j => z_okm (320 + j)) = true := by decide +kernel
set_option maxRecDepth 100000 in
theorem z_ok_22 : (List.range 26).all (fun j => z_okm (336 + j)) = true := by decide +kernel
set_option maxRecDepth 100000 in
theorem z_ok_23 : (List.range 10).all (fun j => z_okm (362 + j)) = true := by decide +kernel
