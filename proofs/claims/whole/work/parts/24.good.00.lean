/-! the tables are checked -/
set_option maxRecDepth 100000 in
theorem z_ok_0 : (List.range 21).all (fun j => z_okm (0 + j)) = true := by decide +kernel
set_option maxRecDepth 100000 in
theorem z_ok_1 : (List.range 30).all (fun j => z_okm (21 + j)) = true := by decide +kernel
set_option maxRecDepth 100000 in
theorem z_ok_2 : (List.range 14).all (fun j => z_okm (51 + j)) = true := by decide +kernel
set_option maxRecDepth 100000 in
theorem z_ok_3 : (List.range 23).all (fun j => z_okm (65 + j)) = true := by decide +kernel
set_option maxRecDepth 100000 in
theorem z_ok_4 : (List.range 19).all (fun j => z_okm (88 + j)) = true := by decide +kernel
set_option maxRecDepth 100000 in
theorem z_ok_5 : (List.range 21).all (fun j => z_okm (107 + j)) = true := by decide +kernel
