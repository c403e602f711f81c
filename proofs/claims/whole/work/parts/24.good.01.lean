/-! the tables are checked -/
set_option maxRecDepth 100000 in
theorem z_ok_6 : (List.range 20).all (fun j => z_okm (128 + j)) = true := by decide +kernel
set_option maxRecDepth 100000 in
theorem z_ok_7 : (List.range 12).all (fun j => z_okm (148 + j)) = true := by decide +kernel
set_option maxRecDepth 100000 in
theorem z_ok_8 : (List.range 16).all (fun j => z_okm (160 + j)) = true := by decide +kernel
set_option maxRecDepth 100000 in
theorem z_ok_9 : (List.range 27).all (fun j => z_okm (176 + j)) = true := by decide +kernel
set_option maxRecDepth 100000 in
theorem z_ok_10 : (List.range 14).all (fun j => z_okm (203 + j)) = true := by decide +kernel
set_option maxRecDepth 100000 in
theorem z_ok_11 : (List.range 14).all (fun j => z_okm (217 + j)) = true := by decide +kernel
