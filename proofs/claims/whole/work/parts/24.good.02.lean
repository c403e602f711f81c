/-! the tables are checked -/
set_option maxRecDepth 100000 in
theorem z_ok_12 : (List.range 12).all (fun j => z_okm (231 + j)) = true := by decide +kernel
set_option maxRecDepth 100000 in
theorem z_ok_13 : (List.range 9).all (fun j => z_okm (243 + j)) = true := by decide +kernel
set_option maxRecDepth 100000 in
theorem z_ok_14 : (List.range 9).all (fun j => z_okm (252 + j)) = true := by decide +kernel
set_option maxRecDepth 100000 in
theorem z_ok_15 : (List.range 6).all (fun j => z_okm (261 + j)) = true := by decide +kernel
set_option maxRecDepth 100000 in
theorem z_ok_16 : (List.range 16).all (fun j => z_okm (267 + j)) = true := by decide +kernel
set_option maxRecDepth 100000 in
theorem z_ok_17 : (List.range 11).all (fun j => z_okm (283 + j)) = true := by decide +kernel
