/-! the tables are checked (gen211.py) -/
set_option maxRecDepth 100000 in
theorem z_ok_12 : (List.range 8).all (fun j => z_okm (151 + j)) = true := by decide +kernel
set_option maxRecDepth 100000 in
theorem z_ok_13 : (List.range 6).all (fun j => z_okm (159 + j)) = true := by decide +kernel
set_option maxRecDepth 100000 in
theorem z_ok_14 : (List.range 11).all (fun j => z_okm (165 + j)) = true := by decide +kernel
set_option maxRecDepth 100000 in
theorem z_ok_15 : (List.range 20).all (fun j => z_okm (176 + j)) = true := by decide +kernel
set_option maxRecDepth 100000 in
theorem z_ok_16 : (List.range 8).all (fun j => z_okm (196 + j)) = true := by decide +kernel
set_option maxRecDepth 100000 in
theorem z_ok_17 : (List.range 6).all (fun j => z_okm (204 + j)) = true := by decide +kernel
