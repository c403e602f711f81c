/-! the tables are checked (gen211.py) -/
set_option maxRecDepth 100000 in
theorem z_ok_18 : (List.range 27).all (fun j => z_okm (210 + j)) = true := by decide +kernel
set_option maxRecDepth 100000 in
theorem z_ok_19 : (List.range 32).all (fun j => z_okm (237 + j)) = true := by decide +kernel
set_option maxRecDepth 100000 in
theorem z_ok_20 : (List.range 32).all (fun j => z_okm (269 + j)) = true := by decide +kernel
set_option maxRecDepth 100000 in
theorem z_ok_21 : (List.range 24).all (fun j => z_okm (301 + j)) = true := by decide +kernel
set_option maxRecDepth 100000 in
theorem z_ok_22 : (List.range 1).all (fun j => z_okm (325 + j)) = true := by decide +kernel
set_option maxRecDepth 100000 in
theorem z_ok_23 : (List.range 1).all (fun j => z_okm (326 + j)) = true := by decide +kernel
