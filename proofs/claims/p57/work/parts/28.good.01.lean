/-! the tables are checked (gen211.py) -/
set_option maxRecDepth 100000 in
theorem z_ok_6 : (List.range 13).all (fun j => z_okm (78 + j)) = true := by decide +kernel
set_option maxRecDepth 100000 in
theorem z_ok_7 : (List.range 11).all (fun j => z_okm (91 + j)) = true := by decide +kernel
set_option maxRecDepth 100000 in
theorem z_ok_8 : (List.range 10).all (fun j => z_okm (102 + j)) = true := by decide +kernel
set_option maxRecDepth 100000 in
theorem z_ok_9 : (List.range 15).all (fun j => z_okm (112 + j)) = true := by decide +kernel
set_option maxRecDepth 100000 in
theorem z_ok_10 : (List.range 16).all (fun j => z_okm (127 + j)) = true := by decide +kernel
set_option maxRecDepth 100000 in
theorem z_ok_11 : (List.range 8).all (fun j => z_okm (143 + j)) = true := by decide +kernel
