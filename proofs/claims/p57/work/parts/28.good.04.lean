/-! the tables are checked (gen211.py) -/
set_option maxRecDepth 100000 in
theorem z_ok_24 : (List.range 1).all (fun j => z_okm (327 + j)) = true := by decide +kernel
set_option maxRecDepth 100000 in
theorem z_ok_25 : (List.range 2).all (fun j => z_okm (328 + j)) = true := by decide +kernel
set_option maxRecDepth 100000 in
theorem z_ok_26 : (List.range 1).all (fun j => z_okm (330 + j)) = true := by decide +kernel
set_option maxRecDepth 100000 in
theorem z_ok_27 : (List.range 1).all (fun j => z_okm (331 + j)) = true := by decide +kernel
set_option maxRecDepth 100000 in
theorem z_ok_28 : (List.range 1).all (fun j => z_okm (332 + j)) = true := by decide +kernel
set_option maxRecDepth 100000 in
theorem z_ok_29 : (List.range 3).all (fun j => z_okm (333 + j)) = true := by decide +kernel
