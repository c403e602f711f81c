/-! the tables are checked (gen211.py) -/
set_option maxRecDepth 100000 in
theorem z_ok_30 : (List.range 1).all (fun j => z_okm (336 + j)) = true := by decide +kernel
set_option maxRecDepth 100000 in
theorem z_ok_31 : (List.range 2).all (fun j => z_okm (337 + j)) = true := by decide +kernel
