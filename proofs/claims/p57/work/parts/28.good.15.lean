/-! the tables are checked (gen211.py) -/
set_option maxRecDepth 100000 in
theorem z_mok_40 : (List.range 1).all (fun j => z_mok (337 + j) && decide (z_pc (337 + j) 0 = 0)) = true := by decide +kernel
