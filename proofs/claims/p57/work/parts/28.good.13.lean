/-! the tables are checked (gen211.py) -/
set_option maxRecDepth 100000 in
theorem z_mok_24 : (List.range 12).all (fun j => z_mok (288 + j) && decide (z_pc (288 + j) 0 = 0)) = true := by decide +kernel
set_option maxRecDepth 100000 in
theorem z_mok_25 : (List.range 12).all (fun j => z_mok (300 + j) && decide (z_pc (300 + j) 0 = 0)) = true := by decide +kernel
set_option maxRecDepth 100000 in
theorem z_mok_26 : (List.range 12).all (fun j => z_mok (312 + j) && decide (z_pc (312 + j) 0 = 0)) = true := by decide +kernel
set_option maxRecDepth 100000 in
theorem z_mok_27 : (List.range 1).all (fun j => z_mok (324 + j) && decide (z_pc (324 + j) 0 = 0)) = true := by decide +kernel
set_option maxRecDepth 100000 in
theorem z_at325 : z_at (z_w4 325).1 = some (.code (z_y 325) (z_b 325) (z_ml 325) (z_rt 325)) := rfl
set_option maxRecDepth 100000 in
theorem z_mok_28 : (List.range 1).all (fun j => z_mok (325 + j) && decide (z_pc (325 + j) 0 = 0)) = true := by
  have h1 : z_w (z_w4 325).1 (.code (z_y 325) (z_b 325) (z_ml 325) (z_rt 325)) = true := by
    unfold z_w
    rw [decide_eq_true z_at325, Bool.true_and]
    rfl
  have h2 : (z_tb 325).isEmpty = true := by decide +kernel
  have h3 : z_mok 325 = true := by
    unfold z_mok
    rw [if_pos h2, h1, Bool.true_and]
    decide +kernel
  refine List.all_eq_true.mpr fun j hj => ?_
  have hj := List.mem_range.mp hj
  obtain rfl : j = 0 := by omega
  rw [show 325 + 0 = 325 from rfl, h3, Bool.true_and]
  decide +kernel
set_option maxRecDepth 100000 in
theorem z_mok_29 : (List.range 1).all (fun j => z_mok (326 + j) && decide (z_pc (326 + j) 0 = 0)) = true := by decide +kernel
set_option maxRecDepth 100000 in
theorem z_at327 : z_at (z_w4 327).1 = some (.code (z_y 327) (z_b 327) (z_ml 327) (z_rt 327)) := rfl
set_option maxRecDepth 100000 in
theorem z_mok_30 : (List.range 1).all (fun j => z_mok (327 + j) && decide (z_pc (327 + j) 0 = 0)) = true := by
  have h1 : z_w (z_w4 327).1 (.code (z_y 327) (z_b 327) (z_ml 327) (z_rt 327)) = true := by
    unfold z_w
    rw [decide_eq_true z_at327, Bool.true_and]
    rfl
  have h2 : (z_tb 327).isEmpty = true := by decide +kernel
  have h3 : z_mok 327 = true := by
    unfold z_mok
    rw [if_pos h2, h1, Bool.true_and]
    decide +kernel
  refine List.all_eq_true.mpr fun j hj => ?_
  have hj := List.mem_range.mp hj
  obtain rfl : j = 0 := by omega
  rw [show 327 + 0 = 327 from rfl, h3, Bool.true_and]
  decide +kernel
set_option maxRecDepth 100000 in
theorem z_mok_31 : (List.range 1).all (fun j => z_mok (328 + j) && decide (z_pc (328 + j) 0 = 0)) = true := by decide +kernel
