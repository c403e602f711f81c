/-! the tables are checked (gen211.py) -/
set_option maxRecDepth 100000 in
theorem z_at329 : z_at (z_w4 329).1 = some (.code (z_y 329) (z_b 329) (z_ml 329) (z_rt 329)) := rfl
set_option maxRecDepth 100000 in
theorem z_mok_32 : (List.range 1).all (fun j => z_mok (329 + j) && decide (z_pc (329 + j) 0 = 0)) = true := by
  have h1 : z_w (z_w4 329).1 (.code (z_y 329) (z_b 329) (z_ml 329) (z_rt 329)) = true := by
    unfold z_w
    rw [decide_eq_true z_at329, Bool.true_and]
    rfl
  have h2 : (z_tb 329).isEmpty = true := by decide +kernel
  have h3 : z_mok 329 = true := by
    unfold z_mok
    rw [if_pos h2, h1, Bool.true_and]
    decide +kernel
  refine List.all_eq_true.mpr fun j hj => ?_
  have hj := List.mem_range.mp hj
  obtain rfl : j = 0 := by omega
  rw [show 329 + 0 = 329 from rfl, h3, Bool.true_and]
  decide +kernel
set_option maxRecDepth 100000 in
theorem z_mok_33 : (List.range 1).all (fun j => z_mok (330 + j) && decide (z_pc (330 + j) 0 = 0)) = true := by decide +kernel
set_option maxRecDepth 100000 in
theorem z_at331 : z_at (z_w4 331).1 = some (.code (z_y 331) (z_b 331) (z_ml 331) (z_rt 331)) := rfl
set_option maxRecDepth 100000 in
theorem z_mok_34 : (List.range 1).all (fun j => z_mok (331 + j) && decide (z_pc (331 + j) 0 = 0)) = true := by
  have h1 : z_w (z_w4 331).1 (.code (z_y 331) (z_b 331) (z_ml 331) (z_rt 331)) = true := by
    unfold z_w
    rw [decide_eq_true z_at331, Bool.true_and]
    rfl
  have h2 : (z_tb 331).isEmpty = true := by decide +kernel
  have h3 : z_mok 331 = true := by
    unfold z_mok
    rw [if_pos h2, h1, Bool.true_and]
    decide +kernel
  refine List.all_eq_true.mpr fun j hj => ?_
  have hj := List.mem_range.mp hj
  obtain rfl : j = 0 := by omega
  rw [show 331 + 0 = 331 from rfl, h3, Bool.true_and]
  decide +kernel
set_option maxRecDepth 100000 in
theorem z_at332 : z_at (z_w4 332).1 = some (.code (z_y 332) (z_b 332) (z_ml 332) (z_rt 332)) := rfl
set_option maxRecDepth 100000 in
theorem z_mok_35 : (List.range 1).all (fun j => z_mok (332 + j) && decide (z_pc (332 + j) 0 = 0)) = true := by
  have h1 : z_w (z_w4 332).1 (.code (z_y 332) (z_b 332) (z_ml 332) (z_rt 332)) = true := by
    unfold z_w
    rw [decide_eq_true z_at332, Bool.true_and]
    rfl
  have h2 : (z_tb 332).isEmpty = true := by decide +kernel
  have h3 : z_mok 332 = true := by
    unfold z_mok
    rw [if_pos h2, h1, Bool.true_and]
    decide +kernel
  refine List.all_eq_true.mpr fun j hj => ?_
  have hj := List.mem_range.mp hj
  obtain rfl : j = 0 := by omega
  rw [show 332 + 0 = 332 from rfl, h3, Bool.true_and]
  decide +kernel
set_option maxRecDepth 100000 in
theorem z_mok_36 : (List.range 1).all (fun j => z_mok (333 + j) && decide (z_pc (333 + j) 0 = 0)) = true := by decide +kernel
set_option maxRecDepth 100000 in
theorem z_mok_37 : (List.range 1).all (fun j => z_mok (334 + j) && decide (z_pc (334 + j) 0 = 0)) = true := by decide +kernel
set_option maxRecDepth 100000 in
theorem z_mok_38 : (List.range 1).all (fun j => z_mok (335 + j) && decide (z_pc (335 + j) 0 = 0)) = true := by decide +kernel
set_option maxRecDepth 100000 in
theorem z_at336 : z_at (z_w4 336).1 = some (.code (z_y 336) (z_b 336) (z_ml 336) (z_rt 336)) := rfl
set_option maxRecDepth 100000 in
theorem z_mok_39 : (List.range 1).all (fun j => z_mok (336 + j) && decide (z_pc (336 + j) 0 = 0)) = true := by
  have h1 : z_w (z_w4 336).1 (.code (z_y 336) (z_b 336) (z_ml 336) (z_rt 336)) = true := by
    unfold z_w
    rw [decide_eq_true z_at336, Bool.true_and]
    rfl
  have h2 : (z_tb 336).isEmpty = true := by decide +kernel
  have h3 : z_mok 336 = true := by
    unfold z_mok
    rw [if_pos h2, h1, Bool.true_and]
    decide +kernel
  refine List.all_eq_true.mpr fun j hj => ?_
  have hj := List.mem_range.mp hj
  obtain rfl : j = 0 := by omega
  rw [show 336 + 0 = 336 from rfl, h3, Bool.true_and]
  decide +kernel
