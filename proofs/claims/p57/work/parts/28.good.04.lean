/-! the tables are checked (gen211.py) -/
set_option maxRecDepth 100000 in
theorem z_len_327 : (z_codes.getD 327 []).length = 526 := by decide +kernel
theorem z_okm_327 : z_okm 327 = true := by
  have key : ∀ (lo n i : Nat), z_okr 327 lo n = true → lo ≤ i → i < lo + n → (match z_ins 327 i with
      | some x => decide (x.1 = 99) || z_okb 327 i x
      | none => true) = true := by
    intro lo n i h h1 h2
    have := List.all_eq_true.mp h (i - lo) (List.mem_range.mpr (by omega))
    try dsimp only at this
    rw [show lo + (i - lo) = i by omega] at this
    exact this
  refine List.all_eq_true.mpr fun i hi => ?_
  have hi := List.mem_range.mp hi
  rw [z_len_327] at hi
  rcases Nat.lt_or_ge i 66 with h0 | h0
  · exact key 0 66 i z_okp_327_0 (by omega) (by omega)
  rcases Nat.lt_or_ge i 132 with h1 | h1
  · exact key 66 66 i z_okp_327_1 (by omega) (by omega)
  rcases Nat.lt_or_ge i 198 with h2 | h2
  · exact key 132 66 i z_okp_327_2 (by omega) (by omega)
  rcases Nat.lt_or_ge i 264 with h3 | h3
  · exact key 198 66 i z_okp_327_3 (by omega) (by omega)
  rcases Nat.lt_or_ge i 330 with h4 | h4
  · exact key 264 66 i z_okp_327_4 (by omega) (by omega)
  rcases Nat.lt_or_ge i 396 with h5 | h5
  · exact key 330 66 i z_okp_327_5 (by omega) (by omega)
  rcases Nat.lt_or_ge i 462 with h6 | h6
  · exact key 396 66 i z_okp_327_6 (by omega) (by omega)
  rcases Nat.lt_or_ge i 526 with h7 | h7
  · exact key 462 64 i z_okp_327_7 (by omega) (by omega)
  omega
theorem z_ok_24 : (List.range 1).all (fun j => z_okm (327 + j)) = true := by
  refine List.all_eq_true.mpr fun j hj => ?_
  have hj := List.mem_range.mp hj
  obtain rfl : j = 0 := by omega
  exact z_okm_327
set_option maxRecDepth 100000 in
theorem z_ok_25 : (List.range 2).all (fun j => z_okm (328 + j)) = true := by decide +kernel
set_option maxRecDepth 100000 in
theorem z_ok_26 : (List.range 1).all (fun j => z_okm (330 + j)) = true := by decide +kernel
set_option maxRecDepth 100000 in
theorem z_ok_27 : (List.range 1).all (fun j => z_okm (331 + j)) = true := by decide +kernel
set_option maxRecDepth 100000 in
theorem z_ok_28 : (List.range 1).all (fun j => z_okm (332 + j)) = true := by decide +kernel
set_option maxRecDepth 100000 in
theorem z_ok_29 : (List.range 3).all (fun j => z_okm (333 + j)) = true := by decide +kernel
