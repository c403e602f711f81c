/-! the tables are good -/
theorem z_len : z_codes.length = 373 := by decide +kernel
theorem z_len_law : (z_codes.getD 372 []).length = 2424 := by decide +kernel
/-! the tables are checked -/
theorem z_okm_all : ∀ m, m < 372 → z_okm m = true := by
  intro m hm
  rcases Nat.lt_or_ge m 21 with h0 | h0
  · have := List.all_eq_true.mp z_ok_0 (m - 0) (List.mem_range.mpr (by omega))
    rwa [show 0 + (m - 0) = m by omega] at this
  rcases Nat.lt_or_ge m 51 with h1 | h1
  · have := List.all_eq_true.mp z_ok_1 (m - 21) (List.mem_range.mpr (by omega))
    rwa [show 21 + (m - 21) = m by omega] at this
  rcases Nat.lt_or_ge m 65 with h2 | h2
  · have := List.all_eq_true.mp z_ok_2 (m - 51) (List.mem_range.mpr (by omega))
    rwa [show 51 + (m - 51) = m by omega] at this
  rcases Nat.lt_or_ge m 88 with h3 | h3
  · have := List.all_eq_true.mp z_ok_3 (m - 65) (List.mem_range.mpr (by omega))
    rwa [show 65 + (m - 65) = m by omega] at this
  rcases Nat.lt_or_ge m 107 with h4 | h4
  · have := List.all_eq_true.mp z_ok_4 (m - 88) (List.mem_range.mpr (by omega))
    rwa [show 88 + (m - 88) = m by omega] at this
  rcases Nat.lt_or_ge m 128 with h5 | h5
  · have := List.all_eq_true.mp z_ok_5 (m - 107) (List.mem_range.mpr (by omega))
    rwa [show 107 + (m - 107) = m by omega] at this
  rcases Nat.lt_or_ge m 148 with h6 | h6
  · have := List.all_eq_true.mp z_ok_6 (m - 128) (List.mem_range.mpr (by omega))
    rwa [show 128 + (m - 128) = m by omega] at this
  rcases Nat.lt_or_ge m 160 with h7 | h7
  · have := List.all_eq_true.mp z_ok_7 (m - 148) (List.mem_range.mpr (by omega))
    rwa [show 148 + (m - 148) = m by omega] at this
  rcases Nat.lt_or_ge m 176 with h8 | h8
  · have := List.all_eq_true.mp z_ok_8 (m - 160) (List.mem_range.mpr (by omega))
    rwa [show 160 + (m - 160) = m by omega] at this
  rcases Nat.lt_or_ge m 203 with h9 | h9
  · have := List.all_eq_true.mp z_ok_9 (m - 176) (List.mem_range.mpr (by omega))
    rwa [show 176 + (m - 176) = m by omega] at this
  rcases Nat.lt_or_ge m 217 with h10 | h10
  · have := List.all_eq_true.mp z_ok_10 (m - 203) (List.mem_range.mpr (by omega))
    rwa [show 203 + (m - 203) = m by omega] at this
  rcases Nat.lt_or_ge m 231 with h11 | h11
  · have := List.all_eq_true.mp z_ok_11 (m - 217) (List.mem_range.mpr (by omega))
    rwa [show 217 + (m - 217) = m by omega] at this
  rcases Nat.lt_or_ge m 243 with h12 | h12
  · have := List.all_eq_true.mp z_ok_12 (m - 231) (List.mem_range.mpr (by omega))
    rwa [show 231 + (m - 231) = m by omega] at this
  rcases Nat.lt_or_ge m 252 with h13 | h13
  · have := List.all_eq_true.mp z_ok_13 (m - 243) (List.mem_range.mpr (by omega))
    rwa [show 243 + (m - 243) = m by omega] at this
  rcases Nat.lt_or_ge m 261 with h14 | h14
  · have := List.all_eq_true.mp z_ok_14 (m - 252) (List.mem_range.mpr (by omega))
    rwa [show 252 + (m - 252) = m by omega] at this
  rcases Nat.lt_or_ge m 267 with h15 | h15
  · have := List.all_eq_true.mp z_ok_15 (m - 261) (List.mem_range.mpr (by omega))
    rwa [show 261 + (m - 261) = m by omega] at this
  rcases Nat.lt_or_ge m 283 with h16 | h16
  · have := List.all_eq_true.mp z_ok_16 (m - 267) (List.mem_range.mpr (by omega))
    rwa [show 267 + (m - 267) = m by omega] at this
  rcases Nat.lt_or_ge m 294 with h17 | h17
  · have := List.all_eq_true.mp z_ok_17 (m - 283) (List.mem_range.mpr (by omega))
    rwa [show 283 + (m - 283) = m by omega] at this
  rcases Nat.lt_or_ge m 300 with h18 | h18
  · have := List.all_eq_true.mp z_ok_18 (m - 294) (List.mem_range.mpr (by omega))
    rwa [show 294 + (m - 294) = m by omega] at this
  rcases Nat.lt_or_ge m 311 with h19 | h19
  · have := List.all_eq_true.mp z_ok_19 (m - 300) (List.mem_range.mpr (by omega))
    rwa [show 300 + (m - 300) = m by omega] at this
  rcases Nat.lt_or_ge m 320 with h20 | h20
  · have := List.all_eq_true.mp z_ok_20 (m - 311) (List.mem_range.mpr (by omega))
    rwa [show 311 + (m - 311) = m by omega] at this
  rcases Nat.lt_or_ge m 336 with h21 | h21
  · have := List.all_eq_true.mp z_ok_21 (m - 320) (List.mem_range.mpr (by omega))
    rwa [show 320 + (m - 320) = m by omega] at this
  rcases Nat.lt_or_ge m 362 with h22 | h22
  · have := List.all_eq_true.mp z_ok_22 (m - 336) (List.mem_range.mpr (by omega))
    rwa [show 336 + (m - 336) = m by omega] at this
  rcases Nat.lt_or_ge m 372 with h23 | h23
  · have := List.all_eq_true.mp z_ok_23 (m - 362) (List.mem_range.mpr (by omega))
    rwa [show 362 + (m - 362) = m by omega] at this
  omega
theorem z_okl_all : ∀ i x, z_ins 372 i = some x → x.1 = 99 ∨ z_okb 372 i x = true := by
  intro i x h
  have hl : i < 2424 := by
    have := (List.getElem?_eq_some_iff.mp h).1
    rw [z_len_law] at this
    exact this
  have key : ∀ lo n, z_okr 372 lo n = true → lo ≤ i → i < lo + n → x.1 = 99 ∨ z_okb 372 i x = true := by
    intro lo n hr h1 h2
    have := List.all_eq_true.mp hr (i - lo) (List.mem_range.mpr (by omega))
    try dsimp only at this
    rw [show lo + (i - lo) = i by omega, h] at this
    simpa using this
  rcases Nat.lt_or_ge i 202 with h0 | h0
  · exact key 0 202 z_okl_0 (by omega) (by omega)
  rcases Nat.lt_or_ge i 404 with h1 | h1
  · exact key 202 202 z_okl_1 (by omega) (by omega)
  rcases Nat.lt_or_ge i 606 with h2 | h2
  · exact key 404 202 z_okl_2 (by omega) (by omega)
  rcases Nat.lt_or_ge i 808 with h3 | h3
  · exact key 606 202 z_okl_3 (by omega) (by omega)
  rcases Nat.lt_or_ge i 1010 with h4 | h4
  · exact key 808 202 z_okl_4 (by omega) (by omega)
  rcases Nat.lt_or_ge i 1212 with h5 | h5
  · exact key 1010 202 z_okl_5 (by omega) (by omega)
  rcases Nat.lt_or_ge i 1414 with h6 | h6
  · exact key 1212 202 z_okl_6 (by omega) (by omega)
  rcases Nat.lt_or_ge i 1616 with h7 | h7
  · exact key 1414 202 z_okl_7 (by omega) (by omega)
  rcases Nat.lt_or_ge i 1818 with h8 | h8
  · exact key 1616 202 z_okl_8 (by omega) (by omega)
  rcases Nat.lt_or_ge i 2020 with h9 | h9
  · exact key 1818 202 z_okl_9 (by omega) (by omega)
  rcases Nat.lt_or_ge i 2222 with h10 | h10
  · exact key 2020 202 z_okl_10 (by omega) (by omega)
  rcases Nat.lt_or_ge i 2424 with h11 | h11
  · exact key 2222 202 z_okl_11 (by omega) (by omega)
  omega
theorem z_good : z_Good := by
  refine ⟨fun mi i x h => ?_, fun a ha => ?_⟩
  · rcases Nat.lt_or_ge mi 372 with h1 | h1
    · have h2 := z_okm_all mi h1
      have hl := (List.getElem?_eq_some_iff.mp h).1
      have := List.all_eq_true.mp h2 i (List.mem_range.mpr hl)
      try dsimp only at this
      rw [h] at this
      simpa using this
    · rcases Nat.lt_or_ge mi 373 with h2 | h2
      · have : mi = 372 := by omega
        subst this
        exact z_okl_all i x h
      · exfalso
        have : z_codes[mi]? = none := List.getElem?_eq_none (by rw [z_len]; exact h2)
        unfold z_ins at h
        rw [List.getD_eq_getElem?_getD, this] at h
        simp at h
  · rcases Nat.lt_or_ge a 12 with h0 | h0
    · have := List.all_eq_true.mp z_mok_0 (a - 0) (List.mem_range.mpr (by omega))
      rw [show 0 + (a - 0) = a by omega] at this
      simpa using this
    rcases Nat.lt_or_ge a 24 with h1 | h1
    · have := List.all_eq_true.mp z_mok_1 (a - 12) (List.mem_range.mpr (by omega))
      rw [show 12 + (a - 12) = a by omega] at this
      simpa using this
    rcases Nat.lt_or_ge a 36 with h2 | h2
    · have := List.all_eq_true.mp z_mok_2 (a - 24) (List.mem_range.mpr (by omega))
      rw [show 24 + (a - 24) = a by omega] at this
      simpa using this
    rcases Nat.lt_or_ge a 48 with h3 | h3
    · have := List.all_eq_true.mp z_mok_3 (a - 36) (List.mem_range.mpr (by omega))
      rw [show 36 + (a - 36) = a by omega] at this
      simpa using this
    rcases Nat.lt_or_ge a 60 with h4 | h4
    · have := List.all_eq_true.mp z_mok_4 (a - 48) (List.mem_range.mpr (by omega))
      rw [show 48 + (a - 48) = a by omega] at this
      simpa using this
    rcases Nat.lt_or_ge a 72 with h5 | h5
    · have := List.all_eq_true.mp z_mok_5 (a - 60) (List.mem_range.mpr (by omega))
      rw [show 60 + (a - 60) = a by omega] at this
      simpa using this
    rcases Nat.lt_or_ge a 84 with h6 | h6
    · have := List.all_eq_true.mp z_mok_6 (a - 72) (List.mem_range.mpr (by omega))
      rw [show 72 + (a - 72) = a by omega] at this
      simpa using this
    rcases Nat.lt_or_ge a 96 with h7 | h7
    · have := List.all_eq_true.mp z_mok_7 (a - 84) (List.mem_range.mpr (by omega))
      rw [show 84 + (a - 84) = a by omega] at this
      simpa using this
    rcases Nat.lt_or_ge a 108 with h8 | h8
    · have := List.all_eq_true.mp z_mok_8 (a - 96) (List.mem_range.mpr (by omega))
      rw [show 96 + (a - 96) = a by omega] at this
      simpa using this
    rcases Nat.lt_or_ge a 120 with h9 | h9
    · have := List.all_eq_true.mp z_mok_9 (a - 108) (List.mem_range.mpr (by omega))
      rw [show 108 + (a - 108) = a by omega] at this
      simpa using this
    rcases Nat.lt_or_ge a 132 with h10 | h10
    · have := List.all_eq_true.mp z_mok_10 (a - 120) (List.mem_range.mpr (by omega))
      rw [show 120 + (a - 120) = a by omega] at this
      simpa using this
    rcases Nat.lt_or_ge a 144 with h11 | h11
    · have := List.all_eq_true.mp z_mok_11 (a - 132) (List.mem_range.mpr (by omega))
      rw [show 132 + (a - 132) = a by omega] at this
      simpa using this
    rcases Nat.lt_or_ge a 156 with h12 | h12
    · have := List.all_eq_true.mp z_mok_12 (a - 144) (List.mem_range.mpr (by omega))
      rw [show 144 + (a - 144) = a by omega] at this
      simpa using this
    rcases Nat.lt_or_ge a 168 with h13 | h13
    · have := List.all_eq_true.mp z_mok_13 (a - 156) (List.mem_range.mpr (by omega))
      rw [show 156 + (a - 156) = a by omega] at this
      simpa using this
    rcases Nat.lt_or_ge a 180 with h14 | h14
    · have := List.all_eq_true.mp z_mok_14 (a - 168) (List.mem_range.mpr (by omega))
      rw [show 168 + (a - 168) = a by omega] at this
      simpa using this
    rcases Nat.lt_or_ge a 192 with h15 | h15
    · have := List.all_eq_true.mp z_mok_15 (a - 180) (List.mem_range.mpr (by omega))
      rw [show 180 + (a - 180) = a by omega] at this
      simpa using this
    rcases Nat.lt_or_ge a 204 with h16 | h16
    · have := List.all_eq_true.mp z_mok_16 (a - 192) (List.mem_range.mpr (by omega))
      rw [show 192 + (a - 192) = a by omega] at this
      simpa using this
    rcases Nat.lt_or_ge a 216 with h17 | h17
    · have := List.all_eq_true.mp z_mok_17 (a - 204) (List.mem_range.mpr (by omega))
      rw [show 204 + (a - 204) = a by omega] at this
      simpa using this
    rcases Nat.lt_or_ge a 228 with h18 | h18
    · have := List.all_eq_true.mp z_mok_18 (a - 216) (List.mem_range.mpr (by omega))
      rw [show 216 + (a - 216) = a by omega] at this
      simpa using this
    rcases Nat.lt_or_ge a 240 with h19 | h19
    · have := List.all_eq_true.mp z_mok_19 (a - 228) (List.mem_range.mpr (by omega))
      rw [show 228 + (a - 228) = a by omega] at this
      simpa using this
    rcases Nat.lt_or_ge a 252 with h20 | h20
    · have := List.all_eq_true.mp z_mok_20 (a - 240) (List.mem_range.mpr (by omega))
      rw [show 240 + (a - 240) = a by omega] at this
      simpa using this
    rcases Nat.lt_or_ge a 264 with h21 | h21
    · have := List.all_eq_true.mp z_mok_21 (a - 252) (List.mem_range.mpr (by omega))
      rw [show 252 + (a - 252) = a by omega] at this
      simpa using this
    rcases Nat.lt_or_ge a 276 with h22 | h22
    · have := List.all_eq_true.mp z_mok_22 (a - 264) (List.mem_range.mpr (by omega))
      rw [show 264 + (a - 264) = a by omega] at this
      simpa using this
    rcases Nat.lt_or_ge a 288 with h23 | h23
    · have := List.all_eq_true.mp z_mok_23 (a - 276) (List.mem_range.mpr (by omega))
      rw [show 276 + (a - 276) = a by omega] at this
      simpa using this
    rcases Nat.lt_or_ge a 300 with h24 | h24
    · have := List.all_eq_true.mp z_mok_24 (a - 288) (List.mem_range.mpr (by omega))
      rw [show 288 + (a - 288) = a by omega] at this
      simpa using this
    rcases Nat.lt_or_ge a 312 with h25 | h25
    · have := List.all_eq_true.mp z_mok_25 (a - 300) (List.mem_range.mpr (by omega))
      rw [show 300 + (a - 300) = a by omega] at this
      simpa using this
    rcases Nat.lt_or_ge a 324 with h26 | h26
    · have := List.all_eq_true.mp z_mok_26 (a - 312) (List.mem_range.mpr (by omega))
      rw [show 312 + (a - 312) = a by omega] at this
      simpa using this
    rcases Nat.lt_or_ge a 336 with h27 | h27
    · have := List.all_eq_true.mp z_mok_27 (a - 324) (List.mem_range.mpr (by omega))
      rw [show 324 + (a - 324) = a by omega] at this
      simpa using this
    rcases Nat.lt_or_ge a 348 with h28 | h28
    · have := List.all_eq_true.mp z_mok_28 (a - 336) (List.mem_range.mpr (by omega))
      rw [show 336 + (a - 336) = a by omega] at this
      simpa using this
    rcases Nat.lt_or_ge a 360 with h29 | h29
    · have := List.all_eq_true.mp z_mok_29 (a - 348) (List.mem_range.mpr (by omega))
      rw [show 348 + (a - 348) = a by omega] at this
      simpa using this
    rcases Nat.lt_or_ge a 372 with h30 | h30
    · have := List.all_eq_true.mp z_mok_30 (a - 360) (List.mem_range.mpr (by omega))
      rw [show 360 + (a - 360) = a by omega] at this
      simpa using this
    omega
