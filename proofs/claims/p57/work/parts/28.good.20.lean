/-! the tables are checked (gen211.py) -/
theorem z_len : z_codes.length = 339 := by decide +kernel
theorem z_okm_all : ∀ m, m < 339 → z_okm m = true := by
  intro m hm
  rcases Nat.lt_or_ge m 16 with h0 | h0
  · have := List.all_eq_true.mp z_ok_0 (m - 0) (List.mem_range.mpr (by omega))
    rwa [show 0 + (m - 0) = m by omega] at this
  rcases Nat.lt_or_ge m 26 with h1 | h1
  · have := List.all_eq_true.mp z_ok_1 (m - 16) (List.mem_range.mpr (by omega))
    rwa [show 16 + (m - 16) = m by omega] at this
  rcases Nat.lt_or_ge m 49 with h2 | h2
  · have := List.all_eq_true.mp z_ok_2 (m - 26) (List.mem_range.mpr (by omega))
    rwa [show 26 + (m - 26) = m by omega] at this
  rcases Nat.lt_or_ge m 58 with h3 | h3
  · have := List.all_eq_true.mp z_ok_3 (m - 49) (List.mem_range.mpr (by omega))
    rwa [show 49 + (m - 49) = m by omega] at this
  rcases Nat.lt_or_ge m 65 with h4 | h4
  · have := List.all_eq_true.mp z_ok_4 (m - 58) (List.mem_range.mpr (by omega))
    rwa [show 58 + (m - 58) = m by omega] at this
  rcases Nat.lt_or_ge m 78 with h5 | h5
  · have := List.all_eq_true.mp z_ok_5 (m - 65) (List.mem_range.mpr (by omega))
    rwa [show 65 + (m - 65) = m by omega] at this
  rcases Nat.lt_or_ge m 91 with h6 | h6
  · have := List.all_eq_true.mp z_ok_6 (m - 78) (List.mem_range.mpr (by omega))
    rwa [show 78 + (m - 78) = m by omega] at this
  rcases Nat.lt_or_ge m 102 with h7 | h7
  · have := List.all_eq_true.mp z_ok_7 (m - 91) (List.mem_range.mpr (by omega))
    rwa [show 91 + (m - 91) = m by omega] at this
  rcases Nat.lt_or_ge m 112 with h8 | h8
  · have := List.all_eq_true.mp z_ok_8 (m - 102) (List.mem_range.mpr (by omega))
    rwa [show 102 + (m - 102) = m by omega] at this
  rcases Nat.lt_or_ge m 127 with h9 | h9
  · have := List.all_eq_true.mp z_ok_9 (m - 112) (List.mem_range.mpr (by omega))
    rwa [show 112 + (m - 112) = m by omega] at this
  rcases Nat.lt_or_ge m 143 with h10 | h10
  · have := List.all_eq_true.mp z_ok_10 (m - 127) (List.mem_range.mpr (by omega))
    rwa [show 127 + (m - 127) = m by omega] at this
  rcases Nat.lt_or_ge m 151 with h11 | h11
  · have := List.all_eq_true.mp z_ok_11 (m - 143) (List.mem_range.mpr (by omega))
    rwa [show 143 + (m - 143) = m by omega] at this
  rcases Nat.lt_or_ge m 159 with h12 | h12
  · have := List.all_eq_true.mp z_ok_12 (m - 151) (List.mem_range.mpr (by omega))
    rwa [show 151 + (m - 151) = m by omega] at this
  rcases Nat.lt_or_ge m 165 with h13 | h13
  · have := List.all_eq_true.mp z_ok_13 (m - 159) (List.mem_range.mpr (by omega))
    rwa [show 159 + (m - 159) = m by omega] at this
  rcases Nat.lt_or_ge m 176 with h14 | h14
  · have := List.all_eq_true.mp z_ok_14 (m - 165) (List.mem_range.mpr (by omega))
    rwa [show 165 + (m - 165) = m by omega] at this
  rcases Nat.lt_or_ge m 196 with h15 | h15
  · have := List.all_eq_true.mp z_ok_15 (m - 176) (List.mem_range.mpr (by omega))
    rwa [show 176 + (m - 176) = m by omega] at this
  rcases Nat.lt_or_ge m 204 with h16 | h16
  · have := List.all_eq_true.mp z_ok_16 (m - 196) (List.mem_range.mpr (by omega))
    rwa [show 196 + (m - 196) = m by omega] at this
  rcases Nat.lt_or_ge m 210 with h17 | h17
  · have := List.all_eq_true.mp z_ok_17 (m - 204) (List.mem_range.mpr (by omega))
    rwa [show 204 + (m - 204) = m by omega] at this
  rcases Nat.lt_or_ge m 237 with h18 | h18
  · have := List.all_eq_true.mp z_ok_18 (m - 210) (List.mem_range.mpr (by omega))
    rwa [show 210 + (m - 210) = m by omega] at this
  rcases Nat.lt_or_ge m 269 with h19 | h19
  · have := List.all_eq_true.mp z_ok_19 (m - 237) (List.mem_range.mpr (by omega))
    rwa [show 237 + (m - 237) = m by omega] at this
  rcases Nat.lt_or_ge m 301 with h20 | h20
  · have := List.all_eq_true.mp z_ok_20 (m - 269) (List.mem_range.mpr (by omega))
    rwa [show 269 + (m - 269) = m by omega] at this
  rcases Nat.lt_or_ge m 325 with h21 | h21
  · have := List.all_eq_true.mp z_ok_21 (m - 301) (List.mem_range.mpr (by omega))
    rwa [show 301 + (m - 301) = m by omega] at this
  rcases Nat.lt_or_ge m 326 with h22 | h22
  · have := List.all_eq_true.mp z_ok_22 (m - 325) (List.mem_range.mpr (by omega))
    rwa [show 325 + (m - 325) = m by omega] at this
  rcases Nat.lt_or_ge m 327 with h23 | h23
  · have := List.all_eq_true.mp z_ok_23 (m - 326) (List.mem_range.mpr (by omega))
    rwa [show 326 + (m - 326) = m by omega] at this
  rcases Nat.lt_or_ge m 328 with h24 | h24
  · have := List.all_eq_true.mp z_ok_24 (m - 327) (List.mem_range.mpr (by omega))
    rwa [show 327 + (m - 327) = m by omega] at this
  rcases Nat.lt_or_ge m 330 with h25 | h25
  · have := List.all_eq_true.mp z_ok_25 (m - 328) (List.mem_range.mpr (by omega))
    rwa [show 328 + (m - 328) = m by omega] at this
  rcases Nat.lt_or_ge m 331 with h26 | h26
  · have := List.all_eq_true.mp z_ok_26 (m - 330) (List.mem_range.mpr (by omega))
    rwa [show 330 + (m - 330) = m by omega] at this
  rcases Nat.lt_or_ge m 332 with h27 | h27
  · have := List.all_eq_true.mp z_ok_27 (m - 331) (List.mem_range.mpr (by omega))
    rwa [show 331 + (m - 331) = m by omega] at this
  rcases Nat.lt_or_ge m 333 with h28 | h28
  · have := List.all_eq_true.mp z_ok_28 (m - 332) (List.mem_range.mpr (by omega))
    rwa [show 332 + (m - 332) = m by omega] at this
  rcases Nat.lt_or_ge m 336 with h29 | h29
  · have := List.all_eq_true.mp z_ok_29 (m - 333) (List.mem_range.mpr (by omega))
    rwa [show 333 + (m - 333) = m by omega] at this
  rcases Nat.lt_or_ge m 337 with h30 | h30
  · have := List.all_eq_true.mp z_ok_30 (m - 336) (List.mem_range.mpr (by omega))
    rwa [show 336 + (m - 336) = m by omega] at this
  rcases Nat.lt_or_ge m 339 with h31 | h31
  · have := List.all_eq_true.mp z_ok_31 (m - 337) (List.mem_range.mpr (by omega))
    rwa [show 337 + (m - 337) = m by omega] at this
  omega
theorem z_good : z_Good := by
  refine ⟨fun mi i x h => ?_, fun a ha => ?_⟩
  · rcases Nat.lt_or_ge mi 339 with h1 | h1
    · have h2 := z_okm_all mi h1
      have hl := (List.getElem?_eq_some_iff.mp h).1
      have := List.all_eq_true.mp h2 i (List.mem_range.mpr hl)
      try dsimp only at this
      rw [h] at this
      simpa using this
    · exfalso
      have : z_codes[mi]? = none := List.getElem?_eq_none (by rw [z_len]; exact h1)
      unfold z_ins at h
      rw [List.getD_eq_getElem?_getD, this] at h
      simp at h
  · rcases Nat.lt_or_ge a 12 with h0 | h0
    · have := List.all_eq_true.mp z_mok_0 (a - 0) (List.mem_range.mpr (by omega))
      rw [show 0 + (a - 0) = a by omega] at this
      simpa using this
    rcases Nat.lt_or_ge a 24 with h1 | h1
    · have := List.all_eq_true.mp z_mok_1 (a - 12) (List.mem_range.mpr (by omega))
      rw [show 12 + (a - 12) = a by omega] at this
      simpa using this
    rcases Nat.lt_or_ge a 36 with h2 | h2
    · have := List.all_eq_true.mp z_mok_2 (a - 24) (List.mem_range.mpr (by omega))
      rw [show 24 + (a - 24) = a by omega] at this
      simpa using this
    rcases Nat.lt_or_ge a 48 with h3 | h3
    · have := List.all_eq_true.mp z_mok_3 (a - 36) (List.mem_range.mpr (by omega))
      rw [show 36 + (a - 36) = a by omega] at this
      simpa using this
    rcases Nat.lt_or_ge a 60 with h4 | h4
    · have := List.all_eq_true.mp z_mok_4 (a - 48) (List.mem_range.mpr (by omega))
      rw [show 48 + (a - 48) = a by omega] at this
      simpa using this
    rcases Nat.lt_or_ge a 72 with h5 | h5
    · have := List.all_eq_true.mp z_mok_5 (a - 60) (List.mem_range.mpr (by omega))
      rw [show 60 + (a - 60) = a by omega] at this
      simpa using this
    rcases Nat.lt_or_ge a 84 with h6 | h6
    · have := List.all_eq_true.mp z_mok_6 (a - 72) (List.mem_range.mpr (by omega))
      rw [show 72 + (a - 72) = a by omega] at this
      simpa using this
    rcases Nat.lt_or_ge a 96 with h7 | h7
    · have := List.all_eq_true.mp z_mok_7 (a - 84) (List.mem_range.mpr (by omega))
      rw [show 84 + (a - 84) = a by omega] at this
      simpa using this
    rcases Nat.lt_or_ge a 108 with h8 | h8
    · have := List.all_eq_true.mp z_mok_8 (a - 96) (List.mem_range.mpr (by omega))
      rw [show 96 + (a - 96) = a by omega] at this
      simpa using this
    rcases Nat.lt_or_ge a 120 with h9 | h9
    · have := List.all_eq_true.mp z_mok_9 (a - 108) (List.mem_range.mpr (by omega))
      rw [show 108 + (a - 108) = a by omega] at this
      simpa using this
    rcases Nat.lt_or_ge a 132 with h10 | h10
    · have := List.all_eq_true.mp z_mok_10 (a - 120) (List.mem_range.mpr (by omega))
      rw [show 120 + (a - 120) = a by omega] at this
      simpa using this
    rcases Nat.lt_or_ge a 144 with h11 | h11
    · have := List.all_eq_true.mp z_mok_11 (a - 132) (List.mem_range.mpr (by omega))
      rw [show 132 + (a - 132) = a by omega] at this
      simpa using this
    rcases Nat.lt_or_ge a 156 with h12 | h12
    · have := List.all_eq_true.mp z_mok_12 (a - 144) (List.mem_range.mpr (by omega))
      rw [show 144 + (a - 144) = a by omega] at this
      simpa using this
    rcases Nat.lt_or_ge a 168 with h13 | h13
    · have := List.all_eq_true.mp z_mok_13 (a - 156) (List.mem_range.mpr (by omega))
      rw [show 156 + (a - 156) = a by omega] at this
      simpa using this
    rcases Nat.lt_or_ge a 180 with h14 | h14
    · have := List.all_eq_true.mp z_mok_14 (a - 168) (List.mem_range.mpr (by omega))
      rw [show 168 + (a - 168) = a by omega] at this
      simpa using this
    rcases Nat.lt_or_ge a 192 with h15 | h15
    · have := List.all_eq_true.mp z_mok_15 (a - 180) (List.mem_range.mpr (by omega))
      rw [show 180 + (a - 180) = a by omega] at this
      simpa using this
    rcases Nat.lt_or_ge a 204 with h16 | h16
    · have := List.all_eq_true.mp z_mok_16 (a - 192) (List.mem_range.mpr (by omega))
      rw [show 192 + (a - 192) = a by omega] at this
      simpa using this
    rcases Nat.lt_or_ge a 216 with h17 | h17
    · have := List.all_eq_true.mp z_mok_17 (a - 204) (List.mem_range.mpr (by omega))
      rw [show 204 + (a - 204) = a by omega] at this
      simpa using this
    rcases Nat.lt_or_ge a 228 with h18 | h18
    · have := List.all_eq_true.mp z_mok_18 (a - 216) (List.mem_range.mpr (by omega))
      rw [show 216 + (a - 216) = a by omega] at this
      simpa using this
    rcases Nat.lt_or_ge a 240 with h19 | h19
    · have := List.all_eq_true.mp z_mok_19 (a - 228) (List.mem_range.mpr (by omega))
      rw [show 228 + (a - 228) = a by omega] at this
      simpa using this
    rcases Nat.lt_or_ge a 252 with h20 | h20
    · have := List.all_eq_true.mp z_mok_20 (a - 240) (List.mem_range.mpr (by omega))
      rw [show 240 + (a - 240) = a by omega] at this
      simpa using this
    rcases Nat.lt_or_ge a 264 with h21 | h21
    · have := List.all_eq_true.mp z_mok_21 (a - 252) (List.mem_range.mpr (by omega))
      rw [show 252 + (a - 252) = a by omega] at this
      simpa using this
    rcases Nat.lt_or_ge a 276 with h22 | h22
    · have := List.all_eq_true.mp z_mok_22 (a - 264) (List.mem_range.mpr (by omega))
      rw [show 264 + (a - 264) = a by omega] at this
      simpa using this
    rcases Nat.lt_or_ge a 288 with h23 | h23
    · have := List.all_eq_true.mp z_mok_23 (a - 276) (List.mem_range.mpr (by omega))
      rw [show 276 + (a - 276) = a by omega] at this
      simpa using this
    rcases Nat.lt_or_ge a 300 with h24 | h24
    · have := List.all_eq_true.mp z_mok_24 (a - 288) (List.mem_range.mpr (by omega))
      rw [show 288 + (a - 288) = a by omega] at this
      simpa using this
    rcases Nat.lt_or_ge a 312 with h25 | h25
    · have := List.all_eq_true.mp z_mok_25 (a - 300) (List.mem_range.mpr (by omega))
      rw [show 300 + (a - 300) = a by omega] at this
      simpa using this
    rcases Nat.lt_or_ge a 324 with h26 | h26
    · have := List.all_eq_true.mp z_mok_26 (a - 312) (List.mem_range.mpr (by omega))
      rw [show 312 + (a - 312) = a by omega] at this
      simpa using this
    rcases Nat.lt_or_ge a 325 with h27 | h27
    · have := List.all_eq_true.mp z_mok_27 (a - 324) (List.mem_range.mpr (by omega))
      rw [show 324 + (a - 324) = a by omega] at this
      simpa using this
    rcases Nat.lt_or_ge a 326 with h28 | h28
    · have := List.all_eq_true.mp z_mok_28 (a - 325) (List.mem_range.mpr (by omega))
      rw [show 325 + (a - 325) = a by omega] at this
      simpa using this
    rcases Nat.lt_or_ge a 327 with h29 | h29
    · have := List.all_eq_true.mp z_mok_29 (a - 326) (List.mem_range.mpr (by omega))
      rw [show 326 + (a - 326) = a by omega] at this
      simpa using this
    rcases Nat.lt_or_ge a 328 with h30 | h30
    · have := List.all_eq_true.mp z_mok_30 (a - 327) (List.mem_range.mpr (by omega))
      rw [show 327 + (a - 327) = a by omega] at this
      simpa using this
    rcases Nat.lt_or_ge a 329 with h31 | h31
    · have := List.all_eq_true.mp z_mok_31 (a - 328) (List.mem_range.mpr (by omega))
      rw [show 328 + (a - 328) = a by omega] at this
      simpa using this
    rcases Nat.lt_or_ge a 330 with h32 | h32
    · have := List.all_eq_true.mp z_mok_32 (a - 329) (List.mem_range.mpr (by omega))
      rw [show 329 + (a - 329) = a by omega] at this
      simpa using this
    rcases Nat.lt_or_ge a 331 with h33 | h33
    · have := List.all_eq_true.mp z_mok_33 (a - 330) (List.mem_range.mpr (by omega))
      rw [show 330 + (a - 330) = a by omega] at this
      simpa using this
    rcases Nat.lt_or_ge a 332 with h34 | h34
    · have := List.all_eq_true.mp z_mok_34 (a - 331) (List.mem_range.mpr (by omega))
      rw [show 331 + (a - 331) = a by omega] at this
      simpa using this
    rcases Nat.lt_or_ge a 333 with h35 | h35
    · have := List.all_eq_true.mp z_mok_35 (a - 332) (List.mem_range.mpr (by omega))
      rw [show 332 + (a - 332) = a by omega] at this
      simpa using this
    rcases Nat.lt_or_ge a 334 with h36 | h36
    · have := List.all_eq_true.mp z_mok_36 (a - 333) (List.mem_range.mpr (by omega))
      rw [show 333 + (a - 333) = a by omega] at this
      simpa using this
    rcases Nat.lt_or_ge a 335 with h37 | h37
    · have := List.all_eq_true.mp z_mok_37 (a - 334) (List.mem_range.mpr (by omega))
      rw [show 334 + (a - 334) = a by omega] at this
      simpa using this
    rcases Nat.lt_or_ge a 336 with h38 | h38
    · have := List.all_eq_true.mp z_mok_38 (a - 335) (List.mem_range.mpr (by omega))
      rw [show 335 + (a - 335) = a by omega] at this
      simpa using this
    rcases Nat.lt_or_ge a 337 with h39 | h39
    · have := List.all_eq_true.mp z_mok_39 (a - 336) (List.mem_range.mpr (by omega))
      rw [show 336 + (a - 336) = a by omega] at this
      simpa using this
    rcases Nat.lt_or_ge a 338 with h40 | h40
    · have := List.all_eq_true.mp z_mok_40 (a - 337) (List.mem_range.mpr (by omega))
      rw [show 337 + (a - 337) = a by omega] at this
      simpa using this
    omega
