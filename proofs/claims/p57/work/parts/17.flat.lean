/-! the methods without loops, by a program (wip/p57/gen/gen16.py) -/
theorem i0_0 : zi 0 0 1 2 0 0 := by decide +kernel
theorem i0_1 : zi 0 1 2 6 0 0 := by decide +kernel
theorem fl_11_0 : zfl 11 0 0 0 none := by decide +kernel
theorem i0_2 : zi 0 2 3 0 0 30 := by decide +kernel
theorem kc_30 : Int32.ofInt 30 = 30 := by decide +kernel
theorem i0_3 : zi 0 3 4 19 6 2 := by decide +kernel
theorem i0_6 : zi 0 6 7 0 0 0 := by decide +kernel
theorem kc_0 : Int32.ofInt 0 = 0 := by decide +kernel
theorem i0_4 : zi 0 4 5 0 0 1 := by decide +kernel
theorem kc_1 : Int32.ofInt 1 = 1 := by decide +kernel
theorem i0_5 : zi 0 5 6 17 7 0 := by decide +kernel
theorem i0_7 : zi 0 7 8 26 0 0 := by decide +kernel
theorem ml_0 : z_ml 0 = 1 := by decide +kernel
theorem en_0 : ∀ (v0 : zV), z_ent 0 [v0] = [some v0] := fun v0 => by unfold z_ent; rw [ml_0]; rfl
theorem i1_0 : zi 1 0 1 1 1 0 := by decide +kernel
theorem i1_1 : zi 1 1 2 18 8 2 := by decide +kernel
theorem i1_8 : zi 1 8 9 0 0 0 := by decide +kernel
theorem i1_2 : zi 1 2 3 1 1 0 := by decide +kernel
theorem i1_3 : zi 1 3 4 2 0 0 := by decide +kernel
theorem i1_4 : zi 1 4 5 6 0 0 := by decide +kernel
theorem i1_5 : zi 1 5 6 19 8 3 := by decide +kernel
theorem i1_6 : zi 1 6 7 0 0 1 := by decide +kernel
theorem i1_7 : zi 1 7 8 17 9 0 := by decide +kernel
theorem i1_9 : zi 1 9 10 26 0 0 := by decide +kernel
theorem ml_1 : z_ml 1 = 2 := by decide +kernel
theorem en_1 : ∀ (v0 v1 : zV), z_ent 1 [v0, v1] = [some v0, some v1] := fun v0 v1 => by unfold z_ent; rw [ml_1]; rfl
theorem i2_0 : zi 2 0 1 2 0 0 := by decide +kernel
theorem i2_1 : zi 2 1 2 6 0 3 := by decide +kernel
theorem fl_11_3 : zfl 11 0 3 3 (some 74) := by decide +kernel
theorem i2_2 : zi 2 2 3 1 1 0 := by decide +kernel
theorem i2_3 : zi 2 3 4 8 0 0 := by decide +kernel
theorem ar_74 : zar 74 0 30 := by decide +kernel
theorem i2_4 : zi 2 4 5 25 0 0 := by decide +kernel
theorem ml_2 : z_ml 2 = 2 := by decide +kernel
theorem en_2 : ∀ (v0 v1 : zV), z_ent 2 [v0, v1] = [some v0, some v1] := fun v0 v1 => by unfold z_ent; rw [ml_2]; rfl
theorem i4_0 : zi 4 0 1 2 0 0 := by decide +kernel
theorem i4_1 : zi 4 1 2 6 0 0 := by decide +kernel
theorem i4_2 : zi 4 2 3 3 4 0 := by decide +kernel
theorem i4_3 : zi 4 3 4 2 0 0 := by decide +kernel
theorem i4_4 : zi 4 4 5 6 0 1 := by decide +kernel
theorem fl_11_1 : zfl 11 0 1 1 (some 72) := by decide +kernel
theorem i4_5 : zi 4 5 6 1 4 0 := by decide +kernel
theorem i4_6 : zi 4 6 7 1 1 0 := by decide +kernel
theorem i4_7 : zi 4 7 8 10 0 0 := by decide +kernel
theorem ar_72 : zar 72 0 30 := by decide +kernel
theorem i4_8 : zi 4 8 9 2 0 0 := by decide +kernel
theorem i4_9 : zi 4 9 10 6 0 3 := by decide +kernel
theorem i4_10 : zi 4 10 11 1 4 0 := by decide +kernel
theorem i4_11 : zi 4 11 12 1 2 0 := by decide +kernel
theorem i4_12 : zi 4 12 13 0 0 (-1) := by decide +kernel
theorem kc_m1 : Int32.ofInt (-1) = (-1) := by decide +kernel
theorem i4_13 : zi 4 13 14 19 16 1 := by decide +kernel
theorem i4_14 : zi 4 14 15 1 4 0 := by decide +kernel
theorem i4_15 : zi 4 15 16 17 17 0 := by decide +kernel
theorem i4_16 : zi 4 16 17 1 2 0 := by decide +kernel
theorem i4_17 : zi 4 17 18 10 0 0 := by decide +kernel
theorem i4_18 : zi 4 18 19 2 0 0 := by decide +kernel
theorem i4_19 : zi 4 19 20 6 0 2 := by decide +kernel
theorem fl_11_2 : zfl 11 0 2 2 (some 73) := by decide +kernel
theorem i4_20 : zi 4 20 21 1 4 0 := by decide +kernel
theorem i4_21 : zi 4 21 22 1 2 0 := by decide +kernel
theorem i4_22 : zi 4 22 23 0 0 (-1) := by decide +kernel
theorem i4_23 : zi 4 23 24 19 26 1 := by decide +kernel
theorem i4_24 : zi 4 24 25 1 3 0 := by decide +kernel
theorem i4_25 : zi 4 25 26 17 32 0 := by decide +kernel
theorem i4_26 : zi 4 26 27 1 3 0 := by decide +kernel
theorem i4_27 : zi 4 27 28 2 0 0 := by decide +kernel
theorem i4_28 : zi 4 28 29 6 0 2 := by decide +kernel
theorem i4_29 : zi 4 29 30 1 2 0 := by decide +kernel
theorem i4_30 : zi 4 30 31 8 0 0 := by decide +kernel
theorem ar_73 : zar 73 0 30 := by decide +kernel
theorem i4_31 : zi 4 31 32 24 0 0 := by decide +kernel
theorem i4_32 : zi 4 32 33 10 0 0 := by decide +kernel
theorem i4_33 : zi 4 33 34 2 0 0 := by decide +kernel
theorem i4_34 : zi 4 34 35 14 0 0 := by decide +kernel
theorem i4_35 : zi 4 35 36 6 0 0 := by decide +kernel
theorem i4_36 : zi 4 36 37 0 0 1 := by decide +kernel
theorem i4_37 : zi 4 37 38 13 0 0 := by decide +kernel
theorem i4_38 : zi 4 38 39 7 0 0 := by decide +kernel
theorem i4_39 : zi 4 39 40 1 4 0 := by decide +kernel
theorem i4_40 : zi 4 40 41 25 0 0 := by decide +kernel
theorem ml_4 : z_ml 4 = 5 := by decide +kernel
theorem en_4 : ∀ (v0 v1 v2 v3 : zV), z_ent 4 [v0, v1, v2, v3] = [some v0, some v1, some v2, some v3, none] := fun v0 v1 v2 v3 => by unfold z_ent; rw [ml_4]; rfl
theorem i5_0 : zi 5 0 1 2 0 0 := by decide +kernel
theorem i5_1 : zi 5 1 2 6 0 4 := by decide +kernel
theorem fl_11_4 : zfl 11 0 4 4 (some 75) := by decide +kernel
theorem i5_2 : zi 5 2 3 1 1 0 := by decide +kernel
theorem i5_3 : zi 5 3 4 9 0 0 := by decide +kernel
theorem ar_75 : zar 75 1 30 := by decide +kernel
theorem i5_4 : zi 5 4 5 18 7 1 := by decide +kernel
theorem i5_5 : zi 5 5 6 0 0 1 := by decide +kernel
theorem i5_6 : zi 5 6 7 17 8 0 := by decide +kernel
theorem i5_7 : zi 5 7 8 0 0 0 := by decide +kernel
theorem i5_8 : zi 5 8 9 3 2 0 := by decide +kernel
theorem i5_9 : zi 5 9 10 2 0 0 := by decide +kernel
theorem i5_10 : zi 5 10 11 6 0 4 := by decide +kernel
theorem i5_11 : zi 5 11 12 1 1 0 := by decide +kernel
theorem i5_12 : zi 5 12 13 0 0 1 := by decide +kernel
theorem i5_13 : zi 5 13 14 11 0 0 := by decide +kernel
theorem zo_1 : zo 1 := by unfold zo; decide
theorem i5_14 : zi 5 14 15 1 2 0 := by decide +kernel
theorem i5_15 : zi 5 15 16 26 0 0 := by decide +kernel
theorem ml_5 : z_ml 5 = 3 := by decide +kernel
theorem en_5 : ∀ (v0 v1 : zV), z_ent 5 [v0, v1] = [some v0, some v1, none] := fun v0 v1 => by unfold z_ent; rw [ml_5]; rfl
theorem i8_0 : zi 8 0 1 2 0 0 := by decide +kernel
theorem i8_1 : zi 8 1 2 6 1 0 := by decide +kernel
theorem fl_3_0 : zfl 3 1 0 0 (some 16) := by decide +kernel
theorem i8_2 : zi 8 2 3 1 1 0 := by decide +kernel
theorem i8_3 : zi 8 3 4 8 0 0 := by decide +kernel
theorem ar_16 : zar 16 0 6 := by decide +kernel
theorem i8_4 : zi 8 4 5 25 0 0 := by decide +kernel
theorem ml_8 : z_ml 8 = 2 := by decide +kernel
theorem en_8 : ∀ (v0 v1 : zV), z_ent 8 [v0, v1] = [some v0, some v1] := fun v0 v1 => by unfold z_ent; rw [ml_8]; rfl
theorem i9_0 : zi 9 0 1 2 0 0 := by decide +kernel
theorem i9_1 : zi 9 1 2 6 1 1 := by decide +kernel
theorem fl_3_1 : zfl 3 1 1 1 (some 17) := by decide +kernel
theorem i9_2 : zi 9 2 3 1 1 0 := by decide +kernel
theorem i9_3 : zi 9 3 4 8 0 0 := by decide +kernel
theorem ar_17 : zar 17 0 6 := by decide +kernel
theorem i9_4 : zi 9 4 5 25 0 0 := by decide +kernel
theorem ml_9 : z_ml 9 = 2 := by decide +kernel
theorem en_9 : ∀ (v0 v1 : zV), z_ent 9 [v0, v1] = [some v0, some v1] := fun v0 v1 => by unfold z_ent; rw [ml_9]; rfl
theorem i10_0 : zi 10 0 1 2 0 0 := by decide +kernel
theorem i10_1 : zi 10 1 2 6 1 0 := by decide +kernel
theorem i10_2 : zi 10 2 3 1 1 0 := by decide +kernel
theorem i10_3 : zi 10 3 4 1 2 0 := by decide +kernel
theorem i10_4 : zi 10 4 5 10 0 0 := by decide +kernel
theorem i10_5 : zi 10 5 6 2 0 0 := by decide +kernel
theorem i10_6 : zi 10 6 7 6 1 1 := by decide +kernel
theorem i10_7 : zi 10 7 8 1 1 0 := by decide +kernel
theorem i10_8 : zi 10 8 9 1 3 0 := by decide +kernel
theorem i10_9 : zi 10 9 10 10 0 0 := by decide +kernel
theorem i10_10 : zi 10 10 11 27 0 0 := by decide +kernel
theorem ml_10 : z_ml 10 = 4 := by decide +kernel
theorem en_10 : ∀ (v0 v1 v2 v3 : zV), z_ent 10 [v0, v1, v2, v3] = [some v0, some v1, some v2, some v3] := fun v0 v1 v2 v3 => by unfold z_ent; rw [ml_10]; rfl
theorem i11_0 : zi 11 0 1 2 0 0 := by decide +kernel
theorem i11_1 : zi 11 1 2 6 1 2 := by decide +kernel
theorem fl_3_2 : zfl 3 1 2 2 (some 18) := by decide +kernel
theorem i11_2 : zi 11 2 3 1 1 0 := by decide +kernel
theorem i11_3 : zi 11 3 4 8 0 0 := by decide +kernel
theorem ar_18 : zar 18 0 6 := by decide +kernel
theorem i11_4 : zi 11 4 5 3 3 0 := by decide +kernel
theorem i11_5 : zi 11 5 6 2 0 0 := by decide +kernel
theorem i11_6 : zi 11 6 7 6 1 2 := by decide +kernel
theorem i11_7 : zi 11 7 8 1 1 0 := by decide +kernel
theorem i11_8 : zi 11 8 9 1 2 0 := by decide +kernel
theorem i11_9 : zi 11 9 10 10 0 0 := by decide +kernel
theorem i11_10 : zi 11 10 11 1 3 0 := by decide +kernel
theorem i11_11 : zi 11 11 12 25 0 0 := by decide +kernel
theorem ml_11 : z_ml 11 = 4 := by decide +kernel
theorem en_11 : ∀ (v0 v1 v2 : zV), z_ent 11 [v0, v1, v2] = [some v0, some v1, some v2, none] := fun v0 v1 v2 => by unfold z_ent; rw [ml_11]; rfl
theorem i12_0 : zi 12 0 1 2 0 0 := by decide +kernel
theorem i12_1 : zi 12 1 2 6 1 3 := by decide +kernel
theorem fl_3_3 : zfl 3 1 3 3 (some 19) := by decide +kernel
theorem i12_2 : zi 12 2 3 1 1 0 := by decide +kernel
theorem i12_3 : zi 12 3 4 8 0 0 := by decide +kernel
theorem ar_19 : zar 19 0 6 := by decide +kernel
theorem i12_4 : zi 12 4 5 2 0 0 := by decide +kernel
theorem i12_5 : zi 12 5 6 6 1 2 := by decide +kernel
theorem i12_6 : zi 12 6 7 1 1 0 := by decide +kernel
theorem i12_7 : zi 12 7 8 8 0 0 := by decide +kernel
theorem i12_8 : zi 12 8 9 19 11 2 := by decide +kernel
theorem i12_11 : zi 12 11 12 2 0 0 := by decide +kernel
theorem i12_12 : zi 12 12 13 6 1 3 := by decide +kernel
theorem i12_13 : zi 12 13 14 1 1 0 := by decide +kernel
theorem i12_14 : zi 12 14 15 15 0 0 := by decide +kernel
theorem i12_15 : zi 12 15 16 8 0 0 := by decide +kernel
theorem i12_16 : zi 12 16 17 0 0 1 := by decide +kernel
theorem i12_17 : zi 12 17 18 13 0 0 := by decide +kernel
theorem i12_18 : zi 12 18 19 10 0 0 := by decide +kernel
theorem i12_19 : zi 12 19 20 0 0 1 := by decide +kernel
theorem i12_20 : zi 12 20 21 26 0 0 := by decide +kernel
theorem i12_9 : zi 12 9 10 0 0 0 := by decide +kernel
theorem i12_10 : zi 12 10 11 26 0 0 := by decide +kernel
theorem zo_0 : zo 0 := by unfold zo; decide
theorem ml_12 : z_ml 12 = 2 := by decide +kernel
theorem en_12 : ∀ (v0 v1 : zV), z_ent 12 [v0, v1] = [some v0, some v1] := fun v0 v1 => by unfold z_ent; rw [ml_12]; rfl
theorem i14_0 : zi 14 0 1 2 0 0 := by decide +kernel
theorem i14_1 : zi 14 1 2 6 2 0 := by decide +kernel
theorem fl_8_0 : zfl 8 2 0 0 (some 9) := by decide +kernel
theorem i14_2 : zi 14 2 3 28 0 0 := by decide +kernel
theorem ml_14 : z_ml 14 = 1 := by decide +kernel
theorem en_14 : ∀ (v0 : zV), z_ent 14 [v0] = [some v0] := fun v0 => by unfold z_ent; rw [ml_14]; rfl
theorem i19_0 : zi 19 0 1 2 0 0 := by decide +kernel
theorem i19_1 : zi 19 1 2 6 2 5 := by decide +kernel
theorem fl_8_5 : zfl 8 2 5 5 none := by decide +kernel
theorem i19_2 : zi 19 2 3 0 0 512 := by decide +kernel
theorem kc_512 : Int32.ofInt 512 = 512 := by decide +kernel
theorem i19_3 : zi 19 3 4 19 5 2 := by decide +kernel
theorem i19_5 : zi 19 5 6 2 0 0 := by decide +kernel
theorem i19_6 : zi 19 6 7 6 2 1 := by decide +kernel
theorem fl_8_1 : zfl 8 2 1 1 (some 55) := by decide +kernel
theorem i19_7 : zi 19 7 8 2 0 0 := by decide +kernel
theorem i19_8 : zi 19 8 9 6 2 5 := by decide +kernel
theorem i19_9 : zi 19 9 10 1 1 0 := by decide +kernel
theorem i19_10 : zi 19 10 11 10 0 0 := by decide +kernel
theorem ar_55 : zar 55 0 512 := by decide +kernel
theorem i19_11 : zi 19 11 12 2 0 0 := by decide +kernel
theorem i19_12 : zi 19 12 13 6 2 2 := by decide +kernel
theorem fl_8_2 : zfl 8 2 2 2 (some 56) := by decide +kernel
theorem i19_13 : zi 19 13 14 2 0 0 := by decide +kernel
theorem i19_14 : zi 19 14 15 6 2 5 := by decide +kernel
theorem i19_15 : zi 19 15 16 1 2 0 := by decide +kernel
theorem i19_16 : zi 19 16 17 10 0 0 := by decide +kernel
theorem ar_56 : zar 56 0 512 := by decide +kernel
theorem i19_17 : zi 19 17 18 2 0 0 := by decide +kernel
theorem i19_18 : zi 19 18 19 6 2 3 := by decide +kernel
theorem fl_8_3 : zfl 8 2 3 3 (some 57) := by decide +kernel
theorem i19_19 : zi 19 19 20 2 0 0 := by decide +kernel
theorem i19_20 : zi 19 20 21 6 2 5 := by decide +kernel
theorem i19_21 : zi 19 21 22 1 3 0 := by decide +kernel
theorem i19_22 : zi 19 22 23 10 0 0 := by decide +kernel
theorem ar_57 : zar 57 0 512 := by decide +kernel
theorem i19_23 : zi 19 23 24 2 0 0 := by decide +kernel
theorem i19_24 : zi 19 24 25 6 2 4 := by decide +kernel
theorem fl_8_4 : zfl 8 2 4 4 (some 58) := by decide +kernel
theorem i19_25 : zi 19 25 26 2 0 0 := by decide +kernel
theorem i19_26 : zi 19 26 27 6 2 5 := by decide +kernel
theorem i19_27 : zi 19 27 28 1 4 0 := by decide +kernel
theorem i19_28 : zi 19 28 29 10 0 0 := by decide +kernel
theorem ar_58 : zar 58 0 512 := by decide +kernel
theorem i19_29 : zi 19 29 30 2 0 0 := by decide +kernel
theorem i19_30 : zi 19 30 31 14 0 0 := by decide +kernel
theorem i19_31 : zi 19 31 32 6 2 5 := by decide +kernel
theorem i19_32 : zi 19 32 33 0 0 1 := by decide +kernel
theorem i19_33 : zi 19 33 34 13 0 0 := by decide +kernel
theorem i19_34 : zi 19 34 35 7 2 5 := by decide +kernel
theorem i19_35 : zi 19 35 36 27 0 0 := by decide +kernel
theorem i19_4 : zi 19 4 5 27 0 0 := by decide +kernel
theorem ml_19 : z_ml 19 = 5 := by decide +kernel
theorem en_19 : ∀ (v0 v1 v2 v3 v4 : zV), z_ent 19 [v0, v1, v2, v3, v4] = [some v0, some v1, some v2, some v3, some v4] := fun v0 v1 v2 v3 v4 => by unfold z_ent; rw [ml_19]; rfl
theorem i15_0 : zi 15 0 1 2 0 0 := by decide +kernel
theorem i15_1 : zi 15 1 2 1 1 0 := by decide +kernel
theorem i15_2 : zi 15 2 3 0 0 0 := by decide +kernel
theorem i15_3 : zi 15 3 4 1 2 0 := by decide +kernel
theorem i15_4 : zi 15 4 5 1 3 0 := by decide +kernel
theorem i15_5 : zi 15 5 6 21 19 2 := by decide +kernel
theorem na_19 : z_na 19 = 4 := by decide +kernel
theorem ob_8 : zob 8 2 := by decide +kernel
theorem i15_6 : zi 15 6 7 27 0 0 := by decide +kernel
theorem ml_15 : z_ml 15 = 4 := by decide +kernel
theorem en_15 : ∀ (v0 v1 v2 v3 : zV), z_ent 15 [v0, v1, v2, v3] = [some v0, some v1, some v2, some v3] := fun v0 v1 v2 v3 => by unfold z_ent; rw [ml_15]; rfl
theorem i16_0 : zi 16 0 1 2 0 0 := by decide +kernel
theorem i16_1 : zi 16 1 2 1 1 0 := by decide +kernel
theorem i16_2 : zi 16 2 3 1 2 0 := by decide +kernel
theorem i16_3 : zi 16 3 4 1 3 0 := by decide +kernel
theorem i16_4 : zi 16 4 5 0 0 0 := by decide +kernel
theorem i16_5 : zi 16 5 6 21 19 2 := by decide +kernel
theorem i16_6 : zi 16 6 7 27 0 0 := by decide +kernel
theorem ml_16 : z_ml 16 = 4 := by decide +kernel
theorem en_16 : ∀ (v0 v1 v2 v3 : zV), z_ent 16 [v0, v1, v2, v3] = [some v0, some v1, some v2, some v3] := fun v0 v1 v2 v3 => by unfold z_ent; rw [ml_16]; rfl
theorem i323_0 : zi 323 0 1 1 0 0 := by decide +kernel
theorem i323_1 : zi 323 1 2 1 1 0 := by decide +kernel
theorem i323_2 : zi 323 2 3 13 4 0 := by decide +kernel
theorem i323_3 : zi 323 3 4 3 2 0 := by decide +kernel
theorem i323_4 : zi 323 4 5 1 0 0 := by decide +kernel
theorem i323_5 : zi 323 5 6 1 1 0 := by decide +kernel
theorem i323_6 : zi 323 6 7 13 7 0 := by decide +kernel
theorem i323_7 : zi 323 7 8 18 14 3 := by decide +kernel
theorem i323_14 : zi 323 14 15 1 2 0 := by decide +kernel
theorem i323_15 : zi 323 15 16 25 0 0 := by decide +kernel
theorem i323_8 : zi 323 8 9 1 2 0 := by decide +kernel
theorem i323_9 : zi 323 9 10 18 14 0 := by decide +kernel
theorem i323_10 : zi 323 10 11 1 2 0 := by decide +kernel
theorem i323_11 : zi 323 11 12 1 1 0 := by decide +kernel
theorem i323_12 : zi 323 12 13 13 0 0 := by decide +kernel
theorem i323_13 : zi 323 13 14 25 0 0 := by decide +kernel
theorem ml_323 : z_ml 323 = 3 := by decide +kernel
theorem en_323 : ∀ (v0 v1 : zV), z_ent 323 [v0, v1] = [some v0, some v1, none] := fun v0 v1 => by unfold z_ent; rw [ml_323]; rfl
theorem i108_0 : zi 108 0 1 2 0 0 := by decide +kernel
theorem i108_1 : zi 108 1 2 6 9 0 := by decide +kernel
theorem fl_7_0 : zfl 7 9 0 0 (some 51) := by decide +kernel
theorem i108_2 : zi 108 2 3 1 1 0 := by decide +kernel
theorem i108_3 : zi 108 3 4 8 0 0 := by decide +kernel
theorem ar_51 : zar 51 0 216 := by decide +kernel
theorem i108_4 : zi 108 4 5 0 0 1 := by decide +kernel
theorem i108_5 : zi 108 5 6 13 0 0 := by decide +kernel
theorem i108_6 : zi 108 6 7 3 4 0 := by decide +kernel
theorem i108_7 : zi 108 7 8 1 1 0 := by decide +kernel
theorem i108_8 : zi 108 8 9 0 0 4 := by decide +kernel
theorem kc_4 : Int32.ofInt 4 = 4 := by decide +kernel
theorem i108_9 : zi 108 9 10 13 2 0 := by decide +kernel
theorem i108_10 : zi 108 10 11 1 4 0 := by decide +kernel
theorem i108_11 : zi 108 11 12 0 0 4 := by decide +kernel
theorem i108_12 : zi 108 12 13 22 323 0 := by decide +kernel
theorem na_323 : z_na 323 = 2 := by decide +kernel
theorem nz_4 : ¬ (4 : Int32) = 0 := by decide
theorem i108_13 : zi 108 13 14 13 0 0 := by decide +kernel
theorem i108_14 : zi 108 14 15 3 5 0 := by decide +kernel
theorem i108_15 : zi 108 15 16 2 0 0 := by decide +kernel
theorem i108_16 : zi 108 16 17 6 9 0 := by decide +kernel
theorem i108_17 : zi 108 17 18 1 1 0 := by decide +kernel
theorem i108_18 : zi 108 18 19 1 4 0 := by decide +kernel
theorem i108_19 : zi 108 19 20 10 0 0 := by decide +kernel
theorem i108_20 : zi 108 20 21 2 0 0 := by decide +kernel
theorem i108_21 : zi 108 21 22 6 9 1 := by decide +kernel
theorem fl_7_1 : zfl 7 9 1 1 (some 52) := by decide +kernel
theorem i108_22 : zi 108 22 23 1 5 0 := by decide +kernel
theorem i108_23 : zi 108 23 24 1 2 0 := by decide +kernel
theorem i108_24 : zi 108 24 25 10 0 0 := by decide +kernel
theorem ar_52 : zar 52 0 864 := by decide +kernel
theorem i108_25 : zi 108 25 26 2 0 0 := by decide +kernel
theorem i108_26 : zi 108 26 27 6 9 2 := by decide +kernel
theorem fl_7_2 : zfl 7 9 2 2 (some 53) := by decide +kernel
theorem i108_27 : zi 108 27 28 1 5 0 := by decide +kernel
theorem i108_28 : zi 108 28 29 1 3 0 := by decide +kernel
theorem i108_29 : zi 108 29 30 10 0 0 := by decide +kernel
theorem ar_53 : zar 53 0 864 := by decide +kernel
theorem i108_30 : zi 108 30 31 2 0 0 := by decide +kernel
theorem i108_31 : zi 108 31 32 6 9 3 := by decide +kernel
theorem fl_7_3 : zfl 7 9 3 3 (some 54) := by decide +kernel
theorem i108_32 : zi 108 32 33 1 5 0 := by decide +kernel
theorem i108_33 : zi 108 33 34 0 0 0 := by decide +kernel
theorem i108_34 : zi 108 34 35 10 0 0 := by decide +kernel
theorem ar_54 : zar 54 0 864 := by decide +kernel
theorem i108_35 : zi 108 35 36 1 4 0 := by decide +kernel
theorem i108_36 : zi 108 36 37 25 0 0 := by decide +kernel
theorem ml_108 : z_ml 108 = 6 := by decide +kernel
theorem en_108 : ∀ (v0 v1 v2 v3 : zV), z_ent 108 [v0, v1, v2, v3] = [some v0, some v1, some v2, some v3, none, none] := fun v0 v1 v2 v3 => by unfold z_ent; rw [ml_108]; rfl
theorem fl_9_0 : zfl 9 9 0 0 (some 59) := by decide +kernel
theorem ar_59 : zar 59 0 216 := by decide +kernel
theorem fl_9_1 : zfl 9 9 1 1 (some 60) := by decide +kernel
theorem ar_60 : zar 60 0 864 := by decide +kernel
theorem fl_9_2 : zfl 9 9 2 2 (some 61) := by decide +kernel
theorem ar_61 : zar 61 0 864 := by decide +kernel
theorem fl_9_3 : zfl 9 9 3 3 (some 62) := by decide +kernel
theorem ar_62 : zar 62 0 864 := by decide +kernel
theorem i107_0 : zi 107 0 1 2 0 0 := by decide +kernel
theorem i107_1 : zi 107 1 2 6 9 0 := by decide +kernel
theorem i107_2 : zi 107 2 3 1 1 0 := by decide +kernel
theorem i107_3 : zi 107 3 4 8 0 0 := by decide +kernel
theorem i107_4 : zi 107 4 5 3 3 0 := by decide +kernel
theorem i107_5 : zi 107 5 6 1 2 0 := by decide +kernel
theorem i107_6 : zi 107 6 7 18 9 1 := by decide +kernel
theorem i107_7 : zi 107 7 8 1 3 0 := by decide +kernel
theorem i107_8 : zi 107 8 9 17 10 0 := by decide +kernel
theorem i107_9 : zi 107 9 10 1 2 0 := by decide +kernel
theorem i107_10 : zi 107 10 11 3 4 0 := by decide +kernel
theorem i107_11 : zi 107 11 12 1 4 0 := by decide +kernel
theorem i107_12 : zi 107 12 13 0 0 1 := by decide +kernel
theorem i107_13 : zi 107 13 14 19 24 2 := by decide +kernel
theorem i107_24 : zi 107 24 25 0 0 0 := by decide +kernel
theorem i107_14 : zi 107 14 15 1 4 0 := by decide +kernel
theorem i107_15 : zi 107 15 16 1 3 0 := by decide +kernel
theorem i107_16 : zi 107 16 17 19 24 4 := by decide +kernel
theorem i107_17 : zi 107 17 18 1 4 0 := by decide +kernel
theorem i107_18 : zi 107 18 19 1 3 0 := by decide +kernel
theorem i107_19 : zi 107 19 20 0 0 4 := by decide +kernel
theorem i107_20 : zi 107 20 21 13 1 0 := by decide +kernel
theorem i107_21 : zi 107 21 22 19 24 5 := by decide +kernel
theorem i107_22 : zi 107 22 23 0 0 1 := by decide +kernel
theorem i107_23 : zi 107 23 24 17 25 0 := by decide +kernel
theorem i107_25 : zi 107 25 26 3 5 0 := by decide +kernel
theorem i107_26 : zi 107 26 27 1 5 0 := by decide +kernel
theorem i107_27 : zi 107 27 28 18 36 0 := by decide +kernel
theorem i107_28 : zi 107 28 29 1 1 0 := by decide +kernel
theorem i107_29 : zi 107 29 30 0 0 4 := by decide +kernel
theorem i107_30 : zi 107 30 31 13 2 0 := by decide +kernel
theorem i107_31 : zi 107 31 32 1 4 0 := by decide +kernel
theorem i107_32 : zi 107 32 33 0 0 4 := by decide +kernel
theorem i107_33 : zi 107 33 34 22 323 0 := by decide +kernel
theorem i107_34 : zi 107 34 35 13 0 0 := by decide +kernel
theorem i107_35 : zi 107 35 36 17 37 0 := by decide +kernel
theorem i107_36 : zi 107 36 37 0 0 (-1) := by decide +kernel
theorem i107_37 : zi 107 37 38 25 0 0 := by decide +kernel
theorem ml_107 : z_ml 107 = 6 := by decide +kernel
theorem en_107 : ∀ (v0 v1 v2 : zV), z_ent 107 [v0, v1, v2] = [some v0, some v1, some v2, none, none, none] := fun v0 v1 v2 => by unfold z_ent; rw [ml_107]; rfl
theorem i109_0 : zi 109 0 1 2 0 0 := by decide +kernel
theorem i109_1 : zi 109 1 2 6 9 3 := by decide +kernel
theorem i109_2 : zi 109 2 3 1 1 0 := by decide +kernel
theorem i109_3 : zi 109 3 4 8 0 0 := by decide +kernel
theorem i109_4 : zi 109 4 5 3 3 0 := by decide +kernel
theorem i109_5 : zi 109 5 6 2 0 0 := by decide +kernel
theorem i109_6 : zi 109 6 7 6 9 3 := by decide +kernel
theorem i109_7 : zi 109 7 8 1 1 0 := by decide +kernel
theorem i109_8 : zi 109 8 9 1 2 0 := by decide +kernel
theorem i109_9 : zi 109 9 10 10 0 0 := by decide +kernel
theorem i109_10 : zi 109 10 11 1 2 0 := by decide +kernel
theorem i109_11 : zi 109 11 12 0 0 2 := by decide +kernel
theorem kc_2 : Int32.ofInt 2 = 2 := by decide +kernel
theorem i109_12 : zi 109 12 13 19 18 1 := by decide +kernel
theorem i109_13 : zi 109 13 14 2 0 0 := by decide +kernel
theorem i109_14 : zi 109 14 15 6 9 1 := by decide +kernel
theorem i109_15 : zi 109 15 16 1 1 0 := by decide +kernel
theorem i109_16 : zi 109 16 17 0 0 (-1) := by decide +kernel
theorem i109_17 : zi 109 17 18 10 0 0 := by decide +kernel
theorem i109_18 : zi 109 18 19 1 3 0 := by decide +kernel
theorem i109_19 : zi 109 19 20 25 0 0 := by decide +kernel
theorem ml_109 : z_ml 109 = 4 := by decide +kernel
theorem en_109 : ∀ (v0 v1 v2 : zV), z_ent 109 [v0, v1, v2] = [some v0, some v1, some v2, none] := fun v0 v1 v2 => by unfold z_ent; rw [ml_109]; rfl
theorem i21_0 : zi 21 0 1 2 0 0 := by decide +kernel
theorem i21_1 : zi 21 1 2 6 2 4 := by decide +kernel
theorem i21_2 : zi 21 2 3 1 1 0 := by decide +kernel
theorem i21_3 : zi 21 3 4 8 0 0 := by decide +kernel
theorem i21_4 : zi 21 4 5 18 22 0 := by decide +kernel
theorem i21_22 : zi 21 22 23 2 0 0 := by decide +kernel
theorem i21_23 : zi 21 23 24 6 2 0 := by decide +kernel
theorem i21_24 : zi 21 24 25 2 0 0 := by decide +kernel
theorem i21_25 : zi 21 25 26 6 2 1 := by decide +kernel
theorem i21_26 : zi 21 26 27 1 1 0 := by decide +kernel
theorem i21_27 : zi 21 27 28 8 0 0 := by decide +kernel
theorem i21_28 : zi 21 28 29 2 0 0 := by decide +kernel
theorem i21_29 : zi 21 29 30 6 2 2 := by decide +kernel
theorem i21_30 : zi 21 30 31 1 1 0 := by decide +kernel
theorem i21_31 : zi 21 31 32 8 0 0 := by decide +kernel
theorem i21_32 : zi 21 32 33 21 107 9 := by decide +kernel
theorem na_107 : z_na 107 = 2 := by decide +kernel
theorem ob_9 : zob 9 9 := by decide +kernel
theorem i21_33 : zi 21 33 34 3 2 0 := by decide +kernel
theorem i21_34 : zi 21 34 35 1 2 0 := by decide +kernel
theorem i21_35 : zi 21 35 36 0 0 (-1) := by decide +kernel
theorem i21_36 : zi 21 36 37 19 46 0 := by decide +kernel
theorem i21_37 : zi 21 37 38 2 0 0 := by decide +kernel
theorem i21_38 : zi 21 38 39 6 2 0 := by decide +kernel
theorem i21_39 : zi 21 39 40 1 2 0 := by decide +kernel
theorem i21_40 : zi 21 40 41 2 0 0 := by decide +kernel
theorem i21_41 : zi 21 41 42 6 2 3 := by decide +kernel
theorem i21_42 : zi 21 42 43 1 1 0 := by decide +kernel
theorem i21_43 : zi 21 43 44 8 0 0 := by decide +kernel
theorem i21_44 : zi 21 44 45 21 109 9 := by decide +kernel
theorem na_109 : z_na 109 = 2 := by decide +kernel
theorem i21_45 : zi 21 45 46 16 0 0 := by decide +kernel
theorem i21_46 : zi 21 46 47 27 0 0 := by decide +kernel
theorem i21_5 : zi 21 5 6 2 0 0 := by decide +kernel
theorem i21_6 : zi 21 6 7 6 2 0 := by decide +kernel
theorem i21_7 : zi 21 7 8 2 0 0 := by decide +kernel
theorem i21_8 : zi 21 8 9 6 2 1 := by decide +kernel
theorem i21_9 : zi 21 9 10 1 1 0 := by decide +kernel
theorem i21_10 : zi 21 10 11 8 0 0 := by decide +kernel
theorem i21_11 : zi 21 11 12 2 0 0 := by decide +kernel
theorem i21_12 : zi 21 12 13 6 2 3 := by decide +kernel
theorem i21_13 : zi 21 13 14 1 1 0 := by decide +kernel
theorem i21_14 : zi 21 14 15 8 0 0 := by decide +kernel
theorem i21_15 : zi 21 15 16 2 0 0 := by decide +kernel
theorem i21_16 : zi 21 16 17 6 2 4 := by decide +kernel
theorem i21_17 : zi 21 17 18 1 1 0 := by decide +kernel
theorem i21_18 : zi 21 18 19 8 0 0 := by decide +kernel
theorem i21_19 : zi 21 19 20 21 108 9 := by decide +kernel
theorem na_108 : z_na 108 = 3 := by decide +kernel
theorem i21_20 : zi 21 20 21 16 0 0 := by decide +kernel
theorem i21_21 : zi 21 21 22 27 0 0 := by decide +kernel
theorem ml_21 : z_ml 21 = 3 := by decide +kernel
theorem en_21 : ∀ (v0 v1 : zV), z_ent 21 [v0, v1] = [some v0, some v1, none] := fun v0 v1 => by unfold z_ent; rw [ml_21]; rfl
theorem i20_0 : zi 20 0 1 2 0 0 := by decide +kernel
theorem i20_1 : zi 20 1 2 6 2 1 := by decide +kernel
theorem i20_2 : zi 20 2 3 1 2 0 := by decide +kernel
theorem i20_3 : zi 20 3 4 2 0 0 := by decide +kernel
theorem i20_4 : zi 20 4 5 6 2 1 := by decide +kernel
theorem i20_5 : zi 20 5 6 1 1 0 := by decide +kernel
theorem i20_6 : zi 20 6 7 8 0 0 := by decide +kernel
theorem i20_7 : zi 20 7 8 10 0 0 := by decide +kernel
theorem i20_8 : zi 20 8 9 2 0 0 := by decide +kernel
theorem i20_9 : zi 20 9 10 6 2 2 := by decide +kernel
theorem i20_10 : zi 20 10 11 1 2 0 := by decide +kernel
theorem i20_11 : zi 20 11 12 2 0 0 := by decide +kernel
theorem i20_12 : zi 20 12 13 6 2 2 := by decide +kernel
theorem i20_13 : zi 20 13 14 1 1 0 := by decide +kernel
theorem i20_14 : zi 20 14 15 8 0 0 := by decide +kernel
theorem i20_15 : zi 20 15 16 10 0 0 := by decide +kernel
theorem i20_16 : zi 20 16 17 2 0 0 := by decide +kernel
theorem i20_17 : zi 20 17 18 6 2 3 := by decide +kernel
theorem i20_18 : zi 20 18 19 1 2 0 := by decide +kernel
theorem i20_19 : zi 20 19 20 2 0 0 := by decide +kernel
theorem i20_20 : zi 20 20 21 6 2 3 := by decide +kernel
theorem i20_21 : zi 20 21 22 1 1 0 := by decide +kernel
theorem i20_22 : zi 20 22 23 8 0 0 := by decide +kernel
theorem i20_23 : zi 20 23 24 10 0 0 := by decide +kernel
theorem i20_24 : zi 20 24 25 2 0 0 := by decide +kernel
theorem i20_25 : zi 20 25 26 6 2 4 := by decide +kernel
theorem i20_26 : zi 20 26 27 1 2 0 := by decide +kernel
theorem i20_27 : zi 20 27 28 2 0 0 := by decide +kernel
theorem i20_28 : zi 20 28 29 6 2 4 := by decide +kernel
theorem i20_29 : zi 20 29 30 1 1 0 := by decide +kernel
theorem i20_30 : zi 20 30 31 8 0 0 := by decide +kernel
theorem i20_31 : zi 20 31 32 10 0 0 := by decide +kernel
theorem i20_32 : zi 20 32 33 27 0 0 := by decide +kernel
theorem ml_20 : z_ml 20 = 3 := by decide +kernel
theorem en_20 : ∀ (v0 v1 v2 : zV), z_ent 20 [v0, v1, v2] = [some v0, some v1, some v2] := fun v0 v1 v2 => by unfold z_ent; rw [ml_20]; rfl
theorem i22_0 : zi 22 0 1 1 1 0 := by decide +kernel
theorem i22_1 : zi 22 1 2 18 8 2 := by decide +kernel
theorem i22_8 : zi 22 8 9 0 0 0 := by decide +kernel
theorem i22_2 : zi 22 2 3 1 1 0 := by decide +kernel
theorem i22_3 : zi 22 3 4 2 0 0 := by decide +kernel
theorem i22_4 : zi 22 4 5 6 3 0 := by decide +kernel
theorem fl_10_0 : zfl 10 3 0 0 none := by decide +kernel
theorem i22_5 : zi 22 5 6 19 8 3 := by decide +kernel
theorem i22_6 : zi 22 6 7 0 0 1 := by decide +kernel
theorem i22_7 : zi 22 7 8 17 9 0 := by decide +kernel
theorem i22_9 : zi 22 9 10 26 0 0 := by decide +kernel
theorem ml_22 : z_ml 22 = 2 := by decide +kernel
theorem en_22 : ∀ (v0 v1 : zV), z_ent 22 [v0, v1] = [some v0, some v1] := fun v0 v1 => by unfold z_ent; rw [ml_22]; rfl
theorem i23_0 : zi 23 0 1 2 0 0 := by decide +kernel
theorem i23_1 : zi 23 1 2 6 3 0 := by decide +kernel
theorem i23_2 : zi 23 2 3 0 0 20 := by decide +kernel
theorem kc_20 : Int32.ofInt 20 = 20 := by decide +kernel
theorem i23_3 : zi 23 3 4 19 6 2 := by decide +kernel
theorem i23_6 : zi 23 6 7 2 0 0 := by decide +kernel
theorem i23_7 : zi 23 7 8 6 3 0 := by decide +kernel
theorem i23_8 : zi 23 8 9 3 3 0 := by decide +kernel
theorem i23_9 : zi 23 9 10 2 0 0 := by decide +kernel
theorem i23_10 : zi 23 10 11 6 3 1 := by decide +kernel
theorem fl_10_1 : zfl 10 3 1 1 (some 63) := by decide +kernel
theorem i23_11 : zi 23 11 12 1 3 0 := by decide +kernel
theorem i23_12 : zi 23 12 13 1 1 0 := by decide +kernel
theorem i23_13 : zi 23 13 14 10 0 0 := by decide +kernel
theorem ar_63 : zar 63 0 20 := by decide +kernel
theorem i23_14 : zi 23 14 15 2 0 0 := by decide +kernel
theorem i23_15 : zi 23 15 16 6 3 2 := by decide +kernel
theorem fl_10_2 : zfl 10 3 2 2 (some 64) := by decide +kernel
theorem i23_16 : zi 23 16 17 1 3 0 := by decide +kernel
theorem i23_17 : zi 23 17 18 1 2 0 := by decide +kernel
theorem i23_18 : zi 23 18 19 10 0 0 := by decide +kernel
theorem ar_64 : zar 64 0 20 := by decide +kernel
theorem i23_19 : zi 23 19 20 2 0 0 := by decide +kernel
theorem i23_20 : zi 23 20 21 14 0 0 := by decide +kernel
theorem i23_21 : zi 23 21 22 6 3 0 := by decide +kernel
theorem i23_22 : zi 23 22 23 0 0 1 := by decide +kernel
theorem i23_23 : zi 23 23 24 13 0 0 := by decide +kernel
theorem i23_24 : zi 23 24 25 7 3 0 := by decide +kernel
theorem i23_25 : zi 23 25 26 1 3 0 := by decide +kernel
theorem i23_26 : zi 23 26 27 25 0 0 := by decide +kernel
theorem i23_4 : zi 23 4 5 0 0 (-11) := by decide +kernel
theorem kc_m11 : Int32.ofInt (-11) = (-11) := by decide +kernel
theorem i23_5 : zi 23 5 6 25 0 0 := by decide +kernel
theorem ml_23 : z_ml 23 = 4 := by decide +kernel
theorem en_23 : ∀ (v0 v1 v2 : zV), z_ent 23 [v0, v1, v2] = [some v0, some v1, some v2, none] := fun v0 v1 v2 => by unfold z_ent; rw [ml_23]; rfl
theorem i24_0 : zi 24 0 1 2 0 0 := by decide +kernel
theorem i24_1 : zi 24 1 2 6 3 3 := by decide +kernel
theorem fl_10_3 : zfl 10 3 3 3 (some 65) := by decide +kernel
theorem i24_2 : zi 24 2 3 1 1 0 := by decide +kernel
theorem i24_3 : zi 24 3 4 9 0 0 := by decide +kernel
theorem ar_65 : zar 65 1 20 := by decide +kernel
theorem i24_4 : zi 24 4 5 18 13 1 := by decide +kernel
theorem i24_5 : zi 24 5 6 1 2 0 := by decide +kernel
theorem i24_6 : zi 24 6 7 2 0 0 := by decide +kernel
theorem i24_7 : zi 24 7 8 6 3 2 := by decide +kernel
theorem i24_8 : zi 24 8 9 1 1 0 := by decide +kernel
theorem i24_9 : zi 24 9 10 8 0 0 := by decide +kernel
theorem i24_10 : zi 24 10 11 13 1 0 := by decide +kernel
theorem i24_11 : zi 24 11 12 0 0 5 := by decide +kernel
theorem kc_5 : Int32.ofInt 5 = 5 := by decide +kernel
theorem i24_12 : zi 24 12 13 19 15 5 := by decide +kernel
theorem i24_15 : zi 24 15 16 2 0 0 := by decide +kernel
theorem i24_16 : zi 24 16 17 6 3 3 := by decide +kernel
theorem i24_17 : zi 24 17 18 1 1 0 := by decide +kernel
theorem i24_18 : zi 24 18 19 0 0 1 := by decide +kernel
theorem i24_19 : zi 24 19 20 11 0 0 := by decide +kernel
theorem i24_20 : zi 24 20 21 2 0 0 := by decide +kernel
theorem i24_21 : zi 24 21 22 6 3 1 := by decide +kernel
theorem i24_22 : zi 24 22 23 1 1 0 := by decide +kernel
theorem i24_23 : zi 24 23 24 8 0 0 := by decide +kernel
theorem i24_24 : zi 24 24 25 25 0 0 := by decide +kernel
theorem i24_13 : zi 24 13 14 0 0 (-7) := by decide +kernel
theorem kc_m7 : Int32.ofInt (-7) = (-7) := by decide +kernel
theorem i24_14 : zi 24 14 15 25 0 0 := by decide +kernel
theorem ml_24 : z_ml 24 = 3 := by decide +kernel
theorem en_24 : ∀ (v0 v1 v2 : zV), z_ent 24 [v0, v1, v2] = [some v0, some v1, some v2] := fun v0 v1 v2 => by unfold z_ent; rw [ml_24]; rfl
theorem i25_0 : zi 25 0 1 2 0 0 := by decide +kernel
theorem i25_1 : zi 25 1 2 6 3 4 := by decide +kernel
theorem fl_10_4 : zfl 10 3 4 4 none := by decide +kernel
theorem i25_2 : zi 25 2 3 25 0 0 := by decide +kernel
theorem ml_25 : z_ml 25 = 1 := by decide +kernel
theorem en_25 : ∀ (v0 : zV), z_ent 25 [v0] = [some v0] := fun v0 => by unfold z_ent; rw [ml_25]; rfl
theorem i26_0 : zi 26 0 1 1 1 0 := by decide +kernel
theorem i26_1 : zi 26 1 2 18 8 2 := by decide +kernel
theorem i26_8 : zi 26 8 9 0 0 0 := by decide +kernel
theorem i26_2 : zi 26 2 3 1 1 0 := by decide +kernel
theorem i26_3 : zi 26 3 4 2 0 0 := by decide +kernel
theorem i26_4 : zi 26 4 5 6 3 4 := by decide +kernel
theorem i26_5 : zi 26 5 6 19 8 3 := by decide +kernel
theorem i26_6 : zi 26 6 7 0 0 1 := by decide +kernel
theorem i26_7 : zi 26 7 8 17 9 0 := by decide +kernel
theorem i26_9 : zi 26 9 10 26 0 0 := by decide +kernel
theorem ml_26 : z_ml 26 = 2 := by decide +kernel
theorem en_26 : ∀ (v0 v1 : zV), z_ent 26 [v0, v1] = [some v0, some v1] := fun v0 v1 => by unfold z_ent; rw [ml_26]; rfl
theorem i27_0 : zi 27 0 1 2 0 0 := by decide +kernel
theorem i27_1 : zi 27 1 2 6 3 5 := by decide +kernel
theorem fl_10_5 : zfl 10 3 5 5 (some 66) := by decide +kernel
theorem i27_2 : zi 27 2 3 1 1 0 := by decide +kernel
theorem i27_3 : zi 27 3 4 8 0 0 := by decide +kernel
theorem ar_66 : zar 66 0 20 := by decide +kernel
theorem i27_4 : zi 27 4 5 25 0 0 := by decide +kernel
theorem ml_27 : z_ml 27 = 2 := by decide +kernel
theorem en_27 : ∀ (v0 v1 : zV), z_ent 27 [v0, v1] = [some v0, some v1] := fun v0 v1 => by unfold z_ent; rw [ml_27]; rfl
theorem i28_0 : zi 28 0 1 2 0 0 := by decide +kernel
theorem i28_1 : zi 28 1 2 6 3 6 := by decide +kernel
theorem fl_10_6 : zfl 10 3 6 6 (some 67) := by decide +kernel
theorem i28_2 : zi 28 2 3 1 1 0 := by decide +kernel
theorem i28_3 : zi 28 3 4 8 0 0 := by decide +kernel
theorem ar_67 : zar 67 0 20 := by decide +kernel
theorem i28_4 : zi 28 4 5 25 0 0 := by decide +kernel
theorem ml_28 : z_ml 28 = 2 := by decide +kernel
theorem en_28 : ∀ (v0 v1 : zV), z_ent 28 [v0, v1] = [some v0, some v1] := fun v0 v1 => by unfold z_ent; rw [ml_28]; rfl
theorem i29_0 : zi 29 0 1 2 0 0 := by decide +kernel
theorem i29_1 : zi 29 1 2 6 3 7 := by decide +kernel
theorem fl_10_7 : zfl 10 3 7 7 (some 68) := by decide +kernel
theorem i29_2 : zi 29 2 3 1 1 0 := by decide +kernel
theorem i29_3 : zi 29 3 4 8 0 0 := by decide +kernel
theorem ar_68 : zar 68 0 20 := by decide +kernel
theorem i29_4 : zi 29 4 5 25 0 0 := by decide +kernel
theorem ml_29 : z_ml 29 = 2 := by decide +kernel
theorem en_29 : ∀ (v0 v1 : zV), z_ent 29 [v0, v1] = [some v0, some v1] := fun v0 v1 => by unfold z_ent; rw [ml_29]; rfl
theorem i30_0 : zi 30 0 1 2 0 0 := by decide +kernel
theorem i30_1 : zi 30 1 2 6 3 10 := by decide +kernel
theorem fl_10_10 : zfl 10 3 10 10 (some 71) := by decide +kernel
theorem i30_2 : zi 30 2 3 1 1 0 := by decide +kernel
theorem i30_3 : zi 30 3 4 9 0 0 := by decide +kernel
theorem ar_71 : zar 71 1 20 := by decide +kernel
theorem i30_4 : zi 30 4 5 18 7 1 := by decide +kernel
theorem i30_5 : zi 30 5 6 0 0 1 := by decide +kernel
theorem i30_6 : zi 30 6 7 17 8 0 := by decide +kernel
theorem i30_7 : zi 30 7 8 0 0 0 := by decide +kernel
theorem i30_8 : zi 30 8 9 26 0 0 := by decide +kernel
theorem ml_30 : z_ml 30 = 2 := by decide +kernel
theorem en_30 : ∀ (v0 v1 : zV), z_ent 30 [v0, v1] = [some v0, some v1] := fun v0 v1 => by unfold z_ent; rw [ml_30]; rfl
theorem i322_0 : zi 322 0 1 1 0 0 := by decide +kernel
theorem i322_1 : zi 322 1 2 1 0 0 := by decide +kernel
theorem i322_2 : zi 322 2 3 0 0 1 := by decide +kernel
theorem i322_3 : zi 322 3 4 13 10 0 := by decide +kernel
theorem i322_4 : zi 322 4 5 0 0 1431655765 := by decide +kernel
theorem kc_1431655765 : Int32.ofInt 1431655765 = 1431655765 := by decide +kernel
theorem i322_5 : zi 322 5 6 13 5 0 := by decide +kernel
theorem i322_6 : zi 322 6 7 13 1 0 := by decide +kernel
theorem i322_7 : zi 322 7 8 3 0 0 := by decide +kernel
theorem i322_8 : zi 322 8 9 1 0 0 := by decide +kernel
theorem i322_9 : zi 322 9 10 0 0 858993459 := by decide +kernel
theorem kc_858993459 : Int32.ofInt 858993459 = 858993459 := by decide +kernel
theorem i322_10 : zi 322 10 11 13 5 0 := by decide +kernel
theorem i322_11 : zi 322 11 12 1 0 0 := by decide +kernel
theorem i322_12 : zi 322 12 13 0 0 2 := by decide +kernel
theorem i322_13 : zi 322 13 14 13 10 0 := by decide +kernel
theorem i322_14 : zi 322 14 15 0 0 858993459 := by decide +kernel
theorem i322_15 : zi 322 15 16 13 5 0 := by decide +kernel
theorem i322_16 : zi 322 16 17 13 0 0 := by decide +kernel
theorem i322_17 : zi 322 17 18 3 0 0 := by decide +kernel
theorem i322_18 : zi 322 18 19 1 0 0 := by decide +kernel
theorem i322_19 : zi 322 19 20 1 0 0 := by decide +kernel
theorem i322_20 : zi 322 20 21 0 0 4 := by decide +kernel
theorem i322_21 : zi 322 21 22 13 10 0 := by decide +kernel
theorem i322_22 : zi 322 22 23 13 0 0 := by decide +kernel
theorem i322_23 : zi 322 23 24 0 0 252645135 := by decide +kernel
theorem kc_252645135 : Int32.ofInt 252645135 = 252645135 := by decide +kernel
theorem i322_24 : zi 322 24 25 13 5 0 := by decide +kernel
theorem i322_25 : zi 322 25 26 3 0 0 := by decide +kernel
theorem i322_26 : zi 322 26 27 1 0 0 := by decide +kernel
theorem i322_27 : zi 322 27 28 1 0 0 := by decide +kernel
theorem i322_28 : zi 322 28 29 0 0 8 := by decide +kernel
theorem kc_8 : Int32.ofInt 8 = 8 := by decide +kernel
theorem i322_29 : zi 322 29 30 13 10 0 := by decide +kernel
theorem i322_30 : zi 322 30 31 13 0 0 := by decide +kernel
theorem i322_31 : zi 322 31 32 3 0 0 := by decide +kernel
theorem i322_32 : zi 322 32 33 1 0 0 := by decide +kernel
theorem i322_33 : zi 322 33 34 1 0 0 := by decide +kernel
theorem i322_34 : zi 322 34 35 0 0 16 := by decide +kernel
theorem kc_16 : Int32.ofInt 16 = 16 := by decide +kernel
theorem i322_35 : zi 322 35 36 13 10 0 := by decide +kernel
theorem i322_36 : zi 322 36 37 13 0 0 := by decide +kernel
theorem i322_37 : zi 322 37 38 3 0 0 := by decide +kernel
theorem i322_38 : zi 322 38 39 1 0 0 := by decide +kernel
theorem i322_39 : zi 322 39 40 0 0 63 := by decide +kernel
theorem kc_63 : Int32.ofInt 63 = 63 := by decide +kernel
theorem i322_40 : zi 322 40 41 13 5 0 := by decide +kernel
theorem i322_41 : zi 322 41 42 25 0 0 := by decide +kernel
theorem ml_322 : z_ml 322 = 1 := by decide +kernel
theorem en_322 : ∀ (v0 : zV), z_ent 322 [v0] = [some v0] := fun v0 => by unfold z_ent; rw [ml_322]; rfl
theorem i31_0 : zi 31 0 1 2 0 0 := by decide +kernel
theorem i31_1 : zi 31 1 2 6 3 9 := by decide +kernel
theorem fl_10_9 : zfl 10 3 9 9 (some 70) := by decide +kernel
theorem i31_2 : zi 31 2 3 1 1 0 := by decide +kernel
theorem i31_3 : zi 31 3 4 8 0 0 := by decide +kernel
theorem ar_70 : zar 70 0 20 := by decide +kernel
theorem i31_4 : zi 31 4 5 22 322 0 := by decide +kernel
theorem na_322 : z_na 322 = 1 := by decide +kernel
theorem i31_5 : zi 31 5 6 2 0 0 := by decide +kernel
theorem i31_6 : zi 31 6 7 6 3 8 := by decide +kernel
theorem fl_10_8 : zfl 10 3 8 8 (some 69) := by decide +kernel
theorem i31_7 : zi 31 7 8 1 1 0 := by decide +kernel
theorem i31_8 : zi 31 8 9 8 0 0 := by decide +kernel
theorem ar_69 : zar 69 0 20 := by decide +kernel
theorem i31_9 : zi 31 9 10 19 12 2 := by decide +kernel
theorem i31_12 : zi 31 12 13 0 0 0 := by decide +kernel
theorem i31_10 : zi 31 10 11 0 0 1 := by decide +kernel
theorem i31_11 : zi 31 11 12 17 13 0 := by decide +kernel
theorem i31_13 : zi 31 13 14 26 0 0 := by decide +kernel
theorem ml_31 : z_ml 31 = 2 := by decide +kernel
theorem en_31 : ∀ (v0 v1 : zV), z_ent 31 [v0, v1] = [some v0, some v1] := fun v0 v1 => by unfold z_ent; rw [ml_31]; rfl
theorem i32_0 : zi 32 0 1 2 0 0 := by decide +kernel
theorem i32_1 : zi 32 1 2 6 3 4 := by decide +kernel
theorem i32_2 : zi 32 2 3 0 0 20 := by decide +kernel
theorem i32_3 : zi 32 3 4 19 6 2 := by decide +kernel
theorem i32_6 : zi 32 6 7 2 0 0 := by decide +kernel
theorem i32_7 : zi 32 7 8 6 3 5 := by decide +kernel
theorem i32_8 : zi 32 8 9 2 0 0 := by decide +kernel
theorem i32_9 : zi 32 9 10 6 3 4 := by decide +kernel
theorem i32_10 : zi 32 10 11 1 1 0 := by decide +kernel
theorem i32_11 : zi 32 11 12 10 0 0 := by decide +kernel
theorem i32_12 : zi 32 12 13 2 0 0 := by decide +kernel
theorem i32_13 : zi 32 13 14 6 3 6 := by decide +kernel
theorem i32_14 : zi 32 14 15 2 0 0 := by decide +kernel
theorem i32_15 : zi 32 15 16 6 3 4 := by decide +kernel
theorem i32_16 : zi 32 16 17 1 2 0 := by decide +kernel
theorem i32_17 : zi 32 17 18 10 0 0 := by decide +kernel
theorem i32_18 : zi 32 18 19 2 0 0 := by decide +kernel
theorem i32_19 : zi 32 19 20 6 3 7 := by decide +kernel
theorem i32_20 : zi 32 20 21 2 0 0 := by decide +kernel
theorem i32_21 : zi 32 21 22 6 3 4 := by decide +kernel
theorem i32_22 : zi 32 22 23 1 3 0 := by decide +kernel
theorem i32_23 : zi 32 23 24 10 0 0 := by decide +kernel
theorem i32_24 : zi 32 24 25 2 0 0 := by decide +kernel
theorem i32_25 : zi 32 25 26 6 3 8 := by decide +kernel
theorem i32_26 : zi 32 26 27 2 0 0 := by decide +kernel
theorem i32_27 : zi 32 27 28 6 3 4 := by decide +kernel
theorem i32_28 : zi 32 28 29 1 4 0 := by decide +kernel
theorem i32_29 : zi 32 29 30 10 0 0 := by decide +kernel
theorem i32_30 : zi 32 30 31 2 0 0 := by decide +kernel
theorem i32_31 : zi 32 31 32 14 0 0 := by decide +kernel
theorem i32_32 : zi 32 32 33 6 3 4 := by decide +kernel
theorem i32_33 : zi 32 33 34 0 0 1 := by decide +kernel
theorem i32_34 : zi 32 34 35 13 0 0 := by decide +kernel
theorem i32_35 : zi 32 35 36 7 3 4 := by decide +kernel
theorem i32_36 : zi 32 36 37 0 0 (-10) := by decide +kernel
theorem kc_m10 : Int32.ofInt (-10) = (-10) := by decide +kernel
theorem i32_37 : zi 32 37 38 25 0 0 := by decide +kernel
theorem i32_4 : zi 32 4 5 0 0 (-11) := by decide +kernel
theorem i32_5 : zi 32 5 6 25 0 0 := by decide +kernel
theorem ml_32 : z_ml 32 = 5 := by decide +kernel
theorem en_32 : ∀ (v0 v1 v2 v3 v4 : zV), z_ent 32 [v0, v1, v2, v3, v4] = [some v0, some v1, some v2, some v3, some v4] := fun v0 v1 v2 v3 v4 => by unfold z_ent; rw [ml_32]; rfl
theorem i33_0 : zi 33 0 1 2 0 0 := by decide +kernel
theorem i33_1 : zi 33 1 2 6 3 9 := by decide +kernel
theorem i33_2 : zi 33 2 3 1 1 0 := by decide +kernel
theorem i33_3 : zi 33 3 4 15 0 0 := by decide +kernel
theorem i33_4 : zi 33 4 5 8 0 0 := by decide +kernel
theorem i33_5 : zi 33 5 6 0 0 1 := by decide +kernel
theorem i33_6 : zi 33 6 7 1 2 0 := by decide +kernel
theorem i33_7 : zi 33 7 8 13 8 0 := by decide +kernel
theorem i33_8 : zi 33 8 9 13 6 0 := by decide +kernel
theorem i33_9 : zi 33 9 10 10 0 0 := by decide +kernel
theorem i33_10 : zi 33 10 11 2 0 0 := by decide +kernel
theorem i33_11 : zi 33 11 12 6 3 9 := by decide +kernel
theorem i33_12 : zi 33 12 13 1 1 0 := by decide +kernel
theorem i33_13 : zi 33 13 14 8 0 0 := by decide +kernel
theorem i33_14 : zi 33 14 15 22 322 0 := by decide +kernel
theorem i33_15 : zi 33 15 16 25 0 0 := by decide +kernel
theorem ml_33 : z_ml 33 = 3 := by decide +kernel
theorem en_33 : ∀ (v0 v1 v2 : zV), z_ent 33 [v0, v1, v2] = [some v0, some v1, some v2] := fun v0 v1 v2 => by unfold z_ent; rw [ml_33]; rfl
theorem i34_0 : zi 34 0 1 2 0 0 := by decide +kernel
theorem i34_1 : zi 34 1 2 6 3 10 := by decide +kernel
theorem i34_2 : zi 34 2 3 1 1 0 := by decide +kernel
theorem i34_3 : zi 34 3 4 0 0 1 := by decide +kernel
theorem i34_4 : zi 34 4 5 11 0 0 := by decide +kernel
theorem i34_5 : zi 34 5 6 27 0 0 := by decide +kernel
theorem ml_34 : z_ml 34 = 2 := by decide +kernel
theorem en_34 : ∀ (v0 v1 : zV), z_ent 34 [v0, v1] = [some v0, some v1] := fun v0 v1 => by unfold z_ent; rw [ml_34]; rfl
theorem i36_0 : zi 36 0 1 2 0 0 := by decide +kernel
theorem i36_1 : zi 36 1 2 1 1 0 := by decide +kernel
theorem i36_2 : zi 36 2 3 7 4 4 := by decide +kernel
theorem fl_2_4 : zfl 2 4 4 4 none := by decide +kernel
theorem i36_3 : zi 36 3 4 2 0 0 := by decide +kernel
theorem i36_4 : zi 36 4 5 1 2 0 := by decide +kernel
theorem i36_5 : zi 36 5 6 7 4 5 := by decide +kernel
theorem fl_2_5 : zfl 2 4 5 5 none := by decide +kernel
theorem i36_6 : zi 36 6 7 27 0 0 := by decide +kernel
theorem ml_36 : z_ml 36 = 3 := by decide +kernel
theorem en_36 : ∀ (v0 v1 v2 : zV), z_ent 36 [v0, v1, v2] = [some v0, some v1, some v2] := fun v0 v1 v2 => by unfold z_ent; rw [ml_36]; rfl
theorem i37_0 : zi 37 0 1 2 0 0 := by decide +kernel
theorem i37_1 : zi 37 1 2 6 4 0 := by decide +kernel
theorem fl_2_0 : zfl 2 4 0 0 none := by decide +kernel
theorem i37_2 : zi 37 2 3 25 0 0 := by decide +kernel
theorem ml_37 : z_ml 37 = 1 := by decide +kernel
theorem en_37 : ∀ (v0 : zV), z_ent 37 [v0] = [some v0] := fun v0 => by unfold z_ent; rw [ml_37]; rfl
theorem i38_0 : zi 38 0 1 2 0 0 := by decide +kernel
theorem i38_1 : zi 38 1 2 6 4 3 := by decide +kernel
theorem fl_2_3 : zfl 2 4 3 3 none := by decide +kernel
theorem i38_2 : zi 38 2 3 25 0 0 := by decide +kernel
theorem ml_38 : z_ml 38 = 1 := by decide +kernel
theorem en_38 : ∀ (v0 : zV), z_ent 38 [v0] = [some v0] := fun v0 => by unfold z_ent; rw [ml_38]; rfl
theorem i39_0 : zi 39 0 1 2 0 0 := by decide +kernel
theorem i39_1 : zi 39 1 2 6 4 3 := by decide +kernel
theorem i39_2 : zi 39 2 3 3 2 0 := by decide +kernel
theorem i39_3 : zi 39 3 4 2 0 0 := by decide +kernel
theorem i39_4 : zi 39 4 5 1 1 0 := by decide +kernel
theorem i39_5 : zi 39 5 6 7 4 3 := by decide +kernel
theorem i39_6 : zi 39 6 7 1 2 0 := by decide +kernel
theorem i39_7 : zi 39 7 8 25 0 0 := by decide +kernel
theorem ml_39 : z_ml 39 = 3 := by decide +kernel
theorem en_39 : ∀ (v0 v1 : zV), z_ent 39 [v0, v1] = [some v0, some v1, none] := fun v0 v1 => by unfold z_ent; rw [ml_39]; rfl
theorem i40_0 : zi 40 0 1 2 0 0 := by decide +kernel
theorem i40_1 : zi 40 1 2 14 0 0 := by decide +kernel
theorem i40_2 : zi 40 2 3 6 4 0 := by decide +kernel
theorem i40_3 : zi 40 3 4 0 0 1 := by decide +kernel
theorem i40_4 : zi 40 4 5 13 0 0 := by decide +kernel
theorem i40_5 : zi 40 5 6 7 4 0 := by decide +kernel
theorem i40_6 : zi 40 6 7 2 0 0 := by decide +kernel
theorem i40_7 : zi 40 7 8 0 0 0 := by decide +kernel
theorem i40_8 : zi 40 8 9 7 4 1 := by decide +kernel
theorem fl_2_1 : zfl 2 4 1 1 none := by decide +kernel
theorem i40_9 : zi 40 9 10 2 0 0 := by decide +kernel
theorem i40_10 : zi 40 10 11 1 1 0 := by decide +kernel
theorem i40_11 : zi 40 11 12 7 4 2 := by decide +kernel
theorem fl_2_2 : zfl 2 4 2 2 none := by decide +kernel
theorem i40_12 : zi 40 12 13 2 0 0 := by decide +kernel
theorem i40_13 : zi 40 13 14 6 4 0 := by decide +kernel
theorem i40_14 : zi 40 14 15 25 0 0 := by decide +kernel
theorem ml_40 : z_ml 40 = 2 := by decide +kernel
theorem en_40 : ∀ (v0 v1 : zV), z_ent 40 [v0, v1] = [some v0, some v1] := fun v0 v1 => by unfold z_ent; rw [ml_40]; rfl
theorem i41_0 : zi 41 0 1 2 0 0 := by decide +kernel
theorem i41_1 : zi 41 1 2 6 4 1 := by decide +kernel
theorem i41_2 : zi 41 2 3 2 0 0 := by decide +kernel
theorem i41_3 : zi 41 3 4 6 4 4 := by decide +kernel
theorem i41_4 : zi 41 4 5 19 12 3 := by decide +kernel
theorem i41_12 : zi 41 12 13 2 0 0 := by decide +kernel
theorem i41_13 : zi 41 13 14 1 1 0 := by decide +kernel
theorem i41_14 : zi 41 14 15 21 40 4 := by decide +kernel
theorem na_40 : z_na 40 = 1 := by decide +kernel
theorem ob_2 : zob 2 4 := by decide +kernel
theorem i41_15 : zi 41 15 16 16 0 0 := by decide +kernel
theorem i41_5 : zi 41 5 6 1 1 0 := by decide +kernel
theorem i41_6 : zi 41 6 7 2 0 0 := by decide +kernel
theorem i41_7 : zi 41 7 8 6 4 2 := by decide +kernel
theorem i41_8 : zi 41 8 9 13 1 0 := by decide +kernel
theorem i41_9 : zi 41 9 10 2 0 0 := by decide +kernel
theorem i41_10 : zi 41 10 11 6 4 5 := by decide +kernel
theorem i41_11 : zi 41 11 12 19 16 2 := by decide +kernel
theorem i41_16 : zi 41 16 17 2 0 0 := by decide +kernel
theorem i41_17 : zi 41 17 18 14 0 0 := by decide +kernel
theorem i41_18 : zi 41 18 19 6 4 1 := by decide +kernel
theorem i41_19 : zi 41 19 20 0 0 1 := by decide +kernel
theorem i41_20 : zi 41 20 21 13 0 0 := by decide +kernel
theorem i41_21 : zi 41 21 22 7 4 1 := by decide +kernel
theorem i41_22 : zi 41 22 23 2 0 0 := by decide +kernel
theorem i41_23 : zi 41 23 24 6 4 0 := by decide +kernel
theorem i41_24 : zi 41 24 25 25 0 0 := by decide +kernel
theorem ml_41 : z_ml 41 = 2 := by decide +kernel
theorem en_41 : ∀ (v0 v1 : zV), z_ent 41 [v0, v1] = [some v0, some v1] := fun v0 v1 => by unfold z_ent; rw [ml_41]; rfl
theorem i42_0 : zi 42 0 1 2 0 0 := by decide +kernel
theorem i42_1 : zi 42 1 2 6 5 0 := by decide +kernel
theorem fl_6_0 : zfl 6 5 0 0 none := by decide +kernel
theorem i42_2 : zi 42 2 3 0 0 40 := by decide +kernel
theorem kc_40 : Int32.ofInt 40 = 40 := by decide +kernel
theorem i42_3 : zi 42 3 4 19 6 2 := by decide +kernel
theorem i42_6 : zi 42 6 7 0 0 0 := by decide +kernel
theorem i42_4 : zi 42 4 5 0 0 1 := by decide +kernel
theorem i42_5 : zi 42 5 6 17 7 0 := by decide +kernel
theorem i42_7 : zi 42 7 8 26 0 0 := by decide +kernel
theorem ml_42 : z_ml 42 = 1 := by decide +kernel
theorem en_42 : ∀ (v0 : zV), z_ent 42 [v0] = [some v0] := fun v0 => by unfold z_ent; rw [ml_42]; rfl
theorem i43_0 : zi 43 0 1 1 1 0 := by decide +kernel
theorem i43_1 : zi 43 1 2 18 8 2 := by decide +kernel
theorem i43_8 : zi 43 8 9 0 0 0 := by decide +kernel
theorem i43_2 : zi 43 2 3 1 1 0 := by decide +kernel
theorem i43_3 : zi 43 3 4 2 0 0 := by decide +kernel
theorem i43_4 : zi 43 4 5 6 5 0 := by decide +kernel
theorem i43_5 : zi 43 5 6 19 8 3 := by decide +kernel
theorem i43_6 : zi 43 6 7 0 0 1 := by decide +kernel
theorem i43_7 : zi 43 7 8 17 9 0 := by decide +kernel
theorem i43_9 : zi 43 9 10 26 0 0 := by decide +kernel
theorem ml_43 : z_ml 43 = 2 := by decide +kernel
theorem en_43 : ∀ (v0 v1 : zV), z_ent 43 [v0, v1] = [some v0, some v1] := fun v0 v1 => by unfold z_ent; rw [ml_43]; rfl
theorem i44_0 : zi 44 0 1 2 0 0 := by decide +kernel
theorem i44_1 : zi 44 1 2 6 5 1 := by decide +kernel
theorem fl_6_1 : zfl 6 5 1 1 (some 41) := by decide +kernel
theorem i44_2 : zi 44 2 3 1 1 0 := by decide +kernel
theorem i44_3 : zi 44 3 4 8 0 0 := by decide +kernel
theorem ar_41 : zar 41 0 40 := by decide +kernel
theorem i44_4 : zi 44 4 5 25 0 0 := by decide +kernel
theorem ml_44 : z_ml 44 = 2 := by decide +kernel
theorem en_44 : ∀ (v0 v1 : zV), z_ent 44 [v0, v1] = [some v0, some v1] := fun v0 v1 => by unfold z_ent; rw [ml_44]; rfl
theorem i45_0 : zi 45 0 1 2 0 0 := by decide +kernel
theorem i45_1 : zi 45 1 2 6 5 6 := by decide +kernel
theorem fl_6_6 : zfl 6 5 6 6 (some 46) := by decide +kernel
theorem i45_2 : zi 45 2 3 1 1 0 := by decide +kernel
theorem i45_3 : zi 45 3 4 8 0 0 := by decide +kernel
theorem ar_46 : zar 46 0 40 := by decide +kernel
theorem i45_4 : zi 45 4 5 25 0 0 := by decide +kernel
theorem ml_45 : z_ml 45 = 2 := by decide +kernel
theorem en_45 : ∀ (v0 v1 : zV), z_ent 45 [v0, v1] = [some v0, some v1] := fun v0 v1 => by unfold z_ent; rw [ml_45]; rfl
theorem i46_0 : zi 46 0 1 2 0 0 := by decide +kernel
theorem i46_1 : zi 46 1 2 6 5 4 := by decide +kernel
theorem fl_6_4 : zfl 6 5 4 4 (some 44) := by decide +kernel
theorem i46_2 : zi 46 2 3 1 1 0 := by decide +kernel
theorem i46_3 : zi 46 3 4 8 0 0 := by decide +kernel
theorem ar_44 : zar 44 0 40 := by decide +kernel
theorem i46_4 : zi 46 4 5 25 0 0 := by decide +kernel
theorem ml_46 : z_ml 46 = 2 := by decide +kernel
theorem en_46 : ∀ (v0 v1 : zV), z_ent 46 [v0, v1] = [some v0, some v1] := fun v0 v1 => by unfold z_ent; rw [ml_46]; rfl
theorem i47_0 : zi 47 0 1 2 0 0 := by decide +kernel
theorem i47_1 : zi 47 1 2 6 5 9 := by decide +kernel
theorem fl_6_9 : zfl 6 5 9 9 (some 49) := by decide +kernel
theorem i47_2 : zi 47 2 3 1 1 0 := by decide +kernel
theorem i47_3 : zi 47 3 4 8 0 0 := by decide +kernel
theorem ar_49 : zar 49 0 3 := by decide +kernel
theorem i47_4 : zi 47 4 5 25 0 0 := by decide +kernel
theorem ml_47 : z_ml 47 = 2 := by decide +kernel
theorem en_47 : ∀ (v0 v1 : zV), z_ent 47 [v0, v1] = [some v0, some v1] := fun v0 v1 => by unfold z_ent; rw [ml_47]; rfl
theorem i48_0 : zi 48 0 1 2 0 0 := by decide +kernel
theorem i48_1 : zi 48 1 2 6 5 8 := by decide +kernel
theorem fl_6_8 : zfl 6 5 8 8 (some 48) := by decide +kernel
theorem i48_2 : zi 48 2 3 1 1 0 := by decide +kernel
theorem i48_3 : zi 48 3 4 8 0 0 := by decide +kernel
theorem ar_48 : zar 48 0 3 := by decide +kernel
theorem i48_4 : zi 48 4 5 3 3 0 := by decide +kernel
theorem i48_5 : zi 48 5 6 2 0 0 := by decide +kernel
theorem i48_6 : zi 48 6 7 6 5 8 := by decide +kernel
theorem i48_7 : zi 48 7 8 1 1 0 := by decide +kernel
theorem i48_8 : zi 48 8 9 1 2 0 := by decide +kernel
theorem i48_9 : zi 48 9 10 10 0 0 := by decide +kernel
theorem i48_10 : zi 48 10 11 1 3 0 := by decide +kernel
theorem i48_11 : zi 48 11 12 25 0 0 := by decide +kernel
theorem ml_48 : z_ml 48 = 4 := by decide +kernel
theorem en_48 : ∀ (v0 v1 v2 : zV), z_ent 48 [v0, v1, v2] = [some v0, some v1, some v2, none] := fun v0 v1 v2 => by unfold z_ent; rw [ml_48]; rfl
theorem i49_0 : zi 49 0 1 2 0 0 := by decide +kernel
theorem i49_1 : zi 49 1 2 6 5 8 := by decide +kernel
theorem i49_2 : zi 49 2 3 1 1 0 := by decide +kernel
theorem i49_3 : zi 49 3 4 8 0 0 := by decide +kernel
theorem i49_4 : zi 49 4 5 0 0 1 := by decide +kernel
theorem i49_5 : zi 49 5 6 19 8 1 := by decide +kernel
theorem i49_6 : zi 49 6 7 0 0 0 := by decide +kernel
theorem i49_7 : zi 49 7 8 26 0 0 := by decide +kernel
theorem i49_8 : zi 49 8 9 2 0 0 := by decide +kernel
theorem i49_9 : zi 49 9 10 6 5 9 := by decide +kernel
theorem i49_10 : zi 49 10 11 1 1 0 := by decide +kernel
theorem i49_11 : zi 49 11 12 15 0 0 := by decide +kernel
theorem i49_12 : zi 49 12 13 8 0 0 := by decide +kernel
theorem i49_13 : zi 49 13 14 0 0 1 := by decide +kernel
theorem i49_14 : zi 49 14 15 13 0 0 := by decide +kernel
theorem i49_15 : zi 49 15 16 10 0 0 := by decide +kernel
theorem i49_16 : zi 49 16 17 2 0 0 := by decide +kernel
theorem i49_17 : zi 49 17 18 6 5 8 := by decide +kernel
theorem i49_18 : zi 49 18 19 1 1 0 := by decide +kernel
theorem i49_19 : zi 49 19 20 8 0 0 := by decide +kernel
theorem i49_20 : zi 49 20 21 0 0 2 := by decide +kernel
theorem i49_21 : zi 49 21 22 19 32 1 := by decide +kernel
theorem i49_22 : zi 49 22 23 2 0 0 := by decide +kernel
theorem i49_23 : zi 49 23 24 6 5 10 := by decide +kernel
theorem fl_6_10 : zfl 6 5 10 10 (some 50) := by decide +kernel
theorem i49_24 : zi 49 24 25 1 1 0 := by decide +kernel
theorem i49_25 : zi 49 25 26 15 0 0 := by decide +kernel
theorem i49_26 : zi 49 26 27 8 0 0 := by decide +kernel
theorem ar_50 : zar 50 0 3 := by decide +kernel
theorem i49_27 : zi 49 27 28 0 0 1 := by decide +kernel
theorem i49_28 : zi 49 28 29 13 0 0 := by decide +kernel
theorem i49_29 : zi 49 29 30 10 0 0 := by decide +kernel
theorem i49_30 : zi 49 30 31 0 0 0 := by decide +kernel
theorem i49_31 : zi 49 31 32 26 0 0 := by decide +kernel
theorem i49_32 : zi 49 32 33 0 0 1 := by decide +kernel
theorem i49_33 : zi 49 33 34 26 0 0 := by decide +kernel
theorem ml_49 : z_ml 49 = 2 := by decide +kernel
theorem en_49 : ∀ (v0 v1 : zV), z_ent 49 [v0, v1] = [some v0, some v1] := fun v0 v1 => by unfold z_ent; rw [ml_49]; rfl
theorem i50_0 : zi 50 0 1 2 0 0 := by decide +kernel
theorem i50_1 : zi 50 1 2 6 5 0 := by decide +kernel
theorem i50_2 : zi 50 2 3 3 4 0 := by decide +kernel
theorem i50_3 : zi 50 3 4 2 0 0 := by decide +kernel
theorem i50_4 : zi 50 4 5 6 5 1 := by decide +kernel
theorem i50_5 : zi 50 5 6 1 4 0 := by decide +kernel
theorem i50_6 : zi 50 6 7 1 1 0 := by decide +kernel
theorem i50_7 : zi 50 7 8 10 0 0 := by decide +kernel
theorem i50_8 : zi 50 8 9 2 0 0 := by decide +kernel
theorem i50_9 : zi 50 9 10 6 5 2 := by decide +kernel
theorem fl_6_2 : zfl 6 5 2 2 (some 42) := by decide +kernel
theorem i50_10 : zi 50 10 11 1 4 0 := by decide +kernel
theorem i50_11 : zi 50 11 12 1 2 0 := by decide +kernel
theorem i50_12 : zi 50 12 13 10 0 0 := by decide +kernel
theorem ar_42 : zar 42 0 40 := by decide +kernel
theorem i50_13 : zi 50 13 14 2 0 0 := by decide +kernel
theorem i50_14 : zi 50 14 15 6 5 3 := by decide +kernel
theorem fl_6_3 : zfl 6 5 3 3 (some 43) := by decide +kernel
theorem i50_15 : zi 50 15 16 1 4 0 := by decide +kernel
theorem i50_16 : zi 50 16 17 1 3 0 := by decide +kernel
theorem i50_17 : zi 50 17 18 10 0 0 := by decide +kernel
theorem ar_43 : zar 43 0 40 := by decide +kernel
theorem i50_18 : zi 50 18 19 2 0 0 := by decide +kernel
theorem i50_19 : zi 50 19 20 6 5 6 := by decide +kernel
theorem i50_20 : zi 50 20 21 1 4 0 := by decide +kernel
theorem i50_21 : zi 50 21 22 0 0 0 := by decide +kernel
theorem i50_22 : zi 50 22 23 10 0 0 := by decide +kernel
theorem i50_23 : zi 50 23 24 2 0 0 := by decide +kernel
theorem i50_24 : zi 50 24 25 6 5 7 := by decide +kernel
theorem fl_6_7 : zfl 6 5 7 7 (some 47) := by decide +kernel
theorem i50_25 : zi 50 25 26 1 4 0 := by decide +kernel
theorem i50_26 : zi 50 26 27 0 0 0 := by decide +kernel
theorem i50_27 : zi 50 27 28 10 0 0 := by decide +kernel
theorem ar_47 : zar 47 0 40 := by decide +kernel
theorem i50_28 : zi 50 28 29 2 0 0 := by decide +kernel
theorem i50_29 : zi 50 29 30 14 0 0 := by decide +kernel
theorem i50_30 : zi 50 30 31 6 5 0 := by decide +kernel
theorem i50_31 : zi 50 31 32 0 0 1 := by decide +kernel
theorem i50_32 : zi 50 32 33 13 0 0 := by decide +kernel
theorem i50_33 : zi 50 33 34 7 5 0 := by decide +kernel
theorem i50_34 : zi 50 34 35 1 4 0 := by decide +kernel
theorem i50_35 : zi 50 35 36 25 0 0 := by decide +kernel
theorem ml_50 : z_ml 50 = 5 := by decide +kernel
theorem en_50 : ∀ (v0 v1 v2 v3 : zV), z_ent 50 [v0, v1, v2, v3] = [some v0, some v1, some v2, some v3, none] := fun v0 v1 v2 v3 => by unfold z_ent; rw [ml_50]; rfl
theorem i51_0 : zi 51 0 1 2 0 0 := by decide +kernel
theorem i51_1 : zi 51 1 2 6 5 4 := by decide +kernel
theorem i51_2 : zi 51 2 3 1 1 0 := by decide +kernel
theorem i51_3 : zi 51 3 4 1 2 0 := by decide +kernel
theorem i51_4 : zi 51 4 5 10 0 0 := by decide +kernel
theorem i51_5 : zi 51 5 6 2 0 0 := by decide +kernel
theorem i51_6 : zi 51 6 7 6 5 5 := by decide +kernel
theorem fl_6_5 : zfl 6 5 5 5 (some 45) := by decide +kernel
theorem i51_7 : zi 51 7 8 1 1 0 := by decide +kernel
theorem i51_8 : zi 51 8 9 1 3 0 := by decide +kernel
theorem i51_9 : zi 51 9 10 10 0 0 := by decide +kernel
theorem ar_45 : zar 45 0 40 := by decide +kernel
theorem i51_10 : zi 51 10 11 27 0 0 := by decide +kernel
theorem ml_51 : z_ml 51 = 4 := by decide +kernel
theorem en_51 : ∀ (v0 v1 v2 v3 : zV), z_ent 51 [v0, v1, v2, v3] = [some v0, some v1, some v2, some v3] := fun v0 v1 v2 v3 => by unfold z_ent; rw [ml_51]; rfl
theorem i52_0 : zi 52 0 1 2 0 0 := by decide +kernel
theorem i52_1 : zi 52 1 2 6 5 4 := by decide +kernel
theorem i52_2 : zi 52 2 3 1 1 0 := by decide +kernel
theorem i52_3 : zi 52 3 4 1 2 0 := by decide +kernel
theorem i52_4 : zi 52 4 5 2 0 0 := by decide +kernel
theorem i52_5 : zi 52 5 6 6 5 5 := by decide +kernel
theorem i52_6 : zi 52 6 7 1 1 0 := by decide +kernel
theorem i52_7 : zi 52 7 8 8 0 0 := by decide +kernel
theorem i52_8 : zi 52 8 9 1 3 0 := by decide +kernel
theorem i52_9 : zi 52 9 10 24 0 0 := by decide +kernel
theorem i52_10 : zi 52 10 11 24 0 0 := by decide +kernel
theorem i52_11 : zi 52 11 12 10 0 0 := by decide +kernel
theorem i52_12 : zi 52 12 13 2 0 0 := by decide +kernel
theorem i52_13 : zi 52 13 14 6 5 4 := by decide +kernel
theorem i52_14 : zi 52 14 15 1 1 0 := by decide +kernel
theorem i52_15 : zi 52 15 16 8 0 0 := by decide +kernel
theorem i52_16 : zi 52 16 17 25 0 0 := by decide +kernel
theorem ml_52 : z_ml 52 = 4 := by decide +kernel
theorem en_52 : ∀ (v0 v1 v2 v3 : zV), z_ent 52 [v0, v1, v2, v3] = [some v0, some v1, some v2, some v3] := fun v0 v1 v2 v3 => by unfold z_ent; rw [ml_52]; rfl
theorem i60_0 : zi 60 0 1 2 0 0 := by decide +kernel
theorem i60_1 : zi 60 1 2 6 5 3 := by decide +kernel
theorem i60_2 : zi 60 2 3 1 1 0 := by decide +kernel
theorem i60_3 : zi 60 3 4 8 0 0 := by decide +kernel
theorem i60_4 : zi 60 4 5 3 2 0 := by decide +kernel
theorem i60_5 : zi 60 5 6 2 0 0 := by decide +kernel
theorem i60_6 : zi 60 6 7 6 5 7 := by decide +kernel
theorem i60_7 : zi 60 7 8 1 1 0 := by decide +kernel
theorem i60_8 : zi 60 8 9 15 0 0 := by decide +kernel
theorem i60_9 : zi 60 9 10 8 0 0 := by decide +kernel
theorem i60_10 : zi 60 10 11 0 0 1 := by decide +kernel
theorem i60_11 : zi 60 11 12 13 0 0 := by decide +kernel
theorem i60_12 : zi 60 12 13 10 0 0 := by decide +kernel
theorem i60_13 : zi 60 13 14 2 0 0 := by decide +kernel
theorem i60_14 : zi 60 14 15 6 5 8 := by decide +kernel
theorem i60_15 : zi 60 15 16 1 2 0 := by decide +kernel
theorem i60_16 : zi 60 16 17 8 0 0 := by decide +kernel
theorem i60_17 : zi 60 17 18 0 0 1 := by decide +kernel
theorem i60_18 : zi 60 18 19 19 33 0 := by decide +kernel
theorem i60_33 : zi 60 33 34 2 0 0 := by decide +kernel
theorem i60_34 : zi 60 34 35 6 5 6 := by decide +kernel
theorem i60_35 : zi 60 35 36 1 1 0 := by decide +kernel
theorem i60_36 : zi 60 36 37 2 0 0 := by decide +kernel
theorem i60_37 : zi 60 37 38 6 5 7 := by decide +kernel
theorem i60_38 : zi 60 38 39 1 1 0 := by decide +kernel
theorem i60_39 : zi 60 39 40 8 0 0 := by decide +kernel
theorem i60_40 : zi 60 40 41 0 0 3 := by decide +kernel
theorem kc_3 : Int32.ofInt 3 = 3 := by decide +kernel
theorem i60_41 : zi 60 41 42 19 44 3 := by decide +kernel
theorem i60_44 : zi 60 44 45 0 0 3 := by decide +kernel
theorem i60_42 : zi 60 42 43 0 0 1 := by decide +kernel
theorem i60_43 : zi 60 43 44 17 45 0 := by decide +kernel
theorem i60_45 : zi 60 45 46 10 0 0 := by decide +kernel
theorem i60_19 : zi 60 19 20 2 0 0 := by decide +kernel
theorem i60_20 : zi 60 20 21 6 5 9 := by decide +kernel
theorem i60_21 : zi 60 21 22 1 2 0 := by decide +kernel
theorem i60_22 : zi 60 22 23 15 0 0 := by decide +kernel
theorem i60_23 : zi 60 23 24 8 0 0 := by decide +kernel
theorem i60_24 : zi 60 24 25 0 0 1 := by decide +kernel
theorem i60_25 : zi 60 25 26 13 1 0 := by decide +kernel
theorem i60_26 : zi 60 26 27 10 0 0 := by decide +kernel
theorem i60_27 : zi 60 27 28 2 0 0 := by decide +kernel
theorem i60_28 : zi 60 28 29 6 5 6 := by decide +kernel
theorem i60_29 : zi 60 29 30 1 1 0 := by decide +kernel
theorem i60_30 : zi 60 30 31 0 0 2 := by decide +kernel
theorem i60_31 : zi 60 31 32 10 0 0 := by decide +kernel
theorem i60_32 : zi 60 32 33 17 46 0 := by decide +kernel
theorem i60_46 : zi 60 46 47 27 0 0 := by decide +kernel
theorem ml_60 : z_ml 60 = 3 := by decide +kernel
theorem en_60 : ∀ (v0 v1 : zV), z_ent 60 [v0, v1] = [some v0, some v1, none] := fun v0 v1 => by unfold z_ent; rw [ml_60]; rfl
theorem i59_0 : zi 59 0 1 2 0 0 := by decide +kernel
theorem i59_1 : zi 59 1 2 6 5 4 := by decide +kernel
theorem i59_2 : zi 59 2 3 1 1 0 := by decide +kernel
theorem i59_3 : zi 59 3 4 1 2 0 := by decide +kernel
theorem i59_4 : zi 59 4 5 10 0 0 := by decide +kernel
theorem i59_5 : zi 59 5 6 2 0 0 := by decide +kernel
theorem i59_6 : zi 59 6 7 1 1 0 := by decide +kernel
theorem i59_7 : zi 59 7 8 21 60 5 := by decide +kernel
theorem na_60 : z_na 60 = 1 := by decide +kernel
theorem ob_6 : zob 6 5 := by decide +kernel
theorem i59_8 : zi 59 8 9 27 0 0 := by decide +kernel
theorem ml_59 : z_ml 59 = 3 := by decide +kernel
theorem en_59 : ∀ (v0 v1 v2 : zV), z_ent 59 [v0, v1, v2] = [some v0, some v1, some v2] := fun v0 v1 v2 => by unfold z_ent; rw [ml_59]; rfl
theorem i116_0 : zi 116 0 1 2 0 0 := by decide +kernel
theorem i116_1 : zi 116 1 2 6 10 11 := by decide +kernel
theorem fl_5_11 : zfl 5 10 11 11 (some 40) := by decide +kernel
theorem i116_2 : zi 116 2 3 1 1 0 := by decide +kernel
theorem i116_3 : zi 116 3 4 9 0 0 := by decide +kernel
theorem ar_40 : zar 40 1 40 := by decide +kernel
theorem i116_4 : zi 116 4 5 18 7 1 := by decide +kernel
theorem i116_5 : zi 116 5 6 0 0 1 := by decide +kernel
theorem i116_6 : zi 116 6 7 17 8 0 := by decide +kernel
theorem i116_7 : zi 116 7 8 0 0 0 := by decide +kernel
theorem i116_8 : zi 116 8 9 26 0 0 := by decide +kernel
theorem ml_116 : z_ml 116 = 2 := by decide +kernel
theorem en_116 : ∀ (v0 v1 : zV), z_ent 116 [v0, v1] = [some v0, some v1] := fun v0 v1 => by unfold z_ent; rw [ml_116]; rfl
theorem i61_0 : zi 61 0 1 2 0 0 := by decide +kernel
theorem i61_1 : zi 61 1 2 6 6 0 := by decide +kernel
theorem fl_4_0 : zfl 4 6 0 0 (some 20) := by decide +kernel
theorem i61_2 : zi 61 2 3 1 1 0 := by decide +kernel
theorem i61_3 : zi 61 3 4 8 0 0 := by decide +kernel
theorem ar_20 : zar 20 0 8 := by decide +kernel
theorem i61_4 : zi 61 4 5 0 0 5 := by decide +kernel
theorem i61_5 : zi 61 5 6 19 8 3 := by decide +kernel
theorem i61_8 : zi 61 8 9 0 0 0 := by decide +kernel
theorem i61_6 : zi 61 6 7 0 0 1 := by decide +kernel
theorem i61_7 : zi 61 7 8 17 9 0 := by decide +kernel
theorem i61_9 : zi 61 9 10 26 0 0 := by decide +kernel
theorem ml_61 : z_ml 61 = 2 := by decide +kernel
theorem en_61 : ∀ (v0 v1 : zV), z_ent 61 [v0, v1] = [some v0, some v1] := fun v0 v1 => by unfold z_ent; rw [ml_61]; rfl
theorem i62_0 : zi 62 0 1 1 1 0 := by decide +kernel
theorem i62_1 : zi 62 1 2 0 0 5 := by decide +kernel
theorem i62_2 : zi 62 2 3 13 2 0 := by decide +kernel
theorem i62_3 : zi 62 3 4 2 0 0 := by decide +kernel
theorem i62_4 : zi 62 4 5 6 6 0 := by decide +kernel
theorem i62_5 : zi 62 5 6 1 1 0 := by decide +kernel
theorem i62_6 : zi 62 6 7 8 0 0 := by decide +kernel
theorem i62_7 : zi 62 7 8 13 0 0 := by decide +kernel
theorem i62_8 : zi 62 8 9 3 7 0 := by decide +kernel
theorem i62_9 : zi 62 9 10 2 0 0 := by decide +kernel
theorem i62_10 : zi 62 10 11 6 6 1 := by decide +kernel
theorem fl_4_1 : zfl 4 6 1 1 (some 21) := by decide +kernel
theorem i62_11 : zi 62 11 12 1 7 0 := by decide +kernel
theorem i62_12 : zi 62 12 13 0 0 3 := by decide +kernel
theorem i62_13 : zi 62 13 14 13 2 0 := by decide +kernel
theorem i62_14 : zi 62 14 15 1 2 0 := by decide +kernel
theorem i62_15 : zi 62 15 16 10 0 0 := by decide +kernel
theorem ar_21 : zar 21 0 120 := by decide +kernel
theorem i62_16 : zi 62 16 17 2 0 0 := by decide +kernel
theorem i62_17 : zi 62 17 18 6 6 1 := by decide +kernel
theorem i62_18 : zi 62 18 19 1 7 0 := by decide +kernel
theorem i62_19 : zi 62 19 20 0 0 3 := by decide +kernel
theorem i62_20 : zi 62 20 21 13 2 0 := by decide +kernel
theorem i62_21 : zi 62 21 22 0 0 1 := by decide +kernel
theorem i62_22 : zi 62 22 23 13 0 0 := by decide +kernel
theorem i62_23 : zi 62 23 24 1 3 0 := by decide +kernel
theorem i62_24 : zi 62 24 25 10 0 0 := by decide +kernel
theorem i62_25 : zi 62 25 26 2 0 0 := by decide +kernel
theorem i62_26 : zi 62 26 27 6 6 1 := by decide +kernel
theorem i62_27 : zi 62 27 28 1 7 0 := by decide +kernel
theorem i62_28 : zi 62 28 29 0 0 3 := by decide +kernel
theorem i62_29 : zi 62 29 30 13 2 0 := by decide +kernel
theorem i62_30 : zi 62 30 31 0 0 2 := by decide +kernel
theorem i62_31 : zi 62 31 32 13 0 0 := by decide +kernel
theorem i62_32 : zi 62 32 33 1 4 0 := by decide +kernel
theorem i62_33 : zi 62 33 34 10 0 0 := by decide +kernel
theorem i62_34 : zi 62 34 35 2 0 0 := by decide +kernel
theorem i62_35 : zi 62 35 36 6 6 2 := by decide +kernel
theorem fl_4_2 : zfl 4 6 2 2 (some 22) := by decide +kernel
theorem i62_36 : zi 62 36 37 1 7 0 := by decide +kernel
theorem i62_37 : zi 62 37 38 1 5 0 := by decide +kernel
theorem i62_38 : zi 62 38 39 10 0 0 := by decide +kernel
theorem ar_22 : zar 22 0 40 := by decide +kernel
theorem i62_39 : zi 62 39 40 2 0 0 := by decide +kernel
theorem i62_40 : zi 62 40 41 6 6 3 := by decide +kernel
theorem fl_4_3 : zfl 4 6 3 3 (some 23) := by decide +kernel
theorem i62_41 : zi 62 41 42 1 7 0 := by decide +kernel
theorem i62_42 : zi 62 42 43 1 6 0 := by decide +kernel
theorem i62_43 : zi 62 43 44 10 0 0 := by decide +kernel
theorem ar_23 : zar 23 0 40 := by decide +kernel
theorem i62_44 : zi 62 44 45 2 0 0 := by decide +kernel
theorem i62_45 : zi 62 45 46 6 6 0 := by decide +kernel
theorem i62_46 : zi 62 46 47 1 1 0 := by decide +kernel
theorem i62_47 : zi 62 47 48 15 0 0 := by decide +kernel
theorem i62_48 : zi 62 48 49 8 0 0 := by decide +kernel
theorem i62_49 : zi 62 49 50 0 0 1 := by decide +kernel
theorem i62_50 : zi 62 50 51 13 0 0 := by decide +kernel
theorem i62_51 : zi 62 51 52 10 0 0 := by decide +kernel
theorem i62_52 : zi 62 52 53 2 0 0 := by decide +kernel
theorem i62_53 : zi 62 53 54 6 6 0 := by decide +kernel
theorem i62_54 : zi 62 54 55 1 1 0 := by decide +kernel
theorem i62_55 : zi 62 55 56 8 0 0 := by decide +kernel
theorem i62_56 : zi 62 56 57 25 0 0 := by decide +kernel
theorem ml_62 : z_ml 62 = 8 := by decide +kernel
theorem en_62 : ∀ (v0 v1 v2 v3 v4 v5 v6 : zV), z_ent 62 [v0, v1, v2, v3, v4, v5, v6] = [some v0, some v1, some v2, some v3, some v4, some v5, some v6, none] := fun v0 v1 v2 v3 v4 v5 v6 => by unfold z_ent; rw [ml_62]; rfl
theorem i65_0 : zi 65 0 1 1 1 0 := by decide +kernel
theorem i65_1 : zi 65 1 2 0 0 5 := by decide +kernel
theorem i65_2 : zi 65 2 3 13 3 0 := by decide +kernel
theorem nz_5 : ¬ (5 : Int32) = 0 := by decide
theorem i65_3 : zi 65 3 4 3 3 0 := by decide +kernel
theorem i65_4 : zi 65 4 5 1 2 0 := by decide +kernel
theorem i65_5 : zi 65 5 6 1 3 0 := by decide +kernel
theorem i65_6 : zi 65 6 7 13 9 0 := by decide +kernel
theorem i65_7 : zi 65 7 8 0 0 1 := by decide +kernel
theorem i65_8 : zi 65 8 9 13 5 0 := by decide +kernel
theorem i65_9 : zi 65 9 10 0 0 1 := by decide +kernel
theorem i65_10 : zi 65 10 11 19 21 1 := by decide +kernel
theorem i65_11 : zi 65 11 12 1 1 0 := by decide +kernel
theorem i65_12 : zi 65 12 13 0 0 5 := by decide +kernel
theorem i65_13 : zi 65 13 14 13 4 0 := by decide +kernel
theorem i65_14 : zi 65 14 15 2 0 0 := by decide +kernel
theorem i65_15 : zi 65 15 16 6 6 0 := by decide +kernel
theorem i65_16 : zi 65 16 17 1 3 0 := by decide +kernel
theorem i65_17 : zi 65 17 18 8 0 0 := by decide +kernel
theorem i65_18 : zi 65 18 19 19 21 3 := by decide +kernel
theorem i65_21 : zi 65 21 22 0 0 0 := by decide +kernel
theorem i65_19 : zi 65 19 20 0 0 1 := by decide +kernel
theorem i65_20 : zi 65 20 21 17 22 0 := by decide +kernel
theorem i65_22 : zi 65 22 23 26 0 0 := by decide +kernel
theorem ml_65 : z_ml 65 = 4 := by decide +kernel
theorem en_65 : ∀ (v0 v1 v2 : zV), z_ent 65 [v0, v1, v2] = [some v0, some v1, some v2, none] := fun v0 v1 v2 => by unfold z_ent; rw [ml_65]; rfl
theorem i68_0 : zi 68 0 1 1 1 0 := by decide +kernel
theorem i68_1 : zi 68 1 2 18 5 1 := by decide +kernel
theorem i68_2 : zi 68 2 3 1 0 0 := by decide +kernel
theorem i68_3 : zi 68 3 4 34 195 0 := by decide +kernel
theorem i68_4 : zi 68 4 5 25 0 0 := by decide +kernel
theorem i68_5 : zi 68 5 6 1 1 0 := by decide +kernel
theorem i68_6 : zi 68 6 7 0 0 1 := by decide +kernel
theorem i68_7 : zi 68 7 8 19 14 1 := by decide +kernel
theorem i68_8 : zi 68 8 9 1 0 0 := by decide +kernel
theorem i68_9 : zi 68 9 10 0 0 6 := by decide +kernel
theorem kc_6 : Int32.ofInt 6 = 6 := by decide +kernel
theorem i68_10 : zi 68 10 11 13 3 0 := by decide +kernel
theorem nz_6 : ¬ (6 : Int32) = 0 := by decide
theorem i68_11 : zi 68 11 12 0 0 6 := by decide +kernel
theorem i68_12 : zi 68 12 13 13 4 0 := by decide +kernel
theorem i68_13 : zi 68 13 14 17 17 0 := by decide +kernel
theorem i68_14 : zi 68 14 15 1 0 0 := by decide +kernel
theorem i68_15 : zi 68 15 16 0 0 6 := by decide +kernel
theorem i68_16 : zi 68 16 17 13 4 0 := by decide +kernel
theorem i68_17 : zi 68 17 18 25 0 0 := by decide +kernel
theorem ml_68 : z_ml 68 = 2 := by decide +kernel
theorem en_68 : ∀ (v0 v1 : zV), z_ent 68 [v0, v1] = [some v0, some v1] := fun v0 v1 => by unfold z_ent; rw [ml_68]; rfl
theorem i67_0 : zi 67 0 1 1 0 0 := by decide +kernel
theorem i67_1 : zi 67 1 2 0 0 8 := by decide +kernel
theorem i67_2 : zi 67 2 3 19 5 1 := by decide +kernel
theorem i67_3 : zi 67 3 4 0 0 3 := by decide +kernel
theorem i67_4 : zi 67 4 5 25 0 0 := by decide +kernel
theorem i67_5 : zi 67 5 6 1 0 0 := by decide +kernel
theorem i67_6 : zi 67 6 7 0 0 6 := by decide +kernel
theorem i67_7 : zi 67 7 8 19 10 1 := by decide +kernel
theorem i67_8 : zi 67 8 9 0 0 2 := by decide +kernel
theorem i67_9 : zi 67 9 10 25 0 0 := by decide +kernel
theorem i67_10 : zi 67 10 11 1 0 0 := by decide +kernel
theorem i67_11 : zi 67 11 12 0 0 7 := by decide +kernel
theorem kc_7 : Int32.ofInt 7 = 7 := by decide +kernel
theorem i67_12 : zi 67 12 13 19 25 1 := by decide +kernel
theorem i67_13 : zi 67 13 14 1 1 0 := by decide +kernel
theorem i67_14 : zi 67 14 15 0 0 (-1) := by decide +kernel
theorem i67_15 : zi 67 15 16 19 23 0 := by decide +kernel
theorem i67_23 : zi 67 23 24 0 0 4 := by decide +kernel
theorem i67_16 : zi 67 16 17 1 1 0 := by decide +kernel
theorem i67_17 : zi 67 17 18 0 0 6 := by decide +kernel
theorem i67_18 : zi 67 18 19 13 4 0 := by decide +kernel
theorem i67_19 : zi 67 19 20 1 2 0 := by decide +kernel
theorem i67_20 : zi 67 20 21 19 23 1 := by decide +kernel
theorem i67_21 : zi 67 21 22 0 0 1 := by decide +kernel
theorem i67_22 : zi 67 22 23 17 24 0 := by decide +kernel
theorem i67_24 : zi 67 24 25 25 0 0 := by decide +kernel
theorem i67_25 : zi 67 25 26 1 0 0 := by decide +kernel
theorem i67_26 : zi 67 26 27 1 2 0 := by decide +kernel
theorem i67_27 : zi 67 27 28 19 30 1 := by decide +kernel
theorem i67_28 : zi 67 28 29 0 0 0 := by decide +kernel
theorem i67_29 : zi 67 29 30 17 31 0 := by decide +kernel
theorem i67_30 : zi 67 30 31 0 0 4 := by decide +kernel
theorem i67_31 : zi 67 31 32 25 0 0 := by decide +kernel
theorem ml_67 : z_ml 67 = 3 := by decide +kernel
theorem en_67 : ∀ (v0 v1 v2 : zV), z_ent 67 [v0, v1, v2] = [some v0, some v1, some v2] := fun v0 v1 v2 => by unfold z_ent; rw [ml_67]; rfl
theorem i69_0 : zi 69 0 1 1 0 0 := by decide +kernel
theorem i69_1 : zi 69 1 2 18 4 1 := by decide +kernel
theorem i69_2 : zi 69 2 3 0 0 3 := by decide +kernel
theorem i69_3 : zi 69 3 4 25 0 0 := by decide +kernel
theorem i69_4 : zi 69 4 5 1 0 0 := by decide +kernel
theorem i69_5 : zi 69 5 6 0 0 1 := by decide +kernel
theorem i69_6 : zi 69 6 7 19 9 1 := by decide +kernel
theorem i69_7 : zi 69 7 8 0 0 8 := by decide +kernel
theorem i69_8 : zi 69 8 9 17 10 0 := by decide +kernel
theorem i69_9 : zi 69 9 10 0 0 4 := by decide +kernel
theorem i69_10 : zi 69 10 11 25 0 0 := by decide +kernel
theorem ml_69 : z_ml 69 = 1 := by decide +kernel
theorem en_69 : ∀ (v0 : zV), z_ent 69 [v0] = [some v0] := fun v0 => by unfold z_ent; rw [ml_69]; rfl
theorem i80_0 : zi 80 0 1 2 0 0 := by decide +kernel
theorem i80_1 : zi 80 1 2 1 1 0 := by decide +kernel
theorem i80_2 : zi 80 2 3 8 0 0 := by decide +kernel
theorem ar_24 : zar 24 0 18 := by decide +kernel
theorem i80_3 : zi 80 3 4 3 3 0 := by decide +kernel
theorem i80_4 : zi 80 4 5 2 0 0 := by decide +kernel
theorem i80_5 : zi 80 5 6 1 1 0 := by decide +kernel
theorem i80_6 : zi 80 6 7 1 2 0 := by decide +kernel
theorem i80_7 : zi 80 7 8 10 0 0 := by decide +kernel
theorem i80_8 : zi 80 8 9 1 3 0 := by decide +kernel
theorem i80_9 : zi 80 9 10 25 0 0 := by decide +kernel
theorem ml_80 : z_ml 80 = 4 := by decide +kernel
theorem en_80 : ∀ (v0 v1 v2 : zV), z_ent 80 [v0, v1, v2] = [some v0, some v1, some v2, none] := fun v0 v1 v2 => by unfold z_ent; rw [ml_80]; rfl
theorem ar_25 : zar 25 0 3 := by decide +kernel
theorem ar_26 : zar 26 0 8 := by decide +kernel
theorem ar_27 : zar 27 0 4 := by decide +kernel
theorem i70_0 : zi 70 0 1 1 1 0 := by decide +kernel
theorem i70_1 : zi 70 1 2 18 8 1 := by decide +kernel
theorem i70_2 : zi 70 2 3 2 0 0 := by decide +kernel
theorem i70_3 : zi 70 3 4 6 6 5 := by decide +kernel
theorem fl_4_5 : zfl 4 6 5 5 (some 25) := by decide +kernel
theorem i70_4 : zi 70 4 5 1 2 0 := by decide +kernel
theorem i70_5 : zi 70 5 6 1 3 0 := by decide +kernel
theorem i70_6 : zi 70 6 7 22 80 0 := by decide +kernel
theorem na_80 : z_na 80 = 3 := by decide +kernel
theorem i70_7 : zi 70 7 8 25 0 0 := by decide +kernel
theorem i70_8 : zi 70 8 9 1 1 0 := by decide +kernel
theorem i70_9 : zi 70 9 10 0 0 1 := by decide +kernel
theorem i70_10 : zi 70 10 11 19 14 1 := by decide +kernel
theorem i70_11 : zi 70 11 12 2 0 0 := by decide +kernel
theorem i70_12 : zi 70 12 13 6 6 6 := by decide +kernel
theorem fl_4_6 : zfl 4 6 6 6 (some 26) := by decide +kernel
theorem i70_13 : zi 70 13 14 17 16 0 := by decide +kernel
theorem i70_14 : zi 70 14 15 2 0 0 := by decide +kernel
theorem i70_15 : zi 70 15 16 6 6 7 := by decide +kernel
theorem fl_4_7 : zfl 4 6 7 7 (some 27) := by decide +kernel
theorem i70_16 : zi 70 16 17 1 2 0 := by decide +kernel
theorem i70_17 : zi 70 17 18 1 3 0 := by decide +kernel
theorem i70_18 : zi 70 18 19 22 80 0 := by decide +kernel
theorem i70_19 : zi 70 19 20 25 0 0 := by decide +kernel
theorem ml_70 : z_ml 70 = 4 := by decide +kernel
theorem en_70 : ∀ (v0 v1 v2 v3 : zV), z_ent 70 [v0, v1, v2, v3] = [some v0, some v1, some v2, some v3] := fun v0 v1 v2 v3 => by unfold z_ent; rw [ml_70]; rfl
theorem i71_0 : zi 71 0 1 2 0 0 := by decide +kernel
theorem i71_1 : zi 71 1 2 6 6 4 := by decide +kernel
theorem fl_4_4 : zfl 4 6 4 4 (some 24) := by decide +kernel
theorem i71_2 : zi 71 2 3 1 1 0 := by decide +kernel
theorem i71_3 : zi 71 3 4 0 0 6 := by decide +kernel
theorem i71_4 : zi 71 4 5 13 2 0 := by decide +kernel
theorem i71_5 : zi 71 5 6 1 2 0 := by decide +kernel
theorem i71_6 : zi 71 6 7 13 0 0 := by decide +kernel
theorem i71_7 : zi 71 7 8 1 3 0 := by decide +kernel
theorem i71_8 : zi 71 8 9 22 80 0 := by decide +kernel
theorem i71_9 : zi 71 9 10 25 0 0 := by decide +kernel
theorem ml_71 : z_ml 71 = 4 := by decide +kernel
theorem en_71 : ∀ (v0 v1 v2 v3 : zV), z_ent 71 [v0, v1, v2, v3] = [some v0, some v1, some v2, some v3] := fun v0 v1 v2 v3 => by unfold z_ent; rw [ml_71]; rfl
theorem i72_0 : zi 72 0 1 2 0 0 := by decide +kernel
theorem i72_1 : zi 72 1 2 6 6 4 := by decide +kernel
theorem i72_2 : zi 72 2 3 1 1 0 := by decide +kernel
theorem i72_3 : zi 72 3 4 0 0 6 := by decide +kernel
theorem i72_4 : zi 72 4 5 13 2 0 := by decide +kernel
theorem i72_5 : zi 72 5 6 1 2 0 := by decide +kernel
theorem i72_6 : zi 72 6 7 13 0 0 := by decide +kernel
theorem i72_7 : zi 72 7 8 8 0 0 := by decide +kernel
theorem i72_8 : zi 72 8 9 25 0 0 := by decide +kernel
theorem ml_72 : z_ml 72 = 3 := by decide +kernel
theorem en_72 : ∀ (v0 v1 v2 : zV), z_ent 72 [v0, v1, v2] = [some v0, some v1, some v2] := fun v0 v1 v2 => by unfold z_ent; rw [ml_72]; rfl
theorem i73_0 : zi 73 0 1 2 0 0 := by decide +kernel
theorem i73_1 : zi 73 1 2 6 6 5 := by decide +kernel
theorem i73_2 : zi 73 2 3 1 1 0 := by decide +kernel
theorem i73_3 : zi 73 3 4 8 0 0 := by decide +kernel
theorem i73_4 : zi 73 4 5 25 0 0 := by decide +kernel
theorem ml_73 : z_ml 73 = 2 := by decide +kernel
theorem en_73 : ∀ (v0 v1 : zV), z_ent 73 [v0, v1] = [some v0, some v1] := fun v0 v1 => by unfold z_ent; rw [ml_73]; rfl
theorem i81_0 : zi 81 0 1 2 0 0 := by decide +kernel
theorem i81_1 : zi 81 1 2 1 1 0 := by decide +kernel
theorem i81_2 : zi 81 2 3 8 0 0 := by decide +kernel
theorem ar_28 : zar 28 0 4 := by decide +kernel
theorem i81_3 : zi 81 3 4 1 2 0 := by decide +kernel
theorem i81_4 : zi 81 4 5 13 9 0 := by decide +kernel
theorem i81_5 : zi 81 5 6 0 0 1 := by decide +kernel
theorem i81_6 : zi 81 6 7 13 5 0 := by decide +kernel
theorem i81_7 : zi 81 7 8 0 0 1 := by decide +kernel
theorem i81_8 : zi 81 8 9 19 11 1 := by decide +kernel
theorem i81_9 : zi 81 9 10 0 0 1 := by decide +kernel
theorem i81_10 : zi 81 10 11 17 12 0 := by decide +kernel
theorem i81_11 : zi 81 11 12 0 0 0 := by decide +kernel
theorem i81_12 : zi 81 12 13 3 4 0 := by decide +kernel
theorem i81_13 : zi 81 13 14 2 0 0 := by decide +kernel
theorem i81_14 : zi 81 14 15 1 1 0 := by decide +kernel
theorem i81_15 : zi 81 15 16 1 3 0 := by decide +kernel
theorem i81_16 : zi 81 16 17 18 25 0 := by decide +kernel
theorem i81_25 : zi 81 25 26 2 0 0 := by decide +kernel
theorem i81_26 : zi 81 26 27 1 1 0 := by decide +kernel
theorem i81_27 : zi 81 27 28 8 0 0 := by decide +kernel
theorem i81_28 : zi 81 28 29 0 0 1 := by decide +kernel
theorem i81_29 : zi 81 29 30 1 2 0 := by decide +kernel
theorem i81_30 : zi 81 30 31 13 8 0 := by decide +kernel
theorem i81_31 : zi 81 31 32 0 0 (-1) := by decide +kernel
theorem i81_32 : zi 81 32 33 13 7 0 := by decide +kernel
theorem i81_33 : zi 81 33 34 13 5 0 := by decide +kernel
theorem i81_17 : zi 81 17 18 2 0 0 := by decide +kernel
theorem i81_18 : zi 81 18 19 1 1 0 := by decide +kernel
theorem i81_19 : zi 81 19 20 8 0 0 := by decide +kernel
theorem i81_20 : zi 81 20 21 0 0 1 := by decide +kernel
theorem i81_21 : zi 81 21 22 1 2 0 := by decide +kernel
theorem i81_22 : zi 81 22 23 13 8 0 := by decide +kernel
theorem i81_23 : zi 81 23 24 13 6 0 := by decide +kernel
theorem i81_24 : zi 81 24 25 17 34 0 := by decide +kernel
theorem i81_34 : zi 81 34 35 10 0 0 := by decide +kernel
theorem i81_35 : zi 81 35 36 1 4 0 := by decide +kernel
theorem i81_36 : zi 81 36 37 26 0 0 := by decide +kernel
theorem ml_81 : z_ml 81 = 5 := by decide +kernel
theorem en_81 : ∀ (v0 v1 v2 v3 : zV), z_ent 81 [v0, v1, v2, v3] = [some v0, some v1, some v2, some v3, none] := fun v0 v1 v2 v3 => by unfold z_ent; rw [ml_81]; rfl
theorem ar_29 : zar 29 0 4 := by decide +kernel
theorem i76_0 : zi 76 0 1 2 0 0 := by decide +kernel
theorem i76_1 : zi 76 1 2 6 6 8 := by decide +kernel
theorem fl_4_8 : zfl 4 6 8 8 (some 28) := by decide +kernel
theorem i76_2 : zi 76 2 3 1 1 0 := by decide +kernel
theorem i76_3 : zi 76 3 4 1 2 0 := by decide +kernel
theorem i76_4 : zi 76 4 5 1 3 0 := by decide +kernel
theorem i76_5 : zi 76 5 6 22 81 0 := by decide +kernel
theorem na_81 : z_na 81 = 4 := by decide +kernel
theorem i76_6 : zi 76 6 7 26 0 0 := by decide +kernel
theorem ml_76 : z_ml 76 = 4 := by decide +kernel
theorem en_76 : ∀ (v0 v1 v2 v3 : zV), z_ent 76 [v0, v1, v2, v3] = [some v0, some v1, some v2, some v3] := fun v0 v1 v2 v3 => by unfold z_ent; rw [ml_76]; rfl
theorem i77_0 : zi 77 0 1 2 0 0 := by decide +kernel
theorem i77_1 : zi 77 1 2 6 6 9 := by decide +kernel
theorem fl_4_9 : zfl 4 6 9 9 (some 29) := by decide +kernel
theorem i77_2 : zi 77 2 3 1 1 0 := by decide +kernel
theorem i77_3 : zi 77 3 4 1 2 0 := by decide +kernel
theorem i77_4 : zi 77 4 5 1 3 0 := by decide +kernel
theorem i77_5 : zi 77 5 6 22 81 0 := by decide +kernel
theorem i77_6 : zi 77 6 7 26 0 0 := by decide +kernel
theorem ml_77 : z_ml 77 = 4 := by decide +kernel
theorem en_77 : ∀ (v0 v1 v2 v3 : zV), z_ent 77 [v0, v1, v2, v3] = [some v0, some v1, some v2, some v3] := fun v0 v1 v2 v3 => by unfold z_ent; rw [ml_77]; rfl
theorem i82_0 : zi 82 0 1 2 0 0 := by decide +kernel
theorem i82_1 : zi 82 1 2 6 7 1 := by decide +kernel
theorem fl_1_1 : zfl 1 7 1 1 none := by decide +kernel
theorem i82_2 : zi 82 2 3 18 5 5 := by decide +kernel
theorem i82_5 : zi 82 5 6 0 0 0 := by decide +kernel
theorem i82_3 : zi 82 3 4 0 0 1 := by decide +kernel
theorem i82_4 : zi 82 4 5 17 6 0 := by decide +kernel
theorem i82_6 : zi 82 6 7 26 0 0 := by decide +kernel
theorem ml_82 : z_ml 82 = 1 := by decide +kernel
theorem en_82 : ∀ (v0 : zV), z_ent 82 [v0] = [some v0] := fun v0 => by unfold z_ent; rw [ml_82]; rfl
theorem i83_0 : zi 83 0 1 1 1 0 := by decide +kernel
theorem i83_1 : zi 83 1 2 0 0 1 := by decide +kernel
theorem i83_2 : zi 83 2 3 19 9 2 := by decide +kernel
theorem i83_9 : zi 83 9 10 0 0 0 := by decide +kernel
theorem i83_3 : zi 83 3 4 1 1 0 := by decide +kernel
theorem i83_4 : zi 83 4 5 2 0 0 := by decide +kernel
theorem i83_5 : zi 83 5 6 6 7 1 := by decide +kernel
theorem i83_6 : zi 83 6 7 19 9 4 := by decide +kernel
theorem i83_7 : zi 83 7 8 0 0 1 := by decide +kernel
theorem i83_8 : zi 83 8 9 17 10 0 := by decide +kernel
theorem i83_10 : zi 83 10 11 26 0 0 := by decide +kernel
theorem ml_83 : z_ml 83 = 2 := by decide +kernel
theorem en_83 : ∀ (v0 v1 : zV), z_ent 83 [v0, v1] = [some v0, some v1] := fun v0 v1 => by unfold z_ent; rw [ml_83]; rfl
theorem i84_0 : zi 84 0 1 2 0 0 := by decide +kernel
theorem i84_1 : zi 84 1 2 6 7 3 := by decide +kernel
theorem fl_1_3 : zfl 1 7 3 3 (some 14) := by decide +kernel
theorem i84_2 : zi 84 2 3 1 1 0 := by decide +kernel
theorem i84_3 : zi 84 3 4 8 0 0 := by decide +kernel
theorem ar_14 : zar 14 0 7 := by decide +kernel
theorem i84_4 : zi 84 4 5 25 0 0 := by decide +kernel
theorem ml_84 : z_ml 84 = 2 := by decide +kernel
theorem en_84 : ∀ (v0 v1 : zV), z_ent 84 [v0, v1] = [some v0, some v1] := fun v0 v1 => by unfold z_ent; rw [ml_84]; rfl
theorem i85_0 : zi 85 0 1 2 0 0 := by decide +kernel
theorem i85_1 : zi 85 1 2 6 7 6 := by decide +kernel
theorem fl_1_6 : zfl 1 7 6 6 none := by decide +kernel
theorem i85_2 : zi 85 2 3 26 0 0 := by decide +kernel
theorem ml_85 : z_ml 85 = 1 := by decide +kernel
theorem en_85 : ∀ (v0 : zV), z_ent 85 [v0] = [some v0] := fun v0 => by unfold z_ent; rw [ml_85]; rfl
theorem i92_0 : zi 92 0 1 0 0 1103 := by decide +kernel
theorem kc_1103 : Int32.ofInt 1103 = 1103 := by decide +kernel
theorem i92_1 : zi 92 1 2 1 0 0 := by decide +kernel
theorem i92_2 : zi 92 2 3 13 2 0 := by decide +kernel
theorem i92_3 : zi 92 3 4 0 0 12345 := by decide +kernel
theorem kc_12345 : Int32.ofInt 12345 = 12345 := by decide +kernel
theorem i92_4 : zi 92 4 5 13 0 0 := by decide +kernel
theorem i92_5 : zi 92 5 6 0 0 65536 := by decide +kernel
theorem kc_65536 : Int32.ofInt 65536 = 65536 := by decide +kernel
theorem i92_6 : zi 92 6 7 13 4 0 := by decide +kernel
theorem nz_65536 : ¬ (65536 : Int32) = 0 := by decide
theorem i92_7 : zi 92 7 8 25 0 0 := by decide +kernel
theorem ml_92 : z_ml 92 = 1 := by decide +kernel
theorem en_92 : ∀ (v0 : zV), z_ent 92 [v0] = [some v0] := fun v0 => by unfold z_ent; rw [ml_92]; rfl
theorem i94_0 : zi 94 0 1 2 0 0 := by decide +kernel
theorem i94_1 : zi 94 1 2 6 7 4 := by decide +kernel
theorem fl_1_4 : zfl 1 7 4 4 (some 15) := by decide +kernel
theorem i94_2 : zi 94 2 3 1 1 0 := by decide +kernel
theorem i94_3 : zi 94 3 4 8 0 0 := by decide +kernel
theorem ar_15 : zar 15 0 7 := by decide +kernel
theorem i94_4 : zi 94 4 5 0 0 (-1) := by decide +kernel
theorem i94_5 : zi 94 5 6 19 12 1 := by decide +kernel
theorem i94_6 : zi 94 6 7 2 0 0 := by decide +kernel
theorem i94_7 : zi 94 7 8 14 0 0 := by decide +kernel
theorem i94_8 : zi 94 8 9 6 7 5 := by decide +kernel
theorem fl_1_5 : zfl 1 7 5 5 none := by decide +kernel
theorem i94_9 : zi 94 9 10 0 0 1 := by decide +kernel
theorem i94_10 : zi 94 10 11 13 0 0 := by decide +kernel
theorem i94_11 : zi 94 11 12 7 7 5 := by decide +kernel
theorem i94_12 : zi 94 12 13 2 0 0 := by decide +kernel
theorem i94_13 : zi 94 13 14 6 7 4 := by decide +kernel
theorem i94_14 : zi 94 14 15 1 1 0 := by decide +kernel
theorem i94_15 : zi 94 15 16 1 2 0 := by decide +kernel
theorem i94_16 : zi 94 16 17 10 0 0 := by decide +kernel
theorem i94_17 : zi 94 17 18 2 0 0 := by decide +kernel
theorem i94_18 : zi 94 18 19 6 7 5 := by decide +kernel
theorem i94_19 : zi 94 19 20 25 0 0 := by decide +kernel
theorem ml_94 : z_ml 94 = 3 := by decide +kernel
theorem en_94 : ∀ (v0 v1 v2 : zV), z_ent 94 [v0, v1, v2] = [some v0, some v1, some v2] := fun v0 v1 v2 => by unfold z_ent; rw [ml_94]; rfl
theorem i99_0 : zi 99 0 1 2 0 0 := by decide +kernel
theorem i99_1 : zi 99 1 2 6 8 3 := by decide +kernel
theorem fl_12_3 : zfl 12 8 3 3 (some 80) := by decide +kernel
theorem i99_2 : zi 99 2 3 1 1 0 := by decide +kernel
theorem i99_3 : zi 99 3 4 8 0 0 := by decide +kernel
theorem ar_80 : zar 80 0 3 := by decide +kernel
theorem i99_4 : zi 99 4 5 25 0 0 := by decide +kernel
theorem ml_99 : z_ml 99 = 2 := by decide +kernel
theorem en_99 : ∀ (v0 v1 : zV), z_ent 99 [v0, v1] = [some v0, some v1] := fun v0 v1 => by unfold z_ent; rw [ml_99]; rfl
theorem i100_0 : zi 100 0 1 2 0 0 := by decide +kernel
theorem i100_1 : zi 100 1 2 6 8 0 := by decide +kernel
theorem fl_12_0 : zfl 12 8 0 0 (some 77) := by decide +kernel
theorem i100_2 : zi 100 2 3 1 1 0 := by decide +kernel
theorem i100_3 : zi 100 3 4 9 0 0 := by decide +kernel
theorem ar_77 : zar 77 1 3 := by decide +kernel
theorem i100_4 : zi 100 4 5 3 5 0 := by decide +kernel
theorem i100_5 : zi 100 5 6 2 0 0 := by decide +kernel
theorem i100_6 : zi 100 6 7 6 8 0 := by decide +kernel
theorem i100_7 : zi 100 7 8 1 1 0 := by decide +kernel
theorem i100_8 : zi 100 8 9 1 2 0 := by decide +kernel
theorem i100_9 : zi 100 9 10 11 0 0 := by decide +kernel
theorem i100_10 : zi 100 10 11 2 0 0 := by decide +kernel
theorem i100_11 : zi 100 11 12 6 8 1 := by decide +kernel
theorem fl_12_1 : zfl 12 8 1 1 (some 78) := by decide +kernel
theorem i100_12 : zi 100 12 13 1 1 0 := by decide +kernel
theorem i100_13 : zi 100 13 14 1 3 0 := by decide +kernel
theorem i100_14 : zi 100 14 15 11 0 0 := by decide +kernel
theorem ar_78 : zar 78 1 3 := by decide +kernel
theorem i100_15 : zi 100 15 16 2 0 0 := by decide +kernel
theorem i100_16 : zi 100 16 17 6 8 2 := by decide +kernel
theorem fl_12_2 : zfl 12 8 2 2 (some 79) := by decide +kernel
theorem i100_17 : zi 100 17 18 1 1 0 := by decide +kernel
theorem i100_18 : zi 100 18 19 1 4 0 := by decide +kernel
theorem i100_19 : zi 100 19 20 10 0 0 := by decide +kernel
theorem ar_79 : zar 79 0 3 := by decide +kernel
theorem i100_20 : zi 100 20 21 1 5 0 := by decide +kernel
theorem i100_21 : zi 100 21 22 26 0 0 := by decide +kernel
theorem ml_100 : z_ml 100 = 6 := by decide +kernel
theorem en_100 : ∀ (v0 v1 v2 v3 v4 : zV), z_ent 100 [v0, v1, v2, v3, v4] = [some v0, some v1, some v2, some v3, some v4, none] := fun v0 v1 v2 v3 v4 => by unfold z_ent; rw [ml_100]; rfl
theorem i103_0 : zi 103 0 1 1 0 0 := by decide +kernel
theorem i103_1 : zi 103 1 2 20 0 0 := by decide +kernel
theorem sw_0 : z_sw.getD 0 (0, []) = (8, [(2, 2), (4, 4), (8, 6)]) := by decide +kernel
theorem i103_2 : zi 103 2 3 0 0 1 := by decide +kernel
theorem i103_3 : zi 103 3 4 25 0 0 := by decide +kernel
theorem i103_4 : zi 103 4 5 0 0 2 := by decide +kernel
theorem i103_5 : zi 103 5 6 25 0 0 := by decide +kernel
theorem i103_6 : zi 103 6 7 0 0 3 := by decide +kernel
theorem i103_7 : zi 103 7 8 25 0 0 := by decide +kernel
theorem i103_8 : zi 103 8 9 0 0 0 := by decide +kernel
theorem i103_9 : zi 103 9 10 25 0 0 := by decide +kernel
theorem ml_103 : z_ml 103 = 1 := by decide +kernel
theorem en_103 : ∀ (v0 : zV), z_ent 103 [v0] = [some v0] := fun v0 => by unfold z_ent; rw [ml_103]; rfl
theorem i104_0 : zi 104 0 1 2 0 0 := by decide +kernel
theorem i104_1 : zi 104 1 2 6 9 0 := by decide +kernel
theorem i104_2 : zi 104 2 3 1 1 0 := by decide +kernel
theorem i104_3 : zi 104 3 4 8 0 0 := by decide +kernel
theorem i104_4 : zi 104 4 5 25 0 0 := by decide +kernel
theorem ml_104 : z_ml 104 = 2 := by decide +kernel
theorem en_104 : ∀ (v0 v1 : zV), z_ent 104 [v0, v1] = [some v0, some v1] := fun v0 v1 => by unfold z_ent; rw [ml_104]; rfl
theorem i105_0 : zi 105 0 1 2 0 0 := by decide +kernel
theorem i105_1 : zi 105 1 2 6 9 3 := by decide +kernel
theorem i105_2 : zi 105 2 3 1 1 0 := by decide +kernel
theorem i105_3 : zi 105 3 4 8 0 0 := by decide +kernel
theorem i105_4 : zi 105 4 5 25 0 0 := by decide +kernel
theorem ml_105 : z_ml 105 = 2 := by decide +kernel
theorem en_105 : ∀ (v0 v1 : zV), z_ent 105 [v0, v1] = [some v0, some v1] := fun v0 v1 => by unfold z_ent; rw [ml_105]; rfl
theorem i106_0 : zi 106 0 1 2 0 0 := by decide +kernel
theorem i106_1 : zi 106 1 2 6 9 2 := by decide +kernel
theorem i106_2 : zi 106 2 3 1 1 0 := by decide +kernel
theorem i106_3 : zi 106 3 4 8 0 0 := by decide +kernel
theorem i106_4 : zi 106 4 5 25 0 0 := by decide +kernel
theorem ml_106 : z_ml 106 = 2 := by decide +kernel
theorem en_106 : ∀ (v0 v1 : zV), z_ent 106 [v0, v1] = [some v0, some v1] := fun v0 v1 => by unfold z_ent; rw [ml_106]; rfl
theorem i110_0 : zi 110 0 1 2 0 0 := by decide +kernel
theorem i110_1 : zi 110 1 2 1 1 0 := by decide +kernel
theorem i110_2 : zi 110 2 3 1 2 0 := by decide +kernel
theorem i110_3 : zi 110 3 4 21 107 9 := by decide +kernel
theorem ob_7 : zob 7 9 := by decide +kernel
theorem i110_4 : zi 110 4 5 3 4 0 := by decide +kernel
theorem i110_5 : zi 110 5 6 1 4 0 := by decide +kernel
theorem i110_6 : zi 110 6 7 0 0 (-1) := by decide +kernel
theorem i110_7 : zi 110 7 8 19 13 0 := by decide +kernel
theorem i110_13 : zi 110 13 14 0 0 (-7) := by decide +kernel
theorem i110_14 : zi 110 14 15 25 0 0 := by decide +kernel
theorem i110_8 : zi 110 8 9 2 0 0 := by decide +kernel
theorem i110_9 : zi 110 9 10 6 9 3 := by decide +kernel
theorem i110_10 : zi 110 10 11 1 4 0 := by decide +kernel
theorem i110_11 : zi 110 11 12 8 0 0 := by decide +kernel
theorem i110_12 : zi 110 12 13 18 15 0 := by decide +kernel
theorem i110_15 : zi 110 15 16 2 0 0 := by decide +kernel
theorem i110_16 : zi 110 16 17 6 9 2 := by decide +kernel
theorem i110_17 : zi 110 17 18 1 4 0 := by decide +kernel
theorem i110_18 : zi 110 18 19 8 0 0 := by decide +kernel
theorem i110_19 : zi 110 19 20 1 3 0 := by decide +kernel
theorem i110_20 : zi 110 20 21 19 23 3 := by decide +kernel
theorem i110_23 : zi 110 23 24 2 0 0 := by decide +kernel
theorem i110_24 : zi 110 24 25 6 9 1 := by decide +kernel
theorem i110_25 : zi 110 25 26 1 4 0 := by decide +kernel
theorem i110_26 : zi 110 26 27 8 0 0 := by decide +kernel
theorem i110_21 : zi 110 21 22 0 0 (-9) := by decide +kernel
theorem kc_m9 : Int32.ofInt (-9) = (-9) := by decide +kernel
theorem i110_22 : zi 110 22 23 17 27 0 := by decide +kernel
theorem i110_27 : zi 110 27 28 25 0 0 := by decide +kernel
theorem ml_110 : z_ml 110 = 5 := by decide +kernel
theorem en_110 : ∀ (v0 v1 v2 v3 : zV), z_ent 110 [v0, v1, v2, v3] = [some v0, some v1, some v2, some v3, none] := fun v0 v1 v2 v3 => by unfold z_ent; rw [ml_110]; rfl
theorem i113_0 : zi 113 0 1 2 0 0 := by decide +kernel
theorem i113_1 : zi 113 1 2 6 10 0 := by decide +kernel
theorem fl_5_0 : zfl 5 10 0 0 none := by decide +kernel
theorem i113_2 : zi 113 2 3 25 0 0 := by decide +kernel
theorem ml_113 : z_ml 113 = 1 := by decide +kernel
theorem en_113 : ∀ (v0 : zV), z_ent 113 [v0] = [some v0] := fun v0 => by unfold z_ent; rw [ml_113]; rfl
theorem i114_0 : zi 114 0 1 2 0 0 := by decide +kernel
theorem i114_1 : zi 114 1 2 6 10 0 := by decide +kernel
theorem i114_2 : zi 114 2 3 0 0 40 := by decide +kernel
theorem i114_3 : zi 114 3 4 19 6 2 := by decide +kernel
theorem i114_6 : zi 114 6 7 0 0 0 := by decide +kernel
theorem i114_4 : zi 114 4 5 0 0 1 := by decide +kernel
theorem i114_5 : zi 114 5 6 17 7 0 := by decide +kernel
theorem i114_7 : zi 114 7 8 26 0 0 := by decide +kernel
theorem ml_114 : z_ml 114 = 1 := by decide +kernel
theorem en_114 : ∀ (v0 : zV), z_ent 114 [v0] = [some v0] := fun v0 => by unfold z_ent; rw [ml_114]; rfl
theorem i115_0 : zi 115 0 1 1 1 0 := by decide +kernel
theorem i115_1 : zi 115 1 2 18 8 2 := by decide +kernel
theorem i115_8 : zi 115 8 9 0 0 0 := by decide +kernel
theorem i115_2 : zi 115 2 3 1 1 0 := by decide +kernel
theorem i115_3 : zi 115 3 4 2 0 0 := by decide +kernel
theorem i115_4 : zi 115 4 5 6 10 0 := by decide +kernel
theorem i115_5 : zi 115 5 6 19 8 3 := by decide +kernel
theorem i115_6 : zi 115 6 7 0 0 1 := by decide +kernel
theorem i115_7 : zi 115 7 8 17 9 0 := by decide +kernel
theorem i115_9 : zi 115 9 10 26 0 0 := by decide +kernel
theorem ml_115 : z_ml 115 = 2 := by decide +kernel
theorem en_115 : ∀ (v0 v1 : zV), z_ent 115 [v0, v1] = [some v0, some v1] := fun v0 v1 => by unfold z_ent; rw [ml_115]; rfl
theorem i117_0 : zi 117 0 1 2 0 0 := by decide +kernel
theorem i117_1 : zi 117 1 2 6 10 2 := by decide +kernel
theorem fl_5_2 : zfl 5 10 2 2 (some 31) := by decide +kernel
theorem i117_2 : zi 117 2 3 1 1 0 := by decide +kernel
theorem i117_3 : zi 117 3 4 8 0 0 := by decide +kernel
theorem ar_31 : zar 31 0 40 := by decide +kernel
theorem i117_4 : zi 117 4 5 0 0 1 := by decide +kernel
theorem i117_5 : zi 117 5 6 19 8 1 := by decide +kernel
theorem i117_6 : zi 117 6 7 0 0 1 := by decide +kernel
theorem i117_7 : zi 117 7 8 17 9 0 := by decide +kernel
theorem i117_8 : zi 117 8 9 0 0 0 := by decide +kernel
theorem i117_9 : zi 117 9 10 26 0 0 := by decide +kernel
theorem ml_117 : z_ml 117 = 2 := by decide +kernel
theorem en_117 : ∀ (v0 v1 : zV), z_ent 117 [v0, v1] = [some v0, some v1] := fun v0 v1 => by unfold z_ent; rw [ml_117]; rfl
theorem i118_0 : zi 118 0 1 2 0 0 := by decide +kernel
theorem i118_1 : zi 118 1 2 6 10 3 := by decide +kernel
theorem fl_5_3 : zfl 5 10 3 3 (some 32) := by decide +kernel
theorem i118_2 : zi 118 2 3 1 1 0 := by decide +kernel
theorem i118_3 : zi 118 3 4 8 0 0 := by decide +kernel
theorem ar_32 : zar 32 0 40 := by decide +kernel
theorem i118_4 : zi 118 4 5 25 0 0 := by decide +kernel
theorem ml_118 : z_ml 118 = 2 := by decide +kernel
theorem en_118 : ∀ (v0 v1 : zV), z_ent 118 [v0, v1] = [some v0, some v1] := fun v0 v1 => by unfold z_ent; rw [ml_118]; rfl
theorem i119_0 : zi 119 0 1 2 0 0 := by decide +kernel
theorem i119_1 : zi 119 1 2 6 10 4 := by decide +kernel
theorem fl_5_4 : zfl 5 10 4 4 (some 33) := by decide +kernel
theorem i119_2 : zi 119 2 3 1 1 0 := by decide +kernel
theorem i119_3 : zi 119 3 4 8 0 0 := by decide +kernel
theorem ar_33 : zar 33 0 40 := by decide +kernel
theorem i119_4 : zi 119 4 5 25 0 0 := by decide +kernel
theorem ml_119 : z_ml 119 = 2 := by decide +kernel
theorem en_119 : ∀ (v0 v1 : zV), z_ent 119 [v0, v1] = [some v0, some v1] := fun v0 v1 => by unfold z_ent; rw [ml_119]; rfl
theorem i120_0 : zi 120 0 1 2 0 0 := by decide +kernel
theorem i120_1 : zi 120 1 2 6 10 5 := by decide +kernel
theorem fl_5_5 : zfl 5 10 5 5 (some 34) := by decide +kernel
theorem i120_2 : zi 120 2 3 1 1 0 := by decide +kernel
theorem i120_3 : zi 120 3 4 8 0 0 := by decide +kernel
theorem ar_34 : zar 34 0 40 := by decide +kernel
theorem i120_4 : zi 120 4 5 25 0 0 := by decide +kernel
theorem ml_120 : z_ml 120 = 2 := by decide +kernel
theorem en_120 : ∀ (v0 v1 : zV), z_ent 120 [v0, v1] = [some v0, some v1] := fun v0 v1 => by unfold z_ent; rw [ml_120]; rfl
theorem i121_0 : zi 121 0 1 2 0 0 := by decide +kernel
theorem i121_1 : zi 121 1 2 6 10 8 := by decide +kernel
theorem fl_5_8 : zfl 5 10 8 8 (some 37) := by decide +kernel
theorem i121_2 : zi 121 2 3 1 1 0 := by decide +kernel
theorem i121_3 : zi 121 3 4 8 0 0 := by decide +kernel
theorem ar_37 : zar 37 0 40 := by decide +kernel
theorem i121_4 : zi 121 4 5 25 0 0 := by decide +kernel
theorem ml_121 : z_ml 121 = 2 := by decide +kernel
theorem en_121 : ∀ (v0 v1 : zV), z_ent 121 [v0, v1] = [some v0, some v1] := fun v0 v1 => by unfold z_ent; rw [ml_121]; rfl
theorem i122_0 : zi 122 0 1 2 0 0 := by decide +kernel
theorem i122_1 : zi 122 1 2 6 10 0 := by decide +kernel
theorem i122_2 : zi 122 2 3 3 5 0 := by decide +kernel
theorem i122_3 : zi 122 3 4 2 0 0 := by decide +kernel
theorem i122_4 : zi 122 4 5 6 10 1 := by decide +kernel
theorem fl_5_1 : zfl 5 10 1 1 (some 30) := by decide +kernel
theorem i122_5 : zi 122 5 6 1 5 0 := by decide +kernel
theorem i122_6 : zi 122 6 7 1 1 0 := by decide +kernel
theorem i122_7 : zi 122 7 8 10 0 0 := by decide +kernel
theorem ar_30 : zar 30 0 40 := by decide +kernel
theorem i122_8 : zi 122 8 9 2 0 0 := by decide +kernel
theorem i122_9 : zi 122 9 10 6 10 2 := by decide +kernel
theorem i122_10 : zi 122 10 11 1 5 0 := by decide +kernel
theorem i122_11 : zi 122 11 12 1 2 0 := by decide +kernel
theorem i122_12 : zi 122 12 13 10 0 0 := by decide +kernel
theorem i122_13 : zi 122 13 14 2 0 0 := by decide +kernel
theorem i122_14 : zi 122 14 15 6 10 3 := by decide +kernel
theorem i122_15 : zi 122 15 16 1 5 0 := by decide +kernel
theorem i122_16 : zi 122 16 17 1 3 0 := by decide +kernel
theorem i122_17 : zi 122 17 18 10 0 0 := by decide +kernel
theorem i122_18 : zi 122 18 19 2 0 0 := by decide +kernel
theorem i122_19 : zi 122 19 20 6 10 4 := by decide +kernel
theorem i122_20 : zi 122 20 21 1 5 0 := by decide +kernel
theorem i122_21 : zi 122 21 22 1 4 0 := by decide +kernel
theorem i122_22 : zi 122 22 23 10 0 0 := by decide +kernel
theorem i122_23 : zi 122 23 24 2 0 0 := by decide +kernel
theorem i122_24 : zi 122 24 25 14 0 0 := by decide +kernel
theorem i122_25 : zi 122 25 26 6 10 0 := by decide +kernel
theorem i122_26 : zi 122 26 27 0 0 1 := by decide +kernel
theorem i122_27 : zi 122 27 28 13 0 0 := by decide +kernel
theorem i122_28 : zi 122 28 29 7 10 0 := by decide +kernel
theorem i122_29 : zi 122 29 30 1 5 0 := by decide +kernel
theorem i122_30 : zi 122 30 31 25 0 0 := by decide +kernel
theorem ml_122 : z_ml 122 = 6 := by decide +kernel
theorem en_122 : ∀ (v0 v1 v2 v3 v4 : zV), z_ent 122 [v0, v1, v2, v3, v4] = [some v0, some v1, some v2, some v3, some v4, none] := fun v0 v1 v2 v3 v4 => by unfold z_ent; rw [ml_122]; rfl
theorem i123_0 : zi 123 0 1 2 0 0 := by decide +kernel
theorem i123_1 : zi 123 1 2 6 10 5 := by decide +kernel
theorem i123_2 : zi 123 2 3 1 1 0 := by decide +kernel
theorem i123_3 : zi 123 3 4 1 2 0 := by decide +kernel
theorem i123_4 : zi 123 4 5 1 3 0 := by decide +kernel
theorem i123_5 : zi 123 5 6 13 0 0 := by decide +kernel
theorem i123_6 : zi 123 6 7 10 0 0 := by decide +kernel
theorem i123_7 : zi 123 7 8 2 0 0 := by decide +kernel
theorem i123_8 : zi 123 8 9 6 10 6 := by decide +kernel
theorem fl_5_6 : zfl 5 10 6 6 (some 35) := by decide +kernel
theorem i123_9 : zi 123 9 10 1 1 0 := by decide +kernel
theorem i123_10 : zi 123 10 11 1 2 0 := by decide +kernel
theorem i123_11 : zi 123 11 12 1 4 0 := by decide +kernel
theorem i123_12 : zi 123 12 13 13 0 0 := by decide +kernel
theorem i123_13 : zi 123 13 14 10 0 0 := by decide +kernel
theorem ar_35 : zar 35 0 40 := by decide +kernel
theorem i123_14 : zi 123 14 15 2 0 0 := by decide +kernel
theorem i123_15 : zi 123 15 16 6 10 7 := by decide +kernel
theorem fl_5_7 : zfl 5 10 7 7 (some 36) := by decide +kernel
theorem i123_16 : zi 123 16 17 1 1 0 := by decide +kernel
theorem i123_17 : zi 123 17 18 1 3 0 := by decide +kernel
theorem i123_18 : zi 123 18 19 10 0 0 := by decide +kernel
theorem ar_36 : zar 36 0 40 := by decide +kernel
theorem i123_19 : zi 123 19 20 27 0 0 := by decide +kernel
theorem ml_123 : z_ml 123 = 5 := by decide +kernel
theorem en_123 : ∀ (v0 v1 v2 v3 v4 : zV), z_ent 123 [v0, v1, v2, v3, v4] = [some v0, some v1, some v2, some v3, some v4] := fun v0 v1 v2 v3 v4 => by unfold z_ent; rw [ml_123]; rfl
theorem i124_0 : zi 124 0 1 2 0 0 := by decide +kernel
theorem i124_1 : zi 124 1 2 6 10 8 := by decide +kernel
theorem i124_2 : zi 124 2 3 1 1 0 := by decide +kernel
theorem i124_3 : zi 124 3 4 1 2 0 := by decide +kernel
theorem i124_4 : zi 124 4 5 10 0 0 := by decide +kernel
theorem i124_5 : zi 124 5 6 2 0 0 := by decide +kernel
theorem i124_6 : zi 124 6 7 6 10 9 := by decide +kernel
theorem fl_5_9 : zfl 5 10 9 9 (some 38) := by decide +kernel
theorem i124_7 : zi 124 7 8 1 1 0 := by decide +kernel
theorem i124_8 : zi 124 8 9 1 3 0 := by decide +kernel
theorem i124_9 : zi 124 9 10 10 0 0 := by decide +kernel
theorem ar_38 : zar 38 0 40 := by decide +kernel
theorem i124_10 : zi 124 10 11 2 0 0 := by decide +kernel
theorem i124_11 : zi 124 11 12 6 10 10 := by decide +kernel
theorem fl_5_10 : zfl 5 10 10 10 (some 39) := by decide +kernel
theorem i124_12 : zi 124 12 13 1 1 0 := by decide +kernel
theorem i124_13 : zi 124 13 14 1 4 0 := by decide +kernel
theorem i124_14 : zi 124 14 15 11 0 0 := by decide +kernel
theorem ar_39 : zar 39 1 40 := by decide +kernel
theorem i124_15 : zi 124 15 16 27 0 0 := by decide +kernel
theorem ml_124 : z_ml 124 = 5 := by decide +kernel
theorem en_124 : ∀ (v0 v1 v2 v3 v4 : zV), z_ent 124 [v0, v1, v2, v3, v4] = [some v0, some v1, some v2, some v3, some v4] := fun v0 v1 v2 v3 v4 => by unfold z_ent; rw [ml_124]; rfl
theorem i125_0 : zi 125 0 1 2 0 0 := by decide +kernel
theorem i125_1 : zi 125 1 2 6 10 2 := by decide +kernel
theorem i125_2 : zi 125 2 3 1 1 0 := by decide +kernel
theorem i125_3 : zi 125 3 4 8 0 0 := by decide +kernel
theorem i125_4 : zi 125 4 5 0 0 2 := by decide +kernel
theorem i125_5 : zi 125 5 6 19 8 1 := by decide +kernel
theorem i125_6 : zi 125 6 7 0 0 1 := by decide +kernel
theorem i125_7 : zi 125 7 8 17 9 0 := by decide +kernel
theorem i125_8 : zi 125 8 9 0 0 0 := by decide +kernel
theorem i125_9 : zi 125 9 10 3 4 0 := by decide +kernel
theorem i125_10 : zi 125 10 11 2 0 0 := by decide +kernel
theorem i125_11 : zi 125 11 12 6 10 5 := by decide +kernel
theorem i125_12 : zi 125 12 13 1 1 0 := by decide +kernel
theorem i125_13 : zi 125 13 14 1 4 0 := by decide +kernel
theorem i125_14 : zi 125 14 15 18 22 0 := by decide +kernel
theorem i125_15 : zi 125 15 16 1 2 0 := by decide +kernel
theorem i125_16 : zi 125 16 17 2 0 0 := by decide +kernel
theorem i125_17 : zi 125 17 18 6 10 7 := by decide +kernel
theorem i125_18 : zi 125 18 19 1 1 0 := by decide +kernel
theorem i125_19 : zi 125 19 20 8 0 0 := by decide +kernel
theorem i125_20 : zi 125 20 21 13 0 0 := by decide +kernel
theorem i125_21 : zi 125 21 22 17 30 0 := by decide +kernel
theorem i125_22 : zi 125 22 23 1 2 0 := by decide +kernel
theorem i125_23 : zi 125 23 24 1 3 0 := by decide +kernel
theorem i125_24 : zi 125 24 25 13 0 0 := by decide +kernel
theorem i125_25 : zi 125 25 26 2 0 0 := by decide +kernel
theorem i125_26 : zi 125 26 27 6 10 6 := by decide +kernel
theorem i125_27 : zi 125 27 28 1 1 0 := by decide +kernel
theorem i125_28 : zi 125 28 29 8 0 0 := by decide +kernel
theorem i125_29 : zi 125 29 30 24 0 0 := by decide +kernel
theorem i125_30 : zi 125 30 31 10 0 0 := by decide +kernel
theorem i125_31 : zi 125 31 32 2 0 0 := by decide +kernel
theorem i125_32 : zi 125 32 33 6 10 5 := by decide +kernel
theorem i125_33 : zi 125 33 34 1 1 0 := by decide +kernel
theorem i125_34 : zi 125 34 35 8 0 0 := by decide +kernel
theorem i125_35 : zi 125 35 36 25 0 0 := by decide +kernel
theorem ml_125 : z_ml 125 = 5 := by decide +kernel
theorem en_125 : ∀ (v0 v1 v2 v3 : zV), z_ent 125 [v0, v1, v2, v3] = [some v0, some v1, some v2, some v3, none] := fun v0 v1 v2 v3 => by unfold z_ent; rw [ml_125]; rfl
theorem i127_0 : zi 127 0 1 2 0 0 := by decide +kernel
theorem i127_1 : zi 127 1 2 1 1 0 := by decide +kernel
theorem i127_2 : zi 127 2 3 21 115 10 := by decide +kernel
theorem na_115 : z_na 115 = 1 := by decide +kernel
theorem ob_5 : zob 5 10 := by decide +kernel
theorem i127_3 : zi 127 3 4 18 20 0 := by decide +kernel
theorem i127_4 : zi 127 4 5 2 0 0 := by decide +kernel
theorem i127_5 : zi 127 5 6 1 1 0 := by decide +kernel
theorem i127_6 : zi 127 6 7 21 116 10 := by decide +kernel
theorem na_116 : z_na 116 = 1 := by decide +kernel
theorem i127_7 : zi 127 7 8 18 20 0 := by decide +kernel
theorem i127_8 : zi 127 8 9 2 0 0 := by decide +kernel
theorem i127_9 : zi 127 9 10 6 10 9 := by decide +kernel
theorem i127_10 : zi 127 10 11 1 1 0 := by decide +kernel
theorem i127_11 : zi 127 11 12 8 0 0 := by decide +kernel
theorem i127_12 : zi 127 12 13 1 2 0 := by decide +kernel
theorem i127_13 : zi 127 13 14 13 9 0 := by decide +kernel
theorem i127_14 : zi 127 14 15 0 0 1 := by decide +kernel
theorem i127_15 : zi 127 15 16 13 5 0 := by decide +kernel
theorem i127_16 : zi 127 16 17 0 0 1 := by decide +kernel
theorem i127_17 : zi 127 17 18 19 20 1 := by decide +kernel
theorem i127_18 : zi 127 18 19 0 0 1 := by decide +kernel
theorem i127_19 : zi 127 19 20 17 21 0 := by decide +kernel
theorem i127_20 : zi 127 20 21 0 0 0 := by decide +kernel
theorem i127_21 : zi 127 21 22 26 0 0 := by decide +kernel
theorem ml_127 : z_ml 127 = 3 := by decide +kernel
theorem en_127 : ∀ (v0 v1 v2 : zV), z_ent 127 [v0, v1, v2] = [some v0, some v1, some v2] := fun v0 v1 v2 => by unfold z_ent; rw [ml_127]; rfl
theorem i128_0 : zi 128 0 1 2 0 0 := by decide +kernel
theorem i128_1 : zi 128 1 2 6 10 8 := by decide +kernel
theorem i128_2 : zi 128 2 3 1 1 0 := by decide +kernel
theorem i128_3 : zi 128 3 4 8 0 0 := by decide +kernel
theorem i128_4 : zi 128 4 5 18 13 5 := by decide +kernel
theorem i128_5 : zi 128 5 6 2 0 0 := by decide +kernel
theorem i128_6 : zi 128 6 7 6 10 8 := by decide +kernel
theorem i128_7 : zi 128 7 8 1 1 0 := by decide +kernel
theorem i128_8 : zi 128 8 9 15 0 0 := by decide +kernel
theorem i128_9 : zi 128 9 10 8 0 0 := by decide +kernel
theorem i128_10 : zi 128 10 11 0 0 1 := by decide +kernel
theorem i128_11 : zi 128 11 12 13 1 0 := by decide +kernel
theorem i128_12 : zi 128 12 13 10 0 0 := by decide +kernel
theorem i128_13 : zi 128 13 14 27 0 0 := by decide +kernel
theorem ml_128 : z_ml 128 = 2 := by decide +kernel
theorem en_128 : ∀ (v0 v1 : zV), z_ent 128 [v0, v1] = [some v0, some v1] := fun v0 v1 => by unfold z_ent; rw [ml_128]; rfl
theorem i130_0 : zi 130 0 1 2 0 0 := by decide +kernel
theorem i130_1 : zi 130 1 2 6 10 1 := by decide +kernel
theorem i130_2 : zi 130 2 3 1 1 0 := by decide +kernel
theorem i130_3 : zi 130 3 4 8 0 0 := by decide +kernel
theorem i130_4 : zi 130 4 5 3 2 0 := by decide +kernel
theorem i130_5 : zi 130 5 6 2 0 0 := by decide +kernel
theorem i130_6 : zi 130 6 7 6 10 10 := by decide +kernel
theorem i130_7 : zi 130 7 8 1 1 0 := by decide +kernel
theorem i130_8 : zi 130 8 9 9 0 0 := by decide +kernel
theorem i130_9 : zi 130 9 10 18 21 1 := by decide +kernel
theorem i130_10 : zi 130 10 11 2 0 0 := by decide +kernel
theorem i130_11 : zi 130 11 12 1 2 0 := by decide +kernel
theorem i130_12 : zi 130 12 13 21 115 10 := by decide +kernel
theorem i130_13 : zi 130 13 14 18 21 0 := by decide +kernel
theorem i130_14 : zi 130 14 15 2 0 0 := by decide +kernel
theorem i130_15 : zi 130 15 16 6 10 11 := by decide +kernel
theorem i130_16 : zi 130 16 17 1 2 0 := by decide +kernel
theorem i130_17 : zi 130 17 18 9 0 0 := by decide +kernel
theorem i130_18 : zi 130 18 19 18 21 0 := by decide +kernel
theorem i130_21 : zi 130 21 22 0 0 0 := by decide +kernel
theorem i130_19 : zi 130 19 20 0 0 1 := by decide +kernel
theorem i130_20 : zi 130 20 21 17 22 0 := by decide +kernel
theorem i130_22 : zi 130 22 23 26 0 0 := by decide +kernel
theorem ml_130 : z_ml 130 = 3 := by decide +kernel
theorem en_130 : ∀ (v0 v1 : zV), z_ent 130 [v0, v1] = [some v0, some v1, none] := fun v0 v1 => by unfold z_ent; rw [ml_130]; rfl
theorem i188_0 : zi 188 0 1 1 0 0 := by decide +kernel
theorem i188_1 : zi 188 1 2 1 1 0 := by decide +kernel
theorem i188_2 : zi 188 2 3 19 8 2 := by decide +kernel
theorem i188_8 : zi 188 8 9 0 0 0 := by decide +kernel
theorem i188_3 : zi 188 3 4 1 0 0 := by decide +kernel
theorem i188_4 : zi 188 4 5 1 2 0 := by decide +kernel
theorem i188_5 : zi 188 5 6 19 8 4 := by decide +kernel
theorem i188_6 : zi 188 6 7 0 0 1 := by decide +kernel
theorem i188_7 : zi 188 7 8 17 9 0 := by decide +kernel
theorem i188_9 : zi 188 9 10 26 0 0 := by decide +kernel
theorem ml_188 : z_ml 188 = 3 := by decide +kernel
theorem en_188 : ∀ (v0 v1 v2 : zV), z_ent 188 [v0, v1, v2] = [some v0, some v1, some v2] := fun v0 v1 v2 => by unfold z_ent; rw [ml_188]; rfl
theorem i194_0 : zi 194 0 1 1 0 0 := by decide +kernel
theorem i194_1 : zi 194 1 2 0 0 0 := by decide +kernel
theorem i194_2 : zi 194 2 3 0 0 65535 := by decide +kernel
theorem kc_65535 : Int32.ofInt 65535 = 65535 := by decide +kernel
theorem i194_3 : zi 194 3 4 22 188 0 := by decide +kernel
theorem na_188 : z_na 188 = 3 := by decide +kernel
theorem i194_4 : zi 194 4 5 18 17 0 := by decide +kernel
theorem i194_5 : zi 194 5 6 1 1 0 := by decide +kernel
theorem i194_6 : zi 194 6 7 0 0 1 := by decide +kernel
theorem i194_7 : zi 194 7 8 0 0 6 := by decide +kernel
theorem i194_8 : zi 194 8 9 22 188 0 := by decide +kernel
theorem i194_9 : zi 194 9 10 18 17 0 := by decide +kernel
theorem i194_10 : zi 194 10 11 1 2 0 := by decide +kernel
theorem i194_11 : zi 194 11 12 0 0 1 := by decide +kernel
theorem i194_12 : zi 194 12 13 1 1 0 := by decide +kernel
theorem i194_13 : zi 194 13 14 22 188 0 := by decide +kernel
theorem i194_14 : zi 194 14 15 18 17 0 := by decide +kernel
theorem i194_15 : zi 194 15 16 0 0 1 := by decide +kernel
theorem i194_16 : zi 194 16 17 17 18 0 := by decide +kernel
theorem i194_17 : zi 194 17 18 0 0 0 := by decide +kernel
theorem i194_18 : zi 194 18 19 26 0 0 := by decide +kernel
theorem ml_194 : z_ml 194 = 3 := by decide +kernel
theorem en_194 : ∀ (v0 v1 v2 : zV), z_ent 194 [v0, v1, v2] = [some v0, some v1, some v2] := fun v0 v1 v2 => by unfold z_ent; rw [ml_194]; rfl
theorem i186_0 : zi 186 0 1 1 0 0 := by decide +kernel
theorem i186_1 : zi 186 1 2 18 6 1 := by decide +kernel
theorem i186_2 : zi 186 2 3 29 1 390 := by decide +kernel
theorem i186_6 : zi 186 6 7 27 0 0 := by decide +kernel
theorem ml_186 : z_ml 186 = 1 := by decide +kernel
theorem en_186 : ∀ (v0 : zV), z_ent 186 [v0] = [some v0] := fun v0 => by unfold z_ent; rw [ml_186]; rfl
theorem i187_0 : zi 187 0 1 1 0 0 := by decide +kernel
theorem i187_1 : zi 187 1 2 18 6 1 := by decide +kernel
theorem i187_2 : zi 187 2 3 29 2 393 := by decide +kernel
theorem i187_6 : zi 187 6 7 27 0 0 := by decide +kernel
theorem ml_187 : z_ml 187 = 1 := by decide +kernel
theorem en_187 : ∀ (v0 : zV), z_ent 187 [v0] = [some v0] := fun v0 => by unfold z_ent; rw [ml_187]; rfl
theorem i185_0 : zi 185 0 1 1 0 0 := by decide +kernel
theorem i185_1 : zi 185 1 2 18 6 1 := by decide +kernel
theorem i185_2 : zi 185 2 3 29 0 387 := by decide +kernel
theorem i185_6 : zi 185 6 7 27 0 0 := by decide +kernel
theorem ml_185 : z_ml 185 = 1 := by decide +kernel
theorem en_185 : ∀ (v0 : zV), z_ent 185 [v0] = [some v0] := fun v0 => by unfold z_ent; rw [ml_185]; rfl
theorem i132_0 : zi 132 0 1 2 0 0 := by decide +kernel
theorem i132_1 : zi 132 1 2 6 11 0 := by decide +kernel
theorem fl_0_0 : zfl 0 11 0 0 (some 1) := by decide +kernel
theorem i132_2 : zi 132 2 3 1 1 0 := by decide +kernel
theorem i132_3 : zi 132 3 4 21 83 7 := by decide +kernel
theorem na_83 : z_na 83 = 1 := by decide +kernel
theorem ob_1 : zob 1 7 := by decide +kernel
theorem i132_4 : zi 132 4 5 22 185 0 := by decide +kernel
theorem na_185 : z_na 185 = 1 := by decide +kernel
theorem i132_5 : zi 132 5 6 2 0 0 := by decide +kernel
theorem i132_6 : zi 132 6 7 6 11 0 := by decide +kernel
theorem i132_7 : zi 132 7 8 1 1 0 := by decide +kernel
theorem i132_8 : zi 132 8 9 21 84 7 := by decide +kernel
theorem na_84 : z_na 84 = 1 := by decide +kernel
theorem i132_9 : zi 132 9 10 25 0 0 := by decide +kernel
theorem th_132 : (z_th 132).isEmpty = true := by decide +kernel
theorem ml_132 : z_ml 132 = 2 := by decide +kernel
theorem en_132 : ∀ (v0 v1 : zV), z_ent 132 [v0, v1] = [some v0, some v1] := fun v0 v1 => by unfold z_ent; rw [ml_132]; rfl
theorem i135_0 : zi 135 0 1 2 0 0 := by decide +kernel
theorem i135_1 : zi 135 1 2 6 11 0 := by decide +kernel
theorem i135_2 : zi 135 2 3 21 85 7 := by decide +kernel
theorem na_85 : z_na 85 = 0 := by decide +kernel
theorem i135_3 : zi 135 3 4 26 0 0 := by decide +kernel
theorem ml_135 : z_ml 135 = 1 := by decide +kernel
theorem en_135 : ∀ (v0 : zV), z_ent 135 [v0] = [some v0] := fun v0 => by unfold z_ent; rw [ml_135]; rfl
theorem i138_0 : zi 138 0 1 1 1 0 := by decide +kernel
theorem i138_1 : zi 138 1 2 0 0 1 := by decide +kernel
theorem i138_2 : zi 138 2 3 0 0 1000 := by decide +kernel
theorem kc_1000 : Int32.ofInt 1000 = 1000 := by decide +kernel
theorem i138_3 : zi 138 3 4 22 188 0 := by decide +kernel
theorem i138_4 : zi 138 4 5 18 12 0 := by decide +kernel
theorem i138_5 : zi 138 5 6 1 2 0 := by decide +kernel
theorem i138_6 : zi 138 6 7 0 0 1 := by decide +kernel
theorem i138_7 : zi 138 7 8 0 0 1000 := by decide +kernel
theorem i138_8 : zi 138 8 9 22 188 0 := by decide +kernel
theorem i138_9 : zi 138 9 10 18 12 0 := by decide +kernel
theorem i138_10 : zi 138 10 11 0 0 1 := by decide +kernel
theorem i138_11 : zi 138 11 12 17 13 0 := by decide +kernel
theorem i138_12 : zi 138 12 13 0 0 0 := by decide +kernel
theorem i138_13 : zi 138 13 14 22 186 0 := by decide +kernel
theorem na_186 : z_na 186 = 1 := by decide +kernel
theorem i138_14 : zi 138 14 15 2 0 0 := by decide +kernel
theorem i138_15 : zi 138 15 16 6 11 1 := by decide +kernel
theorem fl_0_1 : zfl 0 11 1 1 (some 2) := by decide +kernel
theorem i138_16 : zi 138 16 17 1 1 0 := by decide +kernel
theorem i138_17 : zi 138 17 18 1 2 0 := by decide +kernel
theorem i138_18 : zi 138 18 19 21 36 4 := by decide +kernel
theorem na_36 : z_na 36 = 2 := by decide +kernel
theorem i138_19 : zi 138 19 20 27 0 0 := by decide +kernel
theorem th_138 : (z_th 138).isEmpty = true := by decide +kernel
theorem ml_138 : z_ml 138 = 3 := by decide +kernel
theorem en_138 : ∀ (v0 v1 v2 : zV), z_ent 138 [v0, v1, v2] = [some v0, some v1, some v2] := fun v0 v1 v2 => by unfold z_ent; rw [ml_138]; rfl
theorem i139_0 : zi 139 0 1 2 0 0 := by decide +kernel
theorem i139_1 : zi 139 1 2 6 11 1 := by decide +kernel
theorem i139_2 : zi 139 2 3 2 0 0 := by decide +kernel
theorem i139_3 : zi 139 3 4 6 11 11 := by decide +kernel
theorem fl_0_11 : zfl 0 11 11 11 none := by decide +kernel
theorem i139_4 : zi 139 4 5 21 40 4 := by decide +kernel
theorem i139_5 : zi 139 5 6 25 0 0 := by decide +kernel
theorem ml_139 : z_ml 139 = 1 := by decide +kernel
theorem en_139 : ∀ (v0 : zV), z_ent 139 [v0] = [some v0] := fun v0 => by unfold z_ent; rw [ml_139]; rfl
theorem i140_0 : zi 140 0 1 1 1 0 := by decide +kernel
theorem i140_1 : zi 140 1 2 2 0 0 := by decide +kernel
theorem i140_2 : zi 140 2 3 6 11 1 := by decide +kernel
theorem i140_3 : zi 140 3 4 21 38 4 := by decide +kernel
theorem na_38 : z_na 38 = 0 := by decide +kernel
theorem i140_4 : zi 140 4 5 2 0 0 := by decide +kernel
theorem i140_5 : zi 140 5 6 6 11 1 := by decide +kernel
theorem i140_6 : zi 140 6 7 21 37 4 := by decide +kernel
theorem na_37 : z_na 37 = 0 := by decide +kernel
theorem i140_7 : zi 140 7 8 22 188 0 := by decide +kernel
theorem i140_8 : zi 140 8 9 22 186 0 := by decide +kernel
theorem i140_9 : zi 140 9 10 2 0 0 := by decide +kernel
theorem i140_10 : zi 140 10 11 6 11 1 := by decide +kernel
theorem i140_11 : zi 140 11 12 1 1 0 := by decide +kernel
theorem i140_12 : zi 140 12 13 21 39 4 := by decide +kernel
theorem na_39 : z_na 39 = 1 := by decide +kernel
theorem i140_13 : zi 140 13 14 25 0 0 := by decide +kernel
theorem th_140 : (z_th 140).isEmpty = true := by decide +kernel
theorem ml_140 : z_ml 140 = 2 := by decide +kernel
theorem en_140 : ∀ (v0 v1 : zV), z_ent 140 [v0, v1] = [some v0, some v1] := fun v0 v1 => by unfold z_ent; rw [ml_140]; rfl
theorem i142_0 : zi 142 0 1 2 0 0 := by decide +kernel
theorem i142_1 : zi 142 1 2 6 11 1 := by decide +kernel
theorem i142_2 : zi 142 2 3 21 37 4 := by decide +kernel
theorem i142_3 : zi 142 3 4 25 0 0 := by decide +kernel
theorem ml_142 : z_ml 142 = 1 := by decide +kernel
theorem en_142 : ∀ (v0 : zV), z_ent 142 [v0] = [some v0] := fun v0 => by unfold z_ent; rw [ml_142]; rfl
theorem i189_0 : zi 189 0 1 1 0 0 := by decide +kernel
theorem i189_1 : zi 189 1 2 18 7 2 := by decide +kernel
theorem i189_7 : zi 189 7 8 0 0 0 := by decide +kernel
theorem i189_2 : zi 189 2 3 1 0 0 := by decide +kernel
theorem i189_3 : zi 189 3 4 1 1 0 := by decide +kernel
theorem i189_4 : zi 189 4 5 19 7 3 := by decide +kernel
theorem i189_5 : zi 189 5 6 0 0 1 := by decide +kernel
theorem i189_6 : zi 189 6 7 17 8 0 := by decide +kernel
theorem i189_8 : zi 189 8 9 26 0 0 := by decide +kernel
theorem ml_189 : z_ml 189 = 2 := by decide +kernel
theorem en_189 : ∀ (v0 v1 : zV), z_ent 189 [v0, v1] = [some v0, some v1] := fun v0 v1 => by unfold z_ent; rw [ml_189]; rfl
theorem i190_0 : zi 190 0 1 1 0 0 := by decide +kernel
theorem i190_1 : zi 190 1 2 0 0 6 := by decide +kernel
theorem i190_2 : zi 190 2 3 22 189 0 := by decide +kernel
theorem na_189 : z_na 189 = 2 := by decide +kernel
theorem i190_3 : zi 190 3 4 26 0 0 := by decide +kernel
theorem ml_190 : z_ml 190 = 1 := by decide +kernel
theorem en_190 : ∀ (v0 : zV), z_ent 190 [v0] = [some v0] := fun v0 => by unfold z_ent; rw [ml_190]; rfl
theorem i144_0 : zi 144 0 1 1 1 0 := by decide +kernel
theorem i144_1 : zi 144 1 2 22 190 0 := by decide +kernel
theorem na_190 : z_na 190 = 1 := by decide +kernel
theorem i144_2 : zi 144 2 3 18 10 0 := by decide +kernel
theorem i144_3 : zi 144 3 4 1 2 0 := by decide +kernel
theorem i144_4 : zi 144 4 5 0 0 0 := by decide +kernel
theorem i144_5 : zi 144 5 6 0 0 100 := by decide +kernel
theorem kc_100 : Int32.ofInt 100 = 100 := by decide +kernel
theorem i144_6 : zi 144 6 7 22 188 0 := by decide +kernel
theorem i144_7 : zi 144 7 8 18 10 0 := by decide +kernel
theorem i144_8 : zi 144 8 9 0 0 1 := by decide +kernel
theorem i144_9 : zi 144 9 10 17 11 0 := by decide +kernel
theorem i144_10 : zi 144 10 11 0 0 0 := by decide +kernel
theorem i144_11 : zi 144 11 12 22 186 0 := by decide +kernel
theorem i144_12 : zi 144 12 13 2 0 0 := by decide +kernel
theorem i144_13 : zi 144 13 14 6 11 2 := by decide +kernel
theorem fl_0_2 : zfl 0 11 2 2 (some 3) := by decide +kernel
theorem i144_14 : zi 144 14 15 1 1 0 := by decide +kernel
theorem i144_15 : zi 144 15 16 1 2 0 := by decide +kernel
theorem i144_16 : zi 144 16 17 21 11 1 := by decide +kernel
theorem na_11 : z_na 11 = 2 := by decide +kernel
theorem ob_3 : zob 3 1 := by decide +kernel
theorem i144_17 : zi 144 17 18 25 0 0 := by decide +kernel
theorem th_144 : (z_th 144).isEmpty = true := by decide +kernel
theorem ml_144 : z_ml 144 = 3 := by decide +kernel
theorem en_144 : ∀ (v0 v1 v2 : zV), z_ent 144 [v0, v1, v2] = [some v0, some v1, some v2] := fun v0 v1 v2 => by unfold z_ent; rw [ml_144]; rfl
theorem i145_0 : zi 145 0 1 1 1 0 := by decide +kernel
theorem i145_1 : zi 145 1 2 0 0 8 := by decide +kernel
theorem i145_2 : zi 145 2 3 22 189 0 := by decide +kernel
theorem i145_3 : zi 145 3 4 22 185 0 := by decide +kernel
theorem i145_4 : zi 145 4 5 1 2 0 := by decide +kernel
theorem i145_5 : zi 145 5 6 0 0 0 := by decide +kernel
theorem i145_6 : zi 145 6 7 0 0 8 := by decide +kernel
theorem i145_7 : zi 145 7 8 22 188 0 := by decide +kernel
theorem i145_8 : zi 145 8 9 18 21 0 := by decide +kernel
theorem i145_9 : zi 145 9 10 1 3 0 := by decide +kernel
theorem i145_10 : zi 145 10 11 0 0 0 := by decide +kernel
theorem i145_11 : zi 145 11 12 0 0 8 := by decide +kernel
theorem i145_12 : zi 145 12 13 22 188 0 := by decide +kernel
theorem i145_13 : zi 145 13 14 18 21 0 := by decide +kernel
theorem i145_14 : zi 145 14 15 1 4 0 := by decide +kernel
theorem i145_15 : zi 145 15 16 0 0 0 := by decide +kernel
theorem i145_16 : zi 145 16 17 0 0 8 := by decide +kernel
theorem i145_17 : zi 145 17 18 22 188 0 := by decide +kernel
theorem i145_18 : zi 145 18 19 18 21 0 := by decide +kernel
theorem i145_19 : zi 145 19 20 0 0 1 := by decide +kernel
theorem i145_20 : zi 145 20 21 17 22 0 := by decide +kernel
theorem i145_21 : zi 145 21 22 0 0 0 := by decide +kernel
theorem i145_22 : zi 145 22 23 22 186 0 := by decide +kernel
theorem i145_23 : zi 145 23 24 1 5 0 := by decide +kernel
theorem i145_24 : zi 145 24 25 0 0 0 := by decide +kernel
theorem i145_25 : zi 145 25 26 0 0 15 := by decide +kernel
theorem kc_15 : Int32.ofInt 15 = 15 := by decide +kernel
theorem i145_26 : zi 145 26 27 22 188 0 := by decide +kernel
theorem i145_27 : zi 145 27 28 18 35 0 := by decide +kernel
theorem i145_28 : zi 145 28 29 1 6 0 := by decide +kernel
theorem i145_29 : zi 145 29 30 0 0 0 := by decide +kernel
theorem i145_30 : zi 145 30 31 0 0 2 := by decide +kernel
theorem i145_31 : zi 145 31 32 22 188 0 := by decide +kernel
theorem i145_32 : zi 145 32 33 18 35 0 := by decide +kernel
theorem i145_33 : zi 145 33 34 0 0 1 := by decide +kernel
theorem i145_34 : zi 145 34 35 17 36 0 := by decide +kernel
theorem i145_35 : zi 145 35 36 0 0 0 := by decide +kernel
theorem i145_36 : zi 145 36 37 22 186 0 := by decide +kernel
theorem i145_37 : zi 145 37 38 2 0 0 := by decide +kernel
theorem i145_38 : zi 145 38 39 6 11 3 := by decide +kernel
theorem fl_0_3 : zfl 0 11 3 3 (some 4) := by decide +kernel
theorem i145_39 : zi 145 39 40 1 1 0 := by decide +kernel
theorem i145_40 : zi 145 40 41 21 61 6 := by decide +kernel
theorem na_61 : z_na 61 = 1 := by decide +kernel
theorem ob_4 : zob 4 6 := by decide +kernel
theorem i145_41 : zi 145 41 42 22 187 0 := by decide +kernel
theorem na_187 : z_na 187 = 1 := by decide +kernel
theorem i145_42 : zi 145 42 43 2 0 0 := by decide +kernel
theorem i145_43 : zi 145 43 44 6 11 3 := by decide +kernel
theorem i145_44 : zi 145 44 45 1 1 0 := by decide +kernel
theorem i145_45 : zi 145 45 46 1 2 0 := by decide +kernel
theorem i145_46 : zi 145 46 47 1 3 0 := by decide +kernel
theorem i145_47 : zi 145 47 48 1 4 0 := by decide +kernel
theorem i145_48 : zi 145 48 49 1 5 0 := by decide +kernel
theorem i145_49 : zi 145 49 50 1 6 0 := by decide +kernel
theorem i145_50 : zi 145 50 51 21 62 6 := by decide +kernel
theorem na_62 : z_na 62 = 6 := by decide +kernel
theorem i145_51 : zi 145 51 52 25 0 0 := by decide +kernel
theorem th_145 : (z_th 145).isEmpty = true := by decide +kernel
theorem ml_145 : z_ml 145 = 7 := by decide +kernel
theorem en_145 : ∀ (v0 v1 v2 v3 v4 v5 v6 : zV), z_ent 145 [v0, v1, v2, v3, v4, v5, v6] = [some v0, some v1, some v2, some v3, some v4, some v5, some v6] := fun v0 v1 v2 v3 v4 v5 v6 => by unfold z_ent; rw [ml_145]; rfl
theorem i147_0 : zi 147 0 1 1 1 0 := by decide +kernel
theorem i147_1 : zi 147 1 2 0 0 0 := by decide +kernel
theorem i147_2 : zi 147 2 3 0 0 2 := by decide +kernel
theorem i147_3 : zi 147 3 4 22 188 0 := by decide +kernel
theorem i147_4 : zi 147 4 5 3 4 0 := by decide +kernel
theorem i147_5 : zi 147 5 6 1 4 0 := by decide +kernel
theorem i147_6 : zi 147 6 7 18 12 0 := by decide +kernel
theorem i147_7 : zi 147 7 8 1 2 0 := by decide +kernel
theorem i147_8 : zi 147 8 9 1 1 0 := by decide +kernel
theorem i147_9 : zi 147 9 10 22 69 0 := by decide +kernel
theorem na_69 : z_na 69 = 1 := by decide +kernel
theorem i147_10 : zi 147 10 11 22 189 0 := by decide +kernel
theorem i147_11 : zi 147 11 12 18 14 0 := by decide +kernel
theorem i147_12 : zi 147 12 13 0 0 1 := by decide +kernel
theorem i147_13 : zi 147 13 14 17 15 0 := by decide +kernel
theorem i147_14 : zi 147 14 15 0 0 0 := by decide +kernel
theorem i147_15 : zi 147 15 16 22 185 0 := by decide +kernel
theorem i147_16 : zi 147 16 17 1 4 0 := by decide +kernel
theorem i147_17 : zi 147 17 18 18 25 0 := by decide +kernel
theorem i147_18 : zi 147 18 19 1 3 0 := by decide +kernel
theorem i147_19 : zi 147 19 20 0 0 0 := by decide +kernel
theorem i147_20 : zi 147 20 21 0 0 255 := by decide +kernel
theorem kc_255 : Int32.ofInt 255 = 255 := by decide +kernel
theorem i147_21 : zi 147 21 22 22 188 0 := by decide +kernel
theorem i147_22 : zi 147 22 23 18 25 0 := by decide +kernel
theorem i147_23 : zi 147 23 24 0 0 1 := by decide +kernel
theorem i147_24 : zi 147 24 25 17 26 0 := by decide +kernel
theorem i147_25 : zi 147 25 26 0 0 0 := by decide +kernel
theorem i147_26 : zi 147 26 27 22 186 0 := by decide +kernel
theorem i147_27 : zi 147 27 28 2 0 0 := by decide +kernel
theorem i147_28 : zi 147 28 29 6 11 3 := by decide +kernel
theorem i147_29 : zi 147 29 30 1 1 0 := by decide +kernel
theorem i147_30 : zi 147 30 31 1 2 0 := by decide +kernel
theorem i147_31 : zi 147 31 32 1 3 0 := by decide +kernel
theorem i147_32 : zi 147 32 33 21 70 6 := by decide +kernel
theorem na_70 : z_na 70 = 3 := by decide +kernel
theorem i147_33 : zi 147 33 34 25 0 0 := by decide +kernel
theorem th_147 : (z_th 147).isEmpty = true := by decide +kernel
theorem ml_147 : z_ml 147 = 5 := by decide +kernel
theorem en_147 : ∀ (v0 v1 v2 v3 : zV), z_ent 147 [v0, v1, v2, v3] = [some v0, some v1, some v2, some v3, none] := fun v0 v1 v2 v3 => by unfold z_ent; rw [ml_147]; rfl
theorem i148_0 : zi 148 0 1 1 1 0 := by decide +kernel
theorem i148_1 : zi 148 1 2 0 0 3 := by decide +kernel
theorem i148_2 : zi 148 2 3 22 189 0 := by decide +kernel
theorem i148_3 : zi 148 3 4 18 15 0 := by decide +kernel
theorem i148_4 : zi 148 4 5 1 2 0 := by decide +kernel
theorem i148_5 : zi 148 5 6 0 0 6 := by decide +kernel
theorem i148_6 : zi 148 6 7 22 189 0 := by decide +kernel
theorem i148_7 : zi 148 7 8 18 15 0 := by decide +kernel
theorem i148_8 : zi 148 8 9 1 3 0 := by decide +kernel
theorem i148_9 : zi 148 9 10 0 0 (-1) := by decide +kernel
theorem i148_10 : zi 148 10 11 0 0 7 := by decide +kernel
theorem i148_11 : zi 148 11 12 22 188 0 := by decide +kernel
theorem i148_12 : zi 148 12 13 18 15 0 := by decide +kernel
theorem i148_13 : zi 148 13 14 0 0 1 := by decide +kernel
theorem i148_14 : zi 148 14 15 17 16 0 := by decide +kernel
theorem i148_15 : zi 148 15 16 0 0 0 := by decide +kernel
theorem i148_16 : zi 148 16 17 22 185 0 := by decide +kernel
theorem i148_17 : zi 148 17 18 2 0 0 := by decide +kernel
theorem i148_18 : zi 148 18 19 6 11 3 := by decide +kernel
theorem i148_19 : zi 148 19 20 1 1 0 := by decide +kernel
theorem i148_20 : zi 148 20 21 1 2 0 := by decide +kernel
theorem i148_21 : zi 148 21 22 1 3 0 := by decide +kernel
theorem i148_22 : zi 148 22 23 21 71 6 := by decide +kernel
theorem na_71 : z_na 71 = 3 := by decide +kernel
theorem i148_23 : zi 148 23 24 25 0 0 := by decide +kernel
theorem th_148 : (z_th 148).isEmpty = true := by decide +kernel
theorem ml_148 : z_ml 148 = 4 := by decide +kernel
theorem en_148 : ∀ (v0 v1 v2 v3 : zV), z_ent 148 [v0, v1, v2, v3] = [some v0, some v1, some v2, some v3] := fun v0 v1 v2 v3 => by unfold z_ent; rw [ml_148]; rfl
theorem i150_0 : zi 150 0 1 1 1 0 := by decide +kernel
theorem i150_1 : zi 150 1 2 0 0 4 := by decide +kernel
theorem i150_2 : zi 150 2 3 22 189 0 := by decide +kernel
theorem i150_3 : zi 150 3 4 18 14 0 := by decide +kernel
theorem i150_4 : zi 150 4 5 1 3 0 := by decide +kernel
theorem i150_5 : zi 150 5 6 1 2 0 := by decide +kernel
theorem i150_6 : zi 150 6 7 18 9 0 := by decide +kernel
theorem i150_9 : zi 150 9 10 0 0 8 := by decide +kernel
theorem i150_7 : zi 150 7 8 0 0 4 := by decide +kernel
theorem i150_8 : zi 150 8 9 17 10 0 := by decide +kernel
theorem i150_10 : zi 150 10 11 22 189 0 := by decide +kernel
theorem i150_11 : zi 150 11 12 18 14 0 := by decide +kernel
theorem i150_12 : zi 150 12 13 0 0 1 := by decide +kernel
theorem i150_13 : zi 150 13 14 17 15 0 := by decide +kernel
theorem i150_14 : zi 150 14 15 0 0 0 := by decide +kernel
theorem i150_15 : zi 150 15 16 22 185 0 := by decide +kernel
theorem i150_16 : zi 150 16 17 1 2 0 := by decide +kernel
theorem i150_17 : zi 150 17 18 18 25 0 := by decide +kernel
theorem i150_25 : zi 150 25 26 2 0 0 := by decide +kernel
theorem i150_26 : zi 150 26 27 6 11 3 := by decide +kernel
theorem i150_27 : zi 150 27 28 1 1 0 := by decide +kernel
theorem i150_28 : zi 150 28 29 1 3 0 := by decide +kernel
theorem i150_29 : zi 150 29 30 1 4 0 := by decide +kernel
theorem i150_30 : zi 150 30 31 21 76 6 := by decide +kernel
theorem na_76 : z_na 76 = 3 := by decide +kernel
theorem i150_18 : zi 150 18 19 2 0 0 := by decide +kernel
theorem i150_19 : zi 150 19 20 6 11 3 := by decide +kernel
theorem i150_20 : zi 150 20 21 1 1 0 := by decide +kernel
theorem i150_21 : zi 150 21 22 1 3 0 := by decide +kernel
theorem i150_22 : zi 150 22 23 1 4 0 := by decide +kernel
theorem i150_23 : zi 150 23 24 21 77 6 := by decide +kernel
theorem na_77 : z_na 77 = 3 := by decide +kernel
theorem i150_24 : zi 150 24 25 17 31 0 := by decide +kernel
theorem i150_31 : zi 150 31 32 26 0 0 := by decide +kernel
theorem th_150 : (z_th 150).isEmpty = true := by decide +kernel
theorem ml_150 : z_ml 150 = 5 := by decide +kernel
theorem en_150 : ∀ (v0 v1 v2 v3 v4 : zV), z_ent 150 [v0, v1, v2, v3, v4] = [some v0, some v1, some v2, some v3, some v4] := fun v0 v1 v2 v3 v4 => by unfold z_ent; rw [ml_150]; rfl
theorem i151_0 : zi 151 0 1 1 1 0 := by decide +kernel
theorem i151_1 : zi 151 1 2 0 0 3 := by decide +kernel
theorem i151_2 : zi 151 2 3 22 189 0 := by decide +kernel
theorem i151_3 : zi 151 3 4 18 10 0 := by decide +kernel
theorem i151_4 : zi 151 4 5 1 2 0 := by decide +kernel
theorem i151_5 : zi 151 5 6 0 0 6 := by decide +kernel
theorem i151_6 : zi 151 6 7 22 189 0 := by decide +kernel
theorem i151_7 : zi 151 7 8 18 10 0 := by decide +kernel
theorem i151_8 : zi 151 8 9 0 0 1 := by decide +kernel
theorem i151_9 : zi 151 9 10 17 11 0 := by decide +kernel
theorem i151_10 : zi 151 10 11 0 0 0 := by decide +kernel
theorem i151_11 : zi 151 11 12 22 185 0 := by decide +kernel
theorem i151_12 : zi 151 12 13 2 0 0 := by decide +kernel
theorem i151_13 : zi 151 13 14 6 11 3 := by decide +kernel
theorem i151_14 : zi 151 14 15 1 1 0 := by decide +kernel
theorem i151_15 : zi 151 15 16 1 2 0 := by decide +kernel
theorem i151_16 : zi 151 16 17 21 72 6 := by decide +kernel
theorem na_72 : z_na 72 = 2 := by decide +kernel
theorem i151_17 : zi 151 17 18 3 3 0 := by decide +kernel
theorem i151_18 : zi 151 18 19 2 0 0 := by decide +kernel
theorem i151_19 : zi 151 19 20 6 11 0 := by decide +kernel
theorem i151_20 : zi 151 20 21 21 85 7 := by decide +kernel
theorem i151_21 : zi 151 21 22 18 24 1 := by decide +kernel
theorem i151_22 : zi 151 22 23 0 0 (-2) := by decide +kernel
theorem kc_m2 : Int32.ofInt (-2) = (-2) := by decide +kernel
theorem i151_23 : zi 151 23 24 25 0 0 := by decide +kernel
theorem i151_24 : zi 151 24 25 1 3 0 := by decide +kernel
theorem i151_25 : zi 151 25 26 0 0 (-1) := by decide +kernel
theorem i151_26 : zi 151 26 27 19 29 1 := by decide +kernel
theorem i151_27 : zi 151 27 28 0 0 (-6) := by decide +kernel
theorem kc_m6 : Int32.ofInt (-6) = (-6) := by decide +kernel
theorem i151_28 : zi 151 28 29 25 0 0 := by decide +kernel
theorem i151_29 : zi 151 29 30 2 0 0 := by decide +kernel
theorem i151_30 : zi 151 30 31 6 11 4 := by decide +kernel
theorem fl_0_4 : zfl 0 11 4 4 (some 5) := by decide +kernel
theorem i151_31 : zi 151 31 32 21 114 10 := by decide +kernel
theorem na_114 : z_na 114 = 0 := by decide +kernel
theorem i151_32 : zi 151 32 33 18 35 0 := by decide +kernel
theorem i151_33 : zi 151 33 34 0 0 (-11) := by decide +kernel
theorem i151_34 : zi 151 34 35 25 0 0 := by decide +kernel
theorem i151_35 : zi 151 35 36 2 0 0 := by decide +kernel
theorem i151_36 : zi 151 36 37 6 11 4 := by decide +kernel
theorem i151_37 : zi 151 37 38 0 0 (-1) := by decide +kernel
theorem i151_38 : zi 151 38 39 0 0 0 := by decide +kernel
theorem i151_39 : zi 151 39 40 1 3 0 := by decide +kernel
theorem i151_40 : zi 151 40 41 2 0 0 := by decide +kernel
theorem i151_41 : zi 151 41 42 6 11 3 := by decide +kernel
theorem i151_42 : zi 151 42 43 1 1 0 := by decide +kernel
theorem i151_43 : zi 151 43 44 21 73 6 := by decide +kernel
theorem na_73 : z_na 73 = 1 := by decide +kernel
theorem i151_44 : zi 151 44 45 21 122 10 := by decide +kernel
theorem na_122 : z_na 122 = 4 := by decide +kernel
theorem i151_45 : zi 151 45 46 3 4 0 := by decide +kernel
theorem i151_46 : zi 151 46 47 2 0 0 := by decide +kernel
theorem i151_47 : zi 151 47 48 6 11 4 := by decide +kernel
theorem i151_48 : zi 151 48 49 1 4 0 := by decide +kernel
theorem i151_49 : zi 151 49 50 2 0 0 := by decide +kernel
theorem i151_50 : zi 151 50 51 6 11 11 := by decide +kernel
theorem i151_51 : zi 151 51 52 0 0 24 := by decide +kernel
theorem kc_24 : Int32.ofInt 24 = 24 := by decide +kernel
theorem i151_52 : zi 151 52 53 0 0 72 := by decide +kernel
theorem kc_72 : Int32.ofInt 72 = 72 := by decide +kernel
theorem i151_53 : zi 151 53 54 21 123 10 := by decide +kernel
theorem na_123 : z_na 123 = 4 := by decide +kernel
theorem i151_54 : zi 151 54 55 2 0 0 := by decide +kernel
theorem i151_55 : zi 151 55 56 6 11 4 := by decide +kernel
theorem i151_56 : zi 151 56 57 1 4 0 := by decide +kernel
theorem i151_57 : zi 151 57 58 0 0 (-1) := by decide +kernel
theorem i151_58 : zi 151 58 59 0 0 15 := by decide +kernel
theorem i151_59 : zi 151 59 60 0 0 0 := by decide +kernel
theorem i151_60 : zi 151 60 61 21 124 10 := by decide +kernel
theorem na_124 : z_na 124 = 4 := by decide +kernel
theorem i151_61 : zi 151 61 62 1 4 0 := by decide +kernel
theorem i151_62 : zi 151 62 63 25 0 0 := by decide +kernel
theorem th_151 : (z_th 151).isEmpty = true := by decide +kernel
theorem ml_151 : z_ml 151 = 5 := by decide +kernel
theorem en_151 : ∀ (v0 v1 v2 : zV), z_ent 151 [v0, v1, v2] = [some v0, some v1, some v2, none, none] := fun v0 v1 v2 => by unfold z_ent; rw [ml_151]; rfl
theorem i199_0 : zi 199 0 1 2 0 0 := by decide +kernel
theorem i199_1 : zi 199 1 2 6 11 0 := by decide +kernel
theorem i199_2 : zi 199 2 3 21 85 7 := by decide +kernel
theorem i199_3 : zi 199 3 4 18 6 1 := by decide +kernel
theorem i199_4 : zi 199 4 5 0 0 (-2) := by decide +kernel
theorem i199_5 : zi 199 5 6 25 0 0 := by decide +kernel
theorem i199_6 : zi 199 6 7 1 1 0 := by decide +kernel
theorem i199_7 : zi 199 7 8 0 0 (-1) := by decide +kernel
theorem i199_8 : zi 199 8 9 19 37 0 := by decide +kernel
theorem i199_37 : zi 199 37 38 2 0 0 := by decide +kernel
theorem i199_38 : zi 199 38 39 6 11 4 := by decide +kernel
theorem i199_39 : zi 199 39 40 21 114 10 := by decide +kernel
theorem i199_40 : zi 199 40 41 18 43 0 := by decide +kernel
theorem i199_41 : zi 199 41 42 0 0 (-11) := by decide +kernel
theorem i199_42 : zi 199 42 43 17 44 0 := by decide +kernel
theorem i199_43 : zi 199 43 44 0 0 0 := by decide +kernel
theorem i199_44 : zi 199 44 45 25 0 0 := by decide +kernel
theorem i199_9 : zi 199 9 10 2 0 0 := by decide +kernel
theorem i199_10 : zi 199 10 11 6 11 4 := by decide +kernel
theorem i199_11 : zi 199 11 12 1 1 0 := by decide +kernel
theorem i199_12 : zi 199 12 13 21 115 10 := by decide +kernel
theorem i199_13 : zi 199 13 14 18 24 0 := by decide +kernel
theorem i199_14 : zi 199 14 15 2 0 0 := by decide +kernel
theorem i199_15 : zi 199 15 16 6 11 4 := by decide +kernel
theorem i199_16 : zi 199 16 17 1 1 0 := by decide +kernel
theorem i199_17 : zi 199 17 18 21 116 10 := by decide +kernel
theorem i199_18 : zi 199 18 19 18 24 0 := by decide +kernel
theorem i199_19 : zi 199 19 20 2 0 0 := by decide +kernel
theorem i199_20 : zi 199 20 21 6 11 4 := by decide +kernel
theorem i199_21 : zi 199 21 22 1 1 0 := by decide +kernel
theorem i199_22 : zi 199 22 23 21 117 10 := by decide +kernel
theorem na_117 : z_na 117 = 1 := by decide +kernel
theorem i199_23 : zi 199 23 24 18 26 0 := by decide +kernel
theorem i199_24 : zi 199 24 25 0 0 (-4) := by decide +kernel
theorem kc_m4 : Int32.ofInt (-4) = (-4) := by decide +kernel
theorem i199_25 : zi 199 25 26 25 0 0 := by decide +kernel
theorem i199_26 : zi 199 26 27 1 2 0 := by decide +kernel
theorem i199_27 : zi 199 27 28 2 0 0 := by decide +kernel
theorem i199_28 : zi 199 28 29 6 11 4 := by decide +kernel
theorem i199_29 : zi 199 29 30 1 1 0 := by decide +kernel
theorem i199_30 : zi 199 30 31 21 119 10 := by decide +kernel
theorem na_119 : z_na 119 = 1 := by decide +kernel
theorem i199_31 : zi 199 31 32 0 0 (-1) := by decide +kernel
theorem i199_32 : zi 199 32 33 13 7 0 := by decide +kernel
theorem i199_33 : zi 199 33 34 13 5 0 := by decide +kernel
theorem i199_34 : zi 199 34 35 18 37 0 := by decide +kernel
theorem i199_35 : zi 199 35 36 0 0 (-6) := by decide +kernel
theorem i199_36 : zi 199 36 37 25 0 0 := by decide +kernel
theorem ml_199 : z_ml 199 = 3 := by decide +kernel
theorem en_199 : ∀ (v0 v1 v2 : zV), z_ent 199 [v0, v1, v2] = [some v0, some v1, some v2] := fun v0 v1 v2 => by unfold z_ent; rw [ml_199]; rfl
theorem i152_0 : zi 152 0 1 1 2 0 := by decide +kernel
theorem i152_1 : zi 152 1 2 0 0 0 := by decide +kernel
theorem i152_2 : zi 152 2 3 0 0 2 := by decide +kernel
theorem i152_3 : zi 152 3 4 22 188 0 := by decide +kernel
theorem i152_4 : zi 152 4 5 18 12 0 := by decide +kernel
theorem i152_5 : zi 152 5 6 1 3 0 := by decide +kernel
theorem i152_6 : zi 152 6 7 0 0 0 := by decide +kernel
theorem i152_7 : zi 152 7 8 0 0 255 := by decide +kernel
theorem i152_8 : zi 152 8 9 22 188 0 := by decide +kernel
theorem i152_9 : zi 152 9 10 18 12 0 := by decide +kernel
theorem i152_10 : zi 152 10 11 0 0 1 := by decide +kernel
theorem i152_11 : zi 152 11 12 17 13 0 := by decide +kernel
theorem i152_12 : zi 152 12 13 0 0 0 := by decide +kernel
theorem i152_13 : zi 152 13 14 22 186 0 := by decide +kernel
theorem i152_14 : zi 152 14 15 1 4 0 := by decide +kernel
theorem i152_15 : zi 152 15 16 0 0 1 := by decide +kernel
theorem i152_16 : zi 152 16 17 0 0 100 := by decide +kernel
theorem i152_17 : zi 152 17 18 22 188 0 := by decide +kernel
theorem i152_18 : zi 152 18 19 18 26 0 := by decide +kernel
theorem i152_19 : zi 152 19 20 1 5 0 := by decide +kernel
theorem i152_20 : zi 152 20 21 1 4 0 := by decide +kernel
theorem i152_21 : zi 152 21 22 0 0 200 := by decide +kernel
theorem kc_200 : Int32.ofInt 200 = 200 := by decide +kernel
theorem i152_22 : zi 152 22 23 22 188 0 := by decide +kernel
theorem i152_23 : zi 152 23 24 18 26 0 := by decide +kernel
theorem i152_24 : zi 152 24 25 0 0 1 := by decide +kernel
theorem i152_25 : zi 152 25 26 17 27 0 := by decide +kernel
theorem i152_26 : zi 152 26 27 0 0 0 := by decide +kernel
theorem i152_27 : zi 152 27 28 22 186 0 := by decide +kernel
theorem i152_28 : zi 152 28 29 1 6 0 := by decide +kernel
theorem i152_29 : zi 152 29 30 0 0 (-1) := by decide +kernel
theorem i152_30 : zi 152 30 31 19 36 0 := by decide +kernel
theorem i152_36 : zi 152 36 37 1 7 0 := by decide +kernel
theorem i152_37 : zi 152 37 38 0 0 1 := by decide +kernel
theorem i152_38 : zi 152 38 39 0 0 15 := by decide +kernel
theorem i152_39 : zi 152 39 40 22 188 0 := by decide +kernel
theorem i152_40 : zi 152 40 41 18 43 0 := by decide +kernel
theorem i152_41 : zi 152 41 42 0 0 1 := by decide +kernel
theorem i152_42 : zi 152 42 43 17 44 0 := by decide +kernel
theorem i152_43 : zi 152 43 44 0 0 0 := by decide +kernel
theorem i152_31 : zi 152 31 32 1 6 0 := by decide +kernel
theorem i152_32 : zi 152 32 33 0 0 1 := by decide +kernel
theorem i152_33 : zi 152 33 34 0 0 20 := by decide +kernel
theorem i152_34 : zi 152 34 35 22 188 0 := by decide +kernel
theorem i152_35 : zi 152 35 36 18 43 0 := by decide +kernel
theorem i152_44 : zi 152 44 45 22 186 0 := by decide +kernel
theorem i152_45 : zi 152 45 46 2 0 0 := by decide +kernel
theorem i152_46 : zi 152 46 47 1 1 0 := by decide +kernel
theorem i152_47 : zi 152 47 48 1 3 0 := by decide +kernel
theorem i152_48 : zi 152 48 49 21 199 11 := by decide +kernel
theorem na_199 : z_na 199 = 2 := by decide +kernel
theorem ob_0 : zob 0 11 := by decide +kernel
theorem i152_49 : zi 152 49 50 3 9 0 := by decide +kernel
theorem i152_50 : zi 152 50 51 1 9 0 := by decide +kernel
theorem i152_51 : zi 152 51 52 18 54 0 := by decide +kernel
theorem i152_54 : zi 152 54 55 2 0 0 := by decide +kernel
theorem i152_55 : zi 152 55 56 6 11 4 := by decide +kernel
theorem i152_56 : zi 152 56 57 1 1 0 := by decide +kernel
theorem i152_57 : zi 152 57 58 1 2 0 := by decide +kernel
theorem i152_58 : zi 152 58 59 1 1 0 := by decide +kernel
theorem i152_59 : zi 152 59 60 0 0 (-1) := by decide +kernel
theorem i152_60 : zi 152 60 61 19 63 1 := by decide +kernel
theorem i152_61 : zi 152 61 62 0 0 (-1) := by decide +kernel
theorem i152_62 : zi 152 62 63 17 67 0 := by decide +kernel
theorem i152_63 : zi 152 63 64 2 0 0 := by decide +kernel
theorem i152_64 : zi 152 64 65 6 11 4 := by decide +kernel
theorem i152_65 : zi 152 65 66 1 1 0 := by decide +kernel
theorem i152_66 : zi 152 66 67 21 118 10 := by decide +kernel
theorem na_118 : z_na 118 = 1 := by decide +kernel
theorem i152_67 : zi 152 67 68 1 3 0 := by decide +kernel
theorem i152_68 : zi 152 68 69 21 122 10 := by decide +kernel
theorem i152_69 : zi 152 69 70 3 10 0 := by decide +kernel
theorem i152_70 : zi 152 70 71 2 0 0 := by decide +kernel
theorem i152_71 : zi 152 71 72 6 11 4 := by decide +kernel
theorem i152_72 : zi 152 72 73 1 10 0 := by decide +kernel
theorem i152_73 : zi 152 73 74 2 0 0 := by decide +kernel
theorem i152_74 : zi 152 74 75 6 11 11 := by decide +kernel
theorem i152_75 : zi 152 75 76 1 4 0 := by decide +kernel
theorem i152_76 : zi 152 76 77 1 5 0 := by decide +kernel
theorem i152_77 : zi 152 77 78 21 123 10 := by decide +kernel
theorem i152_78 : zi 152 78 79 2 0 0 := by decide +kernel
theorem i152_79 : zi 152 79 80 6 11 4 := by decide +kernel
theorem i152_80 : zi 152 80 81 1 10 0 := by decide +kernel
theorem i152_81 : zi 152 81 82 1 6 0 := by decide +kernel
theorem i152_82 : zi 152 82 83 1 7 0 := by decide +kernel
theorem i152_83 : zi 152 83 84 1 8 0 := by decide +kernel
theorem i152_84 : zi 152 84 85 21 124 10 := by decide +kernel
theorem i152_85 : zi 152 85 86 1 10 0 := by decide +kernel
theorem i152_86 : zi 152 86 87 25 0 0 := by decide +kernel
theorem i152_52 : zi 152 52 53 1 9 0 := by decide +kernel
theorem i152_53 : zi 152 53 54 25 0 0 := by decide +kernel
theorem th_152 : (z_th 152).isEmpty = true := by decide +kernel
theorem ml_152 : z_ml 152 = 11 := by decide +kernel
theorem en_152 : ∀ (v0 v1 v2 v3 v4 v5 v6 v7 v8 : zV), z_ent 152 [v0, v1, v2, v3, v4, v5, v6, v7, v8] = [some v0, some v1, some v2, some v3, some v4, some v5, some v6, some v7, some v8, none, none] := fun v0 v1 v2 v3 v4 v5 v6 v7 v8 => by unfold z_ent; rw [ml_152]; rfl
theorem i153_0 : zi 153 0 1 2 0 0 := by decide +kernel
theorem i153_1 : zi 153 1 2 6 11 4 := by decide +kernel
theorem i153_2 : zi 153 2 3 1 1 0 := by decide +kernel
theorem i153_3 : zi 153 3 4 21 115 10 := by decide +kernel
theorem i153_4 : zi 153 4 5 22 185 0 := by decide +kernel
theorem i153_5 : zi 153 5 6 1 2 0 := by decide +kernel
theorem i153_6 : zi 153 6 7 0 0 1 := by decide +kernel
theorem i153_7 : zi 153 7 8 0 0 100 := by decide +kernel
theorem i153_8 : zi 153 8 9 22 188 0 := by decide +kernel
theorem i153_9 : zi 153 9 10 22 186 0 := by decide +kernel
theorem i153_10 : zi 153 10 11 2 0 0 := by decide +kernel
theorem i153_11 : zi 153 11 12 6 11 0 := by decide +kernel
theorem i153_12 : zi 153 12 13 21 85 7 := by decide +kernel
theorem i153_13 : zi 153 13 14 18 16 1 := by decide +kernel
theorem i153_14 : zi 153 14 15 0 0 (-2) := by decide +kernel
theorem i153_15 : zi 153 15 16 25 0 0 := by decide +kernel
theorem i153_16 : zi 153 16 17 2 0 0 := by decide +kernel
theorem i153_17 : zi 153 17 18 6 11 4 := by decide +kernel
theorem i153_18 : zi 153 18 19 1 1 0 := by decide +kernel
theorem i153_19 : zi 153 19 20 21 116 10 := by decide +kernel
theorem i153_20 : zi 153 20 21 18 26 0 := by decide +kernel
theorem i153_21 : zi 153 21 22 2 0 0 := by decide +kernel
theorem i153_22 : zi 153 22 23 6 11 4 := by decide +kernel
theorem i153_23 : zi 153 23 24 1 1 0 := by decide +kernel
theorem i153_24 : zi 153 24 25 21 117 10 := by decide +kernel
theorem i153_25 : zi 153 25 26 18 28 0 := by decide +kernel
theorem i153_26 : zi 153 26 27 0 0 (-4) := by decide +kernel
theorem i153_27 : zi 153 27 28 25 0 0 := by decide +kernel
theorem i153_28 : zi 153 28 29 2 0 0 := by decide +kernel
theorem i153_29 : zi 153 29 30 6 11 4 := by decide +kernel
theorem i153_30 : zi 153 30 31 1 1 0 := by decide +kernel
theorem i153_31 : zi 153 31 32 2 0 0 := by decide +kernel
theorem i153_32 : zi 153 32 33 6 11 11 := by decide +kernel
theorem i153_33 : zi 153 33 34 1 2 0 := by decide +kernel
theorem i153_34 : zi 153 34 35 21 125 10 := by decide +kernel
theorem na_125 : z_na 125 = 3 := by decide +kernel
theorem i153_35 : zi 153 35 36 25 0 0 := by decide +kernel
theorem th_153 : (z_th 153).isEmpty = true := by decide +kernel
theorem ml_153 : z_ml 153 = 3 := by decide +kernel
theorem en_153 : ∀ (v0 v1 v2 : zV), z_ent 153 [v0, v1, v2] = [some v0, some v1, some v2] := fun v0 v1 v2 => by unfold z_ent; rw [ml_153]; rfl
theorem i155_0 : zi 155 0 1 2 0 0 := by decide +kernel
theorem i155_1 : zi 155 1 2 6 11 4 := by decide +kernel
theorem i155_2 : zi 155 2 3 1 1 0 := by decide +kernel
theorem i155_3 : zi 155 3 4 21 115 10 := by decide +kernel
theorem i155_4 : zi 155 4 5 22 185 0 := by decide +kernel
theorem i155_5 : zi 155 5 6 2 0 0 := by decide +kernel
theorem i155_6 : zi 155 6 7 6 11 4 := by decide +kernel
theorem i155_7 : zi 155 7 8 1 1 0 := by decide +kernel
theorem i155_8 : zi 155 8 9 21 121 10 := by decide +kernel
theorem na_121 : z_na 121 = 1 := by decide +kernel
theorem i155_9 : zi 155 9 10 25 0 0 := by decide +kernel
theorem th_155 : (z_th 155).isEmpty = true := by decide +kernel
theorem ml_155 : z_ml 155 = 2 := by decide +kernel
theorem en_155 : ∀ (v0 v1 : zV), z_ent 155 [v0, v1] = [some v0, some v1] := fun v0 v1 => by unfold z_ent; rw [ml_155]; rfl
theorem i156_0 : zi 156 0 1 2 0 0 := by decide +kernel
theorem i156_1 : zi 156 1 2 6 11 4 := by decide +kernel
theorem i156_2 : zi 156 2 3 1 1 0 := by decide +kernel
theorem i156_3 : zi 156 3 4 21 115 10 := by decide +kernel
theorem i156_4 : zi 156 4 5 22 185 0 := by decide +kernel
theorem i156_5 : zi 156 5 6 2 0 0 := by decide +kernel
theorem i156_6 : zi 156 6 7 6 11 4 := by decide +kernel
theorem i156_7 : zi 156 7 8 1 1 0 := by decide +kernel
theorem i156_8 : zi 156 8 9 21 116 10 := by decide +kernel
theorem i156_9 : zi 156 9 10 26 0 0 := by decide +kernel
theorem th_156 : (z_th 156).isEmpty = true := by decide +kernel
theorem ml_156 : z_ml 156 = 2 := by decide +kernel
theorem en_156 : ∀ (v0 v1 : zV), z_ent 156 [v0, v1] = [some v0, some v1] := fun v0 v1 => by unfold z_ent; rw [ml_156]; rfl
theorem i192_0 : zi 192 0 1 1 0 0 := by decide +kernel
theorem i192_1 : zi 192 1 2 0 0 4 := by decide +kernel
theorem i192_2 : zi 192 2 3 22 189 0 := by decide +kernel
theorem i192_3 : zi 192 3 4 26 0 0 := by decide +kernel
theorem ml_192 : z_ml 192 = 1 := by decide +kernel
theorem en_192 : ∀ (v0 : zV), z_ent 192 [v0] = [some v0] := fun v0 => by unfold z_ent; rw [ml_192]; rfl
theorem i191_0 : zi 191 0 1 1 0 0 := by decide +kernel
theorem i191_1 : zi 191 1 2 0 0 216 := by decide +kernel
theorem kc_216 : Int32.ofInt 216 = 216 := by decide +kernel
theorem i191_2 : zi 191 2 3 22 189 0 := by decide +kernel
theorem i191_3 : zi 191 3 4 26 0 0 := by decide +kernel
theorem ml_191 : z_ml 191 = 1 := by decide +kernel
theorem en_191 : ∀ (v0 : zV), z_ent 191 [v0] = [some v0] := fun v0 => by unfold z_ent; rw [ml_191]; rfl
theorem i193_0 : zi 193 0 1 1 0 0 := by decide +kernel
theorem i193_1 : zi 193 1 2 0 0 0 := by decide +kernel
theorem i193_2 : zi 193 2 3 0 0 9999 := by decide +kernel
theorem kc_9999 : Int32.ofInt 9999 = 9999 := by decide +kernel
theorem i193_3 : zi 193 3 4 22 188 0 := by decide +kernel
theorem i193_4 : zi 193 4 5 26 0 0 := by decide +kernel
theorem ml_193 : z_ml 193 = 1 := by decide +kernel
theorem en_193 : ∀ (v0 : zV), z_ent 193 [v0] = [some v0] := fun v0 => by unfold z_ent; rw [ml_193]; rfl
theorem i195_0 : zi 195 0 1 1 0 0 := by decide +kernel
theorem i195_1 : zi 195 1 2 0 0 36 := by decide +kernel
theorem kc_36 : Int32.ofInt 36 = 36 := by decide +kernel
theorem i195_2 : zi 195 2 3 13 3 0 := by decide +kernel
theorem nz_36 : ¬ (36 : Int32) = 0 := by decide
theorem i195_3 : zi 195 3 4 25 0 0 := by decide +kernel
theorem ml_195 : z_ml 195 = 1 := by decide +kernel
theorem en_195 : ∀ (v0 : zV), z_ent 195 [v0] = [some v0] := fun v0 => by unfold z_ent; rw [ml_195]; rfl
theorem i201_0 : zi 201 0 1 2 0 0 := by decide +kernel
theorem i201_1 : zi 201 1 2 6 11 2 := by decide +kernel
theorem i201_2 : zi 201 2 3 1 1 0 := by decide +kernel
theorem i201_3 : zi 201 3 4 22 195 0 := by decide +kernel
theorem na_195 : z_na 195 = 1 := by decide +kernel
theorem i201_4 : zi 201 4 5 21 8 1 := by decide +kernel
theorem na_8 : z_na 8 = 1 := by decide +kernel
theorem i201_5 : zi 201 5 6 18 8 0 := by decide +kernel
theorem i201_8 : zi 201 8 9 2 0 0 := by decide +kernel
theorem i201_9 : zi 201 9 10 6 11 6 := by decide +kernel
theorem fl_0_6 : zfl 0 11 6 6 (some 7) := by decide +kernel
theorem i201_10 : zi 201 10 11 1 1 0 := by decide +kernel
theorem i201_11 : zi 201 11 12 1 2 0 := by decide +kernel
theorem i201_12 : zi 201 12 13 2 0 0 := by decide +kernel
theorem i201_13 : zi 201 13 14 6 11 1 := by decide +kernel
theorem i201_14 : zi 201 14 15 21 38 4 := by decide +kernel
theorem i201_15 : zi 201 15 16 21 110 9 := by decide +kernel
theorem na_110 : z_na 110 = 3 := by decide +kernel
theorem i201_16 : zi 201 16 17 25 0 0 := by decide +kernel
theorem i201_6 : zi 201 6 7 0 0 (-13) := by decide +kernel
theorem kc_m13 : Int32.ofInt (-13) = (-13) := by decide +kernel
theorem i201_7 : zi 201 7 8 25 0 0 := by decide +kernel
theorem ml_201 : z_ml 201 = 3 := by decide +kernel
theorem en_201 : ∀ (v0 v1 v2 : zV), z_ent 201 [v0, v1, v2] = [some v0, some v1, some v2] := fun v0 v1 v2 => by unfold z_ent; rw [ml_201]; rfl
theorem i203_0 : zi 203 0 1 2 0 0 := by decide +kernel
theorem i203_1 : zi 203 1 2 6 11 2 := by decide +kernel
theorem i203_2 : zi 203 2 3 1 1 0 := by decide +kernel
theorem i203_3 : zi 203 3 4 22 195 0 := by decide +kernel
theorem i203_4 : zi 203 4 5 21 8 1 := by decide +kernel
theorem i203_5 : zi 203 5 6 18 8 0 := by decide +kernel
theorem i203_8 : zi 203 8 9 1 3 0 := by decide +kernel
theorem i203_9 : zi 203 9 10 0 0 (-1) := by decide +kernel
theorem i203_10 : zi 203 10 11 19 19 0 := by decide +kernel
theorem i203_19 : zi 203 19 20 2 0 0 := by decide +kernel
theorem i203_20 : zi 203 20 21 6 11 1 := by decide +kernel
theorem i203_21 : zi 203 21 22 2 0 0 := by decide +kernel
theorem i203_22 : zi 203 22 23 6 11 11 := by decide +kernel
theorem i203_23 : zi 203 23 24 21 41 4 := by decide +kernel
theorem na_41 : z_na 41 = 1 := by decide +kernel
theorem i203_24 : zi 203 24 25 3 4 0 := by decide +kernel
theorem i203_25 : zi 203 25 26 2 0 0 := by decide +kernel
theorem i203_26 : zi 203 26 27 6 11 7 := by decide +kernel
theorem fl_0_7 : zfl 0 11 7 7 (some 8) := by decide +kernel
theorem i203_27 : zi 203 27 28 1 1 0 := by decide +kernel
theorem i203_28 : zi 203 28 29 1 2 0 := by decide +kernel
theorem i203_29 : zi 203 29 30 1 4 0 := by decide +kernel
theorem i203_30 : zi 203 30 31 21 15 2 := by decide +kernel
theorem na_15 : z_na 15 = 3 := by decide +kernel
theorem i203_31 : zi 203 31 32 2 0 0 := by decide +kernel
theorem i203_32 : zi 203 32 33 6 11 6 := by decide +kernel
theorem i203_33 : zi 203 33 34 1 1 0 := by decide +kernel
theorem i203_34 : zi 203 34 35 1 2 0 := by decide +kernel
theorem i203_35 : zi 203 35 36 1 4 0 := by decide +kernel
theorem i203_36 : zi 203 36 37 21 108 9 := by decide +kernel
theorem i203_37 : zi 203 37 38 25 0 0 := by decide +kernel
theorem i203_11 : zi 203 11 12 1 3 0 := by decide +kernel
theorem i203_12 : zi 203 12 13 2 0 0 := by decide +kernel
theorem i203_13 : zi 203 13 14 6 11 6 := by decide +kernel
theorem i203_14 : zi 203 14 15 1 1 0 := by decide +kernel
theorem i203_15 : zi 203 15 16 21 104 9 := by decide +kernel
theorem na_104 : z_na 104 = 1 := by decide +kernel
theorem i203_16 : zi 203 16 17 19 19 0 := by decide +kernel
theorem i203_17 : zi 203 17 18 0 0 (-8) := by decide +kernel
theorem kc_m8 : Int32.ofInt (-8) = (-8) := by decide +kernel
theorem i203_18 : zi 203 18 19 25 0 0 := by decide +kernel
theorem i203_6 : zi 203 6 7 0 0 (-13) := by decide +kernel
theorem i203_7 : zi 203 7 8 25 0 0 := by decide +kernel
theorem ml_203 : z_ml 203 = 5 := by decide +kernel
theorem en_203 : ∀ (v0 v1 v2 v3 : zV), z_ent 203 [v0, v1, v2, v3] = [some v0, some v1, some v2, some v3, none] := fun v0 v1 v2 v3 => by unfold z_ent; rw [ml_203]; rfl
theorem i204_0 : zi 204 0 1 2 0 0 := by decide +kernel
theorem i204_1 : zi 204 1 2 6 11 2 := by decide +kernel
theorem i204_2 : zi 204 2 3 1 1 0 := by decide +kernel
theorem i204_3 : zi 204 3 4 22 195 0 := by decide +kernel
theorem i204_4 : zi 204 4 5 21 8 1 := by decide +kernel
theorem i204_5 : zi 204 5 6 18 8 0 := by decide +kernel
theorem i204_8 : zi 204 8 9 2 0 0 := by decide +kernel
theorem i204_9 : zi 204 9 10 6 11 6 := by decide +kernel
theorem i204_10 : zi 204 10 11 1 1 0 := by decide +kernel
theorem i204_11 : zi 204 11 12 1 2 0 := by decide +kernel
theorem i204_12 : zi 204 12 13 21 107 9 := by decide +kernel
theorem i204_13 : zi 204 13 14 3 4 0 := by decide +kernel
theorem i204_14 : zi 204 14 15 1 4 0 := by decide +kernel
theorem i204_15 : zi 204 15 16 0 0 (-1) := by decide +kernel
theorem i204_16 : zi 204 16 17 19 23 0 := by decide +kernel
theorem i204_23 : zi 204 23 24 0 0 (-7) := by decide +kernel
theorem i204_24 : zi 204 24 25 25 0 0 := by decide +kernel
theorem i204_17 : zi 204 17 18 2 0 0 := by decide +kernel
theorem i204_18 : zi 204 18 19 6 11 6 := by decide +kernel
theorem i204_19 : zi 204 19 20 1 4 0 := by decide +kernel
theorem i204_20 : zi 204 20 21 21 105 9 := by decide +kernel
theorem na_105 : z_na 105 = 1 := by decide +kernel
theorem i204_21 : zi 204 21 22 0 0 2 := by decide +kernel
theorem i204_22 : zi 204 22 23 19 25 1 := by decide +kernel
theorem i204_25 : zi 204 25 26 2 0 0 := by decide +kernel
theorem i204_26 : zi 204 26 27 6 11 7 := by decide +kernel
theorem i204_27 : zi 204 27 28 1 1 0 := by decide +kernel
theorem i204_28 : zi 204 28 29 1 2 0 := by decide +kernel
theorem i204_29 : zi 204 29 30 18 35 1 := by decide +kernel
theorem i204_30 : zi 204 30 31 2 0 0 := by decide +kernel
theorem i204_31 : zi 204 31 32 6 11 6 := by decide +kernel
theorem i204_32 : zi 204 32 33 1 1 0 := by decide +kernel
theorem i204_33 : zi 204 33 34 21 104 9 := by decide +kernel
theorem i204_34 : zi 204 34 35 17 36 0 := by decide +kernel
theorem i204_35 : zi 204 35 36 1 2 0 := by decide +kernel
theorem i204_36 : zi 204 36 37 1 3 0 := by decide +kernel
theorem i204_37 : zi 204 37 38 21 16 2 := by decide +kernel
theorem na_16 : z_na 16 = 3 := by decide +kernel
theorem i204_38 : zi 204 38 39 2 0 0 := by decide +kernel
theorem i204_39 : zi 204 39 40 6 11 6 := by decide +kernel
theorem i204_40 : zi 204 40 41 1 4 0 := by decide +kernel
theorem i204_41 : zi 204 41 42 1 3 0 := by decide +kernel
theorem i204_42 : zi 204 42 43 21 109 9 := by decide +kernel
theorem i204_43 : zi 204 43 44 25 0 0 := by decide +kernel
theorem i204_6 : zi 204 6 7 0 0 (-13) := by decide +kernel
theorem i204_7 : zi 204 7 8 25 0 0 := by decide +kernel
theorem ml_204 : z_ml 204 = 5 := by decide +kernel
theorem en_204 : ∀ (v0 v1 v2 v3 : zV), z_ent 204 [v0, v1, v2, v3] = [some v0, some v1, some v2, some v3, none] := fun v0 v1 v2 v3 => by unfold z_ent; rw [ml_204]; rfl
theorem i161_0 : zi 161 0 1 1 1 0 := by decide +kernel
theorem i161_1 : zi 161 1 2 22 191 0 := by decide +kernel
theorem na_191 : z_na 191 = 1 := by decide +kernel
theorem i161_2 : zi 161 2 3 18 8 0 := by decide +kernel
theorem i161_3 : zi 161 3 4 1 2 0 := by decide +kernel
theorem i161_4 : zi 161 4 5 22 193 0 := by decide +kernel
theorem na_193 : z_na 193 = 1 := by decide +kernel
theorem i161_5 : zi 161 5 6 18 8 0 := by decide +kernel
theorem i161_6 : zi 161 6 7 0 0 1 := by decide +kernel
theorem i161_7 : zi 161 7 8 17 9 0 := by decide +kernel
theorem i161_8 : zi 161 8 9 0 0 0 := by decide +kernel
theorem i161_9 : zi 161 9 10 22 186 0 := by decide +kernel
theorem i161_10 : zi 161 10 11 2 0 0 := by decide +kernel
theorem i161_11 : zi 161 11 12 6 11 6 := by decide +kernel
theorem i161_12 : zi 161 12 13 1 1 0 := by decide +kernel
theorem i161_13 : zi 161 13 14 1 2 0 := by decide +kernel
theorem i161_14 : zi 161 14 15 21 107 9 := by decide +kernel
theorem i161_15 : zi 161 15 16 3 3 0 := by decide +kernel
theorem i161_16 : zi 161 16 17 1 3 0 := by decide +kernel
theorem i161_17 : zi 161 17 18 0 0 (-1) := by decide +kernel
theorem i161_18 : zi 161 18 19 19 25 0 := by decide +kernel
theorem i161_25 : zi 161 25 26 0 0 (-1) := by decide +kernel
theorem i161_26 : zi 161 26 27 17 31 0 := by decide +kernel
theorem i161_19 : zi 161 19 20 2 0 0 := by decide +kernel
theorem i161_20 : zi 161 20 21 6 11 6 := by decide +kernel
theorem i161_21 : zi 161 21 22 1 3 0 := by decide +kernel
theorem i161_22 : zi 161 22 23 21 105 9 := by decide +kernel
theorem i161_23 : zi 161 23 24 0 0 2 := by decide +kernel
theorem i161_24 : zi 161 24 25 19 27 1 := by decide +kernel
theorem i161_27 : zi 161 27 28 2 0 0 := by decide +kernel
theorem i161_28 : zi 161 28 29 6 11 6 := by decide +kernel
theorem i161_29 : zi 161 29 30 1 3 0 := by decide +kernel
theorem i161_30 : zi 161 30 31 21 106 9 := by decide +kernel
theorem na_106 : z_na 106 = 1 := by decide +kernel
theorem i161_31 : zi 161 31 32 25 0 0 := by decide +kernel
theorem th_161 : (z_th 161).isEmpty = true := by decide +kernel
theorem ml_161 : z_ml 161 = 4 := by decide +kernel
theorem en_161 : ∀ (v0 v1 v2 : zV), z_ent 161 [v0, v1, v2] = [some v0, some v1, some v2, none] := fun v0 v1 v2 => by unfold z_ent; rw [ml_161]; rfl
theorem i162_0 : zi 162 0 1 1 1 0 := by decide +kernel
theorem i162_1 : zi 162 1 2 0 0 3 := by decide +kernel
theorem i162_2 : zi 162 2 3 22 189 0 := by decide +kernel
theorem i162_3 : zi 162 3 4 22 185 0 := by decide +kernel
theorem i162_4 : zi 162 4 5 1 2 0 := by decide +kernel
theorem i162_5 : zi 162 5 6 0 0 0 := by decide +kernel
theorem i162_6 : zi 162 6 7 0 0 2 := by decide +kernel
theorem i162_7 : zi 162 7 8 22 188 0 := by decide +kernel
theorem i162_8 : zi 162 8 9 22 186 0 := by decide +kernel
theorem i162_9 : zi 162 9 10 2 0 0 := by decide +kernel
theorem i162_10 : zi 162 10 11 6 11 5 := by decide +kernel
theorem fl_0_5 : zfl 0 11 5 5 (some 6) := by decide +kernel
theorem i162_11 : zi 162 11 12 1 1 0 := by decide +kernel
theorem i162_12 : zi 162 12 13 1 2 0 := by decide +kernel
theorem i162_13 : zi 162 13 14 21 48 5 := by decide +kernel
theorem na_48 : z_na 48 = 2 := by decide +kernel
theorem i162_14 : zi 162 14 15 25 0 0 := by decide +kernel
theorem th_162 : (z_th 162).isEmpty = true := by decide +kernel
theorem ml_162 : z_ml 162 = 3 := by decide +kernel
theorem en_162 : ∀ (v0 v1 v2 : zV), z_ent 162 [v0, v1, v2] = [some v0, some v1, some v2] := fun v0 v1 v2 => by unfold z_ent; rw [ml_162]; rfl
theorem i205_0 : zi 205 0 1 1 2 0 := by decide +kernel
theorem i205_1 : zi 205 1 2 22 195 0 := by decide +kernel
theorem i205_2 : zi 205 2 3 3 5 0 := by decide +kernel
theorem i205_3 : zi 205 3 4 2 0 0 := by decide +kernel
theorem i205_4 : zi 205 4 5 6 11 2 := by decide +kernel
theorem i205_5 : zi 205 5 6 1 5 0 := by decide +kernel
theorem i205_6 : zi 205 6 7 21 8 1 := by decide +kernel
theorem i205_7 : zi 205 7 8 0 0 1 := by decide +kernel
theorem i205_8 : zi 205 8 9 19 11 0 := by decide +kernel
theorem i205_11 : zi 205 11 12 2 0 0 := by decide +kernel
theorem i205_12 : zi 205 12 13 6 11 5 := by decide +kernel
theorem i205_13 : zi 205 13 14 21 42 5 := by decide +kernel
theorem na_42 : z_na 42 = 0 := by decide +kernel
theorem i205_14 : zi 205 14 15 18 17 0 := by decide +kernel
theorem i205_15 : zi 205 15 16 0 0 (-11) := by decide +kernel
theorem i205_16 : zi 205 16 17 25 0 0 := by decide +kernel
theorem i205_17 : zi 205 17 18 2 0 0 := by decide +kernel
theorem i205_18 : zi 205 18 19 6 11 2 := by decide +kernel
theorem i205_19 : zi 205 19 20 1 5 0 := by decide +kernel
theorem i205_20 : zi 205 20 21 21 9 1 := by decide +kernel
theorem na_9 : z_na 9 = 1 := by decide +kernel
theorem i205_21 : zi 205 21 22 3 6 0 := by decide +kernel
theorem i205_22 : zi 205 22 23 2 0 0 := by decide +kernel
theorem i205_23 : zi 205 23 24 6 11 5 := by decide +kernel
theorem i205_24 : zi 205 24 25 1 6 0 := by decide +kernel
theorem i205_25 : zi 205 25 26 21 49 5 := by decide +kernel
theorem na_49 : z_na 49 = 1 := by decide +kernel
theorem i205_26 : zi 205 26 27 18 29 1 := by decide +kernel
theorem i205_29 : zi 205 29 30 2 0 0 := by decide +kernel
theorem i205_30 : zi 205 30 31 6 11 5 := by decide +kernel
theorem i205_31 : zi 205 31 32 1 1 0 := by decide +kernel
theorem i205_32 : zi 205 32 33 1 2 0 := by decide +kernel
theorem i205_33 : zi 205 33 34 1 6 0 := by decide +kernel
theorem i205_34 : zi 205 34 35 21 50 5 := by decide +kernel
theorem na_50 : z_na 50 = 3 := by decide +kernel
theorem i205_35 : zi 205 35 36 3 7 0 := by decide +kernel
theorem i205_36 : zi 205 36 37 2 0 0 := by decide +kernel
theorem i205_37 : zi 205 37 38 6 11 5 := by decide +kernel
theorem i205_38 : zi 205 38 39 1 7 0 := by decide +kernel
theorem i205_39 : zi 205 39 40 2 0 0 := by decide +kernel
theorem i205_40 : zi 205 40 41 6 11 11 := by decide +kernel
theorem i205_41 : zi 205 41 42 1 3 0 := by decide +kernel
theorem i205_42 : zi 205 42 43 13 0 0 := by decide +kernel
theorem i205_43 : zi 205 43 44 2 0 0 := by decide +kernel
theorem i205_44 : zi 205 44 45 6 11 4 := by decide +kernel
theorem i205_45 : zi 205 45 46 1 1 0 := by decide +kernel
theorem i205_46 : zi 205 46 47 21 120 10 := by decide +kernel
theorem na_120 : z_na 120 = 1 := by decide +kernel
theorem i205_47 : zi 205 47 48 24 0 0 := by decide +kernel
theorem i205_48 : zi 205 48 49 2 0 0 := by decide +kernel
theorem i205_49 : zi 205 49 50 6 11 11 := by decide +kernel
theorem i205_50 : zi 205 50 51 1 4 0 := by decide +kernel
theorem i205_51 : zi 205 51 52 13 0 0 := by decide +kernel
theorem i205_52 : zi 205 52 53 21 51 5 := by decide +kernel
theorem na_51 : z_na 51 = 3 := by decide +kernel
theorem i205_53 : zi 205 53 54 1 7 0 := by decide +kernel
theorem i205_54 : zi 205 54 55 25 0 0 := by decide +kernel
theorem i205_27 : zi 205 27 28 0 0 (-12) := by decide +kernel
theorem kc_m12 : Int32.ofInt (-12) = (-12) := by decide +kernel
theorem i205_28 : zi 205 28 29 25 0 0 := by decide +kernel
theorem i205_9 : zi 205 9 10 0 0 (-13) := by decide +kernel
theorem i205_10 : zi 205 10 11 25 0 0 := by decide +kernel
theorem ml_205 : z_ml 205 = 8 := by decide +kernel
theorem en_205 : ∀ (v0 v1 v2 v3 v4 : zV), z_ent 205 [v0, v1, v2, v3, v4] = [some v0, some v1, some v2, some v3, some v4, none, none, none] := fun v0 v1 v2 v3 v4 => by unfold z_ent; rw [ml_205]; rfl
theorem i164_0 : zi 164 0 1 2 0 0 := by decide +kernel
theorem i164_1 : zi 164 1 2 6 11 5 := by decide +kernel
theorem i164_2 : zi 164 2 3 1 1 0 := by decide +kernel
theorem i164_3 : zi 164 3 4 21 43 5 := by decide +kernel
theorem na_43 : z_na 43 = 1 := by decide +kernel
theorem i164_4 : zi 164 4 5 22 185 0 := by decide +kernel
theorem i164_5 : zi 164 5 6 1 2 0 := by decide +kernel
theorem i164_6 : zi 164 6 7 0 0 1 := by decide +kernel
theorem i164_7 : zi 164 7 8 0 0 50 := by decide +kernel
theorem kc_50 : Int32.ofInt 50 = 50 := by decide +kernel
theorem i164_8 : zi 164 8 9 22 188 0 := by decide +kernel
theorem i164_9 : zi 164 9 10 22 186 0 := by decide +kernel
theorem i164_10 : zi 164 10 11 2 0 0 := by decide +kernel
theorem i164_11 : zi 164 11 12 6 11 0 := by decide +kernel
theorem i164_12 : zi 164 12 13 21 85 7 := by decide +kernel
theorem i164_13 : zi 164 13 14 18 16 1 := by decide +kernel
theorem i164_14 : zi 164 14 15 0 0 (-2) := by decide +kernel
theorem i164_15 : zi 164 15 16 25 0 0 := by decide +kernel
theorem i164_16 : zi 164 16 17 2 0 0 := by decide +kernel
theorem i164_17 : zi 164 17 18 6 11 5 := by decide +kernel
theorem i164_18 : zi 164 18 19 1 1 0 := by decide +kernel
theorem i164_19 : zi 164 19 20 21 45 5 := by decide +kernel
theorem na_45 : z_na 45 = 1 := by decide +kernel
theorem i164_20 : zi 164 20 21 18 23 0 := by decide +kernel
theorem i164_23 : zi 164 23 24 2 0 0 := by decide +kernel
theorem i164_24 : zi 164 24 25 6 11 5 := by decide +kernel
theorem i164_25 : zi 164 25 26 1 1 0 := by decide +kernel
theorem i164_26 : zi 164 26 27 2 0 0 := by decide +kernel
theorem i164_27 : zi 164 27 28 6 11 11 := by decide +kernel
theorem i164_28 : zi 164 28 29 1 2 0 := by decide +kernel
theorem i164_29 : zi 164 29 30 13 0 0 := by decide +kernel
theorem i164_30 : zi 164 30 31 2 0 0 := by decide +kernel
theorem i164_31 : zi 164 31 32 6 11 4 := by decide +kernel
theorem i164_32 : zi 164 32 33 2 0 0 := by decide +kernel
theorem i164_33 : zi 164 33 34 6 11 5 := by decide +kernel
theorem i164_34 : zi 164 34 35 1 1 0 := by decide +kernel
theorem i164_35 : zi 164 35 36 21 44 5 := by decide +kernel
theorem na_44 : z_na 44 = 1 := by decide +kernel
theorem i164_36 : zi 164 36 37 21 120 10 := by decide +kernel
theorem i164_37 : zi 164 37 38 21 52 5 := by decide +kernel
theorem na_52 : z_na 52 = 3 := by decide +kernel
theorem i164_38 : zi 164 38 39 25 0 0 := by decide +kernel
theorem i164_21 : zi 164 21 22 0 0 (-7) := by decide +kernel
theorem i164_22 : zi 164 22 23 25 0 0 := by decide +kernel
theorem th_164 : (z_th 164).isEmpty = true := by decide +kernel
theorem ml_164 : z_ml 164 = 3 := by decide +kernel
theorem en_164 : ∀ (v0 v1 v2 : zV), z_ent 164 [v0, v1, v2] = [some v0, some v1, some v2] := fun v0 v1 v2 => by unfold z_ent; rw [ml_164]; rfl
theorem i166_0 : zi 166 0 1 2 0 0 := by decide +kernel
theorem i166_1 : zi 166 1 2 6 11 5 := by decide +kernel
theorem i166_2 : zi 166 2 3 1 1 0 := by decide +kernel
theorem i166_3 : zi 166 3 4 21 43 5 := by decide +kernel
theorem i166_4 : zi 166 4 5 22 185 0 := by decide +kernel
theorem i166_5 : zi 166 5 6 2 0 0 := by decide +kernel
theorem i166_6 : zi 166 6 7 6 11 5 := by decide +kernel
theorem i166_7 : zi 166 7 8 1 1 0 := by decide +kernel
theorem i166_8 : zi 166 8 9 21 45 5 := by decide +kernel
theorem i166_9 : zi 166 9 10 25 0 0 := by decide +kernel
theorem th_166 : (z_th 166).isEmpty = true := by decide +kernel
theorem ml_166 : z_ml 166 = 2 := by decide +kernel
theorem en_166 : ∀ (v0 v1 : zV), z_ent 166 [v0, v1] = [some v0, some v1] := fun v0 v1 => by unfold z_ent; rw [ml_166]; rfl
theorem i167_0 : zi 167 0 1 2 0 0 := by decide +kernel
theorem i167_1 : zi 167 1 2 6 11 5 := by decide +kernel
theorem i167_2 : zi 167 2 3 1 1 0 := by decide +kernel
theorem i167_3 : zi 167 3 4 21 43 5 := by decide +kernel
theorem i167_4 : zi 167 4 5 22 185 0 := by decide +kernel
theorem i167_5 : zi 167 5 6 2 0 0 := by decide +kernel
theorem i167_6 : zi 167 6 7 6 11 5 := by decide +kernel
theorem i167_7 : zi 167 7 8 1 1 0 := by decide +kernel
theorem i167_8 : zi 167 8 9 21 46 5 := by decide +kernel
theorem na_46 : z_na 46 = 1 := by decide +kernel
theorem i167_9 : zi 167 9 10 25 0 0 := by decide +kernel
theorem th_167 : (z_th 167).isEmpty = true := by decide +kernel
theorem ml_167 : z_ml 167 = 2 := by decide +kernel
theorem en_167 : ∀ (v0 v1 : zV), z_ent 167 [v0, v1] = [some v0, some v1] := fun v0 v1 => by unfold z_ent; rw [ml_167]; rfl
theorem i168_0 : zi 168 0 1 1 1 0 := by decide +kernel
theorem i168_1 : zi 168 1 2 0 0 3 := by decide +kernel
theorem i168_2 : zi 168 2 3 22 189 0 := by decide +kernel
theorem i168_3 : zi 168 3 4 22 185 0 := by decide +kernel
theorem i168_4 : zi 168 4 5 2 0 0 := by decide +kernel
theorem i168_5 : zi 168 5 6 6 11 5 := by decide +kernel
theorem i168_6 : zi 168 6 7 1 1 0 := by decide +kernel
theorem i168_7 : zi 168 7 8 21 47 5 := by decide +kernel
theorem na_47 : z_na 47 = 1 := by decide +kernel
theorem i168_8 : zi 168 8 9 25 0 0 := by decide +kernel
theorem th_168 : (z_th 168).isEmpty = true := by decide +kernel
theorem ml_168 : z_ml 168 = 2 := by decide +kernel
theorem en_168 : ∀ (v0 v1 : zV), z_ent 168 [v0, v1] = [some v0, some v1] := fun v0 v1 => by unfold z_ent; rw [ml_168]; rfl
theorem i171_0 : zi 171 0 1 2 0 0 := by decide +kernel
theorem i171_1 : zi 171 1 2 6 11 8 := by decide +kernel
theorem fl_0_8 : zfl 0 11 8 8 (some 10) := by decide +kernel
theorem i171_2 : zi 171 2 3 1 1 0 := by decide +kernel
theorem i171_3 : zi 171 3 4 21 22 3 := by decide +kernel
theorem na_22 : z_na 22 = 1 := by decide +kernel
theorem ob_10 : zob 10 3 := by decide +kernel
theorem i171_4 : zi 171 4 5 22 185 0 := by decide +kernel
theorem i171_5 : zi 171 5 6 2 0 0 := by decide +kernel
theorem i171_6 : zi 171 6 7 6 11 0 := by decide +kernel
theorem i171_7 : zi 171 7 8 21 85 7 := by decide +kernel
theorem i171_8 : zi 171 8 9 18 16 0 := by decide +kernel
theorem i171_16 : zi 171 16 17 0 0 (-2) := by decide +kernel
theorem i171_9 : zi 171 9 10 2 0 0 := by decide +kernel
theorem i171_10 : zi 171 10 11 6 11 8 := by decide +kernel
theorem i171_11 : zi 171 11 12 1 1 0 := by decide +kernel
theorem i171_12 : zi 171 12 13 2 0 0 := by decide +kernel
theorem i171_13 : zi 171 13 14 6 11 11 := by decide +kernel
theorem i171_14 : zi 171 14 15 21 24 3 := by decide +kernel
theorem na_24 : z_na 24 = 2 := by decide +kernel
theorem i171_15 : zi 171 15 16 17 17 0 := by decide +kernel
theorem i171_17 : zi 171 17 18 25 0 0 := by decide +kernel
theorem th_171 : (z_th 171).isEmpty = true := by decide +kernel
theorem ml_171 : z_ml 171 = 2 := by decide +kernel
theorem en_171 : ∀ (v0 v1 : zV), z_ent 171 [v0, v1] = [some v0, some v1] := fun v0 v1 => by unfold z_ent; rw [ml_171]; rfl
theorem i206_0 : zi 206 0 1 2 0 0 := by decide +kernel
theorem i206_1 : zi 206 1 2 6 11 8 := by decide +kernel
theorem i206_2 : zi 206 2 3 1 2 0 := by decide +kernel
theorem i206_3 : zi 206 3 4 21 30 3 := by decide +kernel
theorem na_30 : z_na 30 = 1 := by decide +kernel
theorem i206_4 : zi 206 4 5 18 7 1 := by decide +kernel
theorem i206_7 : zi 206 7 8 2 0 0 := by decide +kernel
theorem i206_8 : zi 206 8 9 6 11 8 := by decide +kernel
theorem i206_9 : zi 206 9 10 1 2 0 := by decide +kernel
theorem i206_10 : zi 206 10 11 21 27 3 := by decide +kernel
theorem na_27 : z_na 27 = 1 := by decide +kernel
theorem i206_11 : zi 206 11 12 3 3 0 := by decide +kernel
theorem i206_12 : zi 206 12 13 2 0 0 := by decide +kernel
theorem i206_13 : zi 206 13 14 6 11 4 := by decide +kernel
theorem i206_14 : zi 206 14 15 1 1 0 := by decide +kernel
theorem i206_15 : zi 206 15 16 21 118 10 := by decide +kernel
theorem i206_16 : zi 206 16 17 3 4 0 := by decide +kernel
theorem i206_17 : zi 206 17 18 1 1 0 := by decide +kernel
theorem i206_18 : zi 206 18 19 1 3 0 := by decide +kernel
theorem i206_19 : zi 206 19 20 19 29 0 := by decide +kernel
theorem i206_29 : zi 206 29 30 0 0 (-4) := by decide +kernel
theorem i206_30 : zi 206 30 31 25 0 0 := by decide +kernel
theorem i206_20 : zi 206 20 21 1 4 0 := by decide +kernel
theorem i206_21 : zi 206 21 22 0 0 (-1) := by decide +kernel
theorem i206_22 : zi 206 22 23 19 29 0 := by decide +kernel
theorem i206_23 : zi 206 23 24 1 4 0 := by decide +kernel
theorem i206_24 : zi 206 24 25 2 0 0 := by decide +kernel
theorem i206_25 : zi 206 25 26 6 11 4 := by decide +kernel
theorem i206_26 : zi 206 26 27 1 3 0 := by decide +kernel
theorem i206_27 : zi 206 27 28 21 118 10 := by decide +kernel
theorem i206_28 : zi 206 28 29 19 31 1 := by decide +kernel
theorem i206_31 : zi 206 31 32 2 0 0 := by decide +kernel
theorem i206_32 : zi 206 32 33 6 11 8 := by decide +kernel
theorem i206_33 : zi 206 33 34 1 2 0 := by decide +kernel
theorem i206_34 : zi 206 34 35 1 4 0 := by decide +kernel
theorem i206_35 : zi 206 35 36 21 33 3 := by decide +kernel
theorem na_33 : z_na 33 = 2 := by decide +kernel
theorem i206_36 : zi 206 36 37 25 0 0 := by decide +kernel
theorem i206_5 : zi 206 5 6 0 0 (-7) := by decide +kernel
theorem i206_6 : zi 206 6 7 25 0 0 := by decide +kernel
theorem ml_206 : z_ml 206 = 5 := by decide +kernel
theorem en_206 : ∀ (v0 v1 v2 : zV), z_ent 206 [v0, v1, v2] = [some v0, some v1, some v2, none, none] := fun v0 v1 v2 => by unfold z_ent; rw [ml_206]; rfl
theorem i207_0 : zi 207 0 1 2 0 0 := by decide +kernel
theorem i207_1 : zi 207 1 2 6 11 8 := by decide +kernel
theorem i207_2 : zi 207 2 3 1 2 0 := by decide +kernel
theorem i207_3 : zi 207 3 4 21 30 3 := by decide +kernel
theorem i207_4 : zi 207 4 5 18 7 1 := by decide +kernel
theorem i207_7 : zi 207 7 8 1 1 0 := by decide +kernel
theorem i207_8 : zi 207 8 9 2 0 0 := by decide +kernel
theorem i207_9 : zi 207 9 10 6 11 8 := by decide +kernel
theorem i207_10 : zi 207 10 11 1 2 0 := by decide +kernel
theorem i207_11 : zi 207 11 12 21 27 3 := by decide +kernel
theorem i207_12 : zi 207 12 13 19 15 0 := by decide +kernel
theorem i207_15 : zi 207 15 16 2 0 0 := by decide +kernel
theorem i207_16 : zi 207 16 17 6 11 8 := by decide +kernel
theorem i207_17 : zi 207 17 18 1 2 0 := by decide +kernel
theorem i207_18 : zi 207 18 19 21 31 3 := by decide +kernel
theorem na_31 : z_na 31 = 1 := by decide +kernel
theorem i207_19 : zi 207 19 20 18 22 1 := by decide +kernel
theorem i207_22 : zi 207 22 23 2 0 0 := by decide +kernel
theorem i207_23 : zi 207 23 24 2 0 0 := by decide +kernel
theorem i207_24 : zi 207 24 25 6 11 8 := by decide +kernel
theorem i207_25 : zi 207 25 26 1 2 0 := by decide +kernel
theorem i207_26 : zi 207 26 27 21 28 3 := by decide +kernel
theorem na_28 : z_na 28 = 1 := by decide +kernel
theorem i207_27 : zi 207 27 28 2 0 0 := by decide +kernel
theorem i207_28 : zi 207 28 29 6 11 8 := by decide +kernel
theorem i207_29 : zi 207 29 30 1 2 0 := by decide +kernel
theorem i207_30 : zi 207 30 31 21 29 3 := by decide +kernel
theorem na_29 : z_na 29 = 1 := by decide +kernel
theorem i207_31 : zi 207 31 32 21 201 11 := by decide +kernel
theorem na_201 : z_na 201 = 2 := by decide +kernel
theorem i207_32 : zi 207 32 33 3 3 0 := by decide +kernel
theorem i207_33 : zi 207 33 34 1 3 0 := by decide +kernel
theorem i207_34 : zi 207 34 35 18 39 2 := by decide +kernel
theorem i207_35 : zi 207 35 36 2 0 0 := by decide +kernel
theorem i207_36 : zi 207 36 37 6 11 8 := by decide +kernel
theorem i207_37 : zi 207 37 38 1 2 0 := by decide +kernel
theorem i207_38 : zi 207 38 39 21 34 3 := by decide +kernel
theorem na_34 : z_na 34 = 1 := by decide +kernel
theorem i207_39 : zi 207 39 40 1 3 0 := by decide +kernel
theorem i207_40 : zi 207 40 41 25 0 0 := by decide +kernel
theorem i207_20 : zi 207 20 21 0 0 (-10) := by decide +kernel
theorem i207_21 : zi 207 21 22 25 0 0 := by decide +kernel
theorem i207_13 : zi 207 13 14 0 0 (-4) := by decide +kernel
theorem i207_14 : zi 207 14 15 25 0 0 := by decide +kernel
theorem i207_5 : zi 207 5 6 0 0 (-7) := by decide +kernel
theorem i207_6 : zi 207 6 7 25 0 0 := by decide +kernel
theorem ml_207 : z_ml 207 = 4 := by decide +kernel
theorem en_207 : ∀ (v0 v1 v2 : zV), z_ent 207 [v0, v1, v2] = [some v0, some v1, some v2, none] := fun v0 v1 v2 => by unfold z_ent; rw [ml_207]; rfl
theorem i174_0 : zi 174 0 1 2 0 0 := by decide +kernel
theorem i174_1 : zi 174 1 2 6 11 8 := by decide +kernel
theorem i174_2 : zi 174 2 3 21 25 3 := by decide +kernel
theorem na_25 : z_na 25 = 0 := by decide +kernel
theorem i174_3 : zi 174 3 4 25 0 0 := by decide +kernel
theorem ml_174 : z_ml 174 = 1 := by decide +kernel
theorem en_174 : ∀ (v0 : zV), z_ent 174 [v0] = [some v0] := fun v0 => by unfold z_ent; rw [ml_174]; rfl
theorem i176_0 : zi 176 0 1 2 0 0 := by decide +kernel
theorem i176_1 : zi 176 1 2 6 11 9 := by decide +kernel
theorem fl_0_9 : zfl 0 11 9 9 (some 11) := by decide +kernel
theorem i176_2 : zi 176 2 3 1 1 0 := by decide +kernel
theorem i176_3 : zi 176 3 4 21 1 0 := by decide +kernel
theorem na_1 : z_na 1 = 1 := by decide +kernel
theorem ob_11 : zob 11 0 := by decide +kernel
theorem i176_4 : zi 176 4 5 22 185 0 := by decide +kernel
theorem i176_5 : zi 176 5 6 2 0 0 := by decide +kernel
theorem i176_6 : zi 176 6 7 6 11 9 := by decide +kernel
theorem i176_7 : zi 176 7 8 1 1 0 := by decide +kernel
theorem i176_8 : zi 176 8 9 21 5 0 := by decide +kernel
theorem na_5 : z_na 5 = 1 := by decide +kernel
theorem i176_9 : zi 176 9 10 26 0 0 := by decide +kernel
theorem th_176 : (z_th 176).isEmpty = true := by decide +kernel
theorem ml_176 : z_ml 176 = 2 := by decide +kernel
theorem en_176 : ∀ (v0 v1 : zV), z_ent 176 [v0, v1] = [some v0, some v1] := fun v0 v1 => by unfold z_ent; rw [ml_176]; rfl
theorem i179_0 : zi 179 0 1 2 0 0 := by decide +kernel
theorem i179_1 : zi 179 1 2 6 11 9 := by decide +kernel
theorem i179_2 : zi 179 2 3 1 1 0 := by decide +kernel
theorem i179_3 : zi 179 3 4 21 1 0 := by decide +kernel
theorem i179_4 : zi 179 4 5 22 185 0 := by decide +kernel
theorem i179_5 : zi 179 5 6 2 0 0 := by decide +kernel
theorem i179_6 : zi 179 6 7 6 11 9 := by decide +kernel
theorem i179_7 : zi 179 7 8 1 1 0 := by decide +kernel
theorem i179_8 : zi 179 8 9 21 2 0 := by decide +kernel
theorem na_2 : z_na 2 = 1 := by decide +kernel
theorem i179_9 : zi 179 9 10 25 0 0 := by decide +kernel
theorem th_179 : (z_th 179).isEmpty = true := by decide +kernel
theorem ml_179 : z_ml 179 = 2 := by decide +kernel
theorem en_179 : ∀ (v0 v1 : zV), z_ent 179 [v0, v1] = [some v0, some v1] := fun v0 v1 => by unfold z_ent; rw [ml_179]; rfl
theorem i180_0 : zi 180 0 1 1 1 0 := by decide +kernel
theorem i180_1 : zi 180 1 2 0 0 3 := by decide +kernel
theorem i180_2 : zi 180 2 3 22 189 0 := by decide +kernel
theorem i180_3 : zi 180 3 4 22 185 0 := by decide +kernel
theorem i180_4 : zi 180 4 5 1 4 0 := by decide +kernel
theorem i180_5 : zi 180 5 6 0 0 1 := by decide +kernel
theorem i180_6 : zi 180 6 7 0 0 1000 := by decide +kernel
theorem i180_7 : zi 180 7 8 22 188 0 := by decide +kernel
theorem i180_8 : zi 180 8 9 22 186 0 := by decide +kernel
theorem i180_9 : zi 180 9 10 2 0 0 := by decide +kernel
theorem i180_10 : zi 180 10 11 6 11 10 := by decide +kernel
theorem fl_0_10 : zfl 0 11 10 10 (some 12) := by decide +kernel
theorem i180_11 : zi 180 11 12 1 1 0 := by decide +kernel
theorem i180_12 : zi 180 12 13 1 2 0 := by decide +kernel
theorem i180_13 : zi 180 13 14 1 3 0 := by decide +kernel
theorem i180_14 : zi 180 14 15 1 4 0 := by decide +kernel
theorem i180_15 : zi 180 15 16 21 100 8 := by decide +kernel
theorem na_100 : z_na 100 = 4 := by decide +kernel
theorem ob_12 : zob 12 8 := by decide +kernel
theorem i180_16 : zi 180 16 17 26 0 0 := by decide +kernel
theorem th_180 : (z_th 180).isEmpty = true := by decide +kernel
theorem ml_180 : z_ml 180 = 5 := by decide +kernel
theorem en_180 : ∀ (v0 v1 v2 v3 v4 : zV), z_ent 180 [v0, v1, v2, v3, v4] = [some v0, some v1, some v2, some v3, some v4] := fun v0 v1 v2 v3 v4 => by unfold z_ent; rw [ml_180]; rfl
theorem i181_0 : zi 181 0 1 1 1 0 := by decide +kernel
theorem i181_1 : zi 181 1 2 0 0 3 := by decide +kernel
theorem i181_2 : zi 181 2 3 22 189 0 := by decide +kernel
theorem i181_3 : zi 181 3 4 22 185 0 := by decide +kernel
theorem i181_4 : zi 181 4 5 2 0 0 := by decide +kernel
theorem i181_5 : zi 181 5 6 6 11 10 := by decide +kernel
theorem i181_6 : zi 181 6 7 1 1 0 := by decide +kernel
theorem i181_7 : zi 181 7 8 21 99 8 := by decide +kernel
theorem na_99 : z_na 99 = 1 := by decide +kernel
theorem i181_8 : zi 181 8 9 25 0 0 := by decide +kernel
theorem th_181 : (z_th 181).isEmpty = true := by decide +kernel
theorem ml_181 : z_ml 181 = 2 := by decide +kernel
theorem en_181 : ∀ (v0 v1 : zV), z_ent 181 [v0, v1] = [some v0, some v1] := fun v0 v1 => by unfold z_ent; rw [ml_181]; rfl

set_option maxRecDepth 100000 in
theorem f0 {L : Nat} (S : zS) : zf L 0 [.inr (.inr 11)] S (.inl (some (.inl (zb (¬ ((S 11 0) < 30))))), S, 0) := zf_of (en_0 _) (zr_2_0 i0_0 (zr_6 i0_1 fl_11_0 rfl (zr_0 i0_2 kc_30 (zt_trans (zt_cast (zr_19_2 i0_3 (fun h1 => zr_0 i0_6 kc_0 (zt_rfl)) (fun h2 => zr_0 i0_4 kc_1 (zr_17 i0_5 (zt_rfl)))) (zm_c zz_s (zl_c (zl_t zz_01) zz_s) zz_s)) (zr_26 i0_7 (zb_01 _))))))
set_option maxRecDepth 100000 in
theorem f1 {L : Nat} (a : Int32) (S : zS) : zf L 1 [.inr (.inr 11), .inl a] S (.inl (some (.inl (zb ((¬ (a < 0)) ∧ (¬ ((S 11 0) ≤ a)))))), S, 0) := zf_of (en_1 _ _) (zr_1_1 i1_0 (zt_trans (zt_cast (zr_18_2 i1_1 (fun h3 => zr_0 i1_8 kc_0 (zt_rfl)) (fun h4 => zr_1_1 i1_2 (zr_2_0 i1_3 (zr_6 i1_4 fl_11_0 rfl (zt_cast (zr_19_3 i1_5 (fun h5 => zr_0 i1_8 kc_0 (zt_rfl)) (fun h6 => zr_0 i1_6 kc_1 (zr_17 i1_7 (zt_rfl)))) (zm_c zz_s (zl_c (zl_t zz_01) zz_s) zz_s)))))) (zm_c zz_s (zl_c (zl_t zz_0b) zz_s) zz_s)) (zr_26 i1_9 (zb_01 _))))
set_option maxRecDepth 100000 in
theorem f2 {L : Nat} (a : Int32) (S : zS) (g0 : zx 30 a) : zf L 2 [.inr (.inr 11), .inl a] S (.inl (some (.inl (S 74 a.toNatClampNeg))), S, 0) := zf_of (en_2 _ _) (zr_2_0 i2_0 (zr_6r i2_1 fl_11_3 (zr_1_1 i2_2 (zr_8 i2_3 ar_74 (g0) rfl rfl (zr_25 i2_4)))))
def G4 (a b c : Int32) (S : zS) : zS := (z_up (z_up (z_up (z_up S 72 (S 11 0).toNatClampNeg a) 74 (S 11 0).toNatClampNeg (if (b = (-1)) then ((S 11 0) : Int32) else b)) 73 (S 11 0).toNatClampNeg (if (b = (-1)) then (c : Int32) else (zmin c (S 73 b.toNatClampNeg)))) 11 0 ((S 11 0) + 1))
set_option maxRecDepth 100000 in
theorem f4 {L : Nat} (a b c : Int32) (S : zS) (g0 : zx 30 (S 11 0)) (g1 : (¬ (b = (-1))) → zx 30 b) : zf L 4 [.inr (.inr 11), .inl a, .inl b, .inl c] S (.inl (some (.inl (S 11 0))), (G4 a b c S), 0) := zf_of (en_4 _ _ _ _) (zr_2_0 i4_0 (zr_6 i4_1 fl_11_0 rfl (zr_3_4 i4_2 (zr_2_0 i4_3 (zr_6r i4_4 fl_11_1 (zr_1_4 i4_5 (zr_1_1 i4_6 (zr_10 i4_7 ar_72 (g0) rfl (zr_2_0 i4_8 (zr_6r i4_9 fl_11_3 (zr_1_4 i4_10 (zr_1_2 i4_11 (zr_0 i4_12 kc_m1 (zt_trans (zt_cast (zr_19_1 i4_13 (fun h7 => zr_1_4 i4_14 (zr_17 i4_15 (zt_rfl))) (fun h8 => zr_1_2 i4_16 (zt_rfl))) (zm_c zz_s (zl_c (zl_t zz_e) zz_s) zz_s)) (zr_10 i4_17 ar_74 (g0) rfl (zr_2_0 i4_18 (zr_6r i4_19 fl_11_2 (zr_1_4 i4_20 (zr_1_2 i4_21 (zr_0 i4_22 kc_m1 (zt_trans (zt_cast (zr_19_1 i4_23 (fun h9 => zr_1_3 i4_24 (zr_17 i4_25 (zt_rfl))) (fun h10 => zr_1_3 i4_26 (zr_2_0 i4_27 (zr_6r i4_28 fl_11_2 (zr_1_2 i4_29 (zr_8 i4_30 ar_73 (g1 h10) rfl ((zupci rfl).trans (zupci rfl)) (zr_24 i4_31 rfl (zt_rfl)))))))) (zm_c zz_s (zl_c (zl_t zz_e) zz_s) zz_s)) (zr_10 i4_32 ar_73 (g0) rfl (zr_2_0 i4_33 (zr_14r i4_34 (zr_6 i4_35 fl_11_0 ((zupci rfl).trans ((zupci rfl).trans (zupci rfl))) (zr_0 i4_36 kc_1 (zr_13_0 i4_37 (zr_7 i4_38 fl_11_0 (zr_1_4 i4_39 (zr_25 i4_40))))))))))))))))))))))))))))))
set_option maxRecDepth 100000 in
theorem f5 {L : Nat} (a : Int32) (S : zS) (g0 : zx 30 a) : zf L 5 [.inr (.inr 11), .inl a] S (.inl (some (.inl (zb ((S 75 a.toNatClampNeg) = 0)))), (z_up S 75 a.toNatClampNeg 1), 0) := zf_of (en_5 _ _) (zr_2_0 i5_0 (zr_6r i5_1 fl_11_4 (zr_1_1 i5_2 (zr_9 i5_3 ar_75 (g0) rfl rfl (zt_trans (zt_cast (zr_18_1 i5_4 (fun h11 => zr_0 i5_5 kc_1 (zr_17 i5_6 (zt_rfl))) (fun h12 => zr_0 i5_7 kc_0 (zt_rfl))) (zm_c zz_s (zl_c (zl_t zz_10) zz_s) zz_s)) (zr_3_2 i5_8 (zr_2_0 i5_9 (zr_6r i5_10 fl_11_4 (zr_1_1 i5_11 (zr_0 i5_12 kc_1 (zr_11 i5_13 ar_75 (g0) (zo_1) rfl (zr_1_2 i5_14 (zr_26 i5_15 (zb_01 _))))))))))))))
set_option maxRecDepth 100000 in
theorem f8 {L : Nat} (a : Int32) (S : zS) (g0 : zx 6 a) : zf L 8 [.inr (.inr 3), .inl a] S (.inl (some (.inl (S 16 a.toNatClampNeg))), S, 0) := zf_of (en_8 _ _) (zr_2_0 i8_0 (zr_6r i8_1 fl_3_0 (zr_1_1 i8_2 (zr_8 i8_3 ar_16 (g0) rfl rfl (zr_25 i8_4)))))
set_option maxRecDepth 100000 in
theorem f9 {L : Nat} (a : Int32) (S : zS) (g0 : zx 6 a) : zf L 9 [.inr (.inr 3), .inl a] S (.inl (some (.inl (S 17 a.toNatClampNeg))), S, 0) := zf_of (en_9 _ _) (zr_2_0 i9_0 (zr_6r i9_1 fl_3_1 (zr_1_1 i9_2 (zr_8 i9_3 ar_17 (g0) rfl rfl (zr_25 i9_4)))))
set_option maxRecDepth 100000 in
theorem f10 {L : Nat} (a b c : Int32) (S : zS) (g0 : zx 6 a) : zf L 10 [.inr (.inr 3), .inl a, .inl b, .inl c] S (.inl none, (z_up (z_up S 16 a.toNatClampNeg b) 17 a.toNatClampNeg c), 0) := zf_of (en_10 _ _ _ _) (zr_2_0 i10_0 (zr_6r i10_1 fl_3_0 (zr_1_1 i10_2 (zr_1_2 i10_3 (zr_10 i10_4 ar_16 (g0) rfl (zr_2_0 i10_5 (zr_6r i10_6 fl_3_1 (zr_1_1 i10_7 (zr_1_3 i10_8 (zr_10 i10_9 ar_17 (g0) rfl (zr_27 i10_10)))))))))))
set_option maxRecDepth 100000 in
theorem f11 {L : Nat} (a b : Int32) (S : zS) (g0 : zx 6 a) : zf L 11 [.inr (.inr 3), .inl a, .inl b] S (.inl (some (.inl (S 18 a.toNatClampNeg))), (z_up S 18 a.toNatClampNeg b), 0) := zf_of (en_11 _ _ _) (zr_2_0 i11_0 (zr_6r i11_1 fl_3_2 (zr_1_1 i11_2 (zr_8 i11_3 ar_18 (g0) rfl rfl (zr_3_3 i11_4 (zr_2_0 i11_5 (zr_6r i11_6 fl_3_2 (zr_1_1 i11_7 (zr_1_2 i11_8 (zr_10 i11_9 ar_18 (g0) rfl (zr_1_3 i11_10 (zr_25 i11_11))))))))))))
set_option maxRecDepth 100000 in
theorem f12 {L : Nat} (a : Int32) (S : zS) (g0 : zx 6 a) : zf L 12 [.inr (.inr 3), .inl a] S (.inl (some (.inl (zb ((S 19 a.toNatClampNeg) < (S 18 a.toNatClampNeg))))), (if ((S 19 a.toNatClampNeg) < (S 18 a.toNatClampNeg)) then (z_up S 19 a.toNatClampNeg ((S 19 a.toNatClampNeg) + 1)) else S), 0) := zf_of (en_12 _ _) (zr_2_0 i12_0 (zr_6r i12_1 fl_3_3 (zr_1_1 i12_2 (zr_8 i12_3 ar_19 (g0) rfl rfl (zr_2_0 i12_4 (zr_6r i12_5 fl_3_2 (zr_1_1 i12_6 (zr_8 i12_7 ar_18 (g0) rfl rfl (zt_cast (zr_19_2 i12_8 (fun h13 => zr_2_0 i12_11 (zr_6r i12_12 fl_3_3 (zr_1_1 i12_13 (zr_15 i12_14 (zr_8 i12_15 ar_19 (g0) rfl rfl (zr_0 i12_16 kc_1 (zr_13_0 i12_17 (zr_10 i12_18 ar_19 (g0) rfl (zr_0 i12_19 kc_1 (zr_26 i12_20 (zo_1))))))))))) (fun h14 => zr_0 i12_9 kc_0 (zr_26 i12_10 (zo_0)))) (zm_r zz_10 zz_e))))))))))
set_option maxRecDepth 100000 in
theorem f14 {L : Nat} (S : zS) : zf L 14 [.inr (.inr 8)] S (.inl (some (.inr (.inr 9))), S, 0) := zf_of (en_14 _) (zr_2_0 i14_0 (zr_6r i14_1 fl_8_0 (zr_28 i14_2)))
def G19 (a b c d : Int32) (S : zS) : zS := (if ((S 8 5) < 512) then (z_up (z_up (z_up (z_up (z_up S 55 (S 8 5).toNatClampNeg a) 56 (S 8 5).toNatClampNeg b) 57 (S 8 5).toNatClampNeg c) 58 (S 8 5).toNatClampNeg d) 8 5 ((S 8 5) + 1)) else S)
set_option maxRecDepth 100000 in
theorem f19 {L : Nat} (a b c d : Int32) (S : zS) (g0 : ((S 8 5) < 512) → zx 512 (S 8 5)) : zf L 19 [.inr (.inr 8), .inl a, .inl b, .inl c, .inl d] S (.inl none, (G19 a b c d S), 0) := zf_of (en_19 _ _ _ _ _) (zr_2_0 i19_0 (zr_6 i19_1 fl_8_5 rfl (zr_0 i19_2 kc_512 (zt_cast (zr_19_2 i19_3 (fun h15 => zr_2_0 i19_5 (zr_6r i19_6 fl_8_1 (zr_2_0 i19_7 (zr_6 i19_8 fl_8_5 rfl (zr_1_1 i19_9 (zr_10 i19_10 ar_55 (g0 h15) rfl (zr_2_0 i19_11 (zr_6r i19_12 fl_8_2 (zr_2_0 i19_13 (zr_6 i19_14 fl_8_5 (zupci rfl) (zr_1_2 i19_15 (zr_10 i19_16 ar_56 (g0 h15) rfl (zr_2_0 i19_17 (zr_6r i19_18 fl_8_3 (zr_2_0 i19_19 (zr_6 i19_20 fl_8_5 ((zupci rfl).trans (zupci rfl)) (zr_1_3 i19_21 (zr_10 i19_22 ar_57 (g0 h15) rfl (zr_2_0 i19_23 (zr_6r i19_24 fl_8_4 (zr_2_0 i19_25 (zr_6 i19_26 fl_8_5 ((zupci rfl).trans ((zupci rfl).trans (zupci rfl))) (zr_1_4 i19_27 (zr_10 i19_28 ar_58 (g0 h15) rfl (zr_2_0 i19_29 (zr_14r i19_30 (zr_6 i19_31 fl_8_5 ((zupci rfl).trans ((zupci rfl).trans ((zupci rfl).trans (zupci rfl)))) (zr_0 i19_32 kc_1 (zr_13_0 i19_33 (zr_7 i19_34 fl_8_5 (zr_27 i19_35))))))))))))))))))))))))))))))) (fun h16 => zr_27 i19_4)) (zm_v zz_e)))))
set_option maxRecDepth 100000 in
theorem f15 {L : Nat} (a b c : Int32) (S : zS) (g0 : ((S 8 5) < 512) → zx 512 (S 8 5)) : zf L 15 [.inr (.inr 8), .inl a, .inl b, .inl c] S (.inl none, (G19 a 0 b c S), 0) := zf_of (en_15 _ _ _ _) (zr_2_0 i15_0 (zr_1_1 i15_1 (zr_0 i15_2 kc_0 (zr_1_2 i15_3 (zr_1_3 i15_4 (zr_cn (zs_21_4 i15_5 na_19 ob_8 rfl) (f19 a 0 b c S (fun h17 => (g0 h17))) (zr_27 i15_6)))))))
set_option maxRecDepth 100000 in
theorem f16 {L : Nat} (a b c : Int32) (S : zS) (g0 : ((S 8 5) < 512) → zx 512 (S 8 5)) : zf L 16 [.inr (.inr 8), .inl a, .inl b, .inl c] S (.inl none, (G19 a b c 0 S), 0) := zf_of (en_16 _ _ _ _) (zr_2_0 i16_0 (zr_1_1 i16_1 (zr_1_2 i16_2 (zr_1_3 i16_3 (zr_0 i16_4 kc_0 (zr_cn (zs_21_4 i16_5 na_19 ob_8 rfl) (f19 a b c 0 S (fun h18 => (g0 h18))) (zr_27 i16_6)))))))
def F323 (a b : Int32) (S : zS) : Int32 := (if (0 ≤ (a ^^^ b)) then ((zrem a b) : Int32) else (if ((zrem a b) = 0) then ((zrem a b) : Int32) else ((zrem a b) + b)))
set_option maxRecDepth 100000 in
theorem f323 {L : Nat} (a b : Int32) (S : zS) (g0 : (¬ (b = 0))) : zf L 323 [.inl a, .inl b] S (.inl (some (.inl (F323 a b S))), S, 0) := zf_of (en_323 _ _) (zr_1_0 i323_0 (zr_1_1 i323_1 (zr_13_4 i323_2 (g0) (zr_3_2 i323_3 (zr_1_0 i323_4 (zr_1_1 i323_5 (zr_13_7 i323_6 (zt_cast (zr_18_3 i323_7 (fun h19 => zr_1_2 i323_14 (zr_25 i323_15)) (fun h20 => zr_1_2 i323_8 (zt_cast (zr_18_0 i323_9 (fun h21 => zr_1_2 i323_14 (zr_25 i323_15)) (fun h22 => zr_1_2 i323_10 (zr_1_1 i323_11 (zr_13_0 i323_12 (zr_25 i323_13))))) (zm_r zz_e zz_s)))) (zm_r zz_e zz_s)))))))))
def G108 (a b c : Int32) (S : zS) : zS := (z_up (z_up (z_up (z_up S 51 a.toNatClampNeg ((S 51 a.toNatClampNeg) + 1)) 52 ((a * 4) + (F323 ((S 51 a.toNatClampNeg) + 1) 4 S)).toNatClampNeg b) 53 ((a * 4) + (F323 ((S 51 a.toNatClampNeg) + 1) 4 S)).toNatClampNeg c) 54 ((a * 4) + (F323 ((S 51 a.toNatClampNeg) + 1) 4 S)).toNatClampNeg 0)
set_option maxRecDepth 100000 in
theorem f108 {L : Nat} (a b c : Int32) (S : zS) (g0 : zx 216 a) (g1 : zx 864 ((a * 4) + (F323 ((S 51 a.toNatClampNeg) + 1) 4 S))) : zf L 108 [.inr (.inr 7), .inl a, .inl b, .inl c] S (.inl (some (.inl ((S 51 a.toNatClampNeg) + 1))), (G108 a b c S), 0) := zf_of (en_108 _ _ _ _) (zr_2_0 i108_0 (zr_6r i108_1 fl_7_0 (zr_1_1 i108_2 (zr_8 i108_3 ar_51 (g0) rfl rfl (zr_0 i108_4 kc_1 (zr_13_0 i108_5 (zr_3_4 i108_6 (zr_1_1 i108_7 (zr_0 i108_8 kc_4 (zr_13_2 i108_9 (zr_1_4 i108_10 (zr_0 i108_11 kc_4 (zr_cv (zs_22_2 i108_12 na_323 rfl) (f323 ((S 51 a.toNatClampNeg) + 1) 4 S nz_4) (zr_13_0 i108_13 (zr_3_5 i108_14 (zr_2_0 i108_15 (zr_6r i108_16 fl_7_0 (zr_1_1 i108_17 (zr_1_4 i108_18 (zr_10 i108_19 ar_51 (g0) rfl (zr_2_0 i108_20 (zr_6r i108_21 fl_7_1 (zr_1_5 i108_22 (zr_1_2 i108_23 (zr_10 i108_24 ar_52 (g1) rfl (zr_2_0 i108_25 (zr_6r i108_26 fl_7_2 (zr_1_5 i108_27 (zr_1_3 i108_28 (zr_10 i108_29 ar_53 (g1) rfl (zr_2_0 i108_30 (zr_6r i108_31 fl_7_3 (zr_1_5 i108_32 (zr_0 i108_33 kc_0 (zr_10 i108_34 ar_54 (g1) rfl (zr_1_4 i108_35 (zr_25 i108_36)))))))))))))))))))))))))))))))))))))
def G108_9 (a b c : Int32) (S : zS) : zS := (z_up (z_up (z_up (z_up S 59 a.toNatClampNeg ((S 59 a.toNatClampNeg) + 1)) 60 ((a * 4) + (F323 ((S 59 a.toNatClampNeg) + 1) 4 S)).toNatClampNeg b) 61 ((a * 4) + (F323 ((S 59 a.toNatClampNeg) + 1) 4 S)).toNatClampNeg c) 62 ((a * 4) + (F323 ((S 59 a.toNatClampNeg) + 1) 4 S)).toNatClampNeg 0)
set_option maxRecDepth 100000 in
theorem f108_9 {L : Nat} (a b c : Int32) (S : zS) (g0 : zx 216 a) (g1 : zx 864 ((a * 4) + (F323 ((S 59 a.toNatClampNeg) + 1) 4 S))) : zf L 108 [.inr (.inr 9), .inl a, .inl b, .inl c] S (.inl (some (.inl ((S 59 a.toNatClampNeg) + 1))), (G108_9 a b c S), 0) := zf_of (en_108 _ _ _ _) (zr_2_0 i108_0 (zr_6r i108_1 fl_9_0 (zr_1_1 i108_2 (zr_8 i108_3 ar_59 (g0) rfl rfl (zr_0 i108_4 kc_1 (zr_13_0 i108_5 (zr_3_4 i108_6 (zr_1_1 i108_7 (zr_0 i108_8 kc_4 (zr_13_2 i108_9 (zr_1_4 i108_10 (zr_0 i108_11 kc_4 (zr_cv (zs_22_2 i108_12 na_323 rfl) (f323 ((S 59 a.toNatClampNeg) + 1) 4 S nz_4) (zr_13_0 i108_13 (zr_3_5 i108_14 (zr_2_0 i108_15 (zr_6r i108_16 fl_9_0 (zr_1_1 i108_17 (zr_1_4 i108_18 (zr_10 i108_19 ar_59 (g0) rfl (zr_2_0 i108_20 (zr_6r i108_21 fl_9_1 (zr_1_5 i108_22 (zr_1_2 i108_23 (zr_10 i108_24 ar_60 (g1) rfl (zr_2_0 i108_25 (zr_6r i108_26 fl_9_2 (zr_1_5 i108_27 (zr_1_3 i108_28 (zr_10 i108_29 ar_61 (g1) rfl (zr_2_0 i108_30 (zr_6r i108_31 fl_9_3 (zr_1_5 i108_32 (zr_0 i108_33 kc_0 (zr_10 i108_34 ar_62 (g1) rfl (zr_1_4 i108_35 (zr_25 i108_36)))))))))))))))))))))))))))))))))))))
def F107 (a b : Int32) (S : zS) : Int32 := (if ((¬ ((if (b = 0) then ((S 51 a.toNatClampNeg) : Int32) else b) < 1)) ∧ ((¬ ((S 51 a.toNatClampNeg) < (if (b = 0) then ((S 51 a.toNatClampNeg) : Int32) else b))) ∧ (¬ ((if (b = 0) then ((S 51 a.toNatClampNeg) : Int32) else b) ≤ ((S 51 a.toNatClampNeg) - 4))))) then (((a * 4) + (F323 (if (b = 0) then ((S 51 a.toNatClampNeg) : Int32) else b) 4 S)) : Int32) else (-1))
set_option maxRecDepth 100000 in
theorem f107 {L : Nat} (a b : Int32) (S : zS) (g0 : zx 216 a) : zf L 107 [.inr (.inr 7), .inl a, .inl b] S (.inl (some (.inl (F107 a b S))), S, 0) := zf_of (en_107 _ _ _) (zr_2_0 i107_0 (zr_6r i107_1 fl_7_0 (zr_1_1 i107_2 (zr_8 i107_3 ar_51 (g0) rfl rfl (zr_3_3 i107_4 (zr_1_2 i107_5 (zt_trans (zt_cast (zr_18_1 i107_6 (fun h23 => zr_1_3 i107_7 (zr_17 i107_8 (zt_rfl))) (fun h24 => zr_1_2 i107_9 (zt_rfl))) (zm_c zz_s (zl_c (zl_t zz_e) zz_s) zz_s)) (zr_3_4 i107_10 (zr_1_4 i107_11 (zr_0 i107_12 kc_1 (zt_trans (zt_cast (zr_19_2 i107_13 (fun h25 => zr_0 i107_24 kc_0 (zt_rfl)) (fun h26 => zr_1_4 i107_14 (zr_1_3 i107_15 (zt_cast (zr_19_4 i107_16 (fun h27 => zr_0 i107_24 kc_0 (zt_rfl)) (fun h28 => zr_1_4 i107_17 (zr_1_3 i107_18 (zr_0 i107_19 kc_4 (zr_13_1 i107_20 (zt_cast (zr_19_5 i107_21 (fun h29 => zr_0 i107_24 kc_0 (zt_rfl)) (fun h30 => zr_0 i107_22 kc_1 (zr_17 i107_23 (zt_rfl)))) (zm_c zz_s (zl_c (zl_t zz_01) zz_s) zz_s))))))) (zm_c zz_s (zl_c (zl_t zz_0b) zz_s) zz_s))))) (zm_c zz_s (zl_c (zl_t zz_0b) zz_s) zz_s)) (zr_3_5 i107_25 (zr_1_5 i107_26 (zt_trans (zt_cast (zr_18b_0 i107_27 (fun h31 => zr_1_1 i107_28 (zr_0 i107_29 kc_4 (zr_13_2 i107_30 (zr_1_4 i107_31 (zr_0 i107_32 kc_4 (zr_cv (zs_22_2 i107_33 na_323 rfl) (f323 (if (b = 0) then ((S 51 a.toNatClampNeg) : Int32) else b) 4 S nz_4) (zr_13_0 i107_34 (zr_17 i107_35 (zt_rfl))))))))) (fun h32 => zr_0 i107_36 kc_m1 (zt_rfl))) (zm_c zz_s (zl_c (zl_t zz_e) zz_s) zz_s)) (zr_25 i107_37)))))))))))))))
def F107_9 (a b : Int32) (S : zS) : Int32 := (if ((¬ ((if (b = 0) then ((S 59 a.toNatClampNeg) : Int32) else b) < 1)) ∧ ((¬ ((S 59 a.toNatClampNeg) < (if (b = 0) then ((S 59 a.toNatClampNeg) : Int32) else b))) ∧ (¬ ((if (b = 0) then ((S 59 a.toNatClampNeg) : Int32) else b) ≤ ((S 59 a.toNatClampNeg) - 4))))) then (((a * 4) + (F323 (if (b = 0) then ((S 59 a.toNatClampNeg) : Int32) else b) 4 S)) : Int32) else (-1))
set_option maxRecDepth 100000 in
theorem f107_9 {L : Nat} (a b : Int32) (S : zS) (g0 : zx 216 a) : zf L 107 [.inr (.inr 9), .inl a, .inl b] S (.inl (some (.inl (F107_9 a b S))), S, 0) := zf_of (en_107 _ _ _) (zr_2_0 i107_0 (zr_6r i107_1 fl_9_0 (zr_1_1 i107_2 (zr_8 i107_3 ar_59 (g0) rfl rfl (zr_3_3 i107_4 (zr_1_2 i107_5 (zt_trans (zt_cast (zr_18_1 i107_6 (fun h33 => zr_1_3 i107_7 (zr_17 i107_8 (zt_rfl))) (fun h34 => zr_1_2 i107_9 (zt_rfl))) (zm_c zz_s (zl_c (zl_t zz_e) zz_s) zz_s)) (zr_3_4 i107_10 (zr_1_4 i107_11 (zr_0 i107_12 kc_1 (zt_trans (zt_cast (zr_19_2 i107_13 (fun h35 => zr_0 i107_24 kc_0 (zt_rfl)) (fun h36 => zr_1_4 i107_14 (zr_1_3 i107_15 (zt_cast (zr_19_4 i107_16 (fun h37 => zr_0 i107_24 kc_0 (zt_rfl)) (fun h38 => zr_1_4 i107_17 (zr_1_3 i107_18 (zr_0 i107_19 kc_4 (zr_13_1 i107_20 (zt_cast (zr_19_5 i107_21 (fun h39 => zr_0 i107_24 kc_0 (zt_rfl)) (fun h40 => zr_0 i107_22 kc_1 (zr_17 i107_23 (zt_rfl)))) (zm_c zz_s (zl_c (zl_t zz_01) zz_s) zz_s))))))) (zm_c zz_s (zl_c (zl_t zz_0b) zz_s) zz_s))))) (zm_c zz_s (zl_c (zl_t zz_0b) zz_s) zz_s)) (zr_3_5 i107_25 (zr_1_5 i107_26 (zt_trans (zt_cast (zr_18b_0 i107_27 (fun h41 => zr_1_1 i107_28 (zr_0 i107_29 kc_4 (zr_13_2 i107_30 (zr_1_4 i107_31 (zr_0 i107_32 kc_4 (zr_cv (zs_22_2 i107_33 na_323 rfl) (f323 (if (b = 0) then ((S 59 a.toNatClampNeg) : Int32) else b) 4 S nz_4) (zr_13_0 i107_34 (zr_17 i107_35 (zt_rfl))))))))) (fun h42 => zr_0 i107_36 kc_m1 (zt_rfl))) (zm_c zz_s (zl_c (zl_t zz_e) zz_s) zz_s)) (zr_25 i107_37)))))))))))))))
set_option maxRecDepth 100000 in
theorem f109 {L : Nat} (a b : Int32) (S : zS) (g0 : zx 864 a) : zf L 109 [.inr (.inr 7), .inl a, .inl b] S (.inl (some (.inl (S 54 a.toNatClampNeg))), (if (b = 2) then (z_up (z_up S 54 a.toNatClampNeg b) 52 a.toNatClampNeg (-1)) else (z_up S 54 a.toNatClampNeg b)), 0) := zf_of (en_109 _ _ _) (zr_2_0 i109_0 (zr_6r i109_1 fl_7_3 (zr_1_1 i109_2 (zr_8 i109_3 ar_54 (g0) rfl rfl (zr_3_3 i109_4 (zr_2_0 i109_5 (zr_6r i109_6 fl_7_3 (zr_1_1 i109_7 (zr_1_2 i109_8 (zr_10 i109_9 ar_54 (g0) rfl (zr_1_2 i109_10 (zr_0 i109_11 kc_2 (zt_trans (zt_cast (zr_19_1 i109_12 (fun h43 => zr_2_0 i109_13 (zr_6r i109_14 fl_7_1 (zr_1_1 i109_15 (zr_0 i109_16 kc_m1 (zr_10 i109_17 ar_52 (g0) rfl (zt_rfl)))))) (fun h44 => zt_rfl)) (zm_c zz_s zz_s zz_e)) (zr_1_3 i109_18 (zr_25 i109_19)))))))))))))))
set_option maxRecDepth 100000 in
theorem f109_9 {L : Nat} (a b : Int32) (S : zS) (g0 : zx 864 a) : zf L 109 [.inr (.inr 9), .inl a, .inl b] S (.inl (some (.inl (S 62 a.toNatClampNeg))), (if (b = 2) then (z_up (z_up S 62 a.toNatClampNeg b) 60 a.toNatClampNeg (-1)) else (z_up S 62 a.toNatClampNeg b)), 0) := zf_of (en_109 _ _ _) (zr_2_0 i109_0 (zr_6r i109_1 fl_9_3 (zr_1_1 i109_2 (zr_8 i109_3 ar_62 (g0) rfl rfl (zr_3_3 i109_4 (zr_2_0 i109_5 (zr_6r i109_6 fl_9_3 (zr_1_1 i109_7 (zr_1_2 i109_8 (zr_10 i109_9 ar_62 (g0) rfl (zr_1_2 i109_10 (zr_0 i109_11 kc_2 (zt_trans (zt_cast (zr_19_1 i109_12 (fun h45 => zr_2_0 i109_13 (zr_6r i109_14 fl_9_1 (zr_1_1 i109_15 (zr_0 i109_16 kc_m1 (zr_10 i109_17 ar_60 (g0) rfl (zt_rfl)))))) (fun h46 => zt_rfl)) (zm_c zz_s zz_s zz_e)) (zr_1_3 i109_18 (zr_25 i109_19)))))))))))))))
def G21 (a : Int32) (S : zS) : zS := (if ((S 58 a.toNatClampNeg) = 0) then (if ((F107_9 (S 55 a.toNatClampNeg) (S 56 a.toNatClampNeg) S) = (-1)) then S else (if ((S 57 a.toNatClampNeg) = 2) then (z_up (z_up S 62 (F107_9 (S 55 a.toNatClampNeg) (S 56 a.toNatClampNeg) S).toNatClampNeg (S 57 a.toNatClampNeg)) 60 (F107_9 (S 55 a.toNatClampNeg) (S 56 a.toNatClampNeg) S).toNatClampNeg (-1)) else (z_up S 62 (F107_9 (S 55 a.toNatClampNeg) (S 56 a.toNatClampNeg) S).toNatClampNeg (S 57 a.toNatClampNeg)))) else (G108_9 (S 55 a.toNatClampNeg) (S 57 a.toNatClampNeg) (S 58 a.toNatClampNeg) S))
set_option maxRecDepth 100000 in
theorem f21 {L : Nat} (a : Int32) (S : zS) (g0 : zx 512 a) (g1 : ((S 58 a.toNatClampNeg) = 0) → zx 216 (S 55 a.toNatClampNeg)) (g2 : ((S 58 a.toNatClampNeg) = 0) → (¬ ((F107_9 (S 55 a.toNatClampNeg) (S 56 a.toNatClampNeg) S) = (-1))) → zx 864 (F107_9 (S 55 a.toNatClampNeg) (S 56 a.toNatClampNeg) S)) (g3 : (¬ ((S 58 a.toNatClampNeg) = 0)) → zx 216 (S 55 a.toNatClampNeg)) (g4 : (¬ ((S 58 a.toNatClampNeg) = 0)) → zx 864 (((S 55 a.toNatClampNeg) * 4) + (F323 ((S 59 (S 55 a.toNatClampNeg).toNatClampNeg) + 1) 4 S))) : zf L 21 [.inr (.inr 8), .inl a] S (.inl none, (G21 a S), 0) := zf_of (en_21 _ _) (zr_2_0 i21_0 (zr_6r i21_1 fl_8_4 (zr_1_1 i21_2 (zr_8 i21_3 ar_58 (g0) rfl rfl (zt_cast (zr_18_0 i21_4 (fun h47 => zr_2_0 i21_22 (zr_6r i21_23 fl_8_0 (zr_2_0 i21_24 (zr_6r i21_25 fl_8_1 (zr_1_1 i21_26 (zr_8 i21_27 ar_55 (g0) rfl rfl (zr_2_0 i21_28 (zr_6r i21_29 fl_8_2 (zr_1_1 i21_30 (zr_8 i21_31 ar_56 (g0) rfl rfl (zr_cv (zs_21_2 i21_32 na_107 ob_9 rfl) (f107_9 (S 55 a.toNatClampNeg) (S 56 a.toNatClampNeg) S (g1 h47)) (zr_3_2 i21_33 (zr_1_2 i21_34 (zr_0 i21_35 kc_m1 (zt_trans (zt_cast (zr_19_0 i21_36 (fun h49 => zt_rfl) (fun h50 => zr_2_0 i21_37 (zr_6r i21_38 fl_8_0 (zr_1_2 i21_39 (zr_2_0 i21_40 (zr_6r i21_41 fl_8_3 (zr_1_1 i21_42 (zr_8 i21_43 ar_57 (g0) rfl rfl (zr_cv (zs_21_2 i21_44 na_109 ob_9 rfl) (f109_9 (F107_9 (S 55 a.toNatClampNeg) (S 56 a.toNatClampNeg) S) (S 57 a.toNatClampNeg) S (g2 h47 h50)) (zr_16 i21_45 (zt_rfl))))))))))) (zm_c zz_s zz_s zz_e)) (zr_27 i21_46)))))))))))))))) (fun h48 => zr_2_0 i21_5 (zr_6r i21_6 fl_8_0 (zr_2_0 i21_7 (zr_6r i21_8 fl_8_1 (zr_1_1 i21_9 (zr_8 i21_10 ar_55 (g0) rfl rfl (zr_2_0 i21_11 (zr_6r i21_12 fl_8_3 (zr_1_1 i21_13 (zr_8 i21_14 ar_57 (g0) rfl rfl (zr_2_0 i21_15 (zr_6r i21_16 fl_8_4 (zr_1_1 i21_17 (zr_8 i21_18 ar_58 (g0) rfl rfl (zr_cv (zs_21_3 i21_19 na_108 ob_9 rfl) (f108_9 (S 55 a.toNatClampNeg) (S 57 a.toNatClampNeg) (S 58 a.toNatClampNeg) S (g3 h48) (g4 h48)) (zr_16 i21_20 (zr_27 i21_21)))))))))))))))))) (zm_v zz_e))))))
def G20 (a b : Int32) (S : zS) : zS := (z_up (z_up (z_up (z_up S 55 b.toNatClampNeg (S 55 a.toNatClampNeg)) 56 b.toNatClampNeg (S 56 a.toNatClampNeg)) 57 b.toNatClampNeg (S 57 a.toNatClampNeg)) 58 b.toNatClampNeg (S 58 a.toNatClampNeg))
set_option maxRecDepth 100000 in
theorem f20 {L : Nat} (a b : Int32) (S : zS) (g0 : zx 512 a) (g1 : zx 512 b) : zf L 20 [.inr (.inr 8), .inl a, .inl b] S (.inl none, (G20 a b S), 0) := zf_of (en_20 _ _ _) (zr_2_0 i20_0 (zr_6r i20_1 fl_8_1 (zr_1_2 i20_2 (zr_2_0 i20_3 (zr_6r i20_4 fl_8_1 (zr_1_1 i20_5 (zr_8 i20_6 ar_55 (g0) rfl rfl (zr_10 i20_7 ar_55 (g1) rfl (zr_2_0 i20_8 (zr_6r i20_9 fl_8_2 (zr_1_2 i20_10 (zr_2_0 i20_11 (zr_6r i20_12 fl_8_2 (zr_1_1 i20_13 (zr_8 i20_14 ar_56 (g0) rfl (zupci rfl) (zr_10 i20_15 ar_56 (g1) rfl (zr_2_0 i20_16 (zr_6r i20_17 fl_8_3 (zr_1_2 i20_18 (zr_2_0 i20_19 (zr_6r i20_20 fl_8_3 (zr_1_1 i20_21 (zr_8 i20_22 ar_57 (g0) rfl ((zupci rfl).trans (zupci rfl)) (zr_10 i20_23 ar_57 (g1) rfl (zr_2_0 i20_24 (zr_6r i20_25 fl_8_4 (zr_1_2 i20_26 (zr_2_0 i20_27 (zr_6r i20_28 fl_8_4 (zr_1_1 i20_29 (zr_8 i20_30 ar_58 (g0) rfl ((zupci rfl).trans ((zupci rfl).trans (zupci rfl))) (zr_10 i20_31 ar_58 (g1) rfl (zr_27 i20_32)))))))))))))))))))))))))))))))))
set_option maxRecDepth 100000 in
theorem f22 {L : Nat} (a : Int32) (S : zS) : zf L 22 [.inr (.inr 10), .inl a] S (.inl (some (.inl (zb ((¬ (a < 0)) ∧ (¬ ((S 10 0) ≤ a)))))), S, 0) := zf_of (en_22 _ _) (zr_1_1 i22_0 (zt_trans (zt_cast (zr_18_2 i22_1 (fun h51 => zr_0 i22_8 kc_0 (zt_rfl)) (fun h52 => zr_1_1 i22_2 (zr_2_0 i22_3 (zr_6 i22_4 fl_10_0 rfl (zt_cast (zr_19_3 i22_5 (fun h53 => zr_0 i22_8 kc_0 (zt_rfl)) (fun h54 => zr_0 i22_6 kc_1 (zr_17 i22_7 (zt_rfl)))) (zm_c zz_s (zl_c (zl_t zz_01) zz_s) zz_s)))))) (zm_c zz_s (zl_c (zl_t zz_0b) zz_s) zz_s)) (zr_26 i22_9 (zb_01 _))))
set_option maxRecDepth 100000 in
theorem f23 {L : Nat} (a b : Int32) (S : zS) (g0 : ((S 10 0) < 20) → zx 20 (S 10 0)) : zf L 23 [.inr (.inr 10), .inl a, .inl b] S (.inl (some (.inl (if ((S 10 0) < 20) then ((S 10 0) : Int32) else (-11)))), (if ((S 10 0) < 20) then (z_up (z_up (z_up S 63 (S 10 0).toNatClampNeg a) 64 (S 10 0).toNatClampNeg b) 10 0 ((S 10 0) + 1)) else S), 0) := zf_of (en_23 _ _ _) (zr_2_0 i23_0 (zr_6 i23_1 fl_10_0 rfl (zr_0 i23_2 kc_20 (zt_cast (zr_19_2 i23_3 (fun h55 => zr_2_0 i23_6 (zr_6 i23_7 fl_10_0 rfl (zr_3_3 i23_8 (zr_2_0 i23_9 (zr_6r i23_10 fl_10_1 (zr_1_3 i23_11 (zr_1_1 i23_12 (zr_10 i23_13 ar_63 (g0 h55) rfl (zr_2_0 i23_14 (zr_6r i23_15 fl_10_2 (zr_1_3 i23_16 (zr_1_2 i23_17 (zr_10 i23_18 ar_64 (g0 h55) rfl (zr_2_0 i23_19 (zr_14r i23_20 (zr_6 i23_21 fl_10_0 ((zupci rfl).trans (zupci rfl)) (zr_0 i23_22 kc_1 (zr_13_0 i23_23 (zr_7 i23_24 fl_10_0 (zr_1_3 i23_25 (zr_25 i23_26))))))))))))))))))))) (fun h56 => zr_0 i23_4 kc_m11 (zr_25 i23_5))) (zm_r zz_e zz_e)))))
set_option maxRecDepth 100000 in
theorem f24 {L : Nat} (a b : Int32) (S : zS) (g0 : zx 20 a) : zf L 24 [.inr (.inr 10), .inl a, .inl b] S (.inl (some (.inl (if ((S 65 a.toNatClampNeg) = 0) then ((if ((b - (S 64 a.toNatClampNeg)) ≤ 5) then ((S 63 a.toNatClampNeg) : Int32) else (-7)) : Int32) else (-7)))), (if ((S 65 a.toNatClampNeg) = 0) then (if ((b - (S 64 a.toNatClampNeg)) ≤ 5) then (z_up S 65 a.toNatClampNeg 1) else S) else S), 0) := zf_of (en_24 _ _ _) (zr_2_0 i24_0 (zr_6r i24_1 fl_10_3 (zr_1_1 i24_2 (zr_9 i24_3 ar_65 (g0) rfl rfl (zt_cast (zr_18_1 i24_4 (fun h57 => zr_1_2 i24_5 (zr_2_0 i24_6 (zr_6r i24_7 fl_10_2 (zr_1_1 i24_8 (zr_8 i24_9 ar_64 (g0) rfl rfl (zr_13_1 i24_10 (zr_0 i24_11 kc_5 (zt_cast (zr_19_5 i24_12 (fun h59 => zr_2_0 i24_15 (zr_6r i24_16 fl_10_3 (zr_1_1 i24_17 (zr_0 i24_18 kc_1 (zr_11 i24_19 ar_65 (g0) (zo_1) rfl (zr_2_0 i24_20 (zr_6r i24_21 fl_10_1 (zr_1_1 i24_22 (zr_8 i24_23 ar_63 (g0) rfl (zupci rfl) (zr_25 i24_24)))))))))) (fun h60 => zr_0 i24_13 kc_m7 (zr_25 i24_14))) (zm_r zz_e zz_e))))))))) (fun h58 => zr_0 i24_13 kc_m7 (zr_25 i24_14))) (zm_r zz_e zz_e))))))
set_option maxRecDepth 100000 in
theorem f25 {L : Nat} (S : zS) : zf L 25 [.inr (.inr 10)] S (.inl (some (.inl (S 10 4))), S, 0) := zf_of (en_25 _) (zr_2_0 i25_0 (zr_6 i25_1 fl_10_4 rfl (zr_25 i25_2)))
set_option maxRecDepth 100000 in
theorem f26 {L : Nat} (a : Int32) (S : zS) : zf L 26 [.inr (.inr 10), .inl a] S (.inl (some (.inl (zb ((¬ (a < 0)) ∧ (¬ ((S 10 4) ≤ a)))))), S, 0) := zf_of (en_26 _ _) (zr_1_1 i26_0 (zt_trans (zt_cast (zr_18_2 i26_1 (fun h61 => zr_0 i26_8 kc_0 (zt_rfl)) (fun h62 => zr_1_1 i26_2 (zr_2_0 i26_3 (zr_6 i26_4 fl_10_4 rfl (zt_cast (zr_19_3 i26_5 (fun h63 => zr_0 i26_8 kc_0 (zt_rfl)) (fun h64 => zr_0 i26_6 kc_1 (zr_17 i26_7 (zt_rfl)))) (zm_c zz_s (zl_c (zl_t zz_01) zz_s) zz_s)))))) (zm_c zz_s (zl_c (zl_t zz_0b) zz_s) zz_s)) (zr_26 i26_9 (zb_01 _))))
set_option maxRecDepth 100000 in
theorem f27 {L : Nat} (a : Int32) (S : zS) (g0 : zx 20 a) : zf L 27 [.inr (.inr 10), .inl a] S (.inl (some (.inl (S 66 a.toNatClampNeg))), S, 0) := zf_of (en_27 _ _) (zr_2_0 i27_0 (zr_6r i27_1 fl_10_5 (zr_1_1 i27_2 (zr_8 i27_3 ar_66 (g0) rfl rfl (zr_25 i27_4)))))
set_option maxRecDepth 100000 in
theorem f28 {L : Nat} (a : Int32) (S : zS) (g0 : zx 20 a) : zf L 28 [.inr (.inr 10), .inl a] S (.inl (some (.inl (S 67 a.toNatClampNeg))), S, 0) := zf_of (en_28 _ _) (zr_2_0 i28_0 (zr_6r i28_1 fl_10_6 (zr_1_1 i28_2 (zr_8 i28_3 ar_67 (g0) rfl rfl (zr_25 i28_4)))))
set_option maxRecDepth 100000 in
theorem f29 {L : Nat} (a : Int32) (S : zS) (g0 : zx 20 a) : zf L 29 [.inr (.inr 10), .inl a] S (.inl (some (.inl (S 68 a.toNatClampNeg))), S, 0) := zf_of (en_29 _ _) (zr_2_0 i29_0 (zr_6r i29_1 fl_10_7 (zr_1_1 i29_2 (zr_8 i29_3 ar_68 (g0) rfl rfl (zr_25 i29_4)))))
set_option maxRecDepth 100000 in
theorem f30 {L : Nat} (a : Int32) (S : zS) (g0 : zx 20 a) : zf L 30 [.inr (.inr 10), .inl a] S (.inl (some (.inl (zb ((S 71 a.toNatClampNeg) = 0)))), S, 0) := zf_of (en_30 _ _) (zr_2_0 i30_0 (zr_6r i30_1 fl_10_10 (zr_1_1 i30_2 (zr_9 i30_3 ar_71 (g0) rfl rfl (zt_trans (zt_cast (zr_18_1 i30_4 (fun h65 => zr_0 i30_5 kc_1 (zr_17 i30_6 (zt_rfl))) (fun h66 => zr_0 i30_7 kc_0 (zt_rfl))) (zm_c zz_s (zl_c (zl_t zz_10) zz_s) zz_s)) (zr_26 i30_8 (zb_01 _)))))))
def F322 (a : Int32) (S : zS) : Int32 := ((((((((a - ((zushr a 1) &&& 1431655765)) &&& 858993459) + ((zushr (a - ((zushr a 1) &&& 1431655765)) 2) &&& 858993459)) + (zushr (((a - ((zushr a 1) &&& 1431655765)) &&& 858993459) + ((zushr (a - ((zushr a 1) &&& 1431655765)) 2) &&& 858993459)) 4)) &&& 252645135) + (zushr (((((a - ((zushr a 1) &&& 1431655765)) &&& 858993459) + ((zushr (a - ((zushr a 1) &&& 1431655765)) 2) &&& 858993459)) + (zushr (((a - ((zushr a 1) &&& 1431655765)) &&& 858993459) + ((zushr (a - ((zushr a 1) &&& 1431655765)) 2) &&& 858993459)) 4)) &&& 252645135) 8)) + (zushr ((((((a - ((zushr a 1) &&& 1431655765)) &&& 858993459) + ((zushr (a - ((zushr a 1) &&& 1431655765)) 2) &&& 858993459)) + (zushr (((a - ((zushr a 1) &&& 1431655765)) &&& 858993459) + ((zushr (a - ((zushr a 1) &&& 1431655765)) 2) &&& 858993459)) 4)) &&& 252645135) + (zushr (((((a - ((zushr a 1) &&& 1431655765)) &&& 858993459) + ((zushr (a - ((zushr a 1) &&& 1431655765)) 2) &&& 858993459)) + (zushr (((a - ((zushr a 1) &&& 1431655765)) &&& 858993459) + ((zushr (a - ((zushr a 1) &&& 1431655765)) 2) &&& 858993459)) 4)) &&& 252645135) 8)) 16)) &&& 63)
set_option maxRecDepth 100000 in
theorem f322 {L : Nat} (a : Int32) (S : zS) : zf L 322 [.inl a] S (.inl (some (.inl (F322 a S))), S, 0) := zf_of (en_322 _) (zr_1_0 i322_0 (zr_1_0 i322_1 (zr_0 i322_2 kc_1 (zr_13_10 i322_3 (zr_0 i322_4 kc_1431655765 (zr_13_5 i322_5 (zr_13_1 i322_6 (zr_3_0 i322_7 (zr_1_0 i322_8 (zr_0 i322_9 kc_858993459 (zr_13_5 i322_10 (zr_1_0 i322_11 (zr_0 i322_12 kc_2 (zr_13_10 i322_13 (zr_0 i322_14 kc_858993459 (zr_13_5 i322_15 (zr_13_0 i322_16 (zr_3_0 i322_17 (zr_1_0 i322_18 (zr_1_0 i322_19 (zr_0 i322_20 kc_4 (zr_13_10 i322_21 (zr_13_0 i322_22 (zr_0 i322_23 kc_252645135 (zr_13_5 i322_24 (zr_3_0 i322_25 (zr_1_0 i322_26 (zr_1_0 i322_27 (zr_0 i322_28 kc_8 (zr_13_10 i322_29 (zr_13_0 i322_30 (zr_3_0 i322_31 (zr_1_0 i322_32 (zr_1_0 i322_33 (zr_0 i322_34 kc_16 (zr_13_10 i322_35 (zr_13_0 i322_36 (zr_3_0 i322_37 (zr_1_0 i322_38 (zr_0 i322_39 kc_63 (zr_13_5 i322_40 (zr_25 i322_41))))))))))))))))))))))))))))))))))))))))))
set_option maxRecDepth 100000 in
theorem f31 {L : Nat} (a : Int32) (S : zS) (g0 : zx 20 a) : zf L 31 [.inr (.inr 10), .inl a] S (.inl (some (.inl (zb (¬ ((F322 (S 70 a.toNatClampNeg) S) < (S 69 a.toNatClampNeg)))))), S, 0) := zf_of (en_31 _ _) (zr_2_0 i31_0 (zr_6r i31_1 fl_10_9 (zr_1_1 i31_2 (zr_8 i31_3 ar_70 (g0) rfl rfl (zr_cv (zs_22_1 i31_4 na_322 rfl) (f322 (S 70 a.toNatClampNeg) S ) (zr_2_0 i31_5 (zr_6r i31_6 fl_10_8 (zr_1_1 i31_7 (zr_8 i31_8 ar_69 (g0) rfl rfl (zt_trans (zt_cast (zr_19_2 i31_9 (fun h67 => zr_0 i31_12 kc_0 (zt_rfl)) (fun h68 => zr_0 i31_10 kc_1 (zr_17 i31_11 (zt_rfl)))) (zm_c zz_s (zl_c (zl_t zz_01) zz_s) zz_s)) (zr_26 i31_13 (zb_01 _))))))))))))
def G32 (a b c d : Int32) (S : zS) : zS := (if ((S 10 4) < 20) then (z_up (z_up (z_up (z_up (z_up S 66 (S 10 4).toNatClampNeg a) 67 (S 10 4).toNatClampNeg b) 68 (S 10 4).toNatClampNeg c) 69 (S 10 4).toNatClampNeg d) 10 4 ((S 10 4) + 1)) else S)
set_option maxRecDepth 100000 in
theorem f32 {L : Nat} (a b c d : Int32) (S : zS) (g0 : ((S 10 4) < 20) → zx 20 (S 10 4)) : zf L 32 [.inr (.inr 10), .inl a, .inl b, .inl c, .inl d] S (.inl (some (.inl (if ((S 10 4) < 20) then ((-10) : Int32) else (-11)))), (G32 a b c d S), 0) := zf_of (en_32 _ _ _ _ _) (zr_2_0 i32_0 (zr_6 i32_1 fl_10_4 rfl (zr_0 i32_2 kc_20 (zt_cast (zr_19_2 i32_3 (fun h69 => zr_2_0 i32_6 (zr_6r i32_7 fl_10_5 (zr_2_0 i32_8 (zr_6 i32_9 fl_10_4 rfl (zr_1_1 i32_10 (zr_10 i32_11 ar_66 (g0 h69) rfl (zr_2_0 i32_12 (zr_6r i32_13 fl_10_6 (zr_2_0 i32_14 (zr_6 i32_15 fl_10_4 (zupci rfl) (zr_1_2 i32_16 (zr_10 i32_17 ar_67 (g0 h69) rfl (zr_2_0 i32_18 (zr_6r i32_19 fl_10_7 (zr_2_0 i32_20 (zr_6 i32_21 fl_10_4 ((zupci rfl).trans (zupci rfl)) (zr_1_3 i32_22 (zr_10 i32_23 ar_68 (g0 h69) rfl (zr_2_0 i32_24 (zr_6r i32_25 fl_10_8 (zr_2_0 i32_26 (zr_6 i32_27 fl_10_4 ((zupci rfl).trans ((zupci rfl).trans (zupci rfl))) (zr_1_4 i32_28 (zr_10 i32_29 ar_69 (g0 h69) rfl (zr_2_0 i32_30 (zr_14r i32_31 (zr_6 i32_32 fl_10_4 ((zupci rfl).trans ((zupci rfl).trans ((zupci rfl).trans (zupci rfl)))) (zr_0 i32_33 kc_1 (zr_13_0 i32_34 (zr_7 i32_35 fl_10_4 (zr_0 i32_36 kc_m10 (zr_25 i32_37)))))))))))))))))))))))))))))))) (fun h70 => zr_0 i32_4 kc_m11 (zr_25 i32_5))) (zm_r zz_e zz_e)))))
set_option maxRecDepth 100000 in
theorem f33 {L : Nat} (a b : Int32) (S : zS) (g0 : zx 20 a) : zf L 33 [.inr (.inr 10), .inl a, .inl b] S (.inl (some (.inl (F322 ((S 70 a.toNatClampNeg) ||| (zshl 1 b)) (z_up S 70 a.toNatClampNeg ((S 70 a.toNatClampNeg) ||| (zshl 1 b)))))), (z_up S 70 a.toNatClampNeg ((S 70 a.toNatClampNeg) ||| (zshl 1 b))), 0) := zf_of (en_33 _ _ _) (zr_2_0 i33_0 (zr_6r i33_1 fl_10_9 (zr_1_1 i33_2 (zr_15 i33_3 (zr_8 i33_4 ar_70 (g0) rfl rfl (zr_0 i33_5 kc_1 (zr_1_2 i33_6 (zr_13_8 i33_7 (zr_13_6 i33_8 (zr_10 i33_9 ar_70 (g0) rfl (zr_2_0 i33_10 (zr_6r i33_11 fl_10_9 (zr_1_1 i33_12 (zr_8 i33_13 ar_70 (g0) rfl (zup_s _ _ _ _) (zr_cv (zs_22_1 i33_14 na_322 rfl) (f322 ((S 70 a.toNatClampNeg) ||| (zshl 1 b)) (z_up S 70 a.toNatClampNeg ((S 70 a.toNatClampNeg) ||| (zshl 1 b))) ) (zr_25 i33_15))))))))))))))))
set_option maxRecDepth 100000 in
theorem f34 {L : Nat} (a : Int32) (S : zS) (g0 : zx 20 a) : zf L 34 [.inr (.inr 10), .inl a] S (.inl none, (z_up S 71 a.toNatClampNeg 1), 0) := zf_of (en_34 _ _) (zr_2_0 i34_0 (zr_6r i34_1 fl_10_10 (zr_1_1 i34_2 (zr_0 i34_3 kc_1 (zr_11 i34_4 ar_71 (g0) (zo_1) rfl (zr_27 i34_5))))))
set_option maxRecDepth 100000 in
theorem f36 {L : Nat} (a b : Int32) (S : zS) : zf L 36 [.inr (.inr 2), .inl a, .inl b] S (.inl none, (z_up (z_up S 2 4 a) 2 5 b), 0) := zf_of (en_36 _ _ _) (zr_2_0 i36_0 (zr_1_1 i36_1 (zr_7 i36_2 fl_2_4 (zr_2_0 i36_3 (zr_1_2 i36_4 (zr_7 i36_5 fl_2_5 (zr_27 i36_6)))))))
set_option maxRecDepth 100000 in
theorem f37 {L : Nat} (S : zS) : zf L 37 [.inr (.inr 2)] S (.inl (some (.inl (S 2 0))), S, 0) := zf_of (en_37 _) (zr_2_0 i37_0 (zr_6 i37_1 fl_2_0 rfl (zr_25 i37_2)))
set_option maxRecDepth 100000 in
theorem f38 {L : Nat} (S : zS) : zf L 38 [.inr (.inr 2)] S (.inl (some (.inl (S 2 3))), S, 0) := zf_of (en_38 _) (zr_2_0 i38_0 (zr_6 i38_1 fl_2_3 rfl (zr_25 i38_2)))
set_option maxRecDepth 100000 in
theorem f39 {L : Nat} (a : Int32) (S : zS) : zf L 39 [.inr (.inr 2), .inl a] S (.inl (some (.inl (S 2 3))), (z_up S 2 3 a), 0) := zf_of (en_39 _ _) (zr_2_0 i39_0 (zr_6 i39_1 fl_2_3 rfl (zr_3_2 i39_2 (zr_2_0 i39_3 (zr_1_1 i39_4 (zr_7 i39_5 fl_2_3 (zr_1_2 i39_6 (zr_25 i39_7))))))))
set_option maxRecDepth 100000 in
theorem f40 {L : Nat} (a : Int32) (S : zS) : zf L 40 [.inr (.inr 2), .inl a] S (.inl (some (.inl ((S 2 0) + 1))), (z_up (z_up (z_up S 2 0 ((S 2 0) + 1)) 2 1 0) 2 2 a), 0) := zf_of (en_40 _ _) (zr_2_0 i40_0 (zr_14r i40_1 (zr_6 i40_2 fl_2_0 rfl (zr_0 i40_3 kc_1 (zr_13_0 i40_4 (zr_7 i40_5 fl_2_0 (zr_2_0 i40_6 (zr_0 i40_7 kc_0 (zr_7 i40_8 fl_2_1 (zr_2_0 i40_9 (zr_1_1 i40_10 (zr_7 i40_11 fl_2_2 (zr_2_0 i40_12 (zr_6 i40_13 fl_2_0 ((zupf rfl).trans ((zupf rfl).trans (zup_s _ _ _ _))) (zr_25 i40_14)))))))))))))))
def F41 (a : Int32) (S : zS) : Int32 := ((if ((S 2 4) ≤ (S 2 1)) then (z_up (z_up (z_up S 2 0 ((S 2 0) + 1)) 2 1 0) 2 2 a) else (if ((a - (S 2 2)) < (S 2 5)) then S else (z_up (z_up (z_up S 2 0 ((S 2 0) + 1)) 2 1 0) 2 2 a))) 2 0)
def G41 (a : Int32) (S : zS) : zS := (z_up (if ((S 2 4) ≤ (S 2 1)) then (z_up (z_up (z_up S 2 0 ((S 2 0) + 1)) 2 1 0) 2 2 a) else (if ((a - (S 2 2)) < (S 2 5)) then S else (z_up (z_up (z_up S 2 0 ((S 2 0) + 1)) 2 1 0) 2 2 a))) 2 1 (((if ((S 2 4) ≤ (S 2 1)) then (z_up (z_up (z_up S 2 0 ((S 2 0) + 1)) 2 1 0) 2 2 a) else (if ((a - (S 2 2)) < (S 2 5)) then S else (z_up (z_up (z_up S 2 0 ((S 2 0) + 1)) 2 1 0) 2 2 a))) 2 1) + 1))
set_option maxRecDepth 100000 in
theorem f41 {L : Nat} (a : Int32) (S : zS) : zf L 41 [.inr (.inr 2), .inl a] S (.inl (some (.inl (F41 a S))), (G41 a S), 0) := zf_of (en_41 _ _) (zr_2_0 i41_0 (zr_6 i41_1 fl_2_1 rfl (zr_2_0 i41_2 (zr_6 i41_3 fl_2_4 rfl (zt_trans (zt_cast (zr_19_3 i41_4 (fun h71 => zr_2_0 i41_12 (zr_1_1 i41_13 (zr_cv (zs_21_1 i41_14 na_40 ob_2 rfl) (f40 a S ) (zr_16 i41_15 (zt_rfl))))) (fun h72 => zr_1_1 i41_5 (zr_2_0 i41_6 (zr_6 i41_7 fl_2_2 rfl (zr_13_1 i41_8 (zr_2_0 i41_9 (zr_6 i41_10 fl_2_5 rfl (zt_cast (zr_19_2 i41_11 (fun h73 => zt_rfl) (fun h74 => zr_2_0 i41_12 (zr_1_1 i41_13 (zr_cv (zs_21_1 i41_14 na_40 ob_2 rfl) (f40 a S ) (zr_16 i41_15 (zt_rfl)))))) (zm_c zz_s zz_s zz_e))))))))) (zm_c zz_s zz_s zz_e)) (zr_2_0 i41_16 (zr_14r i41_17 (zr_6 i41_18 fl_2_1 rfl (zr_0 i41_19 kc_1 (zr_13_0 i41_20 (zr_7 i41_21 fl_2_1 (zr_2_0 i41_22 (zr_6 i41_23 fl_2_0 (zupf rfl) (zr_25 i41_24))))))))))))))
set_option maxRecDepth 100000 in
theorem f42 {L : Nat} (S : zS) : zf L 42 [.inr (.inr 6)] S (.inl (some (.inl (zb (¬ ((S 6 0) < 40))))), S, 0) := zf_of (en_42 _) (zr_2_0 i42_0 (zr_6 i42_1 fl_6_0 rfl (zr_0 i42_2 kc_40 (zt_trans (zt_cast (zr_19_2 i42_3 (fun h75 => zr_0 i42_6 kc_0 (zt_rfl)) (fun h76 => zr_0 i42_4 kc_1 (zr_17 i42_5 (zt_rfl)))) (zm_c zz_s (zl_c (zl_t zz_01) zz_s) zz_s)) (zr_26 i42_7 (zb_01 _))))))
set_option maxRecDepth 100000 in
theorem f43 {L : Nat} (a : Int32) (S : zS) : zf L 43 [.inr (.inr 6), .inl a] S (.inl (some (.inl (zb ((¬ (a < 0)) ∧ (¬ ((S 6 0) ≤ a)))))), S, 0) := zf_of (en_43 _ _) (zr_1_1 i43_0 (zt_trans (zt_cast (zr_18_2 i43_1 (fun h77 => zr_0 i43_8 kc_0 (zt_rfl)) (fun h78 => zr_1_1 i43_2 (zr_2_0 i43_3 (zr_6 i43_4 fl_6_0 rfl (zt_cast (zr_19_3 i43_5 (fun h79 => zr_0 i43_8 kc_0 (zt_rfl)) (fun h80 => zr_0 i43_6 kc_1 (zr_17 i43_7 (zt_rfl)))) (zm_c zz_s (zl_c (zl_t zz_01) zz_s) zz_s)))))) (zm_c zz_s (zl_c (zl_t zz_0b) zz_s) zz_s)) (zr_26 i43_9 (zb_01 _))))
set_option maxRecDepth 100000 in
theorem f44 {L : Nat} (a : Int32) (S : zS) (g0 : zx 40 a) : zf L 44 [.inr (.inr 6), .inl a] S (.inl (some (.inl (S 41 a.toNatClampNeg))), S, 0) := zf_of (en_44 _ _) (zr_2_0 i44_0 (zr_6r i44_1 fl_6_1 (zr_1_1 i44_2 (zr_8 i44_3 ar_41 (g0) rfl rfl (zr_25 i44_4)))))
set_option maxRecDepth 100000 in
theorem f45 {L : Nat} (a : Int32) (S : zS) (g0 : zx 40 a) : zf L 45 [.inr (.inr 6), .inl a] S (.inl (some (.inl (S 46 a.toNatClampNeg))), S, 0) := zf_of (en_45 _ _) (zr_2_0 i45_0 (zr_6r i45_1 fl_6_6 (zr_1_1 i45_2 (zr_8 i45_3 ar_46 (g0) rfl rfl (zr_25 i45_4)))))
set_option maxRecDepth 100000 in
theorem f46 {L : Nat} (a : Int32) (S : zS) (g0 : zx 40 a) : zf L 46 [.inr (.inr 6), .inl a] S (.inl (some (.inl (S 44 a.toNatClampNeg))), S, 0) := zf_of (en_46 _ _) (zr_2_0 i46_0 (zr_6r i46_1 fl_6_4 (zr_1_1 i46_2 (zr_8 i46_3 ar_44 (g0) rfl rfl (zr_25 i46_4)))))
set_option maxRecDepth 100000 in
theorem f47 {L : Nat} (a : Int32) (S : zS) (g0 : zx 3 a) : zf L 47 [.inr (.inr 6), .inl a] S (.inl (some (.inl (S 49 a.toNatClampNeg))), S, 0) := zf_of (en_47 _ _) (zr_2_0 i47_0 (zr_6r i47_1 fl_6_9 (zr_1_1 i47_2 (zr_8 i47_3 ar_49 (g0) rfl rfl (zr_25 i47_4)))))
set_option maxRecDepth 100000 in
theorem f48 {L : Nat} (a b : Int32) (S : zS) (g0 : zx 3 a) : zf L 48 [.inr (.inr 6), .inl a, .inl b] S (.inl (some (.inl (S 48 a.toNatClampNeg))), (z_up S 48 a.toNatClampNeg b), 0) := zf_of (en_48 _ _ _) (zr_2_0 i48_0 (zr_6r i48_1 fl_6_8 (zr_1_1 i48_2 (zr_8 i48_3 ar_48 (g0) rfl rfl (zr_3_3 i48_4 (zr_2_0 i48_5 (zr_6r i48_6 fl_6_8 (zr_1_1 i48_7 (zr_1_2 i48_8 (zr_10 i48_9 ar_48 (g0) rfl (zr_1_3 i48_10 (zr_25 i48_11))))))))))))
def G49 (a : Int32) (S : zS) : zS := (if ((S 48 a.toNatClampNeg) = 1) then S else (if ((S 48 a.toNatClampNeg) = 2) then (z_up (z_up S 49 a.toNatClampNeg ((S 49 a.toNatClampNeg) + 1)) 50 a.toNatClampNeg ((S 50 a.toNatClampNeg) + 1)) else (z_up S 49 a.toNatClampNeg ((S 49 a.toNatClampNeg) + 1))))
set_option maxRecDepth 100000 in
theorem f49 {L : Nat} (a : Int32) (S : zS) (g0 : zx 3 a) : zf L 49 [.inr (.inr 6), .inl a] S (.inl (some (.inl (zb ((¬ ((S 48 a.toNatClampNeg) = 1)) ∧ (¬ ((S 48 a.toNatClampNeg) = 2)))))), (G49 a S), 0) := zf_of (en_49 _ _) (zr_2_0 i49_0 (zr_6r i49_1 fl_6_8 (zr_1_1 i49_2 (zr_8 i49_3 ar_48 (g0) rfl rfl (zr_0 i49_4 kc_1 (zt_cast (zr_19_1 i49_5 (fun h81 => zr_0 i49_6 kc_0 (zr_26 i49_7 (zo_0))) (fun h82 => zr_2_0 i49_8 (zr_6r i49_9 fl_6_9 (zr_1_1 i49_10 (zr_15 i49_11 (zr_8 i49_12 ar_49 (g0) rfl rfl (zr_0 i49_13 kc_1 (zr_13_0 i49_14 (zr_10 i49_15 ar_49 (g0) rfl (zr_2_0 i49_16 (zr_6r i49_17 fl_6_8 (zr_1_1 i49_18 (zr_8 i49_19 ar_48 (g0) rfl (zupci rfl) (zr_0 i49_20 kc_2 (zt_cast (zr_19_1 i49_21 (fun h83 => zr_2_0 i49_22 (zr_6r i49_23 fl_6_10 (zr_1_1 i49_24 (zr_15 i49_25 (zr_8 i49_26 ar_50 (g0) rfl (zupci rfl) (zr_0 i49_27 kc_1 (zr_13_0 i49_28 (zr_10 i49_29 ar_50 (g0) rfl (zr_0 i49_30 kc_0 (zr_26 i49_31 (zo_0))))))))))) (fun h84 => zr_0 i49_32 kc_1 (zr_26 i49_33 (zo_1)))) (zm_r zz_01 zz_e)))))))))))))))) (zm_r zz_0b zz_e)))))))
def G50 (a b c : Int32) (S : zS) : zS := (z_up (z_up (z_up (z_up (z_up (z_up S 41 (S 6 0).toNatClampNeg a) 42 (S 6 0).toNatClampNeg b) 43 (S 6 0).toNatClampNeg c) 46 (S 6 0).toNatClampNeg 0) 47 (S 6 0).toNatClampNeg 0) 6 0 ((S 6 0) + 1))
set_option maxRecDepth 100000 in
theorem f50 {L : Nat} (a b c : Int32) (S : zS) (g0 : zx 40 (S 6 0)) : zf L 50 [.inr (.inr 6), .inl a, .inl b, .inl c] S (.inl (some (.inl (S 6 0))), (G50 a b c S), 0) := zf_of (en_50 _ _ _ _) (zr_2_0 i50_0 (zr_6 i50_1 fl_6_0 rfl (zr_3_4 i50_2 (zr_2_0 i50_3 (zr_6r i50_4 fl_6_1 (zr_1_4 i50_5 (zr_1_1 i50_6 (zr_10 i50_7 ar_41 (g0) rfl (zr_2_0 i50_8 (zr_6r i50_9 fl_6_2 (zr_1_4 i50_10 (zr_1_2 i50_11 (zr_10 i50_12 ar_42 (g0) rfl (zr_2_0 i50_13 (zr_6r i50_14 fl_6_3 (zr_1_4 i50_15 (zr_1_3 i50_16 (zr_10 i50_17 ar_43 (g0) rfl (zr_2_0 i50_18 (zr_6r i50_19 fl_6_6 (zr_1_4 i50_20 (zr_0 i50_21 kc_0 (zr_10 i50_22 ar_46 (g0) rfl (zr_2_0 i50_23 (zr_6r i50_24 fl_6_7 (zr_1_4 i50_25 (zr_0 i50_26 kc_0 (zr_10 i50_27 ar_47 (g0) rfl (zr_2_0 i50_28 (zr_14r i50_29 (zr_6 i50_30 fl_6_0 ((zupci rfl).trans ((zupci rfl).trans ((zupci rfl).trans ((zupci rfl).trans (zupci rfl))))) (zr_0 i50_31 kc_1 (zr_13_0 i50_32 (zr_7 i50_33 fl_6_0 (zr_1_4 i50_34 (zr_25 i50_35))))))))))))))))))))))))))))))))))))
set_option maxRecDepth 100000 in
theorem f51 {L : Nat} (a b c : Int32) (S : zS) (g0 : zx 40 a) : zf L 51 [.inr (.inr 6), .inl a, .inl b, .inl c] S (.inl none, (z_up (z_up S 44 a.toNatClampNeg b) 45 a.toNatClampNeg c), 0) := zf_of (en_51 _ _ _ _) (zr_2_0 i51_0 (zr_6r i51_1 fl_6_4 (zr_1_1 i51_2 (zr_1_2 i51_3 (zr_10 i51_4 ar_44 (g0) rfl (zr_2_0 i51_5 (zr_6r i51_6 fl_6_5 (zr_1_1 i51_7 (zr_1_3 i51_8 (zr_10 i51_9 ar_45 (g0) rfl (zr_27 i51_10)))))))))))
set_option maxRecDepth 100000 in
theorem f52 {L : Nat} (a b c : Int32) (S : zS) (g0 : zx 40 a) : zf L 52 [.inr (.inr 6), .inl a, .inl b, .inl c] S (.inl (some (.inl (zmin b (zmin (S 45 a.toNatClampNeg) c)))), (z_up S 44 a.toNatClampNeg (zmin b (zmin (S 45 a.toNatClampNeg) c))), 0) := zf_of (en_52 _ _ _ _) (zr_2_0 i52_0 (zr_6r i52_1 fl_6_4 (zr_1_1 i52_2 (zr_1_2 i52_3 (zr_2_0 i52_4 (zr_6r i52_5 fl_6_5 (zr_1_1 i52_6 (zr_8 i52_7 ar_45 (g0) rfl rfl (zr_1_3 i52_8 (zr_24 i52_9 rfl (zr_24 i52_10 rfl (zr_10 i52_11 ar_44 (g0) rfl (zr_2_0 i52_12 (zr_6r i52_13 fl_6_4 (zr_1_1 i52_14 (zr_8 i52_15 ar_44 (g0) rfl (zup_s _ _ _ _) (zr_25 i52_16)))))))))))))))))
def G60 (a : Int32) (S : zS) : zS := (if ((S 48 (S 43 a.toNatClampNeg).toNatClampNeg) = 1) then (z_up (z_up S 47 a.toNatClampNeg ((S 47 a.toNatClampNeg) + 1)) 46 a.toNatClampNeg (if (3 ≤ ((S 47 a.toNatClampNeg) + 1)) then (3 : Int32) else 1)) else (z_up (z_up (z_up S 47 a.toNatClampNeg ((S 47 a.toNatClampNeg) + 1)) 49 (S 43 a.toNatClampNeg).toNatClampNeg ((S 49 (S 43 a.toNatClampNeg).toNatClampNeg) - 1)) 46 a.toNatClampNeg 2))
set_option maxRecDepth 100000 in
theorem f60 {L : Nat} (a : Int32) (S : zS) (g0 : zx 40 a) (g1 : zx 3 (S 43 a.toNatClampNeg)) : zf L 60 [.inr (.inr 6), .inl a] S (.inl none, (G60 a S), 0) := zf_of (en_60 _ _) (zr_2_0 i60_0 (zr_6r i60_1 fl_6_3 (zr_1_1 i60_2 (zr_8 i60_3 ar_43 (g0) rfl rfl (zr_3_2 i60_4 (zr_2_0 i60_5 (zr_6r i60_6 fl_6_7 (zr_1_1 i60_7 (zr_15 i60_8 (zr_8 i60_9 ar_47 (g0) rfl rfl (zr_0 i60_10 kc_1 (zr_13_0 i60_11 (zr_10 i60_12 ar_47 (g0) rfl (zr_2_0 i60_13 (zr_6r i60_14 fl_6_8 (zr_1_2 i60_15 (zr_8 i60_16 ar_48 (g1) rfl (zupci rfl) (zr_0 i60_17 kc_1 (zt_trans (zt_cast (zr_19_0 i60_18 (fun h85 => zr_2_0 i60_33 (zr_6r i60_34 fl_6_6 (zr_1_1 i60_35 (zr_2_0 i60_36 (zr_6r i60_37 fl_6_7 (zr_1_1 i60_38 (zr_8 i60_39 ar_47 (g0) rfl (zup_s _ _ _ _) (zr_0 i60_40 kc_3 (zt_trans (zt_cast (zr_19_3 i60_41 (fun h87 => zr_0 i60_44 kc_3 (zt_rfl)) (fun h88 => zr_0 i60_42 kc_1 (zr_17 i60_43 (zt_rfl)))) (zm_c zz_s (zl_c (zl_t zz_e) zz_s) zz_s)) (zr_10 i60_45 ar_46 (g0) rfl (zt_rfl))))))))))) (fun h86 => zr_2_0 i60_19 (zr_6r i60_20 fl_6_9 (zr_1_2 i60_21 (zr_15 i60_22 (zr_8 i60_23 ar_49 (g1) rfl (zupci rfl) (zr_0 i60_24 kc_1 (zr_13_1 i60_25 (zr_10 i60_26 ar_49 (g1) rfl (zr_2_0 i60_27 (zr_6r i60_28 fl_6_6 (zr_1_1 i60_29 (zr_0 i60_30 kc_2 (zr_10 i60_31 ar_46 (g0) rfl (zr_17 i60_32 (zt_rfl)))))))))))))))) (zm_c zz_s zz_s zz_e)) (zr_27 i60_46))))))))))))))))))))
set_option maxRecDepth 100000 in
theorem f59 {L : Nat} (a b : Int32) (S : zS) (g0 : zx 40 a) (g1 : zx 3 (S 43 a.toNatClampNeg)) : zf L 59 [.inr (.inr 6), .inl a, .inl b] S (.inl none, (G60 a (z_up S 44 a.toNatClampNeg b)), 0) := zf_of (en_59 _ _ _) (zr_2_0 i59_0 (zr_6r i59_1 fl_6_4 (zr_1_1 i59_2 (zr_1_2 i59_3 (zr_10 i59_4 ar_44 (g0) rfl (zr_2_0 i59_5 (zr_1_1 i59_6 (zr_cn (zs_21_1 i59_7 na_60 ob_6 rfl) (f60 a (z_up S 44 a.toNatClampNeg b) (g0) (zxc (zupc rfl) (g1))) (zr_27 i59_8)))))))))
set_option maxRecDepth 100000 in
theorem f116 {L : Nat} (a : Int32) (S : zS) (g0 : zx 40 a) : zf L 116 [.inr (.inr 5), .inl a] S (.inl (some (.inl (zb ((S 40 a.toNatClampNeg) = 0)))), S, 0) := zf_of (en_116 _ _) (zr_2_0 i116_0 (zr_6r i116_1 fl_5_11 (zr_1_1 i116_2 (zr_9 i116_3 ar_40 (g0) rfl rfl (zt_trans (zt_cast (zr_18_1 i116_4 (fun h89 => zr_0 i116_5 kc_1 (zr_17 i116_6 (zt_rfl))) (fun h90 => zr_0 i116_7 kc_0 (zt_rfl))) (zm_c zz_s (zl_c (zl_t zz_10) zz_s) zz_s)) (zr_26 i116_8 (zb_01 _)))))))
set_option maxRecDepth 100000 in
theorem f61 {L : Nat} (a : Int32) (S : zS) (g0 : zx 8 a) : zf L 61 [.inr (.inr 4), .inl a] S (.inl (some (.inl (zb (¬ (5 ≤ (S 20 a.toNatClampNeg)))))), S, 0) := zf_of (en_61 _ _) (zr_2_0 i61_0 (zr_6r i61_1 fl_4_0 (zr_1_1 i61_2 (zr_8 i61_3 ar_20 (g0) rfl rfl (zr_0 i61_4 kc_5 (zt_trans (zt_cast (zr_19_3 i61_5 (fun h91 => zr_0 i61_8 kc_0 (zt_rfl)) (fun h92 => zr_0 i61_6 kc_1 (zr_17 i61_7 (zt_rfl)))) (zm_c zz_s (zl_c (zl_t zz_01) zz_s) zz_s)) (zr_26 i61_9 (zb_01 _))))))))
def G62 (a b c d e f : Int32) (S : zS) : zS := (z_up (z_up (z_up (z_up (z_up (z_up S 21 (((a * 5) + (S 20 a.toNatClampNeg)) * 3).toNatClampNeg b) 21 ((((a * 5) + (S 20 a.toNatClampNeg)) * 3) + 1).toNatClampNeg c) 21 ((((a * 5) + (S 20 a.toNatClampNeg)) * 3) + 2).toNatClampNeg d) 22 ((a * 5) + (S 20 a.toNatClampNeg)).toNatClampNeg e) 23 ((a * 5) + (S 20 a.toNatClampNeg)).toNatClampNeg f) 20 a.toNatClampNeg ((S 20 a.toNatClampNeg) + 1))
set_option maxRecDepth 100000 in
theorem f62 {L : Nat} (a b c d e f : Int32) (S : zS) (g0 : zx 8 a) (g1 : zx 120 (((a * 5) + (S 20 a.toNatClampNeg)) * 3)) (g2 : zx 120 ((((a * 5) + (S 20 a.toNatClampNeg)) * 3) + 1)) (g3 : zx 120 ((((a * 5) + (S 20 a.toNatClampNeg)) * 3) + 2)) (g4 : zx 40 ((a * 5) + (S 20 a.toNatClampNeg))) : zf L 62 [.inr (.inr 4), .inl a, .inl b, .inl c, .inl d, .inl e, .inl f] S (.inl (some (.inl ((S 20 a.toNatClampNeg) + 1))), (G62 a b c d e f S), 0) := zf_of (en_62 _ _ _ _ _ _ _) (zr_1_1 i62_0 (zr_0 i62_1 kc_5 (zr_13_2 i62_2 (zr_2_0 i62_3 (zr_6r i62_4 fl_4_0 (zr_1_1 i62_5 (zr_8 i62_6 ar_20 (g0) rfl rfl (zr_13_0 i62_7 (zr_3_7 i62_8 (zr_2_0 i62_9 (zr_6r i62_10 fl_4_1 (zr_1_7 i62_11 (zr_0 i62_12 kc_3 (zr_13_2 i62_13 (zr_1_2 i62_14 (zr_10 i62_15 ar_21 (g1) rfl (zr_2_0 i62_16 (zr_6r i62_17 fl_4_1 (zr_1_7 i62_18 (zr_0 i62_19 kc_3 (zr_13_2 i62_20 (zr_0 i62_21 kc_1 (zr_13_0 i62_22 (zr_1_3 i62_23 (zr_10 i62_24 ar_21 (g2) rfl (zr_2_0 i62_25 (zr_6r i62_26 fl_4_1 (zr_1_7 i62_27 (zr_0 i62_28 kc_3 (zr_13_2 i62_29 (zr_0 i62_30 kc_2 (zr_13_0 i62_31 (zr_1_4 i62_32 (zr_10 i62_33 ar_21 (g3) rfl (zr_2_0 i62_34 (zr_6r i62_35 fl_4_2 (zr_1_7 i62_36 (zr_1_5 i62_37 (zr_10 i62_38 ar_22 (g4) rfl (zr_2_0 i62_39 (zr_6r i62_40 fl_4_3 (zr_1_7 i62_41 (zr_1_6 i62_42 (zr_10 i62_43 ar_23 (g4) rfl (zr_2_0 i62_44 (zr_6r i62_45 fl_4_0 (zr_1_1 i62_46 (zr_15 i62_47 (zr_8 i62_48 ar_20 (g0) rfl ((zupci rfl).trans ((zupci rfl).trans ((zupci rfl).trans ((zupci rfl).trans (zupci rfl))))) (zr_0 i62_49 kc_1 (zr_13_0 i62_50 (zr_10 i62_51 ar_20 (g0) rfl (zr_2_0 i62_52 (zr_6r i62_53 fl_4_0 (zr_1_1 i62_54 (zr_8 i62_55 ar_20 (g0) rfl (zup_s _ _ _ _) (zr_25 i62_56)))))))))))))))))))))))))))))))))))))))))))))))))))))))))
set_option maxRecDepth 100000 in
theorem f65 {L : Nat} (a b : Int32) (S : zS) (g0 : (((zshr b (a / 5)) &&& 1) = 1) → zx 8 (a / 5)) : zf L 65 [.inr (.inr 4), .inl a, .inl b] S (.inl (some (.inl (zb ((((zshr b (a / 5)) &&& 1) = 1) ∧ (¬ ((S 20 (a / 5).toNatClampNeg) ≤ (zrem a 5))))))), S, 0) := zf_of (en_65 _ _ _) (zr_1_1 i65_0 (zr_0 i65_1 kc_5 (zr_13_3 i65_2 nz_5 (zr_3_3 i65_3 (zr_1_2 i65_4 (zr_1_3 i65_5 (zr_13_9 i65_6 (zr_0 i65_7 kc_1 (zr_13_5 i65_8 (zr_0 i65_9 kc_1 (zt_trans (zt_cast (zr_19_1 i65_10 (fun h93 => zr_1_1 i65_11 (zr_0 i65_12 kc_5 (zr_13_4 i65_13 nz_5 (zr_2_0 i65_14 (zr_6r i65_15 fl_4_0 (zr_1_3 i65_16 (zr_8 i65_17 ar_20 (g0 h93) rfl rfl (zt_cast (zr_19_3 i65_18 (fun h95 => zr_0 i65_21 kc_0 (zt_rfl)) (fun h96 => zr_0 i65_19 kc_1 (zr_17 i65_20 (zt_rfl)))) (zm_c zz_s (zl_c (zl_t zz_01) zz_s) zz_s))))))))) (fun h94 => zr_0 i65_21 kc_0 (zt_rfl))) (zm_c zz_s (zl_c (zl_t zz_b0) zz_s) zz_s)) (zr_26 i65_22 (zb_01 _)))))))))))))
set_option maxRecDepth 100000 in
theorem f68 {L : Nat} (a b : Int32) (S : zS) : zf L 68 [.inl a, .inl b] S (.inl (some (.inl (if (b = 0) then ((a / 36) : Int32) else (if (b = 1) then ((zrem (a / 6) 6) : Int32) else (zrem a 6))))), S, 0) := zf_of (en_68 _ _) (zr_1_1 i68_0 (zt_cast (zr_18_1 i68_1 (fun h97 => zr_1_0 i68_2 (zr_34 i68_3 rfl (zr_25 i68_4))) (fun h98 => zr_1_1 i68_5 (zr_0 i68_6 kc_1 (zt_trans (zt_cast (zr_19_1 i68_7 (fun h99 => zr_1_0 i68_8 (zr_0 i68_9 kc_6 (zr_13_3 i68_10 nz_6 (zr_0 i68_11 kc_6 (zr_13_4 i68_12 nz_6 (zr_17 i68_13 (zt_rfl))))))) (fun h100 => zr_1_0 i68_14 (zr_0 i68_15 kc_6 (zr_13_4 i68_16 nz_6 (zt_rfl))))) (zm_c zz_s (zl_c (zl_t zz_e) zz_s) zz_s)) (zr_25 i68_17))))) (zm_r zz_e zz_s)))
def F67 (a b c : Int32) (S : zS) : Int32 := (if (a = 8) then (3 : Int32) else (if (a = 6) then (2 : Int32) else (if (a = 7) then ((if (b = (-1)) then (4 : Int32) else (if ((zrem b 6) = c) then (1 : Int32) else 4)) : Int32) else (if (a = c) then (0 : Int32) else 4))))
set_option maxRecDepth 100000 in
theorem f67 {L : Nat} (a b c : Int32) (S : zS) : zf L 67 [.inl a, .inl b, .inl c] S (.inl (some (.inl (F67 a b c S))), S, 0) := zf_of (en_67 _ _ _) (zr_1_0 i67_0 (zr_0 i67_1 kc_8 (zt_cast (zr_19_1 i67_2 (fun h101 => zr_0 i67_3 kc_3 (zr_25 i67_4)) (fun h102 => zr_1_0 i67_5 (zr_0 i67_6 kc_6 (zt_cast (zr_19_1 i67_7 (fun h103 => zr_0 i67_8 kc_2 (zr_25 i67_9)) (fun h104 => zr_1_0 i67_10 (zr_0 i67_11 kc_7 (zt_cast (zr_19_1 i67_12 (fun h105 => zr_1_1 i67_13 (zr_0 i67_14 kc_m1 (zt_trans (zt_cast (zr_19_0 i67_15 (fun h107 => zr_0 i67_23 kc_4 (zt_rfl)) (fun h108 => zr_1_1 i67_16 (zr_0 i67_17 kc_6 (zr_13_4 i67_18 nz_6 (zr_1_2 i67_19 (zt_cast (zr_19_1 i67_20 (fun h109 => zr_0 i67_21 kc_1 (zr_17 i67_22 (zt_rfl))) (fun h110 => zr_0 i67_23 kc_4 (zt_rfl))) (zm_c zz_s (zl_c (zl_t zz_e) zz_s) zz_s))))))) (zm_c zz_s (zl_c (zl_t zz_e) zz_s) zz_s)) (zr_25 i67_24)))) (fun h106 => zr_1_0 i67_25 (zr_1_2 i67_26 (zt_trans (zt_cast (zr_19_1 i67_27 (fun h111 => zr_0 i67_28 kc_0 (zr_17 i67_29 (zt_rfl))) (fun h112 => zr_0 i67_30 kc_4 (zt_rfl))) (zm_c zz_s (zl_c (zl_t zz_e) zz_s) zz_s)) (zr_25 i67_31))))) (zm_r zz_e zz_s))))) (zm_r zz_e zz_s))))) (zm_r zz_e zz_s))))
set_option maxRecDepth 100000 in
theorem f69 {L : Nat} (a : Int32) (S : zS) : zf L 69 [.inl a] S (.inl (some (.inl (if (a = 0) then (3 : Int32) else (if (a = 1) then (8 : Int32) else 4)))), S, 0) := zf_of (en_69 _) (zr_1_0 i69_0 (zt_cast (zr_18_1 i69_1 (fun h113 => zr_0 i69_2 kc_3 (zr_25 i69_3)) (fun h114 => zr_1_0 i69_4 (zr_0 i69_5 kc_1 (zt_trans (zt_cast (zr_19_1 i69_6 (fun h115 => zr_0 i69_7 kc_8 (zr_17 i69_8 (zt_rfl))) (fun h116 => zr_0 i69_9 kc_4 (zt_rfl))) (zm_c zz_s (zl_c (zl_t zz_e) zz_s) zz_s)) (zr_25 i69_10))))) (zm_r zz_e zz_s)))
set_option maxRecDepth 100000 in
theorem f80_24 {L : Nat} (a b : Int32) (S : zS) (g0 : zx 18 a) : zf L 80 [.inr (.inr 24), .inl a, .inl b] S (.inl (some (.inl (S 24 a.toNatClampNeg))), (z_up S 24 a.toNatClampNeg b), 0) := zf_of (en_80 _ _ _) (zr_2_0 i80_0 (zr_1_1 i80_1 (zr_8 i80_2 ar_24 (g0) rfl rfl (zr_3_3 i80_3 (zr_2_0 i80_4 (zr_1_1 i80_5 (zr_1_2 i80_6 (zr_10 i80_7 ar_24 (g0) rfl (zr_1_3 i80_8 (zr_25 i80_9))))))))))
set_option maxRecDepth 100000 in
theorem f80_25 {L : Nat} (a b : Int32) (S : zS) (g0 : zx 3 a) : zf L 80 [.inr (.inr 25), .inl a, .inl b] S (.inl (some (.inl (S 25 a.toNatClampNeg))), (z_up S 25 a.toNatClampNeg b), 0) := zf_of (en_80 _ _ _) (zr_2_0 i80_0 (zr_1_1 i80_1 (zr_8 i80_2 ar_25 (g0) rfl rfl (zr_3_3 i80_3 (zr_2_0 i80_4 (zr_1_1 i80_5 (zr_1_2 i80_6 (zr_10 i80_7 ar_25 (g0) rfl (zr_1_3 i80_8 (zr_25 i80_9))))))))))
set_option maxRecDepth 100000 in
theorem f80_26 {L : Nat} (a b : Int32) (S : zS) (g0 : zx 8 a) : zf L 80 [.inr (.inr 26), .inl a, .inl b] S (.inl (some (.inl (S 26 a.toNatClampNeg))), (z_up S 26 a.toNatClampNeg b), 0) := zf_of (en_80 _ _ _) (zr_2_0 i80_0 (zr_1_1 i80_1 (zr_8 i80_2 ar_26 (g0) rfl rfl (zr_3_3 i80_3 (zr_2_0 i80_4 (zr_1_1 i80_5 (zr_1_2 i80_6 (zr_10 i80_7 ar_26 (g0) rfl (zr_1_3 i80_8 (zr_25 i80_9))))))))))
set_option maxRecDepth 100000 in
theorem f80_27 {L : Nat} (a b : Int32) (S : zS) (g0 : zx 4 a) : zf L 80 [.inr (.inr 27), .inl a, .inl b] S (.inl (some (.inl (S 27 a.toNatClampNeg))), (z_up S 27 a.toNatClampNeg b), 0) := zf_of (en_80 _ _ _) (zr_2_0 i80_0 (zr_1_1 i80_1 (zr_8 i80_2 ar_27 (g0) rfl rfl (zr_3_3 i80_3 (zr_2_0 i80_4 (zr_1_1 i80_5 (zr_1_2 i80_6 (zr_10 i80_7 ar_27 (g0) rfl (zr_1_3 i80_8 (zr_25 i80_9))))))))))
set_option maxRecDepth 100000 in
theorem f70 {L : Nat} (a b c : Int32) (S : zS) (g0 : (a = 0) → zx 3 b) (g1 : (¬ (a = 0)) → (a = 1) → zx 8 b) (g2 : (¬ (a = 0)) → (¬ (a = 1)) → zx 4 b) : zf L 70 [.inr (.inr 4), .inl a, .inl b, .inl c] S (.inl (some (.inl (if (a = 0) then ((S 25 b.toNatClampNeg) : Int32) else (if (a = 1) then ((S 26 b.toNatClampNeg) : Int32) else (S 27 b.toNatClampNeg))))), (if (a = 0) then (z_up S 25 b.toNatClampNeg c) else (if (a = 1) then (z_up S 26 b.toNatClampNeg c) else (z_up S 27 b.toNatClampNeg c))), 0) := zf_of (en_70 _ _ _ _) (zr_1_1 i70_0 (zt_cast (zr_18_1 i70_1 (fun h117 => zr_2_0 i70_2 (zr_6r i70_3 fl_4_5 (zr_1_2 i70_4 (zr_1_3 i70_5 (zr_cv (zs_22_3 i70_6 na_80 rfl) (f80_25 b c S (g0 h117)) (zr_25 i70_7)))))) (fun h118 => zr_1_1 i70_8 (zr_0 i70_9 kc_1 (zt_cast (zr_19_1 i70_10 (fun h119 => zr_2_0 i70_11 (zr_6r i70_12 fl_4_6 (zr_17 i70_13 (zr_1_2 i70_16 (zr_1_3 i70_17 (zr_cv (zs_22_3 i70_18 na_80 rfl) (f80_26 b c S (g1 h118 h119)) (zr_25 i70_19))))))) (fun h120 => zr_2_0 i70_14 (zr_6r i70_15 fl_4_7 (zr_1_2 i70_16 (zr_1_3 i70_17 (zr_cv (zs_22_3 i70_18 na_80 rfl) (f80_27 b c S (g2 h118 h120)) (zr_25 i70_19))))))) (zm_r zz_e zz_e))))) (zm_r zz_e zz_e)))
set_option maxRecDepth 100000 in
theorem f71 {L : Nat} (a b c : Int32) (S : zS) (g0 : zx 18 ((a * 6) + b)) : zf L 71 [.inr (.inr 4), .inl a, .inl b, .inl c] S (.inl (some (.inl (S 24 ((a * 6) + b).toNatClampNeg))), (z_up S 24 ((a * 6) + b).toNatClampNeg c), 0) := zf_of (en_71 _ _ _ _) (zr_2_0 i71_0 (zr_6r i71_1 fl_4_4 (zr_1_1 i71_2 (zr_0 i71_3 kc_6 (zr_13_2 i71_4 (zr_1_2 i71_5 (zr_13_0 i71_6 (zr_1_3 i71_7 (zr_cv (zs_22_3 i71_8 na_80 rfl) (f80_24 ((a * 6) + b) c S (g0)) (zr_25 i71_9))))))))))
set_option maxRecDepth 100000 in
theorem f72 {L : Nat} (a b : Int32) (S : zS) (g0 : zx 18 ((a * 6) + b)) : zf L 72 [.inr (.inr 4), .inl a, .inl b] S (.inl (some (.inl (S 24 ((a * 6) + b).toNatClampNeg))), S, 0) := zf_of (en_72 _ _ _) (zr_2_0 i72_0 (zr_6r i72_1 fl_4_4 (zr_1_1 i72_2 (zr_0 i72_3 kc_6 (zr_13_2 i72_4 (zr_1_2 i72_5 (zr_13_0 i72_6 (zr_8 i72_7 ar_24 (g0) rfl rfl (zr_25 i72_8)))))))))
set_option maxRecDepth 100000 in
theorem f73 {L : Nat} (a : Int32) (S : zS) (g0 : zx 3 a) : zf L 73 [.inr (.inr 4), .inl a] S (.inl (some (.inl (S 25 a.toNatClampNeg))), S, 0) := zf_of (en_73 _ _) (zr_2_0 i73_0 (zr_6r i73_1 fl_4_5 (zr_1_1 i73_2 (zr_8 i73_3 ar_25 (g0) rfl rfl (zr_25 i73_4)))))
set_option maxRecDepth 100000 in
theorem f81_28 {L : Nat} (a b c : Int32) (S : zS) (g0 : zx 4 a) : zf L 81 [.inr (.inr 28), .inl a, .inl b, .inl c] S (.inl (some (.inl (zb (((zshr (S 28 a.toNatClampNeg) b) &&& 1) = 1)))), (z_up S 28 a.toNatClampNeg (if (c = 0) then (((S 28 a.toNatClampNeg) &&& ((zshl 1 b) ^^^ (-1))) : Int32) else ((S 28 a.toNatClampNeg) ||| (zshl 1 b)))), 0) := zf_of (en_81 _ _ _ _) (zr_2_0 i81_0 (zr_1_1 i81_1 (zr_8 i81_2 ar_28 (g0) rfl rfl (zr_1_2 i81_3 (zr_13_9 i81_4 (zr_0 i81_5 kc_1 (zr_13_5 i81_6 (zr_0 i81_7 kc_1 (zt_trans (zt_cast (zr_19_1 i81_8 (fun h121 => zr_0 i81_9 kc_1 (zr_17 i81_10 (zt_rfl))) (fun h122 => zr_0 i81_11 kc_0 (zt_rfl))) (zm_c zz_s (zl_c (zl_t zz_10) zz_s) zz_s)) (zr_3_4 i81_12 (zr_2_0 i81_13 (zr_1_1 i81_14 (zr_1_3 i81_15 (zt_trans (zt_cast (zr_18_0 i81_16 (fun h123 => zr_2_0 i81_25 (zr_1_1 i81_26 (zr_8 i81_27 ar_28 (g0) rfl rfl (zr_0 i81_28 kc_1 (zr_1_2 i81_29 (zr_13_8 i81_30 (zr_0 i81_31 kc_m1 (zr_13_7 i81_32 (zr_13_5 i81_33 (zt_rfl)))))))))) (fun h124 => zr_2_0 i81_17 (zr_1_1 i81_18 (zr_8 i81_19 ar_28 (g0) rfl rfl (zr_0 i81_20 kc_1 (zr_1_2 i81_21 (zr_13_8 i81_22 (zr_13_6 i81_23 (zr_17 i81_24 (zt_rfl)))))))))) (zm_c zz_s (zl_c (zl_t zz_e) zz_s) zz_s)) (zr_10 i81_34 ar_28 (g0) rfl (zr_1_4 i81_35 (zr_26 i81_36 (zb_01 _))))))))))))))))))
set_option maxRecDepth 100000 in
theorem f81_29 {L : Nat} (a b c : Int32) (S : zS) (g0 : zx 4 a) : zf L 81 [.inr (.inr 29), .inl a, .inl b, .inl c] S (.inl (some (.inl (zb (((zshr (S 29 a.toNatClampNeg) b) &&& 1) = 1)))), (z_up S 29 a.toNatClampNeg (if (c = 0) then (((S 29 a.toNatClampNeg) &&& ((zshl 1 b) ^^^ (-1))) : Int32) else ((S 29 a.toNatClampNeg) ||| (zshl 1 b)))), 0) := zf_of (en_81 _ _ _ _) (zr_2_0 i81_0 (zr_1_1 i81_1 (zr_8 i81_2 ar_29 (g0) rfl rfl (zr_1_2 i81_3 (zr_13_9 i81_4 (zr_0 i81_5 kc_1 (zr_13_5 i81_6 (zr_0 i81_7 kc_1 (zt_trans (zt_cast (zr_19_1 i81_8 (fun h125 => zr_0 i81_9 kc_1 (zr_17 i81_10 (zt_rfl))) (fun h126 => zr_0 i81_11 kc_0 (zt_rfl))) (zm_c zz_s (zl_c (zl_t zz_10) zz_s) zz_s)) (zr_3_4 i81_12 (zr_2_0 i81_13 (zr_1_1 i81_14 (zr_1_3 i81_15 (zt_trans (zt_cast (zr_18_0 i81_16 (fun h127 => zr_2_0 i81_25 (zr_1_1 i81_26 (zr_8 i81_27 ar_29 (g0) rfl rfl (zr_0 i81_28 kc_1 (zr_1_2 i81_29 (zr_13_8 i81_30 (zr_0 i81_31 kc_m1 (zr_13_7 i81_32 (zr_13_5 i81_33 (zt_rfl)))))))))) (fun h128 => zr_2_0 i81_17 (zr_1_1 i81_18 (zr_8 i81_19 ar_29 (g0) rfl rfl (zr_0 i81_20 kc_1 (zr_1_2 i81_21 (zr_13_8 i81_22 (zr_13_6 i81_23 (zr_17 i81_24 (zt_rfl)))))))))) (zm_c zz_s (zl_c (zl_t zz_e) zz_s) zz_s)) (zr_10 i81_34 ar_29 (g0) rfl (zr_1_4 i81_35 (zr_26 i81_36 (zb_01 _))))))))))))))))))
set_option maxRecDepth 100000 in
theorem f76 {L : Nat} (a b c : Int32) (S : zS) (g0 : zx 4 a) : zf L 76 [.inr (.inr 4), .inl a, .inl b, .inl c] S (.inl (some (.inl (zb (((zshr (S 28 a.toNatClampNeg) b) &&& 1) = 1)))), (z_up S 28 a.toNatClampNeg (if (c = 0) then (((S 28 a.toNatClampNeg) &&& ((zshl 1 b) ^^^ (-1))) : Int32) else ((S 28 a.toNatClampNeg) ||| (zshl 1 b)))), 0) := zf_of (en_76 _ _ _ _) (zr_2_0 i76_0 (zr_6r i76_1 fl_4_8 (zr_1_1 i76_2 (zr_1_2 i76_3 (zr_1_3 i76_4 (zr_cv (zs_22_4 i76_5 na_81 rfl) (f81_28 a b c S (g0)) (zr_26 i76_6 (zb_01 _))))))))
set_option maxRecDepth 100000 in
theorem f77 {L : Nat} (a b c : Int32) (S : zS) (g0 : zx 4 a) : zf L 77 [.inr (.inr 4), .inl a, .inl b, .inl c] S (.inl (some (.inl (zb (((zshr (S 29 a.toNatClampNeg) b) &&& 1) = 1)))), (z_up S 29 a.toNatClampNeg (if (c = 0) then (((S 29 a.toNatClampNeg) &&& ((zshl 1 b) ^^^ (-1))) : Int32) else ((S 29 a.toNatClampNeg) ||| (zshl 1 b)))), 0) := zf_of (en_77 _ _ _ _) (zr_2_0 i77_0 (zr_6r i77_1 fl_4_9 (zr_1_1 i77_2 (zr_1_2 i77_3 (zr_1_3 i77_4 (zr_cv (zs_22_4 i77_5 na_81 rfl) (f81_29 a b c S (g0)) (zr_26 i77_6 (zb_01 _))))))))
set_option maxRecDepth 100000 in
theorem f82 {L : Nat} (S : zS) : zf L 82 [.inr (.inr 1)] S (.inl (some (.inl (zb (¬ ((S 1 1) ≤ 0))))), S, 0) := zf_of (en_82 _) (zr_2_0 i82_0 (zr_6 i82_1 fl_1_1 rfl (zt_trans (zt_cast (zr_18_5 i82_2 (fun h129 => zr_0 i82_5 kc_0 (zt_rfl)) (fun h130 => zr_0 i82_3 kc_1 (zr_17 i82_4 (zt_rfl)))) (zm_c zz_s (zl_c (zl_t zz_01) zz_s) zz_s)) (zr_26 i82_6 (zb_01 _)))))
set_option maxRecDepth 100000 in
theorem f83 {L : Nat} (a : Int32) (S : zS) : zf L 83 [.inr (.inr 1), .inl a] S (.inl (some (.inl (zb ((¬ (a < 1)) ∧ (¬ ((S 1 1) < a)))))), S, 0) := zf_of (en_83 _ _) (zr_1_1 i83_0 (zr_0 i83_1 kc_1 (zt_trans (zt_cast (zr_19_2 i83_2 (fun h131 => zr_0 i83_9 kc_0 (zt_rfl)) (fun h132 => zr_1_1 i83_3 (zr_2_0 i83_4 (zr_6 i83_5 fl_1_1 rfl (zt_cast (zr_19_4 i83_6 (fun h133 => zr_0 i83_9 kc_0 (zt_rfl)) (fun h134 => zr_0 i83_7 kc_1 (zr_17 i83_8 (zt_rfl)))) (zm_c zz_s (zl_c (zl_t zz_01) zz_s) zz_s)))))) (zm_c zz_s (zl_c (zl_t zz_0b) zz_s) zz_s)) (zr_26 i83_10 (zb_01 _)))))
set_option maxRecDepth 100000 in
theorem f84 {L : Nat} (a : Int32) (S : zS) (g0 : zx 7 a) : zf L 84 [.inr (.inr 1), .inl a] S (.inl (some (.inl (S 14 a.toNatClampNeg))), S, 0) := zf_of (en_84 _ _) (zr_2_0 i84_0 (zr_6r i84_1 fl_1_3 (zr_1_1 i84_2 (zr_8 i84_3 ar_14 (g0) rfl rfl (zr_25 i84_4)))))
set_option maxRecDepth 100000 in
theorem f85 {L : Nat} (S : zS) (g0 : zo (S 1 6)) : zf L 85 [.inr (.inr 1)] S (.inl (some (.inl (S 1 6))), S, 0) := zf_of (en_85 _) (zr_2_0 i85_0 (zr_6 i85_1 fl_1_6 rfl (zr_26 i85_2 (g0))))
set_option maxRecDepth 100000 in
theorem f92 {L : Nat} (a : Int32) (S : zS) : zf L 92 [.inl a] S (.inl (some (.inl (zrem ((1103 * a) + 12345) 65536))), S, 0) := zf_of (en_92 _) (zr_0 i92_0 kc_1103 (zr_1_0 i92_1 (zr_13_2 i92_2 (zr_0 i92_3 kc_12345 (zr_13_0 i92_4 (zr_0 i92_5 kc_65536 (zr_13_4 i92_6 nz_65536 (zr_25 i92_7))))))))
set_option maxRecDepth 100000 in
theorem f94 {L : Nat} (a b : Int32) (S : zS) (g0 : zx 7 a) : zf L 94 [.inr (.inr 1), .inl a, .inl b] S (.inl (some (.inl ((if ((S 15 a.toNatClampNeg) = (-1)) then (z_up S 1 5 ((S 1 5) + 1)) else S) 1 5))), (z_up (if ((S 15 a.toNatClampNeg) = (-1)) then (z_up S 1 5 ((S 1 5) + 1)) else S) 15 a.toNatClampNeg b), 0) := zf_of (en_94 _ _ _) (zr_2_0 i94_0 (zr_6r i94_1 fl_1_4 (zr_1_1 i94_2 (zr_8 i94_3 ar_15 (g0) rfl rfl (zr_0 i94_4 kc_m1 (zt_trans (zt_cast (zr_19_1 i94_5 (fun h135 => zr_2_0 i94_6 (zr_14r i94_7 (zr_6 i94_8 fl_1_5 rfl (zr_0 i94_9 kc_1 (zr_13_0 i94_10 (zr_7 i94_11 fl_1_5 (zt_rfl))))))) (fun h136 => zt_rfl)) (zm_c zz_s zz_s zz_e)) (zr_2_0 i94_12 (zr_6r i94_13 fl_1_4 (zr_1_1 i94_14 (zr_1_2 i94_15 (zr_10 i94_16 ar_15 (g0) rfl (zr_2_0 i94_17 (zr_6 i94_18 fl_1_5 (zupci rfl) (zr_25 i94_19))))))))))))))
set_option maxRecDepth 100000 in
theorem f99 {L : Nat} (a : Int32) (S : zS) (g0 : zx 3 a) : zf L 99 [.inr (.inr 12), .inl a] S (.inl (some (.inl (S 80 a.toNatClampNeg))), S, 0) := zf_of (en_99 _ _) (zr_2_0 i99_0 (zr_6r i99_1 fl_12_3 (zr_1_1 i99_2 (zr_8 i99_3 ar_80 (g0) rfl rfl (zr_25 i99_4)))))
set_option maxRecDepth 100000 in
theorem f100 {L : Nat} (a b c d : Int32) (S : zS) (g0 : zx 3 a) (g1 : zo b) (g2 : zo c) (g3 : zo (S 77 a.toNatClampNeg)) : zf L 100 [.inr (.inr 12), .inl a, .inl b, .inl c, .inl d] S (.inl (some (.inl (S 77 a.toNatClampNeg))), (z_up (z_up (z_up S 77 a.toNatClampNeg b) 78 a.toNatClampNeg c) 79 a.toNatClampNeg d), 0) := zf_of (en_100 _ _ _ _ _) (zr_2_0 i100_0 (zr_6r i100_1 fl_12_0 (zr_1_1 i100_2 (zr_9 i100_3 ar_77 (g0) rfl rfl (zr_3_5 i100_4 (zr_2_0 i100_5 (zr_6r i100_6 fl_12_0 (zr_1_1 i100_7 (zr_1_2 i100_8 (zr_11 i100_9 ar_77 (g0) (g1) rfl (zr_2_0 i100_10 (zr_6r i100_11 fl_12_1 (zr_1_1 i100_12 (zr_1_3 i100_13 (zr_11 i100_14 ar_78 (g0) (g2) rfl (zr_2_0 i100_15 (zr_6r i100_16 fl_12_2 (zr_1_1 i100_17 (zr_1_4 i100_18 (zr_10 i100_19 ar_79 (g0) rfl (zr_1_5 i100_20 (zr_26 i100_21 (g3)))))))))))))))))))))))
set_option maxRecDepth 100000 in
theorem f103 {L : Nat} (a : Int32) (S : zS) : zf L 103 [.inl a] S (.inl (some (.inl (if (a.toInt = 2) then (1 : Int32) else (if (a.toInt = 4) then (2 : Int32) else (if (a.toInt = 8) then (3 : Int32) else 0))))), S, 0) := zf_of (en_103 _) (zr_1_0 i103_0 (zt_cast (zr_20_3 i103_1 sw_0 (zr_0 i103_2 kc_1 (zr_25 i103_3)) (zr_0 i103_4 kc_2 (zr_25 i103_5)) (zr_0 i103_6 kc_3 (zr_25 i103_7)) (zr_0 i103_8 kc_0 (zr_25 i103_9))) (ze_3 (zm_r zz_e zz_s) (zm_r zz_e zz_s) (zm_r zz_e zz_s))))
set_option maxRecDepth 100000 in
theorem f104 {L : Nat} (a : Int32) (S : zS) (g0 : zx 216 a) : zf L 104 [.inr (.inr 7), .inl a] S (.inl (some (.inl (S 51 a.toNatClampNeg))), S, 0) := zf_of (en_104 _ _) (zr_2_0 i104_0 (zr_6r i104_1 fl_7_0 (zr_1_1 i104_2 (zr_8 i104_3 ar_51 (g0) rfl rfl (zr_25 i104_4)))))
set_option maxRecDepth 100000 in
theorem f104_9 {L : Nat} (a : Int32) (S : zS) (g0 : zx 216 a) : zf L 104 [.inr (.inr 9), .inl a] S (.inl (some (.inl (S 59 a.toNatClampNeg))), S, 0) := zf_of (en_104 _ _) (zr_2_0 i104_0 (zr_6r i104_1 fl_9_0 (zr_1_1 i104_2 (zr_8 i104_3 ar_59 (g0) rfl rfl (zr_25 i104_4)))))
set_option maxRecDepth 100000 in
theorem f105 {L : Nat} (a : Int32) (S : zS) (g0 : zx 864 a) : zf L 105 [.inr (.inr 7), .inl a] S (.inl (some (.inl (S 54 a.toNatClampNeg))), S, 0) := zf_of (en_105 _ _) (zr_2_0 i105_0 (zr_6r i105_1 fl_7_3 (zr_1_1 i105_2 (zr_8 i105_3 ar_54 (g0) rfl rfl (zr_25 i105_4)))))
set_option maxRecDepth 100000 in
theorem f105_9 {L : Nat} (a : Int32) (S : zS) (g0 : zx 864 a) : zf L 105 [.inr (.inr 9), .inl a] S (.inl (some (.inl (S 62 a.toNatClampNeg))), S, 0) := zf_of (en_105 _ _) (zr_2_0 i105_0 (zr_6r i105_1 fl_9_3 (zr_1_1 i105_2 (zr_8 i105_3 ar_62 (g0) rfl rfl (zr_25 i105_4)))))
set_option maxRecDepth 100000 in
theorem f106 {L : Nat} (a : Int32) (S : zS) (g0 : zx 864 a) : zf L 106 [.inr (.inr 7), .inl a] S (.inl (some (.inl (S 53 a.toNatClampNeg))), S, 0) := zf_of (en_106 _ _) (zr_2_0 i106_0 (zr_6r i106_1 fl_7_2 (zr_1_1 i106_2 (zr_8 i106_3 ar_53 (g0) rfl rfl (zr_25 i106_4)))))
set_option maxRecDepth 100000 in
theorem f106_9 {L : Nat} (a : Int32) (S : zS) (g0 : zx 864 a) : zf L 106 [.inr (.inr 9), .inl a] S (.inl (some (.inl (S 61 a.toNatClampNeg))), S, 0) := zf_of (en_106 _ _) (zr_2_0 i106_0 (zr_6r i106_1 fl_9_2 (zr_1_1 i106_2 (zr_8 i106_3 ar_61 (g0) rfl rfl (zr_25 i106_4)))))
def F110 (a b c : Int32) (S : zS) : Int32 := (if ((F107 a b S) = (-1)) then ((-7) : Int32) else (if ((S 54 (F107 a b S).toNatClampNeg) = 0) then ((if (c ≤ (S 53 (F107 a b S).toNatClampNeg)) then ((S 52 (F107 a b S).toNatClampNeg) : Int32) else (-9)) : Int32) else (-7)))
set_option maxRecDepth 100000 in
theorem f110 {L : Nat} (a b c : Int32) (S : zS) (g0 : zx 216 a) (g1 : (¬ ((F107 a b S) = (-1))) → zx 864 (F107 a b S)) : zf L 110 [.inr (.inr 7), .inl a, .inl b, .inl c] S (.inl (some (.inl (F110 a b c S))), S, 0) := zf_of (en_110 _ _ _ _) (zr_2_0 i110_0 (zr_1_1 i110_1 (zr_1_2 i110_2 (zr_cv (zs_21_2 i110_3 na_107 ob_7 rfl) (f107 a b S (g0)) (zr_3_4 i110_4 (zr_1_4 i110_5 (zr_0 i110_6 kc_m1 (zt_cast (zr_19_0 i110_7 (fun h140 => zr_0 i110_13 kc_m7 (zr_25 i110_14)) (fun h141 => zr_2_0 i110_8 (zr_6r i110_9 fl_7_3 (zr_1_4 i110_10 (zr_8 i110_11 ar_54 (g1 h141) rfl rfl (zt_cast (zr_18_0 i110_12 (fun h142 => zr_2_0 i110_15 (zr_6r i110_16 fl_7_2 (zr_1_4 i110_17 (zr_8 i110_18 ar_53 (g1 h141) rfl rfl (zr_1_3 i110_19 (zt_trans (zt_cast (zr_19_3 i110_20 (fun h144 => zr_2_0 i110_23 (zr_6r i110_24 fl_7_1 (zr_1_4 i110_25 (zr_8 i110_26 ar_52 (g1 h141) rfl rfl (zt_rfl))))) (fun h145 => zr_0 i110_21 kc_m9 (zr_17 i110_22 (zt_rfl)))) (zm_c zz_s (zl_c (zl_t zz_e) zz_s) zz_s)) (zr_25 i110_27))))))) (fun h143 => zr_0 i110_13 kc_m7 (zr_25 i110_14))) (zm_r zz_e zz_s))))))) (zm_r zz_e zz_s)))))))))
def F110_9 (a b c : Int32) (S : zS) : Int32 := (if ((F107_9 a b S) = (-1)) then ((-7) : Int32) else (if ((S 62 (F107_9 a b S).toNatClampNeg) = 0) then ((if (c ≤ (S 61 (F107_9 a b S).toNatClampNeg)) then ((S 60 (F107_9 a b S).toNatClampNeg) : Int32) else (-9)) : Int32) else (-7)))
set_option maxRecDepth 100000 in
theorem f110_9 {L : Nat} (a b c : Int32) (S : zS) (g0 : zx 216 a) (g1 : (¬ ((F107_9 a b S) = (-1))) → zx 864 (F107_9 a b S)) : zf L 110 [.inr (.inr 9), .inl a, .inl b, .inl c] S (.inl (some (.inl (F110_9 a b c S))), S, 0) := zf_of (en_110 _ _ _ _) (zr_2_0 i110_0 (zr_1_1 i110_1 (zr_1_2 i110_2 (zr_cv (zs_21_2 i110_3 na_107 ob_9 rfl) (f107_9 a b S (g0)) (zr_3_4 i110_4 (zr_1_4 i110_5 (zr_0 i110_6 kc_m1 (zt_cast (zr_19_0 i110_7 (fun h146 => zr_0 i110_13 kc_m7 (zr_25 i110_14)) (fun h147 => zr_2_0 i110_8 (zr_6r i110_9 fl_9_3 (zr_1_4 i110_10 (zr_8 i110_11 ar_62 (g1 h147) rfl rfl (zt_cast (zr_18_0 i110_12 (fun h148 => zr_2_0 i110_15 (zr_6r i110_16 fl_9_2 (zr_1_4 i110_17 (zr_8 i110_18 ar_61 (g1 h147) rfl rfl (zr_1_3 i110_19 (zt_trans (zt_cast (zr_19_3 i110_20 (fun h150 => zr_2_0 i110_23 (zr_6r i110_24 fl_9_1 (zr_1_4 i110_25 (zr_8 i110_26 ar_60 (g1 h147) rfl rfl (zt_rfl))))) (fun h151 => zr_0 i110_21 kc_m9 (zr_17 i110_22 (zt_rfl)))) (zm_c zz_s (zl_c (zl_t zz_e) zz_s) zz_s)) (zr_25 i110_27))))))) (fun h149 => zr_0 i110_13 kc_m7 (zr_25 i110_14))) (zm_r zz_e zz_s))))))) (zm_r zz_e zz_s)))))))))
set_option maxRecDepth 100000 in
theorem f113 {L : Nat} (S : zS) : zf L 113 [.inr (.inr 5)] S (.inl (some (.inl (S 5 0))), S, 0) := zf_of (en_113 _) (zr_2_0 i113_0 (zr_6 i113_1 fl_5_0 rfl (zr_25 i113_2)))
set_option maxRecDepth 100000 in
theorem f114 {L : Nat} (S : zS) : zf L 114 [.inr (.inr 5)] S (.inl (some (.inl (zb (¬ ((S 5 0) < 40))))), S, 0) := zf_of (en_114 _) (zr_2_0 i114_0 (zr_6 i114_1 fl_5_0 rfl (zr_0 i114_2 kc_40 (zt_trans (zt_cast (zr_19_2 i114_3 (fun h152 => zr_0 i114_6 kc_0 (zt_rfl)) (fun h153 => zr_0 i114_4 kc_1 (zr_17 i114_5 (zt_rfl)))) (zm_c zz_s (zl_c (zl_t zz_01) zz_s) zz_s)) (zr_26 i114_7 (zb_01 _))))))
set_option maxRecDepth 100000 in
theorem f115 {L : Nat} (a : Int32) (S : zS) : zf L 115 [.inr (.inr 5), .inl a] S (.inl (some (.inl (zb ((¬ (a < 0)) ∧ (¬ ((S 5 0) ≤ a)))))), S, 0) := zf_of (en_115 _ _) (zr_1_1 i115_0 (zt_trans (zt_cast (zr_18_2 i115_1 (fun h154 => zr_0 i115_8 kc_0 (zt_rfl)) (fun h155 => zr_1_1 i115_2 (zr_2_0 i115_3 (zr_6 i115_4 fl_5_0 rfl (zt_cast (zr_19_3 i115_5 (fun h156 => zr_0 i115_8 kc_0 (zt_rfl)) (fun h157 => zr_0 i115_6 kc_1 (zr_17 i115_7 (zt_rfl)))) (zm_c zz_s (zl_c (zl_t zz_01) zz_s) zz_s)))))) (zm_c zz_s (zl_c (zl_t zz_0b) zz_s) zz_s)) (zr_26 i115_9 (zb_01 _))))
set_option maxRecDepth 100000 in
theorem f117 {L : Nat} (a : Int32) (S : zS) (g0 : zx 40 a) : zf L 117 [.inr (.inr 5), .inl a] S (.inl (some (.inl (zb ((S 31 a.toNatClampNeg) = 1)))), S, 0) := zf_of (en_117 _ _) (zr_2_0 i117_0 (zr_6r i117_1 fl_5_2 (zr_1_1 i117_2 (zr_8 i117_3 ar_31 (g0) rfl rfl (zr_0 i117_4 kc_1 (zt_trans (zt_cast (zr_19_1 i117_5 (fun h158 => zr_0 i117_6 kc_1 (zr_17 i117_7 (zt_rfl))) (fun h159 => zr_0 i117_8 kc_0 (zt_rfl))) (zm_c zz_s (zl_c (zl_t zz_10) zz_s) zz_s)) (zr_26 i117_9 (zb_01 _))))))))
set_option maxRecDepth 100000 in
theorem f118 {L : Nat} (a : Int32) (S : zS) (g0 : zx 40 a) : zf L 118 [.inr (.inr 5), .inl a] S (.inl (some (.inl (S 32 a.toNatClampNeg))), S, 0) := zf_of (en_118 _ _) (zr_2_0 i118_0 (zr_6r i118_1 fl_5_3 (zr_1_1 i118_2 (zr_8 i118_3 ar_32 (g0) rfl rfl (zr_25 i118_4)))))
set_option maxRecDepth 100000 in
theorem f119 {L : Nat} (a : Int32) (S : zS) (g0 : zx 40 a) : zf L 119 [.inr (.inr 5), .inl a] S (.inl (some (.inl (S 33 a.toNatClampNeg))), S, 0) := zf_of (en_119 _ _) (zr_2_0 i119_0 (zr_6r i119_1 fl_5_4 (zr_1_1 i119_2 (zr_8 i119_3 ar_33 (g0) rfl rfl (zr_25 i119_4)))))
set_option maxRecDepth 100000 in
theorem f120 {L : Nat} (a : Int32) (S : zS) (g0 : zx 40 a) : zf L 120 [.inr (.inr 5), .inl a] S (.inl (some (.inl (S 34 a.toNatClampNeg))), S, 0) := zf_of (en_120 _ _) (zr_2_0 i120_0 (zr_6r i120_1 fl_5_5 (zr_1_1 i120_2 (zr_8 i120_3 ar_34 (g0) rfl rfl (zr_25 i120_4)))))
set_option maxRecDepth 100000 in
theorem f121 {L : Nat} (a : Int32) (S : zS) (g0 : zx 40 a) : zf L 121 [.inr (.inr 5), .inl a] S (.inl (some (.inl (S 37 a.toNatClampNeg))), S, 0) := zf_of (en_121 _ _) (zr_2_0 i121_0 (zr_6r i121_1 fl_5_8 (zr_1_1 i121_2 (zr_8 i121_3 ar_37 (g0) rfl rfl (zr_25 i121_4)))))
def G122 (a b c d : Int32) (S : zS) : zS := (z_up (z_up (z_up (z_up (z_up S 30 (S 5 0).toNatClampNeg a) 31 (S 5 0).toNatClampNeg b) 32 (S 5 0).toNatClampNeg c) 33 (S 5 0).toNatClampNeg d) 5 0 ((S 5 0) + 1))
set_option maxRecDepth 100000 in
theorem f122 {L : Nat} (a b c d : Int32) (S : zS) (g0 : zx 40 (S 5 0)) : zf L 122 [.inr (.inr 5), .inl a, .inl b, .inl c, .inl d] S (.inl (some (.inl (S 5 0))), (G122 a b c d S), 0) := zf_of (en_122 _ _ _ _ _) (zr_2_0 i122_0 (zr_6 i122_1 fl_5_0 rfl (zr_3_5 i122_2 (zr_2_0 i122_3 (zr_6r i122_4 fl_5_1 (zr_1_5 i122_5 (zr_1_1 i122_6 (zr_10 i122_7 ar_30 (g0) rfl (zr_2_0 i122_8 (zr_6r i122_9 fl_5_2 (zr_1_5 i122_10 (zr_1_2 i122_11 (zr_10 i122_12 ar_31 (g0) rfl (zr_2_0 i122_13 (zr_6r i122_14 fl_5_3 (zr_1_5 i122_15 (zr_1_3 i122_16 (zr_10 i122_17 ar_32 (g0) rfl (zr_2_0 i122_18 (zr_6r i122_19 fl_5_4 (zr_1_5 i122_20 (zr_1_4 i122_21 (zr_10 i122_22 ar_33 (g0) rfl (zr_2_0 i122_23 (zr_14r i122_24 (zr_6 i122_25 fl_5_0 ((zupci rfl).trans ((zupci rfl).trans ((zupci rfl).trans (zupci rfl)))) (zr_0 i122_26 kc_1 (zr_13_0 i122_27 (zr_7 i122_28 fl_5_0 (zr_1_5 i122_29 (zr_25 i122_30)))))))))))))))))))))))))))))))
set_option maxRecDepth 100000 in
theorem f123 {L : Nat} (a b c d : Int32) (S : zS) (g0 : zx 40 a) : zf L 123 [.inr (.inr 5), .inl a, .inl b, .inl c, .inl d] S (.inl none, (z_up (z_up (z_up S 34 a.toNatClampNeg (b + c)) 35 a.toNatClampNeg (b + d)) 36 a.toNatClampNeg c), 0) := zf_of (en_123 _ _ _ _ _) (zr_2_0 i123_0 (zr_6r i123_1 fl_5_5 (zr_1_1 i123_2 (zr_1_2 i123_3 (zr_1_3 i123_4 (zr_13_0 i123_5 (zr_10 i123_6 ar_34 (g0) rfl (zr_2_0 i123_7 (zr_6r i123_8 fl_5_6 (zr_1_1 i123_9 (zr_1_2 i123_10 (zr_1_4 i123_11 (zr_13_0 i123_12 (zr_10 i123_13 ar_35 (g0) rfl (zr_2_0 i123_14 (zr_6r i123_15 fl_5_7 (zr_1_1 i123_16 (zr_1_3 i123_17 (zr_10 i123_18 ar_36 (g0) rfl (zr_27 i123_19))))))))))))))))))))
set_option maxRecDepth 100000 in
theorem f124 {L : Nat} (a b c d : Int32) (S : zS) (g0 : zx 40 a) (g1 : zo d) : zf L 124 [.inr (.inr 5), .inl a, .inl b, .inl c, .inl d] S (.inl none, (z_up (z_up (z_up S 37 a.toNatClampNeg b) 38 a.toNatClampNeg c) 39 a.toNatClampNeg d), 0) := zf_of (en_124 _ _ _ _ _) (zr_2_0 i124_0 (zr_6r i124_1 fl_5_8 (zr_1_1 i124_2 (zr_1_2 i124_3 (zr_10 i124_4 ar_37 (g0) rfl (zr_2_0 i124_5 (zr_6r i124_6 fl_5_9 (zr_1_1 i124_7 (zr_1_3 i124_8 (zr_10 i124_9 ar_38 (g0) rfl (zr_2_0 i124_10 (zr_6r i124_11 fl_5_10 (zr_1_1 i124_12 (zr_1_4 i124_13 (zr_11 i124_14 ar_39 (g0) (g1) rfl (zr_27 i124_15))))))))))))))))
set_option maxRecDepth 100000 in
theorem f125 {L : Nat} (a b c : Int32) (S : zS) (g0 : zx 40 a) : zf L 125 [.inr (.inr 5), .inl a, .inl b, .inl c] S (.inl (some (.inl (if ((S 31 a.toNatClampNeg) = 2) then ((b + (S 36 a.toNatClampNeg)) : Int32) else (zmin (b + c) (S 35 a.toNatClampNeg))))), (z_up S 34 a.toNatClampNeg (if ((S 31 a.toNatClampNeg) = 2) then ((b + (S 36 a.toNatClampNeg)) : Int32) else (zmin (b + c) (S 35 a.toNatClampNeg)))), 0) := zf_of (en_125 _ _ _ _) (zr_2_0 i125_0 (zr_6r i125_1 fl_5_2 (zr_1_1 i125_2 (zr_8 i125_3 ar_31 (g0) rfl rfl (zr_0 i125_4 kc_2 (zt_trans (zt_cast (zr_19_1 i125_5 (fun h160 => zr_0 i125_6 kc_1 (zr_17 i125_7 (zt_rfl))) (fun h161 => zr_0 i125_8 kc_0 (zt_rfl))) (zm_c zz_s (zl_c (zl_t zz_10) zz_s) zz_s)) (zr_3_4 i125_9 (zr_2_0 i125_10 (zr_6r i125_11 fl_5_5 (zr_1_1 i125_12 (zr_1_4 i125_13 (zt_trans (zt_cast (zr_18b_0 i125_14 (fun h162 => zr_1_2 i125_15 (zr_2_0 i125_16 (zr_6r i125_17 fl_5_7 (zr_1_1 i125_18 (zr_8 i125_19 ar_36 (g0) rfl rfl (zr_13_0 i125_20 (zr_17 i125_21 (zt_rfl)))))))) (fun h163 => zr_1_2 i125_22 (zr_1_3 i125_23 (zr_13_0 i125_24 (zr_2_0 i125_25 (zr_6r i125_26 fl_5_6 (zr_1_1 i125_27 (zr_8 i125_28 ar_35 (g0) rfl rfl (zr_24 i125_29 rfl (zt_rfl)))))))))) (zm_c zz_s (zl_c (zl_t zz_e) zz_s) zz_s)) (zr_10 i125_30 ar_34 (g0) rfl (zr_2_0 i125_31 (zr_6r i125_32 fl_5_5 (zr_1_1 i125_33 (zr_8 i125_34 ar_34 (g0) rfl (zup_s _ _ _ _) (zr_25 i125_35))))))))))))))))))
set_option maxRecDepth 100000 in
theorem f127 {L : Nat} (a b : Int32) (S : zS) (g0 : ((¬ (a < 0)) ∧ (¬ ((S 5 0) ≤ a))) → zx 40 a) : zf L 127 [.inr (.inr 5), .inl a, .inl b] S (.inl (some (.inl (zb (((¬ (a < 0)) ∧ (¬ ((S 5 0) ≤ a))) ∧ (((S 40 a.toNatClampNeg) = 0) ∧ (((zshr (S 38 a.toNatClampNeg) b) &&& 1) = 1)))))), S, 0) := zf_of (en_127 _ _ _) (zr_2_0 i127_0 (zr_1_1 i127_1 (zr_cv (zs_21_1 i127_2 na_115 ob_5 rfl) (f115 a S ) (zt_trans (zt_cast (zr_18b_0 i127_3 (fun h164 => zr_2_0 i127_4 (zr_1_1 i127_5 (zr_cv (zs_21_1 i127_6 na_116 ob_5 rfl) (f116 a S (g0 h164)) (zt_cast (zr_18b_0 i127_7 (fun h166 => zr_2_0 i127_8 (zr_6r i127_9 fl_5_9 (zr_1_1 i127_10 (zr_8 i127_11 ar_38 (g0 h164) rfl rfl (zr_1_2 i127_12 (zr_13_9 i127_13 (zr_0 i127_14 kc_1 (zr_13_5 i127_15 (zr_0 i127_16 kc_1 (zt_cast (zr_19_1 i127_17 (fun h168 => zr_0 i127_18 kc_1 (zr_17 i127_19 (zt_rfl))) (fun h169 => zr_0 i127_20 kc_0 (zt_rfl))) (zm_c zz_s (zl_c (zl_t zz_10) zz_s) zz_s))))))))))) (fun h167 => zr_0 i127_20 kc_0 (zt_rfl))) (zm_c zz_s (zl_c (zl_t zz_b0) zz_s) zz_s))))) (fun h165 => zr_0 i127_20 kc_0 (zt_rfl))) (zm_c zz_s (zl_c (zl_t zz_b0) zz_s) zz_s)) (zr_26 i127_21 (zb_01 _))))))
set_option maxRecDepth 100000 in
theorem f128 {L : Nat} (a : Int32) (S : zS) (g0 : zx 40 a) : zf L 128 [.inr (.inr 5), .inl a] S (.inl none, (if ((S 37 a.toNatClampNeg) ≤ 0) then S else (z_up S 37 a.toNatClampNeg ((S 37 a.toNatClampNeg) - 1))), 0) := zf_of (en_128 _ _) (zr_2_0 i128_0 (zr_6r i128_1 fl_5_8 (zr_1_1 i128_2 (zr_8 i128_3 ar_37 (g0) rfl rfl (zt_trans (zt_cast (zr_18_5 i128_4 (fun h170 => zt_rfl) (fun h171 => zr_2_0 i128_5 (zr_6r i128_6 fl_5_8 (zr_1_1 i128_7 (zr_15 i128_8 (zr_8 i128_9 ar_37 (g0) rfl rfl (zr_0 i128_10 kc_1 (zr_13_1 i128_11 (zr_10 i128_12 ar_37 (g0) rfl (zt_rfl)))))))))) (zm_c zz_s zz_s zz_e)) (zr_27 i128_13))))))
def F130 (a : Int32) (S : zS) : Int32 := (zb (((S 39 a.toNatClampNeg) = 0) ∧ (((¬ ((S 30 a.toNatClampNeg) < 0)) ∧ (¬ ((S 5 0) ≤ (S 30 a.toNatClampNeg)))) ∧ (¬ ((S 40 (S 30 a.toNatClampNeg).toNatClampNeg) = 0)))))
set_option maxRecDepth 100000 in
theorem f130 {L : Nat} (a : Int32) (S : zS) (g0 : zx 40 a) (g1 : ((S 39 a.toNatClampNeg) = 0) → ((¬ ((S 30 a.toNatClampNeg) < 0)) ∧ (¬ ((S 5 0) ≤ (S 30 a.toNatClampNeg)))) → zx 40 (S 30 a.toNatClampNeg)) : zf L 130 [.inr (.inr 5), .inl a] S (.inl (some (.inl (F130 a S))), S, 0) := zf_of (en_130 _ _) (zr_2_0 i130_0 (zr_6r i130_1 fl_5_1 (zr_1_1 i130_2 (zr_8 i130_3 ar_30 (g0) rfl rfl (zr_3_2 i130_4 (zr_2_0 i130_5 (zr_6r i130_6 fl_5_10 (zr_1_1 i130_7 (zr_9 i130_8 ar_39 (g0) rfl rfl (zt_trans (zt_cast (zr_18_1 i130_9 (fun h172 => zr_2_0 i130_10 (zr_1_2 i130_11 (zr_cv (zs_21_1 i130_12 na_115 ob_5 rfl) (f115 (S 30 a.toNatClampNeg) S ) (zt_cast (zr_18b_0 i130_13 (fun h174 => zr_2_0 i130_14 (zr_6r i130_15 fl_5_11 (zr_1_2 i130_16 (zr_9 i130_17 ar_40 (g1 h172 h174) rfl rfl (zt_cast (zr_18_0 i130_18 (fun h176 => zr_0 i130_21 kc_0 (zt_rfl)) (fun h177 => zr_0 i130_19 kc_1 (zr_17 i130_20 (zt_rfl)))) (zm_c zz_s (zl_c (zl_t zz_01) zz_s) zz_s)))))) (fun h175 => zr_0 i130_21 kc_0 (zt_rfl))) (zm_c zz_s (zl_c (zl_t zz_b0) zz_s) zz_s))))) (fun h173 => zr_0 i130_21 kc_0 (zt_rfl))) (zm_c zz_s (zl_c (zl_t zz_b0) zz_s) zz_s)) (zr_26 i130_22 (zb_01 _))))))))))))
set_option maxRecDepth 100000 in
theorem f188 {L : Nat} (a b c : Int32) (S : zS) : zf L 188 [.inl a, .inl b, .inl c] S (.inl (some (.inl (zb ((¬ (a < b)) ∧ (¬ (c < a)))))), S, 0) := zf_of (en_188 _ _ _) (zr_1_0 i188_0 (zr_1_1 i188_1 (zt_trans (zt_cast (zr_19_2 i188_2 (fun h178 => zr_0 i188_8 kc_0 (zt_rfl)) (fun h179 => zr_1_0 i188_3 (zr_1_2 i188_4 (zt_cast (zr_19_4 i188_5 (fun h180 => zr_0 i188_8 kc_0 (zt_rfl)) (fun h181 => zr_0 i188_6 kc_1 (zr_17 i188_7 (zt_rfl)))) (zm_c zz_s (zl_c (zl_t zz_01) zz_s) zz_s))))) (zm_c zz_s (zl_c (zl_t zz_0b) zz_s) zz_s)) (zr_26 i188_9 (zb_01 _)))))
set_option maxRecDepth 100000 in
theorem f194 {L : Nat} (a b c : Int32) (S : zS) : zf L 194 [.inl a, .inl b, .inl c] S (.inl (some (.inl (zb (((¬ (a < 0)) ∧ (¬ (65535 < a))) ∧ (((¬ (b < 1)) ∧ (¬ (6 < b))) ∧ ((¬ (c < 1)) ∧ (¬ (b < c)))))))), S, 0) := zf_of (en_194 _ _ _) (zr_1_0 i194_0 (zr_0 i194_1 kc_0 (zr_0 i194_2 kc_65535 (zr_cv (zs_22_3 i194_3 na_188 rfl) (f188 a 0 65535 S ) (zt_trans (zt_cast (zr_18b_0 i194_4 (fun h182 => zr_1_1 i194_5 (zr_0 i194_6 kc_1 (zr_0 i194_7 kc_6 (zr_cv (zs_22_3 i194_8 na_188 rfl) (f188 b 1 6 S ) (zt_cast (zr_18b_0 i194_9 (fun h184 => zr_1_2 i194_10 (zr_0 i194_11 kc_1 (zr_1_1 i194_12 (zr_cv (zs_22_3 i194_13 na_188 rfl) (f188 c 1 b S ) (zt_cast (zr_18b_0 i194_14 (fun h186 => zr_0 i194_15 kc_1 (zr_17 i194_16 (zt_rfl))) (fun h187 => zr_0 i194_17 kc_0 (zt_rfl))) (zm_c zz_s (zl_c (zl_t zz_10) zz_s) zz_s)))))) (fun h185 => zr_0 i194_17 kc_0 (zt_rfl))) (zm_c zz_s (zl_c (zl_t zz_b0) zz_s) zz_s)))))) (fun h183 => zr_0 i194_17 kc_0 (zt_rfl))) (zm_c zz_s (zl_c (zl_t zz_b0) zz_s) zz_s)) (zr_26 i194_18 (zb_01 _)))))))
set_option maxRecDepth 100000 in
theorem f186 {L : Nat} (a : Int32) (S : zS) : zf L 186 [.inl a] S (if (a = 0) then (.inr 1, S, 1) else (.inl none, S, 0)) := zf_of (en_186 _) (zr_1_0 i186_0 (zt_cast (zr_18_1 i186_1 (fun h188 => zr_29 i186_2) (fun h189 => zr_27 i186_6)) zm_o))
set_option maxRecDepth 100000 in
theorem f187 {L : Nat} (a : Int32) (S : zS) : zf L 187 [.inl a] S (if (a = 0) then (.inr 2, S, 1) else (.inl none, S, 0)) := zf_of (en_187 _) (zr_1_0 i187_0 (zt_cast (zr_18_1 i187_1 (fun h190 => zr_29 i187_2) (fun h191 => zr_27 i187_6)) zm_o))
set_option maxRecDepth 100000 in
theorem f185 {L : Nat} (a : Int32) (S : zS) : zf L 185 [.inl a] S (if (a = 0) then (.inr 0, S, 1) else (.inl none, S, 0)) := zf_of (en_185 _) (zr_1_0 i185_0 (zt_cast (zr_18_1 i185_1 (fun h192 => zr_29 i185_2) (fun h193 => zr_27 i185_6)) zm_o))
set_option maxRecDepth 100000 in
theorem f132 {L : Nat} (a : Int32) (S : zS) (g0 : ((¬ (a < 1)) ∧ (¬ ((S 1 1) < a))) → zx 7 a) : zf L 132 [.inr (.inr 0), .inl a] S (if ((¬ (a < 1)) ∧ (¬ ((S 1 1) < a))) then (.inl (some (.inl (S 14 a.toNatClampNeg))), S, 0) else (.inr 0, S, 1)) := zf_of (en_132 _ _) (zr_2_0 i132_0 (zr_6r i132_1 fl_0_0 (zr_1_1 i132_2 (zr_cv (zs_21_1 i132_3 na_83 ob_1 rfl) (f83 a S ) (zt_cast (zr_dem (E := 0) (zs_22_1 i132_4 na_185 rfl) f185 th_132 (fun h194 => zr_2_0 i132_5 (zr_6r i132_6 fl_0_0 (zr_1_1 i132_7 (zr_cv (zs_21_1 i132_8 na_84 ob_1 rfl) (f84 a S (g0 h194)) (zr_25 i132_9)))))) zm_o)))))
set_option maxRecDepth 100000 in
theorem f135 {L : Nat} (S : zS) (g0 : zo (S 1 6)) : zf L 135 [.inr (.inr 0)] S (.inl (some (.inl (S 1 6))), S, 0) := zf_of (en_135 _) (zr_2_0 i135_0 (zr_6r i135_1 fl_0_0 (zr_cv (zs_21_0 i135_2 na_85 ob_1 rfl) (f85  S (g0)) (zr_26 i135_3 (g0)))))
set_option maxRecDepth 100000 in
theorem f138 {L : Nat} (a b : Int32) (S : zS) : zf L 138 [.inr (.inr 0), .inl a, .inl b] S (if (((¬ (a < 1)) ∧ (¬ (1000 < a))) ∧ ((¬ (b < 1)) ∧ (¬ (1000 < b)))) then (.inl none, (z_up (z_up S 2 4 a) 2 5 b), 0) else (.inr 1, S, 1)) := zf_of (en_138 _ _ _) (zr_1_1 i138_0 (zr_0 i138_1 kc_1 (zr_0 i138_2 kc_1000 (zr_cv (zs_22_3 i138_3 na_188 rfl) (f188 a 1 1000 S ) (zt_trans (zt_cast (zr_18b_0 i138_4 (fun h195 => zr_1_2 i138_5 (zr_0 i138_6 kc_1 (zr_0 i138_7 kc_1000 (zr_cv (zs_22_3 i138_8 na_188 rfl) (f188 b 1 1000 S ) (zt_cast (zr_18b_0 i138_9 (fun h197 => zr_0 i138_10 kc_1 (zr_17 i138_11 (zt_rfl))) (fun h198 => zr_0 i138_12 kc_0 (zt_rfl))) (zm_c zz_s (zl_c (zl_t zz_10) zz_s) zz_s)))))) (fun h196 => zr_0 i138_12 kc_0 (zt_rfl))) (zm_c zz_s (zl_c (zl_t zz_b0) zz_s) zz_s)) (zt_cast (zr_dem (E := 1) (zs_22_1 i138_13 na_186 rfl) f186 th_138 (fun h199 => zr_2_0 i138_14 (zr_6r i138_15 fl_0_1 (zr_1_1 i138_16 (zr_1_2 i138_17 (zr_cn (zs_21_2 i138_18 na_36 ob_2 rfl) (f36 a b S ) (zr_27 i138_19))))))) zm_o))))))
set_option maxRecDepth 100000 in
theorem f139 {L : Nat} (S : zS) : zf L 139 [.inr (.inr 0)] S (.inl (some (.inl ((S 2 0) + 1))), (z_up (z_up (z_up S 2 0 ((S 2 0) + 1)) 2 1 0) 2 2 (S 0 11)), 0) := zf_of (en_139 _) (zr_2_0 i139_0 (zr_6r i139_1 fl_0_1 (zr_2_0 i139_2 (zr_6 i139_3 fl_0_11 rfl (zr_cv (zs_21_1 i139_4 na_40 ob_2 rfl) (f40 (S 0 11) S ) (zr_25 i139_5))))))
set_option maxRecDepth 100000 in
theorem f140 {L : Nat} (a : Int32) (S : zS) : zf L 140 [.inr (.inr 0), .inl a] S (if ((¬ (a < (S 2 3))) ∧ (¬ ((S 2 0) < a))) then (.inl (some (.inl (S 2 3))), (z_up S 2 3 a), 0) else (.inr 1, S, 1)) := zf_of (en_140 _ _) (zr_1_1 i140_0 (zr_2_0 i140_1 (zr_6r i140_2 fl_0_1 (zr_cv (zs_21_0 i140_3 na_38 ob_2 rfl) (f38  S ) (zr_2_0 i140_4 (zr_6r i140_5 fl_0_1 (zr_cv (zs_21_0 i140_6 na_37 ob_2 rfl) (f37  S ) (zr_cv (zs_22_3 i140_7 na_188 rfl) (f188 a (S 2 3) (S 2 0) S ) (zt_cast (zr_dem (E := 1) (zs_22_1 i140_8 na_186 rfl) f186 th_140 (fun h200 => zr_2_0 i140_9 (zr_6r i140_10 fl_0_1 (zr_1_1 i140_11 (zr_cv (zs_21_1 i140_12 na_39 ob_2 rfl) (f39 a S ) (zr_25 i140_13)))))) zm_o)))))))))
set_option maxRecDepth 100000 in
theorem f142 {L : Nat} (S : zS) : zf L 142 [.inr (.inr 0)] S (.inl (some (.inl (S 2 0))), S, 0) := zf_of (en_142 _) (zr_2_0 i142_0 (zr_6r i142_1 fl_0_1 (zr_cv (zs_21_0 i142_2 na_37 ob_2 rfl) (f37  S ) (zr_25 i142_3))))
set_option maxRecDepth 100000 in
theorem f189 {L : Nat} (a b : Int32) (S : zS) : zf L 189 [.inl a, .inl b] S (.inl (some (.inl (zb ((¬ (a < 0)) ∧ (¬ (b ≤ a)))))), S, 0) := zf_of (en_189 _ _) (zr_1_0 i189_0 (zt_trans (zt_cast (zr_18_2 i189_1 (fun h201 => zr_0 i189_7 kc_0 (zt_rfl)) (fun h202 => zr_1_0 i189_2 (zr_1_1 i189_3 (zt_cast (zr_19_3 i189_4 (fun h203 => zr_0 i189_7 kc_0 (zt_rfl)) (fun h204 => zr_0 i189_5 kc_1 (zr_17 i189_6 (zt_rfl)))) (zm_c zz_s (zl_c (zl_t zz_01) zz_s) zz_s))))) (zm_c zz_s (zl_c (zl_t zz_0b) zz_s) zz_s)) (zr_26 i189_8 (zb_01 _))))
set_option maxRecDepth 100000 in
theorem f190 {L : Nat} (a : Int32) (S : zS) : zf L 190 [.inl a] S (.inl (some (.inl (zb ((¬ (a < 0)) ∧ (¬ (6 ≤ a)))))), S, 0) := zf_of (en_190 _) (zr_1_0 i190_0 (zr_0 i190_1 kc_6 (zr_cv (zs_22_2 i190_2 na_189 rfl) (f189 a 6 S ) (zr_26 i190_3 (zb_01 _)))))
set_option maxRecDepth 100000 in
theorem f144 {L : Nat} (a b : Int32) (S : zS) (g0 : (((¬ (a < 0)) ∧ (¬ (6 ≤ a))) ∧ ((¬ (b < 0)) ∧ (¬ (100 < b)))) → zx 6 a) : zf L 144 [.inr (.inr 0), .inl a, .inl b] S (if (((¬ (a < 0)) ∧ (¬ (6 ≤ a))) ∧ ((¬ (b < 0)) ∧ (¬ (100 < b)))) then (.inl (some (.inl (S 18 a.toNatClampNeg))), (z_up S 18 a.toNatClampNeg b), 0) else (.inr 1, S, 1)) := zf_of (en_144 _ _ _) (zr_1_1 i144_0 (zr_cv (zs_22_1 i144_1 na_190 rfl) (f190 a S ) (zt_trans (zt_cast (zr_18b_0 i144_2 (fun h205 => zr_1_2 i144_3 (zr_0 i144_4 kc_0 (zr_0 i144_5 kc_100 (zr_cv (zs_22_3 i144_6 na_188 rfl) (f188 b 0 100 S ) (zt_cast (zr_18b_0 i144_7 (fun h207 => zr_0 i144_8 kc_1 (zr_17 i144_9 (zt_rfl))) (fun h208 => zr_0 i144_10 kc_0 (zt_rfl))) (zm_c zz_s (zl_c (zl_t zz_10) zz_s) zz_s)))))) (fun h206 => zr_0 i144_10 kc_0 (zt_rfl))) (zm_c zz_s (zl_c (zl_t zz_b0) zz_s) zz_s)) (zt_cast (zr_dem (E := 1) (zs_22_1 i144_11 na_186 rfl) f186 th_144 (fun h209 => zr_2_0 i144_12 (zr_6r i144_13 fl_0_2 (zr_1_1 i144_14 (zr_1_2 i144_15 (zr_cv (zs_21_2 i144_16 na_11 ob_3 rfl) (f11 a b S (g0 h209)) (zr_25 i144_17))))))) zm_o))))
set_option maxRecDepth 100000 in
theorem f145 {L : Nat} (a b c d e f : Int32) (S : zS) (g0 : ((¬ (a < 0)) ∧ (¬ (8 ≤ a))) → (((¬ (b < 0)) ∧ (¬ (8 < b))) ∧ (((¬ (c < 0)) ∧ (¬ (8 < c))) ∧ ((¬ (d < 0)) ∧ (¬ (8 < d))))) → (((¬ (e < 0)) ∧ (¬ (15 < e))) ∧ ((¬ (f < 0)) ∧ (¬ (2 < f)))) → zx 8 a) (g1 : ((¬ (a < 0)) ∧ (¬ (8 ≤ a))) → (((¬ (b < 0)) ∧ (¬ (8 < b))) ∧ (((¬ (c < 0)) ∧ (¬ (8 < c))) ∧ ((¬ (d < 0)) ∧ (¬ (8 < d))))) → (((¬ (e < 0)) ∧ (¬ (15 < e))) ∧ ((¬ (f < 0)) ∧ (¬ (2 < f)))) → (¬ (5 ≤ (S 20 a.toNatClampNeg))) → zx 120 (((a * 5) + (S 20 a.toNatClampNeg)) * 3)) (g2 : ((¬ (a < 0)) ∧ (¬ (8 ≤ a))) → (((¬ (b < 0)) ∧ (¬ (8 < b))) ∧ (((¬ (c < 0)) ∧ (¬ (8 < c))) ∧ ((¬ (d < 0)) ∧ (¬ (8 < d))))) → (((¬ (e < 0)) ∧ (¬ (15 < e))) ∧ ((¬ (f < 0)) ∧ (¬ (2 < f)))) → (¬ (5 ≤ (S 20 a.toNatClampNeg))) → zx 120 ((((a * 5) + (S 20 a.toNatClampNeg)) * 3) + 1)) (g3 : ((¬ (a < 0)) ∧ (¬ (8 ≤ a))) → (((¬ (b < 0)) ∧ (¬ (8 < b))) ∧ (((¬ (c < 0)) ∧ (¬ (8 < c))) ∧ ((¬ (d < 0)) ∧ (¬ (8 < d))))) → (((¬ (e < 0)) ∧ (¬ (15 < e))) ∧ ((¬ (f < 0)) ∧ (¬ (2 < f)))) → (¬ (5 ≤ (S 20 a.toNatClampNeg))) → zx 120 ((((a * 5) + (S 20 a.toNatClampNeg)) * 3) + 2)) (g4 : ((¬ (a < 0)) ∧ (¬ (8 ≤ a))) → (((¬ (b < 0)) ∧ (¬ (8 < b))) ∧ (((¬ (c < 0)) ∧ (¬ (8 < c))) ∧ ((¬ (d < 0)) ∧ (¬ (8 < d))))) → (((¬ (e < 0)) ∧ (¬ (15 < e))) ∧ ((¬ (f < 0)) ∧ (¬ (2 < f)))) → (¬ (5 ≤ (S 20 a.toNatClampNeg))) → zx 40 ((a * 5) + (S 20 a.toNatClampNeg))) : zf L 145 [.inr (.inr 0), .inl a, .inl b, .inl c, .inl d, .inl e, .inl f] S (if ((¬ (a < 0)) ∧ (¬ (8 ≤ a))) then (if (((¬ (b < 0)) ∧ (¬ (8 < b))) ∧ (((¬ (c < 0)) ∧ (¬ (8 < c))) ∧ ((¬ (d < 0)) ∧ (¬ (8 < d))))) then (if (((¬ (e < 0)) ∧ (¬ (15 < e))) ∧ ((¬ (f < 0)) ∧ (¬ (2 < f)))) then (if (¬ (5 ≤ (S 20 a.toNatClampNeg))) then (.inl (some (.inl ((S 20 a.toNatClampNeg) + 1))), (G62 a b c d e f S), 0) else (.inr 2, S, 1)) else (.inr 1, S, 1)) else (.inr 1, S, 1)) else (.inr 0, S, 1)) := zf_of (en_145 _ _ _ _ _ _ _) (zr_1_1 i145_0 (zr_0 i145_1 kc_8 (zr_cv (zs_22_2 i145_2 na_189 rfl) (f189 a 8 S ) (zt_cast (zr_dem (E := 0) (zs_22_1 i145_3 na_185 rfl) f185 th_145 (fun h210 => zr_1_2 i145_4 (zr_0 i145_5 kc_0 (zr_0 i145_6 kc_8 (zr_cv (zs_22_3 i145_7 na_188 rfl) (f188 b 0 8 S ) (zt_trans (zt_cast (zr_18b_0 i145_8 (fun h211 => zr_1_3 i145_9 (zr_0 i145_10 kc_0 (zr_0 i145_11 kc_8 (zr_cv (zs_22_3 i145_12 na_188 rfl) (f188 c 0 8 S ) (zt_cast (zr_18b_0 i145_13 (fun h213 => zr_1_4 i145_14 (zr_0 i145_15 kc_0 (zr_0 i145_16 kc_8 (zr_cv (zs_22_3 i145_17 na_188 rfl) (f188 d 0 8 S ) (zt_cast (zr_18b_0 i145_18 (fun h215 => zr_0 i145_19 kc_1 (zr_17 i145_20 (zt_rfl))) (fun h216 => zr_0 i145_21 kc_0 (zt_rfl))) (zm_c zz_s (zl_c (zl_t zz_10) zz_s) zz_s)))))) (fun h214 => zr_0 i145_21 kc_0 (zt_rfl))) (zm_c zz_s (zl_c (zl_t zz_b0) zz_s) zz_s)))))) (fun h212 => zr_0 i145_21 kc_0 (zt_rfl))) (zm_c zz_s (zl_c (zl_t zz_b0) zz_s) zz_s)) (zt_cast (zr_dem (E := 1) (zs_22_1 i145_22 na_186 rfl) f186 th_145 (fun h217 => zr_1_5 i145_23 (zr_0 i145_24 kc_0 (zr_0 i145_25 kc_15 (zr_cv (zs_22_3 i145_26 na_188 rfl) (f188 e 0 15 S ) (zt_trans (zt_cast (zr_18b_0 i145_27 (fun h218 => zr_1_6 i145_28 (zr_0 i145_29 kc_0 (zr_0 i145_30 kc_2 (zr_cv (zs_22_3 i145_31 na_188 rfl) (f188 f 0 2 S ) (zt_cast (zr_18b_0 i145_32 (fun h220 => zr_0 i145_33 kc_1 (zr_17 i145_34 (zt_rfl))) (fun h221 => zr_0 i145_35 kc_0 (zt_rfl))) (zm_c zz_s (zl_c (zl_t zz_10) zz_s) zz_s)))))) (fun h219 => zr_0 i145_35 kc_0 (zt_rfl))) (zm_c zz_s (zl_c (zl_t zz_b0) zz_s) zz_s)) (zt_cast (zr_dem (E := 1) (zs_22_1 i145_36 na_186 rfl) f186 th_145 (fun h222 => zr_2_0 i145_37 (zr_6r i145_38 fl_0_3 (zr_1_1 i145_39 (zr_cv (zs_21_1 i145_40 na_61 ob_4 rfl) (f61 a S (g0 h210 h217 h222)) (zt_cast (zr_dem (E := 2) (zs_22_1 i145_41 na_187 rfl) f187 th_145 (fun h223 => zr_2_0 i145_42 (zr_6r i145_43 fl_0_3 (zr_1_1 i145_44 (zr_1_2 i145_45 (zr_1_3 i145_46 (zr_1_4 i145_47 (zr_1_5 i145_48 (zr_1_6 i145_49 (zr_cv (zs_21_6 i145_50 na_62 ob_4 rfl) (f62 a b c d e f S (g0 h210 h217 h222) (g1 h210 h217 h222 h223) (g2 h210 h217 h222 h223) (g3 h210 h217 h222 h223) (g4 h210 h217 h222 h223)) (zr_25 i145_51))))))))))) zm_o)))))) zm_o))))))) zm_o))))))) zm_o))))
def O147 (a b c : Int32) (S : zS) : zRes := (if ((¬ ((¬ (a < 0)) ∧ (¬ (2 < a)))) ∨ ((¬ (b < 0)) ∧ (¬ ((if (a = 0) then (3 : Int32) else (if (a = 1) then (8 : Int32) else 4)) ≤ b)))) then (if (((¬ (a < 0)) ∧ (¬ (2 < a))) ∧ ((¬ (c < 0)) ∧ (¬ (255 < c)))) then (.inl (some (.inl (if (a = 0) then ((S 25 b.toNatClampNeg) : Int32) else (if (a = 1) then ((S 26 b.toNatClampNeg) : Int32) else (S 27 b.toNatClampNeg))))), (if (a = 0) then (z_up S 25 b.toNatClampNeg c) else (if (a = 1) then (z_up S 26 b.toNatClampNeg c) else (z_up S 27 b.toNatClampNeg c))), 0) else (.inr 1, S, 1)) else (.inr 0, S, 1))
set_option maxRecDepth 100000 in
theorem f147 {L : Nat} (a b c : Int32) (S : zS) (g0 : ((¬ ((¬ (a < 0)) ∧ (¬ (2 < a)))) ∨ ((¬ (b < 0)) ∧ (¬ ((if (a = 0) then (3 : Int32) else (if (a = 1) then (8 : Int32) else 4)) ≤ b)))) → (((¬ (a < 0)) ∧ (¬ (2 < a))) ∧ ((¬ (c < 0)) ∧ (¬ (255 < c)))) → (a = 0) → zx 3 b) (g1 : ((¬ ((¬ (a < 0)) ∧ (¬ (2 < a)))) ∨ ((¬ (b < 0)) ∧ (¬ ((if (a = 0) then (3 : Int32) else (if (a = 1) then (8 : Int32) else 4)) ≤ b)))) → (((¬ (a < 0)) ∧ (¬ (2 < a))) ∧ ((¬ (c < 0)) ∧ (¬ (255 < c)))) → (¬ (a = 0)) → (a = 1) → zx 8 b) (g2 : ((¬ ((¬ (a < 0)) ∧ (¬ (2 < a)))) ∨ ((¬ (b < 0)) ∧ (¬ ((if (a = 0) then (3 : Int32) else (if (a = 1) then (8 : Int32) else 4)) ≤ b)))) → (((¬ (a < 0)) ∧ (¬ (2 < a))) ∧ ((¬ (c < 0)) ∧ (¬ (255 < c)))) → (¬ (a = 0)) → (¬ (a = 1)) → zx 4 b) : zf L 147 [.inr (.inr 0), .inl a, .inl b, .inl c] S (O147 a b c S) := zf_of (en_147 _ _ _ _) (zr_1_1 i147_0 (zr_0 i147_1 kc_0 (zr_0 i147_2 kc_2 (zr_cv (zs_22_3 i147_3 na_188 rfl) (f188 a 0 2 S ) (zr_3_4 i147_4 (zr_1_4 i147_5 (zt_trans (zt_cast (zr_18b_0 i147_6 (fun h224 => zr_1_2 i147_7 (zr_1_1 i147_8 (zr_cv (zs_22_1 i147_9 na_69 rfl) (f69 a S ) (zr_cv (zs_22_2 i147_10 na_189 rfl) (f189 b (if (a = 0) then (3 : Int32) else (if (a = 1) then (8 : Int32) else 4)) S ) (zt_cast (zr_18b_0 i147_11 (fun h226 => zr_0 i147_12 kc_1 (zr_17 i147_13 (zt_rfl))) (fun h227 => zr_0 i147_14 kc_0 (zt_rfl))) (zm_c zz_s (zl_c (zl_t zz_10) zz_s) zz_s)))))) (fun h225 => zr_0 i147_12 kc_1 (zr_17 i147_13 (zt_rfl)))) (zm_c zz_s (zl_c (zl_t zz_b1) zz_s) zz_s)) (zt_cast (zr_dem (E := 0) (zs_22_1 i147_15 na_185 rfl) f185 th_147 (fun h228 => zr_1_4 i147_16 (zt_trans (zt_cast (zr_18b_0 i147_17 (fun h229 => zr_1_3 i147_18 (zr_0 i147_19 kc_0 (zr_0 i147_20 kc_255 (zr_cv (zs_22_3 i147_21 na_188 rfl) (f188 c 0 255 S ) (zt_cast (zr_18b_0 i147_22 (fun h231 => zr_0 i147_23 kc_1 (zr_17 i147_24 (zt_rfl))) (fun h232 => zr_0 i147_25 kc_0 (zt_rfl))) (zm_c zz_s (zl_c (zl_t zz_10) zz_s) zz_s)))))) (fun h230 => zr_0 i147_25 kc_0 (zt_rfl))) (zm_c zz_s (zl_c (zl_t zz_b0) zz_s) zz_s)) (zt_cast (zr_dem (E := 1) (zs_22_1 i147_26 na_186 rfl) f186 th_147 (fun h233 => zr_2_0 i147_27 (zr_6r i147_28 fl_0_3 (zr_1_1 i147_29 (zr_1_2 i147_30 (zr_1_3 i147_31 (zr_cv (zs_21_3 i147_32 na_70 ob_4 rfl) (f70 a b c S (fun h234 => (g0 h228 h233 h234)) (fun h235 h236 => (g1 h228 h233 h235 h236)) (fun h237 h238 => (g2 h228 h233 h237 h238))) (zr_25 i147_33)))))))) zm_o)))) zm_o))))))))
set_option maxRecDepth 100000 in
theorem f148 {L : Nat} (a b c : Int32) (S : zS) (g0 : (((¬ (a < 0)) ∧ (¬ (3 ≤ a))) ∧ (((¬ (b < 0)) ∧ (¬ (6 ≤ b))) ∧ ((¬ (c < (-1))) ∧ (¬ (7 < c))))) → zx 18 ((a * 6) + b)) : zf L 148 [.inr (.inr 0), .inl a, .inl b, .inl c] S (if (((¬ (a < 0)) ∧ (¬ (3 ≤ a))) ∧ (((¬ (b < 0)) ∧ (¬ (6 ≤ b))) ∧ ((¬ (c < (-1))) ∧ (¬ (7 < c))))) then (.inl (some (.inl (S 24 ((a * 6) + b).toNatClampNeg))), (z_up S 24 ((a * 6) + b).toNatClampNeg c), 0) else (.inr 0, S, 1)) := zf_of (en_148 _ _ _ _) (zr_1_1 i148_0 (zr_0 i148_1 kc_3 (zr_cv (zs_22_2 i148_2 na_189 rfl) (f189 a 3 S ) (zt_trans (zt_cast (zr_18b_0 i148_3 (fun h239 => zr_1_2 i148_4 (zr_0 i148_5 kc_6 (zr_cv (zs_22_2 i148_6 na_189 rfl) (f189 b 6 S ) (zt_cast (zr_18b_0 i148_7 (fun h241 => zr_1_3 i148_8 (zr_0 i148_9 kc_m1 (zr_0 i148_10 kc_7 (zr_cv (zs_22_3 i148_11 na_188 rfl) (f188 c (-1) 7 S ) (zt_cast (zr_18b_0 i148_12 (fun h243 => zr_0 i148_13 kc_1 (zr_17 i148_14 (zt_rfl))) (fun h244 => zr_0 i148_15 kc_0 (zt_rfl))) (zm_c zz_s (zl_c (zl_t zz_10) zz_s) zz_s)))))) (fun h242 => zr_0 i148_15 kc_0 (zt_rfl))) (zm_c zz_s (zl_c (zl_t zz_b0) zz_s) zz_s))))) (fun h240 => zr_0 i148_15 kc_0 (zt_rfl))) (zm_c zz_s (zl_c (zl_t zz_b0) zz_s) zz_s)) (zt_cast (zr_dem (E := 0) (zs_22_1 i148_16 na_185 rfl) f185 th_148 (fun h245 => zr_2_0 i148_17 (zr_6r i148_18 fl_0_3 (zr_1_1 i148_19 (zr_1_2 i148_20 (zr_1_3 i148_21 (zr_cv (zs_21_3 i148_22 na_71 ob_4 rfl) (f71 a b c S (g0 h245)) (zr_25 i148_23)))))))) zm_o)))))
def O150 (a b c d : Int32) (S : zS) : zRes := (if (((¬ (a < 0)) ∧ (¬ (4 ≤ a))) ∧ ((¬ (c < 0)) ∧ (¬ ((if (b = 0) then (8 : Int32) else 4) ≤ c)))) then (.inl (some (.inl (zb (if (b = 0) then (((zshr (S 28 a.toNatClampNeg) c) &&& 1) = 1) else (((zshr (S 29 a.toNatClampNeg) c) &&& 1) = 1))))), (if (b = 0) then (z_up S 28 a.toNatClampNeg (if (d = 0) then (((S 28 a.toNatClampNeg) &&& ((zshl 1 c) ^^^ (-1))) : Int32) else ((S 28 a.toNatClampNeg) ||| (zshl 1 c)))) else (z_up S 29 a.toNatClampNeg (if (d = 0) then (((S 29 a.toNatClampNeg) &&& ((zshl 1 c) ^^^ (-1))) : Int32) else ((S 29 a.toNatClampNeg) ||| (zshl 1 c))))), 0) else (.inr 0, S, 1))
set_option maxRecDepth 100000 in
theorem f150 {L : Nat} (a b c d : Int32) (S : zS) (g0 : (((¬ (a < 0)) ∧ (¬ (4 ≤ a))) ∧ ((¬ (c < 0)) ∧ (¬ ((if (b = 0) then (8 : Int32) else 4) ≤ c)))) → (b = 0) → zx 4 a) (g1 : (((¬ (a < 0)) ∧ (¬ (4 ≤ a))) ∧ ((¬ (c < 0)) ∧ (¬ ((if (b = 0) then (8 : Int32) else 4) ≤ c)))) → (¬ (b = 0)) → zx 4 a) : zf L 150 [.inr (.inr 0), .inl a, .inl b, .inl c, .inl d] S (O150 a b c d S) := zf_of (en_150 _ _ _ _ _) (zr_1_1 i150_0 (zr_0 i150_1 kc_4 (zr_cv (zs_22_2 i150_2 na_189 rfl) (f189 a 4 S ) (zt_trans (zt_cast (zr_18b_0 i150_3 (fun h246 => zr_1_3 i150_4 (zr_1_2 i150_5 (zt_trans (zt_cast (zr_18_0 i150_6 (fun h248 => zr_0 i150_9 kc_8 (zt_rfl)) (fun h249 => zr_0 i150_7 kc_4 (zr_17 i150_8 (zt_rfl)))) (zm_c zz_s (zl_c (zl_t zz_e) zz_s) zz_s)) (zr_cv (zs_22_2 i150_10 na_189 rfl) (f189 c (if (b = 0) then (8 : Int32) else 4) S ) (zt_cast (zr_18b_0 i150_11 (fun h250 => zr_0 i150_12 kc_1 (zr_17 i150_13 (zt_rfl))) (fun h251 => zr_0 i150_14 kc_0 (zt_rfl))) (zm_c zz_s (zl_c (zl_t zz_10) zz_s) zz_s)))))) (fun h247 => zr_0 i150_14 kc_0 (zt_rfl))) (zm_c zz_s (zl_c (zl_t zz_b0) zz_s) zz_s)) (zt_cast (zr_dem (E := 0) (zs_22_1 i150_15 na_185 rfl) f185 th_150 (fun h252 => zr_1_2 i150_16 (zt_trans (zt_cast (zr_18_0 i150_17 (fun h253 => zr_2_0 i150_25 (zr_6r i150_26 fl_0_3 (zr_1_1 i150_27 (zr_1_3 i150_28 (zr_1_4 i150_29 (zr_cv (zs_21_3 i150_30 na_76 ob_4 rfl) (f76 a c d S (g0 h252 h253)) (zt_rfl))))))) (fun h254 => zr_2_0 i150_18 (zr_6r i150_19 fl_0_3 (zr_1_1 i150_20 (zr_1_3 i150_21 (zr_1_4 i150_22 (zr_cv (zs_21_3 i150_23 na_77 ob_4 rfl) (f77 a c d S (g1 h252 h254)) (zr_17 i150_24 (zt_rfl))))))))) (zm_c zz_s (zl_c (zl_t zz_bb) zz_s) zz_e)) (zr_26 i150_31 (zb_01 _))))) zm_o)))))
def O151 (a b : Int32) (S : zS) : zRes := (if (((¬ (a < 0)) ∧ (¬ (3 ≤ a))) ∧ ((¬ (b < 0)) ∧ (¬ (6 ≤ b)))) then (.inl (some (.inl (if ((S 1 6) = 0) then ((-2) : Int32) else (if ((S 24 ((a * 6) + b).toNatClampNeg) = (-1)) then ((-6) : Int32) else (if (¬ ((S 5 0) < 40)) then ((-11) : Int32) else (S 5 0)))))), (if ((S 1 6) = 0) then S else (if ((S 24 ((a * 6) + b).toNatClampNeg) = (-1)) then S else (if (¬ ((S 5 0) < 40)) then S else (z_up (z_up (z_up (z_up (z_up (z_up (G122 (-1) 0 (S 24 ((a * 6) + b).toNatClampNeg) (S 25 a.toNatClampNeg) S) 34 (S 5 0).toNatClampNeg (((G122 (-1) 0 (S 24 ((a * 6) + b).toNatClampNeg) (S 25 a.toNatClampNeg) S) 0 11) + 24)) 35 (S 5 0).toNatClampNeg (((G122 (-1) 0 (S 24 ((a * 6) + b).toNatClampNeg) (S 25 a.toNatClampNeg) S) 0 11) + 72)) 36 (S 5 0).toNatClampNeg 24) 37 (S 5 0).toNatClampNeg (-1)) 38 (S 5 0).toNatClampNeg 15) 39 (S 5 0).toNatClampNeg 0)))), 0) else (.inr 0, S, 1))
set_option maxRecDepth 100000 in
theorem f151 {L : Nat} (a b : Int32) (S : zS) (g0 : (((¬ (a < 0)) ∧ (¬ (3 ≤ a))) ∧ ((¬ (b < 0)) ∧ (¬ (6 ≤ b)))) → zx 18 ((a * 6) + b)) (g1 : zo (S 1 6)) (g2 : (((¬ (a < 0)) ∧ (¬ (3 ≤ a))) ∧ ((¬ (b < 0)) ∧ (¬ (6 ≤ b)))) → (¬ ((S 1 6) = 0)) → (¬ ((S 24 ((a * 6) + b).toNatClampNeg) = (-1))) → (¬ (¬ ((S 5 0) < 40))) → zx 3 a) (g3 : (((¬ (a < 0)) ∧ (¬ (3 ≤ a))) ∧ ((¬ (b < 0)) ∧ (¬ (6 ≤ b)))) → (¬ ((S 1 6) = 0)) → (¬ ((S 24 ((a * 6) + b).toNatClampNeg) = (-1))) → (¬ (¬ ((S 5 0) < 40))) → zx 40 (S 5 0)) : zf L 151 [.inr (.inr 0), .inl a, .inl b] S (O151 a b S) := zf_of (en_151 _ _ _) (zr_1_1 i151_0 (zr_0 i151_1 kc_3 (zr_cv (zs_22_2 i151_2 na_189 rfl) (f189 a 3 S ) (zt_trans (zt_cast (zr_18b_0 i151_3 (fun h255 => zr_1_2 i151_4 (zr_0 i151_5 kc_6 (zr_cv (zs_22_2 i151_6 na_189 rfl) (f189 b 6 S ) (zt_cast (zr_18b_0 i151_7 (fun h257 => zr_0 i151_8 kc_1 (zr_17 i151_9 (zt_rfl))) (fun h258 => zr_0 i151_10 kc_0 (zt_rfl))) (zm_c zz_s (zl_c (zl_t zz_10) zz_s) zz_s))))) (fun h256 => zr_0 i151_10 kc_0 (zt_rfl))) (zm_c zz_s (zl_c (zl_t zz_b0) zz_s) zz_s)) (zt_cast (zr_dem (E := 0) (zs_22_1 i151_11 na_185 rfl) f185 th_151 (fun h259 => zr_2_0 i151_12 (zr_6r i151_13 fl_0_3 (zr_1_1 i151_14 (zr_1_2 i151_15 (zr_cv (zs_21_2 i151_16 na_72 ob_4 rfl) (f72 a b S (g0 h259)) (zr_3_3 i151_17 (zr_2_0 i151_18 (zr_6r i151_19 fl_0_0 (zr_cv (zs_21_0 i151_20 na_85 ob_1 rfl) (f85  S (g1)) (zt_cast (zr_18_1 i151_21 (fun h260 => zr_0 i151_22 kc_m2 (zr_25 i151_23)) (fun h261 => zr_1_3 i151_24 (zr_0 i151_25 kc_m1 (zt_cast (zr_19_1 i151_26 (fun h262 => zr_0 i151_27 kc_m6 (zr_25 i151_28)) (fun h263 => zr_2_0 i151_29 (zr_6r i151_30 fl_0_4 (zr_cv (zs_21_0 i151_31 na_114 ob_5 rfl) (f114  S ) (zt_cast (zr_18b_0 i151_32 (fun h264 => zr_0 i151_33 kc_m11 (zr_25 i151_34)) (fun h265 => zr_2_0 i151_35 (zr_6r i151_36 fl_0_4 (zr_0 i151_37 kc_m1 (zr_0 i151_38 kc_0 (zr_1_3 i151_39 (zr_2_0 i151_40 (zr_6r i151_41 fl_0_3 (zr_1_1 i151_42 (zr_cv (zs_21_1 i151_43 na_73 ob_4 rfl) (f73 a S (g2 h259 h261 h263 h265)) (zr_cv (zs_21_4 i151_44 na_122 ob_5 rfl) (f122 (-1) 0 (S 24 ((a * 6) + b).toNatClampNeg) (S 25 a.toNatClampNeg) S (g3 h259 h261 h263 h265)) (zr_3_4 i151_45 (zr_2_0 i151_46 (zr_6r i151_47 fl_0_4 (zr_1_4 i151_48 (zr_2_0 i151_49 (zr_6 i151_50 fl_0_11 rfl (zr_0 i151_51 kc_24 (zr_0 i151_52 kc_72 (zr_cn (zs_21_4 i151_53 na_123 ob_5 rfl) (f123 (S 5 0) ((G122 (-1) 0 (S 24 ((a * 6) + b).toNatClampNeg) (S 25 a.toNatClampNeg) S) 0 11) 24 72 (G122 (-1) 0 (S 24 ((a * 6) + b).toNatClampNeg) (S 25 a.toNatClampNeg) S) (g3 h259 h261 h263 h265)) (zr_2_0 i151_54 (zr_6r i151_55 fl_0_4 (zr_1_4 i151_56 (zr_0 i151_57 kc_m1 (zr_0 i151_58 kc_15 (zr_0 i151_59 kc_0 (zr_cn (zs_21_4 i151_60 na_124 ob_5 rfl) (f124 (S 5 0) (-1) 15 0 (z_up (z_up (z_up (G122 (-1) 0 (S 24 ((a * 6) + b).toNatClampNeg) (S 25 a.toNatClampNeg) S) 34 (S 5 0).toNatClampNeg (((G122 (-1) 0 (S 24 ((a * 6) + b).toNatClampNeg) (S 25 a.toNatClampNeg) S) 0 11) + 24)) 35 (S 5 0).toNatClampNeg (((G122 (-1) 0 (S 24 ((a * 6) + b).toNatClampNeg) (S 25 a.toNatClampNeg) S) 0 11) + 72)) 36 (S 5 0).toNatClampNeg 24) (g3 h259 h261 h263 h265) (zo_0)) (zr_1_4 i151_61 (zr_25 i151_62))))))))))))))))))))))))))))) (zm_r zz_e zz_e)))))) (zm_r zz_e zz_e))))) (zm_r zz_e zz_e)))))))))))) zm_o)))))
def F199 (a b : Int32) (S : zS) : Int32 := (if ((S 1 6) = 0) then ((-2) : Int32) else (if (a = (-1)) then ((if (¬ ((S 5 0) < 40)) then ((-11) : Int32) else 0) : Int32) else (if ((¬ (a < 0)) ∧ (¬ ((S 5 0) ≤ a))) then ((if ((S 40 a.toNatClampNeg) = 0) then ((if ((S 31 a.toNatClampNeg) = 1) then ((-4) : Int32) else (if ((b &&& ((S 33 a.toNatClampNeg) ^^^ (-1))) = 0) then ((if (¬ ((S 5 0) < 40)) then ((-11) : Int32) else 0) : Int32) else (-6))) : Int32) else (-4)) : Int32) else (-4))))
set_option maxRecDepth 100000 in
theorem f199 {L : Nat} (a b : Int32) (S : zS) (g0 : zo (S 1 6)) (g1 : (¬ ((S 1 6) = 0)) → (¬ (a = (-1))) → ((¬ (a < 0)) ∧ (¬ ((S 5 0) ≤ a))) → zx 40 a) : zf L 199 [.inr (.inr 0), .inl a, .inl b] S (.inl (some (.inl (F199 a b S))), S, 0) := zf_of (en_199 _ _ _) (zr_2_0 i199_0 (zr_6r i199_1 fl_0_0 (zr_cv (zs_21_0 i199_2 na_85 ob_1 rfl) (f85  S (g0)) (zt_cast (zr_18_1 i199_3 (fun h266 => zr_0 i199_4 kc_m2 (zr_25 i199_5)) (fun h267 => zr_1_1 i199_6 (zr_0 i199_7 kc_m1 (zt_cast (zr_19_0 i199_8 (fun h268 => zr_2_0 i199_37 (zr_6r i199_38 fl_0_4 (zr_cv (zs_21_0 i199_39 na_114 ob_5 rfl) (f114  S ) (zt_trans (zt_cast (zr_18b_0 i199_40 (fun h270 => zr_0 i199_41 kc_m11 (zr_17 i199_42 (zt_rfl))) (fun h271 => zr_0 i199_43 kc_0 (zt_rfl))) (zm_c zz_s (zl_c (zl_t zz_e) zz_s) zz_s)) (zr_25 i199_44))))) (fun h269 => zr_2_0 i199_9 (zr_6r i199_10 fl_0_4 (zr_1_1 i199_11 (zr_cv (zs_21_1 i199_12 na_115 ob_5 rfl) (f115 a S ) (zt_cast (zr_18b_0 i199_13 (fun h272 => zr_2_0 i199_14 (zr_6r i199_15 fl_0_4 (zr_1_1 i199_16 (zr_cv (zs_21_1 i199_17 na_116 ob_5 rfl) (f116 a S (g1 h267 h269 h272)) (zt_cast (zr_18b_0 i199_18 (fun h274 => zr_2_0 i199_19 (zr_6r i199_20 fl_0_4 (zr_1_1 i199_21 (zr_cv (zs_21_1 i199_22 na_117 ob_5 rfl) (f117 a S (g1 h267 h269 h272)) (zt_cast (zr_18b_0 i199_23 (fun h276 => zr_0 i199_24 kc_m4 (zr_25 i199_25)) (fun h277 => zr_1_2 i199_26 (zr_2_0 i199_27 (zr_6r i199_28 fl_0_4 (zr_1_1 i199_29 (zr_cv (zs_21_1 i199_30 na_119 ob_5 rfl) (f119 a S (g1 h267 h269 h272)) (zr_0 i199_31 kc_m1 (zr_13_7 i199_32 (zr_13_5 i199_33 (zt_cast (zr_18_0 i199_34 (fun h278 => zr_2_0 i199_37 (zr_6r i199_38 fl_0_4 (zr_cv (zs_21_0 i199_39 na_114 ob_5 rfl) (f114  S ) (zt_trans (zt_cast (zr_18b_0 i199_40 (fun h280 => zr_0 i199_41 kc_m11 (zr_17 i199_42 (zt_rfl))) (fun h281 => zr_0 i199_43 kc_0 (zt_rfl))) (zm_c zz_s (zl_c (zl_t zz_e) zz_s) zz_s)) (zr_25 i199_44))))) (fun h279 => zr_0 i199_35 kc_m6 (zr_25 i199_36))) (zm_r zz_e zz_s))))))))))) (zm_r zz_e zz_s)))))) (fun h275 => zr_0 i199_24 kc_m4 (zr_25 i199_25))) (zm_r zz_e zz_s)))))) (fun h273 => zr_0 i199_24 kc_m4 (zr_25 i199_25))) (zm_r zz_e zz_s))))))) (zm_r zz_e zz_s))))) (zm_r zz_e zz_s)))))
def O152 (a b c d e f g h : Int32) (S : zS) : zRes := (if (((¬ (b < 0)) ∧ (¬ (2 < b))) ∧ ((¬ (c < 0)) ∧ (¬ (255 < c)))) then (if (((¬ (d < 1)) ∧ (¬ (100 < d))) ∧ ((¬ (e < d)) ∧ (¬ (200 < e)))) then (if (if (f = (-1)) then ((¬ (g < 1)) ∧ (¬ (15 < g))) else (((¬ (f < 1)) ∧ (¬ (20 < f))) ∧ ((¬ (g < 1)) ∧ (¬ (15 < g))))) then (.inl (some (.inl (if ((F199 a c S) = 0) then ((S 5 0) : Int32) else (F199 a c S)))), (if ((F199 a c S) = 0) then (z_up (z_up (z_up (z_up (z_up (z_up (G122 a b (if (a = (-1)) then ((-1) : Int32) else (S 32 a.toNatClampNeg)) c S) 34 (S 5 0).toNatClampNeg (((G122 a b (if (a = (-1)) then ((-1) : Int32) else (S 32 a.toNatClampNeg)) c S) 0 11) + d)) 35 (S 5 0).toNatClampNeg (((G122 a b (if (a = (-1)) then ((-1) : Int32) else (S 32 a.toNatClampNeg)) c S) 0 11) + e)) 36 (S 5 0).toNatClampNeg d) 37 (S 5 0).toNatClampNeg f) 38 (S 5 0).toNatClampNeg g) 39 (S 5 0).toNatClampNeg h) else S), 0) else (.inr 1, S, 1)) else (.inr 1, S, 1)) else (.inr 1, S, 1))
set_option maxRecDepth 100000 in
theorem f152 {L : Nat} (a b c d e f g h : Int32) (S : zS) (g0 : zo (S 1 6)) (g1 : (((¬ (b < 0)) ∧ (¬ (2 < b))) ∧ ((¬ (c < 0)) ∧ (¬ (255 < c)))) → (((¬ (d < 1)) ∧ (¬ (100 < d))) ∧ ((¬ (e < d)) ∧ (¬ (200 < e)))) → (if (f = (-1)) then ((¬ (g < 1)) ∧ (¬ (15 < g))) else (((¬ (f < 1)) ∧ (¬ (20 < f))) ∧ ((¬ (g < 1)) ∧ (¬ (15 < g))))) → (¬ ((S 1 6) = 0)) → (¬ (a = (-1))) → ((¬ (a < 0)) ∧ (¬ ((S 5 0) ≤ a))) → zx 40 a) (g2 : (((¬ (b < 0)) ∧ (¬ (2 < b))) ∧ ((¬ (c < 0)) ∧ (¬ (255 < c)))) → (((¬ (d < 1)) ∧ (¬ (100 < d))) ∧ ((¬ (e < d)) ∧ (¬ (200 < e)))) → (if (f = (-1)) then ((¬ (g < 1)) ∧ (¬ (15 < g))) else (((¬ (f < 1)) ∧ (¬ (20 < f))) ∧ ((¬ (g < 1)) ∧ (¬ (15 < g))))) → ((F199 a c S) = 0) → (¬ (a = (-1))) → zx 40 a) (g3 : (((¬ (b < 0)) ∧ (¬ (2 < b))) ∧ ((¬ (c < 0)) ∧ (¬ (255 < c)))) → (((¬ (d < 1)) ∧ (¬ (100 < d))) ∧ ((¬ (e < d)) ∧ (¬ (200 < e)))) → (if (f = (-1)) then ((¬ (g < 1)) ∧ (¬ (15 < g))) else (((¬ (f < 1)) ∧ (¬ (20 < f))) ∧ ((¬ (g < 1)) ∧ (¬ (15 < g))))) → ((F199 a c S) = 0) → zx 40 (S 5 0)) (g4 : (((¬ (b < 0)) ∧ (¬ (2 < b))) ∧ ((¬ (c < 0)) ∧ (¬ (255 < c)))) → (((¬ (d < 1)) ∧ (¬ (100 < d))) ∧ ((¬ (e < d)) ∧ (¬ (200 < e)))) → (if (f = (-1)) then ((¬ (g < 1)) ∧ (¬ (15 < g))) else (((¬ (f < 1)) ∧ (¬ (20 < f))) ∧ ((¬ (g < 1)) ∧ (¬ (15 < g))))) → ((F199 a c S) = 0) → zo h) : zf L 152 [.inr (.inr 0), .inl a, .inl b, .inl c, .inl d, .inl e, .inl f, .inl g, .inl h] S (O152 a b c d e f g h S) := zf_of (en_152 _ _ _ _ _ _ _ _ _) (zr_1_2 i152_0 (zr_0 i152_1 kc_0 (zr_0 i152_2 kc_2 (zr_cv (zs_22_3 i152_3 na_188 rfl) (f188 b 0 2 S ) (zt_trans (zt_cast (zr_18b_0 i152_4 (fun h282 => zr_1_3 i152_5 (zr_0 i152_6 kc_0 (zr_0 i152_7 kc_255 (zr_cv (zs_22_3 i152_8 na_188 rfl) (f188 c 0 255 S ) (zt_cast (zr_18b_0 i152_9 (fun h284 => zr_0 i152_10 kc_1 (zr_17 i152_11 (zt_rfl))) (fun h285 => zr_0 i152_12 kc_0 (zt_rfl))) (zm_c zz_s (zl_c (zl_t zz_10) zz_s) zz_s)))))) (fun h283 => zr_0 i152_12 kc_0 (zt_rfl))) (zm_c zz_s (zl_c (zl_t zz_b0) zz_s) zz_s)) (zt_cast (zr_dem (E := 1) (zs_22_1 i152_13 na_186 rfl) f186 th_152 (fun h286 => zr_1_4 i152_14 (zr_0 i152_15 kc_1 (zr_0 i152_16 kc_100 (zr_cv (zs_22_3 i152_17 na_188 rfl) (f188 d 1 100 S ) (zt_trans (zt_cast (zr_18b_0 i152_18 (fun h287 => zr_1_5 i152_19 (zr_1_4 i152_20 (zr_0 i152_21 kc_200 (zr_cv (zs_22_3 i152_22 na_188 rfl) (f188 e d 200 S ) (zt_cast (zr_18b_0 i152_23 (fun h289 => zr_0 i152_24 kc_1 (zr_17 i152_25 (zt_rfl))) (fun h290 => zr_0 i152_26 kc_0 (zt_rfl))) (zm_c zz_s (zl_c (zl_t zz_10) zz_s) zz_s)))))) (fun h288 => zr_0 i152_26 kc_0 (zt_rfl))) (zm_c zz_s (zl_c (zl_t zz_b0) zz_s) zz_s)) (zt_cast (zr_dem (E := 1) (zs_22_1 i152_27 na_186 rfl) f186 th_152 (fun h291 => zr_1_6 i152_28 (zr_0 i152_29 kc_m1 (zt_trans (zt_cast (zr_19_0 i152_30 (fun h292 => zr_1_7 i152_36 (zr_0 i152_37 kc_1 (zr_0 i152_38 kc_15 (zr_cv (zs_22_3 i152_39 na_188 rfl) (f188 g 1 15 S ) (zt_cast (zr_18b_0 i152_40 (fun h294 => zr_0 i152_41 kc_1 (zr_17 i152_42 (zt_rfl))) (fun h295 => zr_0 i152_43 kc_0 (zt_rfl))) (zm_c zz_s (zl_c (zl_t zz_10) zz_s) zz_s)))))) (fun h293 => zr_1_6 i152_31 (zr_0 i152_32 kc_1 (zr_0 i152_33 kc_20 (zr_cv (zs_22_3 i152_34 na_188 rfl) (f188 f 1 20 S ) (zt_cast (zr_18b_0 i152_35 (fun h296 => zr_1_7 i152_36 (zr_0 i152_37 kc_1 (zr_0 i152_38 kc_15 (zr_cv (zs_22_3 i152_39 na_188 rfl) (f188 g 1 15 S ) (zt_cast (zr_18b_0 i152_40 (fun h298 => zr_0 i152_41 kc_1 (zr_17 i152_42 (zt_rfl))) (fun h299 => zr_0 i152_43 kc_0 (zt_rfl))) (zm_c zz_s (zl_c (zl_t zz_10) zz_s) zz_s)))))) (fun h297 => zr_0 i152_43 kc_0 (zt_rfl))) (zm_c zz_s (zl_c (zl_t zz_b0) zz_s) zz_s))))))) (zm_c zz_s (zl_c (zl_t zz_bb) zz_s) zz_s)) (zt_cast (zr_dem (E := 1) (zs_22_1 i152_44 na_186 rfl) f186 th_152 (fun h300 => zr_2_0 i152_45 (zr_1_1 i152_46 (zr_1_3 i152_47 (zr_cv (zs_21_2 i152_48 na_199 ob_0 rfl) (f199 a c S (g0) (fun h301 h302 h303 => (g1 h286 h291 h300 h301 h302 h303))) (zr_3_9 i152_49 (zr_1_9 i152_50 (zt_cast (zr_18_0 i152_51 (fun h304 => zr_2_0 i152_54 (zr_6r i152_55 fl_0_4 (zr_1_1 i152_56 (zr_1_2 i152_57 (zr_1_1 i152_58 (zr_0 i152_59 kc_m1 (zt_trans (zt_cast (zr_19_1 i152_60 (fun h306 => zr_0 i152_61 kc_m1 (zr_17 i152_62 (zt_rfl))) (fun h307 => zr_2_0 i152_63 (zr_6r i152_64 fl_0_4 (zr_1_1 i152_65 (zr_cv (zs_21_1 i152_66 na_118 ob_5 rfl) (f118 a S (g2 h286 h291 h300 h304 h307)) (zt_rfl)))))) (zm_c zz_s (zl_c (zl_t zz_e) zz_s) zz_s)) (zr_1_3 i152_67 (zr_cv (zs_21_4 i152_68 na_122 ob_5 rfl) (f122 a b (if (a = (-1)) then ((-1) : Int32) else (S 32 a.toNatClampNeg)) c S (g3 h286 h291 h300 h304)) (zr_3_10 i152_69 (zr_2_0 i152_70 (zr_6r i152_71 fl_0_4 (zr_1_10 i152_72 (zr_2_0 i152_73 (zr_6 i152_74 fl_0_11 rfl (zr_1_4 i152_75 (zr_1_5 i152_76 (zr_cn (zs_21_4 i152_77 na_123 ob_5 rfl) (f123 (S 5 0) ((G122 a b (if (a = (-1)) then ((-1) : Int32) else (S 32 a.toNatClampNeg)) c S) 0 11) d e (G122 a b (if (a = (-1)) then ((-1) : Int32) else (S 32 a.toNatClampNeg)) c S) (g3 h286 h291 h300 h304)) (zr_2_0 i152_78 (zr_6r i152_79 fl_0_4 (zr_1_10 i152_80 (zr_1_6 i152_81 (zr_1_7 i152_82 (zr_1_8 i152_83 (zr_cn (zs_21_4 i152_84 na_124 ob_5 rfl) (f124 (S 5 0) f g h (z_up (z_up (z_up (G122 a b (if (a = (-1)) then ((-1) : Int32) else (S 32 a.toNatClampNeg)) c S) 34 (S 5 0).toNatClampNeg (((G122 a b (if (a = (-1)) then ((-1) : Int32) else (S 32 a.toNatClampNeg)) c S) 0 11) + d)) 35 (S 5 0).toNatClampNeg (((G122 a b (if (a = (-1)) then ((-1) : Int32) else (S 32 a.toNatClampNeg)) c S) 0 11) + e)) 36 (S 5 0).toNatClampNeg d) (g3 h286 h291 h300 h304) (g4 h286 h291 h300 h304)) (zr_1_10 i152_85 (zr_25 i152_86))))))))))))))))))))))))))) (fun h305 => zr_1_9 i152_52 (zr_25 i152_53))) (zm_r zz_e zz_e))))))))) zm_o))))) zm_o))))))) zm_o))))))
def O153 (a b : Int32) (S : zS) : zRes := (if ((¬ (a < 0)) ∧ (¬ ((S 5 0) ≤ a))) then (if ((¬ (b < 1)) ∧ (¬ (100 < b))) then (.inl (some (.inl (if ((S 1 6) = 0) then ((-2) : Int32) else (if ((S 40 a.toNatClampNeg) = 0) then ((if ((S 31 a.toNatClampNeg) = 1) then ((-4) : Int32) else (if ((S 31 a.toNatClampNeg) = 2) then (((S 0 11) + (S 36 a.toNatClampNeg)) : Int32) else (zmin ((S 0 11) + b) (S 35 a.toNatClampNeg)))) : Int32) else (-4))))), (if ((S 1 6) = 0) then S else (if ((S 40 a.toNatClampNeg) = 0) then (if ((S 31 a.toNatClampNeg) = 1) then S else (z_up S 34 a.toNatClampNeg (if ((S 31 a.toNatClampNeg) = 2) then (((S 0 11) + (S 36 a.toNatClampNeg)) : Int32) else (zmin ((S 0 11) + b) (S 35 a.toNatClampNeg))))) else S)), 0) else (.inr 1, S, 1)) else (.inr 0, S, 1))
set_option maxRecDepth 100000 in
theorem f153 {L : Nat} (a b : Int32) (S : zS) (g0 : zo (S 1 6)) (g1 : ((¬ (a < 0)) ∧ (¬ ((S 5 0) ≤ a))) → ((¬ (b < 1)) ∧ (¬ (100 < b))) → (¬ ((S 1 6) = 0)) → zx 40 a) : zf L 153 [.inr (.inr 0), .inl a, .inl b] S (O153 a b S) := zf_of (en_153 _ _ _) (zr_2_0 i153_0 (zr_6r i153_1 fl_0_4 (zr_1_1 i153_2 (zr_cv (zs_21_1 i153_3 na_115 ob_5 rfl) (f115 a S ) (zt_cast (zr_dem (E := 0) (zs_22_1 i153_4 na_185 rfl) f185 th_153 (fun h308 => zr_1_2 i153_5 (zr_0 i153_6 kc_1 (zr_0 i153_7 kc_100 (zr_cv (zs_22_3 i153_8 na_188 rfl) (f188 b 1 100 S ) (zt_cast (zr_dem (E := 1) (zs_22_1 i153_9 na_186 rfl) f186 th_153 (fun h309 => zr_2_0 i153_10 (zr_6r i153_11 fl_0_0 (zr_cv (zs_21_0 i153_12 na_85 ob_1 rfl) (f85  S (g0)) (zt_cast (zr_18_1 i153_13 (fun h310 => zr_0 i153_14 kc_m2 (zr_25 i153_15)) (fun h311 => zr_2_0 i153_16 (zr_6r i153_17 fl_0_4 (zr_1_1 i153_18 (zr_cv (zs_21_1 i153_19 na_116 ob_5 rfl) (f116 a S (g1 h308 h309 h311)) (zt_cast (zr_18b_0 i153_20 (fun h312 => zr_2_0 i153_21 (zr_6r i153_22 fl_0_4 (zr_1_1 i153_23 (zr_cv (zs_21_1 i153_24 na_117 ob_5 rfl) (f117 a S (g1 h308 h309 h311)) (zt_cast (zr_18b_0 i153_25 (fun h314 => zr_0 i153_26 kc_m4 (zr_25 i153_27)) (fun h315 => zr_2_0 i153_28 (zr_6r i153_29 fl_0_4 (zr_1_1 i153_30 (zr_2_0 i153_31 (zr_6 i153_32 fl_0_11 rfl (zr_1_2 i153_33 (zr_cv (zs_21_3 i153_34 na_125 ob_5 rfl) (f125 a (S 0 11) b S (g1 h308 h309 h311)) (zr_25 i153_35))))))))) (zm_r zz_e zz_e)))))) (fun h313 => zr_0 i153_26 kc_m4 (zr_25 i153_27))) (zm_r zz_e zz_e))))))) (zm_r zz_e zz_e)))))) zm_o)))))) zm_o)))))
set_option maxRecDepth 100000 in
theorem f155 {L : Nat} (a : Int32) (S : zS) (g0 : ((¬ (a < 0)) ∧ (¬ ((S 5 0) ≤ a))) → zx 40 a) : zf L 155 [.inr (.inr 0), .inl a] S (if ((¬ (a < 0)) ∧ (¬ ((S 5 0) ≤ a))) then (.inl (some (.inl (S 37 a.toNatClampNeg))), S, 0) else (.inr 0, S, 1)) := zf_of (en_155 _ _) (zr_2_0 i155_0 (zr_6r i155_1 fl_0_4 (zr_1_1 i155_2 (zr_cv (zs_21_1 i155_3 na_115 ob_5 rfl) (f115 a S ) (zt_cast (zr_dem (E := 0) (zs_22_1 i155_4 na_185 rfl) f185 th_155 (fun h316 => zr_2_0 i155_5 (zr_6r i155_6 fl_0_4 (zr_1_1 i155_7 (zr_cv (zs_21_1 i155_8 na_121 ob_5 rfl) (f121 a S (g0 h316)) (zr_25 i155_9)))))) zm_o)))))
set_option maxRecDepth 100000 in
theorem f156 {L : Nat} (a : Int32) (S : zS) (g0 : ((¬ (a < 0)) ∧ (¬ ((S 5 0) ≤ a))) → zx 40 a) : zf L 156 [.inr (.inr 0), .inl a] S (if ((¬ (a < 0)) ∧ (¬ ((S 5 0) ≤ a))) then (.inl (some (.inl (zb ((S 40 a.toNatClampNeg) = 0)))), S, 0) else (.inr 0, S, 1)) := zf_of (en_156 _ _) (zr_2_0 i156_0 (zr_6r i156_1 fl_0_4 (zr_1_1 i156_2 (zr_cv (zs_21_1 i156_3 na_115 ob_5 rfl) (f115 a S ) (zt_cast (zr_dem (E := 0) (zs_22_1 i156_4 na_185 rfl) f185 th_156 (fun h317 => zr_2_0 i156_5 (zr_6r i156_6 fl_0_4 (zr_1_1 i156_7 (zr_cv (zs_21_1 i156_8 na_116 ob_5 rfl) (f116 a S (g0 h317)) (zr_26 i156_9 (zb_01 _))))))) zm_o)))))
set_option maxRecDepth 100000 in
theorem f192 {L : Nat} (a : Int32) (S : zS) : zf L 192 [.inl a] S (.inl (some (.inl (zb ((¬ (a < 0)) ∧ (¬ (4 ≤ a)))))), S, 0) := zf_of (en_192 _) (zr_1_0 i192_0 (zr_0 i192_1 kc_4 (zr_cv (zs_22_2 i192_2 na_189 rfl) (f189 a 4 S ) (zr_26 i192_3 (zb_01 _)))))
set_option maxRecDepth 100000 in
theorem f191 {L : Nat} (a : Int32) (S : zS) : zf L 191 [.inl a] S (.inl (some (.inl (zb ((¬ (a < 0)) ∧ (¬ (216 ≤ a)))))), S, 0) := zf_of (en_191 _) (zr_1_0 i191_0 (zr_0 i191_1 kc_216 (zr_cv (zs_22_2 i191_2 na_189 rfl) (f189 a 216 S ) (zr_26 i191_3 (zb_01 _)))))
set_option maxRecDepth 100000 in
theorem f193 {L : Nat} (a : Int32) (S : zS) : zf L 193 [.inl a] S (.inl (some (.inl (zb ((¬ (a < 0)) ∧ (¬ (9999 < a)))))), S, 0) := zf_of (en_193 _) (zr_1_0 i193_0 (zr_0 i193_1 kc_0 (zr_0 i193_2 kc_9999 (zr_cv (zs_22_3 i193_3 na_188 rfl) (f188 a 0 9999 S ) (zr_26 i193_4 (zb_01 _))))))
set_option maxRecDepth 100000 in
theorem f195 {L : Nat} (a : Int32) (S : zS) : zf L 195 [.inl a] S (.inl (some (.inl (a / 36))), S, 0) := zf_of (en_195 _) (zr_1_0 i195_0 (zr_0 i195_1 kc_36 (zr_13_3 i195_2 nz_36 (zr_25 i195_3))))
set_option maxRecDepth 100000 in
theorem f201 {L : Nat} (a b : Int32) (S : zS) (g0 : zx 6 (a / 36)) (g1 : ((S 16 (a / 36).toNatClampNeg) = 0) → zx 216 a) (g2 : ((S 16 (a / 36).toNatClampNeg) = 0) → (¬ ((F107 a b S) = (-1))) → zx 864 (F107 a b S)) : zf L 201 [.inr (.inr 0), .inl a, .inl b] S (.inl (some (.inl (if ((S 16 (a / 36).toNatClampNeg) = 0) then ((F110 a b (S 2 3) S) : Int32) else (-13)))), S, 0) := zf_of (en_201 _ _ _) (zr_2_0 i201_0 (zr_6r i201_1 fl_0_2 (zr_1_1 i201_2 (zr_cv (zs_22_1 i201_3 na_195 rfl) (f195 a S ) (zr_cv (zs_21_1 i201_4 na_8 ob_3 rfl) (f8 (a / 36) S (g0)) (zt_cast (zr_18_0 i201_5 (fun h318 => zr_2_0 i201_8 (zr_6r i201_9 fl_0_6 (zr_1_1 i201_10 (zr_1_2 i201_11 (zr_2_0 i201_12 (zr_6r i201_13 fl_0_1 (zr_cv (zs_21_0 i201_14 na_38 ob_2 rfl) (f38  S ) (zr_cv (zs_21_3 i201_15 na_110 ob_7 rfl) (f110 a b (S 2 3) S (g1 h318) (fun h320 => (g2 h318 h320))) (zr_25 i201_16))))))))) (fun h319 => zr_0 i201_6 kc_m13 (zr_25 i201_7))) (zm_r zz_e zz_s)))))))
set_option maxRecDepth 100000 in
theorem b203_24 {L : Nat} (x1 x2 x3 y0 : Int32) (S : zS) (g0 : ((S 8 5) < 512) → zx 512 (S 8 5)) (g1 : zx 216 x1) (g2 : zx 864 ((x1 * 4) + (F323 (((G19 x1 0 x2 y0 S) 51 x1.toNatClampNeg) + 1) 4 (G19 x1 0 x2 y0 S)))) : zt L 203 24 [some (.inr (.inr 0)), some (.inl x1), some (.inl x2), some (.inl x3), none] [.inl y0] S (.inr (.inl (some (.inl (((G19 x1 0 x2 y0 S) 51 x1.toNatClampNeg) + 1))), (G108 x1 x2 y0 (G19 x1 0 x2 y0 S)), 0)) := zr_3_4 i203_24 (zr_2_0 i203_25 (zr_6r i203_26 fl_0_7 (zr_1_1 i203_27 (zr_1_2 i203_28 (zr_1_4 i203_29 (zr_cn (zs_21_3 i203_30 na_15 ob_8 rfl) (f15 x1 x2 y0 S (fun h325 => (g0 h325))) (zr_2_0 i203_31 (zr_6r i203_32 fl_0_6 (zr_1_1 i203_33 (zr_1_2 i203_34 (zr_1_4 i203_35 (zr_cv (zs_21_3 i203_36 na_108 ob_7 rfl) (f108 x1 x2 y0 (G19 x1 0 x2 y0 S) (g1) (g2)) (zr_25 i203_37)))))))))))))
set_option maxRecDepth 100000 in
theorem w_G41_8_5 (a : Int32) (S : zS) : G41 a S 8 5 = S 8 5 := (show (z_up (if ((S 2 4) ≤ (S 2 1)) then (z_up (z_up (z_up S 2 0 ((S 2 0) + 1)) 2 1 0) 2 2 a) else (if ((a - (S 2 2)) < (S 2 5)) then S else (z_up (z_up (z_up S 2 0 ((S 2 0) + 1)) 2 1 0) 2 2 a))) 2 1 (((if ((S 2 4) ≤ (S 2 1)) then (z_up (z_up (z_up S 2 0 ((S 2 0) + 1)) 2 1 0) 2 2 a) else (if ((a - (S 2 2)) < (S 2 5)) then S else (z_up (z_up (z_up S 2 0 ((S 2 0) + 1)) 2 1 0) 2 2 a))) 2 1) + 1)) 8 5 = S 8 5 from ((zupci rfl).trans (zite_rd ((zupci rfl).trans ((zupci rfl).trans (zupci rfl))) (zite_rd rfl ((zupci rfl).trans ((zupci rfl).trans (zupci rfl)))))))
def F203 (a b c : Int32) (S : zS) : Int32 := (if ((S 16 (a / 36).toNatClampNeg) = 0) then ((if (c = (-1)) then ((((G19 a 0 b (F41 (S 0 11) S) (G41 (S 0 11) S)) 51 a.toNatClampNeg) + 1) : Int32) else (if (c = (S 51 a.toNatClampNeg)) then ((((G19 a 0 b (F41 (S 0 11) S) (G41 (S 0 11) S)) 51 a.toNatClampNeg) + 1) : Int32) else (-8))) : Int32) else (-13))
def G203 (a b c : Int32) (S : zS) : zS := (if ((S 16 (a / 36).toNatClampNeg) = 0) then (if (c = (-1)) then (G108 a b (F41 (S 0 11) S) (G19 a 0 b (F41 (S 0 11) S) (G41 (S 0 11) S))) else (if (c = (S 51 a.toNatClampNeg)) then (G108 a b (F41 (S 0 11) S) (G19 a 0 b (F41 (S 0 11) S) (G41 (S 0 11) S))) else S)) else S)
set_option maxRecDepth 100000 in
theorem f203 {L : Nat} (a b c : Int32) (S : zS) (g0 : zx 6 (a / 36)) (g1 : ((S 16 (a / 36).toNatClampNeg) = 0) → (c = (-1)) → (((G41 (S 0 11) S) 8 5) < 512) → zx 512 (S 8 5)) (g2 : ((S 16 (a / 36).toNatClampNeg) = 0) → (c = (-1)) → zx 216 a) (g3 : ((S 16 (a / 36).toNatClampNeg) = 0) → (c = (-1)) → zx 864 ((a * 4) + (F323 (((G19 a 0 b (F41 (S 0 11) S) (G41 (S 0 11) S)) 51 a.toNatClampNeg) + 1) 4 (G19 a 0 b (F41 (S 0 11) S) (G41 (S 0 11) S))))) (g4 : ((S 16 (a / 36).toNatClampNeg) = 0) → (¬ (c = (-1))) → zx 216 a) (g5 : ((S 16 (a / 36).toNatClampNeg) = 0) → (¬ (c = (-1))) → (c = (S 51 a.toNatClampNeg)) → (((G41 (S 0 11) S) 8 5) < 512) → zx 512 (S 8 5)) (g6 : ((S 16 (a / 36).toNatClampNeg) = 0) → (¬ (c = (-1))) → (c = (S 51 a.toNatClampNeg)) → zx 864 ((a * 4) + (F323 (((G19 a 0 b (F41 (S 0 11) S) (G41 (S 0 11) S)) 51 a.toNatClampNeg) + 1) 4 (G19 a 0 b (F41 (S 0 11) S) (G41 (S 0 11) S))))) : zf L 203 [.inr (.inr 0), .inl a, .inl b, .inl c] S (.inl (some (.inl (F203 a b c S))), (G203 a b c S), 0) := zf_of (en_203 _ _ _ _) (zr_2_0 i203_0 (zr_6r i203_1 fl_0_2 (zr_1_1 i203_2 (zr_cv (zs_22_1 i203_3 na_195 rfl) (f195 a S ) (zr_cv (zs_21_1 i203_4 na_8 ob_3 rfl) (f8 (a / 36) S (g0)) (zt_cast (zr_18_0 i203_5 (fun h321 => zr_1_3 i203_8 (zr_0 i203_9 kc_m1 (zt_cast (zr_19_0 i203_10 (fun h323 => zr_2_0 i203_19 (zr_6r i203_20 fl_0_1 (zr_2_0 i203_21 (zr_6 i203_22 fl_0_11 rfl (zr_cv (zs_21_1 i203_23 na_41 ob_2 rfl) (f41 (S 0 11) S ) (b203_24 a b c (F41 (S 0 11) S) (G41 (S 0 11) S) (fun h326 => (zxv (w_G41_8_5 _ _) (g1 h321 h323 h326))) (g2 h321 h323) (g3 h321 h323))))))) (fun h324 => zr_1_3 i203_11 (zr_2_0 i203_12 (zr_6r i203_13 fl_0_6 (zr_1_1 i203_14 (zr_cv (zs_21_1 i203_15 na_104 ob_7 rfl) (f104 a S (g4 h321 h324)) (zt_cast (zr_19_0 i203_16 (fun h327 => zr_2_0 i203_19 (zr_6r i203_20 fl_0_1 (zr_2_0 i203_21 (zr_6 i203_22 fl_0_11 rfl (zr_cv (zs_21_1 i203_23 na_41 ob_2 rfl) (f41 (S 0 11) S ) (b203_24 a b c (F41 (S 0 11) S) (G41 (S 0 11) S) (fun h329 => (zxv (w_G41_8_5 _ _) (g5 h321 h324 h327 h329))) (g4 h321 h324) (g6 h321 h324 h327))))))) (fun h328 => zr_0 i203_17 kc_m8 (zr_25 i203_18))) (zm_r zz_e zz_e)))))))) (zm_r zz_e zz_e)))) (fun h322 => zr_0 i203_6 kc_m13 (zr_25 i203_7))) (zm_r zz_e zz_e)))))))
def F204 (a b c : Int32) (S : zS) : Int32 := (if ((S 16 (a / 36).toNatClampNeg) = 0) then ((if ((F107 a b S) = (-1)) then ((-7) : Int32) else (if ((S 54 (F107 a b S).toNatClampNeg) = 2) then ((-7) : Int32) else ((G19 a (if (b = 0) then ((S 51 a.toNatClampNeg) : Int32) else b) c 0 S) 54 (F107 a b S).toNatClampNeg))) : Int32) else (-13))
def G204 (a b c : Int32) (S : zS) : zS := (if ((S 16 (a / 36).toNatClampNeg) = 0) then (if ((F107 a b S) = (-1)) then S else (if ((S 54 (F107 a b S).toNatClampNeg) = 2) then S else (if (c = 2) then (z_up (z_up (G19 a (if (b = 0) then ((S 51 a.toNatClampNeg) : Int32) else b) c 0 S) 54 (F107 a b S).toNatClampNeg c) 52 (F107 a b S).toNatClampNeg (-1)) else (z_up (G19 a (if (b = 0) then ((S 51 a.toNatClampNeg) : Int32) else b) c 0 S) 54 (F107 a b S).toNatClampNeg c)))) else S)
set_option maxRecDepth 100000 in
theorem f204 {L : Nat} (a b c : Int32) (S : zS) (g0 : zx 6 (a / 36)) (g1 : ((S 16 (a / 36).toNatClampNeg) = 0) → zx 216 a) (g2 : ((S 16 (a / 36).toNatClampNeg) = 0) → (¬ ((F107 a b S) = (-1))) → zx 864 (F107 a b S)) (g3 : ((S 16 (a / 36).toNatClampNeg) = 0) → (¬ ((F107 a b S) = (-1))) → (¬ ((S 54 (F107 a b S).toNatClampNeg) = 2)) → ((S 8 5) < 512) → zx 512 (S 8 5)) : zf L 204 [.inr (.inr 0), .inl a, .inl b, .inl c] S (.inl (some (.inl (F204 a b c S))), (G204 a b c S), 0) := zf_of (en_204 _ _ _ _) (zr_2_0 i204_0 (zr_6r i204_1 fl_0_2 (zr_1_1 i204_2 (zr_cv (zs_22_1 i204_3 na_195 rfl) (f195 a S ) (zr_cv (zs_21_1 i204_4 na_8 ob_3 rfl) (f8 (a / 36) S (g0)) (zt_cast (zr_18_0 i204_5 (fun h330 => zr_2_0 i204_8 (zr_6r i204_9 fl_0_6 (zr_1_1 i204_10 (zr_1_2 i204_11 (zr_cv (zs_21_2 i204_12 na_107 ob_7 rfl) (f107 a b S (g1 h330)) (zr_3_4 i204_13 (zr_1_4 i204_14 (zr_0 i204_15 kc_m1 (zt_cast (zr_19_0 i204_16 (fun h332 => zr_0 i204_23 kc_m7 (zr_25 i204_24)) (fun h333 => zr_2_0 i204_17 (zr_6r i204_18 fl_0_6 (zr_1_4 i204_19 (zr_cv (zs_21_1 i204_20 na_105 ob_7 rfl) (f105 (F107 a b S) S (g2 h330 h333)) (zr_0 i204_21 kc_2 (zt_cast (zr_19_1 i204_22 (fun h334 => zr_0 i204_23 kc_m7 (zr_25 i204_24)) (fun h335 => zr_2_0 i204_25 (zr_6r i204_26 fl_0_7 (zr_1_1 i204_27 (zr_1_2 i204_28 (zt_trans (zt_cast (zr_18_1 i204_29 (fun h336 => zr_2_0 i204_30 (zr_6r i204_31 fl_0_6 (zr_1_1 i204_32 (zr_cv (zs_21_1 i204_33 na_104 ob_7 rfl) (f104 a S (g1 h330)) (zr_17 i204_34 (zt_rfl)))))) (fun h337 => zr_1_2 i204_35 (zt_rfl))) (zm_c zz_s (zl_c (zl_t zz_e) zz_s) zz_s)) (zr_1_3 i204_36 (zr_cn (zs_21_3 i204_37 na_16 ob_8 rfl) (f16 a (if (b = 0) then ((S 51 a.toNatClampNeg) : Int32) else b) c S (fun h338 => (g3 h330 h333 h335 h338))) (zr_2_0 i204_38 (zr_6r i204_39 fl_0_6 (zr_1_4 i204_40 (zr_1_3 i204_41 (zr_cv (zs_21_2 i204_42 na_109 ob_7 rfl) (f109 (F107 a b S) c (G19 a (if (b = 0) then ((S 51 a.toNatClampNeg) : Int32) else b) c 0 S) (g2 h330 h333)) (zr_25 i204_43)))))))))))))) (zm_r zz_e zz_e)))))))) (zm_r zz_e zz_e)))))))))) (fun h331 => zr_0 i204_6 kc_m13 (zr_25 i204_7))) (zm_r zz_e zz_e)))))))
set_option maxRecDepth 100000 in
theorem f161 {L : Nat} (a b : Int32) (S : zS) (g0 : (((¬ (a < 0)) ∧ (¬ (216 ≤ a))) ∧ ((¬ (b < 0)) ∧ (¬ (9999 < b)))) → zx 216 a) (g1 : (((¬ (a < 0)) ∧ (¬ (216 ≤ a))) ∧ ((¬ (b < 0)) ∧ (¬ (9999 < b)))) → (¬ ((F107 a b S) = (-1))) → zx 864 (F107 a b S)) : zf L 161 [.inr (.inr 0), .inl a, .inl b] S (if (((¬ (a < 0)) ∧ (¬ (216 ≤ a))) ∧ ((¬ (b < 0)) ∧ (¬ (9999 < b)))) then (.inl (some (.inl (if ((F107 a b S) = (-1)) then ((-1) : Int32) else (if ((S 54 (F107 a b S).toNatClampNeg) = 2) then ((-1) : Int32) else (S 53 (F107 a b S).toNatClampNeg))))), S, 0) else (.inr 1, S, 1)) := zf_of (en_161 _ _ _) (zr_1_1 i161_0 (zr_cv (zs_22_1 i161_1 na_191 rfl) (f191 a S ) (zt_trans (zt_cast (zr_18b_0 i161_2 (fun h339 => zr_1_2 i161_3 (zr_cv (zs_22_1 i161_4 na_193 rfl) (f193 b S ) (zt_cast (zr_18b_0 i161_5 (fun h341 => zr_0 i161_6 kc_1 (zr_17 i161_7 (zt_rfl))) (fun h342 => zr_0 i161_8 kc_0 (zt_rfl))) (zm_c zz_s (zl_c (zl_t zz_10) zz_s) zz_s)))) (fun h340 => zr_0 i161_8 kc_0 (zt_rfl))) (zm_c zz_s (zl_c (zl_t zz_b0) zz_s) zz_s)) (zt_cast (zr_dem (E := 1) (zs_22_1 i161_9 na_186 rfl) f186 th_161 (fun h343 => zr_2_0 i161_10 (zr_6r i161_11 fl_0_6 (zr_1_1 i161_12 (zr_1_2 i161_13 (zr_cv (zs_21_2 i161_14 na_107 ob_7 rfl) (f107 a b S (g0 h343)) (zr_3_3 i161_15 (zr_1_3 i161_16 (zr_0 i161_17 kc_m1 (zt_trans (zt_cast (zr_19_0 i161_18 (fun h344 => zr_0 i161_25 kc_m1 (zr_17 i161_26 (zt_rfl))) (fun h345 => zr_2_0 i161_19 (zr_6r i161_20 fl_0_6 (zr_1_3 i161_21 (zr_cv (zs_21_1 i161_22 na_105 ob_7 rfl) (f105 (F107 a b S) S (g1 h343 h345)) (zr_0 i161_23 kc_2 (zt_cast (zr_19_1 i161_24 (fun h346 => zr_0 i161_25 kc_m1 (zr_17 i161_26 (zt_rfl))) (fun h347 => zr_2_0 i161_27 (zr_6r i161_28 fl_0_6 (zr_1_3 i161_29 (zr_cv (zs_21_1 i161_30 na_106 ob_7 rfl) (f106 (F107 a b S) S (g1 h343 h345)) (zt_rfl)))))) (zm_c zz_s (zl_c (zl_t zz_e) zz_s) zz_s)))))))) (zm_c zz_s (zl_c (zl_t zz_e) zz_s) zz_s)) (zr_25 i161_31))))))))))) zm_o))))
set_option maxRecDepth 100000 in
theorem f162 {L : Nat} (a b : Int32) (S : zS) (g0 : ((¬ (a < 0)) ∧ (¬ (3 ≤ a))) → ((¬ (b < 0)) ∧ (¬ (2 < b))) → zx 3 a) : zf L 162 [.inr (.inr 0), .inl a, .inl b] S (if ((¬ (a < 0)) ∧ (¬ (3 ≤ a))) then (if ((¬ (b < 0)) ∧ (¬ (2 < b))) then (.inl (some (.inl (S 48 a.toNatClampNeg))), (z_up S 48 a.toNatClampNeg b), 0) else (.inr 1, S, 1)) else (.inr 0, S, 1)) := zf_of (en_162 _ _ _) (zr_1_1 i162_0 (zr_0 i162_1 kc_3 (zr_cv (zs_22_2 i162_2 na_189 rfl) (f189 a 3 S ) (zt_cast (zr_dem (E := 0) (zs_22_1 i162_3 na_185 rfl) f185 th_162 (fun h348 => zr_1_2 i162_4 (zr_0 i162_5 kc_0 (zr_0 i162_6 kc_2 (zr_cv (zs_22_3 i162_7 na_188 rfl) (f188 b 0 2 S ) (zt_cast (zr_dem (E := 1) (zs_22_1 i162_8 na_186 rfl) f186 th_162 (fun h349 => zr_2_0 i162_9 (zr_6r i162_10 fl_0_5 (zr_1_1 i162_11 (zr_1_2 i162_12 (zr_cv (zs_21_2 i162_13 na_48 ob_6 rfl) (f48 a b S (g0 h348 h349)) (zr_25 i162_14))))))) zm_o)))))) zm_o))))
set_option maxRecDepth 100000 in
theorem w_G49_6_0 (a : Int32) (S : zS) : G49 a S 6 0 = S 6 0 := (show (if ((S 48 a.toNatClampNeg) = 1) then S else (if ((S 48 a.toNatClampNeg) = 2) then (z_up (z_up S 49 a.toNatClampNeg ((S 49 a.toNatClampNeg) + 1)) 50 a.toNatClampNeg ((S 50 a.toNatClampNeg) + 1)) else (z_up S 49 a.toNatClampNeg ((S 49 a.toNatClampNeg) + 1)))) 6 0 = S 6 0 from (zite_rd rfl (zite_rd ((zupci rfl).trans (zupci rfl)) (zupci rfl))))
def F205 (a b c d : Int32) (S : zS) : Int32 := (if ((S 16 (b / 36).toNatClampNeg) = 1) then ((if (¬ ((S 6 0) < 40)) then ((-11) : Int32) else (if ((¬ ((S 48 (S 17 (b / 36).toNatClampNeg).toNatClampNeg) = 1)) ∧ (¬ ((S 48 (S 17 (b / 36).toNatClampNeg).toNatClampNeg) = 2))) then (((G49 (S 17 (b / 36).toNatClampNeg) S) 6 0) : Int32) else (-12))) : Int32) else (-13))
def G205 (a b c d : Int32) (S : zS) : zS := (if ((S 16 (b / 36).toNatClampNeg) = 1) then (if (¬ ((S 6 0) < 40)) then S else (if ((¬ ((S 48 (S 17 (b / 36).toNatClampNeg).toNatClampNeg) = 1)) ∧ (¬ ((S 48 (S 17 (b / 36).toNatClampNeg).toNatClampNeg) = 2))) then (z_up (z_up (G50 a b (S 17 (b / 36).toNatClampNeg) (G49 (S 17 (b / 36).toNatClampNeg) S)) 44 ((G49 (S 17 (b / 36).toNatClampNeg) S) 6 0).toNatClampNeg (zmin (((G50 a b (S 17 (b / 36).toNatClampNeg) (G49 (S 17 (b / 36).toNatClampNeg) S)) 0 11) + c) ((G50 a b (S 17 (b / 36).toNatClampNeg) (G49 (S 17 (b / 36).toNatClampNeg) S)) 34 a.toNatClampNeg))) 45 ((G49 (S 17 (b / 36).toNatClampNeg) S) 6 0).toNatClampNeg (((G50 a b (S 17 (b / 36).toNatClampNeg) (G49 (S 17 (b / 36).toNatClampNeg) S)) 0 11) + d)) else (G49 (S 17 (b / 36).toNatClampNeg) S))) else S)
set_option maxRecDepth 100000 in
theorem f205 {L : Nat} (a b c d : Int32) (S : zS) (g0 : zx 6 (b / 36)) (g1 : ((S 16 (b / 36).toNatClampNeg) = 1) → (¬ (¬ ((S 6 0) < 40))) → zx 3 (S 17 (b / 36).toNatClampNeg)) (g2 : ((S 16 (b / 36).toNatClampNeg) = 1) → (¬ (¬ ((S 6 0) < 40))) → ((¬ ((S 48 (S 17 (b / 36).toNatClampNeg).toNatClampNeg) = 1)) ∧ (¬ ((S 48 (S 17 (b / 36).toNatClampNeg).toNatClampNeg) = 2))) → zx 40 (S 6 0)) (g3 : ((S 16 (b / 36).toNatClampNeg) = 1) → (¬ (¬ ((S 6 0) < 40))) → ((¬ ((S 48 (S 17 (b / 36).toNatClampNeg).toNatClampNeg) = 1)) ∧ (¬ ((S 48 (S 17 (b / 36).toNatClampNeg).toNatClampNeg) = 2))) → zx 40 a) : zf L 205 [.inr (.inr 0), .inl a, .inl b, .inl c, .inl d] S (.inl (some (.inl (F205 a b c d S))), (G205 a b c d S), 0) := zf_of (en_205 _ _ _ _ _) (zr_1_2 i205_0 (zr_cv (zs_22_1 i205_1 na_195 rfl) (f195 b S ) (zr_3_5 i205_2 (zr_2_0 i205_3 (zr_6r i205_4 fl_0_2 (zr_1_5 i205_5 (zr_cv (zs_21_1 i205_6 na_8 ob_3 rfl) (f8 (b / 36) S (g0)) (zr_0 i205_7 kc_1 (zt_cast (zr_19_0 i205_8 (fun h350 => zr_2_0 i205_11 (zr_6r i205_12 fl_0_5 (zr_cv (zs_21_0 i205_13 na_42 ob_6 rfl) (f42  S ) (zt_cast (zr_18b_0 i205_14 (fun h352 => zr_0 i205_15 kc_m11 (zr_25 i205_16)) (fun h353 => zr_2_0 i205_17 (zr_6r i205_18 fl_0_2 (zr_1_5 i205_19 (zr_cv (zs_21_1 i205_20 na_9 ob_3 rfl) (f9 (b / 36) S (g0)) (zr_3_6 i205_21 (zr_2_0 i205_22 (zr_6r i205_23 fl_0_5 (zr_1_6 i205_24 (zr_cv (zs_21_1 i205_25 na_49 ob_6 rfl) (f49 (S 17 (b / 36).toNatClampNeg) S (g1 h350 h353)) (zt_cast (zr_18b_1 i205_26 (fun h354 => zr_2_0 i205_29 (zr_6r i205_30 fl_0_5 (zr_1_1 i205_31 (zr_1_2 i205_32 (zr_1_6 i205_33 (zr_cv (zs_21_3 i205_34 na_50 ob_6 rfl) (f50 a b (S 17 (b / 36).toNatClampNeg) (G49 (S 17 (b / 36).toNatClampNeg) S) (zxv (w_G49_6_0 _ _) (g2 h350 h353 h354))) (zr_3_7 i205_35 (zr_2_0 i205_36 (zr_6r i205_37 fl_0_5 (zr_1_7 i205_38 (zr_2_0 i205_39 (zr_6 i205_40 fl_0_11 rfl (zr_1_3 i205_41 (zr_13_0 i205_42 (zr_2_0 i205_43 (zr_6r i205_44 fl_0_4 (zr_1_1 i205_45 (zr_cv (zs_21_1 i205_46 na_120 ob_5 rfl) (f120 a (G50 a b (S 17 (b / 36).toNatClampNeg) (G49 (S 17 (b / 36).toNatClampNeg) S)) (g3 h350 h353 h354)) (zr_24 i205_47 rfl (zr_2_0 i205_48 (zr_6 i205_49 fl_0_11 rfl (zr_1_4 i205_50 (zr_13_0 i205_51 (zr_cn (zs_21_3 i205_52 na_51 ob_6 rfl) (f51 ((G49 (S 17 (b / 36).toNatClampNeg) S) 6 0) (zmin (((G50 a b (S 17 (b / 36).toNatClampNeg) (G49 (S 17 (b / 36).toNatClampNeg) S)) 0 11) + c) ((G50 a b (S 17 (b / 36).toNatClampNeg) (G49 (S 17 (b / 36).toNatClampNeg) S)) 34 a.toNatClampNeg)) (((G50 a b (S 17 (b / 36).toNatClampNeg) (G49 (S 17 (b / 36).toNatClampNeg) S)) 0 11) + d) (G50 a b (S 17 (b / 36).toNatClampNeg) (G49 (S 17 (b / 36).toNatClampNeg) S)) (zxv (w_G49_6_0 _ _) (g2 h350 h353 h354))) (zr_1_7 i205_53 (zr_25 i205_54)))))))))))))))))))))))))) (fun h355 => zr_0 i205_27 kc_m12 (zr_25 i205_28))) (zm_r zz_e zz_e)))))))))))) (zm_r zz_e zz_e))))) (fun h351 => zr_0 i205_9 kc_m13 (zr_25 i205_10))) (zm_r zz_e zz_e))))))))))
def O164 (a b : Int32) (S : zS) : zRes := (if ((¬ (a < 0)) ∧ (¬ ((S 6 0) ≤ a))) then (if ((¬ (b < 1)) ∧ (¬ (50 < b))) then (.inl (some (.inl (if ((S 1 6) = 0) then ((-2) : Int32) else (if ((S 46 a.toNatClampNeg) = 0) then ((zmin ((S 0 11) + b) (zmin (S 45 a.toNatClampNeg) (S 34 (S 41 a.toNatClampNeg).toNatClampNeg))) : Int32) else (-7))))), (if ((S 1 6) = 0) then S else (if ((S 46 a.toNatClampNeg) = 0) then (z_up S 44 a.toNatClampNeg (zmin ((S 0 11) + b) (zmin (S 45 a.toNatClampNeg) (S 34 (S 41 a.toNatClampNeg).toNatClampNeg)))) else S)), 0) else (.inr 1, S, 1)) else (.inr 0, S, 1))
set_option maxRecDepth 100000 in
theorem f164 {L : Nat} (a b : Int32) (S : zS) (g0 : zo (S 1 6)) (g1 : ((¬ (a < 0)) ∧ (¬ ((S 6 0) ≤ a))) → ((¬ (b < 1)) ∧ (¬ (50 < b))) → (¬ ((S 1 6) = 0)) → zx 40 a) (g2 : ((¬ (a < 0)) ∧ (¬ ((S 6 0) ≤ a))) → ((¬ (b < 1)) ∧ (¬ (50 < b))) → (¬ ((S 1 6) = 0)) → ((S 46 a.toNatClampNeg) = 0) → zx 40 (S 41 a.toNatClampNeg)) : zf L 164 [.inr (.inr 0), .inl a, .inl b] S (O164 a b S) := zf_of (en_164 _ _ _) (zr_2_0 i164_0 (zr_6r i164_1 fl_0_5 (zr_1_1 i164_2 (zr_cv (zs_21_1 i164_3 na_43 ob_6 rfl) (f43 a S ) (zt_cast (zr_dem (E := 0) (zs_22_1 i164_4 na_185 rfl) f185 th_164 (fun h356 => zr_1_2 i164_5 (zr_0 i164_6 kc_1 (zr_0 i164_7 kc_50 (zr_cv (zs_22_3 i164_8 na_188 rfl) (f188 b 1 50 S ) (zt_cast (zr_dem (E := 1) (zs_22_1 i164_9 na_186 rfl) f186 th_164 (fun h357 => zr_2_0 i164_10 (zr_6r i164_11 fl_0_0 (zr_cv (zs_21_0 i164_12 na_85 ob_1 rfl) (f85  S (g0)) (zt_cast (zr_18_1 i164_13 (fun h358 => zr_0 i164_14 kc_m2 (zr_25 i164_15)) (fun h359 => zr_2_0 i164_16 (zr_6r i164_17 fl_0_5 (zr_1_1 i164_18 (zr_cv (zs_21_1 i164_19 na_45 ob_6 rfl) (f45 a S (g1 h356 h357 h359)) (zt_cast (zr_18_0 i164_20 (fun h360 => zr_2_0 i164_23 (zr_6r i164_24 fl_0_5 (zr_1_1 i164_25 (zr_2_0 i164_26 (zr_6 i164_27 fl_0_11 rfl (zr_1_2 i164_28 (zr_13_0 i164_29 (zr_2_0 i164_30 (zr_6r i164_31 fl_0_4 (zr_2_0 i164_32 (zr_6r i164_33 fl_0_5 (zr_1_1 i164_34 (zr_cv (zs_21_1 i164_35 na_44 ob_6 rfl) (f44 a S (g1 h356 h357 h359)) (zr_cv (zs_21_1 i164_36 na_120 ob_5 rfl) (f120 (S 41 a.toNatClampNeg) S (g2 h356 h357 h359 h360)) (zr_cv (zs_21_3 i164_37 na_52 ob_6 rfl) (f52 a ((S 0 11) + b) (S 34 (S 41 a.toNatClampNeg).toNatClampNeg) S (g1 h356 h357 h359)) (zr_25 i164_38)))))))))))))))) (fun h361 => zr_0 i164_21 kc_m7 (zr_25 i164_22))) (zm_r zz_e zz_e))))))) (zm_r zz_e zz_e)))))) zm_o)))))) zm_o)))))
set_option maxRecDepth 100000 in
theorem f166 {L : Nat} (a : Int32) (S : zS) (g0 : ((¬ (a < 0)) ∧ (¬ ((S 6 0) ≤ a))) → zx 40 a) : zf L 166 [.inr (.inr 0), .inl a] S (if ((¬ (a < 0)) ∧ (¬ ((S 6 0) ≤ a))) then (.inl (some (.inl (S 46 a.toNatClampNeg))), S, 0) else (.inr 0, S, 1)) := zf_of (en_166 _ _) (zr_2_0 i166_0 (zr_6r i166_1 fl_0_5 (zr_1_1 i166_2 (zr_cv (zs_21_1 i166_3 na_43 ob_6 rfl) (f43 a S ) (zt_cast (zr_dem (E := 0) (zs_22_1 i166_4 na_185 rfl) f185 th_166 (fun h362 => zr_2_0 i166_5 (zr_6r i166_6 fl_0_5 (zr_1_1 i166_7 (zr_cv (zs_21_1 i166_8 na_45 ob_6 rfl) (f45 a S (g0 h362)) (zr_25 i166_9)))))) zm_o)))))
set_option maxRecDepth 100000 in
theorem f167 {L : Nat} (a : Int32) (S : zS) (g0 : ((¬ (a < 0)) ∧ (¬ ((S 6 0) ≤ a))) → zx 40 a) : zf L 167 [.inr (.inr 0), .inl a] S (if ((¬ (a < 0)) ∧ (¬ ((S 6 0) ≤ a))) then (.inl (some (.inl (S 44 a.toNatClampNeg))), S, 0) else (.inr 0, S, 1)) := zf_of (en_167 _ _) (zr_2_0 i167_0 (zr_6r i167_1 fl_0_5 (zr_1_1 i167_2 (zr_cv (zs_21_1 i167_3 na_43 ob_6 rfl) (f43 a S ) (zt_cast (zr_dem (E := 0) (zs_22_1 i167_4 na_185 rfl) f185 th_167 (fun h363 => zr_2_0 i167_5 (zr_6r i167_6 fl_0_5 (zr_1_1 i167_7 (zr_cv (zs_21_1 i167_8 na_46 ob_6 rfl) (f46 a S (g0 h363)) (zr_25 i167_9)))))) zm_o)))))
set_option maxRecDepth 100000 in
theorem f168 {L : Nat} (a : Int32) (S : zS) (g0 : ((¬ (a < 0)) ∧ (¬ (3 ≤ a))) → zx 3 a) : zf L 168 [.inr (.inr 0), .inl a] S (if ((¬ (a < 0)) ∧ (¬ (3 ≤ a))) then (.inl (some (.inl (S 49 a.toNatClampNeg))), S, 0) else (.inr 0, S, 1)) := zf_of (en_168 _ _) (zr_1_1 i168_0 (zr_0 i168_1 kc_3 (zr_cv (zs_22_2 i168_2 na_189 rfl) (f189 a 3 S ) (zt_cast (zr_dem (E := 0) (zs_22_1 i168_3 na_185 rfl) f185 th_168 (fun h364 => zr_2_0 i168_4 (zr_6r i168_5 fl_0_5 (zr_1_1 i168_6 (zr_cv (zs_21_1 i168_7 na_47 ob_6 rfl) (f47 a S (g0 h364)) (zr_25 i168_8)))))) zm_o))))
set_option maxRecDepth 100000 in
theorem f171 {L : Nat} (a : Int32) (S : zS) (g0 : zo (S 1 6)) (g1 : ((¬ (a < 0)) ∧ (¬ ((S 10 0) ≤ a))) → (¬ ((S 1 6) = 0)) → zx 20 a) : zf L 171 [.inr (.inr 0), .inl a] S (if ((¬ (a < 0)) ∧ (¬ ((S 10 0) ≤ a))) then (.inl (some (.inl (if ((S 1 6) = 0) then ((-2) : Int32) else (if ((S 65 a.toNatClampNeg) = 0) then ((if (((S 0 11) - (S 64 a.toNatClampNeg)) ≤ 5) then ((S 63 a.toNatClampNeg) : Int32) else (-7)) : Int32) else (-7))))), (if ((S 1 6) = 0) then S else (if ((S 65 a.toNatClampNeg) = 0) then (if (((S 0 11) - (S 64 a.toNatClampNeg)) ≤ 5) then (z_up S 65 a.toNatClampNeg 1) else S) else S)), 0) else (.inr 0, S, 1)) := zf_of (en_171 _ _) (zr_2_0 i171_0 (zr_6r i171_1 fl_0_8 (zr_1_1 i171_2 (zr_cv (zs_21_1 i171_3 na_22 ob_10 rfl) (f22 a S ) (zt_cast (zr_dem (E := 0) (zs_22_1 i171_4 na_185 rfl) f185 th_171 (fun h365 => zr_2_0 i171_5 (zr_6r i171_6 fl_0_0 (zr_cv (zs_21_0 i171_7 na_85 ob_1 rfl) (f85  S (g0)) (zt_trans (zt_cast (zr_18_0 i171_8 (fun h366 => zr_0 i171_16 kc_m2 (zt_rfl)) (fun h367 => zr_2_0 i171_9 (zr_6r i171_10 fl_0_8 (zr_1_1 i171_11 (zr_2_0 i171_12 (zr_6 i171_13 fl_0_11 rfl (zr_cv (zs_21_2 i171_14 na_24 ob_10 rfl) (f24 a (S 0 11) S (g1 h365 h367)) (zr_17 i171_15 (zt_rfl))))))))) (zm_c zz_s (zl_c (zl_t zz_e) zz_s) zz_e)) (zr_25 i171_17)))))) zm_o)))))
def F206 (a b : Int32) (S : zS) : Int32 := (if ((S 71 b.toNatClampNeg) = 0) then ((if (a = (S 66 b.toNatClampNeg)) then ((-4) : Int32) else (if ((S 32 a.toNatClampNeg) = (-1)) then ((-4) : Int32) else (if ((S 32 a.toNatClampNeg) = (S 32 (S 66 b.toNatClampNeg).toNatClampNeg)) then ((-4) : Int32) else (F322 ((S 70 b.toNatClampNeg) ||| (zshl 1 (S 32 a.toNatClampNeg))) (z_up S 70 b.toNatClampNeg ((S 70 b.toNatClampNeg) ||| (zshl 1 (S 32 a.toNatClampNeg)))))))) : Int32) else (-7))
def G206 (a b : Int32) (S : zS) : zS := (if ((S 71 b.toNatClampNeg) = 0) then (if (a = (S 66 b.toNatClampNeg)) then S else (if ((S 32 a.toNatClampNeg) = (-1)) then S else (if ((S 32 a.toNatClampNeg) = (S 32 (S 66 b.toNatClampNeg).toNatClampNeg)) then S else (z_up S 70 b.toNatClampNeg ((S 70 b.toNatClampNeg) ||| (zshl 1 (S 32 a.toNatClampNeg))))))) else S)
set_option maxRecDepth 100000 in
theorem f206 {L : Nat} (a b : Int32) (S : zS) (g0 : zx 20 b) (g1 : ((S 71 b.toNatClampNeg) = 0) → zx 40 a) (g2 : ((S 71 b.toNatClampNeg) = 0) → (¬ (a = (S 66 b.toNatClampNeg))) → (¬ ((S 32 a.toNatClampNeg) = (-1))) → zx 40 (S 66 b.toNatClampNeg)) : zf L 206 [.inr (.inr 0), .inl a, .inl b] S (.inl (some (.inl (F206 a b S))), (G206 a b S), 0) := zf_of (en_206 _ _ _) (zr_2_0 i206_0 (zr_6r i206_1 fl_0_8 (zr_1_2 i206_2 (zr_cv (zs_21_1 i206_3 na_30 ob_10 rfl) (f30 b S (g0)) (zt_cast (zr_18b_1 i206_4 (fun h368 => zr_2_0 i206_7 (zr_6r i206_8 fl_0_8 (zr_1_2 i206_9 (zr_cv (zs_21_1 i206_10 na_27 ob_10 rfl) (f27 b S (g0)) (zr_3_3 i206_11 (zr_2_0 i206_12 (zr_6r i206_13 fl_0_4 (zr_1_1 i206_14 (zr_cv (zs_21_1 i206_15 na_118 ob_5 rfl) (f118 a S (g1 h368)) (zr_3_4 i206_16 (zr_1_1 i206_17 (zr_1_3 i206_18 (zt_cast (zr_19_0 i206_19 (fun h370 => zr_0 i206_29 kc_m4 (zr_25 i206_30)) (fun h371 => zr_1_4 i206_20 (zr_0 i206_21 kc_m1 (zt_cast (zr_19_0 i206_22 (fun h372 => zr_0 i206_29 kc_m4 (zr_25 i206_30)) (fun h373 => zr_1_4 i206_23 (zr_2_0 i206_24 (zr_6r i206_25 fl_0_4 (zr_1_3 i206_26 (zr_cv (zs_21_1 i206_27 na_118 ob_5 rfl) (f118 (S 66 b.toNatClampNeg) S (g2 h368 h371 h373)) (zt_cast (zr_19_1 i206_28 (fun h374 => zr_0 i206_29 kc_m4 (zr_25 i206_30)) (fun h375 => zr_2_0 i206_31 (zr_6r i206_32 fl_0_8 (zr_1_2 i206_33 (zr_1_4 i206_34 (zr_cv (zs_21_2 i206_35 na_33 ob_10 rfl) (f33 b (S 32 a.toNatClampNeg) S (g0)) (zr_25 i206_36))))))) (zm_r zz_e zz_e)))))))) (zm_r zz_e zz_e))))) (zm_r zz_e zz_e)))))))))))))) (fun h369 => zr_0 i206_5 kc_m7 (zr_25 i206_6))) (zm_r zz_e zz_e))))))
def F207 (a b : Int32) (S : zS) : Int32 := (if ((S 71 b.toNatClampNeg) = 0) then ((if (a = (S 66 b.toNatClampNeg)) then ((if (¬ ((F322 (S 70 b.toNatClampNeg) S) < (S 69 b.toNatClampNeg))) then ((if ((S 16 ((S 67 b.toNatClampNeg) / 36).toNatClampNeg) = 0) then ((F110 (S 67 b.toNatClampNeg) (S 68 b.toNatClampNeg) (S 2 3) S) : Int32) else (-13)) : Int32) else (-10)) : Int32) else (-4)) : Int32) else (-7))
def G207 (a b : Int32) (S : zS) : zS := (if ((S 71 b.toNatClampNeg) = 0) then (if (a = (S 66 b.toNatClampNeg)) then (if (¬ ((F322 (S 70 b.toNatClampNeg) S) < (S 69 b.toNatClampNeg))) then (if ((if ((S 16 ((S 67 b.toNatClampNeg) / 36).toNatClampNeg) = 0) then ((F110 (S 67 b.toNatClampNeg) (S 68 b.toNatClampNeg) (S 2 3) S) : Int32) else (-13)) < 0) then S else (z_up S 71 b.toNatClampNeg 1)) else S) else S) else S)
set_option maxRecDepth 100000 in
theorem f207 {L : Nat} (a b : Int32) (S : zS) (g0 : zx 20 b) (g1 : ((S 71 b.toNatClampNeg) = 0) → (a = (S 66 b.toNatClampNeg)) → (¬ ((F322 (S 70 b.toNatClampNeg) S) < (S 69 b.toNatClampNeg))) → zx 6 ((S 67 b.toNatClampNeg) / 36)) (g2 : ((S 71 b.toNatClampNeg) = 0) → (a = (S 66 b.toNatClampNeg)) → (¬ ((F322 (S 70 b.toNatClampNeg) S) < (S 69 b.toNatClampNeg))) → ((S 16 ((S 67 b.toNatClampNeg) / 36).toNatClampNeg) = 0) → zx 216 (S 67 b.toNatClampNeg)) (g3 : ((S 71 b.toNatClampNeg) = 0) → (a = (S 66 b.toNatClampNeg)) → (¬ ((F322 (S 70 b.toNatClampNeg) S) < (S 69 b.toNatClampNeg))) → ((S 16 ((S 67 b.toNatClampNeg) / 36).toNatClampNeg) = 0) → (¬ ((F107 (S 67 b.toNatClampNeg) (S 68 b.toNatClampNeg) S) = (-1))) → zx 864 (F107 (S 67 b.toNatClampNeg) (S 68 b.toNatClampNeg) S)) : zf L 207 [.inr (.inr 0), .inl a, .inl b] S (.inl (some (.inl (F207 a b S))), (G207 a b S), 0) := zf_of (en_207 _ _ _) (zr_2_0 i207_0 (zr_6r i207_1 fl_0_8 (zr_1_2 i207_2 (zr_cv (zs_21_1 i207_3 na_30 ob_10 rfl) (f30 b S (g0)) (zt_cast (zr_18b_1 i207_4 (fun h376 => zr_1_1 i207_7 (zr_2_0 i207_8 (zr_6r i207_9 fl_0_8 (zr_1_2 i207_10 (zr_cv (zs_21_1 i207_11 na_27 ob_10 rfl) (f27 b S (g0)) (zt_cast (zr_19_0 i207_12 (fun h378 => zr_2_0 i207_15 (zr_6r i207_16 fl_0_8 (zr_1_2 i207_17 (zr_cv (zs_21_1 i207_18 na_31 ob_10 rfl) (f31 b S (g0)) (zt_cast (zr_18b_1 i207_19 (fun h380 => zr_2_0 i207_22 (zr_2_0 i207_23 (zr_6r i207_24 fl_0_8 (zr_1_2 i207_25 (zr_cv (zs_21_1 i207_26 na_28 ob_10 rfl) (f28 b S (g0)) (zr_2_0 i207_27 (zr_6r i207_28 fl_0_8 (zr_1_2 i207_29 (zr_cv (zs_21_1 i207_30 na_29 ob_10 rfl) (f29 b S (g0)) (zr_cv (zs_21_2 i207_31 na_201 ob_0 rfl) (f201 (S 67 b.toNatClampNeg) (S 68 b.toNatClampNeg) S (g1 h376 h378 h380) (fun h382 => (g2 h376 h378 h380 h382)) (fun h383 h384 => (g3 h376 h378 h380 h383 h384))) (zr_3_3 i207_32 (zr_1_3 i207_33 (zt_trans (zt_cast (zr_18_2 i207_34 (fun h385 => zt_rfl) (fun h386 => zr_2_0 i207_35 (zr_6r i207_36 fl_0_8 (zr_1_2 i207_37 (zr_cn (zs_21_1 i207_38 na_34 ob_10 rfl) (f34 b S (g0)) (zt_rfl)))))) (zm_c zz_s zz_s zz_e)) (zr_1_3 i207_39 (zr_25 i207_40))))))))))))))) (fun h381 => zr_0 i207_20 kc_m10 (zr_25 i207_21))) (zm_r zz_e zz_e)))))) (fun h379 => zr_0 i207_13 kc_m4 (zr_25 i207_14))) (zm_r zz_e zz_e))))))) (fun h377 => zr_0 i207_5 kc_m7 (zr_25 i207_6))) (zm_r zz_e zz_e))))))
set_option maxRecDepth 100000 in
theorem f174 {L : Nat} (S : zS) : zf L 174 [.inr (.inr 0)] S (.inl (some (.inl (S 10 4))), S, 0) := zf_of (en_174 _) (zr_2_0 i174_0 (zr_6r i174_1 fl_0_8 (zr_cv (zs_21_0 i174_2 na_25 ob_10 rfl) (f25  S ) (zr_25 i174_3))))
set_option maxRecDepth 100000 in
theorem f176 {L : Nat} (a : Int32) (S : zS) (g0 : ((¬ (a < 0)) ∧ (¬ ((S 11 0) ≤ a))) → zx 30 a) : zf L 176 [.inr (.inr 0), .inl a] S (if ((¬ (a < 0)) ∧ (¬ ((S 11 0) ≤ a))) then (.inl (some (.inl (zb ((S 75 a.toNatClampNeg) = 0)))), (z_up S 75 a.toNatClampNeg 1), 0) else (.inr 0, S, 1)) := zf_of (en_176 _ _) (zr_2_0 i176_0 (zr_6r i176_1 fl_0_9 (zr_1_1 i176_2 (zr_cv (zs_21_1 i176_3 na_1 ob_11 rfl) (f1 a S ) (zt_cast (zr_dem (E := 0) (zs_22_1 i176_4 na_185 rfl) f185 th_176 (fun h387 => zr_2_0 i176_5 (zr_6r i176_6 fl_0_9 (zr_1_1 i176_7 (zr_cv (zs_21_1 i176_8 na_5 ob_11 rfl) (f5 a S (g0 h387)) (zr_26 i176_9 (zb_01 _))))))) zm_o)))))
set_option maxRecDepth 100000 in
theorem f179 {L : Nat} (a : Int32) (S : zS) (g0 : ((¬ (a < 0)) ∧ (¬ ((S 11 0) ≤ a))) → zx 30 a) : zf L 179 [.inr (.inr 0), .inl a] S (if ((¬ (a < 0)) ∧ (¬ ((S 11 0) ≤ a))) then (.inl (some (.inl (S 74 a.toNatClampNeg))), S, 0) else (.inr 0, S, 1)) := zf_of (en_179 _ _) (zr_2_0 i179_0 (zr_6r i179_1 fl_0_9 (zr_1_1 i179_2 (zr_cv (zs_21_1 i179_3 na_1 ob_11 rfl) (f1 a S ) (zt_cast (zr_dem (E := 0) (zs_22_1 i179_4 na_185 rfl) f185 th_179 (fun h388 => zr_2_0 i179_5 (zr_6r i179_6 fl_0_9 (zr_1_1 i179_7 (zr_cv (zs_21_1 i179_8 na_2 ob_11 rfl) (f2 a S (g0 h388)) (zr_25 i179_9)))))) zm_o)))))
set_option maxRecDepth 100000 in
theorem f180 {L : Nat} (a b c d : Int32) (S : zS) (g0 : ((¬ (a < 0)) ∧ (¬ (3 ≤ a))) → ((¬ (d < 1)) ∧ (¬ (1000 < d))) → zx 3 a) (g1 : ((¬ (a < 0)) ∧ (¬ (3 ≤ a))) → ((¬ (d < 1)) ∧ (¬ (1000 < d))) → zo b) (g2 : ((¬ (a < 0)) ∧ (¬ (3 ≤ a))) → ((¬ (d < 1)) ∧ (¬ (1000 < d))) → zo c) (g3 : ((¬ (a < 0)) ∧ (¬ (3 ≤ a))) → ((¬ (d < 1)) ∧ (¬ (1000 < d))) → zo (S 77 a.toNatClampNeg)) : zf L 180 [.inr (.inr 0), .inl a, .inl b, .inl c, .inl d] S (if ((¬ (a < 0)) ∧ (¬ (3 ≤ a))) then (if ((¬ (d < 1)) ∧ (¬ (1000 < d))) then (.inl (some (.inl (S 77 a.toNatClampNeg))), (z_up (z_up (z_up S 77 a.toNatClampNeg b) 78 a.toNatClampNeg c) 79 a.toNatClampNeg d), 0) else (.inr 1, S, 1)) else (.inr 0, S, 1)) := zf_of (en_180 _ _ _ _ _) (zr_1_1 i180_0 (zr_0 i180_1 kc_3 (zr_cv (zs_22_2 i180_2 na_189 rfl) (f189 a 3 S ) (zt_cast (zr_dem (E := 0) (zs_22_1 i180_3 na_185 rfl) f185 th_180 (fun h389 => zr_1_4 i180_4 (zr_0 i180_5 kc_1 (zr_0 i180_6 kc_1000 (zr_cv (zs_22_3 i180_7 na_188 rfl) (f188 d 1 1000 S ) (zt_cast (zr_dem (E := 1) (zs_22_1 i180_8 na_186 rfl) f186 th_180 (fun h390 => zr_2_0 i180_9 (zr_6r i180_10 fl_0_10 (zr_1_1 i180_11 (zr_1_2 i180_12 (zr_1_3 i180_13 (zr_1_4 i180_14 (zr_cv (zs_21_4 i180_15 na_100 ob_12 rfl) (f100 a b c d S (g0 h389 h390) (g1 h389 h390) (g2 h389 h390) (g3 h389 h390)) (zr_26 i180_16 (g3 h389 h390)))))))))) zm_o)))))) zm_o))))
set_option maxRecDepth 100000 in
theorem f181 {L : Nat} (a : Int32) (S : zS) (g0 : ((¬ (a < 0)) ∧ (¬ (3 ≤ a))) → zx 3 a) : zf L 181 [.inr (.inr 0), .inl a] S (if ((¬ (a < 0)) ∧ (¬ (3 ≤ a))) then (.inl (some (.inl (S 80 a.toNatClampNeg))), S, 0) else (.inr 0, S, 1)) := zf_of (en_181 _ _) (zr_1_1 i181_0 (zr_0 i181_1 kc_3 (zr_cv (zs_22_2 i181_2 na_189 rfl) (f189 a 3 S ) (zt_cast (zr_dem (E := 0) (zs_22_1 i181_3 na_185 rfl) f185 th_181 (fun h391 => zr_2_0 i181_4 (zr_6r i181_5 fl_0_10 (zr_1_1 i181_6 (zr_cv (zs_21_1 i181_7 na_99 ob_12 rfl) (f99 a S (g0 h391)) (zr_25 i181_8)))))) zm_o))))
