/-! the methods with loops: the pieces between the cut points, and rounds (wip/whole/gen/gen18.py) -/
theorem i3_0 : zi 3 0 1 1 1 0 := by decide +kernel
theorem i3_1 : zi 3 1 2 0 0 6 := by decide +kernel
theorem i3_2 : zi 3 2 3 13 4 0 := by decide +kernel
theorem i3_3 : zi 3 3 4 3 2 0 := by decide +kernel
theorem i3_4 : zi 3 4 5 1 2 0 := by decide +kernel
theorem i3_5 : zi 3 5 6 18 8 1 := by decide +kernel
theorem i3_6 : zi 3 6 7 0 0 (-1) := by decide +kernel
theorem i3_7 : zi 3 7 8 25 0 0 := by decide +kernel
theorem i3_8 : zi 3 8 9 2 0 0 := by decide +kernel
theorem i3_9 : zi 3 9 10 6 0 0 := by decide +kernel
theorem i3_10 : zi 3 10 11 0 0 1 := by decide +kernel
theorem i3_11 : zi 3 11 12 13 1 0 := by decide +kernel
theorem i3_12 : zi 3 12 13 3 3 0 := by decide +kernel
theorem i3_13 : zi 3 13 14 1 3 0 := by decide +kernel
theorem i3_14 : zi 3 14 15 18 27 2 := by decide +kernel
theorem i3_15 : zi 3 15 16 2 0 0 := by decide +kernel
theorem i3_16 : zi 3 16 17 6 0 1 := by decide +kernel
theorem i3_17 : zi 3 17 18 1 3 0 := by decide +kernel
theorem i3_18 : zi 3 18 19 8 0 0 := by decide +kernel
theorem i3_19 : zi 3 19 20 1 1 0 := by decide +kernel
theorem i3_20 : zi 3 20 21 1 2 0 := by decide +kernel
theorem i3_21 : zi 3 21 22 13 1 0 := by decide +kernel
theorem i3_22 : zi 3 22 23 19 25 1 := by decide +kernel
theorem i3_23 : zi 3 23 24 1 3 0 := by decide +kernel
theorem i3_24 : zi 3 24 25 25 0 0 := by decide +kernel
theorem i3_25 : zi 3 25 26 5 3 (-1) := by decide +kernel
theorem i3_26 : zi 3 26 27 17 13 0 := by decide +kernel
theorem i3_27 : zi 3 27 28 0 0 (-1) := by decide +kernel
theorem i3_28 : zi 3 28 29 25 0 0 := by decide +kernel
theorem ml_3 : z_ml 3 = 4 := by decide +kernel
theorem en_3 : ∀ (v0 v1 : zV), z_ent 3 [v0, v1] = [some v0, some v1, none, none] := fun v0 v1 => by unfold z_ent; rw [ml_3]; rfl
theorem i6_0 : zi 6 0 1 0 0 0 := by decide +kernel
theorem i6_1 : zi 6 1 2 3 2 0 := by decide +kernel
theorem i6_2 : zi 6 2 3 0 0 0 := by decide +kernel
theorem i6_3 : zi 6 3 4 3 3 0 := by decide +kernel
theorem i6_4 : zi 6 4 5 1 3 0 := by decide +kernel
theorem i6_5 : zi 6 5 6 2 0 0 := by decide +kernel
theorem i6_6 : zi 6 6 7 6 0 0 := by decide +kernel
theorem i6_7 : zi 6 7 8 19 34 3 := by decide +kernel
theorem i6_8 : zi 6 8 9 2 0 0 := by decide +kernel
theorem i6_9 : zi 6 9 10 6 0 5 := by decide +kernel
theorem fl_11_5 : zfl 11 0 5 5 (some 76) := by decide +kernel
theorem i6_10 : zi 6 10 11 1 3 0 := by decide +kernel
theorem i6_11 : zi 6 11 12 2 0 0 := by decide +kernel
theorem i6_12 : zi 6 12 13 6 0 4 := by decide +kernel
theorem i6_13 : zi 6 13 14 1 3 0 := by decide +kernel
theorem i6_14 : zi 6 14 15 9 0 0 := by decide +kernel
theorem i6_15 : zi 6 15 16 18 24 0 := by decide +kernel
theorem i6_24 : zi 6 24 25 0 0 0 := by decide +kernel
theorem i6_16 : zi 6 16 17 2 0 0 := by decide +kernel
theorem i6_17 : zi 6 17 18 6 0 2 := by decide +kernel
theorem i6_18 : zi 6 18 19 1 3 0 := by decide +kernel
theorem i6_19 : zi 6 19 20 8 0 0 := by decide +kernel
theorem i6_20 : zi 6 20 21 1 1 0 := by decide +kernel
theorem i6_21 : zi 6 21 22 19 24 5 := by decide +kernel
theorem i6_22 : zi 6 22 23 0 0 1 := by decide +kernel
theorem i6_23 : zi 6 23 24 17 25 0 := by decide +kernel
theorem i6_25 : zi 6 25 26 11 0 0 := by decide +kernel
theorem ar_76 : zar 76 1 30 := by decide +kernel
theorem i6_26 : zi 6 26 27 2 0 0 := by decide +kernel
theorem i6_27 : zi 6 27 28 6 0 5 := by decide +kernel
theorem i6_28 : zi 6 28 29 1 3 0 := by decide +kernel
theorem i6_29 : zi 6 29 30 9 0 0 := by decide +kernel
theorem i6_30 : zi 6 30 31 18 32 0 := by decide +kernel
theorem i6_31 : zi 6 31 32 5 2 1 := by decide +kernel
theorem i6_32 : zi 6 32 33 5 3 1 := by decide +kernel
theorem i6_33 : zi 6 33 34 17 4 0 := by decide +kernel
theorem i6_34 : zi 6 34 35 1 2 0 := by decide +kernel
theorem i6_35 : zi 6 35 36 25 0 0 := by decide +kernel
theorem ml_6 : z_ml 6 = 4 := by decide +kernel
theorem en_6 : ∀ (v0 v1 : zV), z_ent 6 [v0, v1] = [some v0, some v1, none, none] := fun v0 v1 => by unfold z_ent; rw [ml_6]; rfl
theorem i7_0 : zi 7 0 1 1 1 0 := by decide +kernel
theorem i7_1 : zi 7 1 2 3 3 0 := by decide +kernel
theorem i7_2 : zi 7 2 3 0 0 0 := by decide +kernel
theorem i7_3 : zi 7 3 4 3 4 0 := by decide +kernel
theorem i7_4 : zi 7 4 5 1 4 0 := by decide +kernel
theorem i7_5 : zi 7 5 6 2 0 0 := by decide +kernel
theorem i7_6 : zi 7 6 7 6 0 0 := by decide +kernel
theorem i7_7 : zi 7 7 8 19 36 3 := by decide +kernel
theorem i7_8 : zi 7 8 9 2 0 0 := by decide +kernel
theorem i7_9 : zi 7 9 10 6 0 2 := by decide +kernel
theorem i7_10 : zi 7 10 11 1 3 0 := by decide +kernel
theorem i7_11 : zi 7 11 12 8 0 0 := by decide +kernel
theorem i7_12 : zi 7 12 13 1 2 0 := by decide +kernel
theorem i7_13 : zi 7 13 14 19 19 5 := by decide +kernel
theorem i7_19 : zi 7 19 20 0 0 0 := by decide +kernel
theorem i7_20 : zi 7 20 21 26 0 0 := by decide +kernel
theorem i7_14 : zi 7 14 15 2 0 0 := by decide +kernel
theorem i7_15 : zi 7 15 16 6 0 5 := by decide +kernel
theorem i7_16 : zi 7 16 17 1 3 0 := by decide +kernel
theorem i7_17 : zi 7 17 18 9 0 0 := by decide +kernel
theorem i7_18 : zi 7 18 19 18 21 0 := by decide +kernel
theorem i7_21 : zi 7 21 22 2 0 0 := by decide +kernel
theorem i7_22 : zi 7 22 23 6 0 3 := by decide +kernel
theorem i7_23 : zi 7 23 24 1 3 0 := by decide +kernel
theorem i7_24 : zi 7 24 25 8 0 0 := by decide +kernel
theorem i7_25 : zi 7 25 26 1 3 0 := by decide +kernel
theorem i7_26 : zi 7 26 27 19 29 1 := by decide +kernel
theorem i7_27 : zi 7 27 28 0 0 1 := by decide +kernel
theorem i7_28 : zi 7 28 29 26 0 0 := by decide +kernel
theorem i7_29 : zi 7 29 30 2 0 0 := by decide +kernel
theorem i7_30 : zi 7 30 31 6 0 3 := by decide +kernel
theorem i7_31 : zi 7 31 32 1 3 0 := by decide +kernel
theorem i7_32 : zi 7 32 33 8 0 0 := by decide +kernel
theorem i7_33 : zi 7 33 34 3 3 0 := by decide +kernel
theorem i7_34 : zi 7 34 35 5 4 1 := by decide +kernel
theorem i7_35 : zi 7 35 36 17 4 0 := by decide +kernel
theorem i7_36 : zi 7 36 37 0 0 1 := by decide +kernel
theorem i7_37 : zi 7 37 38 26 0 0 := by decide +kernel
theorem ml_7 : z_ml 7 = 5 := by decide +kernel
theorem en_7 : ∀ (v0 v1 v2 : zV), z_ent 7 [v0, v1, v2] = [some v0, some v1, some v2, none, none] := fun v0 v1 v2 => by unfold z_ent; rw [ml_7]; rfl
theorem i13_0 : zi 13 0 1 0 0 0 := by decide +kernel
theorem i13_1 : zi 13 1 2 3 1 0 := by decide +kernel
theorem i13_2 : zi 13 2 3 1 1 0 := by decide +kernel
theorem i13_3 : zi 13 3 4 0 0 6 := by decide +kernel
theorem i13_4 : zi 13 4 5 19 12 3 := by decide +kernel
theorem i13_5 : zi 13 5 6 2 0 0 := by decide +kernel
theorem i13_6 : zi 13 6 7 6 1 3 := by decide +kernel
theorem i13_7 : zi 13 7 8 1 1 0 := by decide +kernel
theorem i13_8 : zi 13 8 9 0 0 0 := by decide +kernel
theorem i13_9 : zi 13 9 10 10 0 0 := by decide +kernel
theorem i13_10 : zi 13 10 11 5 1 1 := by decide +kernel
theorem i13_11 : zi 13 11 12 17 2 0 := by decide +kernel
theorem i13_12 : zi 13 12 13 27 0 0 := by decide +kernel
theorem ml_13 : z_ml 13 = 2 := by decide +kernel
theorem en_13 : ∀ (v0 : zV), z_ent 13 [v0] = [some v0, none] := fun v0 => by unfold z_ent; rw [ml_13]; rfl
theorem i17_0 : zi 17 0 1 0 0 0 := by decide +kernel
theorem i17_1 : zi 17 1 2 3 2 0 := by decide +kernel
theorem i17_2 : zi 17 2 3 1 2 0 := by decide +kernel
theorem i17_3 : zi 17 3 4 1 1 0 := by decide +kernel
theorem i17_4 : zi 17 4 5 19 22 3 := by decide +kernel
theorem i17_5 : zi 17 5 6 2 0 0 := by decide +kernel
theorem i17_6 : zi 17 6 7 6 2 6 := by decide +kernel
theorem fl_8_6 : zfl 8 2 6 6 none := by decide +kernel
theorem i17_7 : zi 17 7 8 2 0 0 := by decide +kernel
theorem i17_8 : zi 17 8 9 6 2 5 := by decide +kernel
theorem i17_9 : zi 17 9 10 19 22 3 := by decide +kernel
theorem i17_10 : zi 17 10 11 2 0 0 := by decide +kernel
theorem i17_11 : zi 17 11 12 2 0 0 := by decide +kernel
theorem i17_12 : zi 17 12 13 6 2 6 := by decide +kernel
theorem i17_13 : zi 17 13 14 21 21 2 := by decide +kernel
theorem na_21 : z_na 21 = 1 := by decide +kernel
theorem i17_14 : zi 17 14 15 2 0 0 := by decide +kernel
theorem i17_15 : zi 17 15 16 14 0 0 := by decide +kernel
theorem i17_16 : zi 17 16 17 6 2 6 := by decide +kernel
theorem i17_17 : zi 17 17 18 0 0 1 := by decide +kernel
theorem i17_18 : zi 17 18 19 13 0 0 := by decide +kernel
theorem i17_19 : zi 17 19 20 7 2 6 := by decide +kernel
theorem i17_20 : zi 17 20 21 5 2 1 := by decide +kernel
theorem i17_21 : zi 17 21 22 17 2 0 := by decide +kernel
theorem i17_22 : zi 17 22 23 2 0 0 := by decide +kernel
theorem i17_23 : zi 17 23 24 6 2 5 := by decide +kernel
theorem i17_24 : zi 17 24 25 2 0 0 := by decide +kernel
theorem i17_25 : zi 17 25 26 6 2 6 := by decide +kernel
theorem i17_26 : zi 17 26 27 13 1 0 := by decide +kernel
theorem i17_27 : zi 17 27 28 25 0 0 := by decide +kernel
theorem ml_17 : z_ml 17 = 3 := by decide +kernel
theorem en_17 : ∀ (v0 v1 : zV), z_ent 17 [v0, v1] = [some v0, some v1, none] := fun v0 v1 => by unfold z_ent; rw [ml_17]; rfl
theorem i111_0 : zi 111 0 1 1 1 0 := by decide +kernel
theorem i111_1 : zi 111 1 2 3 3 0 := by decide +kernel
theorem i111_2 : zi 111 2 3 1 3 0 := by decide +kernel
theorem i111_3 : zi 111 3 4 1 2 0 := by decide +kernel
theorem i111_4 : zi 111 4 5 19 12 3 := by decide +kernel
theorem i111_5 : zi 111 5 6 2 0 0 := by decide +kernel
theorem i111_6 : zi 111 6 7 6 9 0 := by decide +kernel
theorem i111_7 : zi 111 7 8 1 3 0 := by decide +kernel
theorem i111_8 : zi 111 8 9 0 0 0 := by decide +kernel
theorem i111_9 : zi 111 9 10 10 0 0 := by decide +kernel
theorem i111_10 : zi 111 10 11 5 3 1 := by decide +kernel
theorem i111_11 : zi 111 11 12 17 2 0 := by decide +kernel
theorem i111_12 : zi 111 12 13 27 0 0 := by decide +kernel
theorem ml_111 : z_ml 111 = 4 := by decide +kernel
theorem en_111 : ∀ (v0 v1 v2 : zV), z_ent 111 [v0, v1, v2] = [some v0, some v1, some v2, none] := fun v0 v1 v2 => by unfold z_ent; rw [ml_111]; rfl
theorem i18_0 : zi 18 0 1 2 0 0 := by decide +kernel
theorem i18_1 : zi 18 1 2 6 2 0 := by decide +kernel
theorem i18_2 : zi 18 2 3 1 1 0 := by decide +kernel
theorem i18_3 : zi 18 3 4 1 2 0 := by decide +kernel
theorem i18_4 : zi 18 4 5 21 111 9 := by decide +kernel
theorem na_111 : z_na 111 = 2 := by decide +kernel
theorem i35_0 : zi 35 0 1 0 0 0 := by decide +kernel
theorem i35_1 : zi 35 1 2 3 3 0 := by decide +kernel
theorem i35_2 : zi 35 2 3 1 3 0 := by decide +kernel
theorem i35_3 : zi 35 3 4 2 0 0 := by decide +kernel
theorem i35_4 : zi 35 4 5 6 3 4 := by decide +kernel
theorem i35_5 : zi 35 5 6 19 23 3 := by decide +kernel
theorem i35_6 : zi 35 6 7 2 0 0 := by decide +kernel
theorem i35_7 : zi 35 7 8 6 3 6 := by decide +kernel
theorem i35_8 : zi 35 8 9 1 3 0 := by decide +kernel
theorem i35_9 : zi 35 9 10 8 0 0 := by decide +kernel
theorem i35_10 : zi 35 10 11 1 1 0 := by decide +kernel
theorem i35_11 : zi 35 11 12 19 21 2 := by decide +kernel
theorem i35_12 : zi 35 12 13 2 0 0 := by decide +kernel
theorem i35_13 : zi 35 13 14 6 3 6 := by decide +kernel
theorem i35_14 : zi 35 14 15 1 3 0 := by decide +kernel
theorem i35_15 : zi 35 15 16 8 0 0 := by decide +kernel
theorem i35_16 : zi 35 16 17 1 2 0 := by decide +kernel
theorem i35_17 : zi 35 17 18 19 21 3 := by decide +kernel
theorem i35_18 : zi 35 18 19 2 0 0 := by decide +kernel
theorem i35_19 : zi 35 19 20 1 3 0 := by decide +kernel
theorem i35_20 : zi 35 20 21 21 34 3 := by decide +kernel
theorem i35_21 : zi 35 21 22 5 3 1 := by decide +kernel
theorem i35_22 : zi 35 22 23 17 2 0 := by decide +kernel
theorem i35_23 : zi 35 23 24 27 0 0 := by decide +kernel
theorem ml_35 : z_ml 35 = 4 := by decide +kernel
theorem en_35 : ∀ (v0 v1 v2 : zV), z_ent 35 [v0, v1, v2] = [some v0, some v1, some v2, none] := fun v0 v1 v2 => by unfold z_ent; rw [ml_35]; rfl
theorem i53_0 : zi 53 0 1 0 0 0 := by decide +kernel
theorem i53_1 : zi 53 1 2 3 4 0 := by decide +kernel
theorem i53_2 : zi 53 2 3 0 0 0 := by decide +kernel
theorem i53_3 : zi 53 3 4 3 5 0 := by decide +kernel
theorem i53_4 : zi 53 4 5 1 5 0 := by decide +kernel
theorem i53_5 : zi 53 5 6 2 0 0 := by decide +kernel
theorem i53_6 : zi 53 6 7 6 5 0 := by decide +kernel
theorem i53_7 : zi 53 7 8 19 32 3 := by decide +kernel
theorem i53_8 : zi 53 8 9 2 0 0 := by decide +kernel
theorem i53_9 : zi 53 9 10 6 5 6 := by decide +kernel
theorem i53_10 : zi 53 10 11 1 5 0 := by decide +kernel
theorem i53_11 : zi 53 11 12 8 0 0 := by decide +kernel
theorem i53_12 : zi 53 12 13 18 30 1 := by decide +kernel
theorem i53_13 : zi 53 13 14 2 0 0 := by decide +kernel
theorem i53_14 : zi 53 14 15 6 5 2 := by decide +kernel
theorem i53_15 : zi 53 15 16 1 5 0 := by decide +kernel
theorem i53_16 : zi 53 16 17 8 0 0 := by decide +kernel
theorem i53_17 : zi 53 17 18 1 1 0 := by decide +kernel
theorem i53_18 : zi 53 18 19 19 30 2 := by decide +kernel
theorem i53_19 : zi 53 19 20 2 0 0 := by decide +kernel
theorem i53_20 : zi 53 20 21 6 5 2 := by decide +kernel
theorem i53_21 : zi 53 21 22 1 5 0 := by decide +kernel
theorem i53_22 : zi 53 22 23 8 0 0 := by decide +kernel
theorem i53_23 : zi 53 23 24 1 2 0 := by decide +kernel
theorem i53_24 : zi 53 24 25 19 30 3 := by decide +kernel
theorem i53_25 : zi 53 25 26 2 0 0 := by decide +kernel
theorem i53_26 : zi 53 26 27 1 5 0 := by decide +kernel
theorem i53_27 : zi 53 27 28 1 3 0 := by decide +kernel
theorem i53_28 : zi 53 28 29 21 59 5 := by decide +kernel
theorem na_59 : z_na 59 = 2 := by decide +kernel
theorem i53_29 : zi 53 29 30 5 4 1 := by decide +kernel
theorem i53_30 : zi 53 30 31 5 5 1 := by decide +kernel
theorem i53_31 : zi 53 31 32 17 4 0 := by decide +kernel
theorem i53_32 : zi 53 32 33 1 4 0 := by decide +kernel
theorem i53_33 : zi 53 33 34 25 0 0 := by decide +kernel
theorem ml_53 : z_ml 53 = 6 := by decide +kernel
theorem en_53 : ∀ (v0 v1 v2 v3 : zV), z_ent 53 [v0, v1, v2, v3] = [some v0, some v1, some v2, some v3, none, none] := fun v0 v1 v2 v3 => by unfold z_ent; rw [ml_53]; rfl
theorem i54_0 : zi 54 0 1 0 0 0 := by decide +kernel
theorem i54_1 : zi 54 1 2 3 3 0 := by decide +kernel
theorem i54_2 : zi 54 2 3 1 3 0 := by decide +kernel
theorem i54_3 : zi 54 3 4 2 0 0 := by decide +kernel
theorem i54_4 : zi 54 4 5 6 5 0 := by decide +kernel
theorem i54_5 : zi 54 5 6 19 24 3 := by decide +kernel
theorem i54_6 : zi 54 6 7 2 0 0 := by decide +kernel
theorem i54_7 : zi 54 7 8 6 5 6 := by decide +kernel
theorem i54_8 : zi 54 8 9 1 3 0 := by decide +kernel
theorem i54_9 : zi 54 9 10 8 0 0 := by decide +kernel
theorem i54_10 : zi 54 10 11 18 22 1 := by decide +kernel
theorem i54_11 : zi 54 11 12 2 1 0 := by decide +kernel
theorem i54_12 : zi 54 12 13 2 0 0 := by decide +kernel
theorem i54_13 : zi 54 13 14 6 5 1 := by decide +kernel
theorem i54_14 : zi 54 14 15 1 3 0 := by decide +kernel
theorem i54_15 : zi 54 15 16 8 0 0 := by decide +kernel
theorem i54_16 : zi 54 16 17 21 116 10 := by decide +kernel
theorem i54_17 : zi 54 17 18 18 22 1 := by decide +kernel
theorem i54_18 : zi 54 18 19 2 0 0 := by decide +kernel
theorem i54_19 : zi 54 19 20 1 3 0 := by decide +kernel
theorem i54_20 : zi 54 20 21 1 2 0 := by decide +kernel
theorem i54_21 : zi 54 21 22 21 59 5 := by decide +kernel
theorem i54_22 : zi 54 22 23 5 3 1 := by decide +kernel
theorem i54_23 : zi 54 23 24 17 2 0 := by decide +kernel
theorem i54_24 : zi 54 24 25 27 0 0 := by decide +kernel
theorem ml_54 : z_ml 54 = 4 := by decide +kernel
theorem en_54 : ∀ (v0 v1 v2 : zV), z_ent 54 [v0, v1, v2] = [some v0, some v1, some v2, none] := fun v0 v1 v2 => by unfold z_ent; rw [ml_54]; rfl
theorem i55_0 : zi 55 0 1 0 0 0 := by decide +kernel
theorem i55_1 : zi 55 1 2 3 2 0 := by decide +kernel
theorem i55_2 : zi 55 2 3 1 2 0 := by decide +kernel
theorem i55_3 : zi 55 3 4 2 0 0 := by decide +kernel
theorem i55_4 : zi 55 4 5 6 5 0 := by decide +kernel
theorem i55_5 : zi 55 5 6 19 23 3 := by decide +kernel
theorem i55_6 : zi 55 6 7 2 0 0 := by decide +kernel
theorem i55_7 : zi 55 7 8 6 5 6 := by decide +kernel
theorem i55_8 : zi 55 8 9 1 2 0 := by decide +kernel
theorem i55_9 : zi 55 9 10 8 0 0 := by decide +kernel
theorem i55_10 : zi 55 10 11 18 21 1 := by decide +kernel
theorem i55_11 : zi 55 11 12 2 0 0 := by decide +kernel
theorem i55_12 : zi 55 12 13 6 5 4 := by decide +kernel
theorem i55_13 : zi 55 13 14 1 2 0 := by decide +kernel
theorem i55_14 : zi 55 14 15 8 0 0 := by decide +kernel
theorem i55_15 : zi 55 15 16 1 1 0 := by decide +kernel
theorem i55_16 : zi 55 16 17 19 21 1 := by decide +kernel
theorem i55_17 : zi 55 17 18 2 0 0 := by decide +kernel
theorem i55_18 : zi 55 18 19 1 2 0 := by decide +kernel
theorem i55_19 : zi 55 19 20 1 1 0 := by decide +kernel
theorem i55_20 : zi 55 20 21 21 59 5 := by decide +kernel
theorem i55_21 : zi 55 21 22 5 2 1 := by decide +kernel
theorem i55_22 : zi 55 22 23 17 2 0 := by decide +kernel
theorem i55_23 : zi 55 23 24 27 0 0 := by decide +kernel
theorem ml_55 : z_ml 55 = 3 := by decide +kernel
theorem en_55 : ∀ (v0 v1 : zV), z_ent 55 [v0, v1] = [some v0, some v1, none] := fun v0 v1 => by unfold z_ent; rw [ml_55]; rfl
theorem i56_0 : zi 56 0 1 0 0 0 := by decide +kernel
theorem i56_1 : zi 56 1 2 3 2 0 := by decide +kernel
theorem i56_2 : zi 56 2 3 1 2 0 := by decide +kernel
theorem i56_3 : zi 56 3 4 2 0 0 := by decide +kernel
theorem i56_4 : zi 56 4 5 6 5 0 := by decide +kernel
theorem i56_5 : zi 56 5 6 19 23 3 := by decide +kernel
theorem i56_6 : zi 56 6 7 2 0 0 := by decide +kernel
theorem i56_7 : zi 56 7 8 6 5 6 := by decide +kernel
theorem i56_8 : zi 56 8 9 1 2 0 := by decide +kernel
theorem i56_9 : zi 56 9 10 8 0 0 := by decide +kernel
theorem i56_10 : zi 56 10 11 0 0 1 := by decide +kernel
theorem i56_11 : zi 56 11 12 19 21 1 := by decide +kernel
theorem i56_12 : zi 56 12 13 2 0 0 := by decide +kernel
theorem i56_13 : zi 56 13 14 6 5 4 := by decide +kernel
theorem i56_14 : zi 56 14 15 1 2 0 := by decide +kernel
theorem i56_15 : zi 56 15 16 8 0 0 := by decide +kernel
theorem i56_16 : zi 56 16 17 1 1 0 := by decide +kernel
theorem i56_17 : zi 56 17 18 19 21 3 := by decide +kernel
theorem i56_18 : zi 56 18 19 2 0 0 := by decide +kernel
theorem i56_19 : zi 56 19 20 1 2 0 := by decide +kernel
theorem i56_20 : zi 56 20 21 21 60 5 := by decide +kernel
theorem i56_21 : zi 56 21 22 5 2 1 := by decide +kernel
theorem i56_22 : zi 56 22 23 17 2 0 := by decide +kernel
theorem i56_23 : zi 56 23 24 27 0 0 := by decide +kernel
theorem ml_56 : z_ml 56 = 3 := by decide +kernel
theorem en_56 : ∀ (v0 v1 : zV), z_ent 56 [v0, v1] = [some v0, some v1, none] := fun v0 v1 => by unfold z_ent; rw [ml_56]; rfl
theorem i57_0 : zi 57 0 1 0 0 0 := by decide +kernel
theorem i57_1 : zi 57 1 2 3 1 0 := by decide +kernel
theorem i57_2 : zi 57 2 3 1 1 0 := by decide +kernel
theorem i57_3 : zi 57 3 4 0 0 3 := by decide +kernel
theorem i57_4 : zi 57 4 5 19 28 3 := by decide +kernel
theorem i57_5 : zi 57 5 6 2 0 0 := by decide +kernel
theorem i57_6 : zi 57 6 7 6 5 8 := by decide +kernel
theorem i57_7 : zi 57 7 8 1 1 0 := by decide +kernel
theorem i57_8 : zi 57 8 9 8 0 0 := by decide +kernel
theorem i57_9 : zi 57 9 10 18 26 1 := by decide +kernel
theorem i57_10 : zi 57 10 11 2 0 0 := by decide +kernel
theorem i57_11 : zi 57 11 12 6 5 9 := by decide +kernel
theorem i57_12 : zi 57 12 13 1 1 0 := by decide +kernel
theorem i57_13 : zi 57 13 14 15 0 0 := by decide +kernel
theorem i57_14 : zi 57 14 15 8 0 0 := by decide +kernel
theorem i57_15 : zi 57 15 16 2 0 0 := by decide +kernel
theorem i57_16 : zi 57 16 17 6 5 10 := by decide +kernel
theorem i57_17 : zi 57 17 18 1 1 0 := by decide +kernel
theorem i57_18 : zi 57 18 19 8 0 0 := by decide +kernel
theorem i57_19 : zi 57 19 20 13 1 0 := by decide +kernel
theorem i57_20 : zi 57 20 21 10 0 0 := by decide +kernel
theorem i57_21 : zi 57 21 22 2 0 0 := by decide +kernel
theorem i57_22 : zi 57 22 23 6 5 10 := by decide +kernel
theorem i57_23 : zi 57 23 24 1 1 0 := by decide +kernel
theorem i57_24 : zi 57 24 25 0 0 0 := by decide +kernel
theorem i57_25 : zi 57 25 26 10 0 0 := by decide +kernel
theorem i57_26 : zi 57 26 27 5 1 1 := by decide +kernel
theorem i57_27 : zi 57 27 28 17 2 0 := by decide +kernel
theorem i57_28 : zi 57 28 29 27 0 0 := by decide +kernel
theorem ml_57 : z_ml 57 = 2 := by decide +kernel
theorem en_57 : ∀ (v0 : zV), z_ent 57 [v0] = [some v0, none] := fun v0 => by unfold z_ent; rw [ml_57]; rfl
theorem i58_0 : zi 58 0 1 2 0 0 := by decide +kernel
theorem i58_1 : zi 58 1 2 6 5 10 := by decide +kernel
theorem i58_2 : zi 58 2 3 1 1 0 := by decide +kernel
theorem i58_3 : zi 58 3 4 8 0 0 := by decide +kernel
theorem i58_4 : zi 58 4 5 3 2 0 := by decide +kernel
theorem i58_5 : zi 58 5 6 0 0 0 := by decide +kernel
theorem i58_6 : zi 58 6 7 3 3 0 := by decide +kernel
theorem i58_7 : zi 58 7 8 1 3 0 := by decide +kernel
theorem i58_8 : zi 58 8 9 2 0 0 := by decide +kernel
theorem i58_9 : zi 58 9 10 6 5 0 := by decide +kernel
theorem i58_10 : zi 58 10 11 19 26 3 := by decide +kernel
theorem i58_11 : zi 58 11 12 2 0 0 := by decide +kernel
theorem i58_12 : zi 58 12 13 6 5 3 := by decide +kernel
theorem i58_13 : zi 58 13 14 1 3 0 := by decide +kernel
theorem i58_14 : zi 58 14 15 8 0 0 := by decide +kernel
theorem i58_15 : zi 58 15 16 1 1 0 := by decide +kernel
theorem i58_16 : zi 58 16 17 19 24 1 := by decide +kernel
theorem i58_17 : zi 58 17 18 2 0 0 := by decide +kernel
theorem i58_18 : zi 58 18 19 6 5 6 := by decide +kernel
theorem i58_19 : zi 58 19 20 1 3 0 := by decide +kernel
theorem i58_20 : zi 58 20 21 8 0 0 := by decide +kernel
theorem i58_21 : zi 58 21 22 0 0 2 := by decide +kernel
theorem i58_22 : zi 58 22 23 19 24 0 := by decide +kernel
theorem i58_23 : zi 58 23 24 5 2 1 := by decide +kernel
theorem i58_24 : zi 58 24 25 5 3 1 := by decide +kernel
theorem i58_25 : zi 58 25 26 17 7 0 := by decide +kernel
theorem i58_26 : zi 58 26 27 1 2 0 := by decide +kernel
theorem i58_27 : zi 58 27 28 25 0 0 := by decide +kernel
theorem ml_58 : z_ml 58 = 4 := by decide +kernel
theorem en_58 : ∀ (v0 v1 : zV), z_ent 58 [v0, v1] = [some v0, some v1, none, none] := fun v0 v1 => by unfold z_ent; rw [ml_58]; rfl
theorem i79_0 : zi 79 0 1 0 0 0 := by decide +kernel
theorem i79_1 : zi 79 1 2 3 2 0 := by decide +kernel
theorem i79_2 : zi 79 2 3 0 0 0 := by decide +kernel
theorem i79_3 : zi 79 3 4 3 3 0 := by decide +kernel
theorem i79_4 : zi 79 4 5 1 3 0 := by decide +kernel
theorem i79_5 : zi 79 5 6 0 0 4 := by decide +kernel
theorem i79_6 : zi 79 6 7 19 39 3 := by decide +kernel
theorem i79_7 : zi 79 7 8 0 0 0 := by decide +kernel
theorem i79_8 : zi 79 8 9 3 4 0 := by decide +kernel
theorem i79_39 : zi 79 39 40 1 2 0 := by decide +kernel
theorem i79_40 : zi 79 40 41 25 0 0 := by decide +kernel
theorem i79_9 : zi 79 9 10 1 4 0 := by decide +kernel
theorem i79_10 : zi 79 10 11 0 0 4 := by decide +kernel
theorem i79_11 : zi 79 11 12 19 37 3 := by decide +kernel
theorem i79_12 : zi 79 12 13 2 0 0 := by decide +kernel
theorem i79_13 : zi 79 13 14 6 6 8 := by decide +kernel
theorem i79_14 : zi 79 14 15 1 4 0 := by decide +kernel
theorem i79_15 : zi 79 15 16 8 0 0 := by decide +kernel
theorem i79_16 : zi 79 16 17 1 1 0 := by decide +kernel
theorem i79_17 : zi 79 17 18 13 9 0 := by decide +kernel
theorem i79_18 : zi 79 18 19 0 0 1 := by decide +kernel
theorem i79_19 : zi 79 19 20 13 5 0 := by decide +kernel
theorem i79_20 : zi 79 20 21 0 0 1 := by decide +kernel
theorem i79_21 : zi 79 21 22 19 29 0 := by decide +kernel
theorem i79_29 : zi 79 29 30 1 2 0 := by decide +kernel
theorem i79_30 : zi 79 30 31 0 0 1 := by decide +kernel
theorem i79_31 : zi 79 31 32 1 4 0 := by decide +kernel
theorem i79_32 : zi 79 32 33 13 8 0 := by decide +kernel
theorem i79_33 : zi 79 33 34 13 6 0 := by decide +kernel
theorem i79_34 : zi 79 34 35 3 2 0 := by decide +kernel
theorem i79_22 : zi 79 22 23 2 0 0 := by decide +kernel
theorem i79_23 : zi 79 23 24 6 6 9 := by decide +kernel
theorem i79_24 : zi 79 24 25 1 4 0 := by decide +kernel
theorem i79_25 : zi 79 25 26 8 0 0 := by decide +kernel
theorem i79_26 : zi 79 26 27 1 2 0 := by decide +kernel
theorem i79_27 : zi 79 27 28 13 5 0 := by decide +kernel
theorem i79_28 : zi 79 28 29 18 35 0 := by decide +kernel
theorem i79_35 : zi 79 35 36 5 4 1 := by decide +kernel
theorem i79_36 : zi 79 36 37 17 9 0 := by decide +kernel
theorem i79_37 : zi 79 37 38 5 3 1 := by decide +kernel
theorem i79_38 : zi 79 38 39 17 4 0 := by decide +kernel
theorem ml_79 : z_ml 79 = 5 := by decide +kernel
theorem en_79 : ∀ (v0 v1 : zV), z_ent 79 [v0, v1] = [some v0, some v1, none, none, none] := fun v0 v1 => by unfold z_ent; rw [ml_79]; rfl
theorem i78_0 : zi 78 0 1 1 1 0 := by decide +kernel
theorem i78_1 : zi 78 1 2 18 5 2 := by decide +kernel
theorem i78_5 : zi 78 5 6 0 0 0 := by decide +kernel
theorem i78_6 : zi 78 6 7 25 0 0 := by decide +kernel
theorem i78_2 : zi 78 2 3 1 1 0 := by decide +kernel
theorem i78_3 : zi 78 3 4 0 0 8 := by decide +kernel
theorem i78_4 : zi 78 4 5 19 7 2 := by decide +kernel
theorem i78_7 : zi 78 7 8 2 0 0 := by decide +kernel
theorem i78_8 : zi 78 8 9 6 6 6 := by decide +kernel
theorem i78_9 : zi 78 9 10 1 1 0 := by decide +kernel
theorem i78_10 : zi 78 10 11 8 0 0 := by decide +kernel
theorem i78_11 : zi 78 11 12 3 2 0 := by decide +kernel
theorem i78_12 : zi 78 12 13 2 0 0 := by decide +kernel
theorem i78_13 : zi 78 13 14 1 1 0 := by decide +kernel
theorem i78_14 : zi 78 14 15 21 79 6 := by decide +kernel
theorem na_79 : z_na 79 = 1 := by decide +kernel
theorem i66_0 : zi 66 0 1 0 0 0 := by decide +kernel
theorem i66_1 : zi 66 1 2 3 4 0 := by decide +kernel
theorem i66_2 : zi 66 2 3 0 0 0 := by decide +kernel
theorem i66_3 : zi 66 3 4 3 5 0 := by decide +kernel
theorem i66_4 : zi 66 4 5 0 0 0 := by decide +kernel
theorem i66_5 : zi 66 5 6 3 6 0 := by decide +kernel
theorem i66_6 : zi 66 6 7 1 6 0 := by decide +kernel
theorem i66_7 : zi 66 7 8 0 0 3 := by decide +kernel
theorem i66_8 : zi 66 8 9 19 49 3 := by decide +kernel
theorem i66_9 : zi 66 9 10 1 5 0 := by decide +kernel
theorem i66_10 : zi 66 10 11 18 13 0 := by decide +kernel
theorem i66_13 : zi 66 13 14 2 0 0 := by decide +kernel
theorem i66_14 : zi 66 14 15 6 6 1 := by decide +kernel
theorem i66_15 : zi 66 15 16 1 1 0 := by decide +kernel
theorem i66_16 : zi 66 16 17 0 0 3 := by decide +kernel
theorem i66_17 : zi 66 17 18 13 2 0 := by decide +kernel
theorem i66_18 : zi 66 18 19 1 6 0 := by decide +kernel
theorem i66_19 : zi 66 19 20 13 0 0 := by decide +kernel
theorem i66_20 : zi 66 20 21 8 0 0 := by decide +kernel
theorem i66_11 : zi 66 11 12 0 0 8 := by decide +kernel
theorem i66_12 : zi 66 12 13 17 21 0 := by decide +kernel
theorem i66_21 : zi 66 21 22 3 7 0 := by decide +kernel
theorem i66_22 : zi 66 22 23 1 7 0 := by decide +kernel
theorem i66_23 : zi 66 23 24 1 2 0 := by decide +kernel
theorem i66_24 : zi 66 24 25 1 3 0 := by decide +kernel
theorem i66_25 : zi 66 25 26 1 6 0 := by decide +kernel
theorem i66_26 : zi 66 26 27 22 68 0 := by decide +kernel
theorem na_68 : z_na 68 = 2 := by decide +kernel
theorem i66_27 : zi 66 27 28 22 67 0 := by decide +kernel
theorem na_67 : z_na 67 = 3 := by decide +kernel
theorem i66_28 : zi 66 28 29 3 8 0 := by decide +kernel
theorem i66_29 : zi 66 29 30 1 8 0 := by decide +kernel
theorem i66_30 : zi 66 30 31 0 0 4 := by decide +kernel
theorem i66_31 : zi 66 31 32 19 34 1 := by decide +kernel
theorem i66_32 : zi 66 32 33 0 0 64 := by decide +kernel
theorem kc_64 : Int32.ofInt 64 = 64 := by decide +kernel
theorem i66_33 : zi 66 33 34 25 0 0 := by decide +kernel
theorem i66_34 : zi 66 34 35 1 4 0 := by decide +kernel
theorem i66_35 : zi 66 35 36 0 0 4 := by decide +kernel
theorem i66_36 : zi 66 36 37 13 2 0 := by decide +kernel
theorem i66_37 : zi 66 37 38 1 8 0 := by decide +kernel
theorem i66_38 : zi 66 38 39 13 0 0 := by decide +kernel
theorem i66_39 : zi 66 39 40 3 4 0 := by decide +kernel
theorem i66_40 : zi 66 40 41 1 7 0 := by decide +kernel
theorem i66_41 : zi 66 41 42 0 0 8 := by decide +kernel
theorem i66_42 : zi 66 42 43 19 45 1 := by decide +kernel
theorem i66_43 : zi 66 43 44 0 0 1 := by decide +kernel
theorem i66_44 : zi 66 44 45 17 46 0 := by decide +kernel
theorem i66_45 : zi 66 45 46 0 0 0 := by decide +kernel
theorem i66_46 : zi 66 46 47 3 5 0 := by decide +kernel
theorem i66_47 : zi 66 47 48 5 6 1 := by decide +kernel
theorem i66_48 : zi 66 48 49 17 6 0 := by decide +kernel
theorem i66_49 : zi 66 49 50 1 4 0 := by decide +kernel
theorem i66_50 : zi 66 50 51 25 0 0 := by decide +kernel
theorem ml_66 : z_ml 66 = 9 := by decide +kernel
theorem en_66 : ∀ (v0 v1 v2 v3 : zV), z_ent 66 [v0, v1, v2, v3] = [some v0, some v1, some v2, some v3, none, none, none, none, none] := fun v0 v1 v2 v3 => by unfold z_ent; rw [ml_66]; rfl
theorem i64_0 : zi 64 0 1 1 1 0 := by decide +kernel
theorem i64_1 : zi 64 1 2 2 0 0 := by decide +kernel
theorem i64_2 : zi 64 2 3 1 2 0 := by decide +kernel
theorem i64_3 : zi 64 3 4 21 78 6 := by decide +kernel
theorem na_78 : z_na 78 = 1 := by decide +kernel
theorem i74_0 : zi 74 0 1 0 0 0 := by decide +kernel
theorem i74_1 : zi 74 1 2 3 3 0 := by decide +kernel
theorem i74_2 : zi 74 2 3 0 0 0 := by decide +kernel
theorem i74_3 : zi 74 3 4 3 4 0 := by decide +kernel
theorem i74_4 : zi 74 4 5 1 4 0 := by decide +kernel
theorem i74_5 : zi 74 5 6 2 0 0 := by decide +kernel
theorem i74_6 : zi 74 6 7 6 6 4 := by decide +kernel
theorem i74_7 : zi 74 7 8 12 0 0 := by decide +kernel
theorem kn_18 : Int32.ofNat 18 = 18 := by decide +kernel
theorem i74_8 : zi 74 8 9 19 23 3 := by decide +kernel
theorem i74_9 : zi 74 9 10 2 0 0 := by decide +kernel
theorem i74_10 : zi 74 10 11 6 6 4 := by decide +kernel
theorem i74_11 : zi 74 11 12 1 4 0 := by decide +kernel
theorem i74_12 : zi 74 12 13 8 0 0 := by decide +kernel
theorem i74_13 : zi 74 13 14 1 1 0 := by decide +kernel
theorem i74_14 : zi 74 14 15 19 21 1 := by decide +kernel
theorem i74_15 : zi 74 15 16 2 0 0 := by decide +kernel
theorem i74_16 : zi 74 16 17 6 6 4 := by decide +kernel
theorem i74_17 : zi 74 17 18 1 4 0 := by decide +kernel
theorem i74_18 : zi 74 18 19 1 2 0 := by decide +kernel
theorem i74_19 : zi 74 19 20 10 0 0 := by decide +kernel
theorem i74_20 : zi 74 20 21 5 3 1 := by decide +kernel
theorem i74_21 : zi 74 21 22 5 4 1 := by decide +kernel
theorem i74_22 : zi 74 22 23 17 4 0 := by decide +kernel
theorem i74_23 : zi 74 23 24 1 3 0 := by decide +kernel
theorem i74_24 : zi 74 24 25 25 0 0 := by decide +kernel
theorem ml_74 : z_ml 74 = 5 := by decide +kernel
theorem en_74 : ∀ (v0 v1 v2 : zV), z_ent 74 [v0, v1, v2] = [some v0, some v1, some v2, none, none] := fun v0 v1 v2 => by unfold z_ent; rw [ml_74]; rfl
theorem i75_0 : zi 75 0 1 0 0 0 := by decide +kernel
theorem i75_1 : zi 75 1 2 3 3 0 := by decide +kernel
theorem i75_2 : zi 75 2 3 1 3 0 := by decide +kernel
theorem i75_3 : zi 75 3 4 0 0 4 := by decide +kernel
theorem i75_4 : zi 75 4 5 19 19 3 := by decide +kernel
theorem i75_5 : zi 75 5 6 2 0 0 := by decide +kernel
theorem i75_6 : zi 75 6 7 1 3 0 := by decide +kernel
theorem i75_7 : zi 75 7 8 1 1 0 := by decide +kernel
theorem i75_8 : zi 75 8 9 0 0 0 := by decide +kernel
theorem i75_9 : zi 75 9 10 21 76 6 := by decide +kernel
theorem i75_10 : zi 75 10 11 18 17 0 := by decide +kernel
theorem i75_11 : zi 75 11 12 2 0 0 := by decide +kernel
theorem i75_12 : zi 75 12 13 1 3 0 := by decide +kernel
theorem i75_13 : zi 75 13 14 1 2 0 := by decide +kernel
theorem i75_14 : zi 75 14 15 0 0 1 := by decide +kernel
theorem i75_15 : zi 75 15 16 21 76 6 := by decide +kernel
theorem i75_16 : zi 75 16 17 16 0 0 := by decide +kernel
theorem i75_17 : zi 75 17 18 5 3 1 := by decide +kernel
theorem i75_18 : zi 75 18 19 17 2 0 := by decide +kernel
theorem i75_19 : zi 75 19 20 27 0 0 := by decide +kernel
theorem ml_75 : z_ml 75 = 4 := by decide +kernel
theorem en_75 : ∀ (v0 v1 v2 : zV), z_ent 75 [v0, v1, v2] = [some v0, some v1, some v2, none] := fun v0 v1 v2 => by unfold z_ent; rw [ml_75]; rfl
theorem i93_0 : zi 93 0 1 0 0 1 := by decide +kernel
theorem i93_1 : zi 93 1 2 3 3 0 := by decide +kernel
theorem i93_2 : zi 93 2 3 1 3 0 := by decide +kernel
theorem i93_3 : zi 93 3 4 2 0 0 := by decide +kernel
theorem i93_4 : zi 93 4 5 6 7 1 := by decide +kernel
theorem i93_5 : zi 93 5 6 19 35 4 := by decide +kernel
theorem i93_6 : zi 93 6 7 1 1 0 := by decide +kernel
theorem i93_7 : zi 93 7 8 3 4 0 := by decide +kernel
theorem i93_8 : zi 93 8 9 0 0 0 := by decide +kernel
theorem i93_9 : zi 93 9 10 3 5 0 := by decide +kernel
theorem i93_35 : zi 93 35 36 27 0 0 := by decide +kernel
theorem i93_10 : zi 93 10 11 1 5 0 := by decide +kernel
theorem i93_11 : zi 93 11 12 1 2 0 := by decide +kernel
theorem i93_12 : zi 93 12 13 19 21 3 := by decide +kernel
theorem i93_13 : zi 93 13 14 1 4 0 := by decide +kernel
theorem i93_14 : zi 93 14 15 1 3 0 := by decide +kernel
theorem i93_15 : zi 93 15 16 13 2 0 := by decide +kernel
theorem i93_16 : zi 93 16 17 0 0 257 := by decide +kernel
theorem kc_257 : Int32.ofInt 257 = 257 := by decide +kernel
theorem i93_17 : zi 93 17 18 13 4 0 := by decide +kernel
theorem nz_257 : ¬ (257 : Int32) = 0 := by decide
theorem i93_18 : zi 93 18 19 3 4 0 := by decide +kernel
theorem i93_19 : zi 93 19 20 5 5 1 := by decide +kernel
theorem i93_20 : zi 93 20 21 17 10 0 := by decide +kernel
theorem i93_21 : zi 93 21 22 2 0 0 := by decide +kernel
theorem i93_22 : zi 93 22 23 6 7 3 := by decide +kernel
theorem i93_23 : zi 93 23 24 1 3 0 := by decide +kernel
theorem i93_24 : zi 93 24 25 2 0 0 := by decide +kernel
theorem i93_25 : zi 93 25 26 6 7 3 := by decide +kernel
theorem i93_26 : zi 93 26 27 1 3 0 := by decide +kernel
theorem i93_27 : zi 93 27 28 8 0 0 := by decide +kernel
theorem i93_28 : zi 93 28 29 1 4 0 := by decide +kernel
theorem i93_29 : zi 93 29 30 13 0 0 := by decide +kernel
theorem i93_30 : zi 93 30 31 0 0 257 := by decide +kernel
theorem i93_31 : zi 93 31 32 13 4 0 := by decide +kernel
theorem i93_32 : zi 93 32 33 10 0 0 := by decide +kernel
theorem i93_33 : zi 93 33 34 5 3 1 := by decide +kernel
theorem i93_34 : zi 93 34 35 17 2 0 := by decide +kernel
theorem ml_93 : z_ml 93 = 6 := by decide +kernel
theorem en_93 : ∀ (v0 v1 v2 : zV), z_ent 93 [v0, v1, v2] = [some v0, some v1, some v2, none, none, none] := fun v0 v1 v2 => by unfold z_ent; rw [ml_93]; rfl
theorem i87_0 : zi 87 0 1 1 1 0 := by decide +kernel
theorem i87_1 : zi 87 1 2 3 4 0 := by decide +kernel
theorem i87_2 : zi 87 2 3 2 0 0 := by decide +kernel
theorem i87_3 : zi 87 3 4 6 7 0 := by decide +kernel
theorem fl_1_0 : zfl 1 7 0 0 none := by decide +kernel
theorem i87_4 : zi 87 4 5 0 0 (-1) := by decide +kernel
theorem i87_5 : zi 87 5 6 19 14 1 := by decide +kernel
theorem i87_6 : zi 87 6 7 1 4 0 := by decide +kernel
theorem i87_7 : zi 87 7 8 22 92 0 := by decide +kernel
theorem na_92 : z_na 92 = 1 := by decide +kernel
theorem i87_8 : zi 87 8 9 3 4 0 := by decide +kernel
theorem i87_9 : zi 87 9 10 2 0 0 := by decide +kernel
theorem i87_10 : zi 87 10 11 1 4 0 := by decide +kernel
theorem i87_11 : zi 87 11 12 0 0 257 := by decide +kernel
theorem i87_12 : zi 87 12 13 13 4 0 := by decide +kernel
theorem i87_13 : zi 87 13 14 7 7 0 := by decide +kernel
theorem i87_14 : zi 87 14 15 2 0 0 := by decide +kernel
theorem i87_15 : zi 87 15 16 1 2 0 := by decide +kernel
theorem i87_16 : zi 87 16 17 7 7 1 := by decide +kernel
theorem i87_17 : zi 87 17 18 2 0 0 := by decide +kernel
theorem i87_18 : zi 87 18 19 1 3 0 := by decide +kernel
theorem i87_19 : zi 87 19 20 7 7 2 := by decide +kernel
theorem fl_1_2 : zfl 1 7 2 2 none := by decide +kernel
theorem i87_20 : zi 87 20 21 0 0 1 := by decide +kernel
theorem i87_21 : zi 87 21 22 3 5 0 := by decide +kernel
theorem i87_22 : zi 87 22 23 1 5 0 := by decide +kernel
theorem i87_23 : zi 87 23 24 2 0 0 := by decide +kernel
theorem i87_24 : zi 87 24 25 6 7 1 := by decide +kernel
theorem i87_25 : zi 87 25 26 19 34 4 := by decide +kernel
theorem i87_26 : zi 87 26 27 2 0 0 := by decide +kernel
theorem i87_27 : zi 87 27 28 6 7 3 := by decide +kernel
theorem i87_28 : zi 87 28 29 1 5 0 := by decide +kernel
theorem i87_29 : zi 87 29 30 2 0 0 := by decide +kernel
theorem i87_30 : zi 87 30 31 6 7 0 := by decide +kernel
theorem i87_31 : zi 87 31 32 10 0 0 := by decide +kernel
theorem i87_32 : zi 87 32 33 5 5 1 := by decide +kernel
theorem i87_33 : zi 87 33 34 17 22 0 := by decide +kernel
theorem i87_34 : zi 87 34 35 0 0 1 := by decide +kernel
theorem i87_35 : zi 87 35 36 3 5 0 := by decide +kernel
theorem i87_36 : zi 87 36 37 1 5 0 := by decide +kernel
theorem i87_37 : zi 87 37 38 2 0 0 := by decide +kernel
theorem i87_38 : zi 87 38 39 6 7 2 := by decide +kernel
theorem i87_39 : zi 87 39 40 19 51 3 := by decide +kernel
theorem i87_40 : zi 87 40 41 1 4 0 := by decide +kernel
theorem i87_41 : zi 87 41 42 22 92 0 := by decide +kernel
theorem i87_42 : zi 87 42 43 3 4 0 := by decide +kernel
theorem i87_43 : zi 87 43 44 2 0 0 := by decide +kernel
theorem i87_44 : zi 87 44 45 1 4 0 := by decide +kernel
theorem i87_45 : zi 87 45 46 0 0 257 := by decide +kernel
theorem i87_46 : zi 87 46 47 13 4 0 := by decide +kernel
theorem i87_47 : zi 87 47 48 1 5 0 := by decide +kernel
theorem i87_48 : zi 87 48 49 21 93 7 := by decide +kernel
theorem na_93 : z_na 93 = 2 := by decide +kernel
theorem i98_0 : zi 98 0 1 0 0 1 := by decide +kernel
theorem i98_1 : zi 98 1 2 3 1 0 := by decide +kernel
theorem i98_2 : zi 98 2 3 1 0 0 := by decide +kernel
theorem i98_3 : zi 98 3 4 3 2 0 := by decide +kernel
theorem i98_4 : zi 98 4 5 0 0 0 := by decide +kernel
theorem i98_5 : zi 98 5 6 3 3 0 := by decide +kernel
theorem i98_6 : zi 98 6 7 1 3 0 := by decide +kernel
theorem i98_7 : zi 98 7 8 0 0 8 := by decide +kernel
theorem i98_8 : zi 98 8 9 19 23 3 := by decide +kernel
theorem i98_9 : zi 98 9 10 1 1 0 := by decide +kernel
theorem i98_10 : zi 98 10 11 1 2 0 := by decide +kernel
theorem i98_11 : zi 98 11 12 13 2 0 := by decide +kernel
theorem i98_12 : zi 98 12 13 0 0 257 := by decide +kernel
theorem i98_13 : zi 98 13 14 13 4 0 := by decide +kernel
theorem i98_14 : zi 98 14 15 3 1 0 := by decide +kernel
theorem i98_15 : zi 98 15 16 1 2 0 := by decide +kernel
theorem i98_16 : zi 98 16 17 1 2 0 := by decide +kernel
theorem i98_17 : zi 98 17 18 13 2 0 := by decide +kernel
theorem i98_18 : zi 98 18 19 0 0 257 := by decide +kernel
theorem i98_19 : zi 98 19 20 13 4 0 := by decide +kernel
theorem i98_20 : zi 98 20 21 3 2 0 := by decide +kernel
theorem i98_21 : zi 98 21 22 5 3 1 := by decide +kernel
theorem i98_22 : zi 98 22 23 17 6 0 := by decide +kernel
theorem i98_23 : zi 98 23 24 1 1 0 := by decide +kernel
theorem i98_24 : zi 98 24 25 25 0 0 := by decide +kernel
theorem ml_98 : z_ml 98 = 4 := by decide +kernel
theorem en_98 : ∀ (v0 : zV), z_ent 98 [v0] = [some v0, none, none, none] := fun v0 => by unfold z_ent; rw [ml_98]; rfl
theorem i97_0 : zi 97 0 1 0 0 1 := by decide +kernel
theorem i97_1 : zi 97 1 2 3 2 0 := by decide +kernel
theorem i97_2 : zi 97 2 3 0 0 1 := by decide +kernel
theorem i97_3 : zi 97 3 4 3 3 0 := by decide +kernel
theorem i97_4 : zi 97 4 5 1 3 0 := by decide +kernel
theorem i97_5 : zi 97 5 6 2 0 0 := by decide +kernel
theorem i97_6 : zi 97 6 7 6 7 1 := by decide +kernel
theorem i97_7 : zi 97 7 8 19 34 4 := by decide +kernel
theorem i97_8 : zi 97 8 9 2 0 0 := by decide +kernel
theorem i97_9 : zi 97 9 10 6 7 4 := by decide +kernel
theorem i97_10 : zi 97 10 11 1 3 0 := by decide +kernel
theorem i97_11 : zi 97 11 12 8 0 0 := by decide +kernel
theorem i97_12 : zi 97 12 13 0 0 (-1) := by decide +kernel
theorem i97_13 : zi 97 13 14 19 32 0 := by decide +kernel
theorem i97_14 : zi 97 14 15 1 3 0 := by decide +kernel
theorem i97_15 : zi 97 15 16 1 1 0 := by decide +kernel
theorem i97_16 : zi 97 16 17 19 32 0 := by decide +kernel
theorem i97_17 : zi 97 17 18 1 2 0 := by decide +kernel
theorem i97_18 : zi 97 18 19 1 3 0 := by decide +kernel
theorem i97_19 : zi 97 19 20 13 2 0 := by decide +kernel
theorem i97_20 : zi 97 20 21 0 0 257 := by decide +kernel
theorem i97_21 : zi 97 21 22 13 4 0 := by decide +kernel
theorem i97_22 : zi 97 22 23 1 3 0 := by decide +kernel
theorem i97_23 : zi 97 23 24 1 1 0 := by decide +kernel
theorem i97_24 : zi 97 24 25 13 1 0 := by decide +kernel
theorem i97_25 : zi 97 25 26 0 0 257 := by decide +kernel
theorem i97_26 : zi 97 26 27 22 323 0 := by decide +kernel
theorem i97_27 : zi 97 27 28 22 98 0 := by decide +kernel
theorem na_98 : z_na 98 = 1 := by decide +kernel
theorem i96_0 : zi 96 0 1 0 0 0 := by decide +kernel
theorem i96_1 : zi 96 1 2 3 1 0 := by decide +kernel
theorem i96_2 : zi 96 2 3 0 0 1 := by decide +kernel
theorem i96_3 : zi 96 3 4 3 2 0 := by decide +kernel
theorem i96_4 : zi 96 4 5 1 2 0 := by decide +kernel
theorem i96_5 : zi 96 5 6 2 0 0 := by decide +kernel
theorem i96_6 : zi 96 6 7 6 7 1 := by decide +kernel
theorem i96_7 : zi 96 7 8 19 29 4 := by decide +kernel
theorem i96_8 : zi 96 8 9 2 0 0 := by decide +kernel
theorem i96_9 : zi 96 9 10 6 7 4 := by decide +kernel
theorem i96_10 : zi 96 10 11 1 2 0 := by decide +kernel
theorem i96_11 : zi 96 11 12 8 0 0 := by decide +kernel
theorem i96_12 : zi 96 12 13 0 0 (-1) := by decide +kernel
theorem i96_13 : zi 96 13 14 19 27 0 := by decide +kernel
theorem i96_14 : zi 96 14 15 1 1 0 := by decide +kernel
theorem i96_15 : zi 96 15 16 2 0 0 := by decide +kernel
theorem i96_16 : zi 96 16 17 6 7 4 := by decide +kernel
theorem i96_17 : zi 96 17 18 1 2 0 := by decide +kernel
theorem i96_18 : zi 96 18 19 8 0 0 := by decide +kernel
theorem i96_19 : zi 96 19 20 2 0 0 := by decide +kernel
theorem i96_20 : zi 96 20 21 1 2 0 := by decide +kernel
theorem i96_21 : zi 96 21 22 21 97 7 := by decide +kernel
theorem na_97 : z_na 97 = 1 := by decide +kernel
theorem i95_0 : zi 95 0 1 0 0 0 := by decide +kernel
theorem i95_1 : zi 95 1 2 3 1 0 := by decide +kernel
theorem i95_2 : zi 95 2 3 1 1 0 := by decide +kernel
theorem i95_3 : zi 95 3 4 2 0 0 := by decide +kernel
theorem i95_4 : zi 95 4 5 6 7 4 := by decide +kernel
theorem i95_5 : zi 95 5 6 12 0 0 := by decide +kernel
theorem kn_7 : Int32.ofNat 7 = 7 := by decide +kernel
theorem i95_6 : zi 95 6 7 19 14 3 := by decide +kernel
theorem i95_7 : zi 95 7 8 2 0 0 := by decide +kernel
theorem i95_8 : zi 95 8 9 6 7 4 := by decide +kernel
theorem i95_9 : zi 95 9 10 1 1 0 := by decide +kernel
theorem i95_10 : zi 95 10 11 0 0 (-1) := by decide +kernel
theorem i95_11 : zi 95 11 12 10 0 0 := by decide +kernel
theorem i95_12 : zi 95 12 13 5 1 1 := by decide +kernel
theorem i95_13 : zi 95 13 14 17 2 0 := by decide +kernel
theorem i95_14 : zi 95 14 15 2 0 0 := by decide +kernel
theorem i95_15 : zi 95 15 16 0 0 0 := by decide +kernel
theorem i95_16 : zi 95 16 17 7 7 5 := by decide +kernel
theorem i95_17 : zi 95 17 18 27 0 0 := by decide +kernel
theorem ml_95 : z_ml 95 = 2 := by decide +kernel
theorem en_95 : ∀ (v0 : zV), z_ent 95 [v0] = [some v0, none] := fun v0 => by unfold z_ent; rw [ml_95]; rfl
theorem i101_0 : zi 101 0 1 0 0 0 := by decide +kernel
theorem i101_1 : zi 101 1 2 3 1 0 := by decide +kernel
theorem i101_2 : zi 101 2 3 0 0 0 := by decide +kernel
theorem i101_3 : zi 101 3 4 3 2 0 := by decide +kernel
theorem i101_4 : zi 101 4 5 1 2 0 := by decide +kernel
theorem i101_5 : zi 101 5 6 0 0 3 := by decide +kernel
theorem i101_6 : zi 101 6 7 19 28 3 := by decide +kernel
theorem i101_7 : zi 101 7 8 2 0 0 := by decide +kernel
theorem i101_8 : zi 101 8 9 6 8 0 := by decide +kernel
theorem i101_9 : zi 101 9 10 1 2 0 := by decide +kernel
theorem i101_10 : zi 101 10 11 9 0 0 := by decide +kernel
theorem i101_11 : zi 101 11 12 18 19 0 := by decide +kernel
theorem i101_19 : zi 101 19 20 1 1 0 := by decide +kernel
theorem i101_20 : zi 101 20 21 2 0 0 := by decide +kernel
theorem i101_21 : zi 101 21 22 6 8 0 := by decide +kernel
theorem i101_22 : zi 101 22 23 1 2 0 := by decide +kernel
theorem i101_23 : zi 101 23 24 9 0 0 := by decide +kernel
theorem i101_24 : zi 101 24 25 13 6 0 := by decide +kernel
theorem i101_25 : zi 101 25 26 3 1 0 := by decide +kernel
theorem i101_26 : zi 101 26 27 5 2 1 := by decide +kernel
theorem i101_27 : zi 101 27 28 17 4 0 := by decide +kernel
theorem i101_12 : zi 101 12 13 2 0 0 := by decide +kernel
theorem i101_13 : zi 101 13 14 6 8 1 := by decide +kernel
theorem i101_14 : zi 101 14 15 1 2 0 := by decide +kernel
theorem i101_15 : zi 101 15 16 9 0 0 := by decide +kernel
theorem i101_16 : zi 101 16 17 18 19 1 := by decide +kernel
theorem i101_17 : zi 101 17 18 0 0 0 := by decide +kernel
theorem i101_18 : zi 101 18 19 26 0 0 := by decide +kernel
theorem i101_28 : zi 101 28 29 1 1 0 := by decide +kernel
theorem i101_29 : zi 101 29 30 26 0 0 := by decide +kernel
theorem ml_101 : z_ml 101 = 3 := by decide +kernel
theorem en_101 : ∀ (v0 : zV), z_ent 101 [v0] = [some v0, none, none] := fun v0 => by unfold z_ent; rw [ml_101]; rfl
theorem i102_0 : zi 102 0 1 1 4 0 := by decide +kernel
theorem i102_1 : zi 102 1 2 18 6 3 := by decide +kernel
theorem i102_6 : zi 102 6 7 1 4 0 := by decide +kernel
theorem i102_2 : zi 102 2 3 0 0 60000 := by decide +kernel
theorem kc_60000 : Int32.ofInt 60000 = 60000 := by decide +kernel
theorem i102_3 : zi 102 3 4 1 4 0 := by decide +kernel
theorem i102_4 : zi 102 4 5 13 0 0 := by decide +kernel
theorem i102_5 : zi 102 5 6 17 7 0 := by decide +kernel
theorem i102_7 : zi 102 7 8 3 5 0 := by decide +kernel
theorem i102_8 : zi 102 8 9 0 0 7 := by decide +kernel
theorem i102_9 : zi 102 9 10 1 1 0 := by decide +kernel
theorem i102_10 : zi 102 10 11 13 2 0 := by decide +kernel
theorem i102_11 : zi 102 11 12 1 2 0 := by decide +kernel
theorem i102_12 : zi 102 12 13 13 0 0 := by decide +kernel
theorem i102_13 : zi 102 13 14 0 0 1000 := by decide +kernel
theorem i102_14 : zi 102 14 15 1 3 0 := by decide +kernel
theorem i102_15 : zi 102 15 16 22 103 0 := by decide +kernel
theorem na_103 : z_na 103 = 1 := by decide +kernel
theorem i102_16 : zi 102 16 17 13 2 0 := by decide +kernel
theorem i102_17 : zi 102 17 18 13 0 0 := by decide +kernel
theorem i102_18 : zi 102 18 19 3 6 0 := by decide +kernel
theorem i102_19 : zi 102 19 20 0 0 0 := by decide +kernel
theorem i102_20 : zi 102 20 21 3 7 0 := by decide +kernel
theorem i102_21 : zi 102 21 22 1 7 0 := by decide +kernel
theorem i102_22 : zi 102 22 23 0 0 3 := by decide +kernel
theorem i102_23 : zi 102 23 24 19 57 3 := by decide +kernel
theorem i102_24 : zi 102 24 25 2 0 0 := by decide +kernel
theorem i102_25 : zi 102 25 26 6 8 0 := by decide +kernel
theorem i102_26 : zi 102 26 27 1 7 0 := by decide +kernel
theorem i102_27 : zi 102 27 28 9 0 0 := by decide +kernel
theorem i102_28 : zi 102 28 29 18 55 0 := by decide +kernel
theorem i102_29 : zi 102 29 30 2 0 0 := by decide +kernel
theorem i102_30 : zi 102 30 31 6 8 1 := by decide +kernel
theorem i102_31 : zi 102 31 32 1 7 0 := by decide +kernel
theorem i102_32 : zi 102 32 33 9 0 0 := by decide +kernel
theorem i102_33 : zi 102 33 34 18 55 1 := by decide +kernel
theorem i102_34 : zi 102 34 35 2 0 0 := by decide +kernel
theorem i102_35 : zi 102 35 36 6 8 3 := by decide +kernel
theorem i102_36 : zi 102 36 37 1 7 0 := by decide +kernel
theorem i102_37 : zi 102 37 38 0 0 31 := by decide +kernel
theorem kc_31 : Int32.ofInt 31 = 31 := by decide +kernel
theorem i102_38 : zi 102 38 39 2 0 0 := by decide +kernel
theorem i102_39 : zi 102 39 40 6 8 3 := by decide +kernel
theorem i102_40 : zi 102 40 41 1 7 0 := by decide +kernel
theorem i102_41 : zi 102 41 42 8 0 0 := by decide +kernel
theorem i102_42 : zi 102 42 43 13 2 0 := by decide +kernel
theorem i102_43 : zi 102 43 44 1 6 0 := by decide +kernel
theorem i102_44 : zi 102 44 45 13 0 0 := by decide +kernel
theorem i102_45 : zi 102 45 46 1 5 0 := by decide +kernel
theorem i102_46 : zi 102 46 47 2 0 0 := by decide +kernel
theorem i102_47 : zi 102 47 48 6 8 2 := by decide +kernel
theorem i102_48 : zi 102 48 49 1 7 0 := by decide +kernel
theorem i102_49 : zi 102 49 50 8 0 0 := by decide +kernel
theorem i102_50 : zi 102 50 51 13 2 0 := by decide +kernel
theorem i102_51 : zi 102 51 52 13 0 0 := by decide +kernel
theorem i102_52 : zi 102 52 53 0 0 65521 := by decide +kernel
theorem kc_65521 : Int32.ofInt 65521 = 65521 := by decide +kernel
theorem i102_53 : zi 102 53 54 13 4 0 := by decide +kernel
theorem nz_65521 : ¬ (65521 : Int32) = 0 := by decide
theorem i102_54 : zi 102 54 55 10 0 0 := by decide +kernel
theorem i102_55 : zi 102 55 56 5 7 1 := by decide +kernel
theorem i102_56 : zi 102 56 57 17 21 0 := by decide +kernel
theorem i102_57 : zi 102 57 58 27 0 0 := by decide +kernel
theorem ml_102 : z_ml 102 = 8 := by decide +kernel
theorem en_102 : ∀ (v0 v1 v2 v3 v4 : zV), z_ent 102 [v0, v1, v2, v3, v4] = [some v0, some v1, some v2, some v3, some v4, none, none, none] := fun v0 v1 v2 v3 v4 => by unfold z_ent; rw [ml_102]; rfl
theorem i112_0 : zi 112 0 1 2 2 0 := by decide +kernel
theorem i112_1 : zi 112 1 2 21 37 4 := by decide +kernel
theorem i112_2 : zi 112 2 3 3 4 0 := by decide +kernel
theorem i112_3 : zi 112 3 4 0 0 0 := by decide +kernel
theorem i112_4 : zi 112 4 5 3 5 0 := by decide +kernel
theorem i112_5 : zi 112 5 6 0 0 0 := by decide +kernel
theorem i112_6 : zi 112 6 7 3 6 0 := by decide +kernel
theorem i112_7 : zi 112 7 8 1 6 0 := by decide +kernel
theorem i112_8 : zi 112 8 9 0 0 216 := by decide +kernel
theorem i112_9 : zi 112 9 10 19 69 3 := by decide +kernel
theorem i112_10 : zi 112 10 11 0 0 1 := by decide +kernel
theorem i112_11 : zi 112 11 12 2 0 0 := by decide +kernel
theorem i112_12 : zi 112 12 13 6 9 0 := by decide +kernel
theorem i112_13 : zi 112 13 14 1 6 0 := by decide +kernel
theorem i112_14 : zi 112 14 15 8 0 0 := by decide +kernel
theorem i112_15 : zi 112 15 16 0 0 4 := by decide +kernel
theorem i112_16 : zi 112 16 17 13 1 0 := by decide +kernel
theorem i112_17 : zi 112 17 18 0 0 1 := by decide +kernel
theorem i112_18 : zi 112 18 19 13 0 0 := by decide +kernel
theorem i112_19 : zi 112 19 20 23 0 0 := by decide +kernel
theorem i112_20 : zi 112 20 21 3 7 0 := by decide +kernel
theorem i112_69 : zi 112 69 70 1 5 0 := by decide +kernel
theorem i112_70 : zi 112 70 71 25 0 0 := by decide +kernel
theorem i112_21 : zi 112 21 22 1 7 0 := by decide +kernel
theorem i112_22 : zi 112 22 23 2 0 0 := by decide +kernel
theorem i112_23 : zi 112 23 24 6 9 0 := by decide +kernel
theorem i112_24 : zi 112 24 25 1 6 0 := by decide +kernel
theorem i112_25 : zi 112 25 26 8 0 0 := by decide +kernel
theorem i112_26 : zi 112 26 27 19 67 4 := by decide +kernel
theorem i112_27 : zi 112 27 28 1 5 0 := by decide +kernel
theorem i112_28 : zi 112 28 29 1 1 0 := by decide +kernel
theorem i112_29 : zi 112 29 30 19 67 3 := by decide +kernel
theorem i112_30 : zi 112 30 31 1 6 0 := by decide +kernel
theorem i112_31 : zi 112 31 32 0 0 4 := by decide +kernel
theorem i112_32 : zi 112 32 33 13 2 0 := by decide +kernel
theorem i112_33 : zi 112 33 34 1 7 0 := by decide +kernel
theorem i112_34 : zi 112 34 35 0 0 4 := by decide +kernel
theorem i112_35 : zi 112 35 36 22 323 0 := by decide +kernel
theorem i112_36 : zi 112 36 37 13 0 0 := by decide +kernel
theorem i112_37 : zi 112 37 38 3 8 0 := by decide +kernel
theorem i112_38 : zi 112 38 39 2 0 0 := by decide +kernel
theorem i112_39 : zi 112 39 40 6 9 3 := by decide +kernel
theorem i112_40 : zi 112 40 41 1 8 0 := by decide +kernel
theorem i112_41 : zi 112 41 42 8 0 0 := by decide +kernel
theorem i112_42 : zi 112 42 43 0 0 2 := by decide +kernel
theorem i112_43 : zi 112 43 44 19 65 0 := by decide +kernel
theorem i112_44 : zi 112 44 45 2 0 0 := by decide +kernel
theorem i112_45 : zi 112 45 46 6 9 2 := by decide +kernel
theorem i112_46 : zi 112 46 47 1 8 0 := by decide +kernel
theorem i112_47 : zi 112 47 48 8 0 0 := by decide +kernel
theorem i112_48 : zi 112 48 49 1 4 0 := by decide +kernel
theorem i112_49 : zi 112 49 50 19 65 3 := by decide +kernel
theorem i112_50 : zi 112 50 51 2 0 0 := by decide +kernel
theorem i112_51 : zi 112 51 52 6 9 2 := by decide +kernel
theorem i112_52 : zi 112 52 53 1 8 0 := by decide +kernel
theorem i112_53 : zi 112 53 54 8 0 0 := by decide +kernel
theorem i112_54 : zi 112 54 55 2 2 0 := by decide +kernel
theorem i112_55 : zi 112 55 56 21 38 4 := by decide +kernel
theorem i112_56 : zi 112 56 57 19 65 2 := by decide +kernel
theorem i112_57 : zi 112 57 58 2 0 0 := by decide +kernel
theorem i112_58 : zi 112 58 59 6 9 2 := by decide +kernel
theorem i112_59 : zi 112 59 60 1 8 0 := by decide +kernel
theorem i112_60 : zi 112 60 61 2 2 0 := by decide +kernel
theorem i112_61 : zi 112 61 62 1 3 0 := by decide +kernel
theorem i112_62 : zi 112 62 63 21 41 4 := by decide +kernel
theorem i112_63 : zi 112 63 64 10 0 0 := by decide +kernel
theorem i112_64 : zi 112 64 65 5 5 1 := by decide +kernel
theorem i112_65 : zi 112 65 66 5 7 1 := by decide +kernel
theorem i112_66 : zi 112 66 67 17 21 0 := by decide +kernel
theorem i112_67 : zi 112 67 68 5 6 1 := by decide +kernel
theorem i112_68 : zi 112 68 69 17 7 0 := by decide +kernel
theorem ml_112 : z_ml 112 = 9 := by decide +kernel
theorem en_112 : ∀ (v0 v1 v2 v3 : zV), z_ent 112 [v0, v1, v2, v3] = [some v0, some v1, some v2, some v3, none, none, none, none, none] := fun v0 v1 v2 v3 => by unfold z_ent; rw [ml_112]; rfl
theorem i126_0 : zi 126 0 1 0 0 0 := by decide +kernel
theorem i126_1 : zi 126 1 2 3 3 0 := by decide +kernel
theorem i126_2 : zi 126 2 3 1 3 0 := by decide +kernel
theorem i126_3 : zi 126 3 4 2 0 0 := by decide +kernel
theorem i126_4 : zi 126 4 5 6 10 0 := by decide +kernel
theorem i126_5 : zi 126 5 6 19 19 3 := by decide +kernel
theorem i126_6 : zi 126 6 7 2 0 0 := by decide +kernel
theorem i126_7 : zi 126 7 8 6 10 3 := by decide +kernel
theorem i126_8 : zi 126 8 9 1 3 0 := by decide +kernel
theorem i126_9 : zi 126 9 10 8 0 0 := by decide +kernel
theorem i126_10 : zi 126 10 11 1 1 0 := by decide +kernel
theorem i126_11 : zi 126 11 12 19 17 1 := by decide +kernel
theorem i126_12 : zi 126 12 13 2 0 0 := by decide +kernel
theorem i126_13 : zi 126 13 14 6 10 3 := by decide +kernel
theorem i126_14 : zi 126 14 15 1 3 0 := by decide +kernel
theorem i126_15 : zi 126 15 16 1 2 0 := by decide +kernel
theorem i126_16 : zi 126 16 17 10 0 0 := by decide +kernel
theorem i126_17 : zi 126 17 18 5 3 1 := by decide +kernel
theorem i126_18 : zi 126 18 19 17 2 0 := by decide +kernel
theorem i126_19 : zi 126 19 20 27 0 0 := by decide +kernel
theorem ml_126 : z_ml 126 = 4 := by decide +kernel
theorem en_126 : ∀ (v0 v1 v2 : zV), z_ent 126 [v0, v1, v2] = [some v0, some v1, some v2, none] := fun v0 v1 v2 => by unfold z_ent; rw [ml_126]; rfl
theorem i129_0 : zi 129 0 1 2 0 0 := by decide +kernel
theorem i129_1 : zi 129 1 2 6 10 11 := by decide +kernel
theorem i129_2 : zi 129 2 3 1 1 0 := by decide +kernel
theorem i129_3 : zi 129 3 4 9 0 0 := by decide +kernel
theorem i129_4 : zi 129 4 5 18 7 0 := by decide +kernel
theorem i129_7 : zi 129 7 8 2 0 0 := by decide +kernel
theorem i129_8 : zi 129 8 9 6 10 11 := by decide +kernel
theorem i129_9 : zi 129 9 10 1 1 0 := by decide +kernel
theorem i129_10 : zi 129 10 11 0 0 1 := by decide +kernel
theorem i129_11 : zi 129 11 12 11 0 0 := by decide +kernel
theorem i129_12 : zi 129 12 13 0 0 1 := by decide +kernel
theorem i129_13 : zi 129 13 14 3 2 0 := by decide +kernel
theorem i129_14 : zi 129 14 15 1 1 0 := by decide +kernel
theorem i129_15 : zi 129 15 16 0 0 1 := by decide +kernel
theorem i129_16 : zi 129 16 17 13 0 0 := by decide +kernel
theorem i129_17 : zi 129 17 18 3 3 0 := by decide +kernel
theorem i129_5 : zi 129 5 6 0 0 0 := by decide +kernel
theorem i129_6 : zi 129 6 7 25 0 0 := by decide +kernel
theorem i129_18 : zi 129 18 19 1 3 0 := by decide +kernel
theorem i129_19 : zi 129 19 20 2 0 0 := by decide +kernel
theorem i129_20 : zi 129 20 21 6 10 0 := by decide +kernel
theorem i129_21 : zi 129 21 22 19 39 3 := by decide +kernel
theorem i129_22 : zi 129 22 23 2 0 0 := by decide +kernel
theorem i129_23 : zi 129 23 24 6 10 11 := by decide +kernel
theorem i129_24 : zi 129 24 25 1 3 0 := by decide +kernel
theorem i129_25 : zi 129 25 26 9 0 0 := by decide +kernel
theorem i129_26 : zi 129 26 27 18 37 1 := by decide +kernel
theorem i129_27 : zi 129 27 28 2 0 0 := by decide +kernel
theorem i129_28 : zi 129 28 29 1 3 0 := by decide +kernel
theorem i129_29 : zi 129 29 30 21 130 10 := by decide +kernel
theorem na_130 : z_na 130 = 1 := by decide +kernel
theorem i129_30 : zi 129 30 31 18 37 0 := by decide +kernel
theorem i129_31 : zi 129 31 32 2 0 0 := by decide +kernel
theorem i129_32 : zi 129 32 33 6 10 11 := by decide +kernel
theorem i129_33 : zi 129 33 34 1 3 0 := by decide +kernel
theorem i129_34 : zi 129 34 35 0 0 1 := by decide +kernel
theorem i129_35 : zi 129 35 36 11 0 0 := by decide +kernel
theorem i129_36 : zi 129 36 37 5 2 1 := by decide +kernel
theorem i129_37 : zi 129 37 38 5 3 1 := by decide +kernel
theorem i129_38 : zi 129 38 39 17 18 0 := by decide +kernel
theorem i129_39 : zi 129 39 40 1 2 0 := by decide +kernel
theorem i129_40 : zi 129 40 41 25 0 0 := by decide +kernel
theorem ml_129 : z_ml 129 = 4 := by decide +kernel
theorem en_129 : ∀ (v0 v1 : zV), z_ent 129 [v0, v1] = [some v0, some v1, none, none] := fun v0 v1 => by unfold z_ent; rw [ml_129]; rfl
theorem i210_0 : zi 210 0 1 2 0 0 := by decide +kernel
theorem i210_1 : zi 210 1 2 14 0 0 := by decide +kernel
theorem i210_2 : zi 210 2 3 6 11 11 := by decide +kernel
theorem i210_3 : zi 210 3 4 0 0 1 := by decide +kernel
theorem i210_4 : zi 210 4 5 13 0 0 := by decide +kernel
theorem i210_5 : zi 210 5 6 7 11 11 := by decide +kernel
theorem i210_6 : zi 210 6 7 2 0 0 := by decide +kernel
theorem i210_7 : zi 210 7 8 6 11 2 := by decide +kernel
theorem i210_8 : zi 210 8 9 21 13 1 := by decide +kernel
theorem na_13 : z_na 13 = 0 := by decide +kernel
theorem i184_0 : zi 184 0 1 1 1 0 := by decide +kernel
theorem i184_1 : zi 184 1 2 0 0 1 := by decide +kernel
theorem i184_2 : zi 184 2 3 0 0 50 := by decide +kernel
theorem i184_3 : zi 184 3 4 22 188 0 := by decide +kernel
theorem i184_4 : zi 184 4 5 22 186 0 := by decide +kernel
theorem i184_5 : zi 184 5 6 0 0 0 := by decide +kernel
theorem i184_6 : zi 184 6 7 3 2 0 := by decide +kernel
theorem th_184 : (z_th 184).isEmpty = true := by decide +kernel
theorem i184_7 : zi 184 7 8 1 2 0 := by decide +kernel
theorem i184_8 : zi 184 8 9 1 1 0 := by decide +kernel
theorem i184_9 : zi 184 9 10 19 14 3 := by decide +kernel
theorem i184_10 : zi 184 10 11 2 0 0 := by decide +kernel
theorem i184_11 : zi 184 11 12 21 210 11 := by decide +kernel
theorem na_210 : z_na 210 = 0 := by decide +kernel
theorem i214_0 : zi 214 0 1 0 0 0 := by decide +kernel
theorem i214_1 : zi 214 1 2 3 1 0 := by decide +kernel
theorem i214_2 : zi 214 2 3 1 1 0 := by decide +kernel
theorem i214_3 : zi 214 3 4 0 0 7 := by decide +kernel
theorem i214_4 : zi 214 4 5 19 17 3 := by decide +kernel
theorem i214_5 : zi 214 5 6 2 0 0 := by decide +kernel
theorem i214_6 : zi 214 6 7 6 12 7 := by decide +kernel
theorem fl_13_7 : zfl 13 12 7 7 (some 82) := by decide +kernel
theorem i214_7 : zi 214 7 8 1 1 0 := by decide +kernel
theorem i214_8 : zi 214 8 9 0 0 (-1) := by decide +kernel
theorem i214_9 : zi 214 9 10 10 0 0 := by decide +kernel
theorem ar_82 : zar 82 0 7 := by decide +kernel
theorem i214_10 : zi 214 10 11 2 0 0 := by decide +kernel
theorem i214_11 : zi 214 11 12 6 12 8 := by decide +kernel
theorem fl_13_8 : zfl 13 12 8 8 (some 83) := by decide +kernel
theorem i214_12 : zi 214 12 13 1 1 0 := by decide +kernel
theorem i214_13 : zi 214 13 14 0 0 (-1) := by decide +kernel
theorem i214_14 : zi 214 14 15 10 0 0 := by decide +kernel
theorem ar_83 : zar 83 0 7 := by decide +kernel
theorem i214_15 : zi 214 15 16 5 1 1 := by decide +kernel
theorem i214_16 : zi 214 16 17 17 2 0 := by decide +kernel
theorem i214_17 : zi 214 17 18 27 0 0 := by decide +kernel
theorem ml_214 : z_ml 214 = 2 := by decide +kernel
theorem en_214 : ∀ (v0 : zV), z_ent 214 [v0] = [some v0, none] := fun v0 => by unfold z_ent; rw [ml_214]; rfl
theorem i216_0 : zi 216 0 1 1 1 0 := by decide +kernel
theorem i216_1 : zi 216 1 2 3 4 0 := by decide +kernel
theorem i216_2 : zi 216 2 3 2 0 0 := by decide +kernel
theorem i216_3 : zi 216 3 4 6 12 3 := by decide +kernel
theorem fl_13_3 : zfl 13 12 3 3 none := by decide +kernel
theorem i216_4 : zi 216 4 5 0 0 (-1) := by decide +kernel
theorem i216_5 : zi 216 5 6 19 14 1 := by decide +kernel
theorem i216_6 : zi 216 6 7 1 4 0 := by decide +kernel
theorem i216_7 : zi 216 7 8 22 215 0 := by decide +kernel
theorem na_215 : z_na 215 = 1 := by decide +kernel
theorem i216_8 : zi 216 8 9 3 4 0 := by decide +kernel
theorem i216_9 : zi 216 9 10 2 0 0 := by decide +kernel
theorem i216_10 : zi 216 10 11 1 4 0 := by decide +kernel
theorem i216_11 : zi 216 11 12 0 0 257 := by decide +kernel
theorem i216_12 : zi 216 12 13 13 4 0 := by decide +kernel
theorem i216_13 : zi 216 13 14 7 12 3 := by decide +kernel
theorem i216_14 : zi 216 14 15 2 0 0 := by decide +kernel
theorem i216_15 : zi 216 15 16 1 2 0 := by decide +kernel
theorem i216_16 : zi 216 16 17 7 12 4 := by decide +kernel
theorem i216_17 : zi 216 17 18 2 0 0 := by decide +kernel
theorem i216_18 : zi 216 18 19 1 3 0 := by decide +kernel
theorem i216_19 : zi 216 19 20 7 12 5 := by decide +kernel
theorem fl_13_5 : zfl 13 12 5 5 none := by decide +kernel
theorem i216_20 : zi 216 20 21 0 0 1 := by decide +kernel
theorem i216_21 : zi 216 21 22 3 5 0 := by decide +kernel
theorem i216_22 : zi 216 22 23 1 5 0 := by decide +kernel
theorem i216_23 : zi 216 23 24 1 2 0 := by decide +kernel
theorem i216_24 : zi 216 24 25 19 33 4 := by decide +kernel
theorem i216_25 : zi 216 25 26 2 0 0 := by decide +kernel
theorem i216_26 : zi 216 26 27 6 12 6 := by decide +kernel
theorem i216_27 : zi 216 27 28 1 5 0 := by decide +kernel
theorem i216_28 : zi 216 28 29 2 0 0 := by decide +kernel
theorem i216_29 : zi 216 29 30 6 12 3 := by decide +kernel
theorem i216_30 : zi 216 30 31 10 0 0 := by decide +kernel
theorem i216_31 : zi 216 31 32 5 5 1 := by decide +kernel
theorem i216_32 : zi 216 32 33 17 22 0 := by decide +kernel
theorem i216_33 : zi 216 33 34 0 0 1 := by decide +kernel
theorem i216_34 : zi 216 34 35 3 5 0 := by decide +kernel
theorem i216_35 : zi 216 35 36 1 5 0 := by decide +kernel
theorem i216_36 : zi 216 36 37 1 3 0 := by decide +kernel
theorem i216_37 : zi 216 37 38 19 79 3 := by decide +kernel
theorem i216_38 : zi 216 38 39 1 4 0 := by decide +kernel
theorem i216_39 : zi 216 39 40 22 215 0 := by decide +kernel
theorem i216_40 : zi 216 40 41 3 4 0 := by decide +kernel
theorem i216_41 : zi 216 41 42 0 0 1 := by decide +kernel
theorem i216_42 : zi 216 42 43 3 6 0 := by decide +kernel
theorem i216_79 : zi 216 79 80 27 0 0 := by decide +kernel
theorem i216_43 : zi 216 43 44 1 6 0 := by decide +kernel
theorem i216_44 : zi 216 44 45 1 2 0 := by decide +kernel
theorem i216_45 : zi 216 45 46 19 77 4 := by decide +kernel
theorem i216_46 : zi 216 46 47 1 4 0 := by decide +kernel
theorem i216_47 : zi 216 47 48 0 0 257 := by decide +kernel
theorem i216_48 : zi 216 48 49 13 4 0 := by decide +kernel
theorem i216_49 : zi 216 49 50 3 7 0 := by decide +kernel
theorem i216_50 : zi 216 50 51 0 0 0 := by decide +kernel
theorem i216_51 : zi 216 51 52 3 8 0 := by decide +kernel
theorem i216_77 : zi 216 77 78 5 5 1 := by decide +kernel
theorem i216_78 : zi 216 78 79 17 35 0 := by decide +kernel
theorem i216_52 : zi 216 52 53 1 8 0 := by decide +kernel
theorem i216_53 : zi 216 53 54 1 5 0 := by decide +kernel
theorem i216_54 : zi 216 54 55 19 63 3 := by decide +kernel
theorem i216_55 : zi 216 55 56 1 7 0 := by decide +kernel
theorem i216_56 : zi 216 56 57 1 6 0 := by decide +kernel
theorem i216_57 : zi 216 57 58 13 2 0 := by decide +kernel
theorem i216_58 : zi 216 58 59 0 0 257 := by decide +kernel
theorem i216_59 : zi 216 59 60 13 4 0 := by decide +kernel
theorem i216_60 : zi 216 60 61 3 7 0 := by decide +kernel
theorem i216_61 : zi 216 61 62 5 8 1 := by decide +kernel
theorem i216_62 : zi 216 62 63 17 52 0 := by decide +kernel
theorem i216_63 : zi 216 63 64 2 0 0 := by decide +kernel
theorem i216_64 : zi 216 64 65 6 12 6 := by decide +kernel
theorem i216_65 : zi 216 65 66 1 6 0 := by decide +kernel
theorem i216_66 : zi 216 66 67 2 0 0 := by decide +kernel
theorem i216_67 : zi 216 67 68 6 12 6 := by decide +kernel
theorem i216_68 : zi 216 68 69 1 6 0 := by decide +kernel
theorem i216_69 : zi 216 69 70 8 0 0 := by decide +kernel
theorem i216_70 : zi 216 70 71 1 7 0 := by decide +kernel
theorem i216_71 : zi 216 71 72 13 0 0 := by decide +kernel
theorem i216_72 : zi 216 72 73 0 0 257 := by decide +kernel
theorem i216_73 : zi 216 73 74 13 4 0 := by decide +kernel
theorem i216_74 : zi 216 74 75 10 0 0 := by decide +kernel
theorem i216_75 : zi 216 75 76 5 6 1 := by decide +kernel
theorem i216_76 : zi 216 76 77 17 43 0 := by decide +kernel
theorem ml_216 : z_ml 216 = 9 := by decide +kernel
theorem en_216 : ∀ (v0 v1 v2 v3 : zV), z_ent 216 [v0, v1, v2, v3] = [some v0, some v1, some v2, some v3, none, none, none, none, none] := fun v0 v1 v2 v3 => by unfold z_ent; rw [ml_216]; rfl
theorem i220_0 : zi 220 0 1 0 0 0 := by decide +kernel
theorem i220_1 : zi 220 1 2 3 1 0 := by decide +kernel
theorem i220_2 : zi 220 2 3 0 0 1 := by decide +kernel
theorem i220_3 : zi 220 3 4 3 2 0 := by decide +kernel
theorem i220_4 : zi 220 4 5 1 2 0 := by decide +kernel
theorem i220_5 : zi 220 5 6 0 0 7 := by decide +kernel
theorem i220_6 : zi 220 6 7 19 20 3 := by decide +kernel
theorem i220_7 : zi 220 7 8 1 1 0 := by decide +kernel
theorem i220_8 : zi 220 8 9 2 0 0 := by decide +kernel
theorem i220_9 : zi 220 9 10 1 2 0 := by decide +kernel
theorem i220_10 : zi 220 10 11 8 0 0 := by decide +kernel
theorem i220_11 : zi 220 11 12 0 0 (-1) := by decide +kernel
theorem i220_12 : zi 220 12 13 19 15 1 := by decide +kernel
theorem i220_13 : zi 220 13 14 0 0 0 := by decide +kernel
theorem i220_14 : zi 220 14 15 17 16 0 := by decide +kernel
theorem i220_15 : zi 220 15 16 0 0 1 := by decide +kernel
theorem i220_16 : zi 220 16 17 13 0 0 := by decide +kernel
theorem i220_17 : zi 220 17 18 3 1 0 := by decide +kernel
theorem i220_18 : zi 220 18 19 5 2 1 := by decide +kernel
theorem i220_19 : zi 220 19 20 17 4 0 := by decide +kernel
theorem i220_20 : zi 220 20 21 1 1 0 := by decide +kernel
theorem i220_21 : zi 220 21 22 25 0 0 := by decide +kernel
theorem ml_220 : z_ml 220 = 3 := by decide +kernel
theorem en_220 : ∀ (v0 : zV), z_ent 220 [v0] = [some v0, none, none] := fun v0 => by unfold z_ent; rw [ml_220]; rfl
theorem i221_0 : zi 221 0 1 0 0 1 := by decide +kernel
theorem i221_1 : zi 221 1 2 3 1 0 := by decide +kernel
theorem i221_2 : zi 221 2 3 1 1 0 := by decide +kernel
theorem i221_3 : zi 221 3 4 1 0 0 := by decide +kernel
theorem i221_4 : zi 221 4 5 13 2 0 := by decide +kernel
theorem i221_5 : zi 221 5 6 0 0 257 := by decide +kernel
theorem i221_6 : zi 221 6 7 13 4 0 := by decide +kernel
theorem i221_7 : zi 221 7 8 0 0 1 := by decide +kernel
theorem i221_8 : zi 221 8 9 19 11 0 := by decide +kernel
theorem i221_9 : zi 221 9 10 5 1 1 := by decide +kernel
theorem i221_10 : zi 221 10 11 17 2 0 := by decide +kernel
theorem i221_11 : zi 221 11 12 1 1 0 := by decide +kernel
theorem i221_12 : zi 221 12 13 25 0 0 := by decide +kernel
theorem ml_221 : z_ml 221 = 2 := by decide +kernel
theorem en_221 : ∀ (v0 : zV), z_ent 221 [v0] = [some v0, none] := fun v0 => by unfold z_ent; rw [ml_221]; rfl
theorem i222_0 : zi 222 0 1 0 0 0 := by decide +kernel
theorem i222_1 : zi 222 1 2 3 1 0 := by decide +kernel
theorem i222_2 : zi 222 2 3 0 0 1 := by decide +kernel
theorem i222_3 : zi 222 3 4 3 2 0 := by decide +kernel
theorem i222_4 : zi 222 4 5 1 2 0 := by decide +kernel
theorem i222_5 : zi 222 5 6 0 0 7 := by decide +kernel
theorem i222_6 : zi 222 6 7 19 61 3 := by decide +kernel
theorem i222_7 : zi 222 7 8 2 0 0 := by decide +kernel
theorem i222_8 : zi 222 8 9 1 2 0 := by decide +kernel
theorem i222_9 : zi 222 9 10 8 0 0 := by decide +kernel
theorem i222_10 : zi 222 10 11 0 0 (-1) := by decide +kernel
theorem i222_11 : zi 222 11 12 19 14 1 := by decide +kernel
theorem i222_12 : zi 222 12 13 0 0 0 := by decide +kernel
theorem i222_13 : zi 222 13 14 17 17 0 := by decide +kernel
theorem i222_14 : zi 222 14 15 2 0 0 := by decide +kernel
theorem i222_15 : zi 222 15 16 1 2 0 := by decide +kernel
theorem i222_16 : zi 222 16 17 8 0 0 := by decide +kernel
theorem i222_17 : zi 222 17 18 3 3 0 := by decide +kernel
theorem i222_18 : zi 222 18 19 0 0 1 := by decide +kernel
theorem i222_19 : zi 222 19 20 3 4 0 := by decide +kernel
theorem i222_61 : zi 222 61 62 1 1 0 := by decide +kernel
theorem i222_62 : zi 222 62 63 0 0 257 := by decide +kernel
theorem i222_63 : zi 222 63 64 13 4 0 := by decide +kernel
theorem i222_64 : zi 222 64 65 25 0 0 := by decide +kernel
theorem i222_20 : zi 222 20 21 1 4 0 := by decide +kernel
theorem i222_21 : zi 222 21 22 0 0 7 := by decide +kernel
theorem i222_22 : zi 222 22 23 19 55 3 := by decide +kernel
theorem i222_23 : zi 222 23 24 1 4 0 := by decide +kernel
theorem i222_24 : zi 222 24 25 1 2 0 := by decide +kernel
theorem i222_25 : zi 222 25 26 19 53 0 := by decide +kernel
theorem i222_26 : zi 222 26 27 2 0 0 := by decide +kernel
theorem i222_27 : zi 222 27 28 1 2 0 := by decide +kernel
theorem i222_28 : zi 222 28 29 8 0 0 := by decide +kernel
theorem i222_29 : zi 222 29 30 0 0 (-1) := by decide +kernel
theorem i222_30 : zi 222 30 31 19 53 0 := by decide +kernel
theorem i222_31 : zi 222 31 32 2 0 0 := by decide +kernel
theorem i222_32 : zi 222 32 33 1 4 0 := by decide +kernel
theorem i222_33 : zi 222 33 34 8 0 0 := by decide +kernel
theorem i222_34 : zi 222 34 35 0 0 (-1) := by decide +kernel
theorem i222_35 : zi 222 35 36 19 53 0 := by decide +kernel
theorem i222_36 : zi 222 36 37 1 3 0 := by decide +kernel
theorem i222_37 : zi 222 37 38 1 4 0 := by decide +kernel
theorem i222_38 : zi 222 38 39 13 2 0 := by decide +kernel
theorem i222_39 : zi 222 39 40 0 0 257 := by decide +kernel
theorem i222_40 : zi 222 40 41 13 4 0 := by decide +kernel
theorem i222_41 : zi 222 41 42 1 4 0 := by decide +kernel
theorem i222_42 : zi 222 42 43 1 2 0 := by decide +kernel
theorem i222_43 : zi 222 43 44 13 1 0 := by decide +kernel
theorem i222_44 : zi 222 44 45 0 0 257 := by decide +kernel
theorem i222_45 : zi 222 45 46 13 0 0 := by decide +kernel
theorem i222_46 : zi 222 46 47 0 0 257 := by decide +kernel
theorem i222_47 : zi 222 47 48 13 4 0 := by decide +kernel
theorem i222_48 : zi 222 48 49 22 221 0 := by decide +kernel
theorem na_221 : z_na 221 = 1 := by decide +kernel
theorem i234_0 : zi 234 0 1 2 0 0 := by decide +kernel
theorem i234_1 : zi 234 1 2 1 1 0 := by decide +kernel
theorem i234_2 : zi 234 2 3 0 0 1 := by decide +kernel
theorem i234_3 : zi 234 3 4 0 0 50 := by decide +kernel
theorem i234_4 : zi 234 4 5 22 213 0 := by decide +kernel
theorem i234_5 : zi 234 5 6 18 8 1 := by decide +kernel
theorem i234_8 : zi 234 8 9 2 0 0 := by decide +kernel
theorem i234_9 : zi 234 9 10 6 12 2 := by decide +kernel
theorem i234_10 : zi 234 10 11 18 13 0 := by decide +kernel
theorem i234_13 : zi 234 13 14 0 0 2 := by decide +kernel
theorem i234_11 : zi 234 11 12 0 0 0 := by decide +kernel
theorem i234_12 : zi 234 12 13 17 14 0 := by decide +kernel
theorem i234_6 : zi 234 6 7 0 0 1 := by decide +kernel
theorem i234_7 : zi 234 7 8 17 14 0 := by decide +kernel
theorem i234_14 : zi 234 14 15 21 212 12 := by decide +kernel
theorem i234_15 : zi 234 15 16 18 18 1 := by decide +kernel
theorem i234_18 : zi 234 18 19 0 0 0 := by decide +kernel
theorem i234_19 : zi 234 19 20 3 2 0 := by decide +kernel
theorem i234_20 : zi 234 20 21 2 0 0 := by decide +kernel
theorem i234_21 : zi 234 21 22 6 12 13 := by decide +kernel
theorem i234_22 : zi 234 22 23 3 3 0 := by decide +kernel
theorem i234_23 : zi 234 23 24 0 0 0 := by decide +kernel
theorem i234_24 : zi 234 24 25 3 4 0 := by decide +kernel
theorem i234_16 : zi 234 16 17 0 0 0 := by decide +kernel
theorem i234_17 : zi 234 17 18 25 0 0 := by decide +kernel
theorem i234_25 : zi 234 25 26 1 4 0 := by decide +kernel
theorem i234_26 : zi 234 26 27 0 0 216 := by decide +kernel
theorem i234_27 : zi 234 27 28 19 91 3 := by decide +kernel
theorem i234_28 : zi 234 28 29 2 0 0 := by decide +kernel
theorem i234_29 : zi 234 29 30 6 12 23 := by decide +kernel
theorem i234_30 : zi 234 30 31 1 4 0 := by decide +kernel
theorem i234_31 : zi 234 31 32 8 0 0 := by decide +kernel
theorem i234_32 : zi 234 32 33 0 0 4 := by decide +kernel
theorem i234_33 : zi 234 33 34 13 1 0 := by decide +kernel
theorem i234_34 : zi 234 34 35 0 0 1 := by decide +kernel
theorem i234_35 : zi 234 35 36 13 0 0 := by decide +kernel
theorem i234_36 : zi 234 36 37 3 5 0 := by decide +kernel
theorem i234_91 : zi 234 91 92 1 2 0 := by decide +kernel
theorem i234_92 : zi 234 92 93 25 0 0 := by decide +kernel
theorem i234_37 : zi 234 37 38 1 5 0 := by decide +kernel
theorem i234_38 : zi 234 38 39 2 0 0 := by decide +kernel
theorem i234_39 : zi 234 39 40 6 12 23 := by decide +kernel
theorem i234_40 : zi 234 40 41 1 4 0 := by decide +kernel
theorem i234_41 : zi 234 41 42 8 0 0 := by decide +kernel
theorem i234_42 : zi 234 42 43 19 89 4 := by decide +kernel
theorem i234_43 : zi 234 43 44 1 2 0 := by decide +kernel
theorem i234_44 : zi 234 44 45 1 1 0 := by decide +kernel
theorem i234_45 : zi 234 45 46 19 89 3 := by decide +kernel
theorem i234_46 : zi 234 46 47 0 0 4 := by decide +kernel
theorem i234_47 : zi 234 47 48 1 4 0 := by decide +kernel
theorem i234_48 : zi 234 48 49 13 2 0 := by decide +kernel
theorem i234_49 : zi 234 49 50 1 5 0 := by decide +kernel
theorem i234_50 : zi 234 50 51 0 0 4 := by decide +kernel
theorem i234_51 : zi 234 51 52 13 0 0 := by decide +kernel
theorem i234_52 : zi 234 52 53 0 0 4 := by decide +kernel
theorem i234_53 : zi 234 53 54 13 4 0 := by decide +kernel
theorem i234_54 : zi 234 54 55 13 0 0 := by decide +kernel
theorem i234_55 : zi 234 55 56 3 6 0 := by decide +kernel
theorem i234_56 : zi 234 56 57 2 0 0 := by decide +kernel
theorem i234_57 : zi 234 57 58 1 4 0 := by decide +kernel
theorem i234_58 : zi 234 58 59 1 5 0 := by decide +kernel
theorem i234_59 : zi 234 59 60 21 233 12 := by decide +kernel
theorem i234_60 : zi 234 60 61 18 87 0 := by decide +kernel
theorem i234_61 : zi 234 61 62 2 0 0 := by decide +kernel
theorem i234_62 : zi 234 62 63 6 12 26 := by decide +kernel
theorem i234_63 : zi 234 63 64 1 6 0 := by decide +kernel
theorem i234_64 : zi 234 64 65 8 0 0 := by decide +kernel
theorem i234_65 : zi 234 65 66 0 0 2 := by decide +kernel
theorem i234_66 : zi 234 66 67 19 87 0 := by decide +kernel
theorem i234_67 : zi 234 67 68 2 0 0 := by decide +kernel
theorem i234_68 : zi 234 68 69 6 12 25 := by decide +kernel
theorem i234_69 : zi 234 69 70 1 6 0 := by decide +kernel
theorem i234_70 : zi 234 70 71 8 0 0 := by decide +kernel
theorem i234_71 : zi 234 71 72 1 3 0 := by decide +kernel
theorem i234_72 : zi 234 72 73 19 87 3 := by decide +kernel
theorem i234_73 : zi 234 73 74 2 0 0 := by decide +kernel
theorem i234_74 : zi 234 74 75 6 12 25 := by decide +kernel
theorem i234_75 : zi 234 75 76 1 6 0 := by decide +kernel
theorem i234_76 : zi 234 76 77 8 0 0 := by decide +kernel
theorem i234_77 : zi 234 77 78 2 0 0 := by decide +kernel
theorem i234_78 : zi 234 78 79 6 12 18 := by decide +kernel
theorem i234_79 : zi 234 79 80 19 87 2 := by decide +kernel
theorem i234_80 : zi 234 80 81 2 0 0 := by decide +kernel
theorem i234_81 : zi 234 81 82 6 12 25 := by decide +kernel
theorem i234_82 : zi 234 82 83 1 6 0 := by decide +kernel
theorem i234_83 : zi 234 83 84 2 0 0 := by decide +kernel
theorem i234_84 : zi 234 84 85 21 229 12 := by decide +kernel
theorem i234_85 : zi 234 85 86 10 0 0 := by decide +kernel
theorem i234_86 : zi 234 86 87 5 2 1 := by decide +kernel
theorem i234_87 : zi 234 87 88 5 5 1 := by decide +kernel
theorem i234_88 : zi 234 88 89 17 37 0 := by decide +kernel
theorem i234_89 : zi 234 89 90 5 4 1 := by decide +kernel
theorem i234_90 : zi 234 90 91 17 25 0 := by decide +kernel
theorem ml_234 : z_ml 234 = 7 := by decide +kernel
theorem en_234 : ∀ (v0 v1 : zV), z_ent 234 [v0, v1] = [some v0, some v1, none, none, none, none, none] := fun v0 v1 => by unfold z_ent; rw [ml_234]; rfl
theorem i271_0 : zi 271 0 1 0 0 0 := by decide +kernel
theorem i271_1 : zi 271 1 2 3 3 0 := by decide +kernel
theorem i271_2 : zi 271 2 3 0 0 0 := by decide +kernel
theorem i271_3 : zi 271 3 4 3 4 0 := by decide +kernel
theorem i271_4 : zi 271 4 5 1 4 0 := by decide +kernel
theorem i271_5 : zi 271 5 6 2 0 0 := by decide +kernel
theorem i271_6 : zi 271 6 7 6 12 57 := by decide +kernel
theorem i271_7 : zi 271 7 8 19 43 3 := by decide +kernel
theorem i271_8 : zi 271 8 9 2 0 0 := by decide +kernel
theorem i271_9 : zi 271 9 10 6 12 63 := by decide +kernel
theorem i271_10 : zi 271 10 11 1 4 0 := by decide +kernel
theorem i271_11 : zi 271 11 12 8 0 0 := by decide +kernel
theorem i271_12 : zi 271 12 13 18 33 1 := by decide +kernel
theorem i271_13 : zi 271 13 14 2 0 0 := by decide +kernel
theorem i271_14 : zi 271 14 15 6 12 59 := by decide +kernel
theorem i271_15 : zi 271 15 16 1 4 0 := by decide +kernel
theorem i271_16 : zi 271 16 17 8 0 0 := by decide +kernel
theorem i271_17 : zi 271 17 18 22 237 0 := by decide +kernel
theorem i271_18 : zi 271 18 19 1 1 0 := by decide +kernel
theorem i271_19 : zi 271 19 20 19 33 1 := by decide +kernel
theorem i271_20 : zi 271 20 21 1 2 0 := by decide +kernel
theorem i271_21 : zi 271 21 22 0 0 (-1) := by decide +kernel
theorem i271_22 : zi 271 22 23 19 31 0 := by decide +kernel
theorem i271_31 : zi 271 31 32 0 0 1 := by decide +kernel
theorem i271_32 : zi 271 32 33 17 34 0 := by decide +kernel
theorem i271_23 : zi 271 23 24 2 0 0 := by decide +kernel
theorem i271_24 : zi 271 24 25 6 12 59 := by decide +kernel
theorem i271_25 : zi 271 25 26 1 4 0 := by decide +kernel
theorem i271_26 : zi 271 26 27 8 0 0 := by decide +kernel
theorem i271_27 : zi 271 27 28 0 0 1 := by decide +kernel
theorem i271_28 : zi 271 28 29 22 253 0 := by decide +kernel
theorem na_253 : z_na 253 = 2 := by decide +kernel
theorem i271_29 : zi 271 29 30 1 2 0 := by decide +kernel
theorem i271_30 : zi 271 30 31 19 33 1 := by decide +kernel
theorem i271_33 : zi 271 33 34 0 0 0 := by decide +kernel
theorem i271_34 : zi 271 34 35 3 5 0 := by decide +kernel
theorem i271_35 : zi 271 35 36 1 5 0 := by decide +kernel
theorem i271_36 : zi 271 36 37 18 41 0 := by decide +kernel
theorem i271_37 : zi 271 37 38 2 0 0 := by decide +kernel
theorem i271_38 : zi 271 38 39 1 4 0 := by decide +kernel
theorem i271_39 : zi 271 39 40 21 270 12 := by decide +kernel
theorem na_270 : z_na 270 = 1 := by decide +kernel
theorem i271_40 : zi 271 40 41 5 3 1 := by decide +kernel
theorem i271_41 : zi 271 41 42 5 4 1 := by decide +kernel
theorem i271_42 : zi 271 42 43 17 4 0 := by decide +kernel
theorem i271_43 : zi 271 43 44 1 3 0 := by decide +kernel
theorem i271_44 : zi 271 44 45 25 0 0 := by decide +kernel
theorem ml_271 : z_ml 271 = 6 := by decide +kernel
theorem en_271 : ∀ (v0 v1 v2 : zV), z_ent 271 [v0, v1, v2] = [some v0, some v1, some v2, none, none, none] := fun v0 v1 v2 => by unfold z_ent; rw [ml_271]; rfl
theorem i238_0 : zi 238 0 1 0 0 36 := by decide +kernel
theorem i238_1 : zi 238 1 2 1 1 0 := by decide +kernel
theorem i238_2 : zi 238 2 3 13 2 0 := by decide +kernel
theorem i238_3 : zi 238 3 4 3 2 0 := by decide +kernel
theorem i238_4 : zi 238 4 5 1 2 0 := by decide +kernel
theorem i238_5 : zi 238 5 6 0 0 36 := by decide +kernel
theorem i238_6 : zi 238 6 7 1 1 0 := by decide +kernel
theorem i238_7 : zi 238 7 8 13 2 0 := by decide +kernel
theorem i238_8 : zi 238 8 9 0 0 36 := by decide +kernel
theorem i238_9 : zi 238 9 10 13 0 0 := by decide +kernel
theorem i238_10 : zi 238 10 11 19 23 3 := by decide +kernel
theorem i238_11 : zi 238 11 12 2 0 0 := by decide +kernel
theorem i238_12 : zi 238 12 13 6 12 23 := by decide +kernel
theorem i238_13 : zi 238 13 14 1 2 0 := by decide +kernel
theorem i238_14 : zi 238 14 15 0 0 0 := by decide +kernel
theorem i238_15 : zi 238 15 16 10 0 0 := by decide +kernel
theorem i238_16 : zi 238 16 17 2 0 0 := by decide +kernel
theorem i238_17 : zi 238 17 18 6 12 27 := by decide +kernel
theorem fl_13_27 : zfl 13 12 27 27 (some 92) := by decide +kernel
theorem i238_18 : zi 238 18 19 1 2 0 := by decide +kernel
theorem i238_19 : zi 238 19 20 0 0 0 := by decide +kernel
theorem i238_20 : zi 238 20 21 10 0 0 := by decide +kernel
theorem ar_92 : zar 92 0 216 := by decide +kernel
theorem i238_21 : zi 238 21 22 5 2 1 := by decide +kernel
theorem i238_22 : zi 238 22 23 17 4 0 := by decide +kernel
theorem i238_23 : zi 238 23 24 0 0 0 := by decide +kernel
theorem i238_24 : zi 238 24 25 3 2 0 := by decide +kernel
theorem i238_25 : zi 238 25 26 0 0 0 := by decide +kernel
theorem i238_26 : zi 238 26 27 3 3 0 := by decide +kernel
theorem i238_27 : zi 238 27 28 1 3 0 := by decide +kernel
theorem i238_28 : zi 238 28 29 2 0 0 := by decide +kernel
theorem i238_29 : zi 238 29 30 6 12 36 := by decide +kernel
theorem i238_30 : zi 238 30 31 19 64 3 := by decide +kernel
theorem i238_31 : zi 238 31 32 2 0 0 := by decide +kernel
theorem i238_32 : zi 238 32 33 6 12 31 := by decide +kernel
theorem i238_33 : zi 238 33 34 1 3 0 := by decide +kernel
theorem i238_34 : zi 238 34 35 8 0 0 := by decide +kernel
theorem i238_35 : zi 238 35 36 22 237 0 := by decide +kernel
theorem i238_36 : zi 238 36 37 1 1 0 := by decide +kernel
theorem i238_37 : zi 238 37 38 19 62 0 := by decide +kernel
theorem i238_38 : zi 238 38 39 2 0 0 := by decide +kernel
theorem i238_39 : zi 238 39 40 1 2 0 := by decide +kernel
theorem i238_40 : zi 238 40 41 2 0 0 := by decide +kernel
theorem i238_41 : zi 238 41 42 6 12 31 := by decide +kernel
theorem i238_42 : zi 238 42 43 1 3 0 := by decide +kernel
theorem i238_43 : zi 238 43 44 8 0 0 := by decide +kernel
theorem i238_44 : zi 238 44 45 2 0 0 := by decide +kernel
theorem i238_45 : zi 238 45 46 6 12 32 := by decide +kernel
theorem i238_46 : zi 238 46 47 1 3 0 := by decide +kernel
theorem i238_47 : zi 238 47 48 8 0 0 := by decide +kernel
theorem i238_48 : zi 238 48 49 2 0 0 := by decide +kernel
theorem i238_49 : zi 238 49 50 6 12 33 := by decide +kernel
theorem i238_50 : zi 238 50 51 1 3 0 := by decide +kernel
theorem i238_51 : zi 238 51 52 8 0 0 := by decide +kernel
theorem i238_52 : zi 238 52 53 2 0 0 := by decide +kernel
theorem i238_53 : zi 238 53 54 6 12 34 := by decide +kernel
theorem i238_54 : zi 238 54 55 1 3 0 := by decide +kernel
theorem i238_55 : zi 238 55 56 8 0 0 := by decide +kernel
theorem i238_56 : zi 238 56 57 2 0 0 := by decide +kernel
theorem i238_57 : zi 238 57 58 6 12 35 := by decide +kernel
theorem i238_58 : zi 238 58 59 1 3 0 := by decide +kernel
theorem i238_59 : zi 238 59 60 8 0 0 := by decide +kernel
theorem i238_60 : zi 238 60 61 21 239 12 := by decide +kernel
theorem i238_61 : zi 238 61 62 5 2 1 := by decide +kernel
theorem i238_62 : zi 238 62 63 5 3 1 := by decide +kernel
theorem i238_63 : zi 238 63 64 17 27 0 := by decide +kernel
theorem i238_64 : zi 238 64 65 2 0 0 := by decide +kernel
theorem i238_65 : zi 238 65 66 1 2 0 := by decide +kernel
theorem i238_66 : zi 238 66 67 7 12 36 := by decide +kernel
theorem i238_67 : zi 238 67 68 2 0 0 := by decide +kernel
theorem i238_68 : zi 238 68 69 1 1 0 := by decide +kernel
theorem i238_69 : zi 238 69 70 0 0 (-1) := by decide +kernel
theorem i238_70 : zi 238 70 71 21 271 12 := by decide +kernel
theorem na_271 : z_na 271 = 2 := by decide +kernel
theorem i249_0 : zi 249 0 1 2 0 0 := by decide +kernel
theorem i249_1 : zi 249 1 2 1 1 0 := by decide +kernel
theorem i249_2 : zi 249 2 3 22 244 0 := by decide +kernel
theorem i249_3 : zi 249 3 4 18 7 0 := by decide +kernel
theorem i249_4 : zi 249 4 5 1 2 0 := by decide +kernel
theorem i249_5 : zi 249 5 6 22 244 0 := by decide +kernel
theorem i249_6 : zi 249 6 7 18 9 1 := by decide +kernel
theorem i249_9 : zi 249 9 10 1 1 0 := by decide +kernel
theorem i249_10 : zi 249 10 11 1 2 0 := by decide +kernel
theorem i249_11 : zi 249 11 12 19 14 1 := by decide +kernel
theorem i249_12 : zi 249 12 13 0 0 2 := by decide +kernel
theorem i249_13 : zi 249 13 14 17 15 0 := by decide +kernel
theorem i249_14 : zi 249 14 15 0 0 0 := by decide +kernel
theorem i249_7 : zi 249 7 8 0 0 1 := by decide +kernel
theorem i249_8 : zi 249 8 9 17 15 0 := by decide +kernel
theorem i249_15 : zi 249 15 16 21 212 12 := by decide +kernel
theorem i249_16 : zi 249 16 17 18 19 1 := by decide +kernel
theorem i249_19 : zi 249 19 20 0 0 0 := by decide +kernel
theorem i249_20 : zi 249 20 21 3 3 0 := by decide +kernel
theorem i249_21 : zi 249 21 22 0 0 0 := by decide +kernel
theorem i249_22 : zi 249 22 23 3 4 0 := by decide +kernel
theorem i249_17 : zi 249 17 18 0 0 0 := by decide +kernel
theorem i249_18 : zi 249 18 19 25 0 0 := by decide +kernel
theorem i249_23 : zi 249 23 24 1 4 0 := by decide +kernel
theorem i249_24 : zi 249 24 25 0 0 18 := by decide +kernel
theorem kc_18 : Int32.ofInt 18 = 18 := by decide +kernel
theorem i249_25 : zi 249 25 26 19 56 3 := by decide +kernel
theorem i249_26 : zi 249 26 27 1 3 0 := by decide +kernel
theorem i249_27 : zi 249 27 28 2 0 0 := by decide +kernel
theorem i249_28 : zi 249 28 29 6 12 42 := by decide +kernel
theorem i249_29 : zi 249 29 30 1 4 0 := by decide +kernel
theorem i249_30 : zi 249 30 31 8 0 0 := by decide +kernel
theorem i249_31 : zi 249 31 32 1 1 0 := by decide +kernel
theorem i249_32 : zi 249 32 33 19 35 1 := by decide +kernel
theorem i249_33 : zi 249 33 34 0 0 1 := by decide +kernel
theorem i249_34 : zi 249 34 35 17 36 0 := by decide +kernel
theorem i249_35 : zi 249 35 36 0 0 0 := by decide +kernel
theorem i249_36 : zi 249 36 37 13 0 0 := by decide +kernel
theorem i249_37 : zi 249 37 38 3 3 0 := by decide +kernel
theorem i249_38 : zi 249 38 39 2 0 0 := by decide +kernel
theorem i249_39 : zi 249 39 40 6 12 42 := by decide +kernel
theorem i249_40 : zi 249 40 41 1 4 0 := by decide +kernel
theorem i249_41 : zi 249 41 42 2 0 0 := by decide +kernel
theorem i249_42 : zi 249 42 43 6 12 42 := by decide +kernel
theorem i249_43 : zi 249 43 44 1 4 0 := by decide +kernel
theorem i249_44 : zi 249 44 45 8 0 0 := by decide +kernel
theorem i249_45 : zi 249 45 46 1 1 0 := by decide +kernel
theorem i249_46 : zi 249 46 47 19 49 1 := by decide +kernel
theorem i249_47 : zi 249 47 48 1 2 0 := by decide +kernel
theorem i249_48 : zi 249 48 49 17 53 0 := by decide +kernel
theorem i249_49 : zi 249 49 50 2 0 0 := by decide +kernel
theorem i249_50 : zi 249 50 51 6 12 42 := by decide +kernel
theorem i249_51 : zi 249 51 52 1 4 0 := by decide +kernel
theorem i249_52 : zi 249 52 53 8 0 0 := by decide +kernel
theorem i249_53 : zi 249 53 54 10 0 0 := by decide +kernel
theorem i249_54 : zi 249 54 55 5 4 1 := by decide +kernel
theorem i249_55 : zi 249 55 56 17 23 0 := by decide +kernel
theorem i249_56 : zi 249 56 57 0 0 0 := by decide +kernel
theorem i249_57 : zi 249 57 58 3 4 0 := by decide +kernel
theorem i249_58 : zi 249 58 59 1 4 0 := by decide +kernel
theorem i249_59 : zi 249 59 60 2 0 0 := by decide +kernel
theorem i249_60 : zi 249 60 61 6 12 45 := by decide +kernel
theorem i249_61 : zi 249 61 62 19 80 3 := by decide +kernel
theorem i249_62 : zi 249 62 63 2 0 0 := by decide +kernel
theorem i249_63 : zi 249 63 64 6 12 48 := by decide +kernel
theorem i249_64 : zi 249 64 65 1 4 0 := by decide +kernel
theorem i249_65 : zi 249 65 66 2 0 0 := by decide +kernel
theorem i249_66 : zi 249 66 67 6 12 48 := by decide +kernel
theorem i249_67 : zi 249 67 68 1 4 0 := by decide +kernel
theorem i249_68 : zi 249 68 69 8 0 0 := by decide +kernel
theorem i249_69 : zi 249 69 70 1 1 0 := by decide +kernel
theorem i249_70 : zi 249 70 71 19 73 1 := by decide +kernel
theorem i249_71 : zi 249 71 72 1 2 0 := by decide +kernel
theorem i249_72 : zi 249 72 73 17 77 0 := by decide +kernel
theorem i249_73 : zi 249 73 74 2 0 0 := by decide +kernel
theorem i249_74 : zi 249 74 75 6 12 48 := by decide +kernel
theorem i249_75 : zi 249 75 76 1 4 0 := by decide +kernel
theorem i249_76 : zi 249 76 77 8 0 0 := by decide +kernel
theorem i249_77 : zi 249 77 78 10 0 0 := by decide +kernel
theorem i249_78 : zi 249 78 79 5 4 1 := by decide +kernel
theorem i249_79 : zi 249 79 80 17 58 0 := by decide +kernel
theorem i249_80 : zi 249 80 81 0 0 0 := by decide +kernel
theorem i249_81 : zi 249 81 82 3 4 0 := by decide +kernel
theorem i249_82 : zi 249 82 83 1 4 0 := by decide +kernel
theorem i249_83 : zi 249 83 84 0 0 4 := by decide +kernel
theorem i249_84 : zi 249 84 85 19 126 3 := by decide +kernel
theorem i249_85 : zi 249 85 86 2 0 0 := by decide +kernel
theorem i249_86 : zi 249 86 87 6 12 43 := by decide +kernel
theorem i249_87 : zi 249 87 88 1 4 0 := by decide +kernel
theorem i249_88 : zi 249 88 89 8 0 0 := by decide +kernel
theorem i249_89 : zi 249 89 90 1 1 0 := by decide +kernel
theorem i249_90 : zi 249 90 91 13 9 0 := by decide +kernel
theorem i249_91 : zi 249 91 92 0 0 1 := by decide +kernel
theorem i249_92 : zi 249 92 93 13 5 0 := by decide +kernel
theorem i249_93 : zi 249 93 94 0 0 1 := by decide +kernel
theorem i249_94 : zi 249 94 95 19 97 1 := by decide +kernel
theorem i249_95 : zi 249 95 96 0 0 1 := by decide +kernel
theorem i249_96 : zi 249 96 97 17 98 0 := by decide +kernel
theorem i249_97 : zi 249 97 98 0 0 0 := by decide +kernel
theorem i249_98 : zi 249 98 99 3 5 0 := by decide +kernel
theorem i249_99 : zi 249 99 100 2 0 0 := by decide +kernel
theorem i249_100 : zi 249 100 101 6 12 43 := by decide +kernel
theorem i249_101 : zi 249 101 102 1 4 0 := by decide +kernel
theorem i249_102 : zi 249 102 103 1 5 0 := by decide +kernel
theorem i249_103 : zi 249 103 104 18 119 0 := by decide +kernel
theorem i249_104 : zi 249 104 105 2 0 0 := by decide +kernel
theorem i249_105 : zi 249 105 106 6 12 43 := by decide +kernel
theorem i249_106 : zi 249 106 107 1 4 0 := by decide +kernel
theorem i249_107 : zi 249 107 108 8 0 0 := by decide +kernel
theorem i249_108 : zi 249 108 109 0 0 1 := by decide +kernel
theorem i249_109 : zi 249 109 110 1 1 0 := by decide +kernel
theorem i249_110 : zi 249 110 111 13 8 0 := by decide +kernel
theorem i249_111 : zi 249 111 112 0 0 (-1) := by decide +kernel
theorem i249_112 : zi 249 112 113 13 7 0 := by decide +kernel
theorem i249_113 : zi 249 113 114 13 5 0 := by decide +kernel
theorem i249_114 : zi 249 114 115 0 0 1 := by decide +kernel
theorem i249_115 : zi 249 115 116 1 2 0 := by decide +kernel
theorem i249_116 : zi 249 116 117 13 8 0 := by decide +kernel
theorem i249_117 : zi 249 117 118 13 6 0 := by decide +kernel
theorem i249_118 : zi 249 118 119 17 123 0 := by decide +kernel
theorem i249_119 : zi 249 119 120 2 0 0 := by decide +kernel
theorem i249_120 : zi 249 120 121 6 12 43 := by decide +kernel
theorem i249_121 : zi 249 121 122 1 4 0 := by decide +kernel
theorem i249_122 : zi 249 122 123 8 0 0 := by decide +kernel
theorem i249_123 : zi 249 123 124 10 0 0 := by decide +kernel
theorem i249_124 : zi 249 124 125 5 4 1 := by decide +kernel
theorem i249_125 : zi 249 125 126 17 82 0 := by decide +kernel
theorem i249_126 : zi 249 126 127 1 3 0 := by decide +kernel
theorem i249_127 : zi 249 127 128 25 0 0 := by decide +kernel
theorem ml_249 : z_ml 249 = 6 := by decide +kernel
theorem en_249 : ∀ (v0 v1 v2 : zV), z_ent 249 [v0, v1, v2] = [some v0, some v1, some v2, none, none, none] := fun v0 v1 v2 => by unfold z_ent; rw [ml_249]; rfl
theorem i251_0 : zi 251 0 1 0 0 0 := by decide +kernel
theorem i251_1 : zi 251 1 2 3 2 0 := by decide +kernel
theorem i251_2 : zi 251 2 3 0 0 (-1) := by decide +kernel
theorem i251_3 : zi 251 3 4 3 3 0 := by decide +kernel
theorem i251_4 : zi 251 4 5 1 3 0 := by decide +kernel
theorem i251_5 : zi 251 5 6 1 2 0 := by decide +kernel
theorem i251_6 : zi 251 6 7 19 48 0 := by decide +kernel
theorem i251_7 : zi 251 7 8 1 2 0 := by decide +kernel
theorem i251_8 : zi 251 8 9 3 3 0 := by decide +kernel
theorem i251_9 : zi 251 9 10 0 0 0 := by decide +kernel
theorem i251_10 : zi 251 10 11 3 4 0 := by decide +kernel
theorem i251_48 : zi 251 48 49 1 2 0 := by decide +kernel
theorem i251_49 : zi 251 49 50 25 0 0 := by decide +kernel
theorem i251_11 : zi 251 11 12 1 4 0 := by decide +kernel
theorem i251_12 : zi 251 12 13 0 0 4 := by decide +kernel
theorem i251_13 : zi 251 13 14 19 47 3 := by decide +kernel
theorem i251_14 : zi 251 14 15 2 0 0 := by decide +kernel
theorem i251_15 : zi 251 15 16 6 12 43 := by decide +kernel
theorem i251_16 : zi 251 16 17 1 4 0 := by decide +kernel
theorem i251_17 : zi 251 17 18 8 0 0 := by decide +kernel
theorem i251_18 : zi 251 18 19 1 1 0 := by decide +kernel
theorem i251_19 : zi 251 19 20 13 9 0 := by decide +kernel
theorem i251_20 : zi 251 20 21 0 0 1 := by decide +kernel
theorem i251_21 : zi 251 21 22 13 5 0 := by decide +kernel
theorem i251_22 : zi 251 22 23 0 0 1 := by decide +kernel
theorem i251_23 : zi 251 23 24 19 31 0 := by decide +kernel
theorem i251_31 : zi 251 31 32 0 0 1 := by decide +kernel
theorem i251_32 : zi 251 32 33 17 34 0 := by decide +kernel
theorem i251_24 : zi 251 24 25 2 0 0 := by decide +kernel
theorem i251_25 : zi 251 25 26 6 12 44 := by decide +kernel
theorem i251_26 : zi 251 26 27 1 4 0 := by decide +kernel
theorem i251_27 : zi 251 27 28 8 0 0 := by decide +kernel
theorem i251_28 : zi 251 28 29 1 3 0 := by decide +kernel
theorem i251_29 : zi 251 29 30 13 5 0 := by decide +kernel
theorem i251_30 : zi 251 30 31 18 33 0 := by decide +kernel
theorem i251_33 : zi 251 33 34 0 0 0 := by decide +kernel
theorem i251_34 : zi 251 34 35 3 5 0 := by decide +kernel
theorem i251_35 : zi 251 35 36 1 2 0 := by decide +kernel
theorem i251_36 : zi 251 36 37 1 5 0 := by decide +kernel
theorem i251_37 : zi 251 37 38 18 42 0 := by decide +kernel
theorem i251_38 : zi 251 38 39 0 0 1 := by decide +kernel
theorem i251_39 : zi 251 39 40 1 4 0 := by decide +kernel
theorem i251_40 : zi 251 40 41 13 8 0 := by decide +kernel
theorem i251_41 : zi 251 41 42 17 43 0 := by decide +kernel
theorem i251_42 : zi 251 42 43 0 0 0 := by decide +kernel
theorem i251_43 : zi 251 43 44 13 6 0 := by decide +kernel
theorem i251_44 : zi 251 44 45 3 2 0 := by decide +kernel
theorem i251_45 : zi 251 45 46 5 4 1 := by decide +kernel
theorem i251_46 : zi 251 46 47 17 11 0 := by decide +kernel
theorem i251_47 : zi 251 47 48 17 4 0 := by decide +kernel
theorem ml_251 : z_ml 251 = 6 := by decide +kernel
theorem en_251 : ∀ (v0 v1 : zV), z_ent 251 [v0, v1] = [some v0, some v1, none, none, none, none] := fun v0 v1 => by unfold z_ent; rw [ml_251]; rfl
theorem i252_0 : zi 252 0 1 2 0 0 := by decide +kernel
theorem i252_1 : zi 252 1 2 6 12 49 := by decide +kernel
theorem i252_2 : zi 252 2 3 1 1 0 := by decide +kernel
theorem i252_3 : zi 252 3 4 8 0 0 := by decide +kernel
theorem i252_4 : zi 252 4 5 3 2 0 := by decide +kernel
theorem i252_5 : zi 252 5 6 2 0 0 := by decide +kernel
theorem i252_6 : zi 252 6 7 6 12 48 := by decide +kernel
theorem i252_7 : zi 252 7 8 1 1 0 := by decide +kernel
theorem i252_8 : zi 252 8 9 8 0 0 := by decide +kernel
theorem i252_9 : zi 252 9 10 3 3 0 := by decide +kernel
theorem i252_10 : zi 252 10 11 1 3 0 := by decide +kernel
theorem i252_11 : zi 252 11 12 0 0 (-1) := by decide +kernel
theorem i252_12 : zi 252 12 13 19 47 0 := by decide +kernel
theorem i252_13 : zi 252 13 14 2 0 0 := by decide +kernel
theorem i252_14 : zi 252 14 15 1 3 0 := by decide +kernel
theorem i252_15 : zi 252 15 16 21 251 12 := by decide +kernel
theorem na_251 : z_na 251 = 1 := by decide +kernel
theorem i255_0 : zi 255 0 1 0 0 1 := by decide +kernel
theorem i255_1 : zi 255 1 2 3 4 0 := by decide +kernel
theorem i255_2 : zi 255 2 3 0 0 0 := by decide +kernel
theorem i255_3 : zi 255 3 4 3 5 0 := by decide +kernel
theorem i255_4 : zi 255 4 5 0 0 0 := by decide +kernel
theorem i255_5 : zi 255 5 6 3 6 0 := by decide +kernel
theorem i255_6 : zi 255 6 7 1 6 0 := by decide +kernel
theorem i255_7 : zi 255 7 8 0 0 3 := by decide +kernel
theorem i255_8 : zi 255 8 9 19 65 3 := by decide +kernel
theorem i255_9 : zi 255 9 10 2 0 0 := by decide +kernel
theorem i255_10 : zi 255 10 11 6 12 38 := by decide +kernel
theorem i255_11 : zi 255 11 12 0 0 5 := by decide +kernel
theorem i255_12 : zi 255 12 13 1 1 0 := by decide +kernel
theorem i255_13 : zi 255 13 14 13 2 0 := by decide +kernel
theorem i255_14 : zi 255 14 15 1 6 0 := by decide +kernel
theorem i255_15 : zi 255 15 16 13 0 0 := by decide +kernel
theorem i255_16 : zi 255 16 17 8 0 0 := by decide +kernel
theorem i255_17 : zi 255 17 18 3 7 0 := by decide +kernel
theorem i255_18 : zi 255 18 19 1 5 0 := by decide +kernel
theorem i255_19 : zi 255 19 20 18 23 1 := by decide +kernel
theorem i255_20 : zi 255 20 21 1 7 0 := by decide +kernel
theorem i255_21 : zi 255 21 22 0 0 8 := by decide +kernel
theorem i255_22 : zi 255 22 23 19 25 1 := by decide +kernel
theorem i255_23 : zi 255 23 24 0 0 1 := by decide +kernel
theorem i255_24 : zi 255 24 25 17 26 0 := by decide +kernel
theorem i255_25 : zi 255 25 26 0 0 0 := by decide +kernel
theorem i255_26 : zi 255 26 27 3 5 0 := by decide +kernel
theorem i255_27 : zi 255 27 28 1 7 0 := by decide +kernel
theorem i255_28 : zi 255 28 29 0 0 6 := by decide +kernel
theorem i255_29 : zi 255 29 30 19 49 0 := by decide +kernel
theorem i255_49 : zi 255 49 50 0 0 1 := by decide +kernel
theorem i255_50 : zi 255 50 51 17 52 0 := by decide +kernel
theorem i255_30 : zi 255 30 31 1 7 0 := by decide +kernel
theorem i255_31 : zi 255 31 32 0 0 7 := by decide +kernel
theorem i255_32 : zi 255 32 33 19 44 1 := by decide +kernel
theorem i255_33 : zi 255 33 34 1 3 0 := by decide +kernel
theorem i255_34 : zi 255 34 35 0 0 (-1) := by decide +kernel
theorem i255_35 : zi 255 35 36 19 51 0 := by decide +kernel
theorem i255_51 : zi 255 51 52 0 0 0 := by decide +kernel
theorem i255_36 : zi 255 36 37 1 3 0 := by decide +kernel
theorem i255_37 : zi 255 37 38 0 0 6 := by decide +kernel
theorem i255_38 : zi 255 38 39 13 4 0 := by decide +kernel
theorem i255_39 : zi 255 39 40 1 2 0 := by decide +kernel
theorem i255_40 : zi 255 40 41 1 6 0 := by decide +kernel
theorem i255_41 : zi 255 41 42 22 253 0 := by decide +kernel
theorem i255_42 : zi 255 42 43 19 51 1 := by decide +kernel
theorem i255_43 : zi 255 43 44 17 49 0 := by decide +kernel
theorem i255_44 : zi 255 44 45 1 7 0 := by decide +kernel
theorem i255_45 : zi 255 45 46 1 2 0 := by decide +kernel
theorem i255_46 : zi 255 46 47 1 6 0 := by decide +kernel
theorem i255_47 : zi 255 47 48 22 253 0 := by decide +kernel
theorem i255_48 : zi 255 48 49 19 51 1 := by decide +kernel
theorem i255_52 : zi 255 52 53 3 8 0 := by decide +kernel
theorem i255_53 : zi 255 53 54 1 4 0 := by decide +kernel
theorem i255_54 : zi 255 54 55 18 61 0 := by decide +kernel
theorem i255_61 : zi 255 61 62 0 0 0 := by decide +kernel
theorem i255_55 : zi 255 55 56 1 5 0 := by decide +kernel
theorem i255_56 : zi 255 56 57 18 59 1 := by decide +kernel
theorem i255_59 : zi 255 59 60 0 0 1 := by decide +kernel
theorem i255_60 : zi 255 60 61 17 62 0 := by decide +kernel
theorem i255_57 : zi 255 57 58 1 8 0 := by decide +kernel
theorem i255_58 : zi 255 58 59 18 61 0 := by decide +kernel
theorem i255_62 : zi 255 62 63 3 4 0 := by decide +kernel
theorem i255_63 : zi 255 63 64 5 6 1 := by decide +kernel
theorem i255_64 : zi 255 64 65 17 6 0 := by decide +kernel
theorem i255_65 : zi 255 65 66 1 4 0 := by decide +kernel
theorem i255_66 : zi 255 66 67 26 0 0 := by decide +kernel
theorem ml_255 : z_ml 255 = 9 := by decide +kernel
theorem en_255 : ∀ (v0 v1 v2 v3 : zV), z_ent 255 [v0, v1, v2, v3] = [some v0, some v1, some v2, some v3, none, none, none, none, none] := fun v0 v1 v2 v3 => by unfold z_ent; rw [ml_255]; rfl
theorem i256_0 : zi 256 0 1 0 0 0 := by decide +kernel
theorem i256_1 : zi 256 1 2 3 3 0 := by decide +kernel
theorem i256_2 : zi 256 2 3 1 3 0 := by decide +kernel
theorem i256_3 : zi 256 3 4 0 0 3 := by decide +kernel
theorem i256_4 : zi 256 4 5 19 32 3 := by decide +kernel
theorem i256_5 : zi 256 5 6 2 0 0 := by decide +kernel
theorem i256_6 : zi 256 6 7 1 1 0 := by decide +kernel
theorem i256_7 : zi 256 7 8 1 3 0 := by decide +kernel
theorem i256_8 : zi 256 8 9 21 254 12 := by decide +kernel
theorem na_254 : z_na 254 = 2 := by decide +kernel
theorem i256_9 : zi 256 9 10 2 0 0 := by decide +kernel
theorem i256_10 : zi 256 10 11 1 2 0 := by decide +kernel
theorem i256_11 : zi 256 11 12 1 3 0 := by decide +kernel
theorem i256_12 : zi 256 12 13 21 254 12 := by decide +kernel
theorem i256_13 : zi 256 13 14 13 1 0 := by decide +kernel
theorem i256_14 : zi 256 14 15 3 4 0 := by decide +kernel
theorem i256_15 : zi 256 15 16 1 4 0 := by decide +kernel
theorem i256_16 : zi 256 16 17 18 23 0 := by decide +kernel
theorem i256_23 : zi 256 23 24 2 0 0 := by decide +kernel
theorem i256_24 : zi 256 24 25 1 1 0 := by decide +kernel
theorem i256_25 : zi 256 25 26 1 3 0 := by decide +kernel
theorem i256_26 : zi 256 26 27 21 254 12 := by decide +kernel
theorem i256_27 : zi 256 27 28 18 30 1 := by decide +kernel
theorem i256_28 : zi 256 28 29 0 0 0 := by decide +kernel
theorem i256_29 : zi 256 29 30 25 0 0 := by decide +kernel
theorem i256_30 : zi 256 30 31 5 3 1 := by decide +kernel
theorem i256_31 : zi 256 31 32 17 2 0 := by decide +kernel
theorem i256_17 : zi 256 17 18 1 4 0 := by decide +kernel
theorem i256_18 : zi 256 18 19 18 21 5 := by decide +kernel
theorem i256_21 : zi 256 21 22 0 0 (-1) := by decide +kernel
theorem i256_19 : zi 256 19 20 0 0 1 := by decide +kernel
theorem i256_20 : zi 256 20 21 17 22 0 := by decide +kernel
theorem i256_22 : zi 256 22 23 25 0 0 := by decide +kernel
theorem i256_32 : zi 256 32 33 0 0 0 := by decide +kernel
theorem i256_33 : zi 256 33 34 25 0 0 := by decide +kernel
theorem ml_256 : z_ml 256 = 5 := by decide +kernel
theorem en_256 : ∀ (v0 v1 v2 : zV), z_ent 256 [v0, v1, v2] = [some v0, some v1, some v2, none, none] := fun v0 v1 v2 => by unfold z_ent; rw [ml_256]; rfl
theorem i257_0 : zi 257 0 1 2 0 0 := by decide +kernel
theorem i257_1 : zi 257 1 2 1 1 0 := by decide +kernel
theorem i257_2 : zi 257 2 3 21 252 12 := by decide +kernel
theorem na_252 : z_na 252 = 1 := by decide +kernel
theorem i264_0 : zi 264 0 1 2 0 0 := by decide +kernel
theorem i264_1 : zi 264 1 2 6 12 56 := by decide +kernel
theorem i264_2 : zi 264 2 3 1 1 0 := by decide +kernel
theorem i264_3 : zi 264 3 4 9 0 0 := by decide +kernel
theorem i264_4 : zi 264 4 5 18 7 0 := by decide +kernel
theorem i264_7 : zi 264 7 8 0 0 1 := by decide +kernel
theorem i264_5 : zi 264 5 6 0 0 0 := by decide +kernel
theorem i264_6 : zi 264 6 7 17 8 0 := by decide +kernel
theorem i264_8 : zi 264 8 9 3 2 0 := by decide +kernel
theorem i264_9 : zi 264 9 10 2 0 0 := by decide +kernel
theorem i264_10 : zi 264 10 11 6 12 56 := by decide +kernel
theorem i264_11 : zi 264 11 12 1 1 0 := by decide +kernel
theorem i264_12 : zi 264 12 13 0 0 1 := by decide +kernel
theorem i264_13 : zi 264 13 14 11 0 0 := by decide +kernel
theorem i264_14 : zi 264 14 15 1 1 0 := by decide +kernel
theorem i264_15 : zi 264 15 16 0 0 1 := by decide +kernel
theorem i264_16 : zi 264 16 17 13 0 0 := by decide +kernel
theorem i264_17 : zi 264 17 18 3 3 0 := by decide +kernel
theorem i264_18 : zi 264 18 19 1 3 0 := by decide +kernel
theorem i264_19 : zi 264 19 20 2 0 0 := by decide +kernel
theorem i264_20 : zi 264 20 21 6 12 45 := by decide +kernel
theorem i264_21 : zi 264 21 22 19 56 3 := by decide +kernel
theorem i264_22 : zi 264 22 23 1 2 0 := by decide +kernel
theorem i264_23 : zi 264 23 24 18 56 5 := by decide +kernel
theorem i264_24 : zi 264 24 25 2 0 0 := by decide +kernel
theorem i264_25 : zi 264 25 26 6 12 56 := by decide +kernel
theorem i264_26 : zi 264 26 27 1 3 0 := by decide +kernel
theorem i264_27 : zi 264 27 28 9 0 0 := by decide +kernel
theorem i264_28 : zi 264 28 29 18 54 1 := by decide +kernel
theorem i264_29 : zi 264 29 30 2 0 0 := by decide +kernel
theorem i264_30 : zi 264 30 31 6 12 47 := by decide +kernel
theorem i264_31 : zi 264 31 32 1 3 0 := by decide +kernel
theorem i264_32 : zi 264 32 33 8 0 0 := by decide +kernel
theorem i264_33 : zi 264 33 34 0 0 (-1) := by decide +kernel
theorem i264_34 : zi 264 34 35 19 54 0 := by decide +kernel
theorem i264_35 : zi 264 35 36 2 0 0 := by decide +kernel
theorem i264_36 : zi 264 36 37 6 12 56 := by decide +kernel
theorem i264_37 : zi 264 37 38 2 0 0 := by decide +kernel
theorem i264_38 : zi 264 38 39 6 12 47 := by decide +kernel
theorem i264_39 : zi 264 39 40 1 3 0 := by decide +kernel
theorem i264_40 : zi 264 40 41 8 0 0 := by decide +kernel
theorem i264_41 : zi 264 41 42 9 0 0 := by decide +kernel
theorem i264_42 : zi 264 42 43 18 54 0 := by decide +kernel
theorem i264_43 : zi 264 43 44 2 0 0 := by decide +kernel
theorem i264_44 : zi 264 44 45 6 12 55 := by decide +kernel
theorem i264_45 : zi 264 45 46 1 3 0 := by decide +kernel
theorem i264_46 : zi 264 46 47 9 0 0 := by decide +kernel
theorem i264_47 : zi 264 47 48 18 54 1 := by decide +kernel
theorem i264_48 : zi 264 48 49 2 0 0 := by decide +kernel
theorem i264_49 : zi 264 49 50 6 12 56 := by decide +kernel
theorem i264_50 : zi 264 50 51 1 3 0 := by decide +kernel
theorem i264_51 : zi 264 51 52 0 0 1 := by decide +kernel
theorem i264_52 : zi 264 52 53 11 0 0 := by decide +kernel
theorem i264_53 : zi 264 53 54 5 2 1 := by decide +kernel
theorem i264_54 : zi 264 54 55 5 3 1 := by decide +kernel
theorem i264_55 : zi 264 55 56 17 18 0 := by decide +kernel
theorem i264_56 : zi 264 56 57 0 0 0 := by decide +kernel
theorem i264_57 : zi 264 57 58 3 3 0 := by decide +kernel
theorem i264_58 : zi 264 58 59 1 3 0 := by decide +kernel
theorem i264_59 : zi 264 59 60 2 0 0 := by decide +kernel
theorem i264_60 : zi 264 60 61 6 12 57 := by decide +kernel
theorem i264_61 : zi 264 61 62 19 82 3 := by decide +kernel
theorem i264_62 : zi 264 62 63 1 2 0 := by decide +kernel
theorem i264_63 : zi 264 63 64 18 82 5 := by decide +kernel
theorem i264_64 : zi 264 64 65 2 0 0 := by decide +kernel
theorem i264_65 : zi 264 65 66 6 12 63 := by decide +kernel
theorem i264_66 : zi 264 66 67 1 3 0 := by decide +kernel
theorem i264_67 : zi 264 67 68 8 0 0 := by decide +kernel
theorem i264_68 : zi 264 68 69 18 80 1 := by decide +kernel
theorem i264_69 : zi 264 69 70 2 0 0 := by decide +kernel
theorem i264_70 : zi 264 70 71 6 12 56 := by decide +kernel
theorem i264_71 : zi 264 71 72 2 0 0 := by decide +kernel
theorem i264_72 : zi 264 72 73 6 12 58 := by decide +kernel
theorem i264_73 : zi 264 73 74 1 3 0 := by decide +kernel
theorem i264_74 : zi 264 74 75 8 0 0 := by decide +kernel
theorem i264_75 : zi 264 75 76 9 0 0 := by decide +kernel
theorem i264_76 : zi 264 76 77 18 80 0 := by decide +kernel
theorem i264_77 : zi 264 77 78 2 0 0 := by decide +kernel
theorem i264_78 : zi 264 78 79 1 3 0 := by decide +kernel
theorem i264_79 : zi 264 79 80 21 270 12 := by decide +kernel
theorem i264_80 : zi 264 80 81 5 3 1 := by decide +kernel
theorem i264_81 : zi 264 81 82 17 58 0 := by decide +kernel
theorem i264_82 : zi 264 82 83 1 2 0 := by decide +kernel
theorem i264_83 : zi 264 83 84 25 0 0 := by decide +kernel
theorem ml_264 : z_ml 264 = 4 := by decide +kernel
theorem en_264 : ∀ (v0 v1 : zV), z_ent 264 [v0, v1] = [some v0, some v1, none, none] := fun v0 v1 => by unfold z_ent; rw [ml_264]; rfl
theorem i281_0 : zi 281 0 1 2 0 0 := by decide +kernel
theorem i281_1 : zi 281 1 2 1 1 0 := by decide +kernel
theorem i281_2 : zi 281 2 3 22 279 0 := by decide +kernel
theorem i281_3 : zi 281 3 4 18 6 0 := by decide +kernel
theorem i281_4 : zi 281 4 5 0 0 0 := by decide +kernel
theorem i281_5 : zi 281 5 6 17 7 0 := by decide +kernel
theorem i281_6 : zi 281 6 7 0 0 1 := by decide +kernel
theorem i281_7 : zi 281 7 8 21 212 12 := by decide +kernel
theorem i281_8 : zi 281 8 9 18 11 1 := by decide +kernel
theorem i281_11 : zi 281 11 12 2 0 0 := by decide +kernel
theorem i281_12 : zi 281 12 13 6 12 67 := by decide +kernel
theorem i281_13 : zi 281 13 14 1 1 0 := by decide +kernel
theorem i281_14 : zi 281 14 15 8 0 0 := by decide +kernel
theorem i281_15 : zi 281 15 16 3 2 0 := by decide +kernel
theorem i281_16 : zi 281 16 17 0 0 0 := by decide +kernel
theorem i281_17 : zi 281 17 18 3 3 0 := by decide +kernel
theorem i281_9 : zi 281 9 10 0 0 0 := by decide +kernel
theorem i281_10 : zi 281 10 11 25 0 0 := by decide +kernel
theorem i281_18 : zi 281 18 19 1 3 0 := by decide +kernel
theorem i281_19 : zi 281 19 20 2 0 0 := by decide +kernel
theorem i281_20 : zi 281 20 21 6 12 57 := by decide +kernel
theorem i281_21 : zi 281 21 22 19 42 3 := by decide +kernel
theorem i281_22 : zi 281 22 23 1 2 0 := by decide +kernel
theorem i281_23 : zi 281 23 24 2 0 0 := by decide +kernel
theorem i281_24 : zi 281 24 25 6 12 60 := by decide +kernel
theorem i281_25 : zi 281 25 26 1 3 0 := by decide +kernel
theorem i281_26 : zi 281 26 27 8 0 0 := by decide +kernel
theorem i281_27 : zi 281 27 28 1 1 0 := by decide +kernel
theorem i281_28 : zi 281 28 29 19 37 1 := by decide +kernel
theorem i281_29 : zi 281 29 30 2 0 0 := by decide +kernel
theorem i281_30 : zi 281 30 31 6 12 63 := by decide +kernel
theorem i281_31 : zi 281 31 32 1 3 0 := by decide +kernel
theorem i281_32 : zi 281 32 33 8 0 0 := by decide +kernel
theorem i281_33 : zi 281 33 34 0 0 2 := by decide +kernel
theorem i281_34 : zi 281 34 35 19 37 0 := by decide +kernel
theorem i281_37 : zi 281 37 38 0 0 0 := by decide +kernel
theorem i281_35 : zi 281 35 36 0 0 1 := by decide +kernel
theorem i281_36 : zi 281 36 37 17 38 0 := by decide +kernel
theorem i281_38 : zi 281 38 39 13 0 0 := by decide +kernel
theorem i281_39 : zi 281 39 40 3 2 0 := by decide +kernel
theorem i281_40 : zi 281 40 41 5 3 1 := by decide +kernel
theorem i281_41 : zi 281 41 42 17 18 0 := by decide +kernel
theorem i281_42 : zi 281 42 43 1 2 0 := by decide +kernel
theorem i281_43 : zi 281 43 44 25 0 0 := by decide +kernel
theorem ml_281 : z_ml 281 = 4 := by decide +kernel
theorem en_281 : ∀ (v0 v1 : zV), z_ent 281 [v0, v1] = [some v0, some v1, none, none] := fun v0 v1 => by unfold z_ent; rw [ml_281]; rfl
theorem i282_0 : zi 282 0 1 0 0 0 := by decide +kernel
theorem i282_1 : zi 282 1 2 3 5 0 := by decide +kernel
theorem i282_2 : zi 282 2 3 0 0 1 := by decide +kernel
theorem i282_3 : zi 282 3 4 3 6 0 := by decide +kernel
theorem i282_4 : zi 282 4 5 0 0 0 := by decide +kernel
theorem i282_5 : zi 282 5 6 3 7 0 := by decide +kernel
theorem i282_6 : zi 282 6 7 1 7 0 := by decide +kernel
theorem i282_7 : zi 282 7 8 0 0 3 := by decide +kernel
theorem i282_8 : zi 282 8 9 19 38 3 := by decide +kernel
theorem i282_9 : zi 282 9 10 1 5 0 := by decide +kernel
theorem i282_10 : zi 282 10 11 18 16 1 := by decide +kernel
theorem i282_11 : zi 282 11 12 2 0 0 := by decide +kernel
theorem i282_12 : zi 282 12 13 6 12 85 := by decide +kernel
theorem i282_13 : zi 282 13 14 1 7 0 := by decide +kernel
theorem i282_14 : zi 282 14 15 9 0 0 := by decide +kernel
theorem i282_15 : zi 282 15 16 18 18 0 := by decide +kernel
theorem i282_18 : zi 282 18 19 0 0 0 := by decide +kernel
theorem i282_16 : zi 282 16 17 0 0 1 := by decide +kernel
theorem i282_17 : zi 282 17 18 17 19 0 := by decide +kernel
theorem i282_19 : zi 282 19 20 3 5 0 := by decide +kernel
theorem i282_20 : zi 282 20 21 1 6 0 := by decide +kernel
theorem i282_21 : zi 282 21 22 18 34 0 := by decide +kernel
theorem i282_34 : zi 282 34 35 0 0 0 := by decide +kernel
theorem i282_22 : zi 282 22 23 2 0 0 := by decide +kernel
theorem i282_23 : zi 282 23 24 6 12 85 := by decide +kernel
theorem i282_24 : zi 282 24 25 1 7 0 := by decide +kernel
theorem i282_25 : zi 282 25 26 9 0 0 := by decide +kernel
theorem i282_26 : zi 282 26 27 18 32 0 := by decide +kernel
theorem i282_32 : zi 282 32 33 0 0 1 := by decide +kernel
theorem i282_33 : zi 282 33 34 17 35 0 := by decide +kernel
theorem i282_27 : zi 282 27 28 2 0 0 := by decide +kernel
theorem i282_28 : zi 282 28 29 6 12 86 := by decide +kernel
theorem i282_29 : zi 282 29 30 1 7 0 := by decide +kernel
theorem i282_30 : zi 282 30 31 9 0 0 := by decide +kernel
theorem i282_31 : zi 282 31 32 18 34 0 := by decide +kernel
theorem i282_35 : zi 282 35 36 3 6 0 := by decide +kernel
theorem i282_36 : zi 282 36 37 5 7 1 := by decide +kernel
theorem i282_37 : zi 282 37 38 17 6 0 := by decide +kernel
theorem i282_38 : zi 282 38 39 2 0 0 := by decide +kernel
theorem i282_39 : zi 282 39 40 6 12 2 := by decide +kernel
theorem i282_40 : zi 282 40 41 18 45 0 := by decide +kernel
theorem i282_45 : zi 282 45 46 2 0 0 := by decide +kernel
theorem i282_46 : zi 282 46 47 6 12 2 := by decide +kernel
theorem i282_47 : zi 282 47 48 18 50 0 := by decide +kernel
theorem i282_50 : zi 282 50 51 0 0 (-2) := by decide +kernel
theorem i282_48 : zi 282 48 49 0 0 (-3) := by decide +kernel
theorem kc_m3 : Int32.ofInt (-3) = (-3) := by decide +kernel
theorem i282_49 : zi 282 49 50 17 51 0 := by decide +kernel
theorem i282_51 : zi 282 51 52 25 0 0 := by decide +kernel
theorem i282_41 : zi 282 41 42 1 5 0 := by decide +kernel
theorem i282_42 : zi 282 42 43 18 52 0 := by decide +kernel
theorem i282_52 : zi 282 52 53 2 0 0 := by decide +kernel
theorem i282_53 : zi 282 53 54 1 1 0 := by decide +kernel
theorem i282_54 : zi 282 54 55 21 259 12 := by decide +kernel
theorem i282_55 : zi 282 55 56 18 65 0 := by decide +kernel
theorem i282_56 : zi 282 56 57 2 0 0 := by decide +kernel
theorem i282_57 : zi 282 57 58 6 12 53 := by decide +kernel
theorem i282_58 : zi 282 58 59 1 1 0 := by decide +kernel
theorem i282_59 : zi 282 59 60 8 0 0 := by decide +kernel
theorem i282_60 : zi 282 60 61 1 2 0 := by decide +kernel
theorem i282_61 : zi 282 61 62 13 9 0 := by decide +kernel
theorem i282_62 : zi 282 62 63 0 0 1 := by decide +kernel
theorem i282_63 : zi 282 63 64 13 5 0 := by decide +kernel
theorem i282_64 : zi 282 64 65 18 67 1 := by decide +kernel
theorem i282_65 : zi 282 65 66 0 0 (-4) := by decide +kernel
theorem i282_66 : zi 282 66 67 25 0 0 := by decide +kernel
theorem i282_67 : zi 282 67 68 2 0 0 := by decide +kernel
theorem i282_68 : zi 282 68 69 6 12 54 := by decide +kernel
theorem i282_69 : zi 282 69 70 1 1 0 := by decide +kernel
theorem i282_70 : zi 282 70 71 15 0 0 := by decide +kernel
theorem i282_71 : zi 282 71 72 8 0 0 := by decide +kernel
theorem i282_72 : zi 282 72 73 2 0 0 := by decide +kernel
theorem i282_73 : zi 282 73 74 6 12 54 := by decide +kernel
theorem i282_74 : zi 282 74 75 1 1 0 := by decide +kernel
theorem i282_75 : zi 282 75 76 8 0 0 := by decide +kernel
theorem i282_76 : zi 282 76 77 0 0 (-1) := by decide +kernel
theorem i282_77 : zi 282 77 78 19 80 1 := by decide +kernel
theorem i282_78 : zi 282 78 79 0 0 0 := by decide +kernel
theorem i282_79 : zi 282 79 80 17 81 0 := by decide +kernel
theorem i282_80 : zi 282 80 81 0 0 1 := by decide +kernel
theorem i282_81 : zi 282 81 82 13 1 0 := by decide +kernel
theorem i282_82 : zi 282 82 83 10 0 0 := by decide +kernel
theorem i282_83 : zi 282 83 84 1 3 0 := by decide +kernel
theorem i282_84 : zi 282 84 85 22 237 0 := by decide +kernel
theorem i282_85 : zi 282 85 86 3 7 0 := by decide +kernel
theorem i282_86 : zi 282 86 87 2 0 0 := by decide +kernel
theorem i282_87 : zi 282 87 88 6 12 22 := by decide +kernel
theorem fl_13_22 : zfl 13 12 22 22 (some 87) := by decide +kernel
theorem i282_88 : zi 282 88 89 1 7 0 := by decide +kernel
theorem i282_89 : zi 282 89 90 8 0 0 := by decide +kernel
theorem ar_87 : zar 87 0 6 := by decide +kernel
theorem i282_90 : zi 282 90 91 2 0 0 := by decide +kernel
theorem i282_91 : zi 282 91 92 6 12 21 := by decide +kernel
theorem i282_92 : zi 282 92 93 1 7 0 := by decide +kernel
theorem i282_93 : zi 282 93 94 8 0 0 := by decide +kernel
theorem i282_94 : zi 282 94 95 19 97 2 := by decide +kernel
theorem i282_97 : zi 282 97 98 2 0 0 := by decide +kernel
theorem i282_98 : zi 282 98 99 6 12 22 := by decide +kernel
theorem i282_99 : zi 282 99 100 1 7 0 := by decide +kernel
theorem i282_100 : zi 282 100 101 15 0 0 := by decide +kernel
theorem i282_101 : zi 282 101 102 8 0 0 := by decide +kernel
theorem i282_102 : zi 282 102 103 0 0 1 := by decide +kernel
theorem i282_103 : zi 282 103 104 13 0 0 := by decide +kernel
theorem i282_104 : zi 282 104 105 10 0 0 := by decide +kernel
theorem i282_105 : zi 282 105 106 2 0 0 := by decide +kernel
theorem i282_106 : zi 282 106 107 1 1 0 := by decide +kernel
theorem i282_107 : zi 282 107 108 1 3 0 := by decide +kernel
theorem i282_108 : zi 282 108 109 21 257 12 := by decide +kernel
theorem na_257 : z_na 257 = 2 := by decide +kernel
theorem i283_0 : zi 283 0 1 1 4 0 := by decide +kernel
theorem i283_1 : zi 283 1 2 0 0 (-2) := by decide +kernel
theorem i283_2 : zi 283 2 3 19 66 0 := by decide +kernel
theorem i283_3 : zi 283 3 4 1 4 0 := by decide +kernel
theorem i283_4 : zi 283 4 5 0 0 (-3) := by decide +kernel
theorem i283_5 : zi 283 5 6 19 66 0 := by decide +kernel
theorem i283_6 : zi 283 6 7 1 4 0 := by decide +kernel
theorem i283_7 : zi 283 7 8 18 12 3 := by decide +kernel
theorem i283_12 : zi 283 12 13 1 4 0 := by decide +kernel
theorem i283_8 : zi 283 8 9 0 0 60000 := by decide +kernel
theorem i283_9 : zi 283 9 10 1 4 0 := by decide +kernel
theorem i283_10 : zi 283 10 11 13 0 0 := by decide +kernel
theorem i283_11 : zi 283 11 12 17 13 0 := by decide +kernel
theorem i283_13 : zi 283 13 14 3 5 0 := by decide +kernel
theorem i283_14 : zi 283 14 15 0 0 0 := by decide +kernel
theorem i283_15 : zi 283 15 16 3 6 0 := by decide +kernel
theorem i283_66 : zi 283 66 67 2 0 0 := by decide +kernel
theorem i283_67 : zi 283 67 68 1 1 0 := by decide +kernel
theorem i283_68 : zi 283 68 69 21 259 12 := by decide +kernel
theorem i283_69 : zi 283 69 70 18 79 0 := by decide +kernel
theorem i283_70 : zi 283 70 71 2 0 0 := by decide +kernel
theorem i283_71 : zi 283 71 72 6 12 54 := by decide +kernel
theorem i283_72 : zi 283 72 73 1 1 0 := by decide +kernel
theorem i283_73 : zi 283 73 74 8 0 0 := by decide +kernel
theorem i283_74 : zi 283 74 75 18 79 1 := by decide +kernel
theorem i283_75 : zi 283 75 76 2 0 0 := by decide +kernel
theorem i283_76 : zi 283 76 77 1 1 0 := by decide +kernel
theorem i283_77 : zi 283 77 78 21 264 12 := by decide +kernel
theorem na_264 : z_na 264 = 1 := by decide +kernel
theorem i301_0 : zi 301 0 1 0 0 0 := by decide +kernel
theorem i301_1 : zi 301 1 2 3 1 0 := by decide +kernel
theorem i301_2 : zi 301 2 3 0 0 0 := by decide +kernel
theorem i301_3 : zi 301 3 4 3 2 0 := by decide +kernel
theorem i301_4 : zi 301 4 5 1 2 0 := by decide +kernel
theorem i301_5 : zi 301 5 6 0 0 8 := by decide +kernel
theorem i301_6 : zi 301 6 7 19 17 3 := by decide +kernel
theorem i301_7 : zi 301 7 8 1 1 0 := by decide +kernel
theorem i301_8 : zi 301 8 9 1 0 0 := by decide +kernel
theorem i301_9 : zi 301 9 10 1 2 0 := by decide +kernel
theorem i301_10 : zi 301 10 11 13 9 0 := by decide +kernel
theorem i301_11 : zi 301 11 12 0 0 1 := by decide +kernel
theorem i301_12 : zi 301 12 13 13 5 0 := by decide +kernel
theorem i301_13 : zi 301 13 14 13 0 0 := by decide +kernel
theorem i301_14 : zi 301 14 15 3 1 0 := by decide +kernel
theorem i301_15 : zi 301 15 16 5 2 1 := by decide +kernel
theorem i301_16 : zi 301 16 17 17 4 0 := by decide +kernel
theorem i301_17 : zi 301 17 18 1 1 0 := by decide +kernel
theorem i301_18 : zi 301 18 19 25 0 0 := by decide +kernel
theorem ml_301 : z_ml 301 = 3 := by decide +kernel
theorem en_301 : ∀ (v0 : zV), z_ent 301 [v0] = [some v0, none, none] := fun v0 => by unfold z_ent; rw [ml_301]; rfl
theorem i309_0 : zi 309 0 1 2 0 0 := by decide +kernel
theorem i309_1 : zi 309 1 2 6 12 19 := by decide +kernel
theorem i309_2 : zi 309 2 3 1 1 0 := by decide +kernel
theorem i309_3 : zi 309 3 4 22 237 0 := by decide +kernel
theorem i309_4 : zi 309 4 5 8 0 0 := by decide +kernel
theorem i309_5 : zi 309 5 6 0 0 2 := by decide +kernel
theorem i309_6 : zi 309 6 7 19 9 0 := by decide +kernel
theorem i309_9 : zi 309 9 10 2 0 0 := by decide +kernel
theorem i309_10 : zi 309 10 11 6 12 79 := by decide +kernel
theorem i309_11 : zi 309 11 12 0 0 30 := by decide +kernel
theorem i309_12 : zi 309 12 13 19 15 1 := by decide +kernel
theorem i309_13 : zi 309 13 14 0 0 (-11) := by decide +kernel
theorem i309_14 : zi 309 14 15 25 0 0 := by decide +kernel
theorem i309_15 : zi 309 15 16 2 0 0 := by decide +kernel
theorem i309_16 : zi 309 16 17 6 12 79 := by decide +kernel
theorem i309_17 : zi 309 17 18 3 3 0 := by decide +kernel
theorem i309_18 : zi 309 18 19 0 0 0 := by decide +kernel
theorem i309_19 : zi 309 19 20 3 4 0 := by decide +kernel
theorem i309_7 : zi 309 7 8 0 0 (-13) := by decide +kernel
theorem i309_8 : zi 309 8 9 25 0 0 := by decide +kernel
theorem i309_20 : zi 309 20 21 1 4 0 := by decide +kernel
theorem i309_21 : zi 309 21 22 2 0 0 := by decide +kernel
theorem i309_22 : zi 309 22 23 6 12 79 := by decide +kernel
theorem i309_23 : zi 309 23 24 19 44 3 := by decide +kernel
theorem i309_24 : zi 309 24 25 1 1 0 := by decide +kernel
theorem i309_25 : zi 309 25 26 0 0 6 := by decide +kernel
theorem i309_26 : zi 309 26 27 13 4 0 := by decide +kernel
theorem i309_27 : zi 309 27 28 18 44 0 := by decide +kernel
theorem i309_28 : zi 309 28 29 2 0 0 := by decide +kernel
theorem i309_29 : zi 309 29 30 6 12 81 := by decide +kernel
theorem fl_13_81 : zfl 13 12 81 81 (some 140) := by decide +kernel
theorem i309_30 : zi 309 30 31 1 4 0 := by decide +kernel
theorem i309_31 : zi 309 31 32 8 0 0 := by decide +kernel
theorem ar_140 : zar 140 0 30 := by decide +kernel
theorem i309_32 : zi 309 32 33 1 1 0 := by decide +kernel
theorem i309_33 : zi 309 33 34 1 1 0 := by decide +kernel
theorem i309_34 : zi 309 34 35 0 0 6 := by decide +kernel
theorem i309_35 : zi 309 35 36 13 4 0 := by decide +kernel
theorem i309_36 : zi 309 36 37 13 1 0 := by decide +kernel
theorem i309_37 : zi 309 37 38 19 40 1 := by decide +kernel
theorem i309_38 : zi 309 38 39 1 4 0 := by decide +kernel
theorem i309_39 : zi 309 39 40 17 41 0 := by decide +kernel
theorem i309_40 : zi 309 40 41 1 3 0 := by decide +kernel
theorem i309_41 : zi 309 41 42 3 3 0 := by decide +kernel
theorem i309_42 : zi 309 42 43 5 4 1 := by decide +kernel
theorem i309_43 : zi 309 43 44 17 20 0 := by decide +kernel
theorem i309_44 : zi 309 44 45 1 3 0 := by decide +kernel
theorem i309_45 : zi 309 45 46 2 0 0 := by decide +kernel
theorem i309_46 : zi 309 46 47 6 12 79 := by decide +kernel
theorem i309_47 : zi 309 47 48 19 54 0 := by decide +kernel
theorem i309_54 : zi 309 54 55 2 0 0 := by decide +kernel
theorem i309_55 : zi 309 55 56 6 12 1 := by decide +kernel
theorem i309_56 : zi 309 56 57 1 2 0 := by decide +kernel
theorem i309_57 : zi 309 57 58 13 0 0 := by decide +kernel
theorem i309_58 : zi 309 58 59 3 4 0 := by decide +kernel
theorem i309_59 : zi 309 59 60 2 0 0 := by decide +kernel
theorem i309_60 : zi 309 60 61 6 12 80 := by decide +kernel
theorem i309_61 : zi 309 61 62 2 0 0 := by decide +kernel
theorem i309_62 : zi 309 62 63 6 12 79 := by decide +kernel
theorem i309_63 : zi 309 63 64 1 3 0 := by decide +kernel
theorem i309_64 : zi 309 64 65 10 0 0 := by decide +kernel
theorem i309_65 : zi 309 65 66 2 0 0 := by decide +kernel
theorem i309_66 : zi 309 66 67 6 12 81 := by decide +kernel
theorem i309_67 : zi 309 67 68 2 0 0 := by decide +kernel
theorem i309_68 : zi 309 68 69 6 12 79 := by decide +kernel
theorem i309_69 : zi 309 69 70 1 1 0 := by decide +kernel
theorem i309_70 : zi 309 70 71 10 0 0 := by decide +kernel
theorem i309_71 : zi 309 71 72 2 0 0 := by decide +kernel
theorem i309_72 : zi 309 72 73 6 12 82 := by decide +kernel
theorem i309_73 : zi 309 73 74 2 0 0 := by decide +kernel
theorem i309_74 : zi 309 74 75 6 12 79 := by decide +kernel
theorem i309_75 : zi 309 75 76 1 3 0 := by decide +kernel
theorem i309_76 : zi 309 76 77 2 0 0 := by decide +kernel
theorem i309_77 : zi 309 77 78 6 12 79 := by decide +kernel
theorem i309_78 : zi 309 78 79 19 90 0 := by decide +kernel
theorem i309_90 : zi 309 90 91 1 4 0 := by decide +kernel
theorem i309_79 : zi 309 79 80 2 0 0 := by decide +kernel
theorem i309_80 : zi 309 80 81 6 12 82 := by decide +kernel
theorem i309_81 : zi 309 81 82 1 3 0 := by decide +kernel
theorem i309_82 : zi 309 82 83 8 0 0 := by decide +kernel
theorem i309_83 : zi 309 83 84 1 4 0 := by decide +kernel
theorem i309_84 : zi 309 84 85 19 90 3 := by decide +kernel
theorem i309_85 : zi 309 85 86 2 0 0 := by decide +kernel
theorem i309_86 : zi 309 86 87 6 12 82 := by decide +kernel
theorem i309_87 : zi 309 87 88 1 3 0 := by decide +kernel
theorem i309_88 : zi 309 88 89 8 0 0 := by decide +kernel
theorem i309_89 : zi 309 89 90 17 91 0 := by decide +kernel
theorem i309_91 : zi 309 91 92 10 0 0 := by decide +kernel
theorem i309_92 : zi 309 92 93 2 0 0 := by decide +kernel
theorem i309_93 : zi 309 93 94 14 0 0 := by decide +kernel
theorem i309_94 : zi 309 94 95 6 12 79 := by decide +kernel
theorem i309_95 : zi 309 95 96 0 0 1 := by decide +kernel
theorem i309_96 : zi 309 96 97 13 0 0 := by decide +kernel
theorem i309_97 : zi 309 97 98 7 12 79 := by decide +kernel
theorem i309_98 : zi 309 98 99 2 0 0 := by decide +kernel
theorem i309_99 : zi 309 99 100 6 12 79 := by decide +kernel
theorem i309_100 : zi 309 100 101 0 0 1 := by decide +kernel
theorem i309_101 : zi 309 101 102 13 1 0 := by decide +kernel
theorem i309_102 : zi 309 102 103 25 0 0 := by decide +kernel
theorem i309_48 : zi 309 48 49 2 0 0 := by decide +kernel
theorem i309_49 : zi 309 49 50 1 3 0 := by decide +kernel
theorem i309_50 : zi 309 50 51 21 308 12 := by decide +kernel
theorem i309_51 : zi 309 51 52 18 54 1 := by decide +kernel
theorem i309_52 : zi 309 52 53 0 0 (-7) := by decide +kernel
theorem i309_53 : zi 309 53 54 25 0 0 := by decide +kernel
theorem ml_309 : z_ml 309 = 5 := by decide +kernel
theorem en_309 : ∀ (v0 v1 v2 : zV), z_ent 309 [v0, v1, v2] = [some v0, some v1, some v2, none, none] := fun v0 v1 v2 => by unfold z_ent; rw [ml_309]; rfl
theorem i312_0 : zi 312 0 1 2 0 0 := by decide +kernel
theorem i312_1 : zi 312 1 2 0 0 0 := by decide +kernel
theorem i312_2 : zi 312 2 3 7 12 0 := by decide +kernel
theorem i312_3 : zi 312 3 4 0 0 0 := by decide +kernel
theorem i312_4 : zi 312 4 5 3 1 0 := by decide +kernel
theorem i312_5 : zi 312 5 6 0 0 0 := by decide +kernel
theorem i312_6 : zi 312 6 7 3 2 0 := by decide +kernel
theorem i312_7 : zi 312 7 8 1 2 0 := by decide +kernel
theorem i312_8 : zi 312 8 9 2 0 0 := by decide +kernel
theorem i312_9 : zi 312 9 10 6 12 79 := by decide +kernel
theorem i312_10 : zi 312 10 11 19 43 3 := by decide +kernel
theorem i312_11 : zi 312 11 12 2 0 0 := by decide +kernel
theorem i312_12 : zi 312 12 13 6 12 84 := by decide +kernel
theorem i312_13 : zi 312 13 14 1 2 0 := by decide +kernel
theorem i312_14 : zi 312 14 15 2 0 0 := by decide +kernel
theorem i312_15 : zi 312 15 16 6 12 83 := by decide +kernel
theorem i312_16 : zi 312 16 17 1 2 0 := by decide +kernel
theorem i312_17 : zi 312 17 18 9 0 0 := by decide +kernel
theorem i312_18 : zi 312 18 19 18 28 0 := by decide +kernel
theorem i312_28 : zi 312 28 29 0 0 0 := by decide +kernel
theorem i312_19 : zi 312 19 20 2 0 0 := by decide +kernel
theorem i312_20 : zi 312 20 21 6 12 1 := by decide +kernel
theorem i312_21 : zi 312 21 22 2 0 0 := by decide +kernel
theorem i312_22 : zi 312 22 23 6 12 82 := by decide +kernel
theorem i312_23 : zi 312 23 24 1 2 0 := by decide +kernel
theorem i312_24 : zi 312 24 25 8 0 0 := by decide +kernel
theorem i312_25 : zi 312 25 26 19 28 3 := by decide +kernel
theorem i312_26 : zi 312 26 27 0 0 1 := by decide +kernel
theorem i312_27 : zi 312 27 28 17 29 0 := by decide +kernel
theorem i312_29 : zi 312 29 30 11 0 0 := by decide +kernel
theorem i312_30 : zi 312 30 31 1 1 0 := by decide +kernel
theorem i312_31 : zi 312 31 32 2 0 0 := by decide +kernel
theorem i312_32 : zi 312 32 33 6 12 84 := by decide +kernel
theorem i312_33 : zi 312 33 34 1 2 0 := by decide +kernel
theorem i312_34 : zi 312 34 35 9 0 0 := by decide +kernel
theorem i312_35 : zi 312 35 36 18 38 0 := by decide +kernel
theorem i312_36 : zi 312 36 37 0 0 1 := by decide +kernel
theorem i312_37 : zi 312 37 38 17 39 0 := by decide +kernel
theorem i312_38 : zi 312 38 39 0 0 0 := by decide +kernel
theorem i312_39 : zi 312 39 40 13 0 0 := by decide +kernel
theorem i312_40 : zi 312 40 41 3 1 0 := by decide +kernel
theorem i312_41 : zi 312 41 42 5 2 1 := by decide +kernel
theorem i312_42 : zi 312 42 43 17 7 0 := by decide +kernel
theorem i312_43 : zi 312 43 44 1 1 0 := by decide +kernel
theorem i312_44 : zi 312 44 45 25 0 0 := by decide +kernel
theorem ml_312 : z_ml 312 = 3 := by decide +kernel
theorem en_312 : ∀ (v0 : zV), z_ent 312 [v0] = [some v0, none, none] := fun v0 => by unfold z_ent; rw [ml_312]; rfl
theorem i318_0 : zi 318 0 1 2 0 0 := by decide +kernel
theorem i318_1 : zi 318 1 2 1 1 0 := by decide +kernel
theorem i318_2 : zi 318 2 3 0 0 1 := by decide +kernel
theorem i318_3 : zi 318 3 4 0 0 100 := by decide +kernel
theorem i318_4 : zi 318 4 5 22 213 0 := by decide +kernel
theorem i318_5 : zi 318 5 6 18 8 0 := by decide +kernel
theorem i318_6 : zi 318 6 7 0 0 0 := by decide +kernel
theorem i318_7 : zi 318 7 8 17 9 0 := by decide +kernel
theorem i318_8 : zi 318 8 9 0 0 1 := by decide +kernel
theorem i318_9 : zi 318 9 10 21 212 12 := by decide +kernel
theorem i318_10 : zi 318 10 11 18 13 1 := by decide +kernel
theorem i318_13 : zi 318 13 14 1 1 0 := by decide +kernel
theorem i318_14 : zi 318 14 15 2 0 0 := by decide +kernel
theorem i318_15 : zi 318 15 16 6 12 36 := by decide +kernel
theorem i318_16 : zi 318 16 17 19 19 3 := by decide +kernel
theorem i318_19 : zi 318 19 20 2 0 0 := by decide +kernel
theorem i318_20 : zi 318 20 21 6 12 36 := by decide +kernel
theorem i318_17 : zi 318 17 18 1 1 0 := by decide +kernel
theorem i318_18 : zi 318 18 19 17 21 0 := by decide +kernel
theorem i318_21 : zi 318 21 22 3 2 0 := by decide +kernel
theorem i318_22 : zi 318 22 23 0 0 0 := by decide +kernel
theorem i318_23 : zi 318 23 24 3 3 0 := by decide +kernel
theorem i318_11 : zi 318 11 12 0 0 0 := by decide +kernel
theorem i318_12 : zi 318 12 13 25 0 0 := by decide +kernel
theorem i318_24 : zi 318 24 25 1 3 0 := by decide +kernel
theorem i318_25 : zi 318 25 26 1 2 0 := by decide +kernel
theorem i318_26 : zi 318 26 27 19 88 3 := by decide +kernel
theorem i318_27 : zi 318 27 28 2 0 0 := by decide +kernel
theorem i318_28 : zi 318 28 29 6 12 31 := by decide +kernel
theorem i318_29 : zi 318 29 30 1 3 0 := by decide +kernel
theorem i318_30 : zi 318 30 31 8 0 0 := by decide +kernel
theorem i318_31 : zi 318 31 32 2 0 0 := by decide +kernel
theorem i318_32 : zi 318 32 33 6 12 32 := by decide +kernel
theorem i318_33 : zi 318 33 34 1 3 0 := by decide +kernel
theorem i318_34 : zi 318 34 35 8 0 0 := by decide +kernel
theorem i318_35 : zi 318 35 36 22 287 0 := by decide +kernel
theorem i318_36 : zi 318 36 37 3 4 0 := by decide +kernel
theorem i318_37 : zi 318 37 38 2 0 0 := by decide +kernel
theorem i318_38 : zi 318 38 39 6 12 33 := by decide +kernel
theorem i318_39 : zi 318 39 40 1 3 0 := by decide +kernel
theorem i318_40 : zi 318 40 41 8 0 0 := by decide +kernel
theorem i318_41 : zi 318 41 42 0 0 (-1) := by decide +kernel
theorem i318_42 : zi 318 42 43 19 70 1 := by decide +kernel
theorem i318_43 : zi 318 43 44 2 0 0 := by decide +kernel
theorem i318_44 : zi 318 44 45 6 12 27 := by decide +kernel
theorem i318_45 : zi 318 45 46 2 0 0 := by decide +kernel
theorem i318_46 : zi 318 46 47 6 12 31 := by decide +kernel
theorem i318_47 : zi 318 47 48 1 3 0 := by decide +kernel
theorem i318_48 : zi 318 48 49 8 0 0 := by decide +kernel
theorem i318_49 : zi 318 49 50 2 0 0 := by decide +kernel
theorem i318_50 : zi 318 50 51 6 12 32 := by decide +kernel
theorem i318_51 : zi 318 51 52 1 3 0 := by decide +kernel
theorem i318_52 : zi 318 52 53 8 0 0 := by decide +kernel
theorem i318_53 : zi 318 53 54 10 0 0 := by decide +kernel
theorem i318_54 : zi 318 54 55 2 0 0 := by decide +kernel
theorem i318_55 : zi 318 55 56 6 12 28 := by decide +kernel
theorem fl_13_28 : zfl 13 12 28 28 (some 93) := by decide +kernel
theorem i318_56 : zi 318 56 57 1 4 0 := by decide +kernel
theorem i318_57 : zi 318 57 58 2 0 0 := by decide +kernel
theorem i318_58 : zi 318 58 59 6 12 34 := by decide +kernel
theorem i318_59 : zi 318 59 60 1 3 0 := by decide +kernel
theorem i318_60 : zi 318 60 61 8 0 0 := by decide +kernel
theorem i318_61 : zi 318 61 62 10 0 0 := by decide +kernel
theorem ar_93 : zar 93 0 864 := by decide +kernel
theorem i318_62 : zi 318 62 63 2 0 0 := by decide +kernel
theorem i318_63 : zi 318 63 64 6 12 29 := by decide +kernel
theorem fl_13_29 : zfl 13 12 29 29 (some 94) := by decide +kernel
theorem i318_64 : zi 318 64 65 1 4 0 := by decide +kernel
theorem i318_65 : zi 318 65 66 2 0 0 := by decide +kernel
theorem i318_66 : zi 318 66 67 6 12 35 := by decide +kernel
theorem i318_67 : zi 318 67 68 1 3 0 := by decide +kernel
theorem i318_68 : zi 318 68 69 8 0 0 := by decide +kernel
theorem i318_69 : zi 318 69 70 10 0 0 := by decide +kernel
theorem ar_94 : zar 94 0 864 := by decide +kernel
theorem i318_70 : zi 318 70 71 2 0 0 := by decide +kernel
theorem i318_71 : zi 318 71 72 6 12 30 := by decide +kernel
theorem fl_13_30 : zfl 13 12 30 30 (some 95) := by decide +kernel
theorem i318_72 : zi 318 72 73 1 4 0 := by decide +kernel
theorem i318_73 : zi 318 73 74 2 0 0 := by decide +kernel
theorem i318_74 : zi 318 74 75 6 12 33 := by decide +kernel
theorem i318_75 : zi 318 75 76 1 3 0 := by decide +kernel
theorem i318_76 : zi 318 76 77 8 0 0 := by decide +kernel
theorem i318_77 : zi 318 77 78 0 0 (-1) := by decide +kernel
theorem i318_78 : zi 318 78 79 19 81 1 := by decide +kernel
theorem i318_79 : zi 318 79 80 0 0 0 := by decide +kernel
theorem i318_80 : zi 318 80 81 17 85 0 := by decide +kernel
theorem i318_81 : zi 318 81 82 2 0 0 := by decide +kernel
theorem i318_82 : zi 318 82 83 6 12 33 := by decide +kernel
theorem i318_83 : zi 318 83 84 1 3 0 := by decide +kernel
theorem i318_84 : zi 318 84 85 8 0 0 := by decide +kernel
theorem i318_85 : zi 318 85 86 10 0 0 := by decide +kernel
theorem ar_95 : zar 95 0 864 := by decide +kernel
theorem i318_86 : zi 318 86 87 5 3 1 := by decide +kernel
theorem i318_87 : zi 318 87 88 17 24 0 := by decide +kernel
theorem i318_88 : zi 318 88 89 1 2 0 := by decide +kernel
theorem i318_89 : zi 318 89 90 3 3 0 := by decide +kernel
theorem i318_90 : zi 318 90 91 1 3 0 := by decide +kernel
theorem i318_91 : zi 318 91 92 2 0 0 := by decide +kernel
theorem i318_92 : zi 318 92 93 6 12 36 := by decide +kernel
theorem i318_93 : zi 318 93 94 19 121 3 := by decide +kernel
theorem i318_94 : zi 318 94 95 2 0 0 := by decide +kernel
theorem i318_95 : zi 318 95 96 1 3 0 := by decide +kernel
theorem i318_96 : zi 318 96 97 1 2 0 := by decide +kernel
theorem i318_97 : zi 318 97 98 13 1 0 := by decide +kernel
theorem i318_98 : zi 318 98 99 2 0 0 := by decide +kernel
theorem i318_99 : zi 318 99 100 6 12 31 := by decide +kernel
theorem i318_100 : zi 318 100 101 1 3 0 := by decide +kernel
theorem i318_101 : zi 318 101 102 8 0 0 := by decide +kernel
theorem i318_102 : zi 318 102 103 2 0 0 := by decide +kernel
theorem i318_103 : zi 318 103 104 6 12 32 := by decide +kernel
theorem i318_104 : zi 318 104 105 1 3 0 := by decide +kernel
theorem i318_105 : zi 318 105 106 8 0 0 := by decide +kernel
theorem i318_106 : zi 318 106 107 2 0 0 := by decide +kernel
theorem i318_107 : zi 318 107 108 6 12 33 := by decide +kernel
theorem i318_108 : zi 318 108 109 1 3 0 := by decide +kernel
theorem i318_109 : zi 318 109 110 8 0 0 := by decide +kernel
theorem i318_110 : zi 318 110 111 2 0 0 := by decide +kernel
theorem i318_111 : zi 318 111 112 6 12 34 := by decide +kernel
theorem i318_112 : zi 318 112 113 1 3 0 := by decide +kernel
theorem i318_113 : zi 318 113 114 8 0 0 := by decide +kernel
theorem i318_114 : zi 318 114 115 2 0 0 := by decide +kernel
theorem i318_115 : zi 318 115 116 6 12 35 := by decide +kernel
theorem i318_116 : zi 318 116 117 1 3 0 := by decide +kernel
theorem i318_117 : zi 318 117 118 8 0 0 := by decide +kernel
theorem i318_118 : zi 318 118 119 21 239 12 := by decide +kernel
theorem i318_119 : zi 318 119 120 5 3 1 := by decide +kernel
theorem i318_120 : zi 318 120 121 17 90 0 := by decide +kernel
theorem i318_121 : zi 318 121 122 2 0 0 := by decide +kernel
theorem i318_122 : zi 318 122 123 14 0 0 := by decide +kernel
theorem i318_123 : zi 318 123 124 6 12 36 := by decide +kernel
theorem i318_124 : zi 318 124 125 1 2 0 := by decide +kernel
theorem i318_125 : zi 318 125 126 13 1 0 := by decide +kernel
theorem i318_126 : zi 318 126 127 7 12 36 := by decide +kernel
theorem i318_127 : zi 318 127 128 2 0 0 := by decide +kernel
theorem i318_128 : zi 318 128 129 6 12 36 := by decide +kernel
theorem i318_129 : zi 318 129 130 25 0 0 := by decide +kernel
theorem ml_318 : z_ml 318 = 5 := by decide +kernel
theorem en_318 : ∀ (v0 v1 : zV), z_ent 318 [v0, v1] = [some v0, some v1, none, none, none] := fun v0 v1 => by unfold z_ent; rw [ml_318]; rfl
theorem i320_0 : zi 320 0 1 2 0 0 := by decide +kernel
theorem i320_1 : zi 320 1 2 14 0 0 := by decide +kernel
theorem i320_2 : zi 320 2 3 6 12 1 := by decide +kernel
theorem i320_3 : zi 320 3 4 0 0 1 := by decide +kernel
theorem i320_4 : zi 320 4 5 13 0 0 := by decide +kernel
theorem i320_5 : zi 320 5 6 7 12 1 := by decide +kernel
theorem i320_6 : zi 320 6 7 0 0 0 := by decide +kernel
theorem i320_7 : zi 320 7 8 3 1 0 := by decide +kernel
theorem i320_8 : zi 320 8 9 1 1 0 := by decide +kernel
theorem i320_9 : zi 320 9 10 0 0 6 := by decide +kernel
theorem i320_10 : zi 320 10 11 19 18 3 := by decide +kernel
theorem i320_11 : zi 320 11 12 2 0 0 := by decide +kernel
theorem i320_12 : zi 320 12 13 6 12 22 := by decide +kernel
theorem i320_13 : zi 320 13 14 1 1 0 := by decide +kernel
theorem i320_14 : zi 320 14 15 0 0 0 := by decide +kernel
theorem i320_15 : zi 320 15 16 10 0 0 := by decide +kernel
theorem i320_16 : zi 320 16 17 5 1 1 := by decide +kernel
theorem i320_17 : zi 320 17 18 17 8 0 := by decide +kernel
theorem i320_18 : zi 320 18 19 0 0 0 := by decide +kernel
theorem i320_19 : zi 320 19 20 3 1 0 := by decide +kernel
theorem i320_20 : zi 320 20 21 1 1 0 := by decide +kernel
theorem i320_21 : zi 320 21 22 2 0 0 := by decide +kernel
theorem i320_22 : zi 320 22 23 6 12 45 := by decide +kernel
theorem i320_23 : zi 320 23 24 19 42 3 := by decide +kernel
theorem i320_24 : zi 320 24 25 2 0 0 := by decide +kernel
theorem i320_25 : zi 320 25 26 6 12 56 := by decide +kernel
theorem i320_26 : zi 320 26 27 1 1 0 := by decide +kernel
theorem i320_27 : zi 320 27 28 9 0 0 := by decide +kernel
theorem i320_28 : zi 320 28 29 18 40 1 := by decide +kernel
theorem i320_29 : zi 320 29 30 2 0 0 := by decide +kernel
theorem i320_30 : zi 320 30 31 6 12 50 := by decide +kernel
theorem i320_31 : zi 320 31 32 1 1 0 := by decide +kernel
theorem i320_32 : zi 320 32 33 8 0 0 := by decide +kernel
theorem i320_33 : zi 320 33 34 2 0 0 := by decide +kernel
theorem i320_34 : zi 320 34 35 6 12 1 := by decide +kernel
theorem i320_35 : zi 320 35 36 19 40 1 := by decide +kernel
theorem i320_36 : zi 320 36 37 2 0 0 := by decide +kernel
theorem i320_37 : zi 320 37 38 1 1 0 := by decide +kernel
theorem i320_38 : zi 320 38 39 21 264 12 := by decide +kernel
theorem i321_0 : zi 321 0 1 2 0 0 := by decide +kernel
theorem i321_1 : zi 321 1 2 1 1 0 := by decide +kernel
theorem i321_2 : zi 321 2 3 0 0 1 := by decide +kernel
theorem i321_3 : zi 321 3 4 0 0 50 := by decide +kernel
theorem i321_4 : zi 321 4 5 22 213 0 := by decide +kernel
theorem i321_5 : zi 321 5 6 18 8 0 := by decide +kernel
theorem i321_6 : zi 321 6 7 0 0 0 := by decide +kernel
theorem i321_7 : zi 321 7 8 17 9 0 := by decide +kernel
theorem i321_8 : zi 321 8 9 0 0 1 := by decide +kernel
theorem i321_9 : zi 321 9 10 21 212 12 := by decide +kernel
theorem i321_10 : zi 321 10 11 18 13 1 := by decide +kernel
theorem i321_13 : zi 321 13 14 0 0 0 := by decide +kernel
theorem i321_14 : zi 321 14 15 3 2 0 := by decide +kernel
theorem i321_11 : zi 321 11 12 0 0 0 := by decide +kernel
theorem i321_12 : zi 321 12 13 25 0 0 := by decide +kernel
theorem i321_15 : zi 321 15 16 1 2 0 := by decide +kernel
theorem i321_16 : zi 321 16 17 1 1 0 := by decide +kernel
theorem i321_17 : zi 321 17 18 19 22 3 := by decide +kernel
theorem i321_18 : zi 321 18 19 2 0 0 := by decide +kernel
theorem i321_19 : zi 321 19 20 21 320 12 := by decide +kernel
theorem na_320 : z_na 320 = 0 := by decide +kernel
-- 3 X0_issuerFor: cut points [13, 27]
set_option maxRecDepth 100000 in
theorem s3_e {L : Nat} (a : Int32) (S : zS) : zt L 3 0 [some (.inr (.inr 11)), some (.inl a), none, none] [] S (if ((zrem a 6) = 0) then (.inr (.inl (some (.inl (-1))), S, 0)) else (.inl (13, [some (.inr (.inr 11)), some (.inl a), some (.inl (zrem a 6)), some (.inl ((S 11 0) - 1))], [], S))) := zr_1_1 i3_0 (zr_0 i3_1 kc_6 (zr_13_4 i3_2 nz_6 (zr_3_2 i3_3 (zr_1_2 i3_4 (zr_18_1 i3_5 (fun h802 => zr_0 i3_6 kc_m1 (zr_25 i3_7)) (fun h803 => zr_2_0 i3_8 (zr_6 i3_9 fl_11_0 (show S 11 0 = (S 11 0) from rfl) (zr_0 i3_10 kc_1 (zr_13_1 i3_11 (zr_3_3 i3_12 (zt_rfl)))))))))))
set_option maxRecDepth 100000 in
theorem s3_13 {L : Nat} (x1 x2 x3 : Int32) (S : zS) (g0 : (¬ (x3 < 0)) → zx 30 x3) : zt L 3 13 [some (.inr (.inr 11)), some (.inl x1), some (.inl x2), some (.inl x3)] [] S (if (x3 < 0) then (.inl (27, [some (.inr (.inr 11)), some (.inl x1), some (.inl x2), some (.inl x3)], [], S)) else (if ((S 72 x3.toNatClampNeg) = (x1 - x2)) then (.inr (.inl (some (.inl x3)), S, 0)) else (.inl (13, [some (.inr (.inr 11)), some (.inl x1), some (.inl x2), some (.inl (x3 + (-1)))], [], S)))) := zr_1_3 i3_13 (zr_18_2 i3_14 (fun h804 => zt_rfl) (fun h805 => zr_2_0 i3_15 (zr_6r i3_16 fl_11_1 (zr_1_3 i3_17 (zr_8 i3_18 ar_72 (g0 h805) rfl (show S 72 x3.toNatClampNeg = (S 72 x3.toNatClampNeg) from rfl) (zr_1_1 i3_19 (zr_1_2 i3_20 (zr_13_1 i3_21 (zr_19_1 i3_22 (fun h806 => zr_1_3 i3_23 (zr_25 i3_24)) (fun h807 => zr_5_3 i3_25 kc_m1 (zr_17 i3_26 (zt_rfl))))))))))))
set_option maxRecDepth 100000 in
theorem s3_27 {L : Nat} (x1 x2 x3 : Int32) (S : zS) : zt L 3 27 [some (.inr (.inr 11)), some (.inl x1), some (.inl x2), some (.inl x3)] [] S (.inr (.inl (some (.inl (-1))), S, 0)) := zr_0 i3_27 kc_m1 (zr_25 i3_28)
-- 6 X0_publishList: cut points [4, 34]
set_option maxRecDepth 100000 in
theorem s6_e {L : Nat} (a : Int32) (S : zS) : zt L 6 0 [some (.inr (.inr 11)), some (.inl a), none, none] [] S (.inl (4, [some (.inr (.inr 11)), some (.inl a), some (.inl 0), some (.inl 0)], [], S)) := zr_0 i6_0 kc_0 (zr_3_2 i6_1 (zr_0 i6_2 kc_0 (zr_3_3 i6_3 (zt_rfl))))
set_option maxRecDepth 100000 in
theorem s6_4 {L : Nat} (x1 x2 x3 : Int32) (S : zS) (g0 : (¬ ((S 11 0) ≤ x3)) → zx 30 x3) : zt L 6 4 [some (.inr (.inr 11)), some (.inl x1), some (.inl x2), some (.inl x3)] [] S (if ((S 11 0) ≤ x3) then (.inl (34, [some (.inr (.inr 11)), some (.inl x1), some (.inl x2), some (.inl x3)], [], S)) else (.inl (4, [some (.inr (.inr 11)), some (.inl x1), some (.inl (if ((¬ ((S 75 x3.toNatClampNeg) = 0)) ∧ (¬ ((S 73 x3.toNatClampNeg) ≤ x1))) then ((x2 + 1) : Int32) else x2)), some (.inl (x3 + 1))], [], (z_up S 76 x3.toNatClampNeg (zb ((¬ ((S 75 x3.toNatClampNeg) = 0)) ∧ (¬ ((S 73 x3.toNatClampNeg) ≤ x1)))))))) := zr_1_3 i6_4 (zr_2_0 i6_5 (zr_6 i6_6 fl_11_0 (show S 11 0 = (S 11 0) from rfl) (zr_19_3 i6_7 (fun h816 => zt_rfl) (fun h817 => zr_2_0 i6_8 (zr_6r i6_9 fl_11_5 (zr_1_3 i6_10 (zr_2_0 i6_11 (zr_6r i6_12 fl_11_4 (zr_1_3 i6_13 (zr_9 i6_14 ar_75 (g0 h817) rfl (show S 75 x3.toNatClampNeg = (S 75 x3.toNatClampNeg) from rfl) (zt_trans (zt_cast (zr_18_0 i6_15 (fun h818 => zr_0 i6_24 kc_0 (zt_rfl)) (fun h819 => zr_2_0 i6_16 (zr_6r i6_17 fl_11_2 (zr_1_3 i6_18 (zr_8 i6_19 ar_73 (g0 h817) rfl (show S 73 x3.toNatClampNeg = (S 73 x3.toNatClampNeg) from rfl) (zr_1_1 i6_20 (zt_cast (zr_19_5 i6_21 (fun h820 => zr_0 i6_24 kc_0 (zt_rfl)) (fun h821 => zr_0 i6_22 kc_1 (zr_17 i6_23 (zt_rfl)))) (zm_c zz_s (zl_c (zl_t zz_01) zz_s) zz_s)))))))) (zm_c zz_s (zl_c (zl_t zz_0b) zz_s) zz_s)) (zr_11 i6_25 ar_76 (g0 h817) (zb_01 _) rfl (zr_2_0 i6_26 (zr_6r i6_27 fl_11_5 (zr_1_3 i6_28 (zr_9 i6_29 ar_76 (g0 h817) rfl ((show (z_up S 76 x3.toNatClampNeg (zb ((¬ ((S 75 x3.toNatClampNeg) = 0)) ∧ (¬ ((S 73 x3.toNatClampNeg) ≤ x1))))) 76 x3.toNatClampNeg = (z_up S 76 x3.toNatClampNeg (zb ((¬ ((S 75 x3.toNatClampNeg) = 0)) ∧ (¬ ((S 73 x3.toNatClampNeg) ≤ x1))))) 76 x3.toNatClampNeg from rfl).trans (zup_s _ _ _ _)) (zt_trans (zt_cast (zr_18b_0 i6_30 (fun h822 => zr_5_2 i6_31 kc_1 (zt_rfl)) (fun h823 => zt_rfl)) (zm_c (zl_c zz_s (zl_c zz_s (zl_c (zl_v zz_e) zz_s))) zz_s zz_s)) (zr_5_3 i6_32 kc_1 (zr_17 i6_33 (zt_rfl))))))))))))))))))))
set_option maxRecDepth 100000 in
theorem s6_34 {L : Nat} (x1 x2 x3 : Int32) (S : zS) : zt L 6 34 [some (.inr (.inr 11)), some (.inl x1), some (.inl x2), some (.inl x3)] [] S (.inr (.inl (some (.inl x2)), S, 0)) := zr_1_2 i6_34 (zr_25 i6_35)
def k6_4 (x1 : Int32) (j : Nat) (a : Int32 × zS) : Int32 × zS := ((if ((¬ ((a.2 75 j) = 0)) ∧ (¬ ((a.2 73 j) ≤ x1))) then ((a.1 + 1) : Int32) else a.1), (z_up a.2 76 j (zb ((¬ ((a.2 75 j) = 0)) ∧ (¬ ((a.2 73 j) ≤ x1))))))
set_option maxRecDepth 100000 in
theorem l6_4 {L : Nat} (x1 : Int32) (i0 n : Nat) (a : Int32 × zS) (hn : i0 + n < 2147483648) (hc0 : ∀ j, j < n → ¬ (((zfold (k6_4 x1 ) i0 j a).2 11 0) ≤ (Int32.ofNat (i0 + j)))) (g0 : ∀ j, j < n → (¬ (((zfold (k6_4 x1 ) i0 j a).2 11 0) ≤ (Int32.ofNat (i0 + j)))) → zx 30 (Int32.ofNat (i0 + j))) : zt L 6 4 [some (.inr (.inr 11)), some (.inl x1), some (.inl a.1), some (.inl (Int32.ofNat i0))] [] a.2 (.inl (4, [some (.inr (.inr 11)), some (.inl x1), some (.inl (zfold (k6_4 x1 ) i0 n a).1), some (.inl (Int32.ofNat (i0 + n)))], [], (zfold (k6_4 x1 ) i0 n a).2)) := by
  induction n with
  | zero => exact zt_rfl
  | succ n ih =>
    have e1 := zk_ix (i0 + n) (by omega)
    have e2 := zk_add (i0 + n)
    refine zt_trans (ih (by omega) (fun j hj => hc0 j (by omega)) (fun j hj => g0 j (by omega))) ?_
    refine zt_cast (s6_4 x1 (zfold (k6_4 x1 ) i0 n a).1 (Int32.ofNat (i0 + n)) (zfold (k6_4 x1 ) i0 n a).2 (by have hg := g0 n (by omega); first | exact hg | (simp only [e1]; exact hg))) ?_
    rw [if_neg (show ¬ (((zfold (k6_4 x1 ) i0 n a).2 11 0) ≤ (Int32.ofNat (i0 + n))) from (by have hg := hc0 n (by omega); first | exact hg | (simp only [e1]; exact hg)))]
    simp only [zfold, k6_4, e1, e2, ← Nat.add_assoc]
-- 7 X0_isGoodAt: cut points [4, 36]
set_option maxRecDepth 100000 in
theorem s7_e {L : Nat} (a b : Int32) (S : zS) : zt L 7 0 [some (.inr (.inr 11)), some (.inl a), some (.inl b), none, none] [] S (.inl (4, [some (.inr (.inr 11)), some (.inl a), some (.inl b), some (.inl a), some (.inl 0)], [], S)) := zr_1_1 i7_0 (zr_3_3 i7_1 (zr_0 i7_2 kc_0 (zr_3_4 i7_3 (zt_rfl))))
set_option maxRecDepth 100000 in
theorem s7_4 {L : Nat} (x1 x2 x3 x4 : Int32) (S : zS) (g0 : (¬ ((S 11 0) ≤ x4)) → zx 30 x3) : zt L 7 4 [some (.inr (.inr 11)), some (.inl x1), some (.inl x2), some (.inl x3), some (.inl x4)] [] S (if ((S 11 0) ≤ x4) then (.inl (36, [some (.inr (.inr 11)), some (.inl x1), some (.inl x2), some (.inl x3), some (.inl x4)], [], S)) else (if ((S 73 x3.toNatClampNeg) ≤ x2) then (.inr (.inl (some (.inl 0)), S, 0)) else (if ((S 76 x3.toNatClampNeg) = 0) then (if ((S 74 x3.toNatClampNeg) = x3) then (.inr (.inl (some (.inl 1)), S, 0)) else (.inl (4, [some (.inr (.inr 11)), some (.inl x1), some (.inl x2), some (.inl (S 74 x3.toNatClampNeg)), some (.inl (x4 + 1))], [], S))) else (.inr (.inl (some (.inl 0)), S, 0))))) := zr_1_4 i7_4 (zr_2_0 i7_5 (zr_6 i7_6 fl_11_0 (show S 11 0 = (S 11 0) from rfl) (zr_19_3 i7_7 (fun h832 => zt_rfl) (fun h833 => zr_2_0 i7_8 (zr_6r i7_9 fl_11_2 (zr_1_3 i7_10 (zr_8 i7_11 ar_73 (g0 h833) rfl (show S 73 x3.toNatClampNeg = (S 73 x3.toNatClampNeg) from rfl) (zr_1_2 i7_12 (zr_19_5 i7_13 (fun h834 => zr_0 i7_19 kc_0 (zr_26 i7_20 (zo_0))) (fun h835 => zr_2_0 i7_14 (zr_6r i7_15 fl_11_5 (zr_1_3 i7_16 (zr_9 i7_17 ar_76 (g0 h833) rfl (show S 76 x3.toNatClampNeg = (S 76 x3.toNatClampNeg) from rfl) (zr_18_0 i7_18 (fun h836 => zr_2_0 i7_21 (zr_6r i7_22 fl_11_3 (zr_1_3 i7_23 (zr_8 i7_24 ar_74 (g0 h833) rfl (show S 74 x3.toNatClampNeg = (S 74 x3.toNatClampNeg) from rfl) (zr_1_3 i7_25 (zr_19_1 i7_26 (fun h838 => zr_0 i7_27 kc_1 (zr_26 i7_28 (zo_1))) (fun h839 => zr_2_0 i7_29 (zr_6r i7_30 fl_11_3 (zr_1_3 i7_31 (zr_8 i7_32 ar_74 (g0 h833) rfl (show S 74 x3.toNatClampNeg = (S 74 x3.toNatClampNeg) from rfl) (zr_3_3 i7_33 (zr_5_4 i7_34 kc_1 (zr_17 i7_35 (zt_rfl)))))))))))))) (fun h837 => zr_0 i7_19 kc_0 (zr_26 i7_20 (zo_0)))))))))))))))))
set_option maxRecDepth 100000 in
theorem s7_36 {L : Nat} (x1 x2 x3 x4 : Int32) (S : zS) : zt L 7 36 [some (.inr (.inr 11)), some (.inl x1), some (.inl x2), some (.inl x3), some (.inl x4)] [] S (.inr (.inl (some (.inl 1)), S, 0)) := zr_0 i7_36 kc_1 (zr_26 i7_37 (zo_1))
def k7_4 (x1 x2 : Int32) (S : zS) (j : Nat) (a : Int32) : Int32 := (S 74 a.toNatClampNeg)
set_option maxRecDepth 100000 in
theorem l7_4 {L : Nat} (x1 x2 : Int32) (S : zS) (i0 n : Nat) (a : Int32) (hn : i0 + n < 2147483648) (hc0 : ∀ j, j < n → ¬ ((S 11 0) ≤ (Int32.ofNat (i0 + j)))) (hc1 : ∀ j, j < n → ¬ ((S 73 (zfold (k7_4 x1 x2 S) i0 j a).toNatClampNeg) ≤ x2)) (hc2 : ∀ j, j < n → ((S 76 (zfold (k7_4 x1 x2 S) i0 j a).toNatClampNeg) = 0)) (hc3 : ∀ j, j < n → ¬ ((S 74 (zfold (k7_4 x1 x2 S) i0 j a).toNatClampNeg) = (zfold (k7_4 x1 x2 S) i0 j a))) (g0 : ∀ j, j < n → (¬ ((S 11 0) ≤ (Int32.ofNat (i0 + j)))) → zx 30 (zfold (k7_4 x1 x2 S) i0 j a)) : zt L 7 4 [some (.inr (.inr 11)), some (.inl x1), some (.inl x2), some (.inl a), some (.inl (Int32.ofNat i0))] [] S (.inl (4, [some (.inr (.inr 11)), some (.inl x1), some (.inl x2), some (.inl (zfold (k7_4 x1 x2 S) i0 n a)), some (.inl (Int32.ofNat (i0 + n)))], [], S)) := by
  induction n with
  | zero => exact zt_rfl
  | succ n ih =>
    have e1 := zk_ix (i0 + n) (by omega)
    have e2 := zk_add (i0 + n)
    refine zt_trans (ih (by omega) (fun j hj => hc0 j (by omega)) (fun j hj => hc1 j (by omega)) (fun j hj => hc2 j (by omega)) (fun j hj => hc3 j (by omega)) (fun j hj => g0 j (by omega))) ?_
    refine zt_cast (s7_4 x1 x2 (zfold (k7_4 x1 x2 S) i0 n a) (Int32.ofNat (i0 + n)) S (by have hg := g0 n (by omega); first | exact hg | (simp only [e1]; exact hg))) ?_
    rw [if_neg (show ¬ ((S 11 0) ≤ (Int32.ofNat (i0 + n))) from (by have hg := hc0 n (by omega); first | exact hg | (simp only [e1]; exact hg)))]
    rw [if_neg (show ¬ ((S 73 (zfold (k7_4 x1 x2 S) i0 n a).toNatClampNeg) ≤ x2) from (by have hg := hc1 n (by omega); first | exact hg | (simp only [e1]; exact hg)))]
    rw [if_pos (show ((S 76 (zfold (k7_4 x1 x2 S) i0 n a).toNatClampNeg) = 0) from (by have hg := hc2 n (by omega); first | exact hg | (simp only [e1]; exact hg)))]
    rw [if_neg (show ¬ ((S 74 (zfold (k7_4 x1 x2 S) i0 n a).toNatClampNeg) = (zfold (k7_4 x1 x2 S) i0 n a)) from (by have hg := hc3 n (by omega); first | exact hg | (simp only [e1]; exact hg)))]
    simp only [zfold, k7_4, e1, e2, ← Nat.add_assoc]
-- 13 X1_beginCounting: cut points [2, 12]
set_option maxRecDepth 100000 in
theorem s13_e {L : Nat} (S : zS) : zt L 13 0 [some (.inr (.inr 3)), none] [] S (.inl (2, [some (.inr (.inr 3)), some (.inl 0)], [], S)) := zr_0 i13_0 kc_0 (zr_3_1 i13_1 (zt_rfl))
set_option maxRecDepth 100000 in
theorem s13_2 {L : Nat} (x1 : Int32) (S : zS) (g0 : (¬ (6 ≤ x1)) → zx 6 x1) : zt L 13 2 [some (.inr (.inr 3)), some (.inl x1)] [] S (if (6 ≤ x1) then (.inl (12, [some (.inr (.inr 3)), some (.inl x1)], [], S)) else (.inl (2, [some (.inr (.inr 3)), some (.inl (x1 + 1))], [], (z_up S 19 x1.toNatClampNeg 0)))) := zr_1_1 i13_2 (zr_0 i13_3 kc_6 (zr_19_3 i13_4 (fun h842 => zt_rfl) (fun h843 => zr_2_0 i13_5 (zr_6r i13_6 fl_3_3 (zr_1_1 i13_7 (zr_0 i13_8 kc_0 (zr_10 i13_9 ar_19 (g0 h843) rfl (zr_5_1 i13_10 kc_1 (zr_17 i13_11 (zt_rfl))))))))))
set_option maxRecDepth 100000 in
theorem s13_12 {L : Nat} (x1 : Int32) (S : zS) : zt L 13 12 [some (.inr (.inr 3)), some (.inl x1)] [] S (.inr (.inl none, S, 0)) := zr_27 i13_12
def k13_2 (j : Nat) (a : zS) : zS := (z_up a 19 j 0)
set_option maxRecDepth 100000 in
theorem l13_2 {L : Nat} (i0 n : Nat) (a : zS) (hn : i0 + n < 2147483648) (hc0 : ∀ j, j < n → ¬ (6 ≤ (Int32.ofNat (i0 + j)))) (g0 : ∀ j, j < n → (¬ (6 ≤ (Int32.ofNat (i0 + j)))) → zx 6 (Int32.ofNat (i0 + j))) : zt L 13 2 [some (.inr (.inr 3)), some (.inl (Int32.ofNat i0))] [] a (.inl (2, [some (.inr (.inr 3)), some (.inl (Int32.ofNat (i0 + n)))], [], (zfold (k13_2 ) i0 n a))) := by
  induction n with
  | zero => exact zt_rfl
  | succ n ih =>
    have e1 := zk_ix (i0 + n) (by omega)
    have e2 := zk_add (i0 + n)
    refine zt_trans (ih (by omega) (fun j hj => hc0 j (by omega)) (fun j hj => g0 j (by omega))) ?_
    refine zt_cast (s13_2 (Int32.ofNat (i0 + n)) (zfold (k13_2 ) i0 n a) (by have hg := g0 n (by omega); first | exact hg | (simp only [e1]; exact hg))) ?_
    rw [if_neg (show ¬ (6 ≤ (Int32.ofNat (i0 + n))) from (by have hg := hc0 n (by omega); first | exact hg | (simp only [e1]; exact hg)))]
    simp only [zfold, k13_2, e1, e2, ← Nat.add_assoc]
-- 17 X2_shipUpTo: cut points [2, 22]
set_option maxRecDepth 100000 in
theorem s17_e {L : Nat} (a : Int32) (S : zS) : zt L 17 0 [some (.inr (.inr 8)), some (.inl a), none] [] S (.inl (2, [some (.inr (.inr 8)), some (.inl a), some (.inl 0)], [], S)) := zr_0 i17_0 kc_0 (zr_3_2 i17_1 (zt_rfl))
set_option maxRecDepth 100000 in
theorem s17_2 {L : Nat} (x1 x2 : Int32) (S : zS) (g0 : (¬ (x1 ≤ x2)) → (¬ ((S 8 5) ≤ (S 8 6))) → zx 512 (S 8 6)) (g1 : (¬ (x1 ≤ x2)) → (¬ ((S 8 5) ≤ (S 8 6))) → ((S 58 (S 8 6).toNatClampNeg) = 0) → zx 216 (S 55 (S 8 6).toNatClampNeg)) (g2 : (¬ (x1 ≤ x2)) → (¬ ((S 8 5) ≤ (S 8 6))) → ((S 58 (S 8 6).toNatClampNeg) = 0) → (¬ ((F107_9 (S 55 (S 8 6).toNatClampNeg) (S 56 (S 8 6).toNatClampNeg) S) = (-1))) → zx 864 (F107_9 (S 55 (S 8 6).toNatClampNeg) (S 56 (S 8 6).toNatClampNeg) S)) (g3 : (¬ (x1 ≤ x2)) → (¬ ((S 8 5) ≤ (S 8 6))) → (¬ ((S 58 (S 8 6).toNatClampNeg) = 0)) → zx 216 (S 55 (S 8 6).toNatClampNeg)) (g4 : (¬ (x1 ≤ x2)) → (¬ ((S 8 5) ≤ (S 8 6))) → (¬ ((S 58 (S 8 6).toNatClampNeg) = 0)) → zx 864 (((S 55 (S 8 6).toNatClampNeg) * 4) + (if (0 ≤ (((S 59 (S 55 (S 8 6).toNatClampNeg).toNatClampNeg) + 1) ^^^ 4)) then ((zrem ((S 59 (S 55 (S 8 6).toNatClampNeg).toNatClampNeg) + 1) 4) : Int32) else (if ((zrem ((S 59 (S 55 (S 8 6).toNatClampNeg).toNatClampNeg) + 1) 4) = 0) then ((zrem ((S 59 (S 55 (S 8 6).toNatClampNeg).toNatClampNeg) + 1) 4) : Int32) else ((zrem ((S 59 (S 55 (S 8 6).toNatClampNeg).toNatClampNeg) + 1) 4) + 4))))) : zt L 17 2 [some (.inr (.inr 8)), some (.inl x1), some (.inl x2)] [] S (if (x1 ≤ x2) then (.inl (22, [some (.inr (.inr 8)), some (.inl x1), some (.inl x2)], [], S)) else (if ((S 8 5) ≤ (S 8 6)) then (.inl (22, [some (.inr (.inr 8)), some (.inl x1), some (.inl x2)], [], S)) else (.inl (2, [some (.inr (.inr 8)), some (.inl x1), some (.inl (x2 + 1))], [], (z_up (G21 (S 8 6) S) 8 6 (((G21 (S 8 6) S) 8 6) + 1)))))) := zr_1_2 i17_2 (zr_1_1 i17_3 (zr_19_3 i17_4 (fun h853 => zt_rfl) (fun h854 => zr_2_0 i17_5 (zr_6 i17_6 fl_8_6 (show S 8 6 = (S 8 6) from rfl) (zr_2_0 i17_7 (zr_6 i17_8 fl_8_5 (show S 8 5 = (S 8 5) from rfl) (zr_19_3 i17_9 (fun h855 => zt_rfl) (fun h856 => zr_2_0 i17_10 (zr_2_0 i17_11 (zr_6 i17_12 fl_8_6 (show S 8 6 = (S 8 6) from rfl) (zr_cn (zs_21_1 i17_13 na_21 ob_8 rfl) (f21 (S 8 6) S (g0 h854 h856) (fun h857 => (g1 h854 h856 h857)) (fun h858 h859 => (g2 h854 h856 h858 h859)) (fun h860 => (g3 h854 h856 h860)) (fun h861 => (g4 h854 h856 h861))) (zr_2_0 i17_14 (zr_14r i17_15 (zr_6 i17_16 fl_8_6 (show (G21 (S 8 6) S) 8 6 = ((G21 (S 8 6) S) 8 6) from rfl) (zr_0 i17_17 kc_1 (zr_13_0 i17_18 (zr_7 i17_19 fl_8_6 (zr_5_2 i17_20 kc_1 (zr_17 i17_21 (zt_rfl))))))))))))))))))))
set_option maxRecDepth 100000 in
theorem s17_22 {L : Nat} (x1 x2 : Int32) (S : zS) : zt L 17 22 [some (.inr (.inr 8)), some (.inl x1), some (.inl x2)] [] S (.inr (.inl (some (.inl ((S 8 5) - (S 8 6)))), S, 0)) := zr_2_0 i17_22 (zr_6 i17_23 fl_8_5 (show S 8 5 = (S 8 5) from rfl) (zr_2_0 i17_24 (zr_6 i17_25 fl_8_6 (show S 8 6 = (S 8 6) from rfl) (zr_13_1 i17_26 (zr_25 i17_27)))))
def k17_2 (x1 : Int32) (j : Nat) (a : zS) : zS := (z_up (G21 (a 8 6) a) 8 6 (((G21 (a 8 6) a) 8 6) + 1))
set_option maxRecDepth 100000 in
theorem l17_2 {L : Nat} (x1 : Int32) (i0 n : Nat) (a : zS) (hn : i0 + n < 2147483648) (hc0 : ∀ j, j < n → ¬ (x1 ≤ (Int32.ofNat (i0 + j)))) (hc1 : ∀ j, j < n → ¬ (((zfold (k17_2 x1 ) i0 j a) 8 5) ≤ ((zfold (k17_2 x1 ) i0 j a) 8 6))) (g0 : ∀ j, j < n → (¬ (x1 ≤ (Int32.ofNat (i0 + j)))) → (¬ (((zfold (k17_2 x1 ) i0 j a) 8 5) ≤ ((zfold (k17_2 x1 ) i0 j a) 8 6))) → zx 512 ((zfold (k17_2 x1 ) i0 j a) 8 6)) (g1 : ∀ j, j < n → (¬ (x1 ≤ (Int32.ofNat (i0 + j)))) → (¬ (((zfold (k17_2 x1 ) i0 j a) 8 5) ≤ ((zfold (k17_2 x1 ) i0 j a) 8 6))) → (((zfold (k17_2 x1 ) i0 j a) 58 ((zfold (k17_2 x1 ) i0 j a) 8 6).toNatClampNeg) = 0) → zx 216 ((zfold (k17_2 x1 ) i0 j a) 55 ((zfold (k17_2 x1 ) i0 j a) 8 6).toNatClampNeg)) (g2 : ∀ j, j < n → (¬ (x1 ≤ (Int32.ofNat (i0 + j)))) → (¬ (((zfold (k17_2 x1 ) i0 j a) 8 5) ≤ ((zfold (k17_2 x1 ) i0 j a) 8 6))) → (((zfold (k17_2 x1 ) i0 j a) 58 ((zfold (k17_2 x1 ) i0 j a) 8 6).toNatClampNeg) = 0) → (¬ ((F107_9 ((zfold (k17_2 x1 ) i0 j a) 55 ((zfold (k17_2 x1 ) i0 j a) 8 6).toNatClampNeg) ((zfold (k17_2 x1 ) i0 j a) 56 ((zfold (k17_2 x1 ) i0 j a) 8 6).toNatClampNeg) (zfold (k17_2 x1 ) i0 j a)) = (-1))) → zx 864 (F107_9 ((zfold (k17_2 x1 ) i0 j a) 55 ((zfold (k17_2 x1 ) i0 j a) 8 6).toNatClampNeg) ((zfold (k17_2 x1 ) i0 j a) 56 ((zfold (k17_2 x1 ) i0 j a) 8 6).toNatClampNeg) (zfold (k17_2 x1 ) i0 j a))) (g3 : ∀ j, j < n → (¬ (x1 ≤ (Int32.ofNat (i0 + j)))) → (¬ (((zfold (k17_2 x1 ) i0 j a) 8 5) ≤ ((zfold (k17_2 x1 ) i0 j a) 8 6))) → (¬ (((zfold (k17_2 x1 ) i0 j a) 58 ((zfold (k17_2 x1 ) i0 j a) 8 6).toNatClampNeg) = 0)) → zx 216 ((zfold (k17_2 x1 ) i0 j a) 55 ((zfold (k17_2 x1 ) i0 j a) 8 6).toNatClampNeg)) (g4 : ∀ j, j < n → (¬ (x1 ≤ (Int32.ofNat (i0 + j)))) → (¬ (((zfold (k17_2 x1 ) i0 j a) 8 5) ≤ ((zfold (k17_2 x1 ) i0 j a) 8 6))) → (¬ (((zfold (k17_2 x1 ) i0 j a) 58 ((zfold (k17_2 x1 ) i0 j a) 8 6).toNatClampNeg) = 0)) → zx 864 ((((zfold (k17_2 x1 ) i0 j a) 55 ((zfold (k17_2 x1 ) i0 j a) 8 6).toNatClampNeg) * 4) + (if (0 ≤ ((((zfold (k17_2 x1 ) i0 j a) 59 ((zfold (k17_2 x1 ) i0 j a) 55 ((zfold (k17_2 x1 ) i0 j a) 8 6).toNatClampNeg).toNatClampNeg) + 1) ^^^ 4)) then ((zrem (((zfold (k17_2 x1 ) i0 j a) 59 ((zfold (k17_2 x1 ) i0 j a) 55 ((zfold (k17_2 x1 ) i0 j a) 8 6).toNatClampNeg).toNatClampNeg) + 1) 4) : Int32) else (if ((zrem (((zfold (k17_2 x1 ) i0 j a) 59 ((zfold (k17_2 x1 ) i0 j a) 55 ((zfold (k17_2 x1 ) i0 j a) 8 6).toNatClampNeg).toNatClampNeg) + 1) 4) = 0) then ((zrem (((zfold (k17_2 x1 ) i0 j a) 59 ((zfold (k17_2 x1 ) i0 j a) 55 ((zfold (k17_2 x1 ) i0 j a) 8 6).toNatClampNeg).toNatClampNeg) + 1) 4) : Int32) else ((zrem (((zfold (k17_2 x1 ) i0 j a) 59 ((zfold (k17_2 x1 ) i0 j a) 55 ((zfold (k17_2 x1 ) i0 j a) 8 6).toNatClampNeg).toNatClampNeg) + 1) 4) + 4))))) : zt L 17 2 [some (.inr (.inr 8)), some (.inl x1), some (.inl (Int32.ofNat i0))] [] a (.inl (2, [some (.inr (.inr 8)), some (.inl x1), some (.inl (Int32.ofNat (i0 + n)))], [], (zfold (k17_2 x1 ) i0 n a))) := by
  induction n with
  | zero => exact zt_rfl
  | succ n ih =>
    have e1 := zk_ix (i0 + n) (by omega)
    have e2 := zk_add (i0 + n)
    refine zt_trans (ih (by omega) (fun j hj => hc0 j (by omega)) (fun j hj => hc1 j (by omega)) (fun j hj => g0 j (by omega)) (fun j hj => g1 j (by omega)) (fun j hj => g2 j (by omega)) (fun j hj => g3 j (by omega)) (fun j hj => g4 j (by omega))) ?_
    refine zt_cast (s17_2 x1 (Int32.ofNat (i0 + n)) (zfold (k17_2 x1 ) i0 n a) (by have hg := g0 n (by omega); first | exact hg | (simp only [e1]; exact hg)) (by have hg := g1 n (by omega); first | exact hg | (simp only [e1]; exact hg)) (by have hg := g2 n (by omega); first | exact hg | (simp only [e1]; exact hg)) (by have hg := g3 n (by omega); first | exact hg | (simp only [e1]; exact hg)) (by have hg := g4 n (by omega); first | exact hg | (simp only [e1]; exact hg))) ?_
    rw [if_neg (show ¬ (x1 ≤ (Int32.ofNat (i0 + n))) from (by have hg := hc0 n (by omega); first | exact hg | (simp only [e1]; exact hg)))]
    rw [if_neg (show ¬ (((zfold (k17_2 x1 ) i0 n a) 8 5) ≤ ((zfold (k17_2 x1 ) i0 n a) 8 6)) from (by have hg := hc1 n (by omega); first | exact hg | (simp only [e1]; exact hg)))]
    simp only [zfold, k17_2, e1, e2, ← Nat.add_assoc]
-- 111 X9_forget: cut points [2, 12]
set_option maxRecDepth 100000 in
theorem s111_7_e {L : Nat} (a b : Int32) (S : zS) : zt L 111 0 [some (.inr (.inr 7)), some (.inl a), some (.inl b), none] [] S (.inl (2, [some (.inr (.inr 7)), some (.inl a), some (.inl b), some (.inl a)], [], S)) := zr_1_1 i111_0 (zr_3_3 i111_1 (zt_rfl))
set_option maxRecDepth 100000 in
theorem s111_7_2 {L : Nat} (x1 x2 x3 : Int32) (S : zS) (g0 : (¬ (x2 ≤ x3)) → zx 216 x3) : zt L 111 2 [some (.inr (.inr 7)), some (.inl x1), some (.inl x2), some (.inl x3)] [] S (if (x2 ≤ x3) then (.inl (12, [some (.inr (.inr 7)), some (.inl x1), some (.inl x2), some (.inl x3)], [], S)) else (.inl (2, [some (.inr (.inr 7)), some (.inl x1), some (.inl x2), some (.inl (x3 + 1))], [], (z_up S 51 x3.toNatClampNeg 0)))) := zr_1_3 i111_2 (zr_1_2 i111_3 (zr_19_3 i111_4 (fun h864 => zt_rfl) (fun h865 => zr_2_0 i111_5 (zr_6r i111_6 fl_7_0 (zr_1_3 i111_7 (zr_0 i111_8 kc_0 (zr_10 i111_9 ar_51 (g0 h865) rfl (zr_5_3 i111_10 kc_1 (zr_17 i111_11 (zt_rfl))))))))))
set_option maxRecDepth 100000 in
theorem s111_7_12 {L : Nat} (x1 x2 x3 : Int32) (S : zS) : zt L 111 12 [some (.inr (.inr 7)), some (.inl x1), some (.inl x2), some (.inl x3)] [] S (.inr (.inl none, S, 0)) := zr_27 i111_12
def k111_7_2 (x1 x2 : Int32) (j : Nat) (a : zS) : zS := (z_up a 51 j 0)
set_option maxRecDepth 100000 in
theorem l111_7_2 {L : Nat} (x1 x2 : Int32) (i0 n : Nat) (a : zS) (hn : i0 + n < 2147483648) (hc0 : ∀ j, j < n → ¬ (x2 ≤ (Int32.ofNat (i0 + j)))) (g0 : ∀ j, j < n → (¬ (x2 ≤ (Int32.ofNat (i0 + j)))) → zx 216 (Int32.ofNat (i0 + j))) : zt L 111 2 [some (.inr (.inr 7)), some (.inl x1), some (.inl x2), some (.inl (Int32.ofNat i0))] [] a (.inl (2, [some (.inr (.inr 7)), some (.inl x1), some (.inl x2), some (.inl (Int32.ofNat (i0 + n)))], [], (zfold (k111_7_2 x1 x2 ) i0 n a))) := by
  induction n with
  | zero => exact zt_rfl
  | succ n ih =>
    have e1 := zk_ix (i0 + n) (by omega)
    have e2 := zk_add (i0 + n)
    refine zt_trans (ih (by omega) (fun j hj => hc0 j (by omega)) (fun j hj => g0 j (by omega))) ?_
    refine zt_cast (s111_7_2 x1 x2 (Int32.ofNat (i0 + n)) (zfold (k111_7_2 x1 x2 ) i0 n a) (by have hg := g0 n (by omega); first | exact hg | (simp only [e1]; exact hg))) ?_
    rw [if_neg (show ¬ (x2 ≤ (Int32.ofNat (i0 + n))) from (by have hg := hc0 n (by omega); first | exact hg | (simp only [e1]; exact hg)))]
    simp only [zfold, k111_7_2, e1, e2, ← Nat.add_assoc]
-- 111 X9_forget: cut points [2, 12]
set_option maxRecDepth 100000 in
theorem s111_9_e {L : Nat} (a b : Int32) (S : zS) : zt L 111 0 [some (.inr (.inr 9)), some (.inl a), some (.inl b), none] [] S (.inl (2, [some (.inr (.inr 9)), some (.inl a), some (.inl b), some (.inl a)], [], S)) := zr_1_1 i111_0 (zr_3_3 i111_1 (zt_rfl))
set_option maxRecDepth 100000 in
theorem s111_9_2 {L : Nat} (x1 x2 x3 : Int32) (S : zS) (g0 : (¬ (x2 ≤ x3)) → zx 216 x3) : zt L 111 2 [some (.inr (.inr 9)), some (.inl x1), some (.inl x2), some (.inl x3)] [] S (if (x2 ≤ x3) then (.inl (12, [some (.inr (.inr 9)), some (.inl x1), some (.inl x2), some (.inl x3)], [], S)) else (.inl (2, [some (.inr (.inr 9)), some (.inl x1), some (.inl x2), some (.inl (x3 + 1))], [], (z_up S 59 x3.toNatClampNeg 0)))) := zr_1_3 i111_2 (zr_1_2 i111_3 (zr_19_3 i111_4 (fun h868 => zt_rfl) (fun h869 => zr_2_0 i111_5 (zr_6r i111_6 fl_9_0 (zr_1_3 i111_7 (zr_0 i111_8 kc_0 (zr_10 i111_9 ar_59 (g0 h869) rfl (zr_5_3 i111_10 kc_1 (zr_17 i111_11 (zt_rfl))))))))))
set_option maxRecDepth 100000 in
theorem s111_9_12 {L : Nat} (x1 x2 x3 : Int32) (S : zS) : zt L 111 12 [some (.inr (.inr 9)), some (.inl x1), some (.inl x2), some (.inl x3)] [] S (.inr (.inl none, S, 0)) := zr_27 i111_12
def k111_9_2 (x1 x2 : Int32) (j : Nat) (a : zS) : zS := (z_up a 59 j 0)
set_option maxRecDepth 100000 in
theorem l111_9_2 {L : Nat} (x1 x2 : Int32) (i0 n : Nat) (a : zS) (hn : i0 + n < 2147483648) (hc0 : ∀ j, j < n → ¬ (x2 ≤ (Int32.ofNat (i0 + j)))) (g0 : ∀ j, j < n → (¬ (x2 ≤ (Int32.ofNat (i0 + j)))) → zx 216 (Int32.ofNat (i0 + j))) : zt L 111 2 [some (.inr (.inr 9)), some (.inl x1), some (.inl x2), some (.inl (Int32.ofNat i0))] [] a (.inl (2, [some (.inr (.inr 9)), some (.inl x1), some (.inl x2), some (.inl (Int32.ofNat (i0 + n)))], [], (zfold (k111_9_2 x1 x2 ) i0 n a))) := by
  induction n with
  | zero => exact zt_rfl
  | succ n ih =>
    have e1 := zk_ix (i0 + n) (by omega)
    have e2 := zk_add (i0 + n)
    refine zt_trans (ih (by omega) (fun j hj => hc0 j (by omega)) (fun j hj => g0 j (by omega))) ?_
    refine zt_cast (s111_9_2 x1 x2 (Int32.ofNat (i0 + n)) (zfold (k111_9_2 x1 x2 ) i0 n a) (by have hg := g0 n (by omega); first | exact hg | (simp only [e1]; exact hg))) ?_
    rw [if_neg (show ¬ (x2 ≤ (Int32.ofNat (i0 + n))) from (by have hg := hc0 n (by omega); first | exact hg | (simp only [e1]; exact hg)))]
    simp only [zfold, k111_9_2, e1, e2, ← Nat.add_assoc]
-- 35 X3_closeThoseAt: cut points [2, 23]
set_option maxRecDepth 100000 in
theorem s35_e {L : Nat} (a b : Int32) (S : zS) : zt L 35 0 [some (.inr (.inr 10)), some (.inl a), some (.inl b), none] [] S (.inl (2, [some (.inr (.inr 10)), some (.inl a), some (.inl b), some (.inl 0)], [], S)) := zr_0 i35_0 kc_0 (zr_3_3 i35_1 (zt_rfl))
set_option maxRecDepth 100000 in
theorem s35_2 {L : Nat} (x1 x2 x3 : Int32) (S : zS) (g0 : (¬ ((S 10 4) ≤ x3)) → zx 20 x3) : zt L 35 2 [some (.inr (.inr 10)), some (.inl x1), some (.inl x2), some (.inl x3)] [] S (if ((S 10 4) ≤ x3) then (.inl (23, [some (.inr (.inr 10)), some (.inl x1), some (.inl x2), some (.inl x3)], [], S)) else (.inl (2, [some (.inr (.inr 10)), some (.inl x1), some (.inl x2), some (.inl (x3 + 1))], [], (if ((S 67 x3.toNatClampNeg) < x1) then S else (if (x2 ≤ (S 67 x3.toNatClampNeg)) then S else (z_up S 71 x3.toNatClampNeg 1)))))) := zr_1_3 i35_2 (zr_2_0 i35_3 (zr_6 i35_4 fl_10_4 (show S 10 4 = (S 10 4) from rfl) (zr_19_3 i35_5 (fun h876 => zt_rfl) (fun h877 => zr_2_0 i35_6 (zr_6r i35_7 fl_10_6 (zr_1_3 i35_8 (zr_8 i35_9 ar_67 (g0 h877) rfl (show S 67 x3.toNatClampNeg = (S 67 x3.toNatClampNeg) from rfl) (zr_1_1 i35_10 (zt_trans (zt_cast (zr_19_2 i35_11 (fun h878 => zt_rfl) (fun h879 => zr_2_0 i35_12 (zr_6r i35_13 fl_10_6 (zr_1_3 i35_14 (zr_8 i35_15 ar_67 (g0 h877) rfl (show S 67 x3.toNatClampNeg = (S 67 x3.toNatClampNeg) from rfl) (zr_1_2 i35_16 (zt_cast (zr_19_3 i35_17 (fun h880 => zt_rfl) (fun h881 => zr_2_0 i35_18 (zr_1_3 i35_19 (zr_cn (zs_21_1 i35_20 na_34 ob_10 rfl) (f34 x3 S (g0 h877)) (zt_rfl))))) (zm_c zz_s zz_s zz_e)))))))) (zm_c zz_s zz_s zz_e)) (zr_5_3 i35_21 kc_1 (zr_17 i35_22 (zt_rfl))))))))))))
set_option maxRecDepth 100000 in
theorem s35_23 {L : Nat} (x1 x2 x3 : Int32) (S : zS) : zt L 35 23 [some (.inr (.inr 10)), some (.inl x1), some (.inl x2), some (.inl x3)] [] S (.inr (.inl none, S, 0)) := zr_27 i35_23
def k35_2 (x1 x2 : Int32) (j : Nat) (a : zS) : zS := (if ((a 67 j) < x1) then a else (if (x2 ≤ (a 67 j)) then a else (z_up a 71 j 1)))
set_option maxRecDepth 100000 in
theorem l35_2 {L : Nat} (x1 x2 : Int32) (i0 n : Nat) (a : zS) (hn : i0 + n < 2147483648) (hc0 : ∀ j, j < n → ¬ (((zfold (k35_2 x1 x2 ) i0 j a) 10 4) ≤ (Int32.ofNat (i0 + j)))) (g0 : ∀ j, j < n → (¬ (((zfold (k35_2 x1 x2 ) i0 j a) 10 4) ≤ (Int32.ofNat (i0 + j)))) → zx 20 (Int32.ofNat (i0 + j))) : zt L 35 2 [some (.inr (.inr 10)), some (.inl x1), some (.inl x2), some (.inl (Int32.ofNat i0))] [] a (.inl (2, [some (.inr (.inr 10)), some (.inl x1), some (.inl x2), some (.inl (Int32.ofNat (i0 + n)))], [], (zfold (k35_2 x1 x2 ) i0 n a))) := by
  induction n with
  | zero => exact zt_rfl
  | succ n ih =>
    have e1 := zk_ix (i0 + n) (by omega)
    have e2 := zk_add (i0 + n)
    refine zt_trans (ih (by omega) (fun j hj => hc0 j (by omega)) (fun j hj => g0 j (by omega))) ?_
    refine zt_cast (s35_2 x1 x2 (Int32.ofNat (i0 + n)) (zfold (k35_2 x1 x2 ) i0 n a) (by have hg := g0 n (by omega); first | exact hg | (simp only [e1]; exact hg))) ?_
    rw [if_neg (show ¬ (((zfold (k35_2 x1 x2 ) i0 n a) 10 4) ≤ (Int32.ofNat (i0 + n))) from (by have hg := hc0 n (by omega); first | exact hg | (simp only [e1]; exact hg)))]
    simp only [zfold, k35_2, e1, e2, ← Nat.add_assoc]
-- 53 X5_endThoseAt: cut points [4, 32]
set_option maxRecDepth 100000 in
theorem s53_e {L : Nat} (a b c : Int32) (S : zS) : zt L 53 0 [some (.inr (.inr 6)), some (.inl a), some (.inl b), some (.inl c), none, none] [] S (.inl (4, [some (.inr (.inr 6)), some (.inl a), some (.inl b), some (.inl c), some (.inl 0), some (.inl 0)], [], S)) := zr_0 i53_0 kc_0 (zr_3_4 i53_1 (zr_0 i53_2 kc_0 (zr_3_5 i53_3 (zt_rfl))))
set_option maxRecDepth 100000 in
theorem s53_4 {L : Nat} (x1 x2 x3 x4 x5 : Int32) (S : zS) (g0 : (¬ ((S 6 0) ≤ x5)) → zx 40 x5) (g1 : (¬ ((S 6 0) ≤ x5)) → ((S 46 x5.toNatClampNeg) = 0) → (¬ ((S 42 x5.toNatClampNeg) < x1)) → (¬ (x2 ≤ (S 42 x5.toNatClampNeg))) → zx 3 (S 43 x5.toNatClampNeg)) : zt L 53 4 [some (.inr (.inr 6)), some (.inl x1), some (.inl x2), some (.inl x3), some (.inl x4), some (.inl x5)] [] S (if ((S 6 0) ≤ x5) then (.inl (32, [some (.inr (.inr 6)), some (.inl x1), some (.inl x2), some (.inl x3), some (.inl x4), some (.inl x5)], [], S)) else (.inl (4, [some (.inr (.inr 6)), some (.inl x1), some (.inl x2), some (.inl x3), some (.inl (if ((S 46 x5.toNatClampNeg) = 0) then ((if ((S 42 x5.toNatClampNeg) < x1) then (x4 : Int32) else (if (x2 ≤ (S 42 x5.toNatClampNeg)) then (x4 : Int32) else (x4 + 1))) : Int32) else x4)), some (.inl (x5 + 1))], [], (if ((S 46 x5.toNatClampNeg) = 0) then (if ((S 42 x5.toNatClampNeg) < x1) then S else (if (x2 ≤ (S 42 x5.toNatClampNeg)) then S else (G60 x5 (z_up S 44 x5.toNatClampNeg x3)))) else S)))) := zr_1_5 i53_4 (zr_2_0 i53_5 (zr_6 i53_6 fl_6_0 (show S 6 0 = (S 6 0) from rfl) (zr_19_3 i53_7 (fun h890 => zt_rfl) (fun h891 => zr_2_0 i53_8 (zr_6r i53_9 fl_6_6 (zr_1_5 i53_10 (zr_8 i53_11 ar_46 (g0 h891) rfl (show S 46 x5.toNatClampNeg = (S 46 x5.toNatClampNeg) from rfl) (zt_trans (zt_cast (zr_18_1 i53_12 (fun h892 => zr_2_0 i53_13 (zr_6r i53_14 fl_6_2 (zr_1_5 i53_15 (zr_8 i53_16 ar_42 (g0 h891) rfl (show S 42 x5.toNatClampNeg = (S 42 x5.toNatClampNeg) from rfl) (zr_1_1 i53_17 (zt_cast (zr_19_2 i53_18 (fun h894 => zt_rfl) (fun h895 => zr_2_0 i53_19 (zr_6r i53_20 fl_6_2 (zr_1_5 i53_21 (zr_8 i53_22 ar_42 (g0 h891) rfl (show S 42 x5.toNatClampNeg = (S 42 x5.toNatClampNeg) from rfl) (zr_1_2 i53_23 (zt_cast (zr_19_3 i53_24 (fun h896 => zt_rfl) (fun h897 => zr_2_0 i53_25 (zr_1_5 i53_26 (zr_1_3 i53_27 (zr_cn (zs_21_2 i53_28 na_59 ob_6 rfl) (f59 x5 x3 S (g0 h891) (g1 h891 h892 h895 h897)) (zr_5_4 i53_29 kc_1 (zt_rfl))))))) (zm_c (zl_c zz_s (zl_c zz_s (zl_c zz_s (zl_c zz_s (zl_c (zl_v zz_e) zz_s))))) zz_s zz_e)))))))) (zm_c (zl_c zz_s (zl_c zz_s (zl_c zz_s (zl_c zz_s (zl_c (zl_v zz_e) zz_s))))) zz_s zz_e))))))) (fun h893 => zt_rfl)) (zm_c (zl_c zz_s (zl_c zz_s (zl_c zz_s (zl_c zz_s (zl_c (zl_v zz_e) zz_s))))) zz_s zz_e)) (zr_5_5 i53_30 kc_1 (zr_17 i53_31 (zt_rfl)))))))))))
set_option maxRecDepth 100000 in
theorem s53_32 {L : Nat} (x1 x2 x3 x4 x5 : Int32) (S : zS) : zt L 53 32 [some (.inr (.inr 6)), some (.inl x1), some (.inl x2), some (.inl x3), some (.inl x4), some (.inl x5)] [] S (.inr (.inl (some (.inl x4)), S, 0)) := zr_1_4 i53_32 (zr_25 i53_33)
def k53_4 (x1 x2 x3 : Int32) (j : Nat) (a : Int32 × zS) : Int32 × zS := ((if ((a.2 46 j) = 0) then ((if ((a.2 42 j) < x1) then (a.1 : Int32) else (if (x2 ≤ (a.2 42 j)) then (a.1 : Int32) else (a.1 + 1))) : Int32) else a.1), (if ((a.2 46 j) = 0) then (if ((a.2 42 j) < x1) then a.2 else (if (x2 ≤ (a.2 42 j)) then a.2 else (G60 (Int32.ofNat j) (z_up a.2 44 j x3)))) else a.2))
set_option maxRecDepth 100000 in
theorem l53_4 {L : Nat} (x1 x2 x3 : Int32) (i0 n : Nat) (a : Int32 × zS) (hn : i0 + n < 2147483648) (hc0 : ∀ j, j < n → ¬ (((zfold (k53_4 x1 x2 x3 ) i0 j a).2 6 0) ≤ (Int32.ofNat (i0 + j)))) (g0 : ∀ j, j < n → (¬ (((zfold (k53_4 x1 x2 x3 ) i0 j a).2 6 0) ≤ (Int32.ofNat (i0 + j)))) → zx 40 (Int32.ofNat (i0 + j))) (g1 : ∀ j, j < n → (¬ (((zfold (k53_4 x1 x2 x3 ) i0 j a).2 6 0) ≤ (Int32.ofNat (i0 + j)))) → (((zfold (k53_4 x1 x2 x3 ) i0 j a).2 46 (i0 + j)) = 0) → (¬ (((zfold (k53_4 x1 x2 x3 ) i0 j a).2 42 (i0 + j)) < x1)) → (¬ (x2 ≤ ((zfold (k53_4 x1 x2 x3 ) i0 j a).2 42 (i0 + j)))) → zx 3 ((zfold (k53_4 x1 x2 x3 ) i0 j a).2 43 (i0 + j))) : zt L 53 4 [some (.inr (.inr 6)), some (.inl x1), some (.inl x2), some (.inl x3), some (.inl a.1), some (.inl (Int32.ofNat i0))] [] a.2 (.inl (4, [some (.inr (.inr 6)), some (.inl x1), some (.inl x2), some (.inl x3), some (.inl (zfold (k53_4 x1 x2 x3 ) i0 n a).1), some (.inl (Int32.ofNat (i0 + n)))], [], (zfold (k53_4 x1 x2 x3 ) i0 n a).2)) := by
  induction n with
  | zero => exact zt_rfl
  | succ n ih =>
    have e1 := zk_ix (i0 + n) (by omega)
    have e2 := zk_add (i0 + n)
    refine zt_trans (ih (by omega) (fun j hj => hc0 j (by omega)) (fun j hj => g0 j (by omega)) (fun j hj => g1 j (by omega))) ?_
    refine zt_cast (s53_4 x1 x2 x3 (zfold (k53_4 x1 x2 x3 ) i0 n a).1 (Int32.ofNat (i0 + n)) (zfold (k53_4 x1 x2 x3 ) i0 n a).2 (by have hg := g0 n (by omega); first | exact hg | (simp only [e1]; exact hg)) (by have hg := g1 n (by omega); first | exact hg | (simp only [e1]; exact hg))) ?_
    rw [if_neg (show ¬ (((zfold (k53_4 x1 x2 x3 ) i0 n a).2 6 0) ≤ (Int32.ofNat (i0 + n))) from (by have hg := hc0 n (by omega); first | exact hg | (simp only [e1]; exact hg)))]
    simp only [zfold, k53_4, e1, e2, ← Nat.add_assoc]
-- 54 X5_endThoseOfDead: cut points [2, 24]
set_option maxRecDepth 100000 in
theorem s54_6_5_e {L : Nat} (a : Int32) (S : zS) : zt L 54 0 [some (.inr (.inr 6)), some (.inr (.inr 5)), some (.inl a), none] [] S (.inl (2, [some (.inr (.inr 6)), some (.inr (.inr 5)), some (.inl a), some (.inl 0)], [], S)) := zr_0 i54_0 kc_0 (zr_3_3 i54_1 (zt_rfl))
set_option maxRecDepth 100000 in
theorem s54_6_5_2 {L : Nat} (x2 x3 : Int32) (S : zS) (g0 : (¬ ((S 6 0) ≤ x3)) → zx 40 x3) (g1 : (¬ ((S 6 0) ≤ x3)) → ((S 46 x3.toNatClampNeg) = 0) → zx 40 (S 41 x3.toNatClampNeg)) (g2 : (¬ ((S 6 0) ≤ x3)) → ((S 46 x3.toNatClampNeg) = 0) → (¬ ((S 40 (S 41 x3.toNatClampNeg).toNatClampNeg) = 0)) → zx 3 (S 43 x3.toNatClampNeg)) : zt L 54 2 [some (.inr (.inr 6)), some (.inr (.inr 5)), some (.inl x2), some (.inl x3)] [] S (if ((S 6 0) ≤ x3) then (.inl (24, [some (.inr (.inr 6)), some (.inr (.inr 5)), some (.inl x2), some (.inl x3)], [], S)) else (.inl (2, [some (.inr (.inr 6)), some (.inr (.inr 5)), some (.inl x2), some (.inl (x3 + 1))], [], (if ((S 46 x3.toNatClampNeg) = 0) then (if ((S 40 (S 41 x3.toNatClampNeg).toNatClampNeg) = 0) then S else (G60 x3 (z_up S 44 x3.toNatClampNeg x2))) else S)))) := zr_1_3 i54_2 (zr_2_0 i54_3 (zr_6 i54_4 fl_6_0 (show S 6 0 = (S 6 0) from rfl) (zr_19_3 i54_5 (fun h904 => zt_rfl) (fun h905 => zr_2_0 i54_6 (zr_6r i54_7 fl_6_6 (zr_1_3 i54_8 (zr_8 i54_9 ar_46 (g0 h905) rfl (show S 46 x3.toNatClampNeg = (S 46 x3.toNatClampNeg) from rfl) (zt_trans (zt_cast (zr_18_1 i54_10 (fun h906 => zr_2_1 i54_11 (zr_2_0 i54_12 (zr_6r i54_13 fl_6_1 (zr_1_3 i54_14 (zr_8 i54_15 ar_41 (g0 h905) rfl (show S 41 x3.toNatClampNeg = (S 41 x3.toNatClampNeg) from rfl) (zr_cv (zs_21_1 i54_16 na_116 ob_5 rfl) (f116 (S 41 x3.toNatClampNeg) S (g1 h905 h906)) (zt_cast (zr_18b_1 i54_17 (fun h908 => zt_rfl) (fun h909 => zr_2_0 i54_18 (zr_1_3 i54_19 (zr_1_2 i54_20 (zr_cn (zs_21_2 i54_21 na_59 ob_6 rfl) (f59 x3 x2 S (g0 h905) (g2 h905 h906 h909)) (zt_rfl)))))) (zm_c zz_s zz_s zz_e)))))))) (fun h907 => zt_rfl)) (zm_c zz_s zz_s zz_e)) (zr_5_3 i54_22 kc_1 (zr_17 i54_23 (zt_rfl)))))))))))
set_option maxRecDepth 100000 in
theorem s54_6_5_24 {L : Nat} (x2 x3 : Int32) (S : zS) : zt L 54 24 [some (.inr (.inr 6)), some (.inr (.inr 5)), some (.inl x2), some (.inl x3)] [] S (.inr (.inl none, S, 0)) := zr_27 i54_24
def k54_6_5_2 (x2 : Int32) (j : Nat) (a : zS) : zS := (if ((a 46 j) = 0) then (if ((a 40 (a 41 j).toNatClampNeg) = 0) then a else (G60 (Int32.ofNat j) (z_up a 44 j x2))) else a)
set_option maxRecDepth 100000 in
theorem l54_6_5_2 {L : Nat} (x2 : Int32) (i0 n : Nat) (a : zS) (hn : i0 + n < 2147483648) (hc0 : ∀ j, j < n → ¬ (((zfold (k54_6_5_2 x2 ) i0 j a) 6 0) ≤ (Int32.ofNat (i0 + j)))) (g0 : ∀ j, j < n → (¬ (((zfold (k54_6_5_2 x2 ) i0 j a) 6 0) ≤ (Int32.ofNat (i0 + j)))) → zx 40 (Int32.ofNat (i0 + j))) (g1 : ∀ j, j < n → (¬ (((zfold (k54_6_5_2 x2 ) i0 j a) 6 0) ≤ (Int32.ofNat (i0 + j)))) → (((zfold (k54_6_5_2 x2 ) i0 j a) 46 (i0 + j)) = 0) → zx 40 ((zfold (k54_6_5_2 x2 ) i0 j a) 41 (i0 + j))) (g2 : ∀ j, j < n → (¬ (((zfold (k54_6_5_2 x2 ) i0 j a) 6 0) ≤ (Int32.ofNat (i0 + j)))) → (((zfold (k54_6_5_2 x2 ) i0 j a) 46 (i0 + j)) = 0) → (¬ (((zfold (k54_6_5_2 x2 ) i0 j a) 40 ((zfold (k54_6_5_2 x2 ) i0 j a) 41 (i0 + j)).toNatClampNeg) = 0)) → zx 3 ((zfold (k54_6_5_2 x2 ) i0 j a) 43 (i0 + j))) : zt L 54 2 [some (.inr (.inr 6)), some (.inr (.inr 5)), some (.inl x2), some (.inl (Int32.ofNat i0))] [] a (.inl (2, [some (.inr (.inr 6)), some (.inr (.inr 5)), some (.inl x2), some (.inl (Int32.ofNat (i0 + n)))], [], (zfold (k54_6_5_2 x2 ) i0 n a))) := by
  induction n with
  | zero => exact zt_rfl
  | succ n ih =>
    have e1 := zk_ix (i0 + n) (by omega)
    have e2 := zk_add (i0 + n)
    refine zt_trans (ih (by omega) (fun j hj => hc0 j (by omega)) (fun j hj => g0 j (by omega)) (fun j hj => g1 j (by omega)) (fun j hj => g2 j (by omega))) ?_
    refine zt_cast (s54_6_5_2 x2 (Int32.ofNat (i0 + n)) (zfold (k54_6_5_2 x2 ) i0 n a) (by have hg := g0 n (by omega); first | exact hg | (simp only [e1]; exact hg)) (by have hg := g1 n (by omega); first | exact hg | (simp only [e1]; exact hg)) (by have hg := g2 n (by omega); first | exact hg | (simp only [e1]; exact hg))) ?_
    rw [if_neg (show ¬ (((zfold (k54_6_5_2 x2 ) i0 n a) 6 0) ≤ (Int32.ofNat (i0 + n))) from (by have hg := hc0 n (by omega); first | exact hg | (simp only [e1]; exact hg)))]
    simp only [zfold, k54_6_5_2, e1, e2, ← Nat.add_assoc]
-- 55 X5_endThoseDue: cut points [2, 23]
set_option maxRecDepth 100000 in
theorem s55_e {L : Nat} (a : Int32) (S : zS) : zt L 55 0 [some (.inr (.inr 6)), some (.inl a), none] [] S (.inl (2, [some (.inr (.inr 6)), some (.inl a), some (.inl 0)], [], S)) := zr_0 i55_0 kc_0 (zr_3_2 i55_1 (zt_rfl))
set_option maxRecDepth 100000 in
theorem s55_2 {L : Nat} (x1 x2 : Int32) (S : zS) (g0 : (¬ ((S 6 0) ≤ x2)) → zx 40 x2) (g1 : (¬ ((S 6 0) ≤ x2)) → ((S 46 x2.toNatClampNeg) = 0) → ((S 44 x2.toNatClampNeg) = x1) → zx 3 (S 43 x2.toNatClampNeg)) : zt L 55 2 [some (.inr (.inr 6)), some (.inl x1), some (.inl x2)] [] S (if ((S 6 0) ≤ x2) then (.inl (23, [some (.inr (.inr 6)), some (.inl x1), some (.inl x2)], [], S)) else (.inl (2, [some (.inr (.inr 6)), some (.inl x1), some (.inl (x2 + 1))], [], (if ((S 46 x2.toNatClampNeg) = 0) then (if ((S 44 x2.toNatClampNeg) = x1) then (G60 x2 (z_up S 44 x2.toNatClampNeg x1)) else S) else S)))) := zr_1_2 i55_2 (zr_2_0 i55_3 (zr_6 i55_4 fl_6_0 (show S 6 0 = (S 6 0) from rfl) (zr_19_3 i55_5 (fun h916 => zt_rfl) (fun h917 => zr_2_0 i55_6 (zr_6r i55_7 fl_6_6 (zr_1_2 i55_8 (zr_8 i55_9 ar_46 (g0 h917) rfl (show S 46 x2.toNatClampNeg = (S 46 x2.toNatClampNeg) from rfl) (zt_trans (zt_cast (zr_18_1 i55_10 (fun h918 => zr_2_0 i55_11 (zr_6r i55_12 fl_6_4 (zr_1_2 i55_13 (zr_8 i55_14 ar_44 (g0 h917) rfl (show S 44 x2.toNatClampNeg = (S 44 x2.toNatClampNeg) from rfl) (zr_1_1 i55_15 (zt_cast (zr_19_1 i55_16 (fun h920 => zr_2_0 i55_17 (zr_1_2 i55_18 (zr_1_1 i55_19 (zr_cn (zs_21_2 i55_20 na_59 ob_6 rfl) (f59 x2 x1 S (g0 h917) (g1 h917 h918 h920)) (zt_rfl))))) (fun h921 => zt_rfl)) (zm_c zz_s zz_s zz_e))))))) (fun h919 => zt_rfl)) (zm_c zz_s zz_s zz_e)) (zr_5_2 i55_21 kc_1 (zr_17 i55_22 (zt_rfl)))))))))))
set_option maxRecDepth 100000 in
theorem s55_23 {L : Nat} (x1 x2 : Int32) (S : zS) : zt L 55 23 [some (.inr (.inr 6)), some (.inl x1), some (.inl x2)] [] S (.inr (.inl none, S, 0)) := zr_27 i55_23
def k55_2 (x1 : Int32) (j : Nat) (a : zS) : zS := (if ((a 46 j) = 0) then (if ((a 44 j) = x1) then (G60 (Int32.ofNat j) (z_up a 44 j x1)) else a) else a)
set_option maxRecDepth 100000 in
theorem l55_2 {L : Nat} (x1 : Int32) (i0 n : Nat) (a : zS) (hn : i0 + n < 2147483648) (hc0 : ∀ j, j < n → ¬ (((zfold (k55_2 x1 ) i0 j a) 6 0) ≤ (Int32.ofNat (i0 + j)))) (g0 : ∀ j, j < n → (¬ (((zfold (k55_2 x1 ) i0 j a) 6 0) ≤ (Int32.ofNat (i0 + j)))) → zx 40 (Int32.ofNat (i0 + j))) (g1 : ∀ j, j < n → (¬ (((zfold (k55_2 x1 ) i0 j a) 6 0) ≤ (Int32.ofNat (i0 + j)))) → (((zfold (k55_2 x1 ) i0 j a) 46 (i0 + j)) = 0) → (((zfold (k55_2 x1 ) i0 j a) 44 (i0 + j)) = x1) → zx 3 ((zfold (k55_2 x1 ) i0 j a) 43 (i0 + j))) : zt L 55 2 [some (.inr (.inr 6)), some (.inl x1), some (.inl (Int32.ofNat i0))] [] a (.inl (2, [some (.inr (.inr 6)), some (.inl x1), some (.inl (Int32.ofNat (i0 + n)))], [], (zfold (k55_2 x1 ) i0 n a))) := by
  induction n with
  | zero => exact zt_rfl
  | succ n ih =>
    have e1 := zk_ix (i0 + n) (by omega)
    have e2 := zk_add (i0 + n)
    refine zt_trans (ih (by omega) (fun j hj => hc0 j (by omega)) (fun j hj => g0 j (by omega)) (fun j hj => g1 j (by omega))) ?_
    refine zt_cast (s55_2 x1 (Int32.ofNat (i0 + n)) (zfold (k55_2 x1 ) i0 n a) (by have hg := g0 n (by omega); first | exact hg | (simp only [e1]; exact hg)) (by have hg := g1 n (by omega); first | exact hg | (simp only [e1]; exact hg))) ?_
    rw [if_neg (show ¬ (((zfold (k55_2 x1 ) i0 n a) 6 0) ≤ (Int32.ofNat (i0 + n))) from (by have hg := hc0 n (by omega); first | exact hg | (simp only [e1]; exact hg)))]
    simp only [zfold, k55_2, e1, e2, ← Nat.add_assoc]
-- 56 X5_tryAgain: cut points [2, 23]
set_option maxRecDepth 100000 in
theorem s56_e {L : Nat} (a : Int32) (S : zS) : zt L 56 0 [some (.inr (.inr 6)), some (.inl a), none] [] S (.inl (2, [some (.inr (.inr 6)), some (.inl a), some (.inl 0)], [], S)) := zr_0 i56_0 kc_0 (zr_3_2 i56_1 (zt_rfl))
set_option maxRecDepth 100000 in
theorem s56_2 {L : Nat} (x1 x2 : Int32) (S : zS) (g0 : (¬ ((S 6 0) ≤ x2)) → zx 40 x2) (g1 : (¬ ((S 6 0) ≤ x2)) → ((S 46 x2.toNatClampNeg) = 1) → (¬ (x1 ≤ (S 44 x2.toNatClampNeg))) → zx 3 (S 43 x2.toNatClampNeg)) : zt L 56 2 [some (.inr (.inr 6)), some (.inl x1), some (.inl x2)] [] S (if ((S 6 0) ≤ x2) then (.inl (23, [some (.inr (.inr 6)), some (.inl x1), some (.inl x2)], [], S)) else (.inl (2, [some (.inr (.inr 6)), some (.inl x1), some (.inl (x2 + 1))], [], (if ((S 46 x2.toNatClampNeg) = 1) then (if (x1 ≤ (S 44 x2.toNatClampNeg)) then S else (G60 x2 S)) else S)))) := zr_1_2 i56_2 (zr_2_0 i56_3 (zr_6 i56_4 fl_6_0 (show S 6 0 = (S 6 0) from rfl) (zr_19_3 i56_5 (fun h928 => zt_rfl) (fun h929 => zr_2_0 i56_6 (zr_6r i56_7 fl_6_6 (zr_1_2 i56_8 (zr_8 i56_9 ar_46 (g0 h929) rfl (show S 46 x2.toNatClampNeg = (S 46 x2.toNatClampNeg) from rfl) (zr_0 i56_10 kc_1 (zt_trans (zt_cast (zr_19_1 i56_11 (fun h930 => zr_2_0 i56_12 (zr_6r i56_13 fl_6_4 (zr_1_2 i56_14 (zr_8 i56_15 ar_44 (g0 h929) rfl (show S 44 x2.toNatClampNeg = (S 44 x2.toNatClampNeg) from rfl) (zr_1_1 i56_16 (zt_cast (zr_19_3 i56_17 (fun h932 => zt_rfl) (fun h933 => zr_2_0 i56_18 (zr_1_2 i56_19 (zr_cn (zs_21_1 i56_20 na_60 ob_6 rfl) (f60 x2 S (g0 h929) (g1 h929 h930 h933)) (zt_rfl))))) (zm_c zz_s zz_s zz_e))))))) (fun h931 => zt_rfl)) (zm_c zz_s zz_s zz_e)) (zr_5_2 i56_21 kc_1 (zr_17 i56_22 (zt_rfl))))))))))))
set_option maxRecDepth 100000 in
theorem s56_23 {L : Nat} (x1 x2 : Int32) (S : zS) : zt L 56 23 [some (.inr (.inr 6)), some (.inl x1), some (.inl x2)] [] S (.inr (.inl none, S, 0)) := zr_27 i56_23
def k56_2 (x1 : Int32) (j : Nat) (a : zS) : zS := (if ((a 46 j) = 1) then (if (x1 ≤ (a 44 j)) then a else (G60 (Int32.ofNat j) a)) else a)
set_option maxRecDepth 100000 in
theorem l56_2 {L : Nat} (x1 : Int32) (i0 n : Nat) (a : zS) (hn : i0 + n < 2147483648) (hc0 : ∀ j, j < n → ¬ (((zfold (k56_2 x1 ) i0 j a) 6 0) ≤ (Int32.ofNat (i0 + j)))) (g0 : ∀ j, j < n → (¬ (((zfold (k56_2 x1 ) i0 j a) 6 0) ≤ (Int32.ofNat (i0 + j)))) → zx 40 (Int32.ofNat (i0 + j))) (g1 : ∀ j, j < n → (¬ (((zfold (k56_2 x1 ) i0 j a) 6 0) ≤ (Int32.ofNat (i0 + j)))) → (((zfold (k56_2 x1 ) i0 j a) 46 (i0 + j)) = 1) → (¬ (x1 ≤ ((zfold (k56_2 x1 ) i0 j a) 44 (i0 + j)))) → zx 3 ((zfold (k56_2 x1 ) i0 j a) 43 (i0 + j))) : zt L 56 2 [some (.inr (.inr 6)), some (.inl x1), some (.inl (Int32.ofNat i0))] [] a (.inl (2, [some (.inr (.inr 6)), some (.inl x1), some (.inl (Int32.ofNat (i0 + n)))], [], (zfold (k56_2 x1 ) i0 n a))) := by
  induction n with
  | zero => exact zt_rfl
  | succ n ih =>
    have e1 := zk_ix (i0 + n) (by omega)
    have e2 := zk_add (i0 + n)
    refine zt_trans (ih (by omega) (fun j hj => hc0 j (by omega)) (fun j hj => g0 j (by omega)) (fun j hj => g1 j (by omega))) ?_
    refine zt_cast (s56_2 x1 (Int32.ofNat (i0 + n)) (zfold (k56_2 x1 ) i0 n a) (by have hg := g0 n (by omega); first | exact hg | (simp only [e1]; exact hg)) (by have hg := g1 n (by omega); first | exact hg | (simp only [e1]; exact hg))) ?_
    rw [if_neg (show ¬ (((zfold (k56_2 x1 ) i0 n a) 6 0) ≤ (Int32.ofNat (i0 + n))) from (by have hg := hc0 n (by omega); first | exact hg | (simp only [e1]; exact hg)))]
    simp only [zfold, k56_2, e1, e2, ← Nat.add_assoc]
-- 57 X5_rollBack: cut points [2, 28]
set_option maxRecDepth 100000 in
theorem s57_e {L : Nat} (S : zS) : zt L 57 0 [some (.inr (.inr 6)), none] [] S (.inl (2, [some (.inr (.inr 6)), some (.inl 0)], [], S)) := zr_0 i57_0 kc_0 (zr_3_1 i57_1 (zt_rfl))
set_option maxRecDepth 100000 in
theorem s57_2 {L : Nat} (x1 : Int32) (S : zS) (g0 : (¬ (3 ≤ x1)) → zx 3 x1) : zt L 57 2 [some (.inr (.inr 6)), some (.inl x1)] [] S (if (3 ≤ x1) then (.inl (28, [some (.inr (.inr 6)), some (.inl x1)], [], S)) else (.inl (2, [some (.inr (.inr 6)), some (.inl (x1 + 1))], [], (if ((S 48 x1.toNatClampNeg) = 0) then (z_up (z_up S 49 x1.toNatClampNeg ((S 49 x1.toNatClampNeg) - (S 50 x1.toNatClampNeg))) 50 x1.toNatClampNeg 0) else S)))) := zr_1_1 i57_2 (zr_0 i57_3 kc_3 (zr_19_3 i57_4 (fun h938 => zt_rfl) (fun h939 => zr_2_0 i57_5 (zr_6r i57_6 fl_6_8 (zr_1_1 i57_7 (zr_8 i57_8 ar_48 (g0 h939) rfl (show S 48 x1.toNatClampNeg = (S 48 x1.toNatClampNeg) from rfl) (zt_trans (zt_cast (zr_18_1 i57_9 (fun h940 => zr_2_0 i57_10 (zr_6r i57_11 fl_6_9 (zr_1_1 i57_12 (zr_15 i57_13 (zr_8 i57_14 ar_49 (g0 h939) rfl (show S 49 x1.toNatClampNeg = (S 49 x1.toNatClampNeg) from rfl) (zr_2_0 i57_15 (zr_6r i57_16 fl_6_10 (zr_1_1 i57_17 (zr_8 i57_18 ar_50 (g0 h939) rfl (show S 50 x1.toNatClampNeg = (S 50 x1.toNatClampNeg) from rfl) (zr_13_1 i57_19 (zr_10 i57_20 ar_49 (g0 h939) rfl (zr_2_0 i57_21 (zr_6r i57_22 fl_6_10 (zr_1_1 i57_23 (zr_0 i57_24 kc_0 (zr_10 i57_25 ar_50 (g0 h939) rfl (zt_rfl))))))))))))))))) (fun h941 => zt_rfl)) (zm_c zz_s zz_s zz_e)) (zr_5_1 i57_26 kc_1 (zr_17 i57_27 (zt_rfl))))))))))
set_option maxRecDepth 100000 in
theorem s57_28 {L : Nat} (x1 : Int32) (S : zS) : zt L 57 28 [some (.inr (.inr 6)), some (.inl x1)] [] S (.inr (.inl none, S, 0)) := zr_27 i57_28
def k57_2 (j : Nat) (a : zS) : zS := (if ((a 48 j) = 0) then (z_up (z_up a 49 j ((a 49 j) - (a 50 j))) 50 j 0) else a)
set_option maxRecDepth 100000 in
theorem l57_2 {L : Nat} (i0 n : Nat) (a : zS) (hn : i0 + n < 2147483648) (hc0 : ∀ j, j < n → ¬ (3 ≤ (Int32.ofNat (i0 + j)))) (g0 : ∀ j, j < n → (¬ (3 ≤ (Int32.ofNat (i0 + j)))) → zx 3 (Int32.ofNat (i0 + j))) : zt L 57 2 [some (.inr (.inr 6)), some (.inl (Int32.ofNat i0))] [] a (.inl (2, [some (.inr (.inr 6)), some (.inl (Int32.ofNat (i0 + n)))], [], (zfold (k57_2 ) i0 n a))) := by
  induction n with
  | zero => exact zt_rfl
  | succ n ih =>
    have e1 := zk_ix (i0 + n) (by omega)
    have e2 := zk_add (i0 + n)
    refine zt_trans (ih (by omega) (fun j hj => hc0 j (by omega)) (fun j hj => g0 j (by omega))) ?_
    refine zt_cast (s57_2 (Int32.ofNat (i0 + n)) (zfold (k57_2 ) i0 n a) (by have hg := g0 n (by omega); first | exact hg | (simp only [e1]; exact hg))) ?_
    rw [if_neg (show ¬ (3 ≤ (Int32.ofNat (i0 + n))) from (by have hg := hc0 n (by omega); first | exact hg | (simp only [e1]; exact hg)))]
    simp only [zfold, k57_2, e1, e2, ← Nat.add_assoc]
-- 58 X5_countAnew: cut points [7, 26]
set_option maxRecDepth 100000 in
theorem s58_e {L : Nat} (a : Int32) (S : zS) (g0 : zx 3 a) : zt L 58 0 [some (.inr (.inr 6)), some (.inl a), none, none] [] S (.inl (7, [some (.inr (.inr 6)), some (.inl a), some (.inl (S 50 a.toNatClampNeg)), some (.inl 0)], [], S)) := zr_2_0 i58_0 (zr_6r i58_1 fl_6_10 (zr_1_1 i58_2 (zr_8 i58_3 ar_50 (g0) rfl (show S 50 a.toNatClampNeg = (S 50 a.toNatClampNeg) from rfl) (zr_3_2 i58_4 (zr_0 i58_5 kc_0 (zr_3_3 i58_6 (zt_rfl)))))))
set_option maxRecDepth 100000 in
theorem s58_7 {L : Nat} (x1 x2 x3 : Int32) (S : zS) (g0 : (¬ ((S 6 0) ≤ x3)) → zx 40 x3) : zt L 58 7 [some (.inr (.inr 6)), some (.inl x1), some (.inl x2), some (.inl x3)] [] S (if ((S 6 0) ≤ x3) then (.inl (26, [some (.inr (.inr 6)), some (.inl x1), some (.inl x2), some (.inl x3)], [], S)) else (.inl (7, [some (.inr (.inr 6)), some (.inl x1), some (.inl (if ((S 43 x3.toNatClampNeg) = x1) then ((if ((S 46 x3.toNatClampNeg) = 2) then (x2 : Int32) else (x2 + 1)) : Int32) else x2)), some (.inl (x3 + 1))], [], S))) := zr_1_3 i58_7 (zr_2_0 i58_8 (zr_6 i58_9 fl_6_0 (show S 6 0 = (S 6 0) from rfl) (zr_19_3 i58_10 (fun h948 => zt_rfl) (fun h949 => zr_2_0 i58_11 (zr_6r i58_12 fl_6_3 (zr_1_3 i58_13 (zr_8 i58_14 ar_43 (g0 h949) rfl (show S 43 x3.toNatClampNeg = (S 43 x3.toNatClampNeg) from rfl) (zr_1_1 i58_15 (zt_trans (zt_cast (zr_19_1 i58_16 (fun h950 => zr_2_0 i58_17 (zr_6r i58_18 fl_6_6 (zr_1_3 i58_19 (zr_8 i58_20 ar_46 (g0 h949) rfl (show S 46 x3.toNatClampNeg = (S 46 x3.toNatClampNeg) from rfl) (zr_0 i58_21 kc_2 (zt_cast (zr_19_0 i58_22 (fun h952 => zt_rfl) (fun h953 => zr_5_2 i58_23 kc_1 (zt_rfl))) (zm_c (zl_c zz_s (zl_c zz_s (zl_c (zl_v zz_e) zz_s))) zz_s zz_s))))))) (fun h951 => zt_rfl)) (zm_c (zl_c zz_s (zl_c zz_s (zl_c (zl_v zz_e) zz_s))) zz_s zz_s)) (zr_5_3 i58_24 kc_1 (zr_17 i58_25 (zt_rfl))))))))))))
set_option maxRecDepth 100000 in
theorem s58_26 {L : Nat} (x1 x2 x3 : Int32) (S : zS) : zt L 58 26 [some (.inr (.inr 6)), some (.inl x1), some (.inl x2), some (.inl x3)] [] S (.inr (.inl (some (.inl x2)), S, 0)) := zr_1_2 i58_26 (zr_25 i58_27)
def k58_7 (x1 : Int32) (S : zS) (j : Nat) (a : Int32) : Int32 := (if ((S 43 j) = x1) then ((if ((S 46 j) = 2) then (a : Int32) else (a + 1)) : Int32) else a)
set_option maxRecDepth 100000 in
theorem l58_7 {L : Nat} (x1 : Int32) (S : zS) (i0 n : Nat) (a : Int32) (hn : i0 + n < 2147483648) (hc0 : ∀ j, j < n → ¬ ((S 6 0) ≤ (Int32.ofNat (i0 + j)))) (g0 : ∀ j, j < n → (¬ ((S 6 0) ≤ (Int32.ofNat (i0 + j)))) → zx 40 (Int32.ofNat (i0 + j))) : zt L 58 7 [some (.inr (.inr 6)), some (.inl x1), some (.inl a), some (.inl (Int32.ofNat i0))] [] S (.inl (7, [some (.inr (.inr 6)), some (.inl x1), some (.inl (zfold (k58_7 x1 S) i0 n a)), some (.inl (Int32.ofNat (i0 + n)))], [], S)) := by
  induction n with
  | zero => exact zt_rfl
  | succ n ih =>
    have e1 := zk_ix (i0 + n) (by omega)
    have e2 := zk_add (i0 + n)
    refine zt_trans (ih (by omega) (fun j hj => hc0 j (by omega)) (fun j hj => g0 j (by omega))) ?_
    refine zt_cast (s58_7 x1 (zfold (k58_7 x1 S) i0 n a) (Int32.ofNat (i0 + n)) S (by have hg := g0 n (by omega); first | exact hg | (simp only [e1]; exact hg))) ?_
    rw [if_neg (show ¬ ((S 6 0) ≤ (Int32.ofNat (i0 + n))) from (by have hg := hc0 n (by omega); first | exact hg | (simp only [e1]; exact hg)))]
    simp only [zfold, k58_7, e1, e2, ← Nat.add_assoc]
-- 79 X6_groupsOf: cut points [4, 9, 37, 39]
set_option maxRecDepth 100000 in
theorem s79_e {L : Nat} (a : Int32) (S : zS) : zt L 79 0 [some (.inr (.inr 4)), some (.inl a), none, none, none] [] S (.inl (4, [some (.inr (.inr 4)), some (.inl a), some (.inl 0), some (.inl 0), none], [], S)) := zr_0 i79_0 kc_0 (zr_3_2 i79_1 (zr_0 i79_2 kc_0 (zr_3_3 i79_3 (zt_rfl))))
set_option maxRecDepth 100000 in
theorem s79_4 {L : Nat} (x1 x2 x3 : Int32) (u4 : Option zV) (S : zS) : zt L 79 4 [some (.inr (.inr 4)), some (.inl x1), some (.inl x2), some (.inl x3), u4] [] S (if (4 ≤ x3) then (.inl (39, [some (.inr (.inr 4)), some (.inl x1), some (.inl x2), some (.inl x3), u4], [], S)) else (.inl (9, [some (.inr (.inr 4)), some (.inl x1), some (.inl x2), some (.inl x3), some (.inl 0)], [], S))) := zr_1_3 i79_4 (zr_0 i79_5 kc_4 (zr_19_3 i79_6 (fun h964 => zt_rfl) (fun h965 => zr_0 i79_7 kc_0 (zr_3_4 i79_8 (zt_rfl)))))
set_option maxRecDepth 100000 in
theorem s79_9 {L : Nat} (x1 x2 x3 x4 : Int32) (S : zS) (g0 : (¬ (4 ≤ x4)) → zx 4 x4) : zt L 79 9 [some (.inr (.inr 4)), some (.inl x1), some (.inl x2), some (.inl x3), some (.inl x4)] [] S (if (4 ≤ x4) then (.inl (37, [some (.inr (.inr 4)), some (.inl x1), some (.inl x2), some (.inl x3), some (.inl x4)], [], S)) else (.inl (9, [some (.inr (.inr 4)), some (.inl x1), some (.inl (if (((zshr (S 28 x4.toNatClampNeg) x1) &&& 1) = 1) then ((x2 ||| (zshl 1 x4)) : Int32) else (if (((S 29 x4.toNatClampNeg) &&& x2) = 0) then (x2 : Int32) else (x2 ||| (zshl 1 x4))))), some (.inl x3), some (.inl (x4 + 1))], [], S))) := zr_1_4 i79_9 (zr_0 i79_10 kc_4 (zr_19_3 i79_11 (fun h966 => zt_rfl) (fun h967 => zr_2_0 i79_12 (zr_6r i79_13 fl_4_8 (zr_1_4 i79_14 (zr_8 i79_15 ar_28 (g0 h967) rfl (show S 28 x4.toNatClampNeg = (S 28 x4.toNatClampNeg) from rfl) (zr_1_1 i79_16 (zr_13_9 i79_17 (zr_0 i79_18 kc_1 (zr_13_5 i79_19 (zr_0 i79_20 kc_1 (zt_trans (zt_cast (zr_19_0 i79_21 (fun h968 => zr_1_2 i79_29 (zr_0 i79_30 kc_1 (zr_1_4 i79_31 (zr_13_8 i79_32 (zr_13_6 i79_33 (zr_3_2 i79_34 (zt_rfl))))))) (fun h969 => zr_2_0 i79_22 (zr_6r i79_23 fl_4_9 (zr_1_4 i79_24 (zr_8 i79_25 ar_29 (g0 h967) rfl (show S 29 x4.toNatClampNeg = (S 29 x4.toNatClampNeg) from rfl) (zr_1_2 i79_26 (zr_13_5 i79_27 (zt_cast (zr_18_0 i79_28 (fun h970 => zt_rfl) (fun h971 => zr_1_2 i79_29 (zr_0 i79_30 kc_1 (zr_1_4 i79_31 (zr_13_8 i79_32 (zr_13_6 i79_33 (zr_3_2 i79_34 (zt_rfl)))))))) (zm_c (zl_c zz_s (zl_c zz_s (zl_c (zl_v zz_e) zz_s))) zz_s zz_s))))))))) (zm_c (zl_c zz_s (zl_c zz_s (zl_c (zl_v zz_e) zz_s))) zz_s zz_s)) (zr_5_4 i79_35 kc_1 (zr_17 i79_36 (zt_rfl)))))))))))))))
set_option maxRecDepth 100000 in
theorem s79_37 {L : Nat} (x1 x2 x3 x4 : Int32) (S : zS) : zt L 79 37 [some (.inr (.inr 4)), some (.inl x1), some (.inl x2), some (.inl x3), some (.inl x4)] [] S (.inl (4, [some (.inr (.inr 4)), some (.inl x1), some (.inl x2), some (.inl (x3 + 1)), some (.inl x4)], [], S)) := zr_5_3 i79_37 kc_1 (zr_17 i79_38 (zt_rfl))
set_option maxRecDepth 100000 in
theorem s79_39 {L : Nat} (x1 x2 x3 : Int32) (u4 : Option zV) (S : zS) : zt L 79 39 [some (.inr (.inr 4)), some (.inl x1), some (.inl x2), some (.inl x3), u4] [] S (.inr (.inl (some (.inl x2)), S, 0)) := zr_1_2 i79_39 (zr_25 i79_40)
def k79_9 (x1 x3 : Int32) (S : zS) (j : Nat) (a : Int32) : Int32 := (if (((zshr (S 28 j) x1) &&& 1) = 1) then ((a ||| (zshl 1 (Int32.ofNat j))) : Int32) else (if (((S 29 j) &&& a) = 0) then (a : Int32) else (a ||| (zshl 1 (Int32.ofNat j)))))
set_option maxRecDepth 100000 in
theorem l79_9 {L : Nat} (x1 x3 : Int32) (S : zS) (i0 n : Nat) (a : Int32) (hn : i0 + n < 2147483648) (hc0 : ∀ j, j < n → ¬ (4 ≤ (Int32.ofNat (i0 + j)))) (g0 : ∀ j, j < n → (¬ (4 ≤ (Int32.ofNat (i0 + j)))) → zx 4 (Int32.ofNat (i0 + j))) : zt L 79 9 [some (.inr (.inr 4)), some (.inl x1), some (.inl a), some (.inl x3), some (.inl (Int32.ofNat i0))] [] S (.inl (9, [some (.inr (.inr 4)), some (.inl x1), some (.inl (zfold (k79_9 x1 x3 S) i0 n a)), some (.inl x3), some (.inl (Int32.ofNat (i0 + n)))], [], S)) := by
  induction n with
  | zero => exact zt_rfl
  | succ n ih =>
    have e1 := zk_ix (i0 + n) (by omega)
    have e2 := zk_add (i0 + n)
    refine zt_trans (ih (by omega) (fun j hj => hc0 j (by omega)) (fun j hj => g0 j (by omega))) ?_
    refine zt_cast (s79_9 x1 (zfold (k79_9 x1 x3 S) i0 n a) x3 (Int32.ofNat (i0 + n)) S (by have hg := g0 n (by omega); first | exact hg | (simp only [e1]; exact hg))) ?_
    rw [if_neg (show ¬ (4 ≤ (Int32.ofNat (i0 + n))) from (by have hg := hc0 n (by omega); first | exact hg | (simp only [e1]; exact hg)))]
    simp only [zfold, k79_9, e1, e2, ← Nat.add_assoc]
-- 66 X6_vaguenessAt: cut points [6, 49]
set_option maxRecDepth 100000 in
theorem s66_e {L : Nat} (a b c : Int32) (S : zS) : zt L 66 0 [some (.inr (.inr 4)), some (.inl a), some (.inl b), some (.inl c), none, none, none, none, none] [] S (.inl (6, [some (.inr (.inr 4)), some (.inl a), some (.inl b), some (.inl c), some (.inl 0), some (.inl 0), some (.inl 0), none, none], [], S)) := zr_0 i66_0 kc_0 (zr_3_4 i66_1 (zr_0 i66_2 kc_0 (zr_3_5 i66_3 (zr_0 i66_4 kc_0 (zr_3_6 i66_5 (zt_rfl))))))
set_option maxRecDepth 100000 in
theorem s66_6 {L : Nat} (x1 x2 x3 x4 x5 x6 : Int32) (u7 u8 : Option zV) (S : zS) (g0 : (¬ (3 ≤ x6)) → (x5 = 0) → zx 120 ((x1 * 3) + x6)) : zt L 66 6 [some (.inr (.inr 4)), some (.inl x1), some (.inl x2), some (.inl x3), some (.inl x4), some (.inl x5), some (.inl x6), u7, u8] [] S (if (3 ≤ x6) then (.inl (49, [some (.inr (.inr 4)), some (.inl x1), some (.inl x2), some (.inl x3), some (.inl x4), some (.inl x5), some (.inl x6), u7, u8], [], S)) else (if ((F67 (if (x5 = 0) then ((S 21 ((x1 * 3) + x6).toNatClampNeg) : Int32) else 8) x2 (if (x6 = 0) then ((x3 / 36) : Int32) else (if (x6 = 1) then ((zrem (x3 / 6) 6) : Int32) else (zrem x3 6))) S) = 4) then (.inr (.inl (some (.inl 64)), S, 0)) else (.inl (6, [some (.inr (.inr 4)), some (.inl x1), some (.inl x2), some (.inl x3), some (.inl ((x4 * 4) + (F67 (if (x5 = 0) then ((S 21 ((x1 * 3) + x6).toNatClampNeg) : Int32) else 8) x2 (if (x6 = 0) then ((x3 / 36) : Int32) else (if (x6 = 1) then ((zrem (x3 / 6) 6) : Int32) else (zrem x3 6))) S))), some (.inl (zb ((if (x5 = 0) then ((S 21 ((x1 * 3) + x6).toNatClampNeg) : Int32) else 8) = 8))), some (.inl (x6 + 1)), some (.inl (if (x5 = 0) then ((S 21 ((x1 * 3) + x6).toNatClampNeg) : Int32) else 8)), some (.inl (F67 (if (x5 = 0) then ((S 21 ((x1 * 3) + x6).toNatClampNeg) : Int32) else 8) x2 (if (x6 = 0) then ((x3 / 36) : Int32) else (if (x6 = 1) then ((zrem (x3 / 6) 6) : Int32) else (zrem x3 6))) S))], [], S)))) := zr_1_6 i66_6 (zr_0 i66_7 kc_3 (zr_19_3 i66_8 (fun h992 => zt_rfl) (fun h993 => zr_1_5 i66_9 (zt_trans (zt_cast (zr_18_0 i66_10 (fun h994 => zr_2_0 i66_13 (zr_6r i66_14 fl_4_1 (zr_1_1 i66_15 (zr_0 i66_16 kc_3 (zr_13_2 i66_17 (zr_1_6 i66_18 (zr_13_0 i66_19 (zr_8 i66_20 ar_21 (g0 h993 h994) rfl (show S 21 ((x1 * 3) + x6).toNatClampNeg = (S 21 ((x1 * 3) + x6).toNatClampNeg) from rfl) (zt_rfl))))))))) (fun h995 => zr_0 i66_11 kc_8 (zr_17 i66_12 (zt_rfl)))) (zm_c zz_s (zl_c (zl_t zz_e) zz_s) zz_s)) (zr_3_7 i66_21 (zr_1_7 i66_22 (zr_1_2 i66_23 (zr_1_3 i66_24 (zr_1_6 i66_25 (zr_cv (zs_22_2 i66_26 na_68 rfl) (f68 x3 x6 S ) (zr_cv (zs_22_3 i66_27 na_67 rfl) (f67 (if (x5 = 0) then ((S 21 ((x1 * 3) + x6).toNatClampNeg) : Int32) else 8) x2 (if (x6 = 0) then ((x3 / 36) : Int32) else (if (x6 = 1) then ((zrem (x3 / 6) 6) : Int32) else (zrem x3 6))) S ) (zr_3_8 i66_28 (zr_1_8 i66_29 (zr_0 i66_30 kc_4 (zr_19_1 i66_31 (fun h996 => zr_0 i66_32 kc_64 (zr_25 i66_33)) (fun h997 => zr_1_4 i66_34 (zr_0 i66_35 kc_4 (zr_13_2 i66_36 (zr_1_8 i66_37 (zr_13_0 i66_38 (zr_3_4 i66_39 (zr_1_7 i66_40 (zr_0 i66_41 kc_8 (zt_trans (zt_cast (zr_19_1 i66_42 (fun h998 => zr_0 i66_43 kc_1 (zr_17 i66_44 (zt_rfl))) (fun h999 => zr_0 i66_45 kc_0 (zt_rfl))) (zm_c zz_s (zl_c (zl_t zz_10) zz_s) zz_s)) (zr_3_5 i66_46 (zr_5_6 i66_47 kc_1 (zr_17 i66_48 (zt_rfl))))))))))))))))))))))))))))
set_option maxRecDepth 100000 in
theorem s66_49 {L : Nat} (x1 x2 x3 x4 x5 x6 : Int32) (u7 u8 : Option zV) (S : zS) : zt L 66 49 [some (.inr (.inr 4)), some (.inl x1), some (.inl x2), some (.inl x3), some (.inl x4), some (.inl x5), some (.inl x6), u7, u8] [] S (.inr (.inl (some (.inl x4)), S, 0)) := zr_1_4 i66_49 (zr_25 i66_50)
def k66_6 (x1 x2 x3 : Int32) (S : zS) (j : Nat) (a : Int32 × Int32 × Option zV × Option zV) : Int32 × Int32 × Option zV × Option zV := (((a.1 * 4) + (F67 (if (a.2.1 = 0) then ((S 21 ((x1 * 3) + (Int32.ofNat j)).toNatClampNeg) : Int32) else 8) x2 (if ((Int32.ofNat j) = 0) then ((x3 / 36) : Int32) else (if ((Int32.ofNat j) = 1) then ((zrem (x3 / 6) 6) : Int32) else (zrem x3 6))) S)), (zb ((if (a.2.1 = 0) then ((S 21 ((x1 * 3) + (Int32.ofNat j)).toNatClampNeg) : Int32) else 8) = 8)), (some (.inl (if (a.2.1 = 0) then ((S 21 ((x1 * 3) + (Int32.ofNat j)).toNatClampNeg) : Int32) else 8))), (some (.inl (F67 (if (a.2.1 = 0) then ((S 21 ((x1 * 3) + (Int32.ofNat j)).toNatClampNeg) : Int32) else 8) x2 (if ((Int32.ofNat j) = 0) then ((x3 / 36) : Int32) else (if ((Int32.ofNat j) = 1) then ((zrem (x3 / 6) 6) : Int32) else (zrem x3 6))) S))))
set_option maxRecDepth 100000 in
theorem l66_6 {L : Nat} (x1 x2 x3 : Int32) (S : zS) (i0 n : Nat) (a : Int32 × Int32 × Option zV × Option zV) (hn : i0 + n < 2147483648) (hc0 : ∀ j, j < n → ¬ (3 ≤ (Int32.ofNat (i0 + j)))) (hc1 : ∀ j, j < n → ¬ ((F67 (if ((zfold (k66_6 x1 x2 x3 S) i0 j a).2.1 = 0) then ((S 21 ((x1 * 3) + (Int32.ofNat (i0 + j))).toNatClampNeg) : Int32) else 8) x2 (if ((Int32.ofNat (i0 + j)) = 0) then ((x3 / 36) : Int32) else (if ((Int32.ofNat (i0 + j)) = 1) then ((zrem (x3 / 6) 6) : Int32) else (zrem x3 6))) S) = 4)) (g0 : ∀ j, j < n → (¬ (3 ≤ (Int32.ofNat (i0 + j)))) → ((zfold (k66_6 x1 x2 x3 S) i0 j a).2.1 = 0) → zx 120 ((x1 * 3) + (Int32.ofNat (i0 + j)))) : zt L 66 6 [some (.inr (.inr 4)), some (.inl x1), some (.inl x2), some (.inl x3), some (.inl a.1), some (.inl a.2.1), some (.inl (Int32.ofNat i0)), a.2.2.1, a.2.2.2] [] S (.inl (6, [some (.inr (.inr 4)), some (.inl x1), some (.inl x2), some (.inl x3), some (.inl (zfold (k66_6 x1 x2 x3 S) i0 n a).1), some (.inl (zfold (k66_6 x1 x2 x3 S) i0 n a).2.1), some (.inl (Int32.ofNat (i0 + n))), (zfold (k66_6 x1 x2 x3 S) i0 n a).2.2.1, (zfold (k66_6 x1 x2 x3 S) i0 n a).2.2.2], [], S)) := by
  induction n with
  | zero => exact zt_rfl
  | succ n ih =>
    have e1 := zk_ix (i0 + n) (by omega)
    have e2 := zk_add (i0 + n)
    refine zt_trans (ih (by omega) (fun j hj => hc0 j (by omega)) (fun j hj => hc1 j (by omega)) (fun j hj => g0 j (by omega))) ?_
    refine zt_cast (s66_6 x1 x2 x3 (zfold (k66_6 x1 x2 x3 S) i0 n a).1 (zfold (k66_6 x1 x2 x3 S) i0 n a).2.1 (Int32.ofNat (i0 + n)) (zfold (k66_6 x1 x2 x3 S) i0 n a).2.2.1 (zfold (k66_6 x1 x2 x3 S) i0 n a).2.2.2 S (by have hg := g0 n (by omega); first | exact hg | (simp only [e1]; exact hg))) ?_
    rw [if_neg (show ¬ (3 ≤ (Int32.ofNat (i0 + n))) from (by have hg := hc0 n (by omega); first | exact hg | (simp only [e1]; exact hg)))]
    rw [if_neg (show ¬ ((F67 (if ((zfold (k66_6 x1 x2 x3 S) i0 n a).2.1 = 0) then ((S 21 ((x1 * 3) + (Int32.ofNat (i0 + n))).toNatClampNeg) : Int32) else 8) x2 (if ((Int32.ofNat (i0 + n)) = 0) then ((x3 / 36) : Int32) else (if ((Int32.ofNat (i0 + n)) = 1) then ((zrem (x3 / 6) 6) : Int32) else (zrem x3 6))) S) = 4) from (by have hg := hc1 n (by omega); first | exact hg | (simp only [e1]; exact hg)))]
    simp only [zfold, k66_6, e1, e2, ← Nat.add_assoc]
-- 74 X6_leadElsewhere: cut points [4, 23]
set_option maxRecDepth 100000 in
theorem s74_e {L : Nat} (a b : Int32) (S : zS) : zt L 74 0 [some (.inr (.inr 4)), some (.inl a), some (.inl b), none, none] [] S (.inl (4, [some (.inr (.inr 4)), some (.inl a), some (.inl b), some (.inl 0), some (.inl 0)], [], S)) := zr_0 i74_0 kc_0 (zr_3_3 i74_1 (zr_0 i74_2 kc_0 (zr_3_4 i74_3 (zt_rfl))))
set_option maxRecDepth 100000 in
theorem s74_4 {L : Nat} (x1 x2 x3 x4 : Int32) (S : zS) (g0 : (¬ (18 ≤ x4)) → zx 18 x4) : zt L 74 4 [some (.inr (.inr 4)), some (.inl x1), some (.inl x2), some (.inl x3), some (.inl x4)] [] S (if (18 ≤ x4) then (.inl (23, [some (.inr (.inr 4)), some (.inl x1), some (.inl x2), some (.inl x3), some (.inl x4)], [], S)) else (.inl (4, [some (.inr (.inr 4)), some (.inl x1), some (.inl x2), some (.inl (if ((S 24 x4.toNatClampNeg) = x1) then ((x3 + 1) : Int32) else x3)), some (.inl (x4 + 1))], [], (if ((S 24 x4.toNatClampNeg) = x1) then (z_up S 24 x4.toNatClampNeg x2) else S)))) := zr_1_4 i74_4 (zr_2_0 i74_5 (zr_6r i74_6 fl_4_4 (zr_12 i74_7 ar_24 kn_18 (zr_19_3 i74_8 (fun h1004 => zt_rfl) (fun h1005 => zr_2_0 i74_9 (zr_6r i74_10 fl_4_4 (zr_1_4 i74_11 (zr_8 i74_12 ar_24 (g0 h1005) rfl (show S 24 x4.toNatClampNeg = (S 24 x4.toNatClampNeg) from rfl) (zr_1_1 i74_13 (zt_trans (zt_cast (zr_19_1 i74_14 (fun h1006 => zr_2_0 i74_15 (zr_6r i74_16 fl_4_4 (zr_1_4 i74_17 (zr_1_2 i74_18 (zr_10 i74_19 ar_24 (g0 h1005) rfl (zr_5_3 i74_20 kc_1 (zt_rfl))))))) (fun h1007 => zt_rfl)) (zm_c (zl_c zz_s (zl_c zz_s (zl_c zz_s (zl_c (zl_v zz_e) zz_s)))) zz_s zz_e)) (zr_5_4 i74_21 kc_1 (zr_17 i74_22 (zt_rfl)))))))))))))
set_option maxRecDepth 100000 in
theorem s74_23 {L : Nat} (x1 x2 x3 x4 : Int32) (S : zS) : zt L 74 23 [some (.inr (.inr 4)), some (.inl x1), some (.inl x2), some (.inl x3), some (.inl x4)] [] S (.inr (.inl (some (.inl x3)), S, 0)) := zr_1_3 i74_23 (zr_25 i74_24)
def k74_4 (x1 x2 : Int32) (j : Nat) (a : Int32 × zS) : Int32 × zS := ((if ((a.2 24 j) = x1) then ((a.1 + 1) : Int32) else a.1), (if ((a.2 24 j) = x1) then (z_up a.2 24 j x2) else a.2))
set_option maxRecDepth 100000 in
theorem l74_4 {L : Nat} (x1 x2 : Int32) (i0 n : Nat) (a : Int32 × zS) (hn : i0 + n < 2147483648) (hc0 : ∀ j, j < n → ¬ (18 ≤ (Int32.ofNat (i0 + j)))) (g0 : ∀ j, j < n → (¬ (18 ≤ (Int32.ofNat (i0 + j)))) → zx 18 (Int32.ofNat (i0 + j))) : zt L 74 4 [some (.inr (.inr 4)), some (.inl x1), some (.inl x2), some (.inl a.1), some (.inl (Int32.ofNat i0))] [] a.2 (.inl (4, [some (.inr (.inr 4)), some (.inl x1), some (.inl x2), some (.inl (zfold (k74_4 x1 x2 ) i0 n a).1), some (.inl (Int32.ofNat (i0 + n)))], [], (zfold (k74_4 x1 x2 ) i0 n a).2)) := by
  induction n with
  | zero => exact zt_rfl
  | succ n ih =>
    have e1 := zk_ix (i0 + n) (by omega)
    have e2 := zk_add (i0 + n)
    refine zt_trans (ih (by omega) (fun j hj => hc0 j (by omega)) (fun j hj => g0 j (by omega))) ?_
    refine zt_cast (s74_4 x1 x2 (zfold (k74_4 x1 x2 ) i0 n a).1 (Int32.ofNat (i0 + n)) (zfold (k74_4 x1 x2 ) i0 n a).2 (by have hg := g0 n (by omega); first | exact hg | (simp only [e1]; exact hg))) ?_
    rw [if_neg (show ¬ (18 ≤ (Int32.ofNat (i0 + n))) from (by have hg := hc0 n (by omega); first | exact hg | (simp only [e1]; exact hg)))]
    simp only [zfold, k74_4, e1, e2, ← Nat.add_assoc]
-- 75 X6_replaceMember: cut points [2, 19]
set_option maxRecDepth 100000 in
theorem s75_e {L : Nat} (a b : Int32) (S : zS) : zt L 75 0 [some (.inr (.inr 4)), some (.inl a), some (.inl b), none] [] S (.inl (2, [some (.inr (.inr 4)), some (.inl a), some (.inl b), some (.inl 0)], [], S)) := zr_0 i75_0 kc_0 (zr_3_3 i75_1 (zt_rfl))
set_option maxRecDepth 100000 in
theorem s75_2 {L : Nat} (x1 x2 x3 : Int32) (S : zS) (g0 : (¬ (4 ≤ x3)) → zx 4 x3) : zt L 75 2 [some (.inr (.inr 4)), some (.inl x1), some (.inl x2), some (.inl x3)] [] S (if (4 ≤ x3) then (.inl (19, [some (.inr (.inr 4)), some (.inl x1), some (.inl x2), some (.inl x3)], [], S)) else (.inl (2, [some (.inr (.inr 4)), some (.inl x1), some (.inl x2), some (.inl (x3 + 1))], [], (if (((zshr (S 28 x3.toNatClampNeg) x1) &&& 1) = 1) then (z_up (z_up S 28 x3.toNatClampNeg (if (0 = 0) then (((S 28 x3.toNatClampNeg) &&& ((zshl 1 x1) ^^^ (-1))) : Int32) else ((S 28 x3.toNatClampNeg) ||| (zshl 1 x1)))) 28 x3.toNatClampNeg (if (1 = 0) then ((((z_up S 28 x3.toNatClampNeg (if (0 = 0) then (((S 28 x3.toNatClampNeg) &&& ((zshl 1 x1) ^^^ (-1))) : Int32) else ((S 28 x3.toNatClampNeg) ||| (zshl 1 x1)))) 28 x3.toNatClampNeg) &&& ((zshl 1 x2) ^^^ (-1))) : Int32) else (((z_up S 28 x3.toNatClampNeg (if (0 = 0) then (((S 28 x3.toNatClampNeg) &&& ((zshl 1 x1) ^^^ (-1))) : Int32) else ((S 28 x3.toNatClampNeg) ||| (zshl 1 x1)))) 28 x3.toNatClampNeg) ||| (zshl 1 x2)))) else (z_up S 28 x3.toNatClampNeg (if (0 = 0) then (((S 28 x3.toNatClampNeg) &&& ((zshl 1 x1) ^^^ (-1))) : Int32) else ((S 28 x3.toNatClampNeg) ||| (zshl 1 x1)))))))) := zr_1_3 i75_2 (zr_0 i75_3 kc_4 (zr_19_3 i75_4 (fun h1012 => zt_rfl) (fun h1013 => zr_2_0 i75_5 (zr_1_3 i75_6 (zr_1_1 i75_7 (zr_0 i75_8 kc_0 (zr_cv (zs_21_3 i75_9 na_76 ob_4 rfl) (f76 x3 x1 0 S (g0 h1013)) (zt_trans (zt_cast (zr_18b_0 i75_10 (fun h1014 => zr_2_0 i75_11 (zr_1_3 i75_12 (zr_1_2 i75_13 (zr_0 i75_14 kc_1 (zr_cv (zs_21_3 i75_15 na_76 ob_4 rfl) (f76 x3 x2 1 (z_up S 28 x3.toNatClampNeg (if (0 = 0) then (((S 28 x3.toNatClampNeg) &&& ((zshl 1 x1) ^^^ (-1))) : Int32) else ((S 28 x3.toNatClampNeg) ||| (zshl 1 x1)))) (g0 h1013)) (zr_16 i75_16 (zt_rfl))))))) (fun h1015 => zt_rfl)) (zm_c zz_s zz_s zz_e)) (zr_5_3 i75_17 kc_1 (zr_17 i75_18 (zt_rfl)))))))))))
set_option maxRecDepth 100000 in
theorem s75_19 {L : Nat} (x1 x2 x3 : Int32) (S : zS) : zt L 75 19 [some (.inr (.inr 4)), some (.inl x1), some (.inl x2), some (.inl x3)] [] S (.inr (.inl none, S, 0)) := zr_27 i75_19
def k75_2 (x1 x2 : Int32) (j : Nat) (a : zS) : zS := (if (((zshr (a 28 j) x1) &&& 1) = 1) then (z_up (z_up a 28 j (if (0 = 0) then (((a 28 j) &&& ((zshl 1 x1) ^^^ (-1))) : Int32) else ((a 28 j) ||| (zshl 1 x1)))) 28 j (if (1 = 0) then ((((z_up a 28 j (if (0 = 0) then (((a 28 j) &&& ((zshl 1 x1) ^^^ (-1))) : Int32) else ((a 28 j) ||| (zshl 1 x1)))) 28 j) &&& ((zshl 1 x2) ^^^ (-1))) : Int32) else (((z_up a 28 j (if (0 = 0) then (((a 28 j) &&& ((zshl 1 x1) ^^^ (-1))) : Int32) else ((a 28 j) ||| (zshl 1 x1)))) 28 j) ||| (zshl 1 x2)))) else (z_up a 28 j (if (0 = 0) then (((a 28 j) &&& ((zshl 1 x1) ^^^ (-1))) : Int32) else ((a 28 j) ||| (zshl 1 x1)))))
set_option maxRecDepth 100000 in
theorem l75_2 {L : Nat} (x1 x2 : Int32) (i0 n : Nat) (a : zS) (hn : i0 + n < 2147483648) (hc0 : ∀ j, j < n → ¬ (4 ≤ (Int32.ofNat (i0 + j)))) (g0 : ∀ j, j < n → (¬ (4 ≤ (Int32.ofNat (i0 + j)))) → zx 4 (Int32.ofNat (i0 + j))) : zt L 75 2 [some (.inr (.inr 4)), some (.inl x1), some (.inl x2), some (.inl (Int32.ofNat i0))] [] a (.inl (2, [some (.inr (.inr 4)), some (.inl x1), some (.inl x2), some (.inl (Int32.ofNat (i0 + n)))], [], (zfold (k75_2 x1 x2 ) i0 n a))) := by
  induction n with
  | zero => exact zt_rfl
  | succ n ih =>
    have e1 := zk_ix (i0 + n) (by omega)
    have e2 := zk_add (i0 + n)
    refine zt_trans (ih (by omega) (fun j hj => hc0 j (by omega)) (fun j hj => g0 j (by omega))) ?_
    refine zt_cast (s75_2 x1 x2 (Int32.ofNat (i0 + n)) (zfold (k75_2 x1 x2 ) i0 n a) (by have hg := g0 n (by omega); first | exact hg | (simp only [e1]; exact hg))) ?_
    rw [if_neg (show ¬ (4 ≤ (Int32.ofNat (i0 + n))) from (by have hg := hc0 n (by omega); first | exact hg | (simp only [e1]; exact hg)))]
    simp only [zfold, k75_2, e1, e2, ← Nat.add_assoc]
-- 93 X7_addTerm: cut points [2, 10, 21, 35]
set_option maxRecDepth 100000 in
theorem s93_e {L : Nat} (a b : Int32) (S : zS) : zt L 93 0 [some (.inr (.inr 1)), some (.inl a), some (.inl b), none, none, none] [] S (.inl (2, [some (.inr (.inr 1)), some (.inl a), some (.inl b), some (.inl 1), none, none], [], S)) := zr_0 i93_0 kc_1 (zr_3_3 i93_1 (zt_rfl))
set_option maxRecDepth 100000 in
theorem s93_2 {L : Nat} (x1 x2 x3 : Int32) (u4 u5 : Option zV) (S : zS) : zt L 93 2 [some (.inr (.inr 1)), some (.inl x1), some (.inl x2), some (.inl x3), u4, u5] [] S (if ((S 1 1) < x3) then (.inl (35, [some (.inr (.inr 1)), some (.inl x1), some (.inl x2), some (.inl x3), u4, u5], [], S)) else (.inl (10, [some (.inr (.inr 1)), some (.inl x1), some (.inl x2), some (.inl x3), some (.inl x1), some (.inl 0)], [], S))) := zr_1_3 i93_2 (zr_2_0 i93_3 (zr_6 i93_4 fl_1_1 (show S 1 1 = (S 1 1) from rfl) (zr_19_4 i93_5 (fun h1022 => zt_rfl) (fun h1023 => zr_1_1 i93_6 (zr_3_4 i93_7 (zr_0 i93_8 kc_0 (zr_3_5 i93_9 (zt_rfl))))))))
set_option maxRecDepth 100000 in
theorem s93_10 {L : Nat} (x1 x2 x3 x4 x5 : Int32) (S : zS) : zt L 93 10 [some (.inr (.inr 1)), some (.inl x1), some (.inl x2), some (.inl x3), some (.inl x4), some (.inl x5)] [] S (if (x2 ≤ x5) then (.inl (21, [some (.inr (.inr 1)), some (.inl x1), some (.inl x2), some (.inl x3), some (.inl x4), some (.inl x5)], [], S)) else (.inl (10, [some (.inr (.inr 1)), some (.inl x1), some (.inl x2), some (.inl x3), some (.inl (zrem (x4 * x3) 257)), some (.inl (x5 + 1))], [], S))) := zr_1_5 i93_10 (zr_1_2 i93_11 (zr_19_3 i93_12 (fun h1024 => zt_rfl) (fun h1025 => zr_1_4 i93_13 (zr_1_3 i93_14 (zr_13_2 i93_15 (zr_0 i93_16 kc_257 (zr_13_4 i93_17 nz_257 (zr_3_4 i93_18 (zr_5_5 i93_19 kc_1 (zr_17 i93_20 (zt_rfl)))))))))))
set_option maxRecDepth 100000 in
theorem s93_21 {L : Nat} (x1 x2 x3 x4 x5 : Int32) (S : zS) (g0 : zx 7 x3) : zt L 93 21 [some (.inr (.inr 1)), some (.inl x1), some (.inl x2), some (.inl x3), some (.inl x4), some (.inl x5)] [] S (.inl (2, [some (.inr (.inr 1)), some (.inl x1), some (.inl x2), some (.inl (x3 + 1)), some (.inl x4), some (.inl x5)], [], (z_up S 14 x3.toNatClampNeg (zrem ((S 14 x3.toNatClampNeg) + x4) 257)))) := zr_2_0 i93_21 (zr_6r i93_22 fl_1_3 (zr_1_3 i93_23 (zr_2_0 i93_24 (zr_6r i93_25 fl_1_3 (zr_1_3 i93_26 (zr_8 i93_27 ar_14 (g0) rfl (show S 14 x3.toNatClampNeg = (S 14 x3.toNatClampNeg) from rfl) (zr_1_4 i93_28 (zr_13_0 i93_29 (zr_0 i93_30 kc_257 (zr_13_4 i93_31 nz_257 (zr_10 i93_32 ar_14 (g0) rfl (zr_5_3 i93_33 kc_1 (zr_17 i93_34 (zt_rfl))))))))))))))
set_option maxRecDepth 100000 in
theorem s93_35 {L : Nat} (x1 x2 x3 : Int32) (u4 u5 : Option zV) (S : zS) : zt L 93 35 [some (.inr (.inr 1)), some (.inl x1), some (.inl x2), some (.inl x3), u4, u5] [] S (.inr (.inl none, S, 0)) := zr_27 i93_35
def k93_10 (x1 x2 x3 : Int32) (S : zS) (j : Nat) (a : Int32) : Int32 := (zrem (a * x3) 257)
set_option maxRecDepth 100000 in
theorem l93_10 {L : Nat} (x1 x2 x3 : Int32) (S : zS) (i0 n : Nat) (a : Int32) (hn : i0 + n < 2147483648) (hc0 : ∀ j, j < n → ¬ (x2 ≤ (Int32.ofNat (i0 + j)))) : zt L 93 10 [some (.inr (.inr 1)), some (.inl x1), some (.inl x2), some (.inl x3), some (.inl a), some (.inl (Int32.ofNat i0))] [] S (.inl (10, [some (.inr (.inr 1)), some (.inl x1), some (.inl x2), some (.inl x3), some (.inl (zfold (k93_10 x1 x2 x3 S) i0 n a)), some (.inl (Int32.ofNat (i0 + n)))], [], S)) := by
  induction n with
  | zero => exact zt_rfl
  | succ n ih =>
    have e1 := zk_ix (i0 + n) (by omega)
    have e2 := zk_add (i0 + n)
    refine zt_trans (ih (by omega) (fun j hj => hc0 j (by omega))) ?_
    refine zt_cast (s93_10 x1 x2 x3 (zfold (k93_10 x1 x2 x3 S) i0 n a) (Int32.ofNat (i0 + n)) S) ?_
    rw [if_neg (show ¬ (x2 ≤ (Int32.ofNat (i0 + n))) from (by have hg := hc0 n (by omega); first | exact hg | (simp only [e1]; exact hg)))]
    simp only [zfold, k93_10, e1, e2, ← Nat.add_assoc]
-- 98 X7_inverse: cut points [6, 23]
set_option maxRecDepth 100000 in
theorem s98_e {L : Nat} (a : Int32) (S : zS) : zt L 98 0 [some (.inl a), none, none, none] [] S (.inl (6, [some (.inl a), some (.inl 1), some (.inl a), some (.inl 0)], [], S)) := zr_0 i98_0 kc_1 (zr_3_1 i98_1 (zr_1_0 i98_2 (zr_3_2 i98_3 (zr_0 i98_4 kc_0 (zr_3_3 i98_5 (zt_rfl))))))
set_option maxRecDepth 100000 in
theorem s98_6 {L : Nat} (x0 x1 x2 x3 : Int32) (S : zS) : zt L 98 6 [some (.inl x0), some (.inl x1), some (.inl x2), some (.inl x3)] [] S (if (8 ≤ x3) then (.inl (23, [some (.inl x0), some (.inl x1), some (.inl x2), some (.inl x3)], [], S)) else (.inl (6, [some (.inl x0), some (.inl (zrem (x1 * x2) 257)), some (.inl (zrem (x2 * x2) 257)), some (.inl (x3 + 1))], [], S))) := zr_1_3 i98_6 (zr_0 i98_7 kc_8 (zr_19_3 i98_8 (fun h1034 => zt_rfl) (fun h1035 => zr_1_1 i98_9 (zr_1_2 i98_10 (zr_13_2 i98_11 (zr_0 i98_12 kc_257 (zr_13_4 i98_13 nz_257 (zr_3_1 i98_14 (zr_1_2 i98_15 (zr_1_2 i98_16 (zr_13_2 i98_17 (zr_0 i98_18 kc_257 (zr_13_4 i98_19 nz_257 (zr_3_2 i98_20 (zr_5_3 i98_21 kc_1 (zr_17 i98_22 (zt_rfl)))))))))))))))))
set_option maxRecDepth 100000 in
theorem s98_23 {L : Nat} (x0 x1 x2 x3 : Int32) (S : zS) : zt L 98 23 [some (.inl x0), some (.inl x1), some (.inl x2), some (.inl x3)] [] S (.inr (.inl (some (.inl x1)), S, 0)) := zr_1_1 i98_23 (zr_25 i98_24)
def k98_6 (x0 : Int32) (S : zS) (j : Nat) (a : Int32 × Int32) : Int32 × Int32 := ((zrem (a.1 * a.2) 257), (zrem (a.2 * a.2) 257))
set_option maxRecDepth 100000 in
theorem l98_6 {L : Nat} (x0 : Int32) (S : zS) (i0 n : Nat) (a : Int32 × Int32) (hn : i0 + n < 2147483648) (hc0 : ∀ j, j < n → ¬ (8 ≤ (Int32.ofNat (i0 + j)))) : zt L 98 6 [some (.inl x0), some (.inl a.1), some (.inl a.2), some (.inl (Int32.ofNat i0))] [] S (.inl (6, [some (.inl x0), some (.inl (zfold (k98_6 x0 S) i0 n a).1), some (.inl (zfold (k98_6 x0 S) i0 n a).2), some (.inl (Int32.ofNat (i0 + n)))], [], S)) := by
  induction n with
  | zero => exact zt_rfl
  | succ n ih =>
    have e1 := zk_ix (i0 + n) (by omega)
    have e2 := zk_add (i0 + n)
    refine zt_trans (ih (by omega) (fun j hj => hc0 j (by omega))) ?_
    refine zt_cast (s98_6 x0 (zfold (k98_6 x0 S) i0 n a).1 (zfold (k98_6 x0 S) i0 n a).2 (Int32.ofNat (i0 + n)) S) ?_
    rw [if_neg (show ¬ (8 ≤ (Int32.ofNat (i0 + n))) from (by have hg := hc0 n (by omega); first | exact hg | (simp only [e1]; exact hg)))]
    simp only [zfold, k98_6, e1, e2, ← Nat.add_assoc]
-- 95 X7_forgetGiven: cut points [2, 14]
set_option maxRecDepth 100000 in
theorem s95_e {L : Nat} (S : zS) : zt L 95 0 [some (.inr (.inr 1)), none] [] S (.inl (2, [some (.inr (.inr 1)), some (.inl 0)], [], S)) := zr_0 i95_0 kc_0 (zr_3_1 i95_1 (zt_rfl))
set_option maxRecDepth 100000 in
theorem s95_2 {L : Nat} (x1 : Int32) (S : zS) (g0 : (¬ (7 ≤ x1)) → zx 7 x1) : zt L 95 2 [some (.inr (.inr 1)), some (.inl x1)] [] S (if (7 ≤ x1) then (.inl (14, [some (.inr (.inr 1)), some (.inl x1)], [], S)) else (.inl (2, [some (.inr (.inr 1)), some (.inl (x1 + 1))], [], (z_up S 15 x1.toNatClampNeg (-1))))) := zr_1_1 i95_2 (zr_2_0 i95_3 (zr_6r i95_4 fl_1_4 (zr_12 i95_5 ar_15 kn_7 (zr_19_3 i95_6 (fun h1048 => zt_rfl) (fun h1049 => zr_2_0 i95_7 (zr_6r i95_8 fl_1_4 (zr_1_1 i95_9 (zr_0 i95_10 kc_m1 (zr_10 i95_11 ar_15 (g0 h1049) rfl (zr_5_1 i95_12 kc_1 (zr_17 i95_13 (zt_rfl))))))))))))
set_option maxRecDepth 100000 in
theorem s95_14 {L : Nat} (x1 : Int32) (S : zS) : zt L 95 14 [some (.inr (.inr 1)), some (.inl x1)] [] S (.inr (.inl none, (z_up S 1 5 0), 0)) := zr_2_0 i95_14 (zr_0 i95_15 kc_0 (zr_7 i95_16 fl_1_5 (zr_27 i95_17)))
def k95_2 (j : Nat) (a : zS) : zS := (z_up a 15 j (-1))
set_option maxRecDepth 100000 in
theorem l95_2 {L : Nat} (i0 n : Nat) (a : zS) (hn : i0 + n < 2147483648) (hc0 : ∀ j, j < n → ¬ (7 ≤ (Int32.ofNat (i0 + j)))) (g0 : ∀ j, j < n → (¬ (7 ≤ (Int32.ofNat (i0 + j)))) → zx 7 (Int32.ofNat (i0 + j))) : zt L 95 2 [some (.inr (.inr 1)), some (.inl (Int32.ofNat i0))] [] a (.inl (2, [some (.inr (.inr 1)), some (.inl (Int32.ofNat (i0 + n)))], [], (zfold (k95_2 ) i0 n a))) := by
  induction n with
  | zero => exact zt_rfl
  | succ n ih =>
    have e1 := zk_ix (i0 + n) (by omega)
    have e2 := zk_add (i0 + n)
    refine zt_trans (ih (by omega) (fun j hj => hc0 j (by omega)) (fun j hj => g0 j (by omega))) ?_
    refine zt_cast (s95_2 (Int32.ofNat (i0 + n)) (zfold (k95_2 ) i0 n a) (by have hg := g0 n (by omega); first | exact hg | (simp only [e1]; exact hg))) ?_
    rw [if_neg (show ¬ (7 ≤ (Int32.ofNat (i0 + n))) from (by have hg := hc0 n (by omega); first | exact hg | (simp only [e1]; exact hg)))]
    simp only [zfold, k95_2, e1, e2, ← Nat.add_assoc]
-- 101 X8_areAllBlocking: cut points [4, 28]
set_option maxRecDepth 100000 in
theorem s101_e {L : Nat} (S : zS) : zt L 101 0 [some (.inr (.inr 12)), none, none] [] S (.inl (4, [some (.inr (.inr 12)), some (.inl 0), some (.inl 0)], [], S)) := zr_0 i101_0 kc_0 (zr_3_1 i101_1 (zr_0 i101_2 kc_0 (zr_3_2 i101_3 (zt_rfl))))
set_option maxRecDepth 100000 in
theorem s101_4 {L : Nat} (x1 x2 : Int32) (S : zS) (g0 : (¬ (3 ≤ x2)) → zx 3 x2) : zt L 101 4 [some (.inr (.inr 12)), some (.inl x1), some (.inl x2)] [] S (if (3 ≤ x2) then (.inl (28, [some (.inr (.inr 12)), some (.inl x1), some (.inl x2)], [], S)) else (if ((S 77 x2.toNatClampNeg) = 0) then (.inl (4, [some (.inr (.inr 12)), some (.inl (x1 ||| (S 77 x2.toNatClampNeg))), some (.inl (x2 + 1))], [], S)) else (if ((S 78 x2.toNatClampNeg) = 0) then (.inr (.inl (some (.inl 0)), S, 0)) else (.inl (4, [some (.inr (.inr 12)), some (.inl (x1 ||| (S 77 x2.toNatClampNeg))), some (.inl (x2 + 1))], [], S))))) := zr_1_2 i101_4 (zr_0 i101_5 kc_3 (zr_19_3 i101_6 (fun h1056 => zt_rfl) (fun h1057 => zr_2_0 i101_7 (zr_6r i101_8 fl_12_0 (zr_1_2 i101_9 (zr_9 i101_10 ar_77 (g0 h1057) rfl (show S 77 x2.toNatClampNeg = (S 77 x2.toNatClampNeg) from rfl) (zr_18_0 i101_11 (fun h1058 => zr_1_1 i101_19 (zr_2_0 i101_20 (zr_6r i101_21 fl_12_0 (zr_1_2 i101_22 (zr_9 i101_23 ar_77 (g0 h1057) rfl (show S 77 x2.toNatClampNeg = (S 77 x2.toNatClampNeg) from rfl) (zr_13_6 i101_24 (zr_3_1 i101_25 (zr_5_2 i101_26 kc_1 (zr_17 i101_27 (zt_rfl)))))))))) (fun h1059 => zr_2_0 i101_12 (zr_6r i101_13 fl_12_1 (zr_1_2 i101_14 (zr_9 i101_15 ar_78 (g0 h1057) rfl (show S 78 x2.toNatClampNeg = (S 78 x2.toNatClampNeg) from rfl) (zr_18_1 i101_16 (fun h1060 => zr_0 i101_17 kc_0 (zr_26 i101_18 (zo_0))) (fun h1061 => zr_1_1 i101_19 (zr_2_0 i101_20 (zr_6r i101_21 fl_12_0 (zr_1_2 i101_22 (zr_9 i101_23 ar_77 (g0 h1057) rfl (show S 77 x2.toNatClampNeg = (S 77 x2.toNatClampNeg) from rfl) (zr_13_6 i101_24 (zr_3_1 i101_25 (zr_5_2 i101_26 kc_1 (zr_17 i101_27 (zt_rfl))))))))))))))))))))))
set_option maxRecDepth 100000 in
theorem s101_28 {L : Nat} (x1 x2 : Int32) (S : zS) (g0 : zo x1) : zt L 101 28 [some (.inr (.inr 12)), some (.inl x1), some (.inl x2)] [] S (.inr (.inl (some (.inl x1)), S, 0)) := zr_1_1 i101_28 (zr_26 i101_29 (g0))
-- 102 X8_tell: cut points [21, 57]
set_option maxRecDepth 100000 in
theorem s102_e {L : Nat} (a b c d : Int32) (S : zS) : zt L 102 0 [some (.inr (.inr 12)), some (.inl a), some (.inl b), some (.inl c), some (.inl d), none, none, none] [] S (.inl (21, [some (.inr (.inr 12)), some (.inl a), some (.inl b), some (.inl c), some (.inl d), some (.inl (if (0 ≤ d) then (d : Int32) else (60000 + d))), some (.inl (((7 * a) + b) + (1000 * (if (c.toInt = 2) then (1 : Int32) else (if (c.toInt = 4) then (2 : Int32) else (if (c.toInt = 8) then (3 : Int32) else 0)))))), some (.inl 0)], [], S)) := zr_1_4 i102_0 (zt_trans (zt_cast (zr_18_3 i102_1 (fun h1070 => zr_1_4 i102_6 (zt_rfl)) (fun h1071 => zr_0 i102_2 kc_60000 (zr_1_4 i102_3 (zr_13_0 i102_4 (zr_17 i102_5 (zt_rfl)))))) (zm_c zz_s (zl_c (zl_t zz_e) zz_s) zz_s)) (zr_3_5 i102_7 (zr_0 i102_8 kc_7 (zr_1_1 i102_9 (zr_13_2 i102_10 (zr_1_2 i102_11 (zr_13_0 i102_12 (zr_0 i102_13 kc_1000 (zr_1_3 i102_14 (zr_cv (zs_22_1 i102_15 na_103 rfl) (f103 c S ) (zr_13_2 i102_16 (zr_13_0 i102_17 (zr_3_6 i102_18 (zr_0 i102_19 kc_0 (zr_3_7 i102_20 (zt_rfl))))))))))))))))
set_option maxRecDepth 100000 in
theorem s102_21 {L : Nat} (x1 x2 x3 x4 x5 x6 x7 : Int32) (S : zS) (g0 : (¬ (3 ≤ x7)) → zx 3 x7) : zt L 102 21 [some (.inr (.inr 12)), some (.inl x1), some (.inl x2), some (.inl x3), some (.inl x4), some (.inl x5), some (.inl x6), some (.inl x7)] [] S (if (3 ≤ x7) then (.inl (57, [some (.inr (.inr 12)), some (.inl x1), some (.inl x2), some (.inl x3), some (.inl x4), some (.inl x5), some (.inl x6), some (.inl x7)], [], S)) else (.inl (21, [some (.inr (.inr 12)), some (.inl x1), some (.inl x2), some (.inl x3), some (.inl x4), some (.inl x5), some (.inl x6), some (.inl (x7 + 1))], [], (if ((S 77 x7.toNatClampNeg) = 0) then S else (if ((S 78 x7.toNatClampNeg) = 0) then (z_up S 80 x7.toNatClampNeg (zrem (((31 * (S 80 x7.toNatClampNeg)) + x6) + (x5 * (S 79 x7.toNatClampNeg))) 65521)) else S))))) := zr_1_7 i102_21 (zr_0 i102_22 kc_3 (zr_19_3 i102_23 (fun h1072 => zt_rfl) (fun h1073 => zr_2_0 i102_24 (zr_6r i102_25 fl_12_0 (zr_1_7 i102_26 (zr_9 i102_27 ar_77 (g0 h1073) rfl (show S 77 x7.toNatClampNeg = (S 77 x7.toNatClampNeg) from rfl) (zt_trans (zt_cast (zr_18_0 i102_28 (fun h1074 => zt_rfl) (fun h1075 => zr_2_0 i102_29 (zr_6r i102_30 fl_12_1 (zr_1_7 i102_31 (zr_9 i102_32 ar_78 (g0 h1073) rfl (show S 78 x7.toNatClampNeg = (S 78 x7.toNatClampNeg) from rfl) (zt_cast (zr_18_1 i102_33 (fun h1076 => zr_2_0 i102_34 (zr_6r i102_35 fl_12_3 (zr_1_7 i102_36 (zr_0 i102_37 kc_31 (zr_2_0 i102_38 (zr_6r i102_39 fl_12_3 (zr_1_7 i102_40 (zr_8 i102_41 ar_80 (g0 h1073) rfl (show S 80 x7.toNatClampNeg = (S 80 x7.toNatClampNeg) from rfl) (zr_13_2 i102_42 (zr_1_6 i102_43 (zr_13_0 i102_44 (zr_1_5 i102_45 (zr_2_0 i102_46 (zr_6r i102_47 fl_12_2 (zr_1_7 i102_48 (zr_8 i102_49 ar_79 (g0 h1073) rfl (show S 79 x7.toNatClampNeg = (S 79 x7.toNatClampNeg) from rfl) (zr_13_2 i102_50 (zr_13_0 i102_51 (zr_0 i102_52 kc_65521 (zr_13_4 i102_53 nz_65521 (zr_10 i102_54 ar_80 (g0 h1073) rfl (zt_rfl)))))))))))))))))))))) (fun h1077 => zt_rfl)) (zm_c zz_s zz_s zz_e))))))) (zm_c zz_s zz_s zz_e)) (zr_5_7 i102_55 kc_1 (zr_17 i102_56 (zt_rfl))))))))))
set_option maxRecDepth 100000 in
theorem s102_57 {L : Nat} (x1 x2 x3 x4 x5 x6 x7 : Int32) (S : zS) : zt L 102 57 [some (.inr (.inr 12)), some (.inl x1), some (.inl x2), some (.inl x3), some (.inl x4), some (.inl x5), some (.inl x6), some (.inl x7)] [] S (.inr (.inl none, S, 0)) := zr_27 i102_57
def k102_21 (x1 x2 x3 x4 x5 x6 : Int32) (j : Nat) (a : zS) : zS := (if ((a 77 j) = 0) then a else (if ((a 78 j) = 0) then (z_up a 80 j (zrem (((31 * (a 80 j)) + x6) + (x5 * (a 79 j))) 65521)) else a))
set_option maxRecDepth 100000 in
theorem l102_21 {L : Nat} (x1 x2 x3 x4 x5 x6 : Int32) (i0 n : Nat) (a : zS) (hn : i0 + n < 2147483648) (hc0 : ∀ j, j < n → ¬ (3 ≤ (Int32.ofNat (i0 + j)))) (g0 : ∀ j, j < n → (¬ (3 ≤ (Int32.ofNat (i0 + j)))) → zx 3 (Int32.ofNat (i0 + j))) : zt L 102 21 [some (.inr (.inr 12)), some (.inl x1), some (.inl x2), some (.inl x3), some (.inl x4), some (.inl x5), some (.inl x6), some (.inl (Int32.ofNat i0))] [] a (.inl (21, [some (.inr (.inr 12)), some (.inl x1), some (.inl x2), some (.inl x3), some (.inl x4), some (.inl x5), some (.inl x6), some (.inl (Int32.ofNat (i0 + n)))], [], (zfold (k102_21 x1 x2 x3 x4 x5 x6 ) i0 n a))) := by
  induction n with
  | zero => exact zt_rfl
  | succ n ih =>
    have e1 := zk_ix (i0 + n) (by omega)
    have e2 := zk_add (i0 + n)
    refine zt_trans (ih (by omega) (fun j hj => hc0 j (by omega)) (fun j hj => g0 j (by omega))) ?_
    refine zt_cast (s102_21 x1 x2 x3 x4 x5 x6 (Int32.ofNat (i0 + n)) (zfold (k102_21 x1 x2 x3 x4 x5 x6 ) i0 n a) (by have hg := g0 n (by omega); first | exact hg | (simp only [e1]; exact hg))) ?_
    rw [if_neg (show ¬ (3 ≤ (Int32.ofNat (i0 + n))) from (by have hg := hc0 n (by omega); first | exact hg | (simp only [e1]; exact hg)))]
    simp only [zfold, k102_21, e1, e2, ← Nat.add_assoc]
-- 112 X9_rewrapUpTo: cut points [7, 21, 67, 69]
set_option maxRecDepth 100000 in
theorem s112_7_2_e {L : Nat} (a b : Int32) (S : zS) : zt L 112 0 [some (.inr (.inr 7)), some (.inl a), some (.inr (.inr 2)), some (.inl b), none, none, none, none, none] [] S (.inl (7, [some (.inr (.inr 7)), some (.inl a), some (.inr (.inr 2)), some (.inl b), some (.inl (S 2 0)), some (.inl 0), some (.inl 0), none, none], [], S)) := zr_2_2 i112_0 (zr_cv (zs_21_0 i112_1 na_37 ob_2 rfl) (f37  S ) (zr_3_4 i112_2 (zr_0 i112_3 kc_0 (zr_3_5 i112_4 (zr_0 i112_5 kc_0 (zr_3_6 i112_6 (zt_rfl)))))))
set_option maxRecDepth 100000 in
theorem s112_7_2_7 {L : Nat} (x1 x3 x4 x5 x6 : Int32) (u7 u8 : Option zV) (S : zS) (g0 : (¬ (216 ≤ x6)) → zx 216 x6) : zt L 112 7 [some (.inr (.inr 7)), some (.inl x1), some (.inr (.inr 2)), some (.inl x3), some (.inl x4), some (.inl x5), some (.inl x6), u7, u8] [] S (if (216 ≤ x6) then (.inl (69, [some (.inr (.inr 7)), some (.inl x1), some (.inr (.inr 2)), some (.inl x3), some (.inl x4), some (.inl x5), some (.inl x6), u7, u8], [], S)) else (.inl (21, [some (.inr (.inr 7)), some (.inl x1), some (.inr (.inr 2)), some (.inl x3), some (.inl x4), some (.inl x5), some (.inl x6), some (.inl (zmax 1 (((S 51 x6.toNatClampNeg) - 4) + 1))), u8], [], S))) := zr_1_6 i112_7 (zr_0 i112_8 kc_216 (zr_19_3 i112_9 (fun h1104 => zt_rfl) (fun h1105 => zr_0 i112_10 kc_1 (zr_2_0 i112_11 (zr_6r i112_12 fl_7_0 (zr_1_6 i112_13 (zr_8 i112_14 ar_51 (g0 h1105) rfl (show S 51 x6.toNatClampNeg = (S 51 x6.toNatClampNeg) from rfl) (zr_0 i112_15 kc_4 (zr_13_1 i112_16 (zr_0 i112_17 kc_1 (zr_13_0 i112_18 (zr_23 i112_19 rfl (zr_3_7 i112_20 (zt_rfl))))))))))))))
set_option maxRecDepth 100000 in
theorem s112_7_2_21 {L : Nat} (x1 x3 x4 x5 x6 x7 : Int32) (u8 : Option zV) (S : zS) (g0 : zx 216 x6) (g1 : (¬ ((S 51 x6.toNatClampNeg) < x7)) → (¬ (x1 ≤ x5)) → zx 864 ((x6 * 4) + (if (0 ≤ (x7 ^^^ 4)) then ((zrem x7 4) : Int32) else (if ((zrem x7 4) = 0) then ((zrem x7 4) : Int32) else ((zrem x7 4) + 4))))) : zt L 112 21 [some (.inr (.inr 7)), some (.inl x1), some (.inr (.inr 2)), some (.inl x3), some (.inl x4), some (.inl x5), some (.inl x6), some (.inl x7), u8] [] S (if ((S 51 x6.toNatClampNeg) < x7) then (.inl (67, [some (.inr (.inr 7)), some (.inl x1), some (.inr (.inr 2)), some (.inl x3), some (.inl x4), some (.inl x5), some (.inl x6), some (.inl x7), u8], [], S)) else (if (x1 ≤ x5) then (.inl (67, [some (.inr (.inr 7)), some (.inl x1), some (.inr (.inr 2)), some (.inl x3), some (.inl x4), some (.inl x5), some (.inl x6), some (.inl x7), u8], [], S)) else (.inl (21, [some (.inr (.inr 7)), some (.inl x1), some (.inr (.inr 2)), some (.inl x3), some (.inl x4), some (.inl (if ((S 54 ((x6 * 4) + (if (0 ≤ (x7 ^^^ 4)) then ((zrem x7 4) : Int32) else (if ((zrem x7 4) = 0) then ((zrem x7 4) : Int32) else ((zrem x7 4) + 4)))).toNatClampNeg) = 2) then (x5 : Int32) else (if (x4 ≤ (S 53 ((x6 * 4) + (if (0 ≤ (x7 ^^^ 4)) then ((zrem x7 4) : Int32) else (if ((zrem x7 4) = 0) then ((zrem x7 4) : Int32) else ((zrem x7 4) + 4)))).toNatClampNeg)) then (x5 : Int32) else (if ((S 53 ((x6 * 4) + (if (0 ≤ (x7 ^^^ 4)) then ((zrem x7 4) : Int32) else (if ((zrem x7 4) = 0) then ((zrem x7 4) : Int32) else ((zrem x7 4) + 4)))).toNatClampNeg) < (S 2 3)) then (x5 : Int32) else (x5 + 1))))), some (.inl x6), some (.inl (x7 + 1)), some (.inl ((x6 * 4) + (if (0 ≤ (x7 ^^^ 4)) then ((zrem x7 4) : Int32) else (if ((zrem x7 4) = 0) then ((zrem x7 4) : Int32) else ((zrem x7 4) + 4)))))], [], (if ((S 54 ((x6 * 4) + (if (0 ≤ (x7 ^^^ 4)) then ((zrem x7 4) : Int32) else (if ((zrem x7 4) = 0) then ((zrem x7 4) : Int32) else ((zrem x7 4) + 4)))).toNatClampNeg) = 2) then S else (if (x4 ≤ (S 53 ((x6 * 4) + (if (0 ≤ (x7 ^^^ 4)) then ((zrem x7 4) : Int32) else (if ((zrem x7 4) = 0) then ((zrem x7 4) : Int32) else ((zrem x7 4) + 4)))).toNatClampNeg)) then S else (if ((S 53 ((x6 * 4) + (if (0 ≤ (x7 ^^^ 4)) then ((zrem x7 4) : Int32) else (if ((zrem x7 4) = 0) then ((zrem x7 4) : Int32) else ((zrem x7 4) + 4)))).toNatClampNeg) < (S 2 3)) then S else (z_up (G41 x3 S) 53 ((x6 * 4) + (if (0 ≤ (x7 ^^^ 4)) then ((zrem x7 4) : Int32) else (if ((zrem x7 4) = 0) then ((zrem x7 4) : Int32) else ((zrem x7 4) + 4)))).toNatClampNeg (F41 x3 S))))))))) := zr_1_7 i112_21 (zr_2_0 i112_22 (zr_6r i112_23 fl_7_0 (zr_1_6 i112_24 (zr_8 i112_25 ar_51 (g0) rfl (show S 51 x6.toNatClampNeg = (S 51 x6.toNatClampNeg) from rfl) (zr_19_4 i112_26 (fun h1106 => zt_rfl) (fun h1107 => zr_1_5 i112_27 (zr_1_1 i112_28 (zr_19_3 i112_29 (fun h1108 => zt_rfl) (fun h1109 => zr_1_6 i112_30 (zr_0 i112_31 kc_4 (zr_13_2 i112_32 (zr_1_7 i112_33 (zr_0 i112_34 kc_4 (zr_cv (zs_22_2 i112_35 na_323 rfl) (f323 x7 4 S nz_4) (zr_13_0 i112_36 (zr_3_8 i112_37 (zr_2_0 i112_38 (zr_6r i112_39 fl_7_3 (zr_1_8 i112_40 (zr_8 i112_41 ar_54 (g1 h1107 h1109) rfl (show S 54 ((x6 * 4) + (if (0 ≤ (x7 ^^^ 4)) then ((zrem x7 4) : Int32) else (if ((zrem x7 4) = 0) then ((zrem x7 4) : Int32) else ((zrem x7 4) + 4)))).toNatClampNeg = (S 54 ((x6 * 4) + (if (0 ≤ (x7 ^^^ 4)) then ((zrem x7 4) : Int32) else (if ((zrem x7 4) = 0) then ((zrem x7 4) : Int32) else ((zrem x7 4) + 4)))).toNatClampNeg) from rfl) (zr_0 i112_42 kc_2 (zt_trans (zt_cast (zr_19_0 i112_43 (fun h1110 => zt_rfl) (fun h1111 => zr_2_0 i112_44 (zr_6r i112_45 fl_7_2 (zr_1_8 i112_46 (zr_8 i112_47 ar_53 (g1 h1107 h1109) rfl (show S 53 ((x6 * 4) + (if (0 ≤ (x7 ^^^ 4)) then ((zrem x7 4) : Int32) else (if ((zrem x7 4) = 0) then ((zrem x7 4) : Int32) else ((zrem x7 4) + 4)))).toNatClampNeg = (S 53 ((x6 * 4) + (if (0 ≤ (x7 ^^^ 4)) then ((zrem x7 4) : Int32) else (if ((zrem x7 4) = 0) then ((zrem x7 4) : Int32) else ((zrem x7 4) + 4)))).toNatClampNeg) from rfl) (zr_1_4 i112_48 (zt_cast (zr_19_3 i112_49 (fun h1112 => zt_rfl) (fun h1113 => zr_2_0 i112_50 (zr_6r i112_51 fl_7_2 (zr_1_8 i112_52 (zr_8 i112_53 ar_53 (g1 h1107 h1109) rfl (show S 53 ((x6 * 4) + (if (0 ≤ (x7 ^^^ 4)) then ((zrem x7 4) : Int32) else (if ((zrem x7 4) = 0) then ((zrem x7 4) : Int32) else ((zrem x7 4) + 4)))).toNatClampNeg = (S 53 ((x6 * 4) + (if (0 ≤ (x7 ^^^ 4)) then ((zrem x7 4) : Int32) else (if ((zrem x7 4) = 0) then ((zrem x7 4) : Int32) else ((zrem x7 4) + 4)))).toNatClampNeg) from rfl) (zr_2_2 i112_54 (zr_cv (zs_21_0 i112_55 na_38 ob_2 rfl) (f38  S ) (zt_cast (zr_19_2 i112_56 (fun h1114 => zt_rfl) (fun h1115 => zr_2_0 i112_57 (zr_6r i112_58 fl_7_2 (zr_1_8 i112_59 (zr_2_2 i112_60 (zr_1_3 i112_61 (zr_cv (zs_21_1 i112_62 na_41 ob_2 rfl) (f41 x3 S ) (zr_10 i112_63 ar_53 (g1 h1107 h1109) rfl (zr_5_5 i112_64 kc_1 (zt_rfl)))))))))) (zm_c (zl_c zz_s (zl_c zz_s (zl_c zz_s (zl_c zz_s (zl_c zz_s (zl_c (zl_v zz_e) zz_s)))))) zz_s zz_e))))))))) (zm_c (zl_c zz_s (zl_c zz_s (zl_c zz_s (zl_c zz_s (zl_c zz_s (zl_c (zl_v zz_e) zz_s)))))) zz_s zz_e)))))))) (zm_c (zl_c zz_s (zl_c zz_s (zl_c zz_s (zl_c zz_s (zl_c zz_s (zl_c (zl_v zz_e) zz_s)))))) zz_s zz_e)) (zr_5_7 i112_65 kc_1 (zr_17 i112_66 (zt_rfl)))))))))))))))))))))))))
set_option maxRecDepth 100000 in
theorem s112_7_2_67 {L : Nat} (x1 x3 x4 x5 x6 x7 : Int32) (u8 : Option zV) (S : zS) : zt L 112 67 [some (.inr (.inr 7)), some (.inl x1), some (.inr (.inr 2)), some (.inl x3), some (.inl x4), some (.inl x5), some (.inl x6), some (.inl x7), u8] [] S (.inl (7, [some (.inr (.inr 7)), some (.inl x1), some (.inr (.inr 2)), some (.inl x3), some (.inl x4), some (.inl x5), some (.inl (x6 + 1)), some (.inl x7), u8], [], S)) := zr_5_6 i112_67 kc_1 (zr_17 i112_68 (zt_rfl))
set_option maxRecDepth 100000 in
theorem s112_7_2_69 {L : Nat} (x1 x3 x4 x5 x6 : Int32) (u7 u8 : Option zV) (S : zS) : zt L 112 69 [some (.inr (.inr 7)), some (.inl x1), some (.inr (.inr 2)), some (.inl x3), some (.inl x4), some (.inl x5), some (.inl x6), u7, u8] [] S (.inr (.inl (some (.inl x5)), S, 0)) := zr_1_5 i112_69 (zr_25 i112_70)
def k112_7_2_21 (x1 x3 x4 x6 : Int32) (j : Nat) (a : Int32 × Option zV × zS) : Int32 × Option zV × zS := ((if ((a.2.2 54 ((x6 * 4) + (if (0 ≤ ((Int32.ofNat j) ^^^ 4)) then ((zrem (Int32.ofNat j) 4) : Int32) else (if ((zrem (Int32.ofNat j) 4) = 0) then ((zrem (Int32.ofNat j) 4) : Int32) else ((zrem (Int32.ofNat j) 4) + 4)))).toNatClampNeg) = 2) then (a.1 : Int32) else (if (x4 ≤ (a.2.2 53 ((x6 * 4) + (if (0 ≤ ((Int32.ofNat j) ^^^ 4)) then ((zrem (Int32.ofNat j) 4) : Int32) else (if ((zrem (Int32.ofNat j) 4) = 0) then ((zrem (Int32.ofNat j) 4) : Int32) else ((zrem (Int32.ofNat j) 4) + 4)))).toNatClampNeg)) then (a.1 : Int32) else (if ((a.2.2 53 ((x6 * 4) + (if (0 ≤ ((Int32.ofNat j) ^^^ 4)) then ((zrem (Int32.ofNat j) 4) : Int32) else (if ((zrem (Int32.ofNat j) 4) = 0) then ((zrem (Int32.ofNat j) 4) : Int32) else ((zrem (Int32.ofNat j) 4) + 4)))).toNatClampNeg) < (a.2.2 2 3)) then (a.1 : Int32) else (a.1 + 1)))), (some (.inl ((x6 * 4) + (if (0 ≤ ((Int32.ofNat j) ^^^ 4)) then ((zrem (Int32.ofNat j) 4) : Int32) else (if ((zrem (Int32.ofNat j) 4) = 0) then ((zrem (Int32.ofNat j) 4) : Int32) else ((zrem (Int32.ofNat j) 4) + 4)))))), (if ((a.2.2 54 ((x6 * 4) + (if (0 ≤ ((Int32.ofNat j) ^^^ 4)) then ((zrem (Int32.ofNat j) 4) : Int32) else (if ((zrem (Int32.ofNat j) 4) = 0) then ((zrem (Int32.ofNat j) 4) : Int32) else ((zrem (Int32.ofNat j) 4) + 4)))).toNatClampNeg) = 2) then a.2.2 else (if (x4 ≤ (a.2.2 53 ((x6 * 4) + (if (0 ≤ ((Int32.ofNat j) ^^^ 4)) then ((zrem (Int32.ofNat j) 4) : Int32) else (if ((zrem (Int32.ofNat j) 4) = 0) then ((zrem (Int32.ofNat j) 4) : Int32) else ((zrem (Int32.ofNat j) 4) + 4)))).toNatClampNeg)) then a.2.2 else (if ((a.2.2 53 ((x6 * 4) + (if (0 ≤ ((Int32.ofNat j) ^^^ 4)) then ((zrem (Int32.ofNat j) 4) : Int32) else (if ((zrem (Int32.ofNat j) 4) = 0) then ((zrem (Int32.ofNat j) 4) : Int32) else ((zrem (Int32.ofNat j) 4) + 4)))).toNatClampNeg) < (a.2.2 2 3)) then a.2.2 else (z_up (G41 x3 a.2.2) 53 ((x6 * 4) + (if (0 ≤ ((Int32.ofNat j) ^^^ 4)) then ((zrem (Int32.ofNat j) 4) : Int32) else (if ((zrem (Int32.ofNat j) 4) = 0) then ((zrem (Int32.ofNat j) 4) : Int32) else ((zrem (Int32.ofNat j) 4) + 4)))).toNatClampNeg (F41 x3 a.2.2))))))
set_option maxRecDepth 100000 in
theorem l112_7_2_21 {L : Nat} (x1 x3 x4 x6 : Int32) (i0 n : Nat) (a : Int32 × Option zV × zS) (hn : i0 + n < 2147483648) (hc0 : ∀ j, j < n → ¬ (((zfold (k112_7_2_21 x1 x3 x4 x6 ) i0 j a).2.2 51 x6.toNatClampNeg) < (Int32.ofNat (i0 + j)))) (hc1 : ∀ j, j < n → ¬ (x1 ≤ (zfold (k112_7_2_21 x1 x3 x4 x6 ) i0 j a).1)) (g0 : ∀ j, j < n → zx 216 x6) (g1 : ∀ j, j < n → (¬ (((zfold (k112_7_2_21 x1 x3 x4 x6 ) i0 j a).2.2 51 x6.toNatClampNeg) < (Int32.ofNat (i0 + j)))) → (¬ (x1 ≤ (zfold (k112_7_2_21 x1 x3 x4 x6 ) i0 j a).1)) → zx 864 ((x6 * 4) + (if (0 ≤ ((Int32.ofNat (i0 + j)) ^^^ 4)) then ((zrem (Int32.ofNat (i0 + j)) 4) : Int32) else (if ((zrem (Int32.ofNat (i0 + j)) 4) = 0) then ((zrem (Int32.ofNat (i0 + j)) 4) : Int32) else ((zrem (Int32.ofNat (i0 + j)) 4) + 4))))) : zt L 112 21 [some (.inr (.inr 7)), some (.inl x1), some (.inr (.inr 2)), some (.inl x3), some (.inl x4), some (.inl a.1), some (.inl x6), some (.inl (Int32.ofNat i0)), a.2.1] [] a.2.2 (.inl (21, [some (.inr (.inr 7)), some (.inl x1), some (.inr (.inr 2)), some (.inl x3), some (.inl x4), some (.inl (zfold (k112_7_2_21 x1 x3 x4 x6 ) i0 n a).1), some (.inl x6), some (.inl (Int32.ofNat (i0 + n))), (zfold (k112_7_2_21 x1 x3 x4 x6 ) i0 n a).2.1], [], (zfold (k112_7_2_21 x1 x3 x4 x6 ) i0 n a).2.2)) := by
  induction n with
  | zero => exact zt_rfl
  | succ n ih =>
    have e1 := zk_ix (i0 + n) (by omega)
    have e2 := zk_add (i0 + n)
    refine zt_trans (ih (by omega) (fun j hj => hc0 j (by omega)) (fun j hj => hc1 j (by omega)) (fun j hj => g0 j (by omega)) (fun j hj => g1 j (by omega))) ?_
    refine zt_cast (s112_7_2_21 x1 x3 x4 (zfold (k112_7_2_21 x1 x3 x4 x6 ) i0 n a).1 x6 (Int32.ofNat (i0 + n)) (zfold (k112_7_2_21 x1 x3 x4 x6 ) i0 n a).2.1 (zfold (k112_7_2_21 x1 x3 x4 x6 ) i0 n a).2.2 (by have hg := g0 n (by omega); first | exact hg | (simp only [e1]; exact hg)) (by have hg := g1 n (by omega); first | exact hg | (simp only [e1]; exact hg))) ?_
    rw [if_neg (show ¬ (((zfold (k112_7_2_21 x1 x3 x4 x6 ) i0 n a).2.2 51 x6.toNatClampNeg) < (Int32.ofNat (i0 + n))) from (by have hg := hc0 n (by omega); first | exact hg | (simp only [e1]; exact hg)))]
    rw [if_neg (show ¬ (x1 ≤ (zfold (k112_7_2_21 x1 x3 x4 x6 ) i0 n a).1) from (by have hg := hc1 n (by omega); first | exact hg | (simp only [e1]; exact hg)))]
    simp only [zfold, k112_7_2_21, e1, e2, ← Nat.add_assoc]
-- 126 X10_handOver: cut points [2, 19]
set_option maxRecDepth 100000 in
theorem s126_e {L : Nat} (a b : Int32) (S : zS) : zt L 126 0 [some (.inr (.inr 5)), some (.inl a), some (.inl b), none] [] S (.inl (2, [some (.inr (.inr 5)), some (.inl a), some (.inl b), some (.inl 0)], [], S)) := zr_0 i126_0 kc_0 (zr_3_3 i126_1 (zt_rfl))
set_option maxRecDepth 100000 in
theorem s126_2 {L : Nat} (x1 x2 x3 : Int32) (S : zS) (g0 : (¬ ((S 5 0) ≤ x3)) → zx 40 x3) : zt L 126 2 [some (.inr (.inr 5)), some (.inl x1), some (.inl x2), some (.inl x3)] [] S (if ((S 5 0) ≤ x3) then (.inl (19, [some (.inr (.inr 5)), some (.inl x1), some (.inl x2), some (.inl x3)], [], S)) else (.inl (2, [some (.inr (.inr 5)), some (.inl x1), some (.inl x2), some (.inl (x3 + 1))], [], (if ((S 32 x3.toNatClampNeg) = x1) then (z_up S 32 x3.toNatClampNeg x2) else S)))) := zr_1_3 i126_2 (zr_2_0 i126_3 (zr_6 i126_4 fl_5_0 (show S 5 0 = (S 5 0) from rfl) (zr_19_3 i126_5 (fun h1120 => zt_rfl) (fun h1121 => zr_2_0 i126_6 (zr_6r i126_7 fl_5_3 (zr_1_3 i126_8 (zr_8 i126_9 ar_32 (g0 h1121) rfl (show S 32 x3.toNatClampNeg = (S 32 x3.toNatClampNeg) from rfl) (zr_1_1 i126_10 (zt_trans (zt_cast (zr_19_1 i126_11 (fun h1122 => zr_2_0 i126_12 (zr_6r i126_13 fl_5_3 (zr_1_3 i126_14 (zr_1_2 i126_15 (zr_10 i126_16 ar_32 (g0 h1121) rfl (zt_rfl)))))) (fun h1123 => zt_rfl)) (zm_c zz_s zz_s zz_e)) (zr_5_3 i126_17 kc_1 (zr_17 i126_18 (zt_rfl))))))))))))
set_option maxRecDepth 100000 in
theorem s126_19 {L : Nat} (x1 x2 x3 : Int32) (S : zS) : zt L 126 19 [some (.inr (.inr 5)), some (.inl x1), some (.inl x2), some (.inl x3)] [] S (.inr (.inl none, S, 0)) := zr_27 i126_19
def k126_2 (x1 x2 : Int32) (j : Nat) (a : zS) : zS := (if ((a 32 j) = x1) then (z_up a 32 j x2) else a)
set_option maxRecDepth 100000 in
theorem l126_2 {L : Nat} (x1 x2 : Int32) (i0 n : Nat) (a : zS) (hn : i0 + n < 2147483648) (hc0 : ∀ j, j < n → ¬ (((zfold (k126_2 x1 x2 ) i0 j a) 5 0) ≤ (Int32.ofNat (i0 + j)))) (g0 : ∀ j, j < n → (¬ (((zfold (k126_2 x1 x2 ) i0 j a) 5 0) ≤ (Int32.ofNat (i0 + j)))) → zx 40 (Int32.ofNat (i0 + j))) : zt L 126 2 [some (.inr (.inr 5)), some (.inl x1), some (.inl x2), some (.inl (Int32.ofNat i0))] [] a (.inl (2, [some (.inr (.inr 5)), some (.inl x1), some (.inl x2), some (.inl (Int32.ofNat (i0 + n)))], [], (zfold (k126_2 x1 x2 ) i0 n a))) := by
  induction n with
  | zero => exact zt_rfl
  | succ n ih =>
    have e1 := zk_ix (i0 + n) (by omega)
    have e2 := zk_add (i0 + n)
    refine zt_trans (ih (by omega) (fun j hj => hc0 j (by omega)) (fun j hj => g0 j (by omega))) ?_
    refine zt_cast (s126_2 x1 x2 (Int32.ofNat (i0 + n)) (zfold (k126_2 x1 x2 ) i0 n a) (by have hg := g0 n (by omega); first | exact hg | (simp only [e1]; exact hg))) ?_
    rw [if_neg (show ¬ (((zfold (k126_2 x1 x2 ) i0 n a) 5 0) ≤ (Int32.ofNat (i0 + n))) from (by have hg := hc0 n (by omega); first | exact hg | (simp only [e1]; exact hg)))]
    simp only [zfold, k126_2, e1, e2, ← Nat.add_assoc]
-- 129 X10_kill: cut points [18, 39]
set_option maxRecDepth 100000 in
theorem s129_e {L : Nat} (a : Int32) (S : zS) (g0 : zx 40 a) : zt L 129 0 [some (.inr (.inr 5)), some (.inl a), none, none] [] S (if ((S 40 a.toNatClampNeg) = 0) then (.inl (18, [some (.inr (.inr 5)), some (.inl a), some (.inl 1), some (.inl (a + 1))], [], (z_up S 40 a.toNatClampNeg 1))) else (.inr (.inl (some (.inl 0)), S, 0))) := zr_2_0 i129_0 (zr_6r i129_1 fl_5_11 (zr_1_1 i129_2 (zr_9 i129_3 ar_40 (g0) rfl (show S 40 a.toNatClampNeg = (S 40 a.toNatClampNeg) from rfl) (zr_18_0 i129_4 (fun h1134 => zr_2_0 i129_7 (zr_6r i129_8 fl_5_11 (zr_1_1 i129_9 (zr_0 i129_10 kc_1 (zr_11 i129_11 ar_40 (g0) (zo_1) rfl (zr_0 i129_12 kc_1 (zr_3_2 i129_13 (zr_1_1 i129_14 (zr_0 i129_15 kc_1 (zr_13_0 i129_16 (zr_3_3 i129_17 (zt_rfl)))))))))))) (fun h1135 => zr_0 i129_5 kc_0 (zr_25 i129_6))))))
set_option maxRecDepth 100000 in
theorem s129_18 {L : Nat} (x1 x2 x3 : Int32) (S : zS) (g0 : (¬ ((S 5 0) ≤ x3)) → zx 40 x3) (g1 : (¬ ((S 5 0) ≤ x3)) → ((S 40 x3.toNatClampNeg) = 0) → ((S 39 x3.toNatClampNeg) = 0) → ((¬ ((S 30 x3.toNatClampNeg) < 0)) ∧ (¬ ((S 5 0) ≤ (S 30 x3.toNatClampNeg)))) → zx 40 (S 30 x3.toNatClampNeg)) : zt L 129 18 [some (.inr (.inr 5)), some (.inl x1), some (.inl x2), some (.inl x3)] [] S (if ((S 5 0) ≤ x3) then (.inl (39, [some (.inr (.inr 5)), some (.inl x1), some (.inl x2), some (.inl x3)], [], S)) else (.inl (18, [some (.inr (.inr 5)), some (.inl x1), some (.inl (if ((S 40 x3.toNatClampNeg) = 0) then ((if ((F130 x3 S) = 0) then (x2 : Int32) else (x2 + 1)) : Int32) else x2)), some (.inl (x3 + 1))], [], (if ((S 40 x3.toNatClampNeg) = 0) then (if ((F130 x3 S) = 0) then S else (z_up S 40 x3.toNatClampNeg 1)) else S)))) := zr_1_3 i129_18 (zr_2_0 i129_19 (zr_6 i129_20 fl_5_0 (show S 5 0 = (S 5 0) from rfl) (zr_19_3 i129_21 (fun h1136 => zt_rfl) (fun h1137 => zr_2_0 i129_22 (zr_6r i129_23 fl_5_11 (zr_1_3 i129_24 (zr_9 i129_25 ar_40 (g0 h1137) rfl (show S 40 x3.toNatClampNeg = (S 40 x3.toNatClampNeg) from rfl) (zt_trans (zt_cast (zr_18_1 i129_26 (fun h1138 => zr_2_0 i129_27 (zr_1_3 i129_28 (zr_cv (zs_21_1 i129_29 na_130 ob_5 rfl) (f130 x3 S (g0 h1137) (fun h1140 h1141 => (g1 h1137 h1138 h1140 h1141))) (zt_cast (zr_18_0 i129_30 (fun h1142 => zt_rfl) (fun h1143 => zr_2_0 i129_31 (zr_6r i129_32 fl_5_11 (zr_1_3 i129_33 (zr_0 i129_34 kc_1 (zr_11 i129_35 ar_40 (g0 h1137) (zo_1) rfl (zr_5_2 i129_36 kc_1 (zt_rfl)))))))) (zm_c (zl_c zz_s (zl_c zz_s (zl_c (zl_v zz_e) zz_s))) zz_s zz_e))))) (fun h1139 => zt_rfl)) (zm_c (zl_c zz_s (zl_c zz_s (zl_c (zl_v zz_e) zz_s))) zz_s zz_e)) (zr_5_3 i129_37 kc_1 (zr_17 i129_38 (zt_rfl)))))))))))
set_option maxRecDepth 100000 in
theorem s129_39 {L : Nat} (x1 x2 x3 : Int32) (S : zS) : zt L 129 39 [some (.inr (.inr 5)), some (.inl x1), some (.inl x2), some (.inl x3)] [] S (.inr (.inl (some (.inl x2)), S, 0)) := zr_1_2 i129_39 (zr_25 i129_40)
def k129_18 (x1 : Int32) (j : Nat) (a : Int32 × zS) : Int32 × zS := ((if ((a.2 40 j) = 0) then ((if ((F130 (Int32.ofNat j) a.2) = 0) then (a.1 : Int32) else (a.1 + 1)) : Int32) else a.1), (if ((a.2 40 j) = 0) then (if ((F130 (Int32.ofNat j) a.2) = 0) then a.2 else (z_up a.2 40 j 1)) else a.2))
set_option maxRecDepth 100000 in
theorem l129_18 {L : Nat} (x1 : Int32) (i0 n : Nat) (a : Int32 × zS) (hn : i0 + n < 2147483648) (hc0 : ∀ j, j < n → ¬ (((zfold (k129_18 x1 ) i0 j a).2 5 0) ≤ (Int32.ofNat (i0 + j)))) (g0 : ∀ j, j < n → (¬ (((zfold (k129_18 x1 ) i0 j a).2 5 0) ≤ (Int32.ofNat (i0 + j)))) → zx 40 (Int32.ofNat (i0 + j))) (g1 : ∀ j, j < n → (¬ (((zfold (k129_18 x1 ) i0 j a).2 5 0) ≤ (Int32.ofNat (i0 + j)))) → (((zfold (k129_18 x1 ) i0 j a).2 40 (i0 + j)) = 0) → (((zfold (k129_18 x1 ) i0 j a).2 39 (i0 + j)) = 0) → ((¬ (((zfold (k129_18 x1 ) i0 j a).2 30 (i0 + j)) < 0)) ∧ (¬ (((zfold (k129_18 x1 ) i0 j a).2 5 0) ≤ ((zfold (k129_18 x1 ) i0 j a).2 30 (i0 + j))))) → zx 40 ((zfold (k129_18 x1 ) i0 j a).2 30 (i0 + j))) : zt L 129 18 [some (.inr (.inr 5)), some (.inl x1), some (.inl a.1), some (.inl (Int32.ofNat i0))] [] a.2 (.inl (18, [some (.inr (.inr 5)), some (.inl x1), some (.inl (zfold (k129_18 x1 ) i0 n a).1), some (.inl (Int32.ofNat (i0 + n)))], [], (zfold (k129_18 x1 ) i0 n a).2)) := by
  induction n with
  | zero => exact zt_rfl
  | succ n ih =>
    have e1 := zk_ix (i0 + n) (by omega)
    have e2 := zk_add (i0 + n)
    refine zt_trans (ih (by omega) (fun j hj => hc0 j (by omega)) (fun j hj => g0 j (by omega)) (fun j hj => g1 j (by omega))) ?_
    refine zt_cast (s129_18 x1 (zfold (k129_18 x1 ) i0 n a).1 (Int32.ofNat (i0 + n)) (zfold (k129_18 x1 ) i0 n a).2 (by have hg := g0 n (by omega); first | exact hg | (simp only [e1]; exact hg)) (by have hg := g1 n (by omega); first | exact hg | (simp only [e1]; exact hg))) ?_
    rw [if_neg (show ¬ (((zfold (k129_18 x1 ) i0 n a).2 5 0) ≤ (Int32.ofNat (i0 + n))) from (by have hg := hc0 n (by omega); first | exact hg | (simp only [e1]; exact hg)))]
    simp only [zfold, k129_18, e1, e2, ← Nat.add_assoc]
-- 214 X12_noneGiven: cut points [2, 17]
set_option maxRecDepth 100000 in
theorem s214_e {L : Nat} (S : zS) : zt L 214 0 [some (.inr (.inr 13)), none] [] S (.inl (2, [some (.inr (.inr 13)), some (.inl 0)], [], S)) := zr_0 i214_0 kc_0 (zr_3_1 i214_1 (zt_rfl))
set_option maxRecDepth 100000 in
theorem s214_2 {L : Nat} (x1 : Int32) (S : zS) (g0 : (¬ (7 ≤ x1)) → zx 7 x1) : zt L 214 2 [some (.inr (.inr 13)), some (.inl x1)] [] S (if (7 ≤ x1) then (.inl (17, [some (.inr (.inr 13)), some (.inl x1)], [], S)) else (.inl (2, [some (.inr (.inr 13)), some (.inl (x1 + 1))], [], (z_up (z_up S 82 x1.toNatClampNeg (-1)) 83 x1.toNatClampNeg (-1))))) := zr_1_1 i214_2 (zr_0 i214_3 kc_7 (zr_19_3 i214_4 (fun h1149 => zt_rfl) (fun h1150 => zr_2_0 i214_5 (zr_6r i214_6 fl_13_7 (zr_1_1 i214_7 (zr_0 i214_8 kc_m1 (zr_10 i214_9 ar_82 (g0 h1150) rfl (zr_2_0 i214_10 (zr_6r i214_11 fl_13_8 (zr_1_1 i214_12 (zr_0 i214_13 kc_m1 (zr_10 i214_14 ar_83 (g0 h1150) rfl (zr_5_1 i214_15 kc_1 (zr_17 i214_16 (zt_rfl)))))))))))))))
set_option maxRecDepth 100000 in
theorem s214_17 {L : Nat} (x1 : Int32) (S : zS) : zt L 214 17 [some (.inr (.inr 13)), some (.inl x1)] [] S (.inr (.inl none, S, 0)) := zr_27 i214_17
def k214_2 (j : Nat) (a : zS) : zS := (z_up (z_up a 82 j (-1)) 83 j (-1))
set_option maxRecDepth 100000 in
theorem l214_2 {L : Nat} (i0 n : Nat) (a : zS) (hn : i0 + n < 2147483648) (hc0 : ∀ j, j < n → ¬ (7 ≤ (Int32.ofNat (i0 + j)))) (g0 : ∀ j, j < n → (¬ (7 ≤ (Int32.ofNat (i0 + j)))) → zx 7 (Int32.ofNat (i0 + j))) : zt L 214 2 [some (.inr (.inr 13)), some (.inl (Int32.ofNat i0))] [] a (.inl (2, [some (.inr (.inr 13)), some (.inl (Int32.ofNat (i0 + n)))], [], (zfold (k214_2 ) i0 n a))) := by
  induction n with
  | zero => exact zt_rfl
  | succ n ih =>
    have e1 := zk_ix (i0 + n) (by omega)
    have e2 := zk_add (i0 + n)
    refine zt_trans (ih (by omega) (fun j hj => hc0 j (by omega)) (fun j hj => g0 j (by omega))) ?_
    refine zt_cast (s214_2 (Int32.ofNat (i0 + n)) (zfold (k214_2 ) i0 n a) (by have hg := g0 n (by omega); first | exact hg | (simp only [e1]; exact hg))) ?_
    rw [if_neg (show ¬ (7 ≤ (Int32.ofNat (i0 + n))) from (by have hg := hc0 n (by omega); first | exact hg | (simp only [e1]; exact hg)))]
    simp only [zfold, k214_2, e1, e2, ← Nat.add_assoc]
-- 216 X12_deals: cut points [22, 33, 35, 43, 52, 63, 77, 79]
set_option maxRecDepth 100000 in
theorem s216_e {L : Nat} (a b c : Int32) (S : zS) : zt L 216 0 [some (.inr (.inr 13)), some (.inl a), some (.inl b), some (.inl c), none, none, none, none, none] [] S (.inl (22, [some (.inr (.inr 13)), some (.inl a), some (.inl b), some (.inl c), some (.inl (if ((S 13 3) = (-1)) then ((zrem ((1103 * a) + 12345) 65536) : Int32) else a)), some (.inl 1), none, none, none], [], (z_up (z_up (if ((S 13 3) = (-1)) then (z_up S 13 3 (zrem (zrem ((1103 * a) + 12345) 65536) 257)) else S) 13 4 b) 13 5 c))) := zr_1_1 i216_0 (zr_3_4 i216_1 (zr_2_0 i216_2 (zr_6 i216_3 fl_13_3 (show S 13 3 = (S 13 3) from rfl) (zr_0 i216_4 kc_m1 (zt_trans (zt_cast (zr_19_1 i216_5 (fun h1167 => zr_1_4 i216_6 (zr_cv (zs_22_1 i216_7 na_215 rfl) (f215 a S ) (zr_3_4 i216_8 (zr_2_0 i216_9 (zr_1_4 i216_10 (zr_0 i216_11 kc_257 (zr_13_4 i216_12 nz_257 (zr_7 i216_13 fl_13_3 (zt_rfl))))))))) (fun h1168 => zt_rfl)) (zm_c (zl_c zz_s (zl_c zz_s (zl_c zz_s (zl_c zz_s (zl_c (zl_v zz_e) zz_s))))) zz_s zz_e)) (zr_2_0 i216_14 (zr_1_2 i216_15 (zr_7 i216_16 fl_13_4 (zr_2_0 i216_17 (zr_1_3 i216_18 (zr_7 i216_19 fl_13_5 (zr_0 i216_20 kc_1 (zr_3_5 i216_21 (zt_rfl))))))))))))))
set_option maxRecDepth 100000 in
theorem s216_22 {L : Nat} (x1 x2 x3 x4 x5 : Int32) (S : zS) (g0 : (¬ (x2 < x5)) → zx 7 x5) : zt L 216 22 [some (.inr (.inr 13)), some (.inl x1), some (.inl x2), some (.inl x3), some (.inl x4), some (.inl x5), none, none, none] [] S (if (x2 < x5) then (.inl (33, [some (.inr (.inr 13)), some (.inl x1), some (.inl x2), some (.inl x3), some (.inl x4), some (.inl x5), none, none, none], [], S)) else (.inl (22, [some (.inr (.inr 13)), some (.inl x1), some (.inl x2), some (.inl x3), some (.inl x4), some (.inl (x5 + 1)), none, none, none], [], (z_up S 81 x5.toNatClampNeg (S 13 3))))) := zr_1_5 i216_22 (zr_1_2 i216_23 (zr_19_4 i216_24 (fun h1169 => zt_rfl) (fun h1170 => zr_2_0 i216_25 (zr_6r i216_26 fl_13_6 (zr_1_5 i216_27 (zr_2_0 i216_28 (zr_6 i216_29 fl_13_3 (show S 13 3 = (S 13 3) from rfl) (zr_10 i216_30 ar_81 (g0 h1170) rfl (zr_5_5 i216_31 kc_1 (zr_17 i216_32 (zt_rfl)))))))))))
set_option maxRecDepth 100000 in
theorem s216_33 {L : Nat} (x1 x2 x3 x4 x5 : Int32) (S : zS) : zt L 216 33 [some (.inr (.inr 13)), some (.inl x1), some (.inl x2), some (.inl x3), some (.inl x4), some (.inl x5), none, none, none] [] S (.inl (35, [some (.inr (.inr 13)), some (.inl x1), some (.inl x2), some (.inl x3), some (.inl x4), some (.inl 1), none, none, none], [], S)) := zr_0 i216_33 kc_1 (zr_3_5 i216_34 (zt_rfl))
set_option maxRecDepth 100000 in
theorem s216_35 {L : Nat} (x1 x2 x3 x4 x5 : Int32) (u6 u7 u8 : Option zV) (S : zS) : zt L 216 35 [some (.inr (.inr 13)), some (.inl x1), some (.inl x2), some (.inl x3), some (.inl x4), some (.inl x5), u6, u7, u8] [] S (if (x3 ≤ x5) then (.inl (79, [some (.inr (.inr 13)), some (.inl x1), some (.inl x2), some (.inl x3), some (.inl x4), some (.inl x5), u6, u7, u8], [], S)) else (.inl (43, [some (.inr (.inr 13)), some (.inl x1), some (.inl x2), some (.inl x3), some (.inl (zrem ((1103 * x4) + 12345) 65536)), some (.inl x5), some (.inl 1), u7, u8], [], S))) := zr_1_5 i216_35 (zr_1_3 i216_36 (zr_19_3 i216_37 (fun h1171 => zt_rfl) (fun h1172 => zr_1_4 i216_38 (zr_cv (zs_22_1 i216_39 na_215 rfl) (f215 x4 S ) (zr_3_4 i216_40 (zr_0 i216_41 kc_1 (zr_3_6 i216_42 (zt_rfl))))))))
set_option maxRecDepth 100000 in
theorem s216_43 {L : Nat} (x1 x2 x3 x4 x5 x6 : Int32) (u7 u8 : Option zV) (S : zS) : zt L 216 43 [some (.inr (.inr 13)), some (.inl x1), some (.inl x2), some (.inl x3), some (.inl x4), some (.inl x5), some (.inl x6), u7, u8] [] S (if (x2 < x6) then (.inl (77, [some (.inr (.inr 13)), some (.inl x1), some (.inl x2), some (.inl x3), some (.inl x4), some (.inl x5), some (.inl x6), u7, u8], [], S)) else (.inl (52, [some (.inr (.inr 13)), some (.inl x1), some (.inl x2), some (.inl x3), some (.inl x4), some (.inl x5), some (.inl x6), some (.inl (zrem x4 257)), some (.inl 0)], [], S))) := zr_1_6 i216_43 (zr_1_2 i216_44 (zr_19_4 i216_45 (fun h1173 => zt_rfl) (fun h1174 => zr_1_4 i216_46 (zr_0 i216_47 kc_257 (zr_13_4 i216_48 nz_257 (zr_3_7 i216_49 (zr_0 i216_50 kc_0 (zr_3_8 i216_51 (zt_rfl)))))))))
set_option maxRecDepth 100000 in
theorem s216_52 {L : Nat} (x1 x2 x3 x4 x5 x6 x7 x8 : Int32) (S : zS) : zt L 216 52 [some (.inr (.inr 13)), some (.inl x1), some (.inl x2), some (.inl x3), some (.inl x4), some (.inl x5), some (.inl x6), some (.inl x7), some (.inl x8)] [] S (if (x5 ≤ x8) then (.inl (63, [some (.inr (.inr 13)), some (.inl x1), some (.inl x2), some (.inl x3), some (.inl x4), some (.inl x5), some (.inl x6), some (.inl x7), some (.inl x8)], [], S)) else (.inl (52, [some (.inr (.inr 13)), some (.inl x1), some (.inl x2), some (.inl x3), some (.inl x4), some (.inl x5), some (.inl x6), some (.inl (zrem (x7 * x6) 257)), some (.inl (x8 + 1))], [], S))) := zr_1_8 i216_52 (zr_1_5 i216_53 (zr_19_3 i216_54 (fun h1175 => zt_rfl) (fun h1176 => zr_1_7 i216_55 (zr_1_6 i216_56 (zr_13_2 i216_57 (zr_0 i216_58 kc_257 (zr_13_4 i216_59 nz_257 (zr_3_7 i216_60 (zr_5_8 i216_61 kc_1 (zr_17 i216_62 (zt_rfl)))))))))))
set_option maxRecDepth 100000 in
theorem s216_63 {L : Nat} (x1 x2 x3 x4 x5 x6 x7 x8 : Int32) (S : zS) (g0 : zx 7 x6) : zt L 216 63 [some (.inr (.inr 13)), some (.inl x1), some (.inl x2), some (.inl x3), some (.inl x4), some (.inl x5), some (.inl x6), some (.inl x7), some (.inl x8)] [] S (.inl (43, [some (.inr (.inr 13)), some (.inl x1), some (.inl x2), some (.inl x3), some (.inl x4), some (.inl x5), some (.inl (x6 + 1)), some (.inl x7), some (.inl x8)], [], (z_up S 81 x6.toNatClampNeg (zrem ((S 81 x6.toNatClampNeg) + x7) 257)))) := zr_2_0 i216_63 (zr_6r i216_64 fl_13_6 (zr_1_6 i216_65 (zr_2_0 i216_66 (zr_6r i216_67 fl_13_6 (zr_1_6 i216_68 (zr_8 i216_69 ar_81 (g0) rfl (show S 81 x6.toNatClampNeg = (S 81 x6.toNatClampNeg) from rfl) (zr_1_7 i216_70 (zr_13_0 i216_71 (zr_0 i216_72 kc_257 (zr_13_4 i216_73 nz_257 (zr_10 i216_74 ar_81 (g0) rfl (zr_5_6 i216_75 kc_1 (zr_17 i216_76 (zt_rfl))))))))))))))
set_option maxRecDepth 100000 in
theorem s216_77 {L : Nat} (x1 x2 x3 x4 x5 x6 : Int32) (u7 u8 : Option zV) (S : zS) : zt L 216 77 [some (.inr (.inr 13)), some (.inl x1), some (.inl x2), some (.inl x3), some (.inl x4), some (.inl x5), some (.inl x6), u7, u8] [] S (.inl (35, [some (.inr (.inr 13)), some (.inl x1), some (.inl x2), some (.inl x3), some (.inl x4), some (.inl (x5 + 1)), some (.inl x6), u7, u8], [], S)) := zr_5_5 i216_77 kc_1 (zr_17 i216_78 (zt_rfl))
set_option maxRecDepth 100000 in
theorem s216_79 {L : Nat} (x1 x2 x3 x4 x5 : Int32) (u6 u7 u8 : Option zV) (S : zS) : zt L 216 79 [some (.inr (.inr 13)), some (.inl x1), some (.inl x2), some (.inl x3), some (.inl x4), some (.inl x5), u6, u7, u8] [] S (.inr (.inl none, S, 0)) := zr_27 i216_79
def k216_22 (x1 x2 x3 x4 : Int32) (j : Nat) (a : zS) : zS := (z_up a 81 j (a 13 3))
set_option maxRecDepth 100000 in
theorem l216_22 {L : Nat} (x1 x2 x3 x4 : Int32) (i0 n : Nat) (a : zS) (hn : i0 + n < 2147483648) (hc0 : ∀ j, j < n → ¬ (x2 < (Int32.ofNat (i0 + j)))) (g0 : ∀ j, j < n → (¬ (x2 < (Int32.ofNat (i0 + j)))) → zx 7 (Int32.ofNat (i0 + j))) : zt L 216 22 [some (.inr (.inr 13)), some (.inl x1), some (.inl x2), some (.inl x3), some (.inl x4), some (.inl (Int32.ofNat i0)), none, none, none] [] a (.inl (22, [some (.inr (.inr 13)), some (.inl x1), some (.inl x2), some (.inl x3), some (.inl x4), some (.inl (Int32.ofNat (i0 + n))), none, none, none], [], (zfold (k216_22 x1 x2 x3 x4 ) i0 n a))) := by
  induction n with
  | zero => exact zt_rfl
  | succ n ih =>
    have e1 := zk_ix (i0 + n) (by omega)
    have e2 := zk_add (i0 + n)
    refine zt_trans (ih (by omega) (fun j hj => hc0 j (by omega)) (fun j hj => g0 j (by omega))) ?_
    refine zt_cast (s216_22 x1 x2 x3 x4 (Int32.ofNat (i0 + n)) (zfold (k216_22 x1 x2 x3 x4 ) i0 n a) (by have hg := g0 n (by omega); first | exact hg | (simp only [e1]; exact hg))) ?_
    rw [if_neg (show ¬ (x2 < (Int32.ofNat (i0 + n))) from (by have hg := hc0 n (by omega); first | exact hg | (simp only [e1]; exact hg)))]
    simp only [zfold, k216_22, e1, e2, ← Nat.add_assoc]
def k216_52 (x1 x2 x3 x4 x5 x6 : Int32) (S : zS) (j : Nat) (a : Int32) : Int32 := (zrem (a * x6) 257)
set_option maxRecDepth 100000 in
theorem l216_52 {L : Nat} (x1 x2 x3 x4 x5 x6 : Int32) (S : zS) (i0 n : Nat) (a : Int32) (hn : i0 + n < 2147483648) (hc0 : ∀ j, j < n → ¬ (x5 ≤ (Int32.ofNat (i0 + j)))) : zt L 216 52 [some (.inr (.inr 13)), some (.inl x1), some (.inl x2), some (.inl x3), some (.inl x4), some (.inl x5), some (.inl x6), some (.inl a), some (.inl (Int32.ofNat i0))] [] S (.inl (52, [some (.inr (.inr 13)), some (.inl x1), some (.inl x2), some (.inl x3), some (.inl x4), some (.inl x5), some (.inl x6), some (.inl (zfold (k216_52 x1 x2 x3 x4 x5 x6 S) i0 n a)), some (.inl (Int32.ofNat (i0 + n)))], [], S)) := by
  induction n with
  | zero => exact zt_rfl
  | succ n ih =>
    have e1 := zk_ix (i0 + n) (by omega)
    have e2 := zk_add (i0 + n)
    refine zt_trans (ih (by omega) (fun j hj => hc0 j (by omega))) ?_
    refine zt_cast (s216_52 x1 x2 x3 x4 x5 x6 (zfold (k216_52 x1 x2 x3 x4 x5 x6 S) i0 n a) (Int32.ofNat (i0 + n)) S) ?_
    rw [if_neg (show ¬ (x5 ≤ (Int32.ofNat (i0 + n))) from (by have hg := hc0 n (by omega); first | exact hg | (simp only [e1]; exact hg)))]
    simp only [zfold, k216_52, e1, e2, ← Nat.add_assoc]
-- 220 X12_countOf: cut points [4, 20]
set_option maxRecDepth 100000 in
theorem s220_82_e {L : Nat} (S : zS) : zt L 220 0 [some (.inr (.inr 82)), none, none] [] S (.inl (4, [some (.inr (.inr 82)), some (.inl 0), some (.inl 1)], [], S)) := zr_0 i220_0 kc_0 (zr_3_1 i220_1 (zr_0 i220_2 kc_1 (zr_3_2 i220_3 (zt_rfl))))
set_option maxRecDepth 100000 in
theorem s220_82_4 {L : Nat} (x1 x2 : Int32) (S : zS) (g0 : (¬ (7 ≤ x2)) → zx 7 x2) : zt L 220 4 [some (.inr (.inr 82)), some (.inl x1), some (.inl x2)] [] S (if (7 ≤ x2) then (.inl (20, [some (.inr (.inr 82)), some (.inl x1), some (.inl x2)], [], S)) else (.inl (4, [some (.inr (.inr 82)), some (.inl (x1 + (zb (¬ ((S 82 x2.toNatClampNeg) = (-1)))))), some (.inl (x2 + 1))], [], S))) := zr_1_2 i220_4 (zr_0 i220_5 kc_7 (zr_19_3 i220_6 (fun h1181 => zt_rfl) (fun h1182 => zr_1_1 i220_7 (zr_2_0 i220_8 (zr_1_2 i220_9 (zr_8 i220_10 ar_82 (g0 h1182) rfl (show S 82 x2.toNatClampNeg = (S 82 x2.toNatClampNeg) from rfl) (zr_0 i220_11 kc_m1 (zt_trans (zt_cast (zr_19_1 i220_12 (fun h1183 => zr_0 i220_13 kc_0 (zr_17 i220_14 (zt_rfl))) (fun h1184 => zr_0 i220_15 kc_1 (zt_rfl))) (zm_c zz_s (zl_c (zl_t zz_01) zz_s) zz_s)) (zr_13_0 i220_16 (zr_3_1 i220_17 (zr_5_2 i220_18 kc_1 (zr_17 i220_19 (zt_rfl)))))))))))))
set_option maxRecDepth 100000 in
theorem s220_82_20 {L : Nat} (x1 x2 : Int32) (S : zS) : zt L 220 20 [some (.inr (.inr 82)), some (.inl x1), some (.inl x2)] [] S (.inr (.inl (some (.inl x1)), S, 0)) := zr_1_1 i220_20 (zr_25 i220_21)
def k220_82_4 (S : zS) (j : Nat) (a : Int32) : Int32 := (a + (zb (¬ ((S 82 j) = (-1)))))
set_option maxRecDepth 100000 in
theorem l220_82_4 {L : Nat} (S : zS) (i0 n : Nat) (a : Int32) (hn : i0 + n < 2147483648) (hc0 : ∀ j, j < n → ¬ (7 ≤ (Int32.ofNat (i0 + j)))) (g0 : ∀ j, j < n → (¬ (7 ≤ (Int32.ofNat (i0 + j)))) → zx 7 (Int32.ofNat (i0 + j))) : zt L 220 4 [some (.inr (.inr 82)), some (.inl a), some (.inl (Int32.ofNat i0))] [] S (.inl (4, [some (.inr (.inr 82)), some (.inl (zfold (k220_82_4 S) i0 n a)), some (.inl (Int32.ofNat (i0 + n)))], [], S)) := by
  induction n with
  | zero => exact zt_rfl
  | succ n ih =>
    have e1 := zk_ix (i0 + n) (by omega)
    have e2 := zk_add (i0 + n)
    refine zt_trans (ih (by omega) (fun j hj => hc0 j (by omega)) (fun j hj => g0 j (by omega))) ?_
    refine zt_cast (s220_82_4 (zfold (k220_82_4 S) i0 n a) (Int32.ofNat (i0 + n)) S (by have hg := g0 n (by omega); first | exact hg | (simp only [e1]; exact hg))) ?_
    rw [if_neg (show ¬ (7 ≤ (Int32.ofNat (i0 + n))) from (by have hg := hc0 n (by omega); first | exact hg | (simp only [e1]; exact hg)))]
    simp only [zfold, k220_82_4, e1, e2, ← Nat.add_assoc]
-- 220 X12_countOf: cut points [4, 20]
set_option maxRecDepth 100000 in
theorem s220_83_e {L : Nat} (S : zS) : zt L 220 0 [some (.inr (.inr 83)), none, none] [] S (.inl (4, [some (.inr (.inr 83)), some (.inl 0), some (.inl 1)], [], S)) := zr_0 i220_0 kc_0 (zr_3_1 i220_1 (zr_0 i220_2 kc_1 (zr_3_2 i220_3 (zt_rfl))))
set_option maxRecDepth 100000 in
theorem s220_83_4 {L : Nat} (x1 x2 : Int32) (S : zS) (g0 : (¬ (7 ≤ x2)) → zx 7 x2) : zt L 220 4 [some (.inr (.inr 83)), some (.inl x1), some (.inl x2)] [] S (if (7 ≤ x2) then (.inl (20, [some (.inr (.inr 83)), some (.inl x1), some (.inl x2)], [], S)) else (.inl (4, [some (.inr (.inr 83)), some (.inl (x1 + (zb (¬ ((S 83 x2.toNatClampNeg) = (-1)))))), some (.inl (x2 + 1))], [], S))) := zr_1_2 i220_4 (zr_0 i220_5 kc_7 (zr_19_3 i220_6 (fun h1189 => zt_rfl) (fun h1190 => zr_1_1 i220_7 (zr_2_0 i220_8 (zr_1_2 i220_9 (zr_8 i220_10 ar_83 (g0 h1190) rfl (show S 83 x2.toNatClampNeg = (S 83 x2.toNatClampNeg) from rfl) (zr_0 i220_11 kc_m1 (zt_trans (zt_cast (zr_19_1 i220_12 (fun h1191 => zr_0 i220_13 kc_0 (zr_17 i220_14 (zt_rfl))) (fun h1192 => zr_0 i220_15 kc_1 (zt_rfl))) (zm_c zz_s (zl_c (zl_t zz_01) zz_s) zz_s)) (zr_13_0 i220_16 (zr_3_1 i220_17 (zr_5_2 i220_18 kc_1 (zr_17 i220_19 (zt_rfl)))))))))))))
set_option maxRecDepth 100000 in
theorem s220_83_20 {L : Nat} (x1 x2 : Int32) (S : zS) : zt L 220 20 [some (.inr (.inr 83)), some (.inl x1), some (.inl x2)] [] S (.inr (.inl (some (.inl x1)), S, 0)) := zr_1_1 i220_20 (zr_25 i220_21)
def k220_83_4 (S : zS) (j : Nat) (a : Int32) : Int32 := (a + (zb (¬ ((S 83 j) = (-1)))))
set_option maxRecDepth 100000 in
theorem l220_83_4 {L : Nat} (S : zS) (i0 n : Nat) (a : Int32) (hn : i0 + n < 2147483648) (hc0 : ∀ j, j < n → ¬ (7 ≤ (Int32.ofNat (i0 + j)))) (g0 : ∀ j, j < n → (¬ (7 ≤ (Int32.ofNat (i0 + j)))) → zx 7 (Int32.ofNat (i0 + j))) : zt L 220 4 [some (.inr (.inr 83)), some (.inl a), some (.inl (Int32.ofNat i0))] [] S (.inl (4, [some (.inr (.inr 83)), some (.inl (zfold (k220_83_4 S) i0 n a)), some (.inl (Int32.ofNat (i0 + n)))], [], S)) := by
  induction n with
  | zero => exact zt_rfl
  | succ n ih =>
    have e1 := zk_ix (i0 + n) (by omega)
    have e2 := zk_add (i0 + n)
    refine zt_trans (ih (by omega) (fun j hj => hc0 j (by omega)) (fun j hj => g0 j (by omega))) ?_
    refine zt_cast (s220_83_4 (zfold (k220_83_4 S) i0 n a) (Int32.ofNat (i0 + n)) S (by have hg := g0 n (by omega); first | exact hg | (simp only [e1]; exact hg))) ?_
    rw [if_neg (show ¬ (7 ≤ (Int32.ofNat (i0 + n))) from (by have hg := hc0 n (by omega); first | exact hg | (simp only [e1]; exact hg)))]
    simp only [zfold, k220_83_4, e1, e2, ← Nat.add_assoc]
-- 221 X12_inverse: cut points [2, 11]
set_option maxRecDepth 100000 in
theorem s221_e {L : Nat} (a : Int32) (S : zS) : zt L 221 0 [some (.inl a), none] [] S (.inl (2, [some (.inl a), some (.inl 1)], [], S)) := zr_0 i221_0 kc_1 (zr_3_1 i221_1 (zt_rfl))
set_option maxRecDepth 100000 in
theorem s221_2 {L : Nat} (x0 x1 : Int32) (S : zS) : zt L 221 2 [some (.inl x0), some (.inl x1)] [] S (if ((zrem (x1 * x0) 257) = 1) then (.inl (11, [some (.inl x0), some (.inl x1)], [], S)) else (.inl (2, [some (.inl x0), some (.inl (x1 + 1))], [], S))) := zr_1_1 i221_2 (zr_1_0 i221_3 (zr_13_2 i221_4 (zr_0 i221_5 kc_257 (zr_13_4 i221_6 nz_257 (zr_0 i221_7 kc_1 (zr_19_0 i221_8 (fun h1195 => zt_rfl) (fun h1196 => zr_5_1 i221_9 kc_1 (zr_17 i221_10 (zt_rfl)))))))))
set_option maxRecDepth 100000 in
theorem s221_11 {L : Nat} (x0 x1 : Int32) (S : zS) : zt L 221 11 [some (.inl x0), some (.inl x1)] [] S (.inr (.inl (some (.inl x1)), S, 0)) := zr_1_1 i221_11 (zr_25 i221_12)
def k221_2 (x0 : Int32) (S : zS) (j : Nat) (a : Unit) : Unit := ()
set_option maxRecDepth 100000 in
theorem l221_2 {L : Nat} (x0 : Int32) (S : zS) (i0 n : Nat) (a : Unit) (hn : i0 + n < 2147483648) (hc0 : ∀ j, j < n → ¬ ((zrem ((Int32.ofNat (i0 + j)) * x0) 257) = 1)) : zt L 221 2 [some (.inl x0), some (.inl (Int32.ofNat i0))] [] S (.inl (2, [some (.inl x0), some (.inl (Int32.ofNat (i0 + n)))], [], S)) := by
  induction n with
  | zero => exact zt_rfl
  | succ n ih =>
    have e1 := zk_ix (i0 + n) (by omega)
    have e2 := zk_add (i0 + n)
    refine zt_trans (ih (by omega) (fun j hj => hc0 j (by omega))) ?_
    refine zt_cast (s221_2 x0 (Int32.ofNat (i0 + n)) S) ?_
    rw [if_neg (show ¬ ((zrem ((Int32.ofNat (i0 + n)) * x0) 257) = 1) from (by have hg := hc0 n (by omega); first | exact hg | (simp only [e1]; exact hg)))]
    simp only [zfold, k221_2, e1, e2, ← Nat.add_assoc]
-- 234 X12_rewrap: cut points [25, 37, 89, 91]
set_option maxRecDepth 100000 in
theorem s234_e {L : Nat} (a : Int32) (S : zS) : zt L 234 0 [some (.inr (.inr 13)), some (.inl a), none, none, none, none, none] [] S (if ((if ((¬ (a < 1)) ∧ (¬ (50 < a))) then ((if ((S 13 2) = 0) then (2 : Int32) else 0) : Int32) else 1) = 0) then (.inl (25, [some (.inr (.inr 13)), some (.inl a), some (.inl 0), some (.inl (S 13 13)), some (.inl 0), none, none], [], (z_up S 13 0 (if ((¬ (a < 1)) ∧ (¬ (50 < a))) then ((if ((S 13 2) = 0) then (2 : Int32) else 0) : Int32) else 1)))) else (.inr (.inl (some (.inl 0)), (z_up S 13 0 (if ((¬ (a < 1)) ∧ (¬ (50 < a))) then ((if ((S 13 2) = 0) then (2 : Int32) else 0) : Int32) else 1)), 0))) := zr_2_0 i234_0 (zr_1_1 i234_1 (zr_0 i234_2 kc_1 (zr_0 i234_3 kc_50 (zr_cv (zs_22_3 i234_4 na_213 rfl) (f213 a 1 50 S ) (zt_trans (zt_cast (zr_18b_1 i234_5 (fun h1259 => zr_2_0 i234_8 (zr_6 i234_9 fl_13_2 (show S 13 2 = (S 13 2) from rfl) (zt_cast (zr_18_0 i234_10 (fun h1261 => zr_0 i234_13 kc_2 (zt_rfl)) (fun h1262 => zr_0 i234_11 kc_0 (zr_17 i234_12 (zt_rfl)))) (zm_c zz_s (zl_c (zl_t zz_e) zz_s) zz_s)))) (fun h1260 => zr_0 i234_6 kc_1 (zr_17 i234_7 (zt_rfl)))) (zm_c zz_s (zl_c (zl_t zz_e) zz_s) zz_s)) (zr_cv (zs_21_1 i234_14 na_212 ob_13 rfl) (f212 (if ((¬ (a < 1)) ∧ (¬ (50 < a))) then ((if ((S 13 2) = 0) then (2 : Int32) else 0) : Int32) else 1) S ) (zr_18b_1 i234_15 (fun h1263 => zr_0 i234_18 kc_0 (zr_3_2 i234_19 (zr_2_0 i234_20 (zr_6 i234_21 fl_13_13 (show (z_up S 13 0 (if ((¬ (a < 1)) ∧ (¬ (50 < a))) then ((if ((S 13 2) = 0) then (2 : Int32) else 0) : Int32) else 1)) 13 13 = (S 13 13) from rfl) (zr_3_3 i234_22 (zr_0 i234_23 kc_0 (zr_3_4 i234_24 (zt_rfl)))))))) (fun h1264 => zr_0 i234_16 kc_0 (zr_25 i234_17)))))))))
set_option maxRecDepth 100000 in
theorem s234_25 {L : Nat} (x1 x2 x3 x4 : Int32) (u5 u6 : Option zV) (S : zS) (g0 : (¬ (216 ≤ x4)) → zx 216 x4) : zt L 234 25 [some (.inr (.inr 13)), some (.inl x1), some (.inl x2), some (.inl x3), some (.inl x4), u5, u6] [] S (if (216 ≤ x4) then (.inl (91, [some (.inr (.inr 13)), some (.inl x1), some (.inl x2), some (.inl x3), some (.inl x4), u5, u6], [], S)) else (.inl (37, [some (.inr (.inr 13)), some (.inl x1), some (.inl x2), some (.inl x3), some (.inl x4), some (.inl (((S 88 x4.toNatClampNeg) - 4) + 1)), u6], [], S))) := zr_1_4 i234_25 (zr_0 i234_26 kc_216 (zr_19_3 i234_27 (fun h1265 => zt_rfl) (fun h1266 => zr_2_0 i234_28 (zr_6r i234_29 fl_13_23 (zr_1_4 i234_30 (zr_8 i234_31 ar_88 (g0 h1266) rfl (show S 88 x4.toNatClampNeg = (S 88 x4.toNatClampNeg) from rfl) (zr_0 i234_32 kc_4 (zr_13_1 i234_33 (zr_0 i234_34 kc_1 (zr_13_0 i234_35 (zr_3_5 i234_36 (zt_rfl))))))))))))
set_option maxRecDepth 100000 in
theorem s234_37 {L : Nat} (x1 x2 x3 x4 x5 : Int32) (u6 : Option zV) (S : zS) (g0 : zx 216 x4) (g1 : (¬ ((S 88 x4.toNatClampNeg) < x5)) → (¬ (x1 ≤ x2)) → ((¬ (x5 < 1)) ∧ ((¬ ((S 88 x4.toNatClampNeg) < x5)) ∧ (¬ (x5 ≤ ((S 88 x4.toNatClampNeg) - 4))))) → zx 864 ((4 * x4) + (zrem (x5 + 4) 4))) : zt L 234 37 [some (.inr (.inr 13)), some (.inl x1), some (.inl x2), some (.inl x3), some (.inl x4), some (.inl x5), u6] [] S (if ((S 88 x4.toNatClampNeg) < x5) then (.inl (89, [some (.inr (.inr 13)), some (.inl x1), some (.inl x2), some (.inl x3), some (.inl x4), some (.inl x5), u6], [], S)) else (if (x1 ≤ x2) then (.inl (89, [some (.inr (.inr 13)), some (.inl x1), some (.inl x2), some (.inl x3), some (.inl x4), some (.inl x5), u6], [], S)) else (.inl (37, [some (.inr (.inr 13)), some (.inl x1), some (.inl (if ((¬ (x5 < 1)) ∧ ((¬ ((S 88 x4.toNatClampNeg) < x5)) ∧ (¬ (x5 ≤ ((S 88 x4.toNatClampNeg) - 4))))) then ((if ((S 91 ((4 * x4) + (zrem (x5 + 4) 4)).toNatClampNeg) = 2) then (x2 : Int32) else (if (x3 ≤ (S 90 ((4 * x4) + (zrem (x5 + 4) 4)).toNatClampNeg)) then (x2 : Int32) else (if ((S 90 ((4 * x4) + (zrem (x5 + 4) 4)).toNatClampNeg) < (S 13 18)) then (x2 : Int32) else (x2 + 1)))) : Int32) else x2)), some (.inl x3), some (.inl x4), some (.inl (x5 + 1)), some (.inl ((4 * x4) + (zrem (x5 + 4) 4)))], [], (if ((¬ (x5 < 1)) ∧ ((¬ ((S 88 x4.toNatClampNeg) < x5)) ∧ (¬ (x5 ≤ ((S 88 x4.toNatClampNeg) - 4))))) then (if ((S 91 ((4 * x4) + (zrem (x5 + 4) 4)).toNatClampNeg) = 2) then S else (if (x3 ≤ (S 90 ((4 * x4) + (zrem (x5 + 4) 4)).toNatClampNeg)) then S else (if ((S 90 ((4 * x4) + (zrem (x5 + 4) 4)).toNatClampNeg) < (S 13 18)) then S else (z_up (G229 S) 90 ((4 * x4) + (zrem (x5 + 4) 4)).toNatClampNeg (F229 S))))) else S))))) := zr_1_5 i234_37 (zr_2_0 i234_38 (zr_6r i234_39 fl_13_23 (zr_1_4 i234_40 (zr_8 i234_41 ar_88 (g0) rfl (show S 88 x4.toNatClampNeg = (S 88 x4.toNatClampNeg) from rfl) (zr_19_4 i234_42 (fun h1267 => zt_rfl) (fun h1268 => zr_1_2 i234_43 (zr_1_1 i234_44 (zr_19_3 i234_45 (fun h1269 => zt_rfl) (fun h1270 => zr_0 i234_46 kc_4 (zr_1_4 i234_47 (zr_13_2 i234_48 (zr_1_5 i234_49 (zr_0 i234_50 kc_4 (zr_13_0 i234_51 (zr_0 i234_52 kc_4 (zr_13_4 i234_53 nz_4 (zr_13_0 i234_54 (zr_3_6 i234_55 (zr_2_0 i234_56 (zr_1_4 i234_57 (zr_1_5 i234_58 (zr_cv (zs_21_2 i234_59 na_233 ob_13 rfl) (f233 x4 x5 S (fun h1271 => (g0))) (zt_trans (zt_cast (zr_18b_0 i234_60 (fun h1272 => zr_2_0 i234_61 (zr_6r i234_62 fl_13_26 (zr_1_6 i234_63 (zr_8 i234_64 ar_91 (g1 h1268 h1270 h1272) rfl (show S 91 ((4 * x4) + (zrem (x5 + 4) 4)).toNatClampNeg = (S 91 ((4 * x4) + (zrem (x5 + 4) 4)).toNatClampNeg) from rfl) (zr_0 i234_65 kc_2 (zt_cast (zr_19_0 i234_66 (fun h1274 => zt_rfl) (fun h1275 => zr_2_0 i234_67 (zr_6r i234_68 fl_13_25 (zr_1_6 i234_69 (zr_8 i234_70 ar_90 (g1 h1268 h1270 h1272) rfl (show S 90 ((4 * x4) + (zrem (x5 + 4) 4)).toNatClampNeg = (S 90 ((4 * x4) + (zrem (x5 + 4) 4)).toNatClampNeg) from rfl) (zr_1_3 i234_71 (zt_cast (zr_19_3 i234_72 (fun h1276 => zt_rfl) (fun h1277 => zr_2_0 i234_73 (zr_6r i234_74 fl_13_25 (zr_1_6 i234_75 (zr_8 i234_76 ar_90 (g1 h1268 h1270 h1272) rfl (show S 90 ((4 * x4) + (zrem (x5 + 4) 4)).toNatClampNeg = (S 90 ((4 * x4) + (zrem (x5 + 4) 4)).toNatClampNeg) from rfl) (zr_2_0 i234_77 (zr_6 i234_78 fl_13_18 (show S 13 18 = (S 13 18) from rfl) (zt_cast (zr_19_2 i234_79 (fun h1278 => zt_rfl) (fun h1279 => zr_2_0 i234_80 (zr_6r i234_81 fl_13_25 (zr_1_6 i234_82 (zr_2_0 i234_83 (zr_cv (zs_21_0 i234_84 na_229 ob_13 rfl) (f229  S ) (zr_10 i234_85 ar_90 (g1 h1268 h1270 h1272) rfl (zr_5_2 i234_86 kc_1 (zt_rfl))))))))) (zm_c (zl_c zz_s (zl_c zz_s (zl_c (zl_v zz_e) zz_s))) zz_s zz_e))))))))) (zm_c (zl_c zz_s (zl_c zz_s (zl_c (zl_v zz_e) zz_s))) zz_s zz_e)))))))) (zm_c (zl_c zz_s (zl_c zz_s (zl_c (zl_v zz_e) zz_s))) zz_s zz_e))))))) (fun h1273 => zt_rfl)) (zm_c (zl_c zz_s (zl_c zz_s (zl_c (zl_v zz_e) zz_s))) zz_s zz_e)) (zr_5_5 i234_87 kc_1 (zr_17 i234_88 (zt_rfl))))))))))))))))))))))))))
set_option maxRecDepth 100000 in
theorem s234_89 {L : Nat} (x1 x2 x3 x4 x5 : Int32) (u6 : Option zV) (S : zS) : zt L 234 89 [some (.inr (.inr 13)), some (.inl x1), some (.inl x2), some (.inl x3), some (.inl x4), some (.inl x5), u6] [] S (.inl (25, [some (.inr (.inr 13)), some (.inl x1), some (.inl x2), some (.inl x3), some (.inl (x4 + 1)), some (.inl x5), u6], [], S)) := zr_5_4 i234_89 kc_1 (zr_17 i234_90 (zt_rfl))
set_option maxRecDepth 100000 in
theorem s234_91 {L : Nat} (x1 x2 x3 x4 : Int32) (u5 u6 : Option zV) (S : zS) : zt L 234 91 [some (.inr (.inr 13)), some (.inl x1), some (.inl x2), some (.inl x3), some (.inl x4), u5, u6] [] S (.inr (.inl (some (.inl x2)), S, 0)) := zr_1_2 i234_91 (zr_25 i234_92)
def k234_37 (x1 x3 x4 : Int32) (j : Nat) (a : Int32 × Option zV × zS) : Int32 × Option zV × zS := ((if ((¬ ((Int32.ofNat j) < 1)) ∧ ((¬ ((a.2.2 88 x4.toNatClampNeg) < (Int32.ofNat j))) ∧ (¬ ((Int32.ofNat j) ≤ ((a.2.2 88 x4.toNatClampNeg) - 4))))) then ((if ((a.2.2 91 ((4 * x4) + (zrem ((Int32.ofNat j) + 4) 4)).toNatClampNeg) = 2) then (a.1 : Int32) else (if (x3 ≤ (a.2.2 90 ((4 * x4) + (zrem ((Int32.ofNat j) + 4) 4)).toNatClampNeg)) then (a.1 : Int32) else (if ((a.2.2 90 ((4 * x4) + (zrem ((Int32.ofNat j) + 4) 4)).toNatClampNeg) < (a.2.2 13 18)) then (a.1 : Int32) else (a.1 + 1)))) : Int32) else a.1), (some (.inl ((4 * x4) + (zrem ((Int32.ofNat j) + 4) 4)))), (if ((¬ ((Int32.ofNat j) < 1)) ∧ ((¬ ((a.2.2 88 x4.toNatClampNeg) < (Int32.ofNat j))) ∧ (¬ ((Int32.ofNat j) ≤ ((a.2.2 88 x4.toNatClampNeg) - 4))))) then (if ((a.2.2 91 ((4 * x4) + (zrem ((Int32.ofNat j) + 4) 4)).toNatClampNeg) = 2) then a.2.2 else (if (x3 ≤ (a.2.2 90 ((4 * x4) + (zrem ((Int32.ofNat j) + 4) 4)).toNatClampNeg)) then a.2.2 else (if ((a.2.2 90 ((4 * x4) + (zrem ((Int32.ofNat j) + 4) 4)).toNatClampNeg) < (a.2.2 13 18)) then a.2.2 else (z_up (G229 a.2.2) 90 ((4 * x4) + (zrem ((Int32.ofNat j) + 4) 4)).toNatClampNeg (F229 a.2.2))))) else a.2.2))
set_option maxRecDepth 100000 in
theorem l234_37 {L : Nat} (x1 x3 x4 : Int32) (i0 n : Nat) (a : Int32 × Option zV × zS) (hn : i0 + n < 2147483648) (hc0 : ∀ j, j < n → ¬ (((zfold (k234_37 x1 x3 x4 ) i0 j a).2.2 88 x4.toNatClampNeg) < (Int32.ofNat (i0 + j)))) (hc1 : ∀ j, j < n → ¬ (x1 ≤ (zfold (k234_37 x1 x3 x4 ) i0 j a).1)) (g0 : ∀ j, j < n → zx 216 x4) (g1 : ∀ j, j < n → (¬ (((zfold (k234_37 x1 x3 x4 ) i0 j a).2.2 88 x4.toNatClampNeg) < (Int32.ofNat (i0 + j)))) → (¬ (x1 ≤ (zfold (k234_37 x1 x3 x4 ) i0 j a).1)) → ((¬ ((Int32.ofNat (i0 + j)) < 1)) ∧ ((¬ (((zfold (k234_37 x1 x3 x4 ) i0 j a).2.2 88 x4.toNatClampNeg) < (Int32.ofNat (i0 + j)))) ∧ (¬ ((Int32.ofNat (i0 + j)) ≤ (((zfold (k234_37 x1 x3 x4 ) i0 j a).2.2 88 x4.toNatClampNeg) - 4))))) → zx 864 ((4 * x4) + (zrem ((Int32.ofNat (i0 + j)) + 4) 4))) : zt L 234 37 [some (.inr (.inr 13)), some (.inl x1), some (.inl a.1), some (.inl x3), some (.inl x4), some (.inl (Int32.ofNat i0)), a.2.1] [] a.2.2 (.inl (37, [some (.inr (.inr 13)), some (.inl x1), some (.inl (zfold (k234_37 x1 x3 x4 ) i0 n a).1), some (.inl x3), some (.inl x4), some (.inl (Int32.ofNat (i0 + n))), (zfold (k234_37 x1 x3 x4 ) i0 n a).2.1], [], (zfold (k234_37 x1 x3 x4 ) i0 n a).2.2)) := by
  induction n with
  | zero => exact zt_rfl
  | succ n ih =>
    have e1 := zk_ix (i0 + n) (by omega)
    have e2 := zk_add (i0 + n)
    refine zt_trans (ih (by omega) (fun j hj => hc0 j (by omega)) (fun j hj => hc1 j (by omega)) (fun j hj => g0 j (by omega)) (fun j hj => g1 j (by omega))) ?_
    refine zt_cast (s234_37 x1 (zfold (k234_37 x1 x3 x4 ) i0 n a).1 x3 x4 (Int32.ofNat (i0 + n)) (zfold (k234_37 x1 x3 x4 ) i0 n a).2.1 (zfold (k234_37 x1 x3 x4 ) i0 n a).2.2 (by have hg := g0 n (by omega); first | exact hg | (simp only [e1]; exact hg)) (by have hg := g1 n (by omega); first | exact hg | (simp only [e1]; exact hg))) ?_
    rw [if_neg (show ¬ (((zfold (k234_37 x1 x3 x4 ) i0 n a).2.2 88 x4.toNatClampNeg) < (Int32.ofNat (i0 + n))) from (by have hg := hc0 n (by omega); first | exact hg | (simp only [e1]; exact hg)))]
    rw [if_neg (show ¬ (x1 ≤ (zfold (k234_37 x1 x3 x4 ) i0 n a).1) from (by have hg := hc1 n (by omega); first | exact hg | (simp only [e1]; exact hg)))]
    simp only [zfold, k234_37, e1, e2, ← Nat.add_assoc]
-- 271 X12_endsAt: cut points [4, 43]
set_option maxRecDepth 100000 in
theorem s271_e {L : Nat} (a b : Int32) (S : zS) : zt L 271 0 [some (.inr (.inr 13)), some (.inl a), some (.inl b), none, none, none] [] S (.inl (4, [some (.inr (.inr 13)), some (.inl a), some (.inl b), some (.inl 0), some (.inl 0), none], [], S)) := zr_0 i271_0 kc_0 (zr_3_3 i271_1 (zr_0 i271_2 kc_0 (zr_3_4 i271_3 (zt_rfl))))
set_option maxRecDepth 100000 in
theorem s271_4 {L : Nat} (x1 x2 x3 x4 : Int32) (u5 : Option zV) (S : zS) (g0 : (¬ ((S 13 57) ≤ x4)) → zx 40 x4) (g1 : (¬ ((S 13 57) ≤ x4)) → (((S 125 x4.toNatClampNeg) = 0) ∧ ((((S 121 x4.toNatClampNeg) / 36) = x1) ∧ ((x2 = (-1)) ∨ ((if (1 = 0) then (((S 121 x4.toNatClampNeg) / 36) : Int32) else (if (1 = 1) then ((zrem ((S 121 x4.toNatClampNeg) / 6) 6) : Int32) else (zrem (S 121 x4.toNatClampNeg) 6))) = x2)))) → zx 3 (S 122 x4.toNatClampNeg)) : zt L 271 4 [some (.inr (.inr 13)), some (.inl x1), some (.inl x2), some (.inl x3), some (.inl x4), u5] [] S (if ((S 13 57) ≤ x4) then (.inl (43, [some (.inr (.inr 13)), some (.inl x1), some (.inl x2), some (.inl x3), some (.inl x4), u5], [], S)) else (.inl (4, [some (.inr (.inr 13)), some (.inl x1), some (.inl x2), some (.inl (if (((S 125 x4.toNatClampNeg) = 0) ∧ ((((S 121 x4.toNatClampNeg) / 36) = x1) ∧ ((x2 = (-1)) ∨ ((if (1 = 0) then (((S 121 x4.toNatClampNeg) / 36) : Int32) else (if (1 = 1) then ((zrem ((S 121 x4.toNatClampNeg) / 6) 6) : Int32) else (zrem (S 121 x4.toNatClampNeg) 6))) = x2)))) then ((x3 + 1) : Int32) else x3)), some (.inl (x4 + 1)), some (.inl (zb (((S 125 x4.toNatClampNeg) = 0) ∧ ((((S 121 x4.toNatClampNeg) / 36) = x1) ∧ ((x2 = (-1)) ∨ ((if (1 = 0) then (((S 121 x4.toNatClampNeg) / 36) : Int32) else (if (1 = 1) then ((zrem ((S 121 x4.toNatClampNeg) / 6) 6) : Int32) else (zrem (S 121 x4.toNatClampNeg) 6))) = x2))))))], [], (if (((S 125 x4.toNatClampNeg) = 0) ∧ ((((S 121 x4.toNatClampNeg) / 36) = x1) ∧ ((x2 = (-1)) ∨ ((if (1 = 0) then (((S 121 x4.toNatClampNeg) / 36) : Int32) else (if (1 = 1) then ((zrem ((S 121 x4.toNatClampNeg) / 6) 6) : Int32) else (zrem (S 121 x4.toNatClampNeg) 6))) = x2)))) then (G269 x4 (z_up (z_up S 123 x4.toNatClampNeg (S 13 1)) 126 x4.toNatClampNeg 0)) else S)))) := zr_1_4 i271_4 (zr_2_0 i271_5 (zr_6 i271_6 fl_13_57 (show S 13 57 = (S 13 57) from rfl) (zr_19_3 i271_7 (fun h1304 => zt_rfl) (fun h1305 => zr_2_0 i271_8 (zr_6r i271_9 fl_13_63 (zr_1_4 i271_10 (zr_8 i271_11 ar_125 (g0 h1305) rfl (show S 125 x4.toNatClampNeg = (S 125 x4.toNatClampNeg) from rfl) (zt_trans (zt_cast (zr_18_1 i271_12 (fun h1306 => zr_2_0 i271_13 (zr_6r i271_14 fl_13_59 (zr_1_4 i271_15 (zr_8 i271_16 ar_121 (g0 h1305) rfl (show S 121 x4.toNatClampNeg = (S 121 x4.toNatClampNeg) from rfl) (zr_cv (zs_22_1 i271_17 na_237 rfl) (f237 (S 121 x4.toNatClampNeg) S ) (zr_1_1 i271_18 (zt_cast (zr_19_1 i271_19 (fun h1308 => zr_1_2 i271_20 (zr_0 i271_21 kc_m1 (zt_cast (zr_19_0 i271_22 (fun h1310 => zr_0 i271_31 kc_1 (zr_17 i271_32 (zt_rfl))) (fun h1311 => zr_2_0 i271_23 (zr_6r i271_24 fl_13_59 (zr_1_4 i271_25 (zr_8 i271_26 ar_121 (g0 h1305) rfl (show S 121 x4.toNatClampNeg = (S 121 x4.toNatClampNeg) from rfl) (zr_0 i271_27 kc_1 (zr_cv (zs_22_2 i271_28 na_253 rfl) (f253 (S 121 x4.toNatClampNeg) 1 S ) (zr_1_2 i271_29 (zt_cast (zr_19_1 i271_30 (fun h1312 => zr_0 i271_31 kc_1 (zr_17 i271_32 (zt_rfl))) (fun h1313 => zr_0 i271_33 kc_0 (zt_rfl))) (zm_c zz_s (zl_c (zl_t zz_10) zz_s) zz_s)))))))))) (zm_c zz_s (zl_c (zl_t zz_1b) zz_s) zz_s)))) (fun h1309 => zr_0 i271_33 kc_0 (zt_rfl))) (zm_c zz_s (zl_c (zl_t zz_b0) zz_s) zz_s)))))))) (fun h1307 => zr_0 i271_33 kc_0 (zt_rfl))) (zm_c zz_s (zl_c (zl_t zz_b0) zz_s) zz_s)) (zr_3_5 i271_34 (zr_1_5 i271_35 (zt_trans (zt_cast (zr_18b_0 i271_36 (fun h1314 => zr_2_0 i271_37 (zr_1_4 i271_38 (zr_cn (zs_21_1 i271_39 na_270 ob_13 rfl) (f270 x4 S (g0 h1305) (g1 h1305 h1314)) (zr_5_3 i271_40 kc_1 (zt_rfl))))) (fun h1315 => zt_rfl)) (zm_c (zl_c zz_s (zl_c zz_s (zl_c zz_s (zl_c (zl_v zz_e) zz_s)))) zz_s zz_e)) (zr_5_4 i271_41 kc_1 (zr_17 i271_42 (zt_rfl))))))))))))))
set_option maxRecDepth 100000 in
theorem s271_43 {L : Nat} (x1 x2 x3 x4 : Int32) (u5 : Option zV) (S : zS) : zt L 271 43 [some (.inr (.inr 13)), some (.inl x1), some (.inl x2), some (.inl x3), some (.inl x4), u5] [] S (.inr (.inl (some (.inl x3)), S, 0)) := zr_1_3 i271_43 (zr_25 i271_44)
def k271_4 (x1 x2 : Int32) (j : Nat) (a : Int32 × Option zV × zS) : Int32 × Option zV × zS := ((if (((a.2.2 125 j) = 0) ∧ ((((a.2.2 121 j) / 36) = x1) ∧ ((x2 = (-1)) ∨ ((if (1 = 0) then (((a.2.2 121 j) / 36) : Int32) else (if (1 = 1) then ((zrem ((a.2.2 121 j) / 6) 6) : Int32) else (zrem (a.2.2 121 j) 6))) = x2)))) then ((a.1 + 1) : Int32) else a.1), (some (.inl (zb (((a.2.2 125 j) = 0) ∧ ((((a.2.2 121 j) / 36) = x1) ∧ ((x2 = (-1)) ∨ ((if (1 = 0) then (((a.2.2 121 j) / 36) : Int32) else (if (1 = 1) then ((zrem ((a.2.2 121 j) / 6) 6) : Int32) else (zrem (a.2.2 121 j) 6))) = x2))))))), (if (((a.2.2 125 j) = 0) ∧ ((((a.2.2 121 j) / 36) = x1) ∧ ((x2 = (-1)) ∨ ((if (1 = 0) then (((a.2.2 121 j) / 36) : Int32) else (if (1 = 1) then ((zrem ((a.2.2 121 j) / 6) 6) : Int32) else (zrem (a.2.2 121 j) 6))) = x2)))) then (G269 (Int32.ofNat j) (z_up (z_up a.2.2 123 j (a.2.2 13 1)) 126 j 0)) else a.2.2))
set_option maxRecDepth 100000 in
theorem l271_4 {L : Nat} (x1 x2 : Int32) (i0 n : Nat) (a : Int32 × Option zV × zS) (hn : i0 + n < 2147483648) (hc0 : ∀ j, j < n → ¬ (((zfold (k271_4 x1 x2 ) i0 j a).2.2 13 57) ≤ (Int32.ofNat (i0 + j)))) (g0 : ∀ j, j < n → (¬ (((zfold (k271_4 x1 x2 ) i0 j a).2.2 13 57) ≤ (Int32.ofNat (i0 + j)))) → zx 40 (Int32.ofNat (i0 + j))) (g1 : ∀ j, j < n → (¬ (((zfold (k271_4 x1 x2 ) i0 j a).2.2 13 57) ≤ (Int32.ofNat (i0 + j)))) → ((((zfold (k271_4 x1 x2 ) i0 j a).2.2 125 (i0 + j)) = 0) ∧ (((((zfold (k271_4 x1 x2 ) i0 j a).2.2 121 (i0 + j)) / 36) = x1) ∧ ((x2 = (-1)) ∨ ((if (1 = 0) then ((((zfold (k271_4 x1 x2 ) i0 j a).2.2 121 (i0 + j)) / 36) : Int32) else (if (1 = 1) then ((zrem (((zfold (k271_4 x1 x2 ) i0 j a).2.2 121 (i0 + j)) / 6) 6) : Int32) else (zrem ((zfold (k271_4 x1 x2 ) i0 j a).2.2 121 (i0 + j)) 6))) = x2)))) → zx 3 ((zfold (k271_4 x1 x2 ) i0 j a).2.2 122 (i0 + j))) : zt L 271 4 [some (.inr (.inr 13)), some (.inl x1), some (.inl x2), some (.inl a.1), some (.inl (Int32.ofNat i0)), a.2.1] [] a.2.2 (.inl (4, [some (.inr (.inr 13)), some (.inl x1), some (.inl x2), some (.inl (zfold (k271_4 x1 x2 ) i0 n a).1), some (.inl (Int32.ofNat (i0 + n))), (zfold (k271_4 x1 x2 ) i0 n a).2.1], [], (zfold (k271_4 x1 x2 ) i0 n a).2.2)) := by
  induction n with
  | zero => exact zt_rfl
  | succ n ih =>
    have e1 := zk_ix (i0 + n) (by omega)
    have e2 := zk_add (i0 + n)
    refine zt_trans (ih (by omega) (fun j hj => hc0 j (by omega)) (fun j hj => g0 j (by omega)) (fun j hj => g1 j (by omega))) ?_
    refine zt_cast (s271_4 x1 x2 (zfold (k271_4 x1 x2 ) i0 n a).1 (Int32.ofNat (i0 + n)) (zfold (k271_4 x1 x2 ) i0 n a).2.1 (zfold (k271_4 x1 x2 ) i0 n a).2.2 (by have hg := g0 n (by omega); first | exact hg | (simp only [e1]; exact hg)) (by have hg := g1 n (by omega); first | exact hg | (simp only [e1]; exact hg))) ?_
    rw [if_neg (show ¬ (((zfold (k271_4 x1 x2 ) i0 n a).2.2 13 57) ≤ (Int32.ofNat (i0 + n))) from (by have hg := hc0 n (by omega); first | exact hg | (simp only [e1]; exact hg)))]
    simp only [zfold, k271_4, e1, e2, ← Nat.add_assoc]
-- 249 X12_merge: cut points [23, 56, 58, 80, 82, 126]
set_option maxRecDepth 100000 in
theorem s249_e {L : Nat} (a b : Int32) (S : zS) : zt L 249 0 [some (.inr (.inr 13)), some (.inl a), some (.inl b), none, none, none] [] S (if ((if ((¬ (a < 0)) ∧ (¬ (7 < a))) then ((if ((¬ (b < 0)) ∧ (¬ (7 < b))) then ((if (a = b) then (2 : Int32) else 0) : Int32) else 1) : Int32) else 1) = 0) then (.inl (23, [some (.inr (.inr 13)), some (.inl a), some (.inl b), some (.inl 0), some (.inl 0), none], [], (z_up S 13 0 (if ((¬ (a < 0)) ∧ (¬ (7 < a))) then ((if ((¬ (b < 0)) ∧ (¬ (7 < b))) then ((if (a = b) then (2 : Int32) else 0) : Int32) else 1) : Int32) else 1)))) else (.inr (.inl (some (.inl 0)), (z_up S 13 0 (if ((¬ (a < 0)) ∧ (¬ (7 < a))) then ((if ((¬ (b < 0)) ∧ (¬ (7 < b))) then ((if (a = b) then (2 : Int32) else 0) : Int32) else 1) : Int32) else 1)), 0))) := zr_2_0 i249_0 (zr_1_1 i249_1 (zr_cv (zs_22_1 i249_2 na_244 rfl) (f244 a S ) (zt_trans (zt_cast (zr_18b_0 i249_3 (fun h1352 => zr_1_2 i249_4 (zr_cv (zs_22_1 i249_5 na_244 rfl) (f244 b S ) (zt_cast (zr_18b_1 i249_6 (fun h1354 => zr_1_1 i249_9 (zr_1_2 i249_10 (zt_cast (zr_19_1 i249_11 (fun h1356 => zr_0 i249_12 kc_2 (zr_17 i249_13 (zt_rfl))) (fun h1357 => zr_0 i249_14 kc_0 (zt_rfl))) (zm_c zz_s (zl_c (zl_t zz_e) zz_s) zz_s)))) (fun h1355 => zr_0 i249_7 kc_1 (zr_17 i249_8 (zt_rfl)))) (zm_c zz_s (zl_c (zl_t zz_e) zz_s) zz_s)))) (fun h1353 => zr_0 i249_7 kc_1 (zr_17 i249_8 (zt_rfl)))) (zm_c zz_s (zl_c (zl_t zz_e) zz_s) zz_s)) (zr_cv (zs_21_1 i249_15 na_212 ob_13 rfl) (f212 (if ((¬ (a < 0)) ∧ (¬ (7 < a))) then ((if ((¬ (b < 0)) ∧ (¬ (7 < b))) then ((if (a = b) then (2 : Int32) else 0) : Int32) else 1) : Int32) else 1) S ) (zr_18b_1 i249_16 (fun h1358 => zr_0 i249_19 kc_0 (zr_3_3 i249_20 (zr_0 i249_21 kc_0 (zr_3_4 i249_22 (zt_rfl))))) (fun h1359 => zr_0 i249_17 kc_0 (zr_25 i249_18)))))))
set_option maxRecDepth 100000 in
theorem s249_23 {L : Nat} (x1 x2 x3 x4 : Int32) (S : zS) (g0 : (¬ (18 ≤ x4)) → zx 18 x4) : zt L 249 23 [some (.inr (.inr 13)), some (.inl x1), some (.inl x2), some (.inl x3), some (.inl x4), none] [] S (if (18 ≤ x4) then (.inl (56, [some (.inr (.inr 13)), some (.inl x1), some (.inl x2), some (.inl x3), some (.inl x4), none], [], S)) else (.inl (23, [some (.inr (.inr 13)), some (.inl x1), some (.inl x2), some (.inl (x3 + (zb ((S 106 x4.toNatClampNeg) = x1)))), some (.inl (x4 + 1)), none], [], (z_up S 106 x4.toNatClampNeg (if ((S 106 x4.toNatClampNeg) = x1) then (x2 : Int32) else (S 106 x4.toNatClampNeg)))))) := zr_1_4 i249_23 (zr_0 i249_24 kc_18 (zr_19_3 i249_25 (fun h1360 => zt_rfl) (fun h1361 => zr_1_3 i249_26 (zr_2_0 i249_27 (zr_6r i249_28 fl_13_42 (zr_1_4 i249_29 (zr_8 i249_30 ar_106 (g0 h1361) rfl (show S 106 x4.toNatClampNeg = (S 106 x4.toNatClampNeg) from rfl) (zr_1_1 i249_31 (zt_trans (zt_cast (zr_19_1 i249_32 (fun h1362 => zr_0 i249_33 kc_1 (zr_17 i249_34 (zt_rfl))) (fun h1363 => zr_0 i249_35 kc_0 (zt_rfl))) (zm_c zz_s (zl_c (zl_t zz_10) zz_s) zz_s)) (zr_13_0 i249_36 (zr_3_3 i249_37 (zr_2_0 i249_38 (zr_6r i249_39 fl_13_42 (zr_1_4 i249_40 (zr_2_0 i249_41 (zr_6r i249_42 fl_13_42 (zr_1_4 i249_43 (zr_8 i249_44 ar_106 (g0 h1361) rfl (show S 106 x4.toNatClampNeg = (S 106 x4.toNatClampNeg) from rfl) (zr_1_1 i249_45 (zt_trans (zt_cast (zr_19_1 i249_46 (fun h1364 => zr_1_2 i249_47 (zr_17 i249_48 (zt_rfl))) (fun h1365 => zr_2_0 i249_49 (zr_6r i249_50 fl_13_42 (zr_1_4 i249_51 (zr_8 i249_52 ar_106 (g0 h1361) rfl (show S 106 x4.toNatClampNeg = (S 106 x4.toNatClampNeg) from rfl) (zt_rfl)))))) (zm_c zz_s (zl_c (zl_t zz_e) zz_s) zz_s)) (zr_10 i249_53 ar_106 (g0 h1361) rfl (zr_5_4 i249_54 kc_1 (zr_17 i249_55 (zt_rfl))))))))))))))))))))))))
set_option maxRecDepth 100000 in
theorem s249_56 {L : Nat} (x1 x2 x3 x4 : Int32) (S : zS) : zt L 249 56 [some (.inr (.inr 13)), some (.inl x1), some (.inl x2), some (.inl x3), some (.inl x4), none] [] S (.inl (58, [some (.inr (.inr 13)), some (.inl x1), some (.inl x2), some (.inl x3), some (.inl 0), none], [], S)) := zr_0 i249_56 kc_0 (zr_3_4 i249_57 (zt_rfl))
set_option maxRecDepth 100000 in
theorem s249_58 {L : Nat} (x1 x2 x3 x4 : Int32) (S : zS) (g0 : (¬ ((S 13 45) ≤ x4)) → zx 40 x4) : zt L 249 58 [some (.inr (.inr 13)), some (.inl x1), some (.inl x2), some (.inl x3), some (.inl x4), none] [] S (if ((S 13 45) ≤ x4) then (.inl (80, [some (.inr (.inr 13)), some (.inl x1), some (.inl x2), some (.inl x3), some (.inl x4), none], [], S)) else (.inl (58, [some (.inr (.inr 13)), some (.inl x1), some (.inl x2), some (.inl x3), some (.inl (x4 + 1)), none], [], (z_up S 111 x4.toNatClampNeg (if ((S 111 x4.toNatClampNeg) = x1) then (x2 : Int32) else (S 111 x4.toNatClampNeg)))))) := zr_1_4 i249_58 (zr_2_0 i249_59 (zr_6 i249_60 fl_13_45 (show S 13 45 = (S 13 45) from rfl) (zr_19_3 i249_61 (fun h1366 => zt_rfl) (fun h1367 => zr_2_0 i249_62 (zr_6r i249_63 fl_13_48 (zr_1_4 i249_64 (zr_2_0 i249_65 (zr_6r i249_66 fl_13_48 (zr_1_4 i249_67 (zr_8 i249_68 ar_111 (g0 h1367) rfl (show S 111 x4.toNatClampNeg = (S 111 x4.toNatClampNeg) from rfl) (zr_1_1 i249_69 (zt_trans (zt_cast (zr_19_1 i249_70 (fun h1368 => zr_1_2 i249_71 (zr_17 i249_72 (zt_rfl))) (fun h1369 => zr_2_0 i249_73 (zr_6r i249_74 fl_13_48 (zr_1_4 i249_75 (zr_8 i249_76 ar_111 (g0 h1367) rfl (show S 111 x4.toNatClampNeg = (S 111 x4.toNatClampNeg) from rfl) (zt_rfl)))))) (zm_c zz_s (zl_c (zl_t zz_e) zz_s) zz_s)) (zr_10 i249_77 ar_111 (g0 h1367) rfl (zr_5_4 i249_78 kc_1 (zr_17 i249_79 (zt_rfl))))))))))))))))
set_option maxRecDepth 100000 in
theorem s249_80 {L : Nat} (x1 x2 x3 x4 : Int32) (S : zS) : zt L 249 80 [some (.inr (.inr 13)), some (.inl x1), some (.inl x2), some (.inl x3), some (.inl x4), none] [] S (.inl (82, [some (.inr (.inr 13)), some (.inl x1), some (.inl x2), some (.inl x3), some (.inl 0), none], [], S)) := zr_0 i249_80 kc_0 (zr_3_4 i249_81 (zt_rfl))
set_option maxRecDepth 100000 in
theorem s249_82 {L : Nat} (x1 x2 x3 x4 : Int32) (u5 : Option zV) (S : zS) (g0 : (¬ (4 ≤ x4)) → zx 4 x4) : zt L 249 82 [some (.inr (.inr 13)), some (.inl x1), some (.inl x2), some (.inl x3), some (.inl x4), u5] [] S (if (4 ≤ x4) then (.inl (126, [some (.inr (.inr 13)), some (.inl x1), some (.inl x2), some (.inl x3), some (.inl x4), u5], [], S)) else (.inl (82, [some (.inr (.inr 13)), some (.inl x1), some (.inl x2), some (.inl x3), some (.inl (x4 + 1)), some (.inl (zb (((zshr (S 107 x4.toNatClampNeg) x1) &&& 1) = 1)))], [], (z_up S 107 x4.toNatClampNeg (if (((zshr (S 107 x4.toNatClampNeg) x1) &&& 1) = 1) then ((((S 107 x4.toNatClampNeg) &&& ((zshl 1 x1) ^^^ (-1))) ||| (zshl 1 x2)) : Int32) else (S 107 x4.toNatClampNeg)))))) := zr_1_4 i249_82 (zr_0 i249_83 kc_4 (zr_19_3 i249_84 (fun h1370 => zt_rfl) (fun h1371 => zr_2_0 i249_85 (zr_6r i249_86 fl_13_43 (zr_1_4 i249_87 (zr_8 i249_88 ar_107 (g0 h1371) rfl (show S 107 x4.toNatClampNeg = (S 107 x4.toNatClampNeg) from rfl) (zr_1_1 i249_89 (zr_13_9 i249_90 (zr_0 i249_91 kc_1 (zr_13_5 i249_92 (zr_0 i249_93 kc_1 (zt_trans (zt_cast (zr_19_1 i249_94 (fun h1372 => zr_0 i249_95 kc_1 (zr_17 i249_96 (zt_rfl))) (fun h1373 => zr_0 i249_97 kc_0 (zt_rfl))) (zm_c zz_s (zl_c (zl_t zz_10) zz_s) zz_s)) (zr_3_5 i249_98 (zr_2_0 i249_99 (zr_6r i249_100 fl_13_43 (zr_1_4 i249_101 (zr_1_5 i249_102 (zt_trans (zt_cast (zr_18b_0 i249_103 (fun h1374 => zr_2_0 i249_104 (zr_6r i249_105 fl_13_43 (zr_1_4 i249_106 (zr_8 i249_107 ar_107 (g0 h1371) rfl (show S 107 x4.toNatClampNeg = (S 107 x4.toNatClampNeg) from rfl) (zr_0 i249_108 kc_1 (zr_1_1 i249_109 (zr_13_8 i249_110 (zr_0 i249_111 kc_m1 (zr_13_7 i249_112 (zr_13_5 i249_113 (zr_0 i249_114 kc_1 (zr_1_2 i249_115 (zr_13_8 i249_116 (zr_13_6 i249_117 (zr_17 i249_118 (zt_rfl)))))))))))))))) (fun h1375 => zr_2_0 i249_119 (zr_6r i249_120 fl_13_43 (zr_1_4 i249_121 (zr_8 i249_122 ar_107 (g0 h1371) rfl (show S 107 x4.toNatClampNeg = (S 107 x4.toNatClampNeg) from rfl) (zt_rfl)))))) (zm_c zz_s (zl_c (zl_t zz_e) zz_s) zz_s)) (zr_10 i249_123 ar_107 (g0 h1371) rfl (zr_5_4 i249_124 kc_1 (zr_17 i249_125 (zt_rfl))))))))))))))))))))))
set_option maxRecDepth 100000 in
theorem s249_126 {L : Nat} (x1 x2 x3 x4 : Int32) (u5 : Option zV) (S : zS) : zt L 249 126 [some (.inr (.inr 13)), some (.inl x1), some (.inl x2), some (.inl x3), some (.inl x4), u5] [] S (.inr (.inl (some (.inl x3)), S, 0)) := zr_1_3 i249_126 (zr_25 i249_127)
def k249_23 (x1 x2 : Int32) (j : Nat) (a : Int32 × zS) : Int32 × zS := ((a.1 + (zb ((a.2 106 j) = x1))), (z_up a.2 106 j (if ((a.2 106 j) = x1) then (x2 : Int32) else (a.2 106 j))))
set_option maxRecDepth 100000 in
theorem l249_23 {L : Nat} (x1 x2 : Int32) (i0 n : Nat) (a : Int32 × zS) (hn : i0 + n < 2147483648) (hc0 : ∀ j, j < n → ¬ (18 ≤ (Int32.ofNat (i0 + j)))) (g0 : ∀ j, j < n → (¬ (18 ≤ (Int32.ofNat (i0 + j)))) → zx 18 (Int32.ofNat (i0 + j))) : zt L 249 23 [some (.inr (.inr 13)), some (.inl x1), some (.inl x2), some (.inl a.1), some (.inl (Int32.ofNat i0)), none] [] a.2 (.inl (23, [some (.inr (.inr 13)), some (.inl x1), some (.inl x2), some (.inl (zfold (k249_23 x1 x2 ) i0 n a).1), some (.inl (Int32.ofNat (i0 + n))), none], [], (zfold (k249_23 x1 x2 ) i0 n a).2)) := by
  induction n with
  | zero => exact zt_rfl
  | succ n ih =>
    have e1 := zk_ix (i0 + n) (by omega)
    have e2 := zk_add (i0 + n)
    refine zt_trans (ih (by omega) (fun j hj => hc0 j (by omega)) (fun j hj => g0 j (by omega))) ?_
    refine zt_cast (s249_23 x1 x2 (zfold (k249_23 x1 x2 ) i0 n a).1 (Int32.ofNat (i0 + n)) (zfold (k249_23 x1 x2 ) i0 n a).2 (by have hg := g0 n (by omega); first | exact hg | (simp only [e1]; exact hg))) ?_
    rw [if_neg (show ¬ (18 ≤ (Int32.ofNat (i0 + n))) from (by have hg := hc0 n (by omega); first | exact hg | (simp only [e1]; exact hg)))]
    simp only [zfold, k249_23, e1, e2, ← Nat.add_assoc]
def k249_58 (x1 x2 x3 : Int32) (j : Nat) (a : zS) : zS := (z_up a 111 j (if ((a 111 j) = x1) then (x2 : Int32) else (a 111 j)))
set_option maxRecDepth 100000 in
theorem l249_58 {L : Nat} (x1 x2 x3 : Int32) (i0 n : Nat) (a : zS) (hn : i0 + n < 2147483648) (hc0 : ∀ j, j < n → ¬ (((zfold (k249_58 x1 x2 x3 ) i0 j a) 13 45) ≤ (Int32.ofNat (i0 + j)))) (g0 : ∀ j, j < n → (¬ (((zfold (k249_58 x1 x2 x3 ) i0 j a) 13 45) ≤ (Int32.ofNat (i0 + j)))) → zx 40 (Int32.ofNat (i0 + j))) : zt L 249 58 [some (.inr (.inr 13)), some (.inl x1), some (.inl x2), some (.inl x3), some (.inl (Int32.ofNat i0)), none] [] a (.inl (58, [some (.inr (.inr 13)), some (.inl x1), some (.inl x2), some (.inl x3), some (.inl (Int32.ofNat (i0 + n))), none], [], (zfold (k249_58 x1 x2 x3 ) i0 n a))) := by
  induction n with
  | zero => exact zt_rfl
  | succ n ih =>
    have e1 := zk_ix (i0 + n) (by omega)
    have e2 := zk_add (i0 + n)
    refine zt_trans (ih (by omega) (fun j hj => hc0 j (by omega)) (fun j hj => g0 j (by omega))) ?_
    refine zt_cast (s249_58 x1 x2 x3 (Int32.ofNat (i0 + n)) (zfold (k249_58 x1 x2 x3 ) i0 n a) (by have hg := g0 n (by omega); first | exact hg | (simp only [e1]; exact hg))) ?_
    rw [if_neg (show ¬ (((zfold (k249_58 x1 x2 x3 ) i0 n a) 13 45) ≤ (Int32.ofNat (i0 + n))) from (by have hg := hc0 n (by omega); first | exact hg | (simp only [e1]; exact hg)))]
    simp only [zfold, k249_58, e1, e2, ← Nat.add_assoc]
def k249_82 (x1 x2 x3 : Int32) (j : Nat) (a : Option zV × zS) : Option zV × zS := ((some (.inl (zb (((zshr (a.2 107 j) x1) &&& 1) = 1)))), (z_up a.2 107 j (if (((zshr (a.2 107 j) x1) &&& 1) = 1) then ((((a.2 107 j) &&& ((zshl 1 x1) ^^^ (-1))) ||| (zshl 1 x2)) : Int32) else (a.2 107 j))))
set_option maxRecDepth 100000 in
theorem l249_82 {L : Nat} (x1 x2 x3 : Int32) (i0 n : Nat) (a : Option zV × zS) (hn : i0 + n < 2147483648) (hc0 : ∀ j, j < n → ¬ (4 ≤ (Int32.ofNat (i0 + j)))) (g0 : ∀ j, j < n → (¬ (4 ≤ (Int32.ofNat (i0 + j)))) → zx 4 (Int32.ofNat (i0 + j))) : zt L 249 82 [some (.inr (.inr 13)), some (.inl x1), some (.inl x2), some (.inl x3), some (.inl (Int32.ofNat i0)), a.1] [] a.2 (.inl (82, [some (.inr (.inr 13)), some (.inl x1), some (.inl x2), some (.inl x3), some (.inl (Int32.ofNat (i0 + n))), (zfold (k249_82 x1 x2 x3 ) i0 n a).1], [], (zfold (k249_82 x1 x2 x3 ) i0 n a).2)) := by
  induction n with
  | zero => exact zt_rfl
  | succ n ih =>
    have e1 := zk_ix (i0 + n) (by omega)
    have e2 := zk_add (i0 + n)
    refine zt_trans (ih (by omega) (fun j hj => hc0 j (by omega)) (fun j hj => g0 j (by omega))) ?_
    refine zt_cast (s249_82 x1 x2 x3 (Int32.ofNat (i0 + n)) (zfold (k249_82 x1 x2 x3 ) i0 n a).1 (zfold (k249_82 x1 x2 x3 ) i0 n a).2 (by have hg := g0 n (by omega); first | exact hg | (simp only [e1]; exact hg))) ?_
    rw [if_neg (show ¬ (4 ≤ (Int32.ofNat (i0 + n))) from (by have hg := hc0 n (by omega); first | exact hg | (simp only [e1]; exact hg)))]
    simp only [zfold, k249_82, e1, e2, ← Nat.add_assoc]
-- 251 X12_groupsOf: cut points [4, 11, 47, 48]
set_option maxRecDepth 100000 in
theorem s251_e {L : Nat} (a : Int32) (S : zS) : zt L 251 0 [some (.inr (.inr 13)), some (.inl a), none, none, none, none] [] S (.inl (4, [some (.inr (.inr 13)), some (.inl a), some (.inl 0), some (.inl (-1)), none, none], [], S)) := zr_0 i251_0 kc_0 (zr_3_2 i251_1 (zr_0 i251_2 kc_m1 (zr_3_3 i251_3 (zt_rfl))))
set_option maxRecDepth 100000 in
theorem s251_4 {L : Nat} (x1 x2 x3 : Int32) (u4 u5 : Option zV) (S : zS) : zt L 251 4 [some (.inr (.inr 13)), some (.inl x1), some (.inl x2), some (.inl x3), u4, u5] [] S (if (x3 = x2) then (.inl (48, [some (.inr (.inr 13)), some (.inl x1), some (.inl x2), some (.inl x3), u4, u5], [], S)) else (.inl (11, [some (.inr (.inr 13)), some (.inl x1), some (.inl x2), some (.inl x2), some (.inl 0), u5], [], S))) := zr_1_3 i251_4 (zr_1_2 i251_5 (zr_19_0 i251_6 (fun h1398 => zt_rfl) (fun h1399 => zr_1_2 i251_7 (zr_3_3 i251_8 (zr_0 i251_9 kc_0 (zr_3_4 i251_10 (zt_rfl)))))))
set_option maxRecDepth 100000 in
theorem s251_11 {L : Nat} (x1 x2 x3 x4 : Int32) (u5 : Option zV) (S : zS) (g0 : (¬ (4 ≤ x4)) → zx 4 x4) : zt L 251 11 [some (.inr (.inr 13)), some (.inl x1), some (.inl x2), some (.inl x3), some (.inl x4), u5] [] S (if (4 ≤ x4) then (.inl (47, [some (.inr (.inr 13)), some (.inl x1), some (.inl x2), some (.inl x3), some (.inl x4), u5], [], S)) else (.inl (11, [some (.inr (.inr 13)), some (.inl x1), some (.inl (x2 ||| (if ((((zshr (S 107 x4.toNatClampNeg) x1) &&& 1) = 1) ∨ (¬ (((S 108 x4.toNatClampNeg) &&& x3) = 0))) then ((zshl 1 x4) : Int32) else 0))), some (.inl x3), some (.inl (x4 + 1)), some (.inl (zb ((((zshr (S 107 x4.toNatClampNeg) x1) &&& 1) = 1) ∨ (¬ (((S 108 x4.toNatClampNeg) &&& x3) = 0)))))], [], S))) := zr_1_4 i251_11 (zr_0 i251_12 kc_4 (zr_19_3 i251_13 (fun h1400 => zt_rfl) (fun h1401 => zr_2_0 i251_14 (zr_6r i251_15 fl_13_43 (zr_1_4 i251_16 (zr_8 i251_17 ar_107 (g0 h1401) rfl (show S 107 x4.toNatClampNeg = (S 107 x4.toNatClampNeg) from rfl) (zr_1_1 i251_18 (zr_13_9 i251_19 (zr_0 i251_20 kc_1 (zr_13_5 i251_21 (zr_0 i251_22 kc_1 (zt_trans (zt_cast (zr_19_0 i251_23 (fun h1402 => zr_0 i251_31 kc_1 (zr_17 i251_32 (zt_rfl))) (fun h1403 => zr_2_0 i251_24 (zr_6r i251_25 fl_13_44 (zr_1_4 i251_26 (zr_8 i251_27 ar_108 (g0 h1401) rfl (show S 108 x4.toNatClampNeg = (S 108 x4.toNatClampNeg) from rfl) (zr_1_3 i251_28 (zr_13_5 i251_29 (zt_cast (zr_18_0 i251_30 (fun h1404 => zr_0 i251_33 kc_0 (zt_rfl)) (fun h1405 => zr_0 i251_31 kc_1 (zr_17 i251_32 (zt_rfl)))) (zm_c zz_s (zl_c (zl_t zz_01) zz_s) zz_s))))))))) (zm_c zz_s (zl_c (zl_t zz_1b) zz_s) zz_s)) (zr_3_5 i251_34 (zr_1_2 i251_35 (zr_1_5 i251_36 (zt_trans (zt_cast (zr_18b_0 i251_37 (fun h1406 => zr_0 i251_38 kc_1 (zr_1_4 i251_39 (zr_13_8 i251_40 (zr_17 i251_41 (zt_rfl))))) (fun h1407 => zr_0 i251_42 kc_0 (zt_rfl))) (zm_c zz_s (zl_c (zl_t zz_e) zz_s) zz_s)) (zr_13_6 i251_43 (zr_3_2 i251_44 (zr_5_4 i251_45 kc_1 (zr_17 i251_46 (zt_rfl)))))))))))))))))))))
set_option maxRecDepth 100000 in
theorem s251_47 {L : Nat} (x1 x2 x3 x4 : Int32) (u5 : Option zV) (S : zS) : zt L 251 47 [some (.inr (.inr 13)), some (.inl x1), some (.inl x2), some (.inl x3), some (.inl x4), u5] [] S (.inl (4, [some (.inr (.inr 13)), some (.inl x1), some (.inl x2), some (.inl x3), some (.inl x4), u5], [], S)) := zr_17 i251_47 (zt_rfl)
set_option maxRecDepth 100000 in
theorem s251_48 {L : Nat} (x1 x2 x3 : Int32) (u4 u5 : Option zV) (S : zS) : zt L 251 48 [some (.inr (.inr 13)), some (.inl x1), some (.inl x2), some (.inl x3), u4, u5] [] S (.inr (.inl (some (.inl x2)), S, 0)) := zr_1_2 i251_48 (zr_25 i251_49)
def k251_11 (x1 x3 : Int32) (S : zS) (j : Nat) (a : Int32 × Option zV) : Int32 × Option zV := ((a.1 ||| (if ((((zshr (S 107 j) x1) &&& 1) = 1) ∨ (¬ (((S 108 j) &&& x3) = 0))) then ((zshl 1 (Int32.ofNat j)) : Int32) else 0)), (some (.inl (zb ((((zshr (S 107 j) x1) &&& 1) = 1) ∨ (¬ (((S 108 j) &&& x3) = 0)))))))
set_option maxRecDepth 100000 in
theorem l251_11 {L : Nat} (x1 x3 : Int32) (S : zS) (i0 n : Nat) (a : Int32 × Option zV) (hn : i0 + n < 2147483648) (hc0 : ∀ j, j < n → ¬ (4 ≤ (Int32.ofNat (i0 + j)))) (g0 : ∀ j, j < n → (¬ (4 ≤ (Int32.ofNat (i0 + j)))) → zx 4 (Int32.ofNat (i0 + j))) : zt L 251 11 [some (.inr (.inr 13)), some (.inl x1), some (.inl a.1), some (.inl x3), some (.inl (Int32.ofNat i0)), a.2] [] S (.inl (11, [some (.inr (.inr 13)), some (.inl x1), some (.inl (zfold (k251_11 x1 x3 S) i0 n a).1), some (.inl x3), some (.inl (Int32.ofNat (i0 + n))), (zfold (k251_11 x1 x3 S) i0 n a).2], [], S)) := by
  induction n with
  | zero => exact zt_rfl
  | succ n ih =>
    have e1 := zk_ix (i0 + n) (by omega)
    have e2 := zk_add (i0 + n)
    refine zt_trans (ih (by omega) (fun j hj => hc0 j (by omega)) (fun j hj => g0 j (by omega))) ?_
    refine zt_cast (s251_11 x1 (zfold (k251_11 x1 x3 S) i0 n a).1 x3 (Int32.ofNat (i0 + n)) (zfold (k251_11 x1 x3 S) i0 n a).2 S (by have hg := g0 n (by omega); first | exact hg | (simp only [e1]; exact hg))) ?_
    rw [if_neg (show ¬ (4 ≤ (Int32.ofNat (i0 + n))) from (by have hg := hc0 n (by omega); first | exact hg | (simp only [e1]; exact hg)))]
    simp only [zfold, k251_11, e1, e2, ← Nat.add_assoc]
-- 255 X12_fits: cut points [6, 65]
set_option maxRecDepth 100000 in
theorem s255_e {L : Nat} (a b c : Int32) (S : zS) : zt L 255 0 [some (.inr (.inr 13)), some (.inl a), some (.inl b), some (.inl c), none, none, none, none, none] [] S (.inl (6, [some (.inr (.inr 13)), some (.inl a), some (.inl b), some (.inl c), some (.inl 1), some (.inl 0), some (.inl 0), none, none], [], S)) := zr_0 i255_0 kc_1 (zr_3_4 i255_1 (zr_0 i255_2 kc_0 (zr_3_5 i255_3 (zr_0 i255_4 kc_0 (zr_3_6 i255_5 (zt_rfl))))))
set_option maxRecDepth 100000 in
theorem s255_6 {L : Nat} (x1 x2 x3 x4 x5 x6 : Int32) (u7 u8 : Option zV) (S : zS) (g0 : (¬ (3 ≤ x6)) → zx 200 ((5 * x1) + x6)) : zt L 255 6 [some (.inr (.inr 13)), some (.inl x1), some (.inl x2), some (.inl x3), some (.inl x4), some (.inl x5), some (.inl x6), u7, u8] [] S (if (3 ≤ x6) then (.inl (65, [some (.inr (.inr 13)), some (.inl x1), some (.inl x2), some (.inl x3), some (.inl x4), some (.inl x5), some (.inl x6), u7, u8], [], S)) else (.inl (6, [some (.inr (.inr 13)), some (.inl x1), some (.inl x2), some (.inl x3), some (.inl (zb ((¬ (x4 = 0)) ∧ (((¬ (x5 = 0)) ∨ ((S 102 ((5 * x1) + x6).toNatClampNeg) = 8)) ∨ (((S 102 ((5 * x1) + x6).toNatClampNeg) = 6) ∨ (if ((S 102 ((5 * x1) + x6).toNatClampNeg) = 7) then ((¬ (x3 = (-1))) ∧ ((zrem x3 6) = (if (x6 = 0) then ((x2 / 36) : Int32) else (if (x6 = 1) then ((zrem (x2 / 6) 6) : Int32) else (zrem x2 6))))) else ((S 102 ((5 * x1) + x6).toNatClampNeg) = (if (x6 = 0) then ((x2 / 36) : Int32) else (if (x6 = 1) then ((zrem (x2 / 6) 6) : Int32) else (zrem x2 6)))))))))), some (.inl (zb ((¬ (x5 = 0)) ∨ ((S 102 ((5 * x1) + x6).toNatClampNeg) = 8)))), some (.inl (x6 + 1)), some (.inl (S 102 ((5 * x1) + x6).toNatClampNeg)), some (.inl (zb (((S 102 ((5 * x1) + x6).toNatClampNeg) = 6) ∨ (if ((S 102 ((5 * x1) + x6).toNatClampNeg) = 7) then ((¬ (x3 = (-1))) ∧ ((zrem x3 6) = (if (x6 = 0) then ((x2 / 36) : Int32) else (if (x6 = 1) then ((zrem (x2 / 6) 6) : Int32) else (zrem x2 6))))) else ((S 102 ((5 * x1) + x6).toNatClampNeg) = (if (x6 = 0) then ((x2 / 36) : Int32) else (if (x6 = 1) then ((zrem (x2 / 6) 6) : Int32) else (zrem x2 6))))))))], [], S))) := zr_1_6 i255_6 (zr_0 i255_7 kc_3 (zr_19_3 i255_8 (fun h1454 => zt_rfl) (fun h1455 => zr_2_0 i255_9 (zr_6r i255_10 fl_13_38 (zr_0 i255_11 kc_5 (zr_1_1 i255_12 (zr_13_2 i255_13 (zr_1_6 i255_14 (zr_13_0 i255_15 (zr_8 i255_16 ar_102 (g0 h1455) rfl (show S 102 ((5 * x1) + x6).toNatClampNeg = (S 102 ((5 * x1) + x6).toNatClampNeg) from rfl) (zr_3_7 i255_17 (zr_1_5 i255_18 (zt_trans (zt_cast (zr_18_1 i255_19 (fun h1456 => zr_1_7 i255_20 (zr_0 i255_21 kc_8 (zt_cast (zr_19_1 i255_22 (fun h1458 => zr_0 i255_23 kc_1 (zr_17 i255_24 (zt_rfl))) (fun h1459 => zr_0 i255_25 kc_0 (zt_rfl))) (zm_c zz_s (zl_c (zl_t zz_10) zz_s) zz_s)))) (fun h1457 => zr_0 i255_23 kc_1 (zr_17 i255_24 (zt_rfl)))) (zm_c zz_s (zl_c (zl_t zz_b1) zz_s) zz_s)) (zr_3_5 i255_26 (zr_1_7 i255_27 (zr_0 i255_28 kc_6 (zt_trans (zt_cast (zr_19_0 i255_29 (fun h1460 => zr_0 i255_49 kc_1 (zr_17 i255_50 (zt_rfl))) (fun h1461 => zr_1_7 i255_30 (zr_0 i255_31 kc_7 (zt_cast (zr_19_1 i255_32 (fun h1462 => zr_1_3 i255_33 (zr_0 i255_34 kc_m1 (zt_cast (zr_19_0 i255_35 (fun h1464 => zr_0 i255_51 kc_0 (zt_rfl)) (fun h1465 => zr_1_3 i255_36 (zr_0 i255_37 kc_6 (zr_13_4 i255_38 nz_6 (zr_1_2 i255_39 (zr_1_6 i255_40 (zr_cv (zs_22_2 i255_41 na_253 rfl) (f253 x2 x6 S ) (zt_cast (zr_19_1 i255_42 (fun h1466 => zr_17 i255_43 (zr_0 i255_49 kc_1 (zr_17 i255_50 (zt_rfl)))) (fun h1467 => zr_0 i255_51 kc_0 (zt_rfl))) (zm_c zz_s (zl_c (zl_t zz_10) zz_s) zz_s))))))))) (zm_c zz_s (zl_c (zl_t zz_0b) zz_s) zz_s)))) (fun h1463 => zr_1_7 i255_44 (zr_1_2 i255_45 (zr_1_6 i255_46 (zr_cv (zs_22_2 i255_47 na_253 rfl) (f253 x2 x6 S ) (zt_cast (zr_19_1 i255_48 (fun h1468 => zr_0 i255_49 kc_1 (zr_17 i255_50 (zt_rfl))) (fun h1469 => zr_0 i255_51 kc_0 (zt_rfl))) (zm_c zz_s (zl_c (zl_t zz_10) zz_s) zz_s))))))) (zm_c zz_s (zl_c (zl_t zz_bb) zz_s) zz_s))))) (zm_c zz_s (zl_c (zl_t zz_1b) zz_s) zz_s)) (zr_3_8 i255_52 (zr_1_4 i255_53 (zt_trans (zt_cast (zr_18_0 i255_54 (fun h1470 => zr_0 i255_61 kc_0 (zt_rfl)) (fun h1471 => zr_1_5 i255_55 (zt_cast (zr_18b_1 i255_56 (fun h1472 => zr_0 i255_59 kc_1 (zr_17 i255_60 (zt_rfl))) (fun h1473 => zr_1_8 i255_57 (zt_cast (zr_18b_0 i255_58 (fun h1474 => zr_0 i255_59 kc_1 (zr_17 i255_60 (zt_rfl))) (fun h1475 => zr_0 i255_61 kc_0 (zt_rfl))) (zm_c zz_s (zl_c (zl_t zz_10) zz_s) zz_s)))) (zm_c zz_s (zl_c (zl_t zz_1b) zz_s) zz_s)))) (zm_c zz_s (zl_c (zl_t zz_0b) zz_s) zz_s)) (zr_3_4 i255_62 (zr_5_6 i255_63 kc_1 (zr_17 i255_64 (zt_rfl))))))))))))))))))))))))
set_option maxRecDepth 100000 in
theorem s255_65 {L : Nat} (x1 x2 x3 x4 x5 x6 : Int32) (u7 u8 : Option zV) (S : zS) (g0 : zo x4) : zt L 255 65 [some (.inr (.inr 13)), some (.inl x1), some (.inl x2), some (.inl x3), some (.inl x4), some (.inl x5), some (.inl x6), u7, u8] [] S (.inr (.inl (some (.inl x4)), S, 0)) := zr_1_4 i255_65 (zr_26 i255_66 (g0))
def k255_6 (x1 x2 x3 : Int32) (S : zS) (j : Nat) (a : Int32 × Int32 × Option zV × Option zV) : Int32 × Int32 × Option zV × Option zV := ((zb ((¬ (a.1 = 0)) ∧ (((¬ (a.2.1 = 0)) ∨ ((S 102 ((5 * x1) + (Int32.ofNat j)).toNatClampNeg) = 8)) ∨ (((S 102 ((5 * x1) + (Int32.ofNat j)).toNatClampNeg) = 6) ∨ (if ((S 102 ((5 * x1) + (Int32.ofNat j)).toNatClampNeg) = 7) then ((¬ (x3 = (-1))) ∧ ((zrem x3 6) = (if ((Int32.ofNat j) = 0) then ((x2 / 36) : Int32) else (if ((Int32.ofNat j) = 1) then ((zrem (x2 / 6) 6) : Int32) else (zrem x2 6))))) else ((S 102 ((5 * x1) + (Int32.ofNat j)).toNatClampNeg) = (if ((Int32.ofNat j) = 0) then ((x2 / 36) : Int32) else (if ((Int32.ofNat j) = 1) then ((zrem (x2 / 6) 6) : Int32) else (zrem x2 6))))))))), (zb ((¬ (a.2.1 = 0)) ∨ ((S 102 ((5 * x1) + (Int32.ofNat j)).toNatClampNeg) = 8))), (some (.inl (S 102 ((5 * x1) + (Int32.ofNat j)).toNatClampNeg))), (some (.inl (zb (((S 102 ((5 * x1) + (Int32.ofNat j)).toNatClampNeg) = 6) ∨ (if ((S 102 ((5 * x1) + (Int32.ofNat j)).toNatClampNeg) = 7) then ((¬ (x3 = (-1))) ∧ ((zrem x3 6) = (if ((Int32.ofNat j) = 0) then ((x2 / 36) : Int32) else (if ((Int32.ofNat j) = 1) then ((zrem (x2 / 6) 6) : Int32) else (zrem x2 6))))) else ((S 102 ((5 * x1) + (Int32.ofNat j)).toNatClampNeg) = (if ((Int32.ofNat j) = 0) then ((x2 / 36) : Int32) else (if ((Int32.ofNat j) = 1) then ((zrem (x2 / 6) 6) : Int32) else (zrem x2 6))))))))))
set_option maxRecDepth 100000 in
theorem l255_6 {L : Nat} (x1 x2 x3 : Int32) (S : zS) (i0 n : Nat) (a : Int32 × Int32 × Option zV × Option zV) (hn : i0 + n < 2147483648) (hc0 : ∀ j, j < n → ¬ (3 ≤ (Int32.ofNat (i0 + j)))) (g0 : ∀ j, j < n → (¬ (3 ≤ (Int32.ofNat (i0 + j)))) → zx 200 ((5 * x1) + (Int32.ofNat (i0 + j)))) : zt L 255 6 [some (.inr (.inr 13)), some (.inl x1), some (.inl x2), some (.inl x3), some (.inl a.1), some (.inl a.2.1), some (.inl (Int32.ofNat i0)), a.2.2.1, a.2.2.2] [] S (.inl (6, [some (.inr (.inr 13)), some (.inl x1), some (.inl x2), some (.inl x3), some (.inl (zfold (k255_6 x1 x2 x3 S) i0 n a).1), some (.inl (zfold (k255_6 x1 x2 x3 S) i0 n a).2.1), some (.inl (Int32.ofNat (i0 + n))), (zfold (k255_6 x1 x2 x3 S) i0 n a).2.2.1, (zfold (k255_6 x1 x2 x3 S) i0 n a).2.2.2], [], S)) := by
  induction n with
  | zero => exact zt_rfl
  | succ n ih =>
    have e1 := zk_ix (i0 + n) (by omega)
    have e2 := zk_add (i0 + n)
    refine zt_trans (ih (by omega) (fun j hj => hc0 j (by omega)) (fun j hj => g0 j (by omega))) ?_
    refine zt_cast (s255_6 x1 x2 x3 (zfold (k255_6 x1 x2 x3 S) i0 n a).1 (zfold (k255_6 x1 x2 x3 S) i0 n a).2.1 (Int32.ofNat (i0 + n)) (zfold (k255_6 x1 x2 x3 S) i0 n a).2.2.1 (zfold (k255_6 x1 x2 x3 S) i0 n a).2.2.2 S (by have hg := g0 n (by omega); first | exact hg | (simp only [e1]; exact hg))) ?_
    rw [if_neg (show ¬ (3 ≤ (Int32.ofNat (i0 + n))) from (by have hg := hc0 n (by omega); first | exact hg | (simp only [e1]; exact hg)))]
    simp only [zfold, k255_6, e1, e2, ← Nat.add_assoc]
-- 256 X12_compares: cut points [2, 32]
set_option maxRecDepth 100000 in
theorem s256_e {L : Nat} (a b : Int32) (S : zS) : zt L 256 0 [some (.inr (.inr 13)), some (.inl a), some (.inl b), none, none] [] S (.inl (2, [some (.inr (.inr 13)), some (.inl a), some (.inl b), some (.inl 0), none], [], S)) := zr_0 i256_0 kc_0 (zr_3_3 i256_1 (zt_rfl))
set_option maxRecDepth 100000 in
theorem s256_2 {L : Nat} (x1 x2 x3 : Int32) (u4 : Option zV) (S : zS) (g0 : (¬ (3 ≤ x3)) → zx 200 ((5 * x1) + x3)) (g1 : (¬ (3 ≤ x3)) → zx 200 ((5 * x2) + x3)) : zt L 256 2 [some (.inr (.inr 13)), some (.inl x1), some (.inl x2), some (.inl x3), u4] [] S (if (3 ≤ x3) then (.inl (32, [some (.inr (.inr 13)), some (.inl x1), some (.inl x2), some (.inl x3), u4], [], S)) else (if (((F254 x1 x3 S) - (F254 x2 x3 S)) = 0) then (if ((F254 x1 x3 S) = 0) then (.inr (.inl (some (.inl 0)), S, 0)) else (.inl (2, [some (.inr (.inr 13)), some (.inl x1), some (.inl x2), some (.inl (x3 + 1)), some (.inl ((F254 x1 x3 S) - (F254 x2 x3 S)))], [], S))) else (.inr (.inl (some (.inl (if (((F254 x1 x3 S) - (F254 x2 x3 S)) ≤ 0) then ((-1) : Int32) else 1))), S, 0)))) := zr_1_3 i256_2 (zr_0 i256_3 kc_3 (zr_19_3 i256_4 (fun h1492 => zt_rfl) (fun h1493 => zr_2_0 i256_5 (zr_1_1 i256_6 (zr_1_3 i256_7 (zr_cv (zs_21_2 i256_8 na_254 ob_13 rfl) (f254 x1 x3 S (g0 h1493)) (zr_2_0 i256_9 (zr_1_2 i256_10 (zr_1_3 i256_11 (zr_cv (zs_21_2 i256_12 na_254 ob_13 rfl) (f254 x2 x3 S (g1 h1493)) (zr_13_1 i256_13 (zr_3_4 i256_14 (zr_1_4 i256_15 (zr_18_0 i256_16 (fun h1494 => zr_2_0 i256_23 (zr_1_1 i256_24 (zr_1_3 i256_25 (zr_cv (zs_21_2 i256_26 na_254 ob_13 rfl) (f254 x1 x3 S (g0 h1493)) (zr_18_1 i256_27 (fun h1496 => zr_0 i256_28 kc_0 (zr_25 i256_29)) (fun h1497 => zr_5_3 i256_30 kc_1 (zr_17 i256_31 (zt_rfl)))))))) (fun h1495 => zr_1_4 i256_17 (zt_trans (zt_cast (zr_18_5 i256_18 (fun h1498 => zr_0 i256_21 kc_m1 (zt_rfl)) (fun h1499 => zr_0 i256_19 kc_1 (zr_17 i256_20 (zt_rfl)))) (zm_c zz_s (zl_c (zl_t zz_e) zz_s) zz_s)) (zr_25 i256_22)))))))))))))))))
set_option maxRecDepth 100000 in
theorem s256_32 {L : Nat} (x1 x2 x3 : Int32) (u4 : Option zV) (S : zS) : zt L 256 32 [some (.inr (.inr 13)), some (.inl x1), some (.inl x2), some (.inl x3), u4] [] S (.inr (.inl (some (.inl 0)), S, 0)) := zr_0 i256_32 kc_0 (zr_25 i256_33)
def k256_2 (x1 x2 : Int32) (S : zS) (j : Nat) (a : Option zV) : Option zV := (some (.inl ((F254 x1 (Int32.ofNat j) S) - (F254 x2 (Int32.ofNat j) S))))
set_option maxRecDepth 100000 in
theorem l256_2 {L : Nat} (x1 x2 : Int32) (S : zS) (i0 n : Nat) (a : Option zV) (hn : i0 + n < 2147483648) (hc0 : ∀ j, j < n → ¬ (3 ≤ (Int32.ofNat (i0 + j)))) (hc1 : ∀ j, j < n → (((F254 x1 (Int32.ofNat (i0 + j)) S) - (F254 x2 (Int32.ofNat (i0 + j)) S)) = 0)) (hc2 : ∀ j, j < n → ¬ ((F254 x1 (Int32.ofNat (i0 + j)) S) = 0)) (g0 : ∀ j, j < n → (¬ (3 ≤ (Int32.ofNat (i0 + j)))) → zx 200 ((5 * x1) + (Int32.ofNat (i0 + j)))) (g1 : ∀ j, j < n → (¬ (3 ≤ (Int32.ofNat (i0 + j)))) → zx 200 ((5 * x2) + (Int32.ofNat (i0 + j)))) : zt L 256 2 [some (.inr (.inr 13)), some (.inl x1), some (.inl x2), some (.inl (Int32.ofNat i0)), a] [] S (.inl (2, [some (.inr (.inr 13)), some (.inl x1), some (.inl x2), some (.inl (Int32.ofNat (i0 + n))), (zfold (k256_2 x1 x2 S) i0 n a)], [], S)) := by
  induction n with
  | zero => exact zt_rfl
  | succ n ih =>
    have e1 := zk_ix (i0 + n) (by omega)
    have e2 := zk_add (i0 + n)
    refine zt_trans (ih (by omega) (fun j hj => hc0 j (by omega)) (fun j hj => hc1 j (by omega)) (fun j hj => hc2 j (by omega)) (fun j hj => g0 j (by omega)) (fun j hj => g1 j (by omega))) ?_
    refine zt_cast (s256_2 x1 x2 (Int32.ofNat (i0 + n)) (zfold (k256_2 x1 x2 S) i0 n a) S (by have hg := g0 n (by omega); first | exact hg | (simp only [e1]; exact hg)) (by have hg := g1 n (by omega); first | exact hg | (simp only [e1]; exact hg))) ?_
    rw [if_neg (show ¬ (3 ≤ (Int32.ofNat (i0 + n))) from (by have hg := hc0 n (by omega); first | exact hg | (simp only [e1]; exact hg)))]
    rw [if_pos (show (((F254 x1 (Int32.ofNat (i0 + n)) S) - (F254 x2 (Int32.ofNat (i0 + n)) S)) = 0) from (by have hg := hc1 n (by omega); first | exact hg | (simp only [e1]; exact hg)))]
    rw [if_neg (show ¬ ((F254 x1 (Int32.ofNat (i0 + n)) S) = 0) from (by have hg := hc2 n (by omega); first | exact hg | (simp only [e1]; exact hg)))]
    simp only [zfold, k256_2, e1, e2, ← Nat.add_assoc]
-- 264 X12_dies: cut points [18, 56, 58, 82]
set_option maxRecDepth 100000 in
theorem s264_e {L : Nat} (a : Int32) (S : zS) (g0 : zx 40 a) : zt L 264 0 [some (.inr (.inr 13)), some (.inl a), none, none] [] S (.inl (18, [some (.inr (.inr 13)), some (.inl a), some (.inl (zb ((S 119 a.toNatClampNeg) = 0))), some (.inl (a + 1))], [], (z_up S 119 a.toNatClampNeg 1))) := zr_2_0 i264_0 (zr_6r i264_1 fl_13_56 (zr_1_1 i264_2 (zr_9 i264_3 ar_119 (g0) rfl (show S 119 a.toNatClampNeg = (S 119 a.toNatClampNeg) from rfl) (zt_trans (zt_cast (zr_18_0 i264_4 (fun h1522 => zr_0 i264_7 kc_1 (zt_rfl)) (fun h1523 => zr_0 i264_5 kc_0 (zr_17 i264_6 (zt_rfl)))) (zm_c zz_s (zl_c (zl_t zz_10) zz_s) zz_s)) (zr_3_2 i264_8 (zr_2_0 i264_9 (zr_6r i264_10 fl_13_56 (zr_1_1 i264_11 (zr_0 i264_12 kc_1 (zr_11 i264_13 ar_119 (g0) (zo_1) rfl (zr_1_1 i264_14 (zr_0 i264_15 kc_1 (zr_13_0 i264_16 (zr_3_3 i264_17 (zt_rfl)))))))))))))))
set_option maxRecDepth 100000 in
theorem s264_18 {L : Nat} (x1 x2 x3 : Int32) (S : zS) (g0 : (¬ ((S 13 45) ≤ x3)) → (¬ (x2 ≤ 0)) → zx 40 x3) (g1 : (¬ ((S 13 45) ≤ x3)) → (¬ (x2 ≤ 0)) → ((S 119 x3.toNatClampNeg) = 0) → (¬ ((S 110 x3.toNatClampNeg) = (-1))) → zx 40 (S 110 x3.toNatClampNeg)) : zt L 264 18 [some (.inr (.inr 13)), some (.inl x1), some (.inl x2), some (.inl x3)] [] S (if ((S 13 45) ≤ x3) then (.inl (56, [some (.inr (.inr 13)), some (.inl x1), some (.inl x2), some (.inl x3)], [], S)) else (if (x2 ≤ 0) then (.inl (56, [some (.inr (.inr 13)), some (.inl x1), some (.inl x2), some (.inl x3)], [], S)) else (.inl (18, [some (.inr (.inr 13)), some (.inl x1), some (.inl (if ((S 119 x3.toNatClampNeg) = 0) then ((if ((S 110 x3.toNatClampNeg) = (-1)) then (x2 : Int32) else (if ((S 119 (S 110 x3.toNatClampNeg).toNatClampNeg) = 0) then (x2 : Int32) else (if ((S 118 x3.toNatClampNeg) = 0) then ((x2 + 1) : Int32) else x2))) : Int32) else x2)), some (.inl (x3 + 1))], [], (if ((S 119 x3.toNatClampNeg) = 0) then (if ((S 110 x3.toNatClampNeg) = (-1)) then S else (if ((S 119 (S 110 x3.toNatClampNeg).toNatClampNeg) = 0) then S else (if ((S 118 x3.toNatClampNeg) = 0) then (z_up S 119 x3.toNatClampNeg 1) else S))) else S))))) := zr_1_3 i264_18 (zr_2_0 i264_19 (zr_6 i264_20 fl_13_45 (show S 13 45 = (S 13 45) from rfl) (zr_19_3 i264_21 (fun h1524 => zt_rfl) (fun h1525 => zr_1_2 i264_22 (zr_18_5 i264_23 (fun h1526 => zt_rfl) (fun h1527 => zr_2_0 i264_24 (zr_6r i264_25 fl_13_56 (zr_1_3 i264_26 (zr_9 i264_27 ar_119 (g0 h1525 h1527) rfl (show S 119 x3.toNatClampNeg = (S 119 x3.toNatClampNeg) from rfl) (zt_trans (zt_cast (zr_18_1 i264_28 (fun h1528 => zr_2_0 i264_29 (zr_6r i264_30 fl_13_47 (zr_1_3 i264_31 (zr_8 i264_32 ar_110 (g0 h1525 h1527) rfl (show S 110 x3.toNatClampNeg = (S 110 x3.toNatClampNeg) from rfl) (zr_0 i264_33 kc_m1 (zt_cast (zr_19_0 i264_34 (fun h1530 => zt_rfl) (fun h1531 => zr_2_0 i264_35 (zr_6r i264_36 fl_13_56 (zr_2_0 i264_37 (zr_6r i264_38 fl_13_47 (zr_1_3 i264_39 (zr_8 i264_40 ar_110 (g0 h1525 h1527) rfl (show S 110 x3.toNatClampNeg = (S 110 x3.toNatClampNeg) from rfl) (zr_9 i264_41 ar_119 (g1 h1525 h1527 h1528 h1531) rfl (show S 119 (S 110 x3.toNatClampNeg).toNatClampNeg = (S 119 (S 110 x3.toNatClampNeg).toNatClampNeg) from rfl) (zt_cast (zr_18_0 i264_42 (fun h1532 => zt_rfl) (fun h1533 => zr_2_0 i264_43 (zr_6r i264_44 fl_13_55 (zr_1_3 i264_45 (zr_9 i264_46 ar_118 (g0 h1525 h1527) rfl (show S 118 x3.toNatClampNeg = (S 118 x3.toNatClampNeg) from rfl) (zt_cast (zr_18_1 i264_47 (fun h1534 => zr_2_0 i264_48 (zr_6r i264_49 fl_13_56 (zr_1_3 i264_50 (zr_0 i264_51 kc_1 (zr_11 i264_52 ar_119 (g0 h1525 h1527) (zo_1) rfl (zr_5_2 i264_53 kc_1 (zt_rfl))))))) (fun h1535 => zt_rfl)) (zm_c (zl_c zz_s (zl_c zz_s (zl_c (zl_v zz_e) zz_s))) zz_s zz_e))))))) (zm_c (zl_c zz_s (zl_c zz_s (zl_c (zl_v zz_e) zz_s))) zz_s zz_e)))))))))) (zm_c (zl_c zz_s (zl_c zz_s (zl_c (zl_v zz_e) zz_s))) zz_s zz_e))))))) (fun h1529 => zt_rfl)) (zm_c (zl_c zz_s (zl_c zz_s (zl_c (zl_v zz_e) zz_s))) zz_s zz_e)) (zr_5_3 i264_54 kc_1 (zr_17 i264_55 (zt_rfl)))))))))))))
set_option maxRecDepth 100000 in
theorem s264_56 {L : Nat} (x1 x2 x3 : Int32) (S : zS) : zt L 264 56 [some (.inr (.inr 13)), some (.inl x1), some (.inl x2), some (.inl x3)] [] S (.inl (58, [some (.inr (.inr 13)), some (.inl x1), some (.inl x2), some (.inl 0)], [], S)) := zr_0 i264_56 kc_0 (zr_3_3 i264_57 (zt_rfl))
set_option maxRecDepth 100000 in
theorem s264_58 {L : Nat} (x1 x2 x3 : Int32) (S : zS) (g0 : (¬ ((S 13 57) ≤ x3)) → (¬ (x2 ≤ 0)) → zx 40 x3) (g1 : (¬ ((S 13 57) ≤ x3)) → (¬ (x2 ≤ 0)) → ((S 125 x3.toNatClampNeg) = 0) → zx 40 (S 120 x3.toNatClampNeg)) (g2 : (¬ ((S 13 57) ≤ x3)) → (¬ (x2 ≤ 0)) → ((S 125 x3.toNatClampNeg) = 0) → (¬ ((S 119 (S 120 x3.toNatClampNeg).toNatClampNeg) = 0)) → zx 3 (S 122 x3.toNatClampNeg)) : zt L 264 58 [some (.inr (.inr 13)), some (.inl x1), some (.inl x2), some (.inl x3)] [] S (if ((S 13 57) ≤ x3) then (.inl (82, [some (.inr (.inr 13)), some (.inl x1), some (.inl x2), some (.inl x3)], [], S)) else (if (x2 ≤ 0) then (.inl (82, [some (.inr (.inr 13)), some (.inl x1), some (.inl x2), some (.inl x3)], [], S)) else (.inl (58, [some (.inr (.inr 13)), some (.inl x1), some (.inl x2), some (.inl (x3 + 1))], [], (if ((S 125 x3.toNatClampNeg) = 0) then (if ((S 119 (S 120 x3.toNatClampNeg).toNatClampNeg) = 0) then S else (G269 x3 (z_up (z_up S 123 x3.toNatClampNeg (S 13 1)) 126 x3.toNatClampNeg 0))) else S))))) := zr_1_3 i264_58 (zr_2_0 i264_59 (zr_6 i264_60 fl_13_57 (show S 13 57 = (S 13 57) from rfl) (zr_19_3 i264_61 (fun h1536 => zt_rfl) (fun h1537 => zr_1_2 i264_62 (zr_18_5 i264_63 (fun h1538 => zt_rfl) (fun h1539 => zr_2_0 i264_64 (zr_6r i264_65 fl_13_63 (zr_1_3 i264_66 (zr_8 i264_67 ar_125 (g0 h1537 h1539) rfl (show S 125 x3.toNatClampNeg = (S 125 x3.toNatClampNeg) from rfl) (zt_trans (zt_cast (zr_18_1 i264_68 (fun h1540 => zr_2_0 i264_69 (zr_6r i264_70 fl_13_56 (zr_2_0 i264_71 (zr_6r i264_72 fl_13_58 (zr_1_3 i264_73 (zr_8 i264_74 ar_120 (g0 h1537 h1539) rfl (show S 120 x3.toNatClampNeg = (S 120 x3.toNatClampNeg) from rfl) (zr_9 i264_75 ar_119 (g1 h1537 h1539 h1540) rfl (show S 119 (S 120 x3.toNatClampNeg).toNatClampNeg = (S 119 (S 120 x3.toNatClampNeg).toNatClampNeg) from rfl) (zt_cast (zr_18_0 i264_76 (fun h1542 => zt_rfl) (fun h1543 => zr_2_0 i264_77 (zr_1_3 i264_78 (zr_cn (zs_21_1 i264_79 na_270 ob_13 rfl) (f270 x3 S (g0 h1537 h1539) (g2 h1537 h1539 h1540 h1543)) (zt_rfl))))) (zm_c zz_s zz_s zz_e))))))))) (fun h1541 => zt_rfl)) (zm_c zz_s zz_s zz_e)) (zr_5_3 i264_80 kc_1 (zr_17 i264_81 (zt_rfl)))))))))))))
set_option maxRecDepth 100000 in
theorem s264_82 {L : Nat} (x1 x2 x3 : Int32) (S : zS) : zt L 264 82 [some (.inr (.inr 13)), some (.inl x1), some (.inl x2), some (.inl x3)] [] S (.inr (.inl (some (.inl x2)), S, 0)) := zr_1_2 i264_82 (zr_25 i264_83)
def k264_18 (x1 : Int32) (j : Nat) (a : Int32 × zS) : Int32 × zS := ((if ((a.2 119 j) = 0) then ((if ((a.2 110 j) = (-1)) then (a.1 : Int32) else (if ((a.2 119 (a.2 110 j).toNatClampNeg) = 0) then (a.1 : Int32) else (if ((a.2 118 j) = 0) then ((a.1 + 1) : Int32) else a.1))) : Int32) else a.1), (if ((a.2 119 j) = 0) then (if ((a.2 110 j) = (-1)) then a.2 else (if ((a.2 119 (a.2 110 j).toNatClampNeg) = 0) then a.2 else (if ((a.2 118 j) = 0) then (z_up a.2 119 j 1) else a.2))) else a.2))
set_option maxRecDepth 100000 in
theorem l264_18 {L : Nat} (x1 : Int32) (i0 n : Nat) (a : Int32 × zS) (hn : i0 + n < 2147483648) (hc0 : ∀ j, j < n → ¬ (((zfold (k264_18 x1 ) i0 j a).2 13 45) ≤ (Int32.ofNat (i0 + j)))) (hc1 : ∀ j, j < n → ¬ ((zfold (k264_18 x1 ) i0 j a).1 ≤ 0)) (g0 : ∀ j, j < n → (¬ (((zfold (k264_18 x1 ) i0 j a).2 13 45) ≤ (Int32.ofNat (i0 + j)))) → (¬ ((zfold (k264_18 x1 ) i0 j a).1 ≤ 0)) → zx 40 (Int32.ofNat (i0 + j))) (g1 : ∀ j, j < n → (¬ (((zfold (k264_18 x1 ) i0 j a).2 13 45) ≤ (Int32.ofNat (i0 + j)))) → (¬ ((zfold (k264_18 x1 ) i0 j a).1 ≤ 0)) → (((zfold (k264_18 x1 ) i0 j a).2 119 (i0 + j)) = 0) → (¬ (((zfold (k264_18 x1 ) i0 j a).2 110 (i0 + j)) = (-1))) → zx 40 ((zfold (k264_18 x1 ) i0 j a).2 110 (i0 + j))) : zt L 264 18 [some (.inr (.inr 13)), some (.inl x1), some (.inl a.1), some (.inl (Int32.ofNat i0))] [] a.2 (.inl (18, [some (.inr (.inr 13)), some (.inl x1), some (.inl (zfold (k264_18 x1 ) i0 n a).1), some (.inl (Int32.ofNat (i0 + n)))], [], (zfold (k264_18 x1 ) i0 n a).2)) := by
  induction n with
  | zero => exact zt_rfl
  | succ n ih =>
    have e1 := zk_ix (i0 + n) (by omega)
    have e2 := zk_add (i0 + n)
    refine zt_trans (ih (by omega) (fun j hj => hc0 j (by omega)) (fun j hj => hc1 j (by omega)) (fun j hj => g0 j (by omega)) (fun j hj => g1 j (by omega))) ?_
    refine zt_cast (s264_18 x1 (zfold (k264_18 x1 ) i0 n a).1 (Int32.ofNat (i0 + n)) (zfold (k264_18 x1 ) i0 n a).2 (by have hg := g0 n (by omega); first | exact hg | (simp only [e1]; exact hg)) (by have hg := g1 n (by omega); first | exact hg | (simp only [e1]; exact hg))) ?_
    rw [if_neg (show ¬ (((zfold (k264_18 x1 ) i0 n a).2 13 45) ≤ (Int32.ofNat (i0 + n))) from (by have hg := hc0 n (by omega); first | exact hg | (simp only [e1]; exact hg)))]
    rw [if_neg (show ¬ ((zfold (k264_18 x1 ) i0 n a).1 ≤ 0) from (by have hg := hc1 n (by omega); first | exact hg | (simp only [e1]; exact hg)))]
    simp only [zfold, k264_18, e1, e2, ← Nat.add_assoc]
def k264_58 (x1 x2 : Int32) (j : Nat) (a : zS) : zS := (if ((a 125 j) = 0) then (if ((a 119 (a 120 j).toNatClampNeg) = 0) then a else (G269 (Int32.ofNat j) (z_up (z_up a 123 j (a 13 1)) 126 j 0))) else a)
set_option maxRecDepth 100000 in
theorem l264_58 {L : Nat} (x1 x2 : Int32) (i0 n : Nat) (a : zS) (hn : i0 + n < 2147483648) (hc0 : ∀ j, j < n → ¬ (((zfold (k264_58 x1 x2 ) i0 j a) 13 57) ≤ (Int32.ofNat (i0 + j)))) (hc1 : ∀ j, j < n → ¬ (x2 ≤ 0)) (g0 : ∀ j, j < n → (¬ (((zfold (k264_58 x1 x2 ) i0 j a) 13 57) ≤ (Int32.ofNat (i0 + j)))) → (¬ (x2 ≤ 0)) → zx 40 (Int32.ofNat (i0 + j))) (g1 : ∀ j, j < n → (¬ (((zfold (k264_58 x1 x2 ) i0 j a) 13 57) ≤ (Int32.ofNat (i0 + j)))) → (¬ (x2 ≤ 0)) → (((zfold (k264_58 x1 x2 ) i0 j a) 125 (i0 + j)) = 0) → zx 40 ((zfold (k264_58 x1 x2 ) i0 j a) 120 (i0 + j))) (g2 : ∀ j, j < n → (¬ (((zfold (k264_58 x1 x2 ) i0 j a) 13 57) ≤ (Int32.ofNat (i0 + j)))) → (¬ (x2 ≤ 0)) → (((zfold (k264_58 x1 x2 ) i0 j a) 125 (i0 + j)) = 0) → (¬ (((zfold (k264_58 x1 x2 ) i0 j a) 119 ((zfold (k264_58 x1 x2 ) i0 j a) 120 (i0 + j)).toNatClampNeg) = 0)) → zx 3 ((zfold (k264_58 x1 x2 ) i0 j a) 122 (i0 + j))) : zt L 264 58 [some (.inr (.inr 13)), some (.inl x1), some (.inl x2), some (.inl (Int32.ofNat i0))] [] a (.inl (58, [some (.inr (.inr 13)), some (.inl x1), some (.inl x2), some (.inl (Int32.ofNat (i0 + n)))], [], (zfold (k264_58 x1 x2 ) i0 n a))) := by
  induction n with
  | zero => exact zt_rfl
  | succ n ih =>
    have e1 := zk_ix (i0 + n) (by omega)
    have e2 := zk_add (i0 + n)
    refine zt_trans (ih (by omega) (fun j hj => hc0 j (by omega)) (fun j hj => hc1 j (by omega)) (fun j hj => g0 j (by omega)) (fun j hj => g1 j (by omega)) (fun j hj => g2 j (by omega))) ?_
    refine zt_cast (s264_58 x1 x2 (Int32.ofNat (i0 + n)) (zfold (k264_58 x1 x2 ) i0 n a) (by have hg := g0 n (by omega); first | exact hg | (simp only [e1]; exact hg)) (by have hg := g1 n (by omega); first | exact hg | (simp only [e1]; exact hg)) (by have hg := g2 n (by omega); first | exact hg | (simp only [e1]; exact hg))) ?_
    rw [if_neg (show ¬ (((zfold (k264_58 x1 x2 ) i0 n a) 13 57) ≤ (Int32.ofNat (i0 + n))) from (by have hg := hc0 n (by omega); first | exact hg | (simp only [e1]; exact hg)))]
    rw [if_neg (show ¬ (x2 ≤ 0) from (by have hg := hc1 n (by omega); first | exact hg | (simp only [e1]; exact hg)))]
    simp only [zfold, k264_58, e1, e2, ← Nat.add_assoc]
-- 281 X12_credentialsAnew: cut points [18, 42]
set_option maxRecDepth 100000 in
theorem s281_e {L : Nat} (a : Int32) (S : zS) (g0 : ((zb (¬ ((¬ (a < 0)) ∧ (¬ (2 < a))))) = 0) → zx 3 a) : zt L 281 0 [some (.inr (.inr 13)), some (.inl a), none, none] [] S (if ((zb (¬ ((¬ (a < 0)) ∧ (¬ (2 < a))))) = 0) then (.inl (18, [some (.inr (.inr 13)), some (.inl a), some (.inl (S 129 a.toNatClampNeg)), some (.inl 0)], [], (z_up S 13 0 (zb (¬ ((¬ (a < 0)) ∧ (¬ (2 < a)))))))) else (.inr (.inl (some (.inl 0)), (z_up S 13 0 (zb (¬ ((¬ (a < 0)) ∧ (¬ (2 < a)))))), 0))) := zr_2_0 i281_0 (zr_1_1 i281_1 (zr_cv (zs_22_1 i281_2 na_279 rfl) (f279 a S ) (zt_trans (zt_cast (zr_18b_0 i281_3 (fun h1554 => zr_0 i281_4 kc_0 (zr_17 i281_5 (zt_rfl))) (fun h1555 => zr_0 i281_6 kc_1 (zt_rfl))) (zm_c zz_s (zl_c (zl_t zz_01) zz_s) zz_s)) (zr_cv (zs_21_1 i281_7 na_212 ob_13 rfl) (f212 (zb (¬ ((¬ (a < 0)) ∧ (¬ (2 < a))))) S ) (zr_18b_1 i281_8 (fun h1556 => zr_2_0 i281_11 (zr_6r i281_12 fl_13_67 (zr_1_1 i281_13 (zr_8 i281_14 ar_129 (g0 h1556) rfl (show (z_up S 13 0 (zb (¬ ((¬ (a < 0)) ∧ (¬ (2 < a)))))) 129 a.toNatClampNeg = (S 129 a.toNatClampNeg) from rfl) (zr_3_2 i281_15 (zr_0 i281_16 kc_0 (zr_3_3 i281_17 (zt_rfl)))))))) (fun h1557 => zr_0 i281_9 kc_0 (zr_25 i281_10)))))))
set_option maxRecDepth 100000 in
theorem s281_18 {L : Nat} (x1 x2 x3 : Int32) (S : zS) (g0 : (¬ ((S 13 57) ≤ x3)) → zx 40 x3) : zt L 281 18 [some (.inr (.inr 13)), some (.inl x1), some (.inl x2), some (.inl x3)] [] S (if ((S 13 57) ≤ x3) then (.inl (42, [some (.inr (.inr 13)), some (.inl x1), some (.inl x2), some (.inl x3)], [], S)) else (.inl (18, [some (.inr (.inr 13)), some (.inl x1), some (.inl (x2 + (zb (((S 122 x3.toNatClampNeg) = x1) ∧ (¬ ((S 125 x3.toNatClampNeg) = 2)))))), some (.inl (x3 + 1))], [], S))) := zr_1_3 i281_18 (zr_2_0 i281_19 (zr_6 i281_20 fl_13_57 (show S 13 57 = (S 13 57) from rfl) (zr_19_3 i281_21 (fun h1558 => zt_rfl) (fun h1559 => zr_1_2 i281_22 (zr_2_0 i281_23 (zr_6r i281_24 fl_13_60 (zr_1_3 i281_25 (zr_8 i281_26 ar_122 (g0 h1559) rfl (show S 122 x3.toNatClampNeg = (S 122 x3.toNatClampNeg) from rfl) (zr_1_1 i281_27 (zt_trans (zt_cast (zr_19_1 i281_28 (fun h1560 => zr_2_0 i281_29 (zr_6r i281_30 fl_13_63 (zr_1_3 i281_31 (zr_8 i281_32 ar_125 (g0 h1559) rfl (show S 125 x3.toNatClampNeg = (S 125 x3.toNatClampNeg) from rfl) (zr_0 i281_33 kc_2 (zt_cast (zr_19_0 i281_34 (fun h1562 => zr_0 i281_37 kc_0 (zt_rfl)) (fun h1563 => zr_0 i281_35 kc_1 (zr_17 i281_36 (zt_rfl)))) (zm_c zz_s (zl_c (zl_t zz_01) zz_s) zz_s))))))) (fun h1561 => zr_0 i281_37 kc_0 (zt_rfl))) (zm_c zz_s (zl_c (zl_t zz_b0) zz_s) zz_s)) (zr_13_0 i281_38 (zr_3_2 i281_39 (zr_5_3 i281_40 kc_1 (zr_17 i281_41 (zt_rfl)))))))))))))))
set_option maxRecDepth 100000 in
theorem s281_42 {L : Nat} (x1 x2 x3 : Int32) (S : zS) : zt L 281 42 [some (.inr (.inr 13)), some (.inl x1), some (.inl x2), some (.inl x3)] [] S (.inr (.inl (some (.inl x2)), S, 0)) := zr_1_2 i281_42 (zr_25 i281_43)
def k281_18 (x1 : Int32) (S : zS) (j : Nat) (a : Int32) : Int32 := (a + (zb (((S 122 j) = x1) ∧ (¬ ((S 125 j) = 2)))))
set_option maxRecDepth 100000 in
theorem l281_18 {L : Nat} (x1 : Int32) (S : zS) (i0 n : Nat) (a : Int32) (hn : i0 + n < 2147483648) (hc0 : ∀ j, j < n → ¬ ((S 13 57) ≤ (Int32.ofNat (i0 + j)))) (g0 : ∀ j, j < n → (¬ ((S 13 57) ≤ (Int32.ofNat (i0 + j)))) → zx 40 (Int32.ofNat (i0 + j))) : zt L 281 18 [some (.inr (.inr 13)), some (.inl x1), some (.inl a), some (.inl (Int32.ofNat i0))] [] S (.inl (18, [some (.inr (.inr 13)), some (.inl x1), some (.inl (zfold (k281_18 x1 S) i0 n a)), some (.inl (Int32.ofNat (i0 + n)))], [], S)) := by
  induction n with
  | zero => exact zt_rfl
  | succ n ih =>
    have e1 := zk_ix (i0 + n) (by omega)
    have e2 := zk_add (i0 + n)
    refine zt_trans (ih (by omega) (fun j hj => hc0 j (by omega)) (fun j hj => g0 j (by omega))) ?_
    refine zt_cast (s281_18 x1 (zfold (k281_18 x1 S) i0 n a) (Int32.ofNat (i0 + n)) S (by have hg := g0 n (by omega); first | exact hg | (simp only [e1]; exact hg))) ?_
    rw [if_neg (show ¬ ((S 13 57) ≤ (Int32.ofNat (i0 + n))) from (by have hg := hc0 n (by omega); first | exact hg | (simp only [e1]; exact hg)))]
    simp only [zfold, k281_18, e1, e2, ← Nat.add_assoc]
-- 301 X12_bits: cut points [4, 17]
set_option maxRecDepth 100000 in
theorem s301_e {L : Nat} (a : Int32) (S : zS) : zt L 301 0 [some (.inl a), none, none] [] S (.inl (4, [some (.inl a), some (.inl 0), some (.inl 0)], [], S)) := zr_0 i301_0 kc_0 (zr_3_1 i301_1 (zr_0 i301_2 kc_0 (zr_3_2 i301_3 (zt_rfl))))
set_option maxRecDepth 100000 in
theorem s301_4 {L : Nat} (x0 x1 x2 : Int32) (S : zS) : zt L 301 4 [some (.inl x0), some (.inl x1), some (.inl x2)] [] S (if (8 ≤ x2) then (.inl (17, [some (.inl x0), some (.inl x1), some (.inl x2)], [], S)) else (.inl (4, [some (.inl x0), some (.inl (x1 + ((zshr x0 x2) &&& 1))), some (.inl (x2 + 1))], [], S))) := zr_1_2 i301_4 (zr_0 i301_5 kc_8 (zr_19_3 i301_6 (fun h1604 => zt_rfl) (fun h1605 => zr_1_1 i301_7 (zr_1_0 i301_8 (zr_1_2 i301_9 (zr_13_9 i301_10 (zr_0 i301_11 kc_1 (zr_13_5 i301_12 (zr_13_0 i301_13 (zr_3_1 i301_14 (zr_5_2 i301_15 kc_1 (zr_17 i301_16 (zt_rfl)))))))))))))
set_option maxRecDepth 100000 in
theorem s301_17 {L : Nat} (x0 x1 x2 : Int32) (S : zS) : zt L 301 17 [some (.inl x0), some (.inl x1), some (.inl x2)] [] S (.inr (.inl (some (.inl x1)), S, 0)) := zr_1_1 i301_17 (zr_25 i301_18)
def k301_4 (x0 : Int32) (S : zS) (j : Nat) (a : Int32) : Int32 := (a + ((zshr x0 (Int32.ofNat j)) &&& 1))
set_option maxRecDepth 100000 in
theorem l301_4 {L : Nat} (x0 : Int32) (S : zS) (i0 n : Nat) (a : Int32) (hn : i0 + n < 2147483648) (hc0 : ∀ j, j < n → ¬ (8 ≤ (Int32.ofNat (i0 + j)))) : zt L 301 4 [some (.inl x0), some (.inl a), some (.inl (Int32.ofNat i0))] [] S (.inl (4, [some (.inl x0), some (.inl (zfold (k301_4 x0 S) i0 n a)), some (.inl (Int32.ofNat (i0 + n)))], [], S)) := by
  induction n with
  | zero => exact zt_rfl
  | succ n ih =>
    have e1 := zk_ix (i0 + n) (by omega)
    have e2 := zk_add (i0 + n)
    refine zt_trans (ih (by omega) (fun j hj => hc0 j (by omega))) ?_
    refine zt_cast (s301_4 x0 (zfold (k301_4 x0 S) i0 n a) (Int32.ofNat (i0 + n)) S) ?_
    rw [if_neg (show ¬ (8 ≤ (Int32.ofNat (i0 + n))) from (by have hg := hc0 n (by omega); first | exact hg | (simp only [e1]; exact hg)))]
    simp only [zfold, k301_4, e1, e2, ← Nat.add_assoc]
-- 309 X12_certifies: cut points [20, 44]
set_option maxRecDepth 100000 in
theorem s309_e {L : Nat} (a b : Int32) (S : zS) (g0 : zx 6 (a / 36)) : zt L 309 0 [some (.inr (.inr 13)), some (.inl a), some (.inl b), none, none] [] S (if ((S 84 (a / 36).toNatClampNeg) = 2) then (if ((S 13 79) = 30) then (.inr (.inl (some (.inl (-11))), S, 0)) else (.inl (20, [some (.inr (.inr 13)), some (.inl a), some (.inl b), some (.inl (S 13 79)), some (.inl 0)], [], S))) else (.inr (.inl (some (.inl (-13))), S, 0))) := zr_2_0 i309_0 (zr_6r i309_1 fl_13_19 (zr_1_1 i309_2 (zr_cv (zs_22_1 i309_3 na_237 rfl) (f237 a S ) (zr_8 i309_4 ar_84 (g0) rfl (show S 84 (a / 36).toNatClampNeg = (S 84 (a / 36).toNatClampNeg) from rfl) (zr_0 i309_5 kc_2 (zr_19_0 i309_6 (fun h1630 => zr_2_0 i309_9 (zr_6 i309_10 fl_13_79 (show S 13 79 = (S 13 79) from rfl) (zr_0 i309_11 kc_30 (zr_19_1 i309_12 (fun h1632 => zr_0 i309_13 kc_m11 (zr_25 i309_14)) (fun h1633 => zr_2_0 i309_15 (zr_6 i309_16 fl_13_79 (show S 13 79 = (S 13 79) from rfl) (zr_3_3 i309_17 (zr_0 i309_18 kc_0 (zr_3_4 i309_19 (zt_rfl)))))))))) (fun h1631 => zr_0 i309_7 kc_m13 (zr_25 i309_8))))))))
set_option maxRecDepth 100000 in
theorem s309_20 {L : Nat} (x1 x2 x3 x4 : Int32) (S : zS) (g0 : (¬ ((S 13 79) ≤ x4)) → (¬ ((zrem x1 6) = 0)) → zx 30 x4) : zt L 309 20 [some (.inr (.inr 13)), some (.inl x1), some (.inl x2), some (.inl x3), some (.inl x4)] [] S (if ((S 13 79) ≤ x4) then (.inl (44, [some (.inr (.inr 13)), some (.inl x1), some (.inl x2), some (.inl x3), some (.inl x4)], [], S)) else (if ((zrem x1 6) = 0) then (.inl (44, [some (.inr (.inr 13)), some (.inl x1), some (.inl x2), some (.inl x3), some (.inl x4)], [], S)) else (.inl (20, [some (.inr (.inr 13)), some (.inl x1), some (.inl x2), some (.inl (if ((S 140 x4.toNatClampNeg) = (x1 - (zrem x1 6))) then (x4 : Int32) else x3)), some (.inl (x4 + 1))], [], S)))) := zr_1_4 i309_20 (zr_2_0 i309_21 (zr_6 i309_22 fl_13_79 (show S 13 79 = (S 13 79) from rfl) (zr_19_3 i309_23 (fun h1634 => zt_rfl) (fun h1635 => zr_1_1 i309_24 (zr_0 i309_25 kc_6 (zr_13_4 i309_26 nz_6 (zr_18_0 i309_27 (fun h1636 => zt_rfl) (fun h1637 => zr_2_0 i309_28 (zr_6r i309_29 fl_13_81 (zr_1_4 i309_30 (zr_8 i309_31 ar_140 (g0 h1635 h1637) rfl (show S 140 x4.toNatClampNeg = (S 140 x4.toNatClampNeg) from rfl) (zr_1_1 i309_32 (zr_1_1 i309_33 (zr_0 i309_34 kc_6 (zr_13_4 i309_35 nz_6 (zr_13_1 i309_36 (zt_trans (zt_cast (zr_19_1 i309_37 (fun h1638 => zr_1_4 i309_38 (zr_17 i309_39 (zt_rfl))) (fun h1639 => zr_1_3 i309_40 (zt_rfl))) (zm_c zz_s (zl_c (zl_t zz_e) zz_s) zz_s)) (zr_3_3 i309_41 (zr_5_4 i309_42 kc_1 (zr_17 i309_43 (zt_rfl)))))))))))))))))))))
set_option maxRecDepth 100000 in
theorem s309_44 {L : Nat} (x1 x2 x3 x4 : Int32) (S : zS) (g0 : (x3 = (S 13 79)) → zx 30 (S 13 79)) (g1 : (x3 = (S 13 79)) → (¬ (x3 = (S 13 79))) → zx 30 x3) (g2 : (¬ (x3 = (S 13 79))) → zx 30 x3) (g3 : (¬ (x3 = (S 13 79))) → (¬ ((S 141 x3.toNatClampNeg) ≤ (S 13 1))) → ((S 143 x3.toNatClampNeg) = 0) → zx 30 (S 139 x3.toNatClampNeg)) (g4 : (¬ (x3 = (S 13 79))) → (¬ ((F308 x3 S) = 0)) → zx 30 (S 13 79)) : zt L 309 44 [some (.inr (.inr 13)), some (.inl x1), some (.inl x2), some (.inl x3), some (.inl x4)] [] S (.inr (.inl (some (.inl (if (x3 = (S 13 79)) then ((((S 13 79) + 1) - 1) : Int32) else (if ((F308 x3 S) = 0) then ((-7) : Int32) else (((S 13 79) + 1) - 1))))), (if (x3 = (S 13 79)) then (z_up (z_up (z_up (z_up S 139 (S 13 79).toNatClampNeg x3) 140 (S 13 79).toNatClampNeg x1) 141 (S 13 79).toNatClampNeg (if (x3 = (S 13 79)) then (((S 13 1) + x2) : Int32) else (if (((S 13 1) + x2) ≤ (S 141 x3.toNatClampNeg)) then (((S 13 1) + x2) : Int32) else (S 141 x3.toNatClampNeg)))) 13 79 ((S 13 79) + 1)) else (if ((F308 x3 S) = 0) then S else (z_up (z_up (z_up (z_up S 139 (S 13 79).toNatClampNeg x3) 140 (S 13 79).toNatClampNeg x1) 141 (S 13 79).toNatClampNeg (if (x3 = (S 13 79)) then (((S 13 1) + x2) : Int32) else (if (((S 13 1) + x2) ≤ (S 141 x3.toNatClampNeg)) then (((S 13 1) + x2) : Int32) else (S 141 x3.toNatClampNeg)))) 13 79 ((S 13 79) + 1)))), 0)) := zr_1_3 i309_44 (zr_2_0 i309_45 (zr_6 i309_46 fl_13_79 (show S 13 79 = (S 13 79) from rfl) (zt_cast (zr_19_0 i309_47 (fun h1640 => zr_2_0 i309_54 (zr_6 i309_55 fl_13_1 (show S 13 1 = (S 13 1) from rfl) (zr_1_2 i309_56 (zr_13_0 i309_57 (zr_3_4 i309_58 (zr_2_0 i309_59 (zr_6r i309_60 fl_13_80 (zr_2_0 i309_61 (zr_6 i309_62 fl_13_79 (show S 13 79 = (S 13 79) from rfl) (zr_1_3 i309_63 (zr_10 i309_64 ar_139 (g0 h1640) rfl (zr_2_0 i309_65 (zr_6r i309_66 fl_13_81 (zr_2_0 i309_67 (zr_6 i309_68 fl_13_79 (show (z_up S 139 (S 13 79).toNatClampNeg x3) 13 79 = (S 13 79) from rfl) (zr_1_1 i309_69 (zr_10 i309_70 ar_140 (g0 h1640) rfl (zr_2_0 i309_71 (zr_6r i309_72 fl_13_82 (zr_2_0 i309_73 (zr_6 i309_74 fl_13_79 (show (z_up (z_up S 139 (S 13 79).toNatClampNeg x3) 140 (S 13 79).toNatClampNeg x1) 13 79 = (S 13 79) from rfl) (zr_1_3 i309_75 (zr_2_0 i309_76 (zr_6 i309_77 fl_13_79 (show (z_up (z_up S 139 (S 13 79).toNatClampNeg x3) 140 (S 13 79).toNatClampNeg x1) 13 79 = (S 13 79) from rfl) (zt_trans (zt_cast (zr_19_0 i309_78 (fun h1642 => zr_1_4 i309_90 (zt_rfl)) (fun h1643 => zr_2_0 i309_79 (zr_6r i309_80 fl_13_82 (zr_1_3 i309_81 (zr_8 i309_82 ar_141 (g1 h1640 h1643) rfl (show (z_up (z_up S 139 (S 13 79).toNatClampNeg x3) 140 (S 13 79).toNatClampNeg x1) 141 x3.toNatClampNeg = (S 141 x3.toNatClampNeg) from rfl) (zr_1_4 i309_83 (zt_cast (zr_19_3 i309_84 (fun h1644 => zr_1_4 i309_90 (zt_rfl)) (fun h1645 => zr_2_0 i309_85 (zr_6r i309_86 fl_13_82 (zr_1_3 i309_87 (zr_8 i309_88 ar_141 (g1 h1640 h1643) rfl (show (z_up (z_up S 139 (S 13 79).toNatClampNeg x3) 140 (S 13 79).toNatClampNeg x1) 141 x3.toNatClampNeg = (S 141 x3.toNatClampNeg) from rfl) (zr_17 i309_89 (zt_rfl))))))) (zm_c zz_s (zl_c (zl_t zz_e) zz_s) zz_s)))))))) (zm_c zz_s (zl_c (zl_t zz_e) zz_s) zz_s)) (zr_10 i309_91 ar_141 (g0 h1640) rfl (zr_2_0 i309_92 (zr_14r i309_93 (zr_6 i309_94 fl_13_79 (show (z_up (z_up (z_up S 139 (S 13 79).toNatClampNeg x3) 140 (S 13 79).toNatClampNeg x1) 141 (S 13 79).toNatClampNeg (if (x3 = (S 13 79)) then (((S 13 1) + x2) : Int32) else (if (((S 13 1) + x2) ≤ (S 141 x3.toNatClampNeg)) then (((S 13 1) + x2) : Int32) else (S 141 x3.toNatClampNeg)))) 13 79 = (S 13 79) from rfl) (zr_0 i309_95 kc_1 (zr_13_0 i309_96 (zr_7 i309_97 fl_13_79 (zr_2_0 i309_98 (zr_6 i309_99 fl_13_79 (show (z_up (z_up (z_up (z_up S 139 (S 13 79).toNatClampNeg x3) 140 (S 13 79).toNatClampNeg x1) 141 (S 13 79).toNatClampNeg (if (x3 = (S 13 79)) then (((S 13 1) + x2) : Int32) else (if (((S 13 1) + x2) ≤ (S 141 x3.toNatClampNeg)) then (((S 13 1) + x2) : Int32) else (S 141 x3.toNatClampNeg)))) 13 79 ((S 13 79) + 1)) 13 79 = ((S 13 79) + 1) from rfl) (zr_0 i309_100 kc_1 (zr_13_1 i309_101 (zr_25 i309_102))))))))))))))))))))))))))))))))))))) (fun h1641 => zr_2_0 i309_48 (zr_1_3 i309_49 (zr_cv (zs_21_1 i309_50 na_308 ob_13 rfl) (f308 x3 S (g2 h1641) (fun h1646 h1647 => (g3 h1641 h1646 h1647))) (zt_cast (zr_18_1 i309_51 (fun h1648 => zr_0 i309_52 kc_m7 (zr_25 i309_53)) (fun h1649 => zr_2_0 i309_54 (zr_6 i309_55 fl_13_1 (show S 13 1 = (S 13 1) from rfl) (zr_1_2 i309_56 (zr_13_0 i309_57 (zr_3_4 i309_58 (zr_2_0 i309_59 (zr_6r i309_60 fl_13_80 (zr_2_0 i309_61 (zr_6 i309_62 fl_13_79 (show S 13 79 = (S 13 79) from rfl) (zr_1_3 i309_63 (zr_10 i309_64 ar_139 (g4 h1641 h1649) rfl (zr_2_0 i309_65 (zr_6r i309_66 fl_13_81 (zr_2_0 i309_67 (zr_6 i309_68 fl_13_79 (show (z_up S 139 (S 13 79).toNatClampNeg x3) 13 79 = (S 13 79) from rfl) (zr_1_1 i309_69 (zr_10 i309_70 ar_140 (g4 h1641 h1649) rfl (zr_2_0 i309_71 (zr_6r i309_72 fl_13_82 (zr_2_0 i309_73 (zr_6 i309_74 fl_13_79 (show (z_up (z_up S 139 (S 13 79).toNatClampNeg x3) 140 (S 13 79).toNatClampNeg x1) 13 79 = (S 13 79) from rfl) (zr_1_3 i309_75 (zr_2_0 i309_76 (zr_6 i309_77 fl_13_79 (show (z_up (z_up S 139 (S 13 79).toNatClampNeg x3) 140 (S 13 79).toNatClampNeg x1) 13 79 = (S 13 79) from rfl) (zt_trans (zt_cast (zr_19_0 i309_78 (fun h1650 => zr_1_4 i309_90 (zt_rfl)) (fun h1651 => zr_2_0 i309_79 (zr_6r i309_80 fl_13_82 (zr_1_3 i309_81 (zr_8 i309_82 ar_141 (g2 h1641) rfl (show (z_up (z_up S 139 (S 13 79).toNatClampNeg x3) 140 (S 13 79).toNatClampNeg x1) 141 x3.toNatClampNeg = (S 141 x3.toNatClampNeg) from rfl) (zr_1_4 i309_83 (zt_cast (zr_19_3 i309_84 (fun h1652 => zr_1_4 i309_90 (zt_rfl)) (fun h1653 => zr_2_0 i309_85 (zr_6r i309_86 fl_13_82 (zr_1_3 i309_87 (zr_8 i309_88 ar_141 (g2 h1641) rfl (show (z_up (z_up S 139 (S 13 79).toNatClampNeg x3) 140 (S 13 79).toNatClampNeg x1) 141 x3.toNatClampNeg = (S 141 x3.toNatClampNeg) from rfl) (zr_17 i309_89 (zt_rfl))))))) (zm_c zz_s (zl_c (zl_t zz_e) zz_s) zz_s)))))))) (zm_c zz_s (zl_c (zl_t zz_e) zz_s) zz_s)) (zr_10 i309_91 ar_141 (g4 h1641 h1649) rfl (zr_2_0 i309_92 (zr_14r i309_93 (zr_6 i309_94 fl_13_79 (show (z_up (z_up (z_up S 139 (S 13 79).toNatClampNeg x3) 140 (S 13 79).toNatClampNeg x1) 141 (S 13 79).toNatClampNeg (if (x3 = (S 13 79)) then (((S 13 1) + x2) : Int32) else (if (((S 13 1) + x2) ≤ (S 141 x3.toNatClampNeg)) then (((S 13 1) + x2) : Int32) else (S 141 x3.toNatClampNeg)))) 13 79 = (S 13 79) from rfl) (zr_0 i309_95 kc_1 (zr_13_0 i309_96 (zr_7 i309_97 fl_13_79 (zr_2_0 i309_98 (zr_6 i309_99 fl_13_79 (show (z_up (z_up (z_up (z_up S 139 (S 13 79).toNatClampNeg x3) 140 (S 13 79).toNatClampNeg x1) 141 (S 13 79).toNatClampNeg (if (x3 = (S 13 79)) then (((S 13 1) + x2) : Int32) else (if (((S 13 1) + x2) ≤ (S 141 x3.toNatClampNeg)) then (((S 13 1) + x2) : Int32) else (S 141 x3.toNatClampNeg)))) 13 79 ((S 13 79) + 1)) 13 79 = ((S 13 79) + 1) from rfl) (zr_0 i309_100 kc_1 (zr_13_1 i309_101 (zr_25 i309_102)))))))))))))))))))))))))))))))))))))) (zm_r zz_e zz_e)))))) (zm_r zz_e zz_e))))
def k309_20 (x1 x2 : Int32) (S : zS) (j : Nat) (a : Int32) : Int32 := (if ((S 140 j) = (x1 - (zrem x1 6))) then ((Int32.ofNat j) : Int32) else a)
set_option maxRecDepth 100000 in
theorem l309_20 {L : Nat} (x1 x2 : Int32) (S : zS) (i0 n : Nat) (a : Int32) (hn : i0 + n < 2147483648) (hc0 : ∀ j, j < n → ¬ ((S 13 79) ≤ (Int32.ofNat (i0 + j)))) (hc1 : ∀ j, j < n → ¬ ((zrem x1 6) = 0)) (g0 : ∀ j, j < n → (¬ ((S 13 79) ≤ (Int32.ofNat (i0 + j)))) → (¬ ((zrem x1 6) = 0)) → zx 30 (Int32.ofNat (i0 + j))) : zt L 309 20 [some (.inr (.inr 13)), some (.inl x1), some (.inl x2), some (.inl a), some (.inl (Int32.ofNat i0))] [] S (.inl (20, [some (.inr (.inr 13)), some (.inl x1), some (.inl x2), some (.inl (zfold (k309_20 x1 x2 S) i0 n a)), some (.inl (Int32.ofNat (i0 + n)))], [], S)) := by
  induction n with
  | zero => exact zt_rfl
  | succ n ih =>
    have e1 := zk_ix (i0 + n) (by omega)
    have e2 := zk_add (i0 + n)
    refine zt_trans (ih (by omega) (fun j hj => hc0 j (by omega)) (fun j hj => hc1 j (by omega)) (fun j hj => g0 j (by omega))) ?_
    refine zt_cast (s309_20 x1 x2 (zfold (k309_20 x1 x2 S) i0 n a) (Int32.ofNat (i0 + n)) S (by have hg := g0 n (by omega); first | exact hg | (simp only [e1]; exact hg))) ?_
    rw [if_neg (show ¬ ((S 13 79) ≤ (Int32.ofNat (i0 + n))) from (by have hg := hc0 n (by omega); first | exact hg | (simp only [e1]; exact hg)))]
    rw [if_neg (show ¬ ((zrem x1 6) = 0) from (by have hg := hc1 n (by omega); first | exact hg | (simp only [e1]; exact hg)))]
    simp only [zfold, k309_20, e1, e2, ← Nat.add_assoc]
-- 312 X12_publish: cut points [7, 43]
set_option maxRecDepth 100000 in
theorem s312_e {L : Nat} (S : zS) : zt L 312 0 [some (.inr (.inr 13)), none, none] [] S (.inl (7, [some (.inr (.inr 13)), some (.inl 0), some (.inl 0)], [], (z_up S 13 0 0))) := zr_2_0 i312_0 (zr_0 i312_1 kc_0 (zr_7 i312_2 fl_13_0 (zr_0 i312_3 kc_0 (zr_3_1 i312_4 (zr_0 i312_5 kc_0 (zr_3_2 i312_6 (zt_rfl)))))))
set_option maxRecDepth 100000 in
theorem s312_7 {L : Nat} (x1 x2 : Int32) (S : zS) (g0 : (¬ ((S 13 79) ≤ x2)) → zx 30 x2) : zt L 312 7 [some (.inr (.inr 13)), some (.inl x1), some (.inl x2)] [] S (if ((S 13 79) ≤ x2) then (.inl (43, [some (.inr (.inr 13)), some (.inl x1), some (.inl x2)], [], S)) else (.inl (7, [some (.inr (.inr 13)), some (.inl (x1 + (zb ((¬ ((S 142 x2.toNatClampNeg) = 0)) ∧ (¬ ((S 141 x2.toNatClampNeg) ≤ (S 13 1))))))), some (.inl (x2 + 1))], [], (z_up S 143 x2.toNatClampNeg (zb ((¬ ((S 142 x2.toNatClampNeg) = 0)) ∧ (¬ ((S 141 x2.toNatClampNeg) ≤ (S 13 1))))))))) := zr_1_2 i312_7 (zr_2_0 i312_8 (zr_6 i312_9 fl_13_79 (show S 13 79 = (S 13 79) from rfl) (zr_19_3 i312_10 (fun h1662 => zt_rfl) (fun h1663 => zr_2_0 i312_11 (zr_6r i312_12 fl_13_84 (zr_1_2 i312_13 (zr_2_0 i312_14 (zr_6r i312_15 fl_13_83 (zr_1_2 i312_16 (zr_9 i312_17 ar_142 (g0 h1663) rfl (show S 142 x2.toNatClampNeg = (S 142 x2.toNatClampNeg) from rfl) (zt_trans (zt_cast (zr_18_0 i312_18 (fun h1664 => zr_0 i312_28 kc_0 (zt_rfl)) (fun h1665 => zr_2_0 i312_19 (zr_6 i312_20 fl_13_1 (show S 13 1 = (S 13 1) from rfl) (zr_2_0 i312_21 (zr_6r i312_22 fl_13_82 (zr_1_2 i312_23 (zr_8 i312_24 ar_141 (g0 h1663) rfl (show S 141 x2.toNatClampNeg = (S 141 x2.toNatClampNeg) from rfl) (zt_cast (zr_19_3 i312_25 (fun h1666 => zr_0 i312_28 kc_0 (zt_rfl)) (fun h1667 => zr_0 i312_26 kc_1 (zr_17 i312_27 (zt_rfl)))) (zm_c zz_s (zl_c (zl_t zz_01) zz_s) zz_s))))))))) (zm_c zz_s (zl_c (zl_t zz_0b) zz_s) zz_s)) (zr_11 i312_29 ar_143 (g0 h1663) (zb_01 _) rfl (zr_1_1 i312_30 (zr_2_0 i312_31 (zr_6r i312_32 fl_13_84 (zr_1_2 i312_33 (zr_9 i312_34 ar_143 (g0 h1663) rfl ((show (z_up S 143 x2.toNatClampNeg (zb ((¬ ((S 142 x2.toNatClampNeg) = 0)) ∧ (¬ ((S 141 x2.toNatClampNeg) ≤ (S 13 1)))))) 143 x2.toNatClampNeg = (z_up S 143 x2.toNatClampNeg (zb ((¬ ((S 142 x2.toNatClampNeg) = 0)) ∧ (¬ ((S 141 x2.toNatClampNeg) ≤ (S 13 1)))))) 143 x2.toNatClampNeg from rfl).trans (zup_s _ _ _ _)) (zt_trans (zt_cast (zr_18b_0 i312_35 (fun h1668 => zr_0 i312_36 kc_1 (zr_17 i312_37 (zt_rfl))) (fun h1669 => zr_0 i312_38 kc_0 (zt_rfl))) (zm_c zz_s (zl_c (zl_t zz_10) zz_s) zz_s)) (zr_13_0 i312_39 (zr_3_1 i312_40 (zr_5_2 i312_41 kc_1 (zr_17 i312_42 (zt_rfl)))))))))))))))))))))))
set_option maxRecDepth 100000 in
theorem s312_43 {L : Nat} (x1 x2 : Int32) (S : zS) : zt L 312 43 [some (.inr (.inr 13)), some (.inl x1), some (.inl x2)] [] S (.inr (.inl (some (.inl x1)), S, 0)) := zr_1_1 i312_43 (zr_25 i312_44)
def k312_7 (j : Nat) (a : Int32 × zS) : Int32 × zS := ((a.1 + (zb ((¬ ((a.2 142 j) = 0)) ∧ (¬ ((a.2 141 j) ≤ (a.2 13 1)))))), (z_up a.2 143 j (zb ((¬ ((a.2 142 j) = 0)) ∧ (¬ ((a.2 141 j) ≤ (a.2 13 1)))))))
set_option maxRecDepth 100000 in
theorem l312_7 {L : Nat} (i0 n : Nat) (a : Int32 × zS) (hn : i0 + n < 2147483648) (hc0 : ∀ j, j < n → ¬ (((zfold (k312_7 ) i0 j a).2 13 79) ≤ (Int32.ofNat (i0 + j)))) (g0 : ∀ j, j < n → (¬ (((zfold (k312_7 ) i0 j a).2 13 79) ≤ (Int32.ofNat (i0 + j)))) → zx 30 (Int32.ofNat (i0 + j))) : zt L 312 7 [some (.inr (.inr 13)), some (.inl a.1), some (.inl (Int32.ofNat i0))] [] a.2 (.inl (7, [some (.inr (.inr 13)), some (.inl (zfold (k312_7 ) i0 n a).1), some (.inl (Int32.ofNat (i0 + n)))], [], (zfold (k312_7 ) i0 n a).2)) := by
  induction n with
  | zero => exact zt_rfl
  | succ n ih =>
    have e1 := zk_ix (i0 + n) (by omega)
    have e2 := zk_add (i0 + n)
    refine zt_trans (ih (by omega) (fun j hj => hc0 j (by omega)) (fun j hj => g0 j (by omega))) ?_
    refine zt_cast (s312_7 (zfold (k312_7 ) i0 n a).1 (Int32.ofNat (i0 + n)) (zfold (k312_7 ) i0 n a).2 (by have hg := g0 n (by omega); first | exact hg | (simp only [e1]; exact hg))) ?_
    rw [if_neg (show ¬ (((zfold (k312_7 ) i0 n a).2 13 79) ≤ (Int32.ofNat (i0 + n))) from (by have hg := hc0 n (by omega); first | exact hg | (simp only [e1]; exact hg)))]
    simp only [zfold, k312_7, e1, e2, ← Nat.add_assoc]
-- 318 X12_ship: cut points [24, 88, 90, 121]
set_option maxRecDepth 100000 in
theorem s318_e {L : Nat} (a : Int32) (S : zS) : zt L 318 0 [some (.inr (.inr 13)), some (.inl a), none, none, none] [] S (if ((zb (¬ ((¬ (a < 1)) ∧ (¬ (100 < a))))) = 0) then (.inl (24, [some (.inr (.inr 13)), some (.inl a), some (.inl (if ((S 13 36) ≤ a) then ((S 13 36) : Int32) else a)), some (.inl 0), none], [], (z_up S 13 0 (zb (¬ ((¬ (a < 1)) ∧ (¬ (100 < a)))))))) else (.inr (.inl (some (.inl 0)), (z_up S 13 0 (zb (¬ ((¬ (a < 1)) ∧ (¬ (100 < a)))))), 0))) := zr_2_0 i318_0 (zr_1_1 i318_1 (zr_0 i318_2 kc_1 (zr_0 i318_3 kc_100 (zr_cv (zs_22_3 i318_4 na_213 rfl) (f213 a 1 100 S ) (zt_trans (zt_cast (zr_18b_0 i318_5 (fun h1692 => zr_0 i318_6 kc_0 (zr_17 i318_7 (zt_rfl))) (fun h1693 => zr_0 i318_8 kc_1 (zt_rfl))) (zm_c zz_s (zl_c (zl_t zz_01) zz_s) zz_s)) (zr_cv (zs_21_1 i318_9 na_212 ob_13 rfl) (f212 (zb (¬ ((¬ (a < 1)) ∧ (¬ (100 < a))))) S ) (zr_18b_1 i318_10 (fun h1694 => zr_1_1 i318_13 (zr_2_0 i318_14 (zr_6 i318_15 fl_13_36 (show (z_up S 13 0 (zb (¬ ((¬ (a < 1)) ∧ (¬ (100 < a)))))) 13 36 = (S 13 36) from rfl) (zt_trans (zt_cast (zr_19_3 i318_16 (fun h1696 => zr_2_0 i318_19 (zr_6 i318_20 fl_13_36 (show (z_up S 13 0 (zb (¬ ((¬ (a < 1)) ∧ (¬ (100 < a)))))) 13 36 = (S 13 36) from rfl) (zt_rfl))) (fun h1697 => zr_1_1 i318_17 (zr_17 i318_18 (zt_rfl)))) (zm_c zz_s (zl_c (zl_t zz_e) zz_s) zz_s)) (zr_3_2 i318_21 (zr_0 i318_22 kc_0 (zr_3_3 i318_23 (zt_rfl)))))))) (fun h1695 => zr_0 i318_11 kc_0 (zr_25 i318_12)))))))))
set_option maxRecDepth 100000 in
theorem s318_24 {L : Nat} (x1 x2 x3 : Int32) (u4 : Option zV) (S : zS) (g0 : (¬ (x2 ≤ x3)) → zx 2048 x3) (g1 : (¬ (x2 ≤ x3)) → ((S 98 x3.toNatClampNeg) = (-1)) → zx 216 (S 96 x3.toNatClampNeg)) (g2 : (¬ (x2 ≤ x3)) → ((S 98 x3.toNatClampNeg) = (-1)) → zx 864 ((4 * (S 96 x3.toNatClampNeg)) + (zrem (S 97 x3.toNatClampNeg) 4))) (g3 : (¬ (x2 ≤ x3)) → zx 864 ((4 * (S 96 x3.toNatClampNeg)) + (zrem (S 97 x3.toNatClampNeg) 4))) : zt L 318 24 [some (.inr (.inr 13)), some (.inl x1), some (.inl x2), some (.inl x3), u4] [] S (if (x2 ≤ x3) then (.inl (88, [some (.inr (.inr 13)), some (.inl x1), some (.inl x2), some (.inl x3), u4], [], S)) else (.inl (24, [some (.inr (.inr 13)), some (.inl x1), some (.inl x2), some (.inl (x3 + 1)), some (.inl ((4 * (S 96 x3.toNatClampNeg)) + (zrem (S 97 x3.toNatClampNeg) 4)))], [], (z_up (if ((S 98 x3.toNatClampNeg) = (-1)) then (z_up (z_up (z_up S 92 (S 96 x3.toNatClampNeg).toNatClampNeg (S 97 x3.toNatClampNeg)) 93 ((4 * (S 96 x3.toNatClampNeg)) + (zrem (S 97 x3.toNatClampNeg) 4)).toNatClampNeg (S 99 x3.toNatClampNeg)) 94 ((4 * (S 96 x3.toNatClampNeg)) + (zrem (S 97 x3.toNatClampNeg) 4)).toNatClampNeg (S 100 x3.toNatClampNeg)) else S) 95 ((4 * (S 96 x3.toNatClampNeg)) + (zrem (S 97 x3.toNatClampNeg) 4)).toNatClampNeg (if ((S 98 x3.toNatClampNeg) = (-1)) then (0 : Int32) else (S 98 x3.toNatClampNeg)))))) := zr_1_3 i318_24 (zr_1_2 i318_25 (zr_19_3 i318_26 (fun h1698 => zt_rfl) (fun h1699 => zr_2_0 i318_27 (zr_6r i318_28 fl_13_31 (zr_1_3 i318_29 (zr_8 i318_30 ar_96 (g0 h1699) rfl (show S 96 x3.toNatClampNeg = (S 96 x3.toNatClampNeg) from rfl) (zr_2_0 i318_31 (zr_6r i318_32 fl_13_32 (zr_1_3 i318_33 (zr_8 i318_34 ar_97 (g0 h1699) rfl (show S 97 x3.toNatClampNeg = (S 97 x3.toNatClampNeg) from rfl) (zr_cv (zs_22_2 i318_35 na_287 rfl) (f287 (S 96 x3.toNatClampNeg) (S 97 x3.toNatClampNeg) S ) (zr_3_4 i318_36 (zr_2_0 i318_37 (zr_6r i318_38 fl_13_33 (zr_1_3 i318_39 (zr_8 i318_40 ar_98 (g0 h1699) rfl (show S 98 x3.toNatClampNeg = (S 98 x3.toNatClampNeg) from rfl) (zr_0 i318_41 kc_m1 (zt_trans (zt_cast (zr_19_1 i318_42 (fun h1700 => zr_2_0 i318_43 (zr_6r i318_44 fl_13_27 (zr_2_0 i318_45 (zr_6r i318_46 fl_13_31 (zr_1_3 i318_47 (zr_8 i318_48 ar_96 (g0 h1699) rfl (show S 96 x3.toNatClampNeg = (S 96 x3.toNatClampNeg) from rfl) (zr_2_0 i318_49 (zr_6r i318_50 fl_13_32 (zr_1_3 i318_51 (zr_8 i318_52 ar_97 (g0 h1699) rfl (show S 97 x3.toNatClampNeg = (S 97 x3.toNatClampNeg) from rfl) (zr_10 i318_53 ar_92 (g1 h1699 h1700) rfl (zr_2_0 i318_54 (zr_6r i318_55 fl_13_28 (zr_1_4 i318_56 (zr_2_0 i318_57 (zr_6r i318_58 fl_13_34 (zr_1_3 i318_59 (zr_8 i318_60 ar_99 (g0 h1699) rfl (show (z_up S 92 (S 96 x3.toNatClampNeg).toNatClampNeg (S 97 x3.toNatClampNeg)) 99 x3.toNatClampNeg = (S 99 x3.toNatClampNeg) from rfl) (zr_10 i318_61 ar_93 (g2 h1699 h1700) rfl (zr_2_0 i318_62 (zr_6r i318_63 fl_13_29 (zr_1_4 i318_64 (zr_2_0 i318_65 (zr_6r i318_66 fl_13_35 (zr_1_3 i318_67 (zr_8 i318_68 ar_100 (g0 h1699) rfl (show (z_up (z_up S 92 (S 96 x3.toNatClampNeg).toNatClampNeg (S 97 x3.toNatClampNeg)) 93 ((4 * (S 96 x3.toNatClampNeg)) + (zrem (S 97 x3.toNatClampNeg) 4)).toNatClampNeg (S 99 x3.toNatClampNeg)) 100 x3.toNatClampNeg = (S 100 x3.toNatClampNeg) from rfl) (zr_10 i318_69 ar_94 (g2 h1699 h1700) rfl (zt_rfl)))))))))))))))))))))))))))) (fun h1701 => zt_rfl)) (zm_c zz_s zz_s zz_e)) (zr_2_0 i318_70 (zr_6r i318_71 fl_13_30 (zr_1_4 i318_72 (zr_2_0 i318_73 (zr_6r i318_74 fl_13_33 (zr_1_3 i318_75 (zr_8 i318_76 ar_98 (g0 h1699) rfl (zite_rd (show (z_up (z_up (z_up S 92 (S 96 x3.toNatClampNeg).toNatClampNeg (S 97 x3.toNatClampNeg)) 93 ((4 * (S 96 x3.toNatClampNeg)) + (zrem (S 97 x3.toNatClampNeg) 4)).toNatClampNeg (S 99 x3.toNatClampNeg)) 94 ((4 * (S 96 x3.toNatClampNeg)) + (zrem (S 97 x3.toNatClampNeg) 4)).toNatClampNeg (S 100 x3.toNatClampNeg)) 98 x3.toNatClampNeg = (S 98 x3.toNatClampNeg) from rfl) (show S 98 x3.toNatClampNeg = (S 98 x3.toNatClampNeg) from rfl)) (zr_0 i318_77 kc_m1 (zt_trans (zt_cast (zr_19_1 i318_78 (fun h1702 => zr_0 i318_79 kc_0 (zr_17 i318_80 (zt_rfl))) (fun h1703 => zr_2_0 i318_81 (zr_6r i318_82 fl_13_33 (zr_1_3 i318_83 (zr_8 i318_84 ar_98 (g0 h1699) rfl (zite_rd (show (z_up (z_up (z_up S 92 (S 96 x3.toNatClampNeg).toNatClampNeg (S 97 x3.toNatClampNeg)) 93 ((4 * (S 96 x3.toNatClampNeg)) + (zrem (S 97 x3.toNatClampNeg) 4)).toNatClampNeg (S 99 x3.toNatClampNeg)) 94 ((4 * (S 96 x3.toNatClampNeg)) + (zrem (S 97 x3.toNatClampNeg) 4)).toNatClampNeg (S 100 x3.toNatClampNeg)) 98 x3.toNatClampNeg = (S 98 x3.toNatClampNeg) from rfl) (show S 98 x3.toNatClampNeg = (S 98 x3.toNatClampNeg) from rfl)) (zt_rfl)))))) (zm_c zz_s (zl_c (zl_t zz_e) zz_s) zz_s)) (zr_10 i318_85 ar_95 (g3 h1699) rfl (zr_5_3 i318_86 kc_1 (zr_17 i318_87 (zt_rfl)))))))))))))))))))))))))))))))
set_option maxRecDepth 100000 in
theorem s318_88 {L : Nat} (x1 x2 x3 : Int32) (u4 : Option zV) (S : zS) : zt L 318 88 [some (.inr (.inr 13)), some (.inl x1), some (.inl x2), some (.inl x3), u4] [] S (.inl (90, [some (.inr (.inr 13)), some (.inl x1), some (.inl x2), some (.inl x2), u4], [], S)) := zr_1_2 i318_88 (zr_3_3 i318_89 (zt_rfl))
set_option maxRecDepth 100000 in
theorem s318_90 {L : Nat} (x1 x2 x3 : Int32) (u4 : Option zV) (S : zS) (g0 : (¬ ((S 13 36) ≤ x3)) → zx 2048 x3) (g1 : (¬ ((S 13 36) ≤ x3)) → zx 2048 (x3 - x2)) : zt L 318 90 [some (.inr (.inr 13)), some (.inl x1), some (.inl x2), some (.inl x3), u4] [] S (if ((S 13 36) ≤ x3) then (.inl (121, [some (.inr (.inr 13)), some (.inl x1), some (.inl x2), some (.inl x3), u4], [], S)) else (.inl (90, [some (.inr (.inr 13)), some (.inl x1), some (.inl x2), some (.inl (x3 + 1)), u4], [], (z_up (z_up (z_up (z_up (z_up S 96 (x3 - x2).toNatClampNeg (S 96 x3.toNatClampNeg)) 97 (x3 - x2).toNatClampNeg (S 97 x3.toNatClampNeg)) 98 (x3 - x2).toNatClampNeg (S 98 x3.toNatClampNeg)) 99 (x3 - x2).toNatClampNeg (S 99 x3.toNatClampNeg)) 100 (x3 - x2).toNatClampNeg (S 100 x3.toNatClampNeg))))) := zr_1_3 i318_90 (zr_2_0 i318_91 (zr_6 i318_92 fl_13_36 (show S 13 36 = (S 13 36) from rfl) (zr_19_3 i318_93 (fun h1704 => zt_rfl) (fun h1705 => zr_2_0 i318_94 (zr_1_3 i318_95 (zr_1_2 i318_96 (zr_13_1 i318_97 (zr_2_0 i318_98 (zr_6r i318_99 fl_13_31 (zr_1_3 i318_100 (zr_8 i318_101 ar_96 (g0 h1705) rfl (show S 96 x3.toNatClampNeg = (S 96 x3.toNatClampNeg) from rfl) (zr_2_0 i318_102 (zr_6r i318_103 fl_13_32 (zr_1_3 i318_104 (zr_8 i318_105 ar_97 (g0 h1705) rfl (show S 97 x3.toNatClampNeg = (S 97 x3.toNatClampNeg) from rfl) (zr_2_0 i318_106 (zr_6r i318_107 fl_13_33 (zr_1_3 i318_108 (zr_8 i318_109 ar_98 (g0 h1705) rfl (show S 98 x3.toNatClampNeg = (S 98 x3.toNatClampNeg) from rfl) (zr_2_0 i318_110 (zr_6r i318_111 fl_13_34 (zr_1_3 i318_112 (zr_8 i318_113 ar_99 (g0 h1705) rfl (show S 99 x3.toNatClampNeg = (S 99 x3.toNatClampNeg) from rfl) (zr_2_0 i318_114 (zr_6r i318_115 fl_13_35 (zr_1_3 i318_116 (zr_8 i318_117 ar_100 (g0 h1705) rfl (show S 100 x3.toNatClampNeg = (S 100 x3.toNatClampNeg) from rfl) (zr_cn (zs_21_6 i318_118 na_239 ob_13 rfl) (f239 (x3 - x2) (S 96 x3.toNatClampNeg) (S 97 x3.toNatClampNeg) (S 98 x3.toNatClampNeg) (S 99 x3.toNatClampNeg) (S 100 x3.toNatClampNeg) S (g1 h1705)) (zr_5_3 i318_119 kc_1 (zr_17 i318_120 (zt_rfl)))))))))))))))))))))))))))))))
set_option maxRecDepth 100000 in
theorem s318_121 {L : Nat} (x1 x2 x3 : Int32) (u4 : Option zV) (S : zS) : zt L 318 121 [some (.inr (.inr 13)), some (.inl x1), some (.inl x2), some (.inl x3), u4] [] S (.inr (.inl (some (.inl ((S 13 36) - x2))), (z_up S 13 36 ((S 13 36) - x2)), 0)) := zr_2_0 i318_121 (zr_14r i318_122 (zr_6 i318_123 fl_13_36 (show S 13 36 = (S 13 36) from rfl) (zr_1_2 i318_124 (zr_13_1 i318_125 (zr_7 i318_126 fl_13_36 (zr_2_0 i318_127 (zr_6 i318_128 fl_13_36 (show (z_up S 13 36 ((S 13 36) - x2)) 13 36 = ((S 13 36) - x2) from rfl) (zr_25 i318_129))))))))
def k318_24 (x1 x2 : Int32) (j : Nat) (a : Option zV × zS) : Option zV × zS := ((some (.inl ((4 * (a.2 96 j)) + (zrem (a.2 97 j) 4)))), (z_up (if ((a.2 98 j) = (-1)) then (z_up (z_up (z_up a.2 92 (a.2 96 j).toNatClampNeg (a.2 97 j)) 93 ((4 * (a.2 96 j)) + (zrem (a.2 97 j) 4)).toNatClampNeg (a.2 99 j)) 94 ((4 * (a.2 96 j)) + (zrem (a.2 97 j) 4)).toNatClampNeg (a.2 100 j)) else a.2) 95 ((4 * (a.2 96 j)) + (zrem (a.2 97 j) 4)).toNatClampNeg (if ((a.2 98 j) = (-1)) then (0 : Int32) else (a.2 98 j))))
set_option maxRecDepth 100000 in
theorem l318_24 {L : Nat} (x1 x2 : Int32) (i0 n : Nat) (a : Option zV × zS) (hn : i0 + n < 2147483648) (hc0 : ∀ j, j < n → ¬ (x2 ≤ (Int32.ofNat (i0 + j)))) (g0 : ∀ j, j < n → (¬ (x2 ≤ (Int32.ofNat (i0 + j)))) → zx 2048 (Int32.ofNat (i0 + j))) (g1 : ∀ j, j < n → (¬ (x2 ≤ (Int32.ofNat (i0 + j)))) → (((zfold (k318_24 x1 x2 ) i0 j a).2 98 (i0 + j)) = (-1)) → zx 216 ((zfold (k318_24 x1 x2 ) i0 j a).2 96 (i0 + j))) (g2 : ∀ j, j < n → (¬ (x2 ≤ (Int32.ofNat (i0 + j)))) → (((zfold (k318_24 x1 x2 ) i0 j a).2 98 (i0 + j)) = (-1)) → zx 864 ((4 * ((zfold (k318_24 x1 x2 ) i0 j a).2 96 (i0 + j))) + (zrem ((zfold (k318_24 x1 x2 ) i0 j a).2 97 (i0 + j)) 4))) (g3 : ∀ j, j < n → (¬ (x2 ≤ (Int32.ofNat (i0 + j)))) → zx 864 ((4 * ((zfold (k318_24 x1 x2 ) i0 j a).2 96 (i0 + j))) + (zrem ((zfold (k318_24 x1 x2 ) i0 j a).2 97 (i0 + j)) 4))) : zt L 318 24 [some (.inr (.inr 13)), some (.inl x1), some (.inl x2), some (.inl (Int32.ofNat i0)), a.1] [] a.2 (.inl (24, [some (.inr (.inr 13)), some (.inl x1), some (.inl x2), some (.inl (Int32.ofNat (i0 + n))), (zfold (k318_24 x1 x2 ) i0 n a).1], [], (zfold (k318_24 x1 x2 ) i0 n a).2)) := by
  induction n with
  | zero => exact zt_rfl
  | succ n ih =>
    have e1 := zk_ix (i0 + n) (by omega)
    have e2 := zk_add (i0 + n)
    refine zt_trans (ih (by omega) (fun j hj => hc0 j (by omega)) (fun j hj => g0 j (by omega)) (fun j hj => g1 j (by omega)) (fun j hj => g2 j (by omega)) (fun j hj => g3 j (by omega))) ?_
    refine zt_cast (s318_24 x1 x2 (Int32.ofNat (i0 + n)) (zfold (k318_24 x1 x2 ) i0 n a).1 (zfold (k318_24 x1 x2 ) i0 n a).2 (by have hg := g0 n (by omega); first | exact hg | (simp only [e1]; exact hg)) (by have hg := g1 n (by omega); first | exact hg | (simp only [e1]; exact hg)) (by have hg := g2 n (by omega); first | exact hg | (simp only [e1]; exact hg)) (by have hg := g3 n (by omega); first | exact hg | (simp only [e1]; exact hg))) ?_
    rw [if_neg (show ¬ (x2 ≤ (Int32.ofNat (i0 + n))) from (by have hg := hc0 n (by omega); first | exact hg | (simp only [e1]; exact hg)))]
    simp only [zfold, k318_24, e1, e2, ← Nat.add_assoc]
def k318_90 (x1 x2 : Int32) (j : Nat) (a : zS) : zS := (z_up (z_up (z_up (z_up (z_up a 96 ((Int32.ofNat j) - x2).toNatClampNeg (a 96 j)) 97 ((Int32.ofNat j) - x2).toNatClampNeg (a 97 j)) 98 ((Int32.ofNat j) - x2).toNatClampNeg (a 98 j)) 99 ((Int32.ofNat j) - x2).toNatClampNeg (a 99 j)) 100 ((Int32.ofNat j) - x2).toNatClampNeg (a 100 j))
set_option maxRecDepth 100000 in
theorem l318_90 {L : Nat} (x1 x2 : Int32) (u4 : Option zV) (i0 n : Nat) (a : zS) (hn : i0 + n < 2147483648) (hc0 : ∀ j, j < n → ¬ (((zfold (k318_90 x1 x2 ) i0 j a) 13 36) ≤ (Int32.ofNat (i0 + j)))) (g0 : ∀ j, j < n → (¬ (((zfold (k318_90 x1 x2 ) i0 j a) 13 36) ≤ (Int32.ofNat (i0 + j)))) → zx 2048 (Int32.ofNat (i0 + j))) (g1 : ∀ j, j < n → (¬ (((zfold (k318_90 x1 x2 ) i0 j a) 13 36) ≤ (Int32.ofNat (i0 + j)))) → zx 2048 ((Int32.ofNat (i0 + j)) - x2)) : zt L 318 90 [some (.inr (.inr 13)), some (.inl x1), some (.inl x2), some (.inl (Int32.ofNat i0)), u4] [] a (.inl (90, [some (.inr (.inr 13)), some (.inl x1), some (.inl x2), some (.inl (Int32.ofNat (i0 + n))), u4], [], (zfold (k318_90 x1 x2 ) i0 n a))) := by
  induction n with
  | zero => exact zt_rfl
  | succ n ih =>
    have e1 := zk_ix (i0 + n) (by omega)
    have e2 := zk_add (i0 + n)
    refine zt_trans (ih (by omega) (fun j hj => hc0 j (by omega)) (fun j hj => g0 j (by omega)) (fun j hj => g1 j (by omega))) ?_
    refine zt_cast (s318_90 x1 x2 (Int32.ofNat (i0 + n)) u4 (zfold (k318_90 x1 x2 ) i0 n a) (by have hg := g0 n (by omega); first | exact hg | (simp only [e1]; exact hg)) (by have hg := g1 n (by omega); first | exact hg | (simp only [e1]; exact hg))) ?_
    rw [if_neg (show ¬ (((zfold (k318_90 x1 x2 ) i0 n a) 13 36) ≤ (Int32.ofNat (i0 + n))) from (by have hg := hc0 n (by omega); first | exact hg | (simp only [e1]; exact hg)))]
    simp only [zfold, k318_90, e1, e2, ← Nat.add_assoc]
