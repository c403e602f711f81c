/-! the methods with loops, and what calls them (wip/p57/gen/gen18.py) -/
theorem i3_0 : zi 3 0 1 1 1 0 := by decide +kernel
theorem i3_1 : zi 3 1 2 0 0 6 := by decide +kernel
theorem i3_2 : zi 3 2 3 13 4 0 := by decide +kernel
theorem i3_3 : zi 3 3 4 3 2 0 := by decide +kernel
theorem i3_4 : zi 3 4 5 1 2 0 := by decide +kernel
theorem i3_5 : zi 3 5 6 18 8 1 := by decide +kernel
theorem i3_6 : zi 3 6 7 0 0 (-1) := by decide +kernel
theorem i3_7 : zi 3 7 8 25 0 0 := by decide +kernel
theorem i3_8 : zi 3 8 9 2 0 0 := by decide +kernel
theorem i3_9 : zi 3 9 10 6 0 0 := by decide +kernel
theorem i3_10 : zi 3 10 11 0 0 1 := by decide +kernel
theorem i3_11 : zi 3 11 12 13 1 0 := by decide +kernel
theorem i3_12 : zi 3 12 13 3 3 0 := by decide +kernel
theorem i3_13 : zi 3 13 14 1 3 0 := by decide +kernel
theorem i3_14 : zi 3 14 15 18 27 2 := by decide +kernel
theorem i3_15 : zi 3 15 16 2 0 0 := by decide +kernel
theorem i3_16 : zi 3 16 17 6 0 1 := by decide +kernel
theorem i3_17 : zi 3 17 18 1 3 0 := by decide +kernel
theorem i3_18 : zi 3 18 19 8 0 0 := by decide +kernel
theorem i3_19 : zi 3 19 20 1 1 0 := by decide +kernel
theorem i3_20 : zi 3 20 21 1 2 0 := by decide +kernel
theorem i3_21 : zi 3 21 22 13 1 0 := by decide +kernel
theorem i3_22 : zi 3 22 23 19 25 1 := by decide +kernel
theorem i3_23 : zi 3 23 24 1 3 0 := by decide +kernel
theorem i3_24 : zi 3 24 25 25 0 0 := by decide +kernel
theorem i3_25 : zi 3 25 26 5 3 (-1) := by decide +kernel
theorem i3_26 : zi 3 26 27 17 13 0 := by decide +kernel
theorem i3_27 : zi 3 27 28 0 0 (-1) := by decide +kernel
theorem i3_28 : zi 3 28 29 25 0 0 := by decide +kernel
theorem ml_3 : z_ml 3 = 4 := by decide +kernel
theorem en_3 : ∀ (v0 v1 : zV), z_ent 3 [v0, v1] = [some v0, some v1, none, none] := fun v0 v1 => by unfold z_ent; rw [ml_3]; rfl
theorem i6_0 : zi 6 0 1 0 0 0 := by decide +kernel
theorem i6_1 : zi 6 1 2 3 2 0 := by decide +kernel
theorem i6_2 : zi 6 2 3 0 0 0 := by decide +kernel
theorem i6_3 : zi 6 3 4 3 3 0 := by decide +kernel
theorem i6_4 : zi 6 4 5 1 3 0 := by decide +kernel
theorem i6_5 : zi 6 5 6 2 0 0 := by decide +kernel
theorem i6_6 : zi 6 6 7 6 0 0 := by decide +kernel
theorem i6_7 : zi 6 7 8 19 34 3 := by decide +kernel
theorem i6_8 : zi 6 8 9 2 0 0 := by decide +kernel
theorem i6_9 : zi 6 9 10 6 0 5 := by decide +kernel
theorem fl_11_5 : zfl 11 0 5 5 (some 76) := by decide +kernel
theorem i6_10 : zi 6 10 11 1 3 0 := by decide +kernel
theorem i6_11 : zi 6 11 12 2 0 0 := by decide +kernel
theorem i6_12 : zi 6 12 13 6 0 4 := by decide +kernel
theorem i6_13 : zi 6 13 14 1 3 0 := by decide +kernel
theorem i6_14 : zi 6 14 15 9 0 0 := by decide +kernel
theorem i6_15 : zi 6 15 16 18 24 0 := by decide +kernel
theorem i6_24 : zi 6 24 25 0 0 0 := by decide +kernel
theorem i6_16 : zi 6 16 17 2 0 0 := by decide +kernel
theorem i6_17 : zi 6 17 18 6 0 2 := by decide +kernel
theorem i6_18 : zi 6 18 19 1 3 0 := by decide +kernel
theorem i6_19 : zi 6 19 20 8 0 0 := by decide +kernel
theorem i6_20 : zi 6 20 21 1 1 0 := by decide +kernel
theorem i6_21 : zi 6 21 22 19 24 5 := by decide +kernel
theorem i6_22 : zi 6 22 23 0 0 1 := by decide +kernel
theorem i6_23 : zi 6 23 24 17 25 0 := by decide +kernel
theorem i6_25 : zi 6 25 26 11 0 0 := by decide +kernel
theorem ar_76 : zar 76 1 30 := by decide +kernel
theorem i6_26 : zi 6 26 27 2 0 0 := by decide +kernel
theorem i6_27 : zi 6 27 28 6 0 5 := by decide +kernel
theorem i6_28 : zi 6 28 29 1 3 0 := by decide +kernel
theorem i6_29 : zi 6 29 30 9 0 0 := by decide +kernel
theorem i6_30 : zi 6 30 31 18 32 0 := by decide +kernel
theorem i6_31 : zi 6 31 32 5 2 1 := by decide +kernel
theorem i6_32 : zi 6 32 33 5 3 1 := by decide +kernel
theorem i6_33 : zi 6 33 34 17 4 0 := by decide +kernel
theorem i6_34 : zi 6 34 35 1 2 0 := by decide +kernel
theorem i6_35 : zi 6 35 36 25 0 0 := by decide +kernel
theorem ml_6 : z_ml 6 = 4 := by decide +kernel
theorem en_6 : ∀ (v0 v1 : zV), z_ent 6 [v0, v1] = [some v0, some v1, none, none] := fun v0 v1 => by unfold z_ent; rw [ml_6]; rfl
theorem i7_0 : zi 7 0 1 1 1 0 := by decide +kernel
theorem i7_1 : zi 7 1 2 3 3 0 := by decide +kernel
theorem i7_2 : zi 7 2 3 0 0 0 := by decide +kernel
theorem i7_3 : zi 7 3 4 3 4 0 := by decide +kernel
theorem i7_4 : zi 7 4 5 1 4 0 := by decide +kernel
theorem i7_5 : zi 7 5 6 2 0 0 := by decide +kernel
theorem i7_6 : zi 7 6 7 6 0 0 := by decide +kernel
theorem i7_7 : zi 7 7 8 19 36 3 := by decide +kernel
theorem i7_8 : zi 7 8 9 2 0 0 := by decide +kernel
theorem i7_9 : zi 7 9 10 6 0 2 := by decide +kernel
theorem i7_10 : zi 7 10 11 1 3 0 := by decide +kernel
theorem i7_11 : zi 7 11 12 8 0 0 := by decide +kernel
theorem i7_12 : zi 7 12 13 1 2 0 := by decide +kernel
theorem i7_13 : zi 7 13 14 19 19 5 := by decide +kernel
theorem i7_19 : zi 7 19 20 0 0 0 := by decide +kernel
theorem i7_20 : zi 7 20 21 26 0 0 := by decide +kernel
theorem i7_14 : zi 7 14 15 2 0 0 := by decide +kernel
theorem i7_15 : zi 7 15 16 6 0 5 := by decide +kernel
theorem i7_16 : zi 7 16 17 1 3 0 := by decide +kernel
theorem i7_17 : zi 7 17 18 9 0 0 := by decide +kernel
theorem i7_18 : zi 7 18 19 18 21 0 := by decide +kernel
theorem i7_21 : zi 7 21 22 2 0 0 := by decide +kernel
theorem i7_22 : zi 7 22 23 6 0 3 := by decide +kernel
theorem i7_23 : zi 7 23 24 1 3 0 := by decide +kernel
theorem i7_24 : zi 7 24 25 8 0 0 := by decide +kernel
theorem i7_25 : zi 7 25 26 1 3 0 := by decide +kernel
theorem i7_26 : zi 7 26 27 19 29 1 := by decide +kernel
theorem i7_27 : zi 7 27 28 0 0 1 := by decide +kernel
theorem i7_28 : zi 7 28 29 26 0 0 := by decide +kernel
theorem i7_29 : zi 7 29 30 2 0 0 := by decide +kernel
theorem i7_30 : zi 7 30 31 6 0 3 := by decide +kernel
theorem i7_31 : zi 7 31 32 1 3 0 := by decide +kernel
theorem i7_32 : zi 7 32 33 8 0 0 := by decide +kernel
theorem i7_33 : zi 7 33 34 3 3 0 := by decide +kernel
theorem i7_34 : zi 7 34 35 5 4 1 := by decide +kernel
theorem i7_35 : zi 7 35 36 17 4 0 := by decide +kernel
theorem i7_36 : zi 7 36 37 0 0 1 := by decide +kernel
theorem i7_37 : zi 7 37 38 26 0 0 := by decide +kernel
theorem ml_7 : z_ml 7 = 5 := by decide +kernel
theorem en_7 : ∀ (v0 v1 v2 : zV), z_ent 7 [v0, v1, v2] = [some v0, some v1, some v2, none, none] := fun v0 v1 v2 => by unfold z_ent; rw [ml_7]; rfl
theorem i13_0 : zi 13 0 1 0 0 0 := by decide +kernel
theorem i13_1 : zi 13 1 2 3 1 0 := by decide +kernel
theorem i13_2 : zi 13 2 3 1 1 0 := by decide +kernel
theorem i13_3 : zi 13 3 4 0 0 6 := by decide +kernel
theorem i13_4 : zi 13 4 5 19 12 3 := by decide +kernel
theorem i13_5 : zi 13 5 6 2 0 0 := by decide +kernel
theorem i13_6 : zi 13 6 7 6 1 3 := by decide +kernel
theorem i13_7 : zi 13 7 8 1 1 0 := by decide +kernel
theorem i13_8 : zi 13 8 9 0 0 0 := by decide +kernel
theorem i13_9 : zi 13 9 10 10 0 0 := by decide +kernel
theorem i13_10 : zi 13 10 11 5 1 1 := by decide +kernel
theorem i13_11 : zi 13 11 12 17 2 0 := by decide +kernel
theorem i13_12 : zi 13 12 13 27 0 0 := by decide +kernel
theorem ml_13 : z_ml 13 = 2 := by decide +kernel
theorem en_13 : ∀ (v0 : zV), z_ent 13 [v0] = [some v0, none] := fun v0 => by unfold z_ent; rw [ml_13]; rfl
theorem i17_0 : zi 17 0 1 0 0 0 := by decide +kernel
theorem i17_1 : zi 17 1 2 3 2 0 := by decide +kernel
theorem i17_2 : zi 17 2 3 1 2 0 := by decide +kernel
theorem i17_3 : zi 17 3 4 1 1 0 := by decide +kernel
theorem i17_4 : zi 17 4 5 19 22 3 := by decide +kernel
theorem i17_5 : zi 17 5 6 2 0 0 := by decide +kernel
theorem i17_6 : zi 17 6 7 6 2 6 := by decide +kernel
theorem fl_8_6 : zfl 8 2 6 6 none := by decide +kernel
theorem i17_7 : zi 17 7 8 2 0 0 := by decide +kernel
theorem i17_8 : zi 17 8 9 6 2 5 := by decide +kernel
theorem i17_9 : zi 17 9 10 19 22 3 := by decide +kernel
theorem i17_10 : zi 17 10 11 2 0 0 := by decide +kernel
theorem i17_11 : zi 17 11 12 2 0 0 := by decide +kernel
theorem i17_12 : zi 17 12 13 6 2 6 := by decide +kernel
theorem i17_13 : zi 17 13 14 21 21 2 := by decide +kernel
theorem na_21 : z_na 21 = 1 := by decide +kernel
theorem i17_14 : zi 17 14 15 2 0 0 := by decide +kernel
theorem i17_15 : zi 17 15 16 14 0 0 := by decide +kernel
theorem i17_16 : zi 17 16 17 6 2 6 := by decide +kernel
theorem i17_17 : zi 17 17 18 0 0 1 := by decide +kernel
theorem i17_18 : zi 17 18 19 13 0 0 := by decide +kernel
theorem i17_19 : zi 17 19 20 7 2 6 := by decide +kernel
theorem i17_20 : zi 17 20 21 5 2 1 := by decide +kernel
theorem i17_21 : zi 17 21 22 17 2 0 := by decide +kernel
theorem i17_22 : zi 17 22 23 2 0 0 := by decide +kernel
theorem i17_23 : zi 17 23 24 6 2 5 := by decide +kernel
theorem i17_24 : zi 17 24 25 2 0 0 := by decide +kernel
theorem i17_25 : zi 17 25 26 6 2 6 := by decide +kernel
theorem i17_26 : zi 17 26 27 13 1 0 := by decide +kernel
theorem i17_27 : zi 17 27 28 25 0 0 := by decide +kernel
theorem ml_17 : z_ml 17 = 3 := by decide +kernel
theorem en_17 : ∀ (v0 v1 : zV), z_ent 17 [v0, v1] = [some v0, some v1, none] := fun v0 v1 => by unfold z_ent; rw [ml_17]; rfl
theorem i111_0 : zi 111 0 1 1 1 0 := by decide +kernel
theorem i111_1 : zi 111 1 2 3 3 0 := by decide +kernel
theorem i111_2 : zi 111 2 3 1 3 0 := by decide +kernel
theorem i111_3 : zi 111 3 4 1 2 0 := by decide +kernel
theorem i111_4 : zi 111 4 5 19 12 3 := by decide +kernel
theorem i111_5 : zi 111 5 6 2 0 0 := by decide +kernel
theorem i111_6 : zi 111 6 7 6 9 0 := by decide +kernel
theorem i111_7 : zi 111 7 8 1 3 0 := by decide +kernel
theorem i111_8 : zi 111 8 9 0 0 0 := by decide +kernel
theorem i111_9 : zi 111 9 10 10 0 0 := by decide +kernel
theorem i111_10 : zi 111 10 11 5 3 1 := by decide +kernel
theorem i111_11 : zi 111 11 12 17 2 0 := by decide +kernel
theorem i111_12 : zi 111 12 13 27 0 0 := by decide +kernel
theorem ml_111 : z_ml 111 = 4 := by decide +kernel
theorem en_111 : ∀ (v0 v1 v2 : zV), z_ent 111 [v0, v1, v2] = [some v0, some v1, some v2, none] := fun v0 v1 v2 => by unfold z_ent; rw [ml_111]; rfl
theorem i18_0 : zi 18 0 1 2 0 0 := by decide +kernel
theorem i18_1 : zi 18 1 2 6 2 0 := by decide +kernel
theorem i18_2 : zi 18 2 3 1 1 0 := by decide +kernel
theorem i18_3 : zi 18 3 4 1 2 0 := by decide +kernel
theorem i18_4 : zi 18 4 5 21 111 9 := by decide +kernel
theorem na_111 : z_na 111 = 2 := by decide +kernel
theorem i18_5 : zi 18 5 6 2 0 0 := by decide +kernel
theorem i18_6 : zi 18 6 7 6 2 6 := by decide +kernel
theorem i18_7 : zi 18 7 8 3 3 0 := by decide +kernel
theorem i18_8 : zi 18 8 9 2 0 0 := by decide +kernel
theorem i18_9 : zi 18 9 10 6 2 6 := by decide +kernel
theorem i18_10 : zi 18 10 11 3 4 0 := by decide +kernel
theorem i18_11 : zi 18 11 12 1 4 0 := by decide +kernel
theorem i18_12 : zi 18 12 13 2 0 0 := by decide +kernel
theorem i18_13 : zi 18 13 14 6 2 5 := by decide +kernel
theorem i18_14 : zi 18 14 15 19 34 3 := by decide +kernel
theorem i18_15 : zi 18 15 16 2 0 0 := by decide +kernel
theorem i18_16 : zi 18 16 17 6 2 1 := by decide +kernel
theorem i18_17 : zi 18 17 18 1 4 0 := by decide +kernel
theorem i18_18 : zi 18 18 19 8 0 0 := by decide +kernel
theorem i18_19 : zi 18 19 20 1 1 0 := by decide +kernel
theorem i18_20 : zi 18 20 21 19 27 2 := by decide +kernel
theorem i18_27 : zi 18 27 28 2 0 0 := by decide +kernel
theorem i18_28 : zi 18 28 29 1 4 0 := by decide +kernel
theorem i18_29 : zi 18 29 30 1 3 0 := by decide +kernel
theorem i18_30 : zi 18 30 31 21 20 2 := by decide +kernel
theorem na_20 : z_na 20 = 2 := by decide +kernel
theorem i18_31 : zi 18 31 32 5 3 1 := by decide +kernel
theorem i18_21 : zi 18 21 22 2 0 0 := by decide +kernel
theorem i18_22 : zi 18 22 23 6 2 1 := by decide +kernel
theorem i18_23 : zi 18 23 24 1 4 0 := by decide +kernel
theorem i18_24 : zi 18 24 25 8 0 0 := by decide +kernel
theorem i18_25 : zi 18 25 26 1 2 0 := by decide +kernel
theorem i18_26 : zi 18 26 27 19 32 2 := by decide +kernel
theorem i18_32 : zi 18 32 33 5 4 1 := by decide +kernel
theorem i18_33 : zi 18 33 34 17 11 0 := by decide +kernel
theorem i18_34 : zi 18 34 35 2 0 0 := by decide +kernel
theorem i18_35 : zi 18 35 36 1 3 0 := by decide +kernel
theorem i18_36 : zi 18 36 37 7 2 5 := by decide +kernel
theorem i18_37 : zi 18 37 38 27 0 0 := by decide +kernel
theorem ml_18 : z_ml 18 = 5 := by decide +kernel
theorem en_18 : ∀ (v0 v1 v2 : zV), z_ent 18 [v0, v1, v2] = [some v0, some v1, some v2, none, none] := fun v0 v1 v2 => by unfold z_ent; rw [ml_18]; rfl
theorem i35_0 : zi 35 0 1 0 0 0 := by decide +kernel
theorem i35_1 : zi 35 1 2 3 3 0 := by decide +kernel
theorem i35_2 : zi 35 2 3 1 3 0 := by decide +kernel
theorem i35_3 : zi 35 3 4 2 0 0 := by decide +kernel
theorem i35_4 : zi 35 4 5 6 3 4 := by decide +kernel
theorem i35_5 : zi 35 5 6 19 23 3 := by decide +kernel
theorem i35_6 : zi 35 6 7 2 0 0 := by decide +kernel
theorem i35_7 : zi 35 7 8 6 3 6 := by decide +kernel
theorem i35_8 : zi 35 8 9 1 3 0 := by decide +kernel
theorem i35_9 : zi 35 9 10 8 0 0 := by decide +kernel
theorem i35_10 : zi 35 10 11 1 1 0 := by decide +kernel
theorem i35_11 : zi 35 11 12 19 21 2 := by decide +kernel
theorem i35_12 : zi 35 12 13 2 0 0 := by decide +kernel
theorem i35_13 : zi 35 13 14 6 3 6 := by decide +kernel
theorem i35_14 : zi 35 14 15 1 3 0 := by decide +kernel
theorem i35_15 : zi 35 15 16 8 0 0 := by decide +kernel
theorem i35_16 : zi 35 16 17 1 2 0 := by decide +kernel
theorem i35_17 : zi 35 17 18 19 21 3 := by decide +kernel
theorem i35_18 : zi 35 18 19 2 0 0 := by decide +kernel
theorem i35_19 : zi 35 19 20 1 3 0 := by decide +kernel
theorem i35_20 : zi 35 20 21 21 34 3 := by decide +kernel
theorem i35_21 : zi 35 21 22 5 3 1 := by decide +kernel
theorem i35_22 : zi 35 22 23 17 2 0 := by decide +kernel
theorem i35_23 : zi 35 23 24 27 0 0 := by decide +kernel
theorem ml_35 : z_ml 35 = 4 := by decide +kernel
theorem en_35 : ∀ (v0 v1 v2 : zV), z_ent 35 [v0, v1, v2] = [some v0, some v1, some v2, none] := fun v0 v1 v2 => by unfold z_ent; rw [ml_35]; rfl
theorem i53_0 : zi 53 0 1 0 0 0 := by decide +kernel
theorem i53_1 : zi 53 1 2 3 4 0 := by decide +kernel
theorem i53_2 : zi 53 2 3 0 0 0 := by decide +kernel
theorem i53_3 : zi 53 3 4 3 5 0 := by decide +kernel
theorem i53_4 : zi 53 4 5 1 5 0 := by decide +kernel
theorem i53_5 : zi 53 5 6 2 0 0 := by decide +kernel
theorem i53_6 : zi 53 6 7 6 5 0 := by decide +kernel
theorem i53_7 : zi 53 7 8 19 32 3 := by decide +kernel
theorem i53_8 : zi 53 8 9 2 0 0 := by decide +kernel
theorem i53_9 : zi 53 9 10 6 5 6 := by decide +kernel
theorem i53_10 : zi 53 10 11 1 5 0 := by decide +kernel
theorem i53_11 : zi 53 11 12 8 0 0 := by decide +kernel
theorem i53_12 : zi 53 12 13 18 30 1 := by decide +kernel
theorem i53_13 : zi 53 13 14 2 0 0 := by decide +kernel
theorem i53_14 : zi 53 14 15 6 5 2 := by decide +kernel
theorem i53_15 : zi 53 15 16 1 5 0 := by decide +kernel
theorem i53_16 : zi 53 16 17 8 0 0 := by decide +kernel
theorem i53_17 : zi 53 17 18 1 1 0 := by decide +kernel
theorem i53_18 : zi 53 18 19 19 30 2 := by decide +kernel
theorem i53_19 : zi 53 19 20 2 0 0 := by decide +kernel
theorem i53_20 : zi 53 20 21 6 5 2 := by decide +kernel
theorem i53_21 : zi 53 21 22 1 5 0 := by decide +kernel
theorem i53_22 : zi 53 22 23 8 0 0 := by decide +kernel
theorem i53_23 : zi 53 23 24 1 2 0 := by decide +kernel
theorem i53_24 : zi 53 24 25 19 30 3 := by decide +kernel
theorem i53_25 : zi 53 25 26 2 0 0 := by decide +kernel
theorem i53_26 : zi 53 26 27 1 5 0 := by decide +kernel
theorem i53_27 : zi 53 27 28 1 3 0 := by decide +kernel
theorem i53_28 : zi 53 28 29 21 59 5 := by decide +kernel
theorem na_59 : z_na 59 = 2 := by decide +kernel
theorem i53_29 : zi 53 29 30 5 4 1 := by decide +kernel
theorem i53_30 : zi 53 30 31 5 5 1 := by decide +kernel
theorem i53_31 : zi 53 31 32 17 4 0 := by decide +kernel
theorem i53_32 : zi 53 32 33 1 4 0 := by decide +kernel
theorem i53_33 : zi 53 33 34 25 0 0 := by decide +kernel
theorem ml_53 : z_ml 53 = 6 := by decide +kernel
theorem en_53 : ∀ (v0 v1 v2 v3 : zV), z_ent 53 [v0, v1, v2, v3] = [some v0, some v1, some v2, some v3, none, none] := fun v0 v1 v2 v3 => by unfold z_ent; rw [ml_53]; rfl
theorem i54_0 : zi 54 0 1 0 0 0 := by decide +kernel
theorem i54_1 : zi 54 1 2 3 3 0 := by decide +kernel
theorem i54_2 : zi 54 2 3 1 3 0 := by decide +kernel
theorem i54_3 : zi 54 3 4 2 0 0 := by decide +kernel
theorem i54_4 : zi 54 4 5 6 5 0 := by decide +kernel
theorem i54_5 : zi 54 5 6 19 24 3 := by decide +kernel
theorem i54_6 : zi 54 6 7 2 0 0 := by decide +kernel
theorem i54_7 : zi 54 7 8 6 5 6 := by decide +kernel
theorem i54_8 : zi 54 8 9 1 3 0 := by decide +kernel
theorem i54_9 : zi 54 9 10 8 0 0 := by decide +kernel
theorem i54_10 : zi 54 10 11 18 22 1 := by decide +kernel
theorem i54_11 : zi 54 11 12 2 1 0 := by decide +kernel
theorem i54_12 : zi 54 12 13 2 0 0 := by decide +kernel
theorem i54_13 : zi 54 13 14 6 5 1 := by decide +kernel
theorem i54_14 : zi 54 14 15 1 3 0 := by decide +kernel
theorem i54_15 : zi 54 15 16 8 0 0 := by decide +kernel
theorem i54_16 : zi 54 16 17 21 116 10 := by decide +kernel
theorem i54_17 : zi 54 17 18 18 22 1 := by decide +kernel
theorem i54_18 : zi 54 18 19 2 0 0 := by decide +kernel
theorem i54_19 : zi 54 19 20 1 3 0 := by decide +kernel
theorem i54_20 : zi 54 20 21 1 2 0 := by decide +kernel
theorem i54_21 : zi 54 21 22 21 59 5 := by decide +kernel
theorem i54_22 : zi 54 22 23 5 3 1 := by decide +kernel
theorem i54_23 : zi 54 23 24 17 2 0 := by decide +kernel
theorem i54_24 : zi 54 24 25 27 0 0 := by decide +kernel
theorem ml_54 : z_ml 54 = 4 := by decide +kernel
theorem en_54 : ∀ (v0 v1 v2 : zV), z_ent 54 [v0, v1, v2] = [some v0, some v1, some v2, none] := fun v0 v1 v2 => by unfold z_ent; rw [ml_54]; rfl
-- 3 X0_issuerFor: cut points [13, 27]
set_option maxRecDepth 100000 in
theorem s3_e {L : Nat} (a : Int32) (S : zS) : zt L 3 0 [some (.inr (.inr 11)), some (.inl a), none, none] [] S (if ((zrem a 6) = 0) then (.inr (.inl (some (.inl (-1))), S, 0)) else (.inl (13, [some (.inr (.inr 11)), some (.inl a), some (.inl (zrem a 6)), some (.inl ((S 11 0) - 1))], [], S))) := zr_1_1 i3_0 (zr_0 i3_1 kc_6 (zr_13_4 i3_2 nz_6 (zr_3_2 i3_3 (zr_1_2 i3_4 (zr_18_1 i3_5 (fun h398 => zr_0 i3_6 kc_m1 (zr_25 i3_7)) (fun h399 => zr_2_0 i3_8 (zr_6 i3_9 fl_11_0 rfl (zr_0 i3_10 kc_1 (zr_13_1 i3_11 (zr_3_3 i3_12 (zt_rfl)))))))))))
set_option maxRecDepth 100000 in
theorem s3_13 {L : Nat} (x1 x2 x3 : Int32) (S : zS) (g0 : (¬ (x3 < 0)) → zx 30 x3) : zt L 3 13 [some (.inr (.inr 11)), some (.inl x1), some (.inl x2), some (.inl x3)] [] S (if (x3 < 0) then (.inl (27, [some (.inr (.inr 11)), some (.inl x1), some (.inl x2), some (.inl x3)], [], S)) else (if ((S 72 x3.toNatClampNeg) = (x1 - x2)) then (.inr (.inl (some (.inl x3)), S, 0)) else (.inl (13, [some (.inr (.inr 11)), some (.inl x1), some (.inl x2), some (.inl (x3 + (-1)))], [], S)))) := zr_1_3 i3_13 (zr_18_2 i3_14 (fun h400 => zt_rfl) (fun h401 => zr_2_0 i3_15 (zr_6r i3_16 fl_11_1 (zr_1_3 i3_17 (zr_8 i3_18 ar_72 (g0 h401) rfl rfl (zr_1_1 i3_19 (zr_1_2 i3_20 (zr_13_1 i3_21 (zr_19_1 i3_22 (fun h402 => zr_1_3 i3_23 (zr_25 i3_24)) (fun h403 => zr_5_3 i3_25 kc_m1 (zr_17 i3_26 (zt_rfl))))))))))))
set_option maxRecDepth 100000 in
theorem s3_27 {L : Nat} (x1 x2 x3 : Int32) (S : zS) : zt L 3 27 [some (.inr (.inr 11)), some (.inl x1), some (.inl x2), some (.inl x3)] [] S (.inr (.inl (some (.inl (-1))), S, 0)) := zr_0 i3_27 kc_m1 (zr_25 i3_28)
def F3 (a : Int32) (S : zS) : Int32 := if zrem a 6 = 0 then -1 else zfold (fun j b => if S 72 j = a - zrem a 6 then Int32.ofNat j else b) 0 (S 11 0).toNatClampNeg (-1)
set_option maxRecDepth 100000 in
theorem L3 {L : Nat} (a : Int32) (S : zS) : ∀ n, n ≤ 30 → zt L 3 13 [some (.inr (.inr 11)), some (.inl a), some (.inl (zrem a 6)), some (.inl (Int32.ofNat n - 1))] [] S (.inr (.inl (some (.inl (zfold (fun j b => if S 72 j = a - zrem a 6 then Int32.ofNat j else b) 0 n (-1)))), S, 0)) := by
  intro n
  induction n with
  | zero =>
    intro _
    have hlt : (Int32.ofNat 0 - 1 : Int32) < 0 := by decide
    refine zt_trans (zt_cast (s3_13 a (zrem a 6) (Int32.ofNat 0 - 1) S (fun h9 => absurd hlt h9)) (if_pos hlt)) ?_
    exact s3_27 a (zrem a 6) (Int32.ofNat 0 - 1) S
  | succ n ih =>
    intro hn
    have e : (Int32.ofNat (n + 1) - 1 : Int32) = Int32.ofNat n := by
      rw [← zk_add, Int32.add_sub_cancel]
    have hge : ¬ (Int32.ofNat n < 0) := by rw [zk_lt, zk_ti _ (by omega)]; show ¬ ((n : Int) < 0); omega
    rw [e]
    by_cases hc : S 72 n = a - zrem a 6
    · refine zt_cast (s3_13 a (zrem a 6) (Int32.ofNat n) S (fun _ => zx_of (by omega) (by omega))) ?_
      rw [if_neg hge, zk_ix n (by omega), if_pos hc]
      simp only [zfold, Nat.zero_add, if_pos hc]
    · refine zt_trans (zt_cast (s3_13 a (zrem a 6) (Int32.ofNat n) S (fun _ => zx_of (by omega) (by omega))) (by rw [if_neg hge, zk_ix n (by omega), if_neg hc])) ?_
      simp only [zfold, Nat.zero_add, if_neg hc]
      rw [show (Int32.ofNat n + (-1) : Int32) = Int32.ofNat n - 1 from by rw [Int32.sub_eq_add_neg]]
      exact ih (by omega)
set_option maxRecDepth 100000 in
theorem f3 {L : Nat} (a : Int32) (S : zS) (g0 : zn 30 (S 11 0)) : zf L 3 [.inr (.inr 11), .inl a] S (.inl (some (.inl (F3 a S))), S, 0) := by
  refine zf_of (en_3 _ _) ?_
  unfold F3
  by_cases h : zrem a 6 = 0
  · rw [if_pos h]
    exact zt_cast (s3_e a S) (if_pos h)
  · rw [if_neg h]
    refine zt_trans (zt_cast (s3_e a S) (if_neg h)) ?_
    have := L3 (L := L) a S (S 11 0).toNatClampNeg (zn_cl g0)
    rw [zk_of g0.1] at this
    exact this
set_option maxRecDepth 100000 in
theorem s6_4 {L : Nat} (x1 x2 x3 : Int32) (S : zS) (g0 : (¬ ((S 11 0) ≤ x3)) → zx 30 x3) : zt L 6 4 [some (.inr (.inr 11)), some (.inl x1), some (.inl x2), some (.inl x3)] [] S (if ((S 11 0) ≤ x3) then (.inl (34, [some (.inr (.inr 11)), some (.inl x1), some (.inl x2), some (.inl x3)], [], S)) else (.inl (4, [some (.inr (.inr 11)), some (.inl x1), some (.inl (if ((¬ ((S 75 x3.toNatClampNeg) = 0)) ∧ (¬ ((S 73 x3.toNatClampNeg) ≤ x1))) then ((x2 + 1) : Int32) else x2)), some (.inl (x3 + 1))], [], (z_up S 76 x3.toNatClampNeg (zb ((¬ ((S 75 x3.toNatClampNeg) = 0)) ∧ (¬ ((S 73 x3.toNatClampNeg) ≤ x1)))))))) := zr_1_3 i6_4 (zr_2_0 i6_5 (zr_6 i6_6 fl_11_0 rfl (zr_19_3 i6_7 (fun h420 => zt_rfl) (fun h421 => zr_2_0 i6_8 (zr_6r i6_9 fl_11_5 (zr_1_3 i6_10 (zr_2_0 i6_11 (zr_6r i6_12 fl_11_4 (zr_1_3 i6_13 (zr_9 i6_14 ar_75 (g0 h421) rfl rfl (zt_trans (zt_cast (zr_18_0 i6_15 (fun h422 => zr_0 i6_24 kc_0 (zt_rfl)) (fun h423 => zr_2_0 i6_16 (zr_6r i6_17 fl_11_2 (zr_1_3 i6_18 (zr_8 i6_19 ar_73 (g0 h421) rfl rfl (zr_1_1 i6_20 (zt_cast (zr_19_5 i6_21 (fun h424 => zr_0 i6_24 kc_0 (zt_rfl)) (fun h425 => zr_0 i6_22 kc_1 (zr_17 i6_23 (zt_rfl)))) (zm_c zz_s (zl_c (zl_t zz_01) zz_s) zz_s)))))))) (zm_c zz_s (zl_c (zl_t zz_0b) zz_s) zz_s)) (zr_11 i6_25 ar_76 (g0 h421) (zb_01 _) rfl (zr_2_0 i6_26 (zr_6r i6_27 fl_11_5 (zr_1_3 i6_28 (zr_9 i6_29 ar_76 (g0 h421) rfl (zup_s _ _ _ _) (zt_trans (zt_cast (zr_18b_0 i6_30 (fun h426 => zr_5_2 i6_31 kc_1 (zt_rfl)) (fun h427 => zt_rfl)) (zm_c (zl_c zz_s (zl_c zz_s (zl_c (zl_v zz_e) zz_s))) zz_s zz_s)) (zr_5_3 i6_32 kc_1 (zr_17 i6_33 (zt_rfl))))))))))))))))))))
def k6_4 (x1 : Int32) (j : Nat) (a : Int32 × zS) : Int32 × zS := ((if ((¬ ((a.2 75 j) = 0)) ∧ (¬ ((a.2 73 j) ≤ x1))) then ((a.1 + 1) : Int32) else a.1), (z_up a.2 76 j (zb ((¬ ((a.2 75 j) = 0)) ∧ (¬ ((a.2 73 j) ≤ x1))))))
set_option maxRecDepth 100000 in
theorem l6_4 {L : Nat} (x1 : Int32) (i0 n : Nat) (a : Int32 × zS) (hn : i0 + n < 2147483648) (hc0 : ∀ j, j < n → ¬ (((zfold (k6_4 x1 ) i0 j a).2 11 0) ≤ (Int32.ofNat (i0 + j)))) (g0 : ∀ j, j < n → (¬ (((zfold (k6_4 x1 ) i0 j a).2 11 0) ≤ (Int32.ofNat (i0 + j)))) → zx 30 (Int32.ofNat (i0 + j))) : zt L 6 4 [some (.inr (.inr 11)), some (.inl x1), some (.inl a.1), some (.inl (Int32.ofNat i0))] [] a.2 (.inl (4, [some (.inr (.inr 11)), some (.inl x1), some (.inl (zfold (k6_4 x1 ) i0 n a).1), some (.inl (Int32.ofNat (i0 + n)))], [], (zfold (k6_4 x1 ) i0 n a).2)) := by
  induction n with
  | zero => exact zt_rfl
  | succ n ih =>
    have e1 := zk_ix (i0 + n) (by omega)
    have e2 := zk_add (i0 + n)
    refine zt_trans (ih (by omega) (fun j hj => hc0 j (by omega)) (fun j hj => g0 j (by omega))) ?_
    refine zt_cast (s6_4 x1 (zfold (k6_4 x1 ) i0 n a).1 (Int32.ofNat (i0 + n)) (zfold (k6_4 x1 ) i0 n a).2 (by have hg := g0 n (by omega); first | exact hg | (simp only [e1]; exact hg))) ?_
    rw [if_neg (show ¬ (((zfold (k6_4 x1 ) i0 n a).2 11 0) ≤ (Int32.ofNat (i0 + n))) from (by have hg := hc0 n (by omega); first | exact hg | (simp only [e1]; exact hg)))]
    simp only [zfold, k6_4, e1, e2, ← Nat.add_assoc]
def K6_4 (x1 x2 : Int32) (i0 : Nat) (S : zS) : Int32 × zS := zfold (k6_4 x1 ) i0 ((S 11 0).toNatClampNeg - i0) (x2, S)
def K6_4_c2 (x1 x2 : Int32) (i0 : Nat) (S : zS) : Int32 := (K6_4 x1 x2 i0 S).1
def K6_4_S (x1 x2 : Int32) (i0 : Nat) (S : zS) : zS := (K6_4 x1 x2 i0 S).2
set_option maxRecDepth 100000 in
theorem L6_4 {L : Nat} (x1 x2 : Int32) (i0 : Nat) (S : zS) (hi : i0 ≤ 10000) (h0 : zn 30 (S 11 0)) : zt L 6 4 [some (.inr (.inr 11)), some (.inl x1), some (.inl x2), some (.inl (Int32.ofNat i0))] [] S (.inl (34, [some (.inr (.inr 11)), some (.inl x1), some (.inl (K6_4_c2 x1 x2 i0 S)), some (.inl (Int32.ofNat (i0 + ((S 11 0).toNatClampNeg - i0))))], [], (K6_4_S x1 x2 i0 S))) := by
  have hk11_0 : ∀ n, (zfold (k6_4 x1 ) i0 n (x2, S)).2 11 0 = S 11 0 := fun n => zfold_keep (f := (k6_4 x1 )) (fun (b : Int32 × zS) => b.2 11 0) (fun j b => by unfold k6_4; exact (show (z_up b.2 76 j (zb ((¬ ((b.2 75 j) = 0)) ∧ (¬ ((b.2 73 j) ≤ x1))))) 11 0 = b.2 11 0 from (zupci rfl))) n (x2, S)
  have hend : (zfold (k6_4 x1 ) i0 ((S 11 0).toNatClampNeg - i0) (x2, S)).2 11 0 ≤ Int32.ofNat (i0 + ((S 11 0).toNatClampNeg - i0)) := by rw [hk11_0]; exact zc_le_end h0 (by omega)
  refine zt_trans (l6_4 x1   i0 ((S 11 0).toNatClampNeg - i0) (x2, S) (by have := zn_cl h0; omega) (fun j hj => by rw [hk11_0]; exact zc_le h0 hj (by omega)) (fun j hj _ => by exact zx_of (by have := zn_cl h0; omega) (by have := zn_cl h0; omega))) ?_
  exact zt_cast (s6_4 x1 (zfold (k6_4 x1 ) i0 ((S 11 0).toNatClampNeg - i0) (x2, S)).1 (Int32.ofNat (i0 + ((S 11 0).toNatClampNeg - i0))) (zfold (k6_4 x1 ) i0 ((S 11 0).toNatClampNeg - i0) (x2, S)).2 (fun h9 => absurd hend h9)) (if_pos hend)
set_option maxRecDepth 100000 in
theorem f6 {L : Nat} (a : Int32) (S : zS) (g0 : zn 30 (S 11 0)) : zf L 6 [.inr (.inr 11), .inl a] S (.inl (some (.inl (K6_4_c2 a 0 0 S))), (K6_4_S a 0 0 S), 0) := zf_of (en_6 _ _) (zr_0 i6_0 kc_0 (zr_3_2 i6_1 (zr_0 i6_2 kc_0 (zr_3_3 i6_3 (zt_trans (L6_4 a 0 0 S (by decide) (g0)) (zr_1_2 i6_34 (zr_25 i6_35)))))))
-- 7 X0_isGoodAt: cut points [4, 36]
set_option maxRecDepth 100000 in
theorem s7_e {L : Nat} (a b : Int32) (S : zS) : zt L 7 0 [some (.inr (.inr 11)), some (.inl a), some (.inl b), none, none] [] S (.inl (4, [some (.inr (.inr 11)), some (.inl a), some (.inl b), some (.inl a), some (.inl 0)], [], S)) := zr_1_1 i7_0 (zr_3_3 i7_1 (zr_0 i7_2 kc_0 (zr_3_4 i7_3 (zt_rfl))))
set_option maxRecDepth 100000 in
theorem s7_4 {L : Nat} (x1 x2 x3 x4 : Int32) (S : zS) (g0 : (¬ ((S 11 0) ≤ x4)) → zx 30 x3) : zt L 7 4 [some (.inr (.inr 11)), some (.inl x1), some (.inl x2), some (.inl x3), some (.inl x4)] [] S (if ((S 11 0) ≤ x4) then (.inl (36, [some (.inr (.inr 11)), some (.inl x1), some (.inl x2), some (.inl x3), some (.inl x4)], [], S)) else (if ((S 73 x3.toNatClampNeg) ≤ x2) then (.inr (.inl (some (.inl 0)), S, 0)) else (if ((S 76 x3.toNatClampNeg) = 0) then (if ((S 74 x3.toNatClampNeg) = x3) then (.inr (.inl (some (.inl 1)), S, 0)) else (.inl (4, [some (.inr (.inr 11)), some (.inl x1), some (.inl x2), some (.inl (S 74 x3.toNatClampNeg)), some (.inl (x4 + 1))], [], S))) else (.inr (.inl (some (.inl 0)), S, 0))))) := zr_1_4 i7_4 (zr_2_0 i7_5 (zr_6 i7_6 fl_11_0 rfl (zr_19_3 i7_7 (fun h436 => zt_rfl) (fun h437 => zr_2_0 i7_8 (zr_6r i7_9 fl_11_2 (zr_1_3 i7_10 (zr_8 i7_11 ar_73 (g0 h437) rfl rfl (zr_1_2 i7_12 (zr_19_5 i7_13 (fun h438 => zr_0 i7_19 kc_0 (zr_26 i7_20 (zo_0))) (fun h439 => zr_2_0 i7_14 (zr_6r i7_15 fl_11_5 (zr_1_3 i7_16 (zr_9 i7_17 ar_76 (g0 h437) rfl rfl (zr_18_0 i7_18 (fun h440 => zr_2_0 i7_21 (zr_6r i7_22 fl_11_3 (zr_1_3 i7_23 (zr_8 i7_24 ar_74 (g0 h437) rfl rfl (zr_1_3 i7_25 (zr_19_1 i7_26 (fun h442 => zr_0 i7_27 kc_1 (zr_26 i7_28 (zo_1))) (fun h443 => zr_2_0 i7_29 (zr_6r i7_30 fl_11_3 (zr_1_3 i7_31 (zr_8 i7_32 ar_74 (g0 h437) rfl rfl (zr_3_3 i7_33 (zr_5_4 i7_34 kc_1 (zr_17 i7_35 (zt_rfl)))))))))))))) (fun h441 => zr_0 i7_19 kc_0 (zr_26 i7_20 (zo_0)))))))))))))))))
set_option maxRecDepth 100000 in
theorem s7_36 {L : Nat} (x1 x2 x3 x4 : Int32) (S : zS) : zt L 7 36 [some (.inr (.inr 11)), some (.inl x1), some (.inl x2), some (.inl x3), some (.inl x4)] [] S (.inr (.inl (some (.inl 1)), S, 0)) := zr_0 i7_36 kc_1 (zr_26 i7_37 (zo_1))
def F7 (a b : Int32) (S : zS) : Int32 := if S 73 a.toNatClampNeg ≤ b then 0 else if S 76 a.toNatClampNeg = 0 then (if S 74 a.toNatClampNeg = a then 1 else if S 73 (S 74 a.toNatClampNeg).toNatClampNeg ≤ b then 0 else if S 76 (S 74 a.toNatClampNeg).toNatClampNeg = 0 then 1 else 0) else 0
/-- a certificate: its issuer is its own issuer, and no later one -/
def zCe (a m i j : Int32) : Prop := 0 ≤ a.toInt ∧ a.toInt < m.toInt ∧ m.toInt ≤ 30 ∧ 0 ≤ i.toInt ∧ i.toInt ≤ a.toInt ∧ j = i
set_option maxRecDepth 100000 in
theorem f7 {L : Nat} (a b : Int32) (S : zS) (g0 : zCe a (S 11 0) (S 74 a.toNatClampNeg) (S 74 (S 74 a.toNatClampNeg).toNatClampNeg)) : zf L 7 [.inr (.inr 11), .inl a, .inl b] S (.inl (some (.inl (F7 a b S))), S, 0) := by
  obtain ⟨h1, h2, h3, h4, h5, h6⟩ := g0
  refine zf_of (en_7 _ _ _) (zt_trans (s7_e a b S) ?_)
  have hx : zx 30 a := by rw [zx_iff]; omega
  have hx2 : zx 30 (S 74 a.toNatClampNeg) := by rw [zx_iff]; omega
  have n0 : ¬ (S 11 0 ≤ (0 : Int32)) := by rw [zk_le]; show ¬ ((S 11 0).toInt ≤ 0); omega
  by_cases c1 : S 73 a.toNatClampNeg ≤ b
  · refine zt_cast (s7_4 a b a 0 S (fun _ => hx)) ?_
    rw [if_neg n0, if_pos c1]; simp only [F7, if_pos c1]
  by_cases c2 : S 76 a.toNatClampNeg = 0
  rotate_left
  · refine zt_cast (s7_4 a b a 0 S (fun _ => hx)) ?_
    rw [if_neg n0, if_neg c1, if_neg c2]; simp only [F7, if_neg c1, if_neg c2]
  by_cases c3 : S 74 a.toNatClampNeg = a
  · refine zt_cast (s7_4 a b a 0 S (fun _ => hx)) ?_
    rw [if_neg n0, if_neg c1, if_pos c2, if_pos c3]; simp only [F7, if_neg c1, if_pos c2, if_pos c3]
  refine zt_trans (zt_cast (s7_4 a b a 0 S (fun _ => hx)) (by rw [if_neg n0, if_neg c1, if_pos c2, if_neg c3])) ?_
  have n1 : ¬ (S 11 0 ≤ (0 + 1 : Int32)) := by
    have : (S 74 a.toNatClampNeg).toInt ≠ a.toInt := fun h => c3 (zk_eq.mpr h)
    rw [zk_le]; show ¬ ((S 11 0).toInt ≤ 1); omega
  by_cases c4 : S 73 (S 74 a.toNatClampNeg).toNatClampNeg ≤ b
  · refine zt_cast (s7_4 a b _ _ S (fun _ => hx2)) ?_
    rw [if_neg n1, if_pos c4]; simp only [F7, if_neg c1, if_pos c2, if_neg c3, if_pos c4]
  by_cases c5 : S 76 (S 74 a.toNatClampNeg).toNatClampNeg = 0
  rotate_left
  · refine zt_cast (s7_4 a b _ _ S (fun _ => hx2)) ?_
    rw [if_neg n1, if_neg c4, if_neg c5]; simp only [F7, if_neg c1, if_pos c2, if_neg c3, if_neg c4, if_neg c5]
  refine zt_cast (s7_4 a b _ _ S (fun _ => hx2)) ?_
  rw [if_neg n1, if_neg c4, if_pos c5, if_pos h6]; simp only [F7, if_neg c1, if_pos c2, if_neg c3, if_neg c4, if_pos c5]
set_option maxRecDepth 100000 in
theorem s13_2 {L : Nat} (x1 : Int32) (S : zS) (g0 : (¬ (6 ≤ x1)) → zx 6 x1) : zt L 13 2 [some (.inr (.inr 3)), some (.inl x1)] [] S (if (6 ≤ x1) then (.inl (12, [some (.inr (.inr 3)), some (.inl x1)], [], S)) else (.inl (2, [some (.inr (.inr 3)), some (.inl (x1 + 1))], [], (z_up S 19 x1.toNatClampNeg 0)))) := zr_1_1 i13_2 (zr_0 i13_3 kc_6 (zr_19_3 i13_4 (fun h448 => zt_rfl) (fun h449 => zr_2_0 i13_5 (zr_6r i13_6 fl_3_3 (zr_1_1 i13_7 (zr_0 i13_8 kc_0 (zr_10 i13_9 ar_19 (g0 h449) rfl (zr_5_1 i13_10 kc_1 (zr_17 i13_11 (zt_rfl))))))))))
def k13_2 (j : Nat) (a : zS) : zS := (z_up a 19 j 0)
set_option maxRecDepth 100000 in
theorem l13_2 {L : Nat} (i0 n : Nat) (a : zS) (hn : i0 + n < 2147483648) (hc0 : ∀ j, j < n → ¬ (6 ≤ (Int32.ofNat (i0 + j)))) (g0 : ∀ j, j < n → (¬ (6 ≤ (Int32.ofNat (i0 + j)))) → zx 6 (Int32.ofNat (i0 + j))) : zt L 13 2 [some (.inr (.inr 3)), some (.inl (Int32.ofNat i0))] [] a (.inl (2, [some (.inr (.inr 3)), some (.inl (Int32.ofNat (i0 + n)))], [], (zfold (k13_2 ) i0 n a))) := by
  induction n with
  | zero => exact zt_rfl
  | succ n ih =>
    have e1 := zk_ix (i0 + n) (by omega)
    have e2 := zk_add (i0 + n)
    refine zt_trans (ih (by omega) (fun j hj => hc0 j (by omega)) (fun j hj => g0 j (by omega))) ?_
    refine zt_cast (s13_2 (Int32.ofNat (i0 + n)) (zfold (k13_2 ) i0 n a) (by have hg := g0 n (by omega); first | exact hg | (simp only [e1]; exact hg))) ?_
    rw [if_neg (show ¬ (6 ≤ (Int32.ofNat (i0 + n))) from (by have hg := hc0 n (by omega); first | exact hg | (simp only [e1]; exact hg)))]
    simp only [zfold, k13_2, e1, e2, ← Nat.add_assoc]
def K13_2 (i0 : Nat) (S : zS) : zS := zfold (k13_2 ) i0 (6 - i0) S
def K13_2_S (i0 : Nat) (S : zS) : zS := (K13_2  i0 S)
set_option maxRecDepth 100000 in
theorem L13_2 {L : Nat} (i0 : Nat) (S : zS) (hi : i0 ≤ 10000) : zt L 13 2 [some (.inr (.inr 3)), some (.inl (Int32.ofNat i0))] [] S (.inl (12, [some (.inr (.inr 3)), some (.inl (Int32.ofNat (i0 + (6 - i0))))], [], (K13_2_S  i0 S))) := by
  have hend : 6 ≤ Int32.ofNat (i0 + (6 - i0)) := by exact zc_le_end (show zn 6 6 from by unfold zn; decide) (by omega)
  refine zt_trans (l13_2    i0 (6 - i0) S (by omega) (fun j hj => by exact zc_le (show zn 6 6 from by unfold zn; decide) hj (by omega)) (fun j hj _ => by exact zx_of (by omega) (by omega))) ?_
  exact zt_cast (s13_2 (Int32.ofNat (i0 + (6 - i0))) (zfold (k13_2 ) i0 (6 - i0) S) (fun h9 => absurd hend h9)) (if_pos hend)
set_option maxRecDepth 100000 in
theorem f13 {L : Nat} (S : zS) : zf L 13 [.inr (.inr 3)] S (.inl none, (K13_2_S 0 S), 0) := zf_of (en_13 _) (zr_0 i13_0 kc_0 (zr_3_1 i13_1 (zt_trans (L13_2  0 S (by decide) ) (zr_27 i13_12))))
set_option maxRecDepth 100000 in
theorem s17_2 {L : Nat} (x1 x2 : Int32) (S : zS) (g0 : (¬ (x1 ≤ x2)) → (¬ ((S 8 5) ≤ (S 8 6))) → zx 512 (S 8 6)) (g1 : (¬ (x1 ≤ x2)) → (¬ ((S 8 5) ≤ (S 8 6))) → ((S 58 (S 8 6).toNatClampNeg) = 0) → zx 216 (S 55 (S 8 6).toNatClampNeg)) (g2 : (¬ (x1 ≤ x2)) → (¬ ((S 8 5) ≤ (S 8 6))) → ((S 58 (S 8 6).toNatClampNeg) = 0) → (¬ ((F107_9 (S 55 (S 8 6).toNatClampNeg) (S 56 (S 8 6).toNatClampNeg) S) = (-1))) → zx 864 (F107_9 (S 55 (S 8 6).toNatClampNeg) (S 56 (S 8 6).toNatClampNeg) S)) (g3 : (¬ (x1 ≤ x2)) → (¬ ((S 8 5) ≤ (S 8 6))) → (¬ ((S 58 (S 8 6).toNatClampNeg) = 0)) → zx 216 (S 55 (S 8 6).toNatClampNeg)) (g4 : (¬ (x1 ≤ x2)) → (¬ ((S 8 5) ≤ (S 8 6))) → (¬ ((S 58 (S 8 6).toNatClampNeg) = 0)) → zx 864 (((S 55 (S 8 6).toNatClampNeg) * 4) + (F323 ((S 59 (S 55 (S 8 6).toNatClampNeg).toNatClampNeg) + 1) 4 S))) : zt L 17 2 [some (.inr (.inr 8)), some (.inl x1), some (.inl x2)] [] S (if (x1 ≤ x2) then (.inl (22, [some (.inr (.inr 8)), some (.inl x1), some (.inl x2)], [], S)) else (if ((S 8 5) ≤ (S 8 6)) then (.inl (22, [some (.inr (.inr 8)), some (.inl x1), some (.inl x2)], [], S)) else (.inl (2, [some (.inr (.inr 8)), some (.inl x1), some (.inl (x2 + 1))], [], (z_up (G21 (S 8 6) S) 8 6 (((G21 (S 8 6) S) 8 6) + 1)))))) := zr_1_2 i17_2 (zr_1_1 i17_3 (zr_19_3 i17_4 (fun h468 => zt_rfl) (fun h469 => zr_2_0 i17_5 (zr_6 i17_6 fl_8_6 rfl (zr_2_0 i17_7 (zr_6 i17_8 fl_8_5 rfl (zr_19_3 i17_9 (fun h470 => zt_rfl) (fun h471 => zr_2_0 i17_10 (zr_2_0 i17_11 (zr_6 i17_12 fl_8_6 rfl (zr_cn (zs_21_1 i17_13 na_21 ob_8 rfl) (f21 (S 8 6) S (g0 h469 h471) (fun h472 => (g1 h469 h471 h472)) (fun h473 h474 => (g2 h469 h471 h473 h474)) (fun h475 => (g3 h469 h471 h475)) (fun h476 => (g4 h469 h471 h476))) (zr_2_0 i17_14 (zr_14r i17_15 (zr_6 i17_16 fl_8_6 rfl (zr_0 i17_17 kc_1 (zr_13_0 i17_18 (zr_7 i17_19 fl_8_6 (zr_5_2 i17_20 kc_1 (zr_17 i17_21 (zt_rfl))))))))))))))))))))
set_option maxRecDepth 100000 in
theorem w_G108_9_55 (a b c : Int32) (S : zS) : G108_9 a b c S 55 = S 55 := (show (z_up (z_up (z_up (z_up S 59 a.toNatClampNeg ((S 59 a.toNatClampNeg) + 1)) 60 ((a * 4) + (F323 ((S 59 a.toNatClampNeg) + 1) 4 S)).toNatClampNeg b) 61 ((a * 4) + (F323 ((S 59 a.toNatClampNeg) + 1) 4 S)).toNatClampNeg c) 62 ((a * 4) + (F323 ((S 59 a.toNatClampNeg) + 1) 4 S)).toNatClampNeg 0) 55 = S 55 from ((zupc rfl).trans ((zupc rfl).trans ((zupc rfl).trans (zupc rfl)))))
set_option maxRecDepth 100000 in
theorem w_G21_55 (a : Int32) (S : zS) : G21 a S 55 = S 55 := (show (if ((S 58 a.toNatClampNeg) = 0) then (if ((F107_9 (S 55 a.toNatClampNeg) (S 56 a.toNatClampNeg) S) = (-1)) then S else (if ((S 57 a.toNatClampNeg) = 2) then (z_up (z_up S 62 (F107_9 (S 55 a.toNatClampNeg) (S 56 a.toNatClampNeg) S).toNatClampNeg (S 57 a.toNatClampNeg)) 60 (F107_9 (S 55 a.toNatClampNeg) (S 56 a.toNatClampNeg) S).toNatClampNeg (-1)) else (z_up S 62 (F107_9 (S 55 a.toNatClampNeg) (S 56 a.toNatClampNeg) S).toNatClampNeg (S 57 a.toNatClampNeg)))) else (G108_9 (S 55 a.toNatClampNeg) (S 57 a.toNatClampNeg) (S 58 a.toNatClampNeg) S)) 55 = S 55 from (zite_k (zite_k rfl (zite_k ((zupc rfl).trans (zupc rfl)) (zupc rfl))) (w_G108_9_55 _ _ _ _)))
set_option maxRecDepth 100000 in
theorem w_G108_9_8_5 (a b c : Int32) (S : zS) : G108_9 a b c S 8 5 = S 8 5 := (show (z_up (z_up (z_up (z_up S 59 a.toNatClampNeg ((S 59 a.toNatClampNeg) + 1)) 60 ((a * 4) + (F323 ((S 59 a.toNatClampNeg) + 1) 4 S)).toNatClampNeg b) 61 ((a * 4) + (F323 ((S 59 a.toNatClampNeg) + 1) 4 S)).toNatClampNeg c) 62 ((a * 4) + (F323 ((S 59 a.toNatClampNeg) + 1) 4 S)).toNatClampNeg 0) 8 5 = S 8 5 from ((zupci rfl).trans ((zupci rfl).trans ((zupci rfl).trans (zupci rfl)))))
set_option maxRecDepth 100000 in
theorem w_G21_8_5 (a : Int32) (S : zS) : G21 a S 8 5 = S 8 5 := (show (if ((S 58 a.toNatClampNeg) = 0) then (if ((F107_9 (S 55 a.toNatClampNeg) (S 56 a.toNatClampNeg) S) = (-1)) then S else (if ((S 57 a.toNatClampNeg) = 2) then (z_up (z_up S 62 (F107_9 (S 55 a.toNatClampNeg) (S 56 a.toNatClampNeg) S).toNatClampNeg (S 57 a.toNatClampNeg)) 60 (F107_9 (S 55 a.toNatClampNeg) (S 56 a.toNatClampNeg) S).toNatClampNeg (-1)) else (z_up S 62 (F107_9 (S 55 a.toNatClampNeg) (S 56 a.toNatClampNeg) S).toNatClampNeg (S 57 a.toNatClampNeg)))) else (G108_9 (S 55 a.toNatClampNeg) (S 57 a.toNatClampNeg) (S 58 a.toNatClampNeg) S)) 8 5 = S 8 5 from (zite_rd (zite_rd rfl (zite_rd ((zupci rfl).trans (zupci rfl)) (zupci rfl))) (w_G108_9_8_5 _ _ _ _)))
set_option maxRecDepth 100000 in
theorem w_G108_9_8_6 (a b c : Int32) (S : zS) : G108_9 a b c S 8 6 = S 8 6 := (show (z_up (z_up (z_up (z_up S 59 a.toNatClampNeg ((S 59 a.toNatClampNeg) + 1)) 60 ((a * 4) + (F323 ((S 59 a.toNatClampNeg) + 1) 4 S)).toNatClampNeg b) 61 ((a * 4) + (F323 ((S 59 a.toNatClampNeg) + 1) 4 S)).toNatClampNeg c) 62 ((a * 4) + (F323 ((S 59 a.toNatClampNeg) + 1) 4 S)).toNatClampNeg 0) 8 6 = S 8 6 from ((zupci rfl).trans ((zupci rfl).trans ((zupci rfl).trans (zupci rfl)))))
set_option maxRecDepth 100000 in
theorem w_G21_8_6 (a : Int32) (S : zS) : G21 a S 8 6 = S 8 6 := (show (if ((S 58 a.toNatClampNeg) = 0) then (if ((F107_9 (S 55 a.toNatClampNeg) (S 56 a.toNatClampNeg) S) = (-1)) then S else (if ((S 57 a.toNatClampNeg) = 2) then (z_up (z_up S 62 (F107_9 (S 55 a.toNatClampNeg) (S 56 a.toNatClampNeg) S).toNatClampNeg (S 57 a.toNatClampNeg)) 60 (F107_9 (S 55 a.toNatClampNeg) (S 56 a.toNatClampNeg) S).toNatClampNeg (-1)) else (z_up S 62 (F107_9 (S 55 a.toNatClampNeg) (S 56 a.toNatClampNeg) S).toNatClampNeg (S 57 a.toNatClampNeg)))) else (G108_9 (S 55 a.toNatClampNeg) (S 57 a.toNatClampNeg) (S 58 a.toNatClampNeg) S)) 8 6 = S 8 6 from (zite_rd (zite_rd rfl (zite_rd ((zupci rfl).trans (zupci rfl)) (zupci rfl))) (w_G108_9_8_6 _ _ _ _)))
def k17_2 (x1 : Int32) (j : Nat) (a : zS) : zS := (z_up (G21 (a 8 6) a) 8 6 (((G21 (a 8 6) a) 8 6) + 1))
set_option maxRecDepth 100000 in
theorem l17_2 {L : Nat} (x1 : Int32) (i0 n : Nat) (a : zS) (hn : i0 + n < 2147483648) (hc0 : ∀ j, j < n → ¬ (x1 ≤ (Int32.ofNat (i0 + j)))) (hc1 : ∀ j, j < n → ¬ (((zfold (k17_2 x1 ) i0 j a) 8 5) ≤ ((zfold (k17_2 x1 ) i0 j a) 8 6))) (g0 : ∀ j, j < n → (¬ (x1 ≤ (Int32.ofNat (i0 + j)))) → (¬ (((zfold (k17_2 x1 ) i0 j a) 8 5) ≤ ((zfold (k17_2 x1 ) i0 j a) 8 6))) → zx 512 ((zfold (k17_2 x1 ) i0 j a) 8 6)) (g1 : ∀ j, j < n → (¬ (x1 ≤ (Int32.ofNat (i0 + j)))) → (¬ (((zfold (k17_2 x1 ) i0 j a) 8 5) ≤ ((zfold (k17_2 x1 ) i0 j a) 8 6))) → (((zfold (k17_2 x1 ) i0 j a) 58 ((zfold (k17_2 x1 ) i0 j a) 8 6).toNatClampNeg) = 0) → zx 216 ((zfold (k17_2 x1 ) i0 j a) 55 ((zfold (k17_2 x1 ) i0 j a) 8 6).toNatClampNeg)) (g2 : ∀ j, j < n → (¬ (x1 ≤ (Int32.ofNat (i0 + j)))) → (¬ (((zfold (k17_2 x1 ) i0 j a) 8 5) ≤ ((zfold (k17_2 x1 ) i0 j a) 8 6))) → (((zfold (k17_2 x1 ) i0 j a) 58 ((zfold (k17_2 x1 ) i0 j a) 8 6).toNatClampNeg) = 0) → (¬ ((F107_9 ((zfold (k17_2 x1 ) i0 j a) 55 ((zfold (k17_2 x1 ) i0 j a) 8 6).toNatClampNeg) ((zfold (k17_2 x1 ) i0 j a) 56 ((zfold (k17_2 x1 ) i0 j a) 8 6).toNatClampNeg) (zfold (k17_2 x1 ) i0 j a)) = (-1))) → zx 864 (F107_9 ((zfold (k17_2 x1 ) i0 j a) 55 ((zfold (k17_2 x1 ) i0 j a) 8 6).toNatClampNeg) ((zfold (k17_2 x1 ) i0 j a) 56 ((zfold (k17_2 x1 ) i0 j a) 8 6).toNatClampNeg) (zfold (k17_2 x1 ) i0 j a))) (g3 : ∀ j, j < n → (¬ (x1 ≤ (Int32.ofNat (i0 + j)))) → (¬ (((zfold (k17_2 x1 ) i0 j a) 8 5) ≤ ((zfold (k17_2 x1 ) i0 j a) 8 6))) → (¬ (((zfold (k17_2 x1 ) i0 j a) 58 ((zfold (k17_2 x1 ) i0 j a) 8 6).toNatClampNeg) = 0)) → zx 216 ((zfold (k17_2 x1 ) i0 j a) 55 ((zfold (k17_2 x1 ) i0 j a) 8 6).toNatClampNeg)) (g4 : ∀ j, j < n → (¬ (x1 ≤ (Int32.ofNat (i0 + j)))) → (¬ (((zfold (k17_2 x1 ) i0 j a) 8 5) ≤ ((zfold (k17_2 x1 ) i0 j a) 8 6))) → (¬ (((zfold (k17_2 x1 ) i0 j a) 58 ((zfold (k17_2 x1 ) i0 j a) 8 6).toNatClampNeg) = 0)) → zx 864 ((((zfold (k17_2 x1 ) i0 j a) 55 ((zfold (k17_2 x1 ) i0 j a) 8 6).toNatClampNeg) * 4) + (F323 (((zfold (k17_2 x1 ) i0 j a) 59 ((zfold (k17_2 x1 ) i0 j a) 55 ((zfold (k17_2 x1 ) i0 j a) 8 6).toNatClampNeg).toNatClampNeg) + 1) 4 (zfold (k17_2 x1 ) i0 j a)))) : zt L 17 2 [some (.inr (.inr 8)), some (.inl x1), some (.inl (Int32.ofNat i0))] [] a (.inl (2, [some (.inr (.inr 8)), some (.inl x1), some (.inl (Int32.ofNat (i0 + n)))], [], (zfold (k17_2 x1 ) i0 n a))) := by
  induction n with
  | zero => exact zt_rfl
  | succ n ih =>
    have e1 := zk_ix (i0 + n) (by omega)
    have e2 := zk_add (i0 + n)
    refine zt_trans (ih (by omega) (fun j hj => hc0 j (by omega)) (fun j hj => hc1 j (by omega)) (fun j hj => g0 j (by omega)) (fun j hj => g1 j (by omega)) (fun j hj => g2 j (by omega)) (fun j hj => g3 j (by omega)) (fun j hj => g4 j (by omega))) ?_
    refine zt_cast (s17_2 x1 (Int32.ofNat (i0 + n)) (zfold (k17_2 x1 ) i0 n a) (by have hg := g0 n (by omega); first | exact hg | (simp only [e1]; exact hg)) (by have hg := g1 n (by omega); first | exact hg | (simp only [e1]; exact hg)) (by have hg := g2 n (by omega); first | exact hg | (simp only [e1]; exact hg)) (by have hg := g3 n (by omega); first | exact hg | (simp only [e1]; exact hg)) (by have hg := g4 n (by omega); first | exact hg | (simp only [e1]; exact hg))) ?_
    rw [if_neg (show ¬ (x1 ≤ (Int32.ofNat (i0 + n))) from (by have hg := hc0 n (by omega); first | exact hg | (simp only [e1]; exact hg)))]
    rw [if_neg (show ¬ (((zfold (k17_2 x1 ) i0 n a) 8 5) ≤ ((zfold (k17_2 x1 ) i0 n a) 8 6)) from (by have hg := hc1 n (by omega); first | exact hg | (simp only [e1]; exact hg)))]
    simp only [zfold, k17_2, e1, e2, ← Nat.add_assoc]
def K17_2 (x1 : Int32) (i0 : Nat) (S : zS) : zS := zfold (k17_2 x1 ) i0 (min (x1.toNatClampNeg - i0) ((S 8 5).toNatClampNeg - (S 8 6).toNatClampNeg)) S
def K17_2_S (x1 : Int32) (i0 : Nat) (S : zS) : zS := (K17_2 x1 i0 S)
set_option maxRecDepth 100000 in
theorem L17_2 {L : Nat} (x1 : Int32) (i0 : Nat) (S : zS) (hi : i0 ≤ 10000) (h0 : zn 600 x1) (h1 : zn 600 x1) (h2 : zn 512 (S 8 5)) (h3 : zn 512 (S 8 6)) (h55 : zA 512 216 (S 55)) : zt L 17 2 [some (.inr (.inr 8)), some (.inl x1), some (.inl (Int32.ofNat i0))] [] S (.inl (22, [some (.inr (.inr 8)), some (.inl x1), some (.inl (Int32.ofNat (i0 + (min (x1.toNatClampNeg - i0) ((S 8 5).toNatClampNeg - (S 8 6).toNatClampNeg)))))], [], (K17_2_S x1 i0 S))) := by
  have hk55 : ∀ n, (zfold (k17_2 x1 ) i0 n S) 55 = S 55 := fun n => zfold_keep (f := (k17_2 x1 )) (fun (b : zS) => b 55) (fun j b => by unfold k17_2; exact (show (z_up (G21 (b 8 6) b) 8 6 (((G21 (b 8 6) b) 8 6) + 1)) 55 = b 55 from ((zupc rfl).trans (w_G21_55 _ _)))) n S
  have hk8_5 : ∀ n, (zfold (k17_2 x1 ) i0 n S) 8 5 = S 8 5 := fun n => zfold_keep (f := (k17_2 x1 )) (fun (b : zS) => b 8 5) (fun j b => by unfold k17_2; exact (show (z_up (G21 (b 8 6) b) 8 6 (((G21 (b 8 6) b) 8 6) + 1)) 8 5 = b 8 5 from ((zupf rfl).trans (w_G21_8_5 _ _)))) n S
  have hs : ∀ n, n ≤ (min (x1.toNatClampNeg - i0) ((S 8 5).toNatClampNeg - (S 8 6).toNatClampNeg)) → (zfold (k17_2 x1 ) i0 n S) 8 6 = S 8 6 + Int32.ofNat n := by
    intro n
    induction n with
    | zero => intro _; show S 8 6 = S 8 6 + 0; rw [Int32.add_zero]
    | succ n ih =>
      intro hn
      show (G21 ((zfold (k17_2 x1 ) i0 n S) 8 6) (zfold (k17_2 x1 ) i0 n S)) 8 6 + 1 = _
      rw [w_G21_8_6, ih (by omega), Int32.add_assoc, zk_add]
  have h4 := zn_cl h1
  have h5 := zn_cl h2
  have h6 := zn_cl h3
  have h7 := zk_nat h2.1
  have h8 := zk_nat h3.1
  have hv : ∀ n, n ≤ (min (x1.toNatClampNeg - i0) ((S 8 5).toNatClampNeg - (S 8 6).toNatClampNeg)) → ((zfold (k17_2 x1 ) i0 n S) 8 6).toInt = (S 8 6).toInt + n := by
    intro n hn
    have e9 := zk_ti n (by omega)
    rw [hs n hn, zk_tadd (by rw [e9]; omega) (by rw [e9]; omega), e9]
  have hg : ∀ n, n < (min (x1.toNatClampNeg - i0) ((S 8 5).toNatClampNeg - (S 8 6).toNatClampNeg)) → zx 512 ((zfold (k17_2 x1 ) i0 n S) 8 6) ∧ zx 216 ((zfold (k17_2 x1 ) i0 n S) 55 ((zfold (k17_2 x1 ) i0 n S) 8 6).toNatClampNeg) := by
    intro n hn
    have e9 := hv n (by omega)
    have hx : zx 512 ((zfold (k17_2 x1 ) i0 n S) 8 6) := by rw [zx_iff, e9]; omega
    refine ⟨hx, ?_⟩
    rw [hk55 n]
    rw [zx_iff] at hx
    exact h55 _ (by have := zk_nat hx.1; omega)
  have hlo : ∀ n, n < (min (x1.toNatClampNeg - i0) ((S 8 5).toNatClampNeg - (S 8 6).toNatClampNeg)) → ¬ (((zfold (k17_2 x1 ) i0 n S) 8 5) ≤ ((zfold (k17_2 x1 ) i0 n S) 8 6)) := by
    intro n hn
    rw [hk8_5 n, zk_le, hv n (by omega)]; omega
  refine zt_trans (l17_2 x1 i0 (min (x1.toNatClampNeg - i0) ((S 8 5).toNatClampNeg - (S 8 6).toNatClampNeg)) S (by omega) (fun j hj => by rw [zk_le, zk_ti _ (by omega)]; have := zk_nat h1.1; omega) hlo (fun j hj _ _ => (hg j hj).1) (fun j hj _ _ _ => (hg j hj).2) (fun j hj _ _ _ hn => zx_107_9 (hg j hj).2 hn) (fun j hj _ _ _ => (hg j hj).2) (fun j hj _ _ _ => zx_slot (hg j hj).2 (zfm_zn _ _))) ?_
  have hend : x1 ≤ Int32.ofNat (i0 + (min (x1.toNatClampNeg - i0) ((S 8 5).toNatClampNeg - (S 8 6).toNatClampNeg))) ∨ ((zfold (k17_2 x1 ) i0 (min (x1.toNatClampNeg - i0) ((S 8 5).toNatClampNeg - (S 8 6).toNatClampNeg)) S) 8 5) ≤ ((zfold (k17_2 x1 ) i0 (min (x1.toNatClampNeg - i0) ((S 8 5).toNatClampNeg - (S 8 6).toNatClampNeg)) S) 8 6) := by
    rw [hk8_5, zk_le, zk_le, hv _ (Nat.le_refl _), zk_ti _ (by omega)]
    have := zk_nat h1.1
    omega
  exact zt_cast (s17_2 x1 _ _ (fun a9 b9 => (hend.elim a9 b9).elim) (fun a9 b9 => (hend.elim a9 b9).elim) (fun a9 b9 => (hend.elim a9 b9).elim) (fun a9 b9 => (hend.elim a9 b9).elim) (fun a9 b9 => (hend.elim a9 b9).elim)) (zte_2 hend)
set_option maxRecDepth 100000 in
theorem f17 {L : Nat} (a : Int32) (S : zS) (g0 : zn 600 a) (g1 : zn 512 (S 8 5)) (g2 : zn 512 (S 8 6)) (g3 : zA 512 216 (S 55)) : zf L 17 [.inr (.inr 8), .inl a] S (.inl (some (.inl (((K17_2_S a 0 S) 8 5) - ((K17_2_S a 0 S) 8 6)))), (K17_2_S a 0 S), 0) := zf_of (en_17 _ _) (zr_0 i17_0 kc_0 (zr_3_2 i17_1 (zt_trans (L17_2 a 0 S (by decide) (g0) (g0) (g1) (g2) (g3)) (zr_2_0 i17_22 (zr_6 i17_23 fl_8_5 rfl (zr_2_0 i17_24 (zr_6 i17_25 fl_8_6 rfl (zr_13_1 i17_26 (zr_25 i17_27)))))))))
set_option maxRecDepth 100000 in
theorem s111_7_2 {L : Nat} (x1 x2 x3 : Int32) (S : zS) (g0 : (¬ (x2 ≤ x3)) → zx 216 x3) : zt L 111 2 [some (.inr (.inr 7)), some (.inl x1), some (.inl x2), some (.inl x3)] [] S (if (x2 ≤ x3) then (.inl (12, [some (.inr (.inr 7)), some (.inl x1), some (.inl x2), some (.inl x3)], [], S)) else (.inl (2, [some (.inr (.inr 7)), some (.inl x1), some (.inl x2), some (.inl (x3 + 1))], [], (z_up S 51 x3.toNatClampNeg 0)))) := zr_1_3 i111_2 (zr_1_2 i111_3 (zr_19_3 i111_4 (fun h481 => zt_rfl) (fun h482 => zr_2_0 i111_5 (zr_6r i111_6 fl_7_0 (zr_1_3 i111_7 (zr_0 i111_8 kc_0 (zr_10 i111_9 ar_51 (g0 h482) rfl (zr_5_3 i111_10 kc_1 (zr_17 i111_11 (zt_rfl))))))))))
def k111_7_2 (x1 x2 : Int32) (j : Nat) (a : zS) : zS := (z_up a 51 j 0)
set_option maxRecDepth 100000 in
theorem l111_7_2 {L : Nat} (x1 x2 : Int32) (i0 n : Nat) (a : zS) (hn : i0 + n < 2147483648) (hc0 : ∀ j, j < n → ¬ (x2 ≤ (Int32.ofNat (i0 + j)))) (g0 : ∀ j, j < n → (¬ (x2 ≤ (Int32.ofNat (i0 + j)))) → zx 216 (Int32.ofNat (i0 + j))) : zt L 111 2 [some (.inr (.inr 7)), some (.inl x1), some (.inl x2), some (.inl (Int32.ofNat i0))] [] a (.inl (2, [some (.inr (.inr 7)), some (.inl x1), some (.inl x2), some (.inl (Int32.ofNat (i0 + n)))], [], (zfold (k111_7_2 x1 x2 ) i0 n a))) := by
  induction n with
  | zero => exact zt_rfl
  | succ n ih =>
    have e1 := zk_ix (i0 + n) (by omega)
    have e2 := zk_add (i0 + n)
    refine zt_trans (ih (by omega) (fun j hj => hc0 j (by omega)) (fun j hj => g0 j (by omega))) ?_
    refine zt_cast (s111_7_2 x1 x2 (Int32.ofNat (i0 + n)) (zfold (k111_7_2 x1 x2 ) i0 n a) (by have hg := g0 n (by omega); first | exact hg | (simp only [e1]; exact hg))) ?_
    rw [if_neg (show ¬ (x2 ≤ (Int32.ofNat (i0 + n))) from (by have hg := hc0 n (by omega); first | exact hg | (simp only [e1]; exact hg)))]
    simp only [zfold, k111_7_2, e1, e2, ← Nat.add_assoc]
def K111_7_2 (x1 x2 : Int32) (i0 : Nat) (S : zS) : zS := zfold (k111_7_2 x1 x2 ) i0 (x2.toNatClampNeg - i0) S
def K111_7_2_S (x1 x2 : Int32) (i0 : Nat) (S : zS) : zS := (K111_7_2 x1 x2 i0 S)
set_option maxRecDepth 100000 in
theorem L111_7_2 {L : Nat} (x1 x2 : Int32) (i0 : Nat) (S : zS) (hi : i0 ≤ 10000) (h0 : zn 216 x2) : zt L 111 2 [some (.inr (.inr 7)), some (.inl x1), some (.inl x2), some (.inl (Int32.ofNat i0))] [] S (.inl (12, [some (.inr (.inr 7)), some (.inl x1), some (.inl x2), some (.inl (Int32.ofNat (i0 + (x2.toNatClampNeg - i0))))], [], (K111_7_2_S x1 x2 i0 S))) := by
  have hend : x2 ≤ Int32.ofNat (i0 + (x2.toNatClampNeg - i0)) := by exact zc_le_end h0 (by omega)
  refine zt_trans (l111_7_2 x1 x2   i0 (x2.toNatClampNeg - i0) S (by have := zn_cl h0; omega) (fun j hj => by exact zc_le h0 hj (by omega)) (fun j hj _ => by exact zx_of (by have := zn_cl h0; omega) (by have := zn_cl h0; omega))) ?_
  exact zt_cast (s111_7_2 x1 x2 (Int32.ofNat (i0 + (x2.toNatClampNeg - i0))) (zfold (k111_7_2 x1 x2 ) i0 (x2.toNatClampNeg - i0) S) (fun h9 => absurd hend h9)) (if_pos hend)
set_option maxRecDepth 100000 in
theorem f111 {L : Nat} (a b : Int32) (S : zS) (g0 : zn 216 b) (g1 : zn 10000 a) : zf L 111 [.inr (.inr 7), .inl a, .inl b] S (.inl none, (K111_7_2_S a b a.toNatClampNeg S), 0) := zf_of (en_111 _ _ _) (zr_1_1 i111_0 (zr_3_3 i111_1 (zt_trans (zk_cg (P := fun v9 => zt L 111 2 [some (.inr (.inr 7)), some (.inl a), some (.inl b), some (.inl v9)] [] S (.inl (12, [some (.inr (.inr 7)), some (.inl a), some (.inl b), some (.inl (Int32.ofNat (a.toNatClampNeg + (b.toNatClampNeg - a.toNatClampNeg))))], [], (K111_7_2_S a b a.toNatClampNeg S)))) ((g1)).1 (L111_7_2 a b a.toNatClampNeg S (zn_cl (g1)) (g0))) (zr_27 i111_12))))
set_option maxRecDepth 100000 in
theorem s111_9_2 {L : Nat} (x1 x2 x3 : Int32) (S : zS) (g0 : (¬ (x2 ≤ x3)) → zx 216 x3) : zt L 111 2 [some (.inr (.inr 9)), some (.inl x1), some (.inl x2), some (.inl x3)] [] S (if (x2 ≤ x3) then (.inl (12, [some (.inr (.inr 9)), some (.inl x1), some (.inl x2), some (.inl x3)], [], S)) else (.inl (2, [some (.inr (.inr 9)), some (.inl x1), some (.inl x2), some (.inl (x3 + 1))], [], (z_up S 59 x3.toNatClampNeg 0)))) := zr_1_3 i111_2 (zr_1_2 i111_3 (zr_19_3 i111_4 (fun h487 => zt_rfl) (fun h488 => zr_2_0 i111_5 (zr_6r i111_6 fl_9_0 (zr_1_3 i111_7 (zr_0 i111_8 kc_0 (zr_10 i111_9 ar_59 (g0 h488) rfl (zr_5_3 i111_10 kc_1 (zr_17 i111_11 (zt_rfl))))))))))
def k111_9_2 (x1 x2 : Int32) (j : Nat) (a : zS) : zS := (z_up a 59 j 0)
set_option maxRecDepth 100000 in
theorem l111_9_2 {L : Nat} (x1 x2 : Int32) (i0 n : Nat) (a : zS) (hn : i0 + n < 2147483648) (hc0 : ∀ j, j < n → ¬ (x2 ≤ (Int32.ofNat (i0 + j)))) (g0 : ∀ j, j < n → (¬ (x2 ≤ (Int32.ofNat (i0 + j)))) → zx 216 (Int32.ofNat (i0 + j))) : zt L 111 2 [some (.inr (.inr 9)), some (.inl x1), some (.inl x2), some (.inl (Int32.ofNat i0))] [] a (.inl (2, [some (.inr (.inr 9)), some (.inl x1), some (.inl x2), some (.inl (Int32.ofNat (i0 + n)))], [], (zfold (k111_9_2 x1 x2 ) i0 n a))) := by
  induction n with
  | zero => exact zt_rfl
  | succ n ih =>
    have e1 := zk_ix (i0 + n) (by omega)
    have e2 := zk_add (i0 + n)
    refine zt_trans (ih (by omega) (fun j hj => hc0 j (by omega)) (fun j hj => g0 j (by omega))) ?_
    refine zt_cast (s111_9_2 x1 x2 (Int32.ofNat (i0 + n)) (zfold (k111_9_2 x1 x2 ) i0 n a) (by have hg := g0 n (by omega); first | exact hg | (simp only [e1]; exact hg))) ?_
    rw [if_neg (show ¬ (x2 ≤ (Int32.ofNat (i0 + n))) from (by have hg := hc0 n (by omega); first | exact hg | (simp only [e1]; exact hg)))]
    simp only [zfold, k111_9_2, e1, e2, ← Nat.add_assoc]
def K111_9_2 (x1 x2 : Int32) (i0 : Nat) (S : zS) : zS := zfold (k111_9_2 x1 x2 ) i0 (x2.toNatClampNeg - i0) S
def K111_9_2_S (x1 x2 : Int32) (i0 : Nat) (S : zS) : zS := (K111_9_2 x1 x2 i0 S)
set_option maxRecDepth 100000 in
theorem L111_9_2 {L : Nat} (x1 x2 : Int32) (i0 : Nat) (S : zS) (hi : i0 ≤ 10000) (h0 : zn 216 x2) : zt L 111 2 [some (.inr (.inr 9)), some (.inl x1), some (.inl x2), some (.inl (Int32.ofNat i0))] [] S (.inl (12, [some (.inr (.inr 9)), some (.inl x1), some (.inl x2), some (.inl (Int32.ofNat (i0 + (x2.toNatClampNeg - i0))))], [], (K111_9_2_S x1 x2 i0 S))) := by
  have hend : x2 ≤ Int32.ofNat (i0 + (x2.toNatClampNeg - i0)) := by exact zc_le_end h0 (by omega)
  refine zt_trans (l111_9_2 x1 x2   i0 (x2.toNatClampNeg - i0) S (by have := zn_cl h0; omega) (fun j hj => by exact zc_le h0 hj (by omega)) (fun j hj _ => by exact zx_of (by have := zn_cl h0; omega) (by have := zn_cl h0; omega))) ?_
  exact zt_cast (s111_9_2 x1 x2 (Int32.ofNat (i0 + (x2.toNatClampNeg - i0))) (zfold (k111_9_2 x1 x2 ) i0 (x2.toNatClampNeg - i0) S) (fun h9 => absurd hend h9)) (if_pos hend)
set_option maxRecDepth 100000 in
theorem f111_9 {L : Nat} (a b : Int32) (S : zS) (g0 : zn 216 b) (g1 : zn 10000 a) : zf L 111 [.inr (.inr 9), .inl a, .inl b] S (.inl none, (K111_9_2_S a b a.toNatClampNeg S), 0) := zf_of (en_111 _ _ _) (zr_1_1 i111_0 (zr_3_3 i111_1 (zt_trans (zk_cg (P := fun v9 => zt L 111 2 [some (.inr (.inr 9)), some (.inl a), some (.inl b), some (.inl v9)] [] S (.inl (12, [some (.inr (.inr 9)), some (.inl a), some (.inl b), some (.inl (Int32.ofNat (a.toNatClampNeg + (b.toNatClampNeg - a.toNatClampNeg))))], [], (K111_9_2_S a b a.toNatClampNeg S)))) ((g1)).1 (L111_9_2 a b a.toNatClampNeg S (zn_cl (g1)) (g0))) (zr_27 i111_12))))
set_option maxRecDepth 100000 in
theorem s18_11 {L : Nat} (x1 x2 x3 x4 : Int32) (S : zS) (g0 : (¬ ((S 8 5) ≤ x4)) → zx 512 x4) (g1 : (¬ ((S 8 5) ≤ x4)) → ((S 55 x4.toNatClampNeg) < x1) → zx 512 x3) (g2 : (¬ ((S 8 5) ≤ x4)) → (¬ ((S 55 x4.toNatClampNeg) < x1)) → (¬ ((S 55 x4.toNatClampNeg) < x2)) → zx 512 x3) : zt L 18 11 [some (.inr (.inr 8)), some (.inl x1), some (.inl x2), some (.inl x3), some (.inl x4)] [] S (if ((S 8 5) ≤ x4) then (.inl (34, [some (.inr (.inr 8)), some (.inl x1), some (.inl x2), some (.inl x3), some (.inl x4)], [], S)) else (.inl (11, [some (.inr (.inr 8)), some (.inl x1), some (.inl x2), some (.inl (if ((S 55 x4.toNatClampNeg) < x1) then ((x3 + 1) : Int32) else (if ((S 55 x4.toNatClampNeg) < x2) then (x3 : Int32) else (x3 + 1)))), some (.inl (x4 + 1))], [], (if ((S 55 x4.toNatClampNeg) < x1) then (G20 x4 x3 S) else (if ((S 55 x4.toNatClampNeg) < x2) then S else (G20 x4 x3 S)))))) := zr_1_4 i18_11 (zr_2_0 i18_12 (zr_6 i18_13 fl_8_5 rfl (zr_19_3 i18_14 (fun h501 => zt_rfl) (fun h502 => zr_2_0 i18_15 (zr_6r i18_16 fl_8_1 (zr_1_4 i18_17 (zr_8 i18_18 ar_55 (g0 h502) rfl rfl (zr_1_1 i18_19 (zt_trans (zt_cast (zr_19_2 i18_20 (fun h503 => zr_2_0 i18_27 (zr_1_4 i18_28 (zr_1_3 i18_29 (zr_cn (zs_21_2 i18_30 na_20 ob_8 rfl) (f20 x4 x3 S (g0 h502) (g1 h502 h503)) (zr_5_3 i18_31 kc_1 (zt_rfl)))))) (fun h504 => zr_2_0 i18_21 (zr_6r i18_22 fl_8_1 (zr_1_4 i18_23 (zr_8 i18_24 ar_55 (g0 h502) rfl rfl (zr_1_2 i18_25 (zt_cast (zr_19_2 i18_26 (fun h505 => zt_rfl) (fun h506 => zr_2_0 i18_27 (zr_1_4 i18_28 (zr_1_3 i18_29 (zr_cn (zs_21_2 i18_30 na_20 ob_8 rfl) (f20 x4 x3 S (g0 h502) (g2 h502 h504 h506)) (zr_5_3 i18_31 kc_1 (zt_rfl))))))) (zm_c (zl_c zz_s (zl_c zz_s (zl_c zz_s (zl_c (zl_v zz_e) zz_s)))) zz_s zz_e)))))))) (zm_c (zl_c zz_s (zl_c zz_s (zl_c zz_s (zl_c (zl_v zz_e) zz_s)))) zz_s zz_e)) (zr_5_4 i18_32 kc_1 (zr_17 i18_33 (zt_rfl))))))))))))
set_option maxRecDepth 100000 in
theorem w_G20_8_5 (a b : Int32) (S : zS) : G20 a b S 8 5 = S 8 5 := (show (z_up (z_up (z_up (z_up S 55 b.toNatClampNeg (S 55 a.toNatClampNeg)) 56 b.toNatClampNeg (S 56 a.toNatClampNeg)) 57 b.toNatClampNeg (S 57 a.toNatClampNeg)) 58 b.toNatClampNeg (S 58 a.toNatClampNeg)) 8 5 = S 8 5 from ((zupci rfl).trans ((zupci rfl).trans ((zupci rfl).trans (zupci rfl)))))
def k18_11 (x1 x2 : Int32) (j : Nat) (a : Int32 × zS) : Int32 × zS := ((if ((a.2 55 j) < x1) then ((a.1 + 1) : Int32) else (if ((a.2 55 j) < x2) then (a.1 : Int32) else (a.1 + 1))), (if ((a.2 55 j) < x1) then (G20 (Int32.ofNat j) a.1 a.2) else (if ((a.2 55 j) < x2) then a.2 else (G20 (Int32.ofNat j) a.1 a.2))))
set_option maxRecDepth 100000 in
theorem l18_11 {L : Nat} (x1 x2 : Int32) (i0 n : Nat) (a : Int32 × zS) (hn : i0 + n < 2147483648) (hc0 : ∀ j, j < n → ¬ (((zfold (k18_11 x1 x2 ) i0 j a).2 8 5) ≤ (Int32.ofNat (i0 + j)))) (g0 : ∀ j, j < n → (¬ (((zfold (k18_11 x1 x2 ) i0 j a).2 8 5) ≤ (Int32.ofNat (i0 + j)))) → zx 512 (Int32.ofNat (i0 + j))) (g1 : ∀ j, j < n → (¬ (((zfold (k18_11 x1 x2 ) i0 j a).2 8 5) ≤ (Int32.ofNat (i0 + j)))) → (((zfold (k18_11 x1 x2 ) i0 j a).2 55 (i0 + j)) < x1) → zx 512 (zfold (k18_11 x1 x2 ) i0 j a).1) (g2 : ∀ j, j < n → (¬ (((zfold (k18_11 x1 x2 ) i0 j a).2 8 5) ≤ (Int32.ofNat (i0 + j)))) → (¬ (((zfold (k18_11 x1 x2 ) i0 j a).2 55 (i0 + j)) < x1)) → (¬ (((zfold (k18_11 x1 x2 ) i0 j a).2 55 (i0 + j)) < x2)) → zx 512 (zfold (k18_11 x1 x2 ) i0 j a).1) : zt L 18 11 [some (.inr (.inr 8)), some (.inl x1), some (.inl x2), some (.inl a.1), some (.inl (Int32.ofNat i0))] [] a.2 (.inl (11, [some (.inr (.inr 8)), some (.inl x1), some (.inl x2), some (.inl (zfold (k18_11 x1 x2 ) i0 n a).1), some (.inl (Int32.ofNat (i0 + n)))], [], (zfold (k18_11 x1 x2 ) i0 n a).2)) := by
  induction n with
  | zero => exact zt_rfl
  | succ n ih =>
    have e1 := zk_ix (i0 + n) (by omega)
    have e2 := zk_add (i0 + n)
    refine zt_trans (ih (by omega) (fun j hj => hc0 j (by omega)) (fun j hj => g0 j (by omega)) (fun j hj => g1 j (by omega)) (fun j hj => g2 j (by omega))) ?_
    refine zt_cast (s18_11 x1 x2 (zfold (k18_11 x1 x2 ) i0 n a).1 (Int32.ofNat (i0 + n)) (zfold (k18_11 x1 x2 ) i0 n a).2 (by have hg := g0 n (by omega); first | exact hg | (simp only [e1]; exact hg)) (by have hg := g1 n (by omega); first | exact hg | (simp only [e1]; exact hg)) (by have hg := g2 n (by omega); first | exact hg | (simp only [e1]; exact hg))) ?_
    rw [if_neg (show ¬ (((zfold (k18_11 x1 x2 ) i0 n a).2 8 5) ≤ (Int32.ofNat (i0 + n))) from (by have hg := hc0 n (by omega); first | exact hg | (simp only [e1]; exact hg)))]
    simp only [zfold, k18_11, e1, e2, ← Nat.add_assoc]
def K18_11 (x1 x2 x3 : Int32) (i0 : Nat) (S : zS) : Int32 × zS := zfold (k18_11 x1 x2 ) i0 ((S 8 5).toNatClampNeg - i0) (x3, S)
def K18_11_c3 (x1 x2 x3 : Int32) (i0 : Nat) (S : zS) : Int32 := (K18_11 x1 x2 x3 i0 S).1
def K18_11_S (x1 x2 x3 : Int32) (i0 : Nat) (S : zS) : zS := (K18_11 x1 x2 x3 i0 S).2
set_option maxRecDepth 100000 in
theorem L18_11 {L : Nat} (x1 x2 x3 : Int32) (i0 : Nat) (S : zS) (hi : i0 ≤ 10000) (h0 : zn 512 (S 8 5)) (hx : zn i0 x3) : zt L 18 11 [some (.inr (.inr 8)), some (.inl x1), some (.inl x2), some (.inl x3), some (.inl (Int32.ofNat i0))] [] S (.inl (34, [some (.inr (.inr 8)), some (.inl x1), some (.inl x2), some (.inl (K18_11_c3 x1 x2 x3 i0 S)), some (.inl (Int32.ofNat (i0 + ((S 8 5).toNatClampNeg - i0))))], [], (K18_11_S x1 x2 x3 i0 S))) := by
  have hk8_5 : ∀ n, (zfold (k18_11 x1 x2 ) i0 n (x3, S)).2 8 5 = S 8 5 := fun n => zfold_keep (f := (k18_11 x1 x2 )) (fun (b : Int32 × zS) => b.2 8 5) (fun j b => by unfold k18_11; exact (show (if ((b.2 55 j) < x1) then (G20 (Int32.ofNat j) b.1 b.2) else (if ((b.2 55 j) < x2) then b.2 else (G20 (Int32.ofNat j) b.1 b.2))) 8 5 = b.2 8 5 from (zite_rd (w_G20_8_5 _ _ _) (zite_rd rfl (w_G20_8_5 _ _ _))))) n (x3, S)
  have hacc : ∀ n, n ≤ ((S 8 5).toNatClampNeg - i0) → zn (i0 + n) (zfold (k18_11 x1 x2 ) i0 n (x3, S)).1 := by
    intro n
    induction n with
    | zero => intro _; exact hx
    | succ n ih =>
      intro hn
      have h := ih (by omega)
      have := zn_cl h0
      simp only [zfold, k18_11]
      (repeat' split) <;> first | exact zn_succ (n := i0 + n) h (by omega) | exact zn_up (n := i0 + n) h
  have hend : (zfold (k18_11 x1 x2 ) i0 ((S 8 5).toNatClampNeg - i0) (x3, S)).2 8 5 ≤ Int32.ofNat (i0 + ((S 8 5).toNatClampNeg - i0)) := by rw [hk8_5]; exact zc_le_end h0 (by omega)
  refine zt_trans (l18_11 x1 x2   i0 ((S 8 5).toNatClampNeg - i0) (x3, S) (by have := zn_cl h0; omega) (fun j hj => by rw [hk8_5]; exact zc_le h0 hj (by omega)) (fun j hj _ => by exact zx_of (by have := zn_cl h0; omega) (by have := zn_cl h0; omega)) (fun j hj _ _ => zx_zn (hacc j (by omega)) (by have := zn_cl h0; omega)) (fun j hj _ _ _ => zx_zn (hacc j (by omega)) (by have := zn_cl h0; omega))) ?_
  exact zt_cast (s18_11 x1 x2 (zfold (k18_11 x1 x2 ) i0 ((S 8 5).toNatClampNeg - i0) (x3, S)).1 (Int32.ofNat (i0 + ((S 8 5).toNatClampNeg - i0))) (zfold (k18_11 x1 x2 ) i0 ((S 8 5).toNatClampNeg - i0) (x3, S)).2 (fun h9 => absurd hend h9) (fun h9 => absurd hend h9) (fun h9 => absurd hend h9)) (if_pos hend)
set_option maxRecDepth 100000 in
theorem w_K111_9_2_S_8_5 (x1 x2 : Int32) (i0 : Nat) (S : zS) : K111_9_2_S x1 x2 i0 S 8 5 = S 8 5 := zfold_keep (f := (k111_9_2 x1 x2 )) (fun (b : zS) => b 8 5) ((fun j b => by unfold k111_9_2; exact (show (z_up b 59 j 0) 8 5 = b 8 5 from (zupci rfl)))) _ _
set_option maxRecDepth 100000 in
theorem w_K111_9_2_S_8_6 (x1 x2 : Int32) (i0 : Nat) (S : zS) : K111_9_2_S x1 x2 i0 S 8 6 = S 8 6 := zfold_keep (f := (k111_9_2 x1 x2 )) (fun (b : zS) => b 8 6) ((fun j b => by unfold k111_9_2; exact (show (z_up b 59 j 0) 8 6 = b 8 6 from (zupci rfl)))) _ _
def G18 (a b : Int32) (S : zS) : zS := (z_up (K18_11_S a b ((K111_9_2_S a b a.toNatClampNeg S) 8 6) ((K111_9_2_S a b a.toNatClampNeg S) 8 6).toNatClampNeg (K111_9_2_S a b a.toNatClampNeg S)) 8 5 (K18_11_c3 a b ((K111_9_2_S a b a.toNatClampNeg S) 8 6) ((K111_9_2_S a b a.toNatClampNeg S) 8 6).toNatClampNeg (K111_9_2_S a b a.toNatClampNeg S)))
set_option maxRecDepth 100000 in
theorem f18 {L : Nat} (a b : Int32) (S : zS) (g0 : zn 216 b) (g1 : zn 10000 a) (g2 : zn 512 (S 8 5)) (g3 : zn 2048 (S 8 6)) (g4 : zn 10000 (S 8 6)) : zf L 18 [.inr (.inr 8), .inl a, .inl b] S (.inl none, (G18 a b S), 0) := zf_of (en_18 _ _ _) (zr_2_0 i18_0 (zr_6r i18_1 fl_8_0 (zr_1_1 i18_2 (zr_1_2 i18_3 (zr_cn (zs_21_2 i18_4 na_111 ob_9 rfl) (f111_9 a b S (g0) (g1)) (zr_2_0 i18_5 (zr_6 i18_6 fl_8_6 rfl (zr_3_3 i18_7 (zr_2_0 i18_8 (zr_6 i18_9 fl_8_6 rfl (zr_3_4 i18_10 (zt_trans (zk_cg (P := fun v9 => zt L 18 11 [some (.inr (.inr 8)), some (.inl a), some (.inl b), some (.inl ((K111_9_2_S a b a.toNatClampNeg S) 8 6)), some (.inl v9)] [] (K111_9_2_S a b a.toNatClampNeg S) (.inl (34, [some (.inr (.inr 8)), some (.inl a), some (.inl b), some (.inl (K18_11_c3 a b ((K111_9_2_S a b a.toNatClampNeg S) 8 6) ((K111_9_2_S a b a.toNatClampNeg S) 8 6).toNatClampNeg (K111_9_2_S a b a.toNatClampNeg S))), some (.inl (Int32.ofNat (((K111_9_2_S a b a.toNatClampNeg S) 8 6).toNatClampNeg + (((K111_9_2_S a b a.toNatClampNeg S) 8 5).toNatClampNeg - ((K111_9_2_S a b a.toNatClampNeg S) 8 6).toNatClampNeg))))], [], (K18_11_S a b ((K111_9_2_S a b a.toNatClampNeg S) 8 6) ((K111_9_2_S a b a.toNatClampNeg S) 8 6).toNatClampNeg (K111_9_2_S a b a.toNatClampNeg S))))) ((znv (w_K111_9_2_S_8_6 _ _ _ _) (g4))).1 (L18_11 a b ((K111_9_2_S a b a.toNatClampNeg S) 8 6) ((K111_9_2_S a b a.toNatClampNeg S) 8 6).toNatClampNeg (K111_9_2_S a b a.toNatClampNeg S) (zn_cl (znv (w_K111_9_2_S_8_6 _ _ _ _) (g4))) (znv (w_K111_9_2_S_8_5 _ _ _ _) (g2)) (zn_self (znv (w_K111_9_2_S_8_6 _ _ _ _) (g3))))) (zr_2_0 i18_34 (zr_1_3 i18_35 (zr_7 i18_36 fl_8_5 (zr_27 i18_37))))))))))))))))
set_option maxRecDepth 100000 in
theorem s35_2 {L : Nat} (x1 x2 x3 : Int32) (S : zS) (g0 : (¬ ((S 10 4) ≤ x3)) → zx 20 x3) : zt L 35 2 [some (.inr (.inr 10)), some (.inl x1), some (.inl x2), some (.inl x3)] [] S (if ((S 10 4) ≤ x3) then (.inl (23, [some (.inr (.inr 10)), some (.inl x1), some (.inl x2), some (.inl x3)], [], S)) else (.inl (2, [some (.inr (.inr 10)), some (.inl x1), some (.inl x2), some (.inl (x3 + 1))], [], (if ((S 67 x3.toNatClampNeg) < x1) then S else (if (x2 ≤ (S 67 x3.toNatClampNeg)) then S else (z_up S 71 x3.toNatClampNeg 1)))))) := zr_1_3 i35_2 (zr_2_0 i35_3 (zr_6 i35_4 fl_10_4 rfl (zr_19_3 i35_5 (fun h519 => zt_rfl) (fun h520 => zr_2_0 i35_6 (zr_6r i35_7 fl_10_6 (zr_1_3 i35_8 (zr_8 i35_9 ar_67 (g0 h520) rfl rfl (zr_1_1 i35_10 (zt_trans (zt_cast (zr_19_2 i35_11 (fun h521 => zt_rfl) (fun h522 => zr_2_0 i35_12 (zr_6r i35_13 fl_10_6 (zr_1_3 i35_14 (zr_8 i35_15 ar_67 (g0 h520) rfl rfl (zr_1_2 i35_16 (zt_cast (zr_19_3 i35_17 (fun h523 => zt_rfl) (fun h524 => zr_2_0 i35_18 (zr_1_3 i35_19 (zr_cn (zs_21_1 i35_20 na_34 ob_10 rfl) (f34 x3 S (g0 h520)) (zt_rfl))))) (zm_c zz_s zz_s zz_e)))))))) (zm_c zz_s zz_s zz_e)) (zr_5_3 i35_21 kc_1 (zr_17 i35_22 (zt_rfl))))))))))))
def k35_2 (x1 x2 : Int32) (j : Nat) (a : zS) : zS := (if ((a 67 j) < x1) then a else (if (x2 ≤ (a 67 j)) then a else (z_up a 71 j 1)))
set_option maxRecDepth 100000 in
theorem l35_2 {L : Nat} (x1 x2 : Int32) (i0 n : Nat) (a : zS) (hn : i0 + n < 2147483648) (hc0 : ∀ j, j < n → ¬ (((zfold (k35_2 x1 x2 ) i0 j a) 10 4) ≤ (Int32.ofNat (i0 + j)))) (g0 : ∀ j, j < n → (¬ (((zfold (k35_2 x1 x2 ) i0 j a) 10 4) ≤ (Int32.ofNat (i0 + j)))) → zx 20 (Int32.ofNat (i0 + j))) : zt L 35 2 [some (.inr (.inr 10)), some (.inl x1), some (.inl x2), some (.inl (Int32.ofNat i0))] [] a (.inl (2, [some (.inr (.inr 10)), some (.inl x1), some (.inl x2), some (.inl (Int32.ofNat (i0 + n)))], [], (zfold (k35_2 x1 x2 ) i0 n a))) := by
  induction n with
  | zero => exact zt_rfl
  | succ n ih =>
    have e1 := zk_ix (i0 + n) (by omega)
    have e2 := zk_add (i0 + n)
    refine zt_trans (ih (by omega) (fun j hj => hc0 j (by omega)) (fun j hj => g0 j (by omega))) ?_
    refine zt_cast (s35_2 x1 x2 (Int32.ofNat (i0 + n)) (zfold (k35_2 x1 x2 ) i0 n a) (by have hg := g0 n (by omega); first | exact hg | (simp only [e1]; exact hg))) ?_
    rw [if_neg (show ¬ (((zfold (k35_2 x1 x2 ) i0 n a) 10 4) ≤ (Int32.ofNat (i0 + n))) from (by have hg := hc0 n (by omega); first | exact hg | (simp only [e1]; exact hg)))]
    simp only [zfold, k35_2, e1, e2, ← Nat.add_assoc]
def K35_2 (x1 x2 : Int32) (i0 : Nat) (S : zS) : zS := zfold (k35_2 x1 x2 ) i0 ((S 10 4).toNatClampNeg - i0) S
def K35_2_S (x1 x2 : Int32) (i0 : Nat) (S : zS) : zS := (K35_2 x1 x2 i0 S)
set_option maxRecDepth 100000 in
theorem L35_2 {L : Nat} (x1 x2 : Int32) (i0 : Nat) (S : zS) (hi : i0 ≤ 10000) (h0 : zn 20 (S 10 4)) : zt L 35 2 [some (.inr (.inr 10)), some (.inl x1), some (.inl x2), some (.inl (Int32.ofNat i0))] [] S (.inl (23, [some (.inr (.inr 10)), some (.inl x1), some (.inl x2), some (.inl (Int32.ofNat (i0 + ((S 10 4).toNatClampNeg - i0))))], [], (K35_2_S x1 x2 i0 S))) := by
  have hk10_4 : ∀ n, (zfold (k35_2 x1 x2 ) i0 n S) 10 4 = S 10 4 := fun n => zfold_keep (f := (k35_2 x1 x2 )) (fun (b : zS) => b 10 4) (fun j b => by unfold k35_2; exact (show (if ((b 67 j) < x1) then b else (if (x2 ≤ (b 67 j)) then b else (z_up b 71 j 1))) 10 4 = b 10 4 from (zite_rd rfl (zite_rd rfl (zupci rfl))))) n S
  have hend : (zfold (k35_2 x1 x2 ) i0 ((S 10 4).toNatClampNeg - i0) S) 10 4 ≤ Int32.ofNat (i0 + ((S 10 4).toNatClampNeg - i0)) := by rw [hk10_4]; exact zc_le_end h0 (by omega)
  refine zt_trans (l35_2 x1 x2   i0 ((S 10 4).toNatClampNeg - i0) S (by have := zn_cl h0; omega) (fun j hj => by rw [hk10_4]; exact zc_le h0 hj (by omega)) (fun j hj _ => by exact zx_of (by have := zn_cl h0; omega) (by have := zn_cl h0; omega))) ?_
  exact zt_cast (s35_2 x1 x2 (Int32.ofNat (i0 + ((S 10 4).toNatClampNeg - i0))) (zfold (k35_2 x1 x2 ) i0 ((S 10 4).toNatClampNeg - i0) S) (fun h9 => absurd hend h9)) (if_pos hend)
set_option maxRecDepth 100000 in
theorem f35 {L : Nat} (a b : Int32) (S : zS) (g0 : zn 20 (S 10 4)) : zf L 35 [.inr (.inr 10), .inl a, .inl b] S (.inl none, (K35_2_S a b 0 S), 0) := zf_of (en_35 _ _ _) (zr_0 i35_0 kc_0 (zr_3_3 i35_1 (zt_trans (L35_2 a b 0 S (by decide) (g0)) (zr_27 i35_23))))
set_option maxRecDepth 100000 in
theorem s53_4 {L : Nat} (x1 x2 x3 x4 x5 : Int32) (S : zS) (g0 : (¬ ((S 6 0) ≤ x5)) → zx 40 x5) (g1 : (¬ ((S 6 0) ≤ x5)) → ((S 46 x5.toNatClampNeg) = 0) → (¬ ((S 42 x5.toNatClampNeg) < x1)) → (¬ (x2 ≤ (S 42 x5.toNatClampNeg))) → zx 3 (S 43 x5.toNatClampNeg)) : zt L 53 4 [some (.inr (.inr 6)), some (.inl x1), some (.inl x2), some (.inl x3), some (.inl x4), some (.inl x5)] [] S (if ((S 6 0) ≤ x5) then (.inl (32, [some (.inr (.inr 6)), some (.inl x1), some (.inl x2), some (.inl x3), some (.inl x4), some (.inl x5)], [], S)) else (.inl (4, [some (.inr (.inr 6)), some (.inl x1), some (.inl x2), some (.inl x3), some (.inl (if ((S 46 x5.toNatClampNeg) = 0) then ((if ((S 42 x5.toNatClampNeg) < x1) then (x4 : Int32) else (if (x2 ≤ (S 42 x5.toNatClampNeg)) then (x4 : Int32) else (x4 + 1))) : Int32) else x4)), some (.inl (x5 + 1))], [], (if ((S 46 x5.toNatClampNeg) = 0) then (if ((S 42 x5.toNatClampNeg) < x1) then S else (if (x2 ≤ (S 42 x5.toNatClampNeg)) then S else (G60 x5 (z_up S 44 x5.toNatClampNeg x3)))) else S)))) := zr_1_5 i53_4 (zr_2_0 i53_5 (zr_6 i53_6 fl_6_0 rfl (zr_19_3 i53_7 (fun h541 => zt_rfl) (fun h542 => zr_2_0 i53_8 (zr_6r i53_9 fl_6_6 (zr_1_5 i53_10 (zr_8 i53_11 ar_46 (g0 h542) rfl rfl (zt_trans (zt_cast (zr_18_1 i53_12 (fun h543 => zr_2_0 i53_13 (zr_6r i53_14 fl_6_2 (zr_1_5 i53_15 (zr_8 i53_16 ar_42 (g0 h542) rfl rfl (zr_1_1 i53_17 (zt_cast (zr_19_2 i53_18 (fun h545 => zt_rfl) (fun h546 => zr_2_0 i53_19 (zr_6r i53_20 fl_6_2 (zr_1_5 i53_21 (zr_8 i53_22 ar_42 (g0 h542) rfl rfl (zr_1_2 i53_23 (zt_cast (zr_19_3 i53_24 (fun h547 => zt_rfl) (fun h548 => zr_2_0 i53_25 (zr_1_5 i53_26 (zr_1_3 i53_27 (zr_cn (zs_21_2 i53_28 na_59 ob_6 rfl) (f59 x5 x3 S (g0 h542) (g1 h542 h543 h546 h548)) (zr_5_4 i53_29 kc_1 (zt_rfl))))))) (zm_c (zl_c zz_s (zl_c zz_s (zl_c zz_s (zl_c zz_s (zl_c (zl_v zz_e) zz_s))))) zz_s zz_e)))))))) (zm_c (zl_c zz_s (zl_c zz_s (zl_c zz_s (zl_c zz_s (zl_c (zl_v zz_e) zz_s))))) zz_s zz_e))))))) (fun h544 => zt_rfl)) (zm_c (zl_c zz_s (zl_c zz_s (zl_c zz_s (zl_c zz_s (zl_c (zl_v zz_e) zz_s))))) zz_s zz_e)) (zr_5_5 i53_30 kc_1 (zr_17 i53_31 (zt_rfl)))))))))))
def k53_4 (x1 x2 x3 : Int32) (j : Nat) (a : Int32 × zS) : Int32 × zS := ((if ((a.2 46 j) = 0) then ((if ((a.2 42 j) < x1) then (a.1 : Int32) else (if (x2 ≤ (a.2 42 j)) then (a.1 : Int32) else (a.1 + 1))) : Int32) else a.1), (if ((a.2 46 j) = 0) then (if ((a.2 42 j) < x1) then a.2 else (if (x2 ≤ (a.2 42 j)) then a.2 else (G60 (Int32.ofNat j) (z_up a.2 44 j x3)))) else a.2))
set_option maxRecDepth 100000 in
theorem l53_4 {L : Nat} (x1 x2 x3 : Int32) (i0 n : Nat) (a : Int32 × zS) (hn : i0 + n < 2147483648) (hc0 : ∀ j, j < n → ¬ (((zfold (k53_4 x1 x2 x3 ) i0 j a).2 6 0) ≤ (Int32.ofNat (i0 + j)))) (g0 : ∀ j, j < n → (¬ (((zfold (k53_4 x1 x2 x3 ) i0 j a).2 6 0) ≤ (Int32.ofNat (i0 + j)))) → zx 40 (Int32.ofNat (i0 + j))) (g1 : ∀ j, j < n → (¬ (((zfold (k53_4 x1 x2 x3 ) i0 j a).2 6 0) ≤ (Int32.ofNat (i0 + j)))) → (((zfold (k53_4 x1 x2 x3 ) i0 j a).2 46 (i0 + j)) = 0) → (¬ (((zfold (k53_4 x1 x2 x3 ) i0 j a).2 42 (i0 + j)) < x1)) → (¬ (x2 ≤ ((zfold (k53_4 x1 x2 x3 ) i0 j a).2 42 (i0 + j)))) → zx 3 ((zfold (k53_4 x1 x2 x3 ) i0 j a).2 43 (i0 + j))) : zt L 53 4 [some (.inr (.inr 6)), some (.inl x1), some (.inl x2), some (.inl x3), some (.inl a.1), some (.inl (Int32.ofNat i0))] [] a.2 (.inl (4, [some (.inr (.inr 6)), some (.inl x1), some (.inl x2), some (.inl x3), some (.inl (zfold (k53_4 x1 x2 x3 ) i0 n a).1), some (.inl (Int32.ofNat (i0 + n)))], [], (zfold (k53_4 x1 x2 x3 ) i0 n a).2)) := by
  induction n with
  | zero => exact zt_rfl
  | succ n ih =>
    have e1 := zk_ix (i0 + n) (by omega)
    have e2 := zk_add (i0 + n)
    refine zt_trans (ih (by omega) (fun j hj => hc0 j (by omega)) (fun j hj => g0 j (by omega)) (fun j hj => g1 j (by omega))) ?_
    refine zt_cast (s53_4 x1 x2 x3 (zfold (k53_4 x1 x2 x3 ) i0 n a).1 (Int32.ofNat (i0 + n)) (zfold (k53_4 x1 x2 x3 ) i0 n a).2 (by have hg := g0 n (by omega); first | exact hg | (simp only [e1]; exact hg)) (by have hg := g1 n (by omega); first | exact hg | (simp only [e1]; exact hg))) ?_
    rw [if_neg (show ¬ (((zfold (k53_4 x1 x2 x3 ) i0 n a).2 6 0) ≤ (Int32.ofNat (i0 + n))) from (by have hg := hc0 n (by omega); first | exact hg | (simp only [e1]; exact hg)))]
    simp only [zfold, k53_4, e1, e2, ← Nat.add_assoc]
set_option maxRecDepth 100000 in
theorem w_G60_43 (a : Int32) (S : zS) : G60 a S 43 = S 43 := (show (if ((S 48 (S 43 a.toNatClampNeg).toNatClampNeg) = 1) then (z_up (z_up S 47 a.toNatClampNeg ((S 47 a.toNatClampNeg) + 1)) 46 a.toNatClampNeg (if (3 ≤ ((S 47 a.toNatClampNeg) + 1)) then (3 : Int32) else 1)) else (z_up (z_up (z_up S 47 a.toNatClampNeg ((S 47 a.toNatClampNeg) + 1)) 49 (S 43 a.toNatClampNeg).toNatClampNeg ((S 49 (S 43 a.toNatClampNeg).toNatClampNeg) - 1)) 46 a.toNatClampNeg 2)) 43 = S 43 from (zite_k ((zupc rfl).trans (zupc rfl)) ((zupc rfl).trans ((zupc rfl).trans (zupc rfl)))))
set_option maxRecDepth 100000 in
theorem w_G60_6_0 (a : Int32) (S : zS) : G60 a S 6 0 = S 6 0 := (show (if ((S 48 (S 43 a.toNatClampNeg).toNatClampNeg) = 1) then (z_up (z_up S 47 a.toNatClampNeg ((S 47 a.toNatClampNeg) + 1)) 46 a.toNatClampNeg (if (3 ≤ ((S 47 a.toNatClampNeg) + 1)) then (3 : Int32) else 1)) else (z_up (z_up (z_up S 47 a.toNatClampNeg ((S 47 a.toNatClampNeg) + 1)) 49 (S 43 a.toNatClampNeg).toNatClampNeg ((S 49 (S 43 a.toNatClampNeg).toNatClampNeg) - 1)) 46 a.toNatClampNeg 2)) 6 0 = S 6 0 from (zite_rd ((zupci rfl).trans (zupci rfl)) ((zupci rfl).trans ((zupci rfl).trans (zupci rfl)))))
def K53_4 (x1 x2 x3 x4 : Int32) (i0 : Nat) (S : zS) : Int32 × zS := zfold (k53_4 x1 x2 x3 ) i0 ((S 6 0).toNatClampNeg - i0) (x4, S)
def K53_4_c4 (x1 x2 x3 x4 : Int32) (i0 : Nat) (S : zS) : Int32 := (K53_4 x1 x2 x3 x4 i0 S).1
def K53_4_S (x1 x2 x3 x4 : Int32) (i0 : Nat) (S : zS) : zS := (K53_4 x1 x2 x3 x4 i0 S).2
set_option maxRecDepth 100000 in
theorem L53_4 {L : Nat} (x1 x2 x3 x4 : Int32) (i0 : Nat) (S : zS) (hi : i0 ≤ 10000) (h0 : zn 40 (S 6 0)) (hA1 : zA 40 3 (S 43)) : zt L 53 4 [some (.inr (.inr 6)), some (.inl x1), some (.inl x2), some (.inl x3), some (.inl x4), some (.inl (Int32.ofNat i0))] [] S (.inl (32, [some (.inr (.inr 6)), some (.inl x1), some (.inl x2), some (.inl x3), some (.inl (K53_4_c4 x1 x2 x3 x4 i0 S)), some (.inl (Int32.ofNat (i0 + ((S 6 0).toNatClampNeg - i0))))], [], (K53_4_S x1 x2 x3 x4 i0 S))) := by
  have hk43 : ∀ n, (zfold (k53_4 x1 x2 x3 ) i0 n (x4, S)).2 43 = S 43 := fun n => zfold_keep (f := (k53_4 x1 x2 x3 )) (fun (b : Int32 × zS) => b.2 43) (fun j b => by unfold k53_4; exact (show (if ((b.2 46 j) = 0) then (if ((b.2 42 j) < x1) then b.2 else (if (x2 ≤ (b.2 42 j)) then b.2 else (G60 (Int32.ofNat j) (z_up b.2 44 j x3)))) else b.2) 43 = b.2 43 from (zite_k (zite_k rfl (zite_k rfl ((w_G60_43 _ _).trans (zupc rfl)))) rfl))) n (x4, S)
  have hk6_0 : ∀ n, (zfold (k53_4 x1 x2 x3 ) i0 n (x4, S)).2 6 0 = S 6 0 := fun n => zfold_keep (f := (k53_4 x1 x2 x3 )) (fun (b : Int32 × zS) => b.2 6 0) (fun j b => by unfold k53_4; exact (show (if ((b.2 46 j) = 0) then (if ((b.2 42 j) < x1) then b.2 else (if (x2 ≤ (b.2 42 j)) then b.2 else (G60 (Int32.ofNat j) (z_up b.2 44 j x3)))) else b.2) 6 0 = b.2 6 0 from (zite_rd (zite_rd rfl (zite_rd rfl ((w_G60_6_0 _ _).trans (zupci rfl)))) rfl))) n (x4, S)
  have hend : (zfold (k53_4 x1 x2 x3 ) i0 ((S 6 0).toNatClampNeg - i0) (x4, S)).2 6 0 ≤ Int32.ofNat (i0 + ((S 6 0).toNatClampNeg - i0)) := by rw [hk6_0]; exact zc_le_end h0 (by omega)
  refine zt_trans (l53_4 x1 x2 x3   i0 ((S 6 0).toNatClampNeg - i0) (x4, S) (by have := zn_cl h0; omega) (fun j hj => by rw [hk6_0]; exact zc_le h0 hj (by omega)) (fun j hj _ => by exact zx_of (by have := zn_cl h0; omega) (by have := zn_cl h0; omega)) (fun j hj _ _ _ _ => by rw [hk43 j]; have := zn_cl h0; exact hA1 _ (by omega))) ?_
  exact zt_cast (s53_4 x1 x2 x3 (zfold (k53_4 x1 x2 x3 ) i0 ((S 6 0).toNatClampNeg - i0) (x4, S)).1 (Int32.ofNat (i0 + ((S 6 0).toNatClampNeg - i0))) (zfold (k53_4 x1 x2 x3 ) i0 ((S 6 0).toNatClampNeg - i0) (x4, S)).2 (fun h9 => absurd hend h9) (fun h9 => absurd hend h9)) (if_pos hend)
set_option maxRecDepth 100000 in
theorem f53 {L : Nat} (a b c : Int32) (S : zS) (g0 : zn 40 (S 6 0)) (g1 : zA 40 3 (S 43)) : zf L 53 [.inr (.inr 6), .inl a, .inl b, .inl c] S (.inl (some (.inl (K53_4_c4 a b c 0 0 S))), (K53_4_S a b c 0 0 S), 0) := zf_of (en_53 _ _ _ _) (zr_0 i53_0 kc_0 (zr_3_4 i53_1 (zr_0 i53_2 kc_0 (zr_3_5 i53_3 (zt_trans (L53_4 a b c 0 0 S (by decide) (g0) (g1)) (zr_1_4 i53_32 (zr_25 i53_33)))))))
set_option maxRecDepth 100000 in
theorem s54_6_5_2 {L : Nat} (x2 x3 : Int32) (S : zS) (g0 : (¬ ((S 6 0) ≤ x3)) → zx 40 x3) (g1 : (¬ ((S 6 0) ≤ x3)) → ((S 46 x3.toNatClampNeg) = 0) → zx 40 (S 41 x3.toNatClampNeg)) (g2 : (¬ ((S 6 0) ≤ x3)) → ((S 46 x3.toNatClampNeg) = 0) → (¬ ((S 40 (S 41 x3.toNatClampNeg).toNatClampNeg) = 0)) → zx 3 (S 43 x3.toNatClampNeg)) : zt L 54 2 [some (.inr (.inr 6)), some (.inr (.inr 5)), some (.inl x2), some (.inl x3)] [] S (if ((S 6 0) ≤ x3) then (.inl (24, [some (.inr (.inr 6)), some (.inr (.inr 5)), some (.inl x2), some (.inl x3)], [], S)) else (.inl (2, [some (.inr (.inr 6)), some (.inr (.inr 5)), some (.inl x2), some (.inl (x3 + 1))], [], (if ((S 46 x3.toNatClampNeg) = 0) then (if ((S 40 (S 41 x3.toNatClampNeg).toNatClampNeg) = 0) then S else (G60 x3 (z_up S 44 x3.toNatClampNeg x2))) else S)))) := zr_1_3 i54_2 (zr_2_0 i54_3 (zr_6 i54_4 fl_6_0 rfl (zr_19_3 i54_5 (fun h561 => zt_rfl) (fun h562 => zr_2_0 i54_6 (zr_6r i54_7 fl_6_6 (zr_1_3 i54_8 (zr_8 i54_9 ar_46 (g0 h562) rfl rfl (zt_trans (zt_cast (zr_18_1 i54_10 (fun h563 => zr_2_1 i54_11 (zr_2_0 i54_12 (zr_6r i54_13 fl_6_1 (zr_1_3 i54_14 (zr_8 i54_15 ar_41 (g0 h562) rfl rfl (zr_cv (zs_21_1 i54_16 na_116 ob_5 rfl) (f116 (S 41 x3.toNatClampNeg) S (g1 h562 h563)) (zt_cast (zr_18b_1 i54_17 (fun h565 => zt_rfl) (fun h566 => zr_2_0 i54_18 (zr_1_3 i54_19 (zr_1_2 i54_20 (zr_cn (zs_21_2 i54_21 na_59 ob_6 rfl) (f59 x3 x2 S (g0 h562) (g2 h562 h563 h566)) (zt_rfl)))))) (zm_c zz_s zz_s zz_e)))))))) (fun h564 => zt_rfl)) (zm_c zz_s zz_s zz_e)) (zr_5_3 i54_22 kc_1 (zr_17 i54_23 (zt_rfl)))))))))))
def k54_6_5_2 (x2 : Int32) (j : Nat) (a : zS) : zS := (if ((a 46 j) = 0) then (if ((a 40 (a 41 j).toNatClampNeg) = 0) then a else (G60 (Int32.ofNat j) (z_up a 44 j x2))) else a)
set_option maxRecDepth 100000 in
theorem l54_6_5_2 {L : Nat} (x2 : Int32) (i0 n : Nat) (a : zS) (hn : i0 + n < 2147483648) (hc0 : ∀ j, j < n → ¬ (((zfold (k54_6_5_2 x2 ) i0 j a) 6 0) ≤ (Int32.ofNat (i0 + j)))) (g0 : ∀ j, j < n → (¬ (((zfold (k54_6_5_2 x2 ) i0 j a) 6 0) ≤ (Int32.ofNat (i0 + j)))) → zx 40 (Int32.ofNat (i0 + j))) (g1 : ∀ j, j < n → (¬ (((zfold (k54_6_5_2 x2 ) i0 j a) 6 0) ≤ (Int32.ofNat (i0 + j)))) → (((zfold (k54_6_5_2 x2 ) i0 j a) 46 (i0 + j)) = 0) → zx 40 ((zfold (k54_6_5_2 x2 ) i0 j a) 41 (i0 + j))) (g2 : ∀ j, j < n → (¬ (((zfold (k54_6_5_2 x2 ) i0 j a) 6 0) ≤ (Int32.ofNat (i0 + j)))) → (((zfold (k54_6_5_2 x2 ) i0 j a) 46 (i0 + j)) = 0) → (¬ (((zfold (k54_6_5_2 x2 ) i0 j a) 40 ((zfold (k54_6_5_2 x2 ) i0 j a) 41 (i0 + j)).toNatClampNeg) = 0)) → zx 3 ((zfold (k54_6_5_2 x2 ) i0 j a) 43 (i0 + j))) : zt L 54 2 [some (.inr (.inr 6)), some (.inr (.inr 5)), some (.inl x2), some (.inl (Int32.ofNat i0))] [] a (.inl (2, [some (.inr (.inr 6)), some (.inr (.inr 5)), some (.inl x2), some (.inl (Int32.ofNat (i0 + n)))], [], (zfold (k54_6_5_2 x2 ) i0 n a))) := by
  induction n with
  | zero => exact zt_rfl
  | succ n ih =>
    have e1 := zk_ix (i0 + n) (by omega)
    have e2 := zk_add (i0 + n)
    refine zt_trans (ih (by omega) (fun j hj => hc0 j (by omega)) (fun j hj => g0 j (by omega)) (fun j hj => g1 j (by omega)) (fun j hj => g2 j (by omega))) ?_
    refine zt_cast (s54_6_5_2 x2 (Int32.ofNat (i0 + n)) (zfold (k54_6_5_2 x2 ) i0 n a) (by have hg := g0 n (by omega); first | exact hg | (simp only [e1]; exact hg)) (by have hg := g1 n (by omega); first | exact hg | (simp only [e1]; exact hg)) (by have hg := g2 n (by omega); first | exact hg | (simp only [e1]; exact hg))) ?_
    rw [if_neg (show ¬ (((zfold (k54_6_5_2 x2 ) i0 n a) 6 0) ≤ (Int32.ofNat (i0 + n))) from (by have hg := hc0 n (by omega); first | exact hg | (simp only [e1]; exact hg)))]
    simp only [zfold, k54_6_5_2, e1, e2, ← Nat.add_assoc]
set_option maxRecDepth 100000 in
theorem w_G60_41 (a : Int32) (S : zS) : G60 a S 41 = S 41 := (show (if ((S 48 (S 43 a.toNatClampNeg).toNatClampNeg) = 1) then (z_up (z_up S 47 a.toNatClampNeg ((S 47 a.toNatClampNeg) + 1)) 46 a.toNatClampNeg (if (3 ≤ ((S 47 a.toNatClampNeg) + 1)) then (3 : Int32) else 1)) else (z_up (z_up (z_up S 47 a.toNatClampNeg ((S 47 a.toNatClampNeg) + 1)) 49 (S 43 a.toNatClampNeg).toNatClampNeg ((S 49 (S 43 a.toNatClampNeg).toNatClampNeg) - 1)) 46 a.toNatClampNeg 2)) 41 = S 41 from (zite_k ((zupc rfl).trans (zupc rfl)) ((zupc rfl).trans ((zupc rfl).trans (zupc rfl)))))
def K54_6_5_2 (x2 : Int32) (i0 : Nat) (S : zS) : zS := zfold (k54_6_5_2 x2 ) i0 ((S 6 0).toNatClampNeg - i0) S
def K54_6_5_2_S (x2 : Int32) (i0 : Nat) (S : zS) : zS := (K54_6_5_2 x2 i0 S)
set_option maxRecDepth 100000 in
theorem L54_6_5_2 {L : Nat} (x2 : Int32) (i0 : Nat) (S : zS) (hi : i0 ≤ 10000) (h0 : zn 40 (S 6 0)) (hA1 : zA 40 40 (S 41)) (hA2 : zA 40 3 (S 43)) : zt L 54 2 [some (.inr (.inr 6)), some (.inr (.inr 5)), some (.inl x2), some (.inl (Int32.ofNat i0))] [] S (.inl (24, [some (.inr (.inr 6)), some (.inr (.inr 5)), some (.inl x2), some (.inl (Int32.ofNat (i0 + ((S 6 0).toNatClampNeg - i0))))], [], (K54_6_5_2_S x2 i0 S))) := by
  have hk41 : ∀ n, (zfold (k54_6_5_2 x2 ) i0 n S) 41 = S 41 := fun n => zfold_keep (f := (k54_6_5_2 x2 )) (fun (b : zS) => b 41) (fun j b => by unfold k54_6_5_2; exact (show (if ((b 46 j) = 0) then (if ((b 40 (b 41 j).toNatClampNeg) = 0) then b else (G60 (Int32.ofNat j) (z_up b 44 j x2))) else b) 41 = b 41 from (zite_k (zite_k rfl ((w_G60_41 _ _).trans (zupc rfl))) rfl))) n S
  have hk43 : ∀ n, (zfold (k54_6_5_2 x2 ) i0 n S) 43 = S 43 := fun n => zfold_keep (f := (k54_6_5_2 x2 )) (fun (b : zS) => b 43) (fun j b => by unfold k54_6_5_2; exact (show (if ((b 46 j) = 0) then (if ((b 40 (b 41 j).toNatClampNeg) = 0) then b else (G60 (Int32.ofNat j) (z_up b 44 j x2))) else b) 43 = b 43 from (zite_k (zite_k rfl ((w_G60_43 _ _).trans (zupc rfl))) rfl))) n S
  have hk6_0 : ∀ n, (zfold (k54_6_5_2 x2 ) i0 n S) 6 0 = S 6 0 := fun n => zfold_keep (f := (k54_6_5_2 x2 )) (fun (b : zS) => b 6 0) (fun j b => by unfold k54_6_5_2; exact (show (if ((b 46 j) = 0) then (if ((b 40 (b 41 j).toNatClampNeg) = 0) then b else (G60 (Int32.ofNat j) (z_up b 44 j x2))) else b) 6 0 = b 6 0 from (zite_rd (zite_rd rfl ((w_G60_6_0 _ _).trans (zupci rfl))) rfl))) n S
  have hend : (zfold (k54_6_5_2 x2 ) i0 ((S 6 0).toNatClampNeg - i0) S) 6 0 ≤ Int32.ofNat (i0 + ((S 6 0).toNatClampNeg - i0)) := by rw [hk6_0]; exact zc_le_end h0 (by omega)
  refine zt_trans (l54_6_5_2 x2   i0 ((S 6 0).toNatClampNeg - i0) S (by have := zn_cl h0; omega) (fun j hj => by rw [hk6_0]; exact zc_le h0 hj (by omega)) (fun j hj _ => by exact zx_of (by have := zn_cl h0; omega) (by have := zn_cl h0; omega)) (fun j hj _ _ => by rw [hk41 j]; have := zn_cl h0; exact hA1 _ (by omega)) (fun j hj _ _ _ => by rw [hk43 j]; have := zn_cl h0; exact hA2 _ (by omega))) ?_
  exact zt_cast (s54_6_5_2 x2 (Int32.ofNat (i0 + ((S 6 0).toNatClampNeg - i0))) (zfold (k54_6_5_2 x2 ) i0 ((S 6 0).toNatClampNeg - i0) S) (fun h9 => absurd hend h9) (fun h9 => absurd hend h9) (fun h9 => absurd hend h9)) (if_pos hend)
set_option maxRecDepth 100000 in
theorem f54_6_5 {L : Nat} (a : Int32) (S : zS) (g0 : zn 40 (S 6 0)) (g1 : zA 40 40 (S 41)) (g2 : zA 40 3 (S 43)) : zf L 54 [.inr (.inr 6), .inr (.inr 5), .inl a] S (.inl none, (K54_6_5_2_S a 0 S), 0) := zf_of (en_54 _ _ _) (zr_0 i54_0 kc_0 (zr_3_3 i54_1 (zt_trans (L54_6_5_2 a 0 S (by decide) (g0) (g1) (g2)) (zr_27 i54_24))))
