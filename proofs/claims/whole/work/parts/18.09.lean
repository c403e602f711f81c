/-! the methods with loops, and what calls them (wip/whole/gen/gen18.py) -/
theorem i264_0 : zi 264 0 1 2 0 0 := by decide +kernel
theorem i264_1 : zi 264 1 2 6 12 56 := by decide +kernel
theorem i264_2 : zi 264 2 3 1 1 0 := by decide +kernel
theorem i264_3 : zi 264 3 4 9 0 0 := by decide +kernel
theorem i264_4 : zi 264 4 5 18 7 0 := by decide +kernel
theorem i264_7 : zi 264 7 8 0 0 1 := by decide +kernel
theorem i264_5 : zi 264 5 6 0 0 0 := by decide +kernel
theorem i264_6 : zi 264 6 7 17 8 0 := by decide +kernel
theorem i264_8 : zi 264 8 9 3 2 0 := by decide +kernel
theorem i264_9 : zi 264 9 10 2 0 0 := by decide +kernel
theorem i264_10 : zi 264 10 11 6 12 56 := by decide +kernel
theorem i264_11 : zi 264 11 12 1 1 0 := by decide +kernel
theorem i264_12 : zi 264 12 13 0 0 1 := by decide +kernel
theorem i264_13 : zi 264 13 14 11 0 0 := by decide +kernel
theorem i264_14 : zi 264 14 15 1 1 0 := by decide +kernel
theorem i264_15 : zi 264 15 16 0 0 1 := by decide +kernel
theorem i264_16 : zi 264 16 17 13 0 0 := by decide +kernel
theorem i264_17 : zi 264 17 18 3 3 0 := by decide +kernel
theorem i264_18 : zi 264 18 19 1 3 0 := by decide +kernel
theorem i264_19 : zi 264 19 20 2 0 0 := by decide +kernel
theorem i264_20 : zi 264 20 21 6 12 45 := by decide +kernel
theorem i264_21 : zi 264 21 22 19 56 3 := by decide +kernel
theorem i264_22 : zi 264 22 23 1 2 0 := by decide +kernel
theorem i264_23 : zi 264 23 24 18 56 5 := by decide +kernel
theorem i264_24 : zi 264 24 25 2 0 0 := by decide +kernel
theorem i264_25 : zi 264 25 26 6 12 56 := by decide +kernel
theorem i264_26 : zi 264 26 27 1 3 0 := by decide +kernel
theorem i264_27 : zi 264 27 28 9 0 0 := by decide +kernel
theorem i264_28 : zi 264 28 29 18 54 1 := by decide +kernel
theorem i264_29 : zi 264 29 30 2 0 0 := by decide +kernel
theorem i264_30 : zi 264 30 31 6 12 47 := by decide +kernel
theorem i264_31 : zi 264 31 32 1 3 0 := by decide +kernel
theorem i264_32 : zi 264 32 33 8 0 0 := by decide +kernel
theorem i264_33 : zi 264 33 34 0 0 (-1) := by decide +kernel
theorem i264_34 : zi 264 34 35 19 54 0 := by decide +kernel
theorem i264_35 : zi 264 35 36 2 0 0 := by decide +kernel
theorem i264_36 : zi 264 36 37 6 12 56 := by decide +kernel
theorem i264_37 : zi 264 37 38 2 0 0 := by decide +kernel
theorem i264_38 : zi 264 38 39 6 12 47 := by decide +kernel
theorem i264_39 : zi 264 39 40 1 3 0 := by decide +kernel
theorem i264_40 : zi 264 40 41 8 0 0 := by decide +kernel
theorem i264_41 : zi 264 41 42 9 0 0 := by decide +kernel
theorem i264_42 : zi 264 42 43 18 54 0 := by decide +kernel
theorem i264_43 : zi 264 43 44 2 0 0 := by decide +kernel
theorem i264_44 : zi 264 44 45 6 12 55 := by decide +kernel
theorem i264_45 : zi 264 45 46 1 3 0 := by decide +kernel
theorem i264_46 : zi 264 46 47 9 0 0 := by decide +kernel
theorem i264_47 : zi 264 47 48 18 54 1 := by decide +kernel
theorem i264_48 : zi 264 48 49 2 0 0 := by decide +kernel
theorem i264_49 : zi 264 49 50 6 12 56 := by decide +kernel
theorem i264_50 : zi 264 50 51 1 3 0 := by decide +kernel
theorem i264_51 : zi 264 51 52 0 0 1 := by decide +kernel
theorem i264_52 : zi 264 52 53 11 0 0 := by decide +kernel
theorem i264_53 : zi 264 53 54 5 2 1 := by decide +kernel
theorem i264_54 : zi 264 54 55 5 3 1 := by decide +kernel
theorem i264_55 : zi 264 55 56 17 18 0 := by decide +kernel
theorem i264_56 : zi 264 56 57 0 0 0 := by decide +kernel
theorem i264_57 : zi 264 57 58 3 3 0 := by decide +kernel
theorem i264_58 : zi 264 58 59 1 3 0 := by decide +kernel
theorem i264_59 : zi 264 59 60 2 0 0 := by decide +kernel
theorem i264_60 : zi 264 60 61 6 12 57 := by decide +kernel
theorem i264_61 : zi 264 61 62 19 82 3 := by decide +kernel
theorem i264_62 : zi 264 62 63 1 2 0 := by decide +kernel
theorem i264_63 : zi 264 63 64 18 82 5 := by decide +kernel
theorem i264_64 : zi 264 64 65 2 0 0 := by decide +kernel
theorem i264_65 : zi 264 65 66 6 12 63 := by decide +kernel
theorem i264_66 : zi 264 66 67 1 3 0 := by decide +kernel
theorem i264_67 : zi 264 67 68 8 0 0 := by decide +kernel
theorem i264_68 : zi 264 68 69 18 80 1 := by decide +kernel
theorem i264_69 : zi 264 69 70 2 0 0 := by decide +kernel
theorem i264_70 : zi 264 70 71 6 12 56 := by decide +kernel
theorem i264_71 : zi 264 71 72 2 0 0 := by decide +kernel
theorem i264_72 : zi 264 72 73 6 12 58 := by decide +kernel
theorem i264_73 : zi 264 73 74 1 3 0 := by decide +kernel
theorem i264_74 : zi 264 74 75 8 0 0 := by decide +kernel
theorem i264_75 : zi 264 75 76 9 0 0 := by decide +kernel
theorem i264_76 : zi 264 76 77 18 80 0 := by decide +kernel
theorem i264_77 : zi 264 77 78 2 0 0 := by decide +kernel
theorem i264_78 : zi 264 78 79 1 3 0 := by decide +kernel
theorem i264_79 : zi 264 79 80 21 270 12 := by decide +kernel
theorem i264_80 : zi 264 80 81 5 3 1 := by decide +kernel
theorem i264_81 : zi 264 81 82 17 58 0 := by decide +kernel
theorem i264_82 : zi 264 82 83 1 2 0 := by decide +kernel
theorem i264_83 : zi 264 83 84 25 0 0 := by decide +kernel
theorem ml_264 : z_ml 264 = 4 := by decide +kernel
theorem en_264 : ∀ (v0 v1 : zV), z_ent 264 [v0, v1] = [some v0, some v1, none, none] := fun v0 v1 => by unfold z_ent; rw [ml_264]; rfl
theorem i265_0 : zi 265 0 1 2 0 0 := by decide +kernel
theorem i265_1 : zi 265 1 2 2 0 0 := by decide +kernel
theorem i265_2 : zi 265 2 3 1 1 0 := by decide +kernel
theorem i265_3 : zi 265 3 4 21 258 12 := by decide +kernel
theorem i265_4 : zi 265 4 5 18 7 0 := by decide +kernel
theorem i265_5 : zi 265 5 6 0 0 0 := by decide +kernel
theorem i265_6 : zi 265 6 7 17 8 0 := by decide +kernel
theorem i265_7 : zi 265 7 8 0 0 1 := by decide +kernel
theorem i265_8 : zi 265 8 9 21 212 12 := by decide +kernel
theorem i265_9 : zi 265 9 10 18 14 0 := by decide +kernel
theorem i265_10 : zi 265 10 11 2 0 0 := by decide +kernel
theorem i265_11 : zi 265 11 12 1 1 0 := by decide +kernel
theorem i265_12 : zi 265 12 13 21 264 12 := by decide +kernel
theorem na_264 : z_na 264 = 1 := by decide +kernel
theorem i265_13 : zi 265 13 14 17 15 0 := by decide +kernel
theorem i265_14 : zi 265 14 15 0 0 0 := by decide +kernel
theorem i265_15 : zi 265 15 16 25 0 0 := by decide +kernel
theorem ml_265 : z_ml 265 = 2 := by decide +kernel
theorem en_265 : ∀ (v0 v1 : zV), z_ent 265 [v0, v1] = [some v0, some v1] := fun v0 v1 => by unfold z_ent; rw [ml_265]; rfl
theorem i268_0 : zi 268 0 1 2 0 0 := by decide +kernel
theorem i268_1 : zi 268 1 2 2 0 0 := by decide +kernel
theorem i268_2 : zi 268 2 3 1 1 0 := by decide +kernel
theorem i268_3 : zi 268 3 4 21 258 12 := by decide +kernel
theorem i268_4 : zi 268 4 5 18 7 1 := by decide +kernel
theorem i268_7 : zi 268 7 8 1 2 0 := by decide +kernel
theorem i268_8 : zi 268 8 9 0 0 0 := by decide +kernel
theorem i268_9 : zi 268 9 10 0 0 215 := by decide +kernel
theorem i268_10 : zi 268 10 11 22 213 0 := by decide +kernel
theorem i268_11 : zi 268 11 12 18 14 0 := by decide +kernel
theorem i268_12 : zi 268 12 13 0 0 0 := by decide +kernel
theorem i268_13 : zi 268 13 14 17 15 0 := by decide +kernel
theorem i268_14 : zi 268 14 15 0 0 2 := by decide +kernel
theorem i268_5 : zi 268 5 6 0 0 1 := by decide +kernel
theorem i268_6 : zi 268 6 7 17 15 0 := by decide +kernel
theorem i268_15 : zi 268 15 16 21 212 12 := by decide +kernel
theorem i268_16 : zi 268 16 17 18 22 0 := by decide +kernel
theorem i268_17 : zi 268 17 18 2 0 0 := by decide +kernel
theorem i268_18 : zi 268 18 19 1 1 0 := by decide +kernel
theorem i268_19 : zi 268 19 20 1 2 0 := by decide +kernel
theorem i268_20 : zi 268 20 21 21 257 12 := by decide +kernel
theorem na_257 : z_na 257 = 2 := by decide +kernel
theorem i268_21 : zi 268 21 22 17 23 0 := by decide +kernel
theorem i268_22 : zi 268 22 23 0 0 0 := by decide +kernel
theorem i268_23 : zi 268 23 24 25 0 0 := by decide +kernel
theorem ml_268 : z_ml 268 = 3 := by decide +kernel
theorem en_268 : ∀ (v0 v1 v2 : zV), z_ent 268 [v0, v1, v2] = [some v0, some v1, some v2] := fun v0 v1 v2 => by unfold z_ent; rw [ml_268]; rfl
theorem i276_0 : zi 276 0 1 2 0 0 := by decide +kernel
theorem i276_1 : zi 276 1 2 1 1 0 := by decide +kernel
theorem i276_2 : zi 276 2 3 0 0 0 := by decide +kernel
theorem i276_3 : zi 276 3 4 0 0 5 := by decide +kernel
theorem i276_4 : zi 276 4 5 22 213 0 := by decide +kernel
theorem i276_5 : zi 276 5 6 18 13 0 := by decide +kernel
theorem i276_6 : zi 276 6 7 1 2 0 := by decide +kernel
theorem i276_7 : zi 276 7 8 0 0 (-1) := by decide +kernel
theorem i276_8 : zi 276 8 9 0 0 5 := by decide +kernel
theorem i276_9 : zi 276 9 10 22 213 0 := by decide +kernel
theorem i276_10 : zi 276 10 11 18 13 0 := by decide +kernel
theorem i276_11 : zi 276 11 12 0 0 0 := by decide +kernel
theorem i276_12 : zi 276 12 13 17 14 0 := by decide +kernel
theorem i276_13 : zi 276 13 14 0 0 1 := by decide +kernel
theorem i276_14 : zi 276 14 15 21 212 12 := by decide +kernel
theorem i276_15 : zi 276 15 16 18 18 1 := by decide +kernel
theorem i276_18 : zi 276 18 19 2 0 0 := by decide +kernel
theorem i276_19 : zi 276 19 20 1 1 0 := by decide +kernel
theorem i276_20 : zi 276 20 21 1 2 0 := by decide +kernel
theorem i276_21 : zi 276 21 22 21 271 12 := by decide +kernel
theorem i276_22 : zi 276 22 23 25 0 0 := by decide +kernel
theorem i276_16 : zi 276 16 17 0 0 0 := by decide +kernel
theorem i276_17 : zi 276 17 18 25 0 0 := by decide +kernel
theorem ml_276 : z_ml 276 = 3 := by decide +kernel
theorem en_276 : ∀ (v0 v1 v2 : zV), z_ent 276 [v0, v1, v2] = [some v0, some v1, some v2] := fun v0 v1 v2 => by unfold z_ent; rw [ml_276]; rfl
theorem i281_0 : zi 281 0 1 2 0 0 := by decide +kernel
theorem i281_1 : zi 281 1 2 1 1 0 := by decide +kernel
theorem i281_2 : zi 281 2 3 22 279 0 := by decide +kernel
theorem i281_3 : zi 281 3 4 18 6 0 := by decide +kernel
theorem i281_4 : zi 281 4 5 0 0 0 := by decide +kernel
theorem i281_5 : zi 281 5 6 17 7 0 := by decide +kernel
theorem i281_6 : zi 281 6 7 0 0 1 := by decide +kernel
theorem i281_7 : zi 281 7 8 21 212 12 := by decide +kernel
theorem i281_8 : zi 281 8 9 18 11 1 := by decide +kernel
theorem i281_11 : zi 281 11 12 2 0 0 := by decide +kernel
theorem i281_12 : zi 281 12 13 6 12 67 := by decide +kernel
theorem i281_13 : zi 281 13 14 1 1 0 := by decide +kernel
theorem i281_14 : zi 281 14 15 8 0 0 := by decide +kernel
theorem i281_15 : zi 281 15 16 3 2 0 := by decide +kernel
theorem i281_16 : zi 281 16 17 0 0 0 := by decide +kernel
theorem i281_17 : zi 281 17 18 3 3 0 := by decide +kernel
theorem i281_9 : zi 281 9 10 0 0 0 := by decide +kernel
theorem i281_10 : zi 281 10 11 25 0 0 := by decide +kernel
theorem i281_18 : zi 281 18 19 1 3 0 := by decide +kernel
theorem i281_19 : zi 281 19 20 2 0 0 := by decide +kernel
theorem i281_20 : zi 281 20 21 6 12 57 := by decide +kernel
theorem i281_21 : zi 281 21 22 19 42 3 := by decide +kernel
theorem i281_22 : zi 281 22 23 1 2 0 := by decide +kernel
theorem i281_23 : zi 281 23 24 2 0 0 := by decide +kernel
theorem i281_24 : zi 281 24 25 6 12 60 := by decide +kernel
theorem i281_25 : zi 281 25 26 1 3 0 := by decide +kernel
theorem i281_26 : zi 281 26 27 8 0 0 := by decide +kernel
theorem i281_27 : zi 281 27 28 1 1 0 := by decide +kernel
theorem i281_28 : zi 281 28 29 19 37 1 := by decide +kernel
theorem i281_29 : zi 281 29 30 2 0 0 := by decide +kernel
theorem i281_30 : zi 281 30 31 6 12 63 := by decide +kernel
theorem i281_31 : zi 281 31 32 1 3 0 := by decide +kernel
theorem i281_32 : zi 281 32 33 8 0 0 := by decide +kernel
theorem i281_33 : zi 281 33 34 0 0 2 := by decide +kernel
theorem i281_34 : zi 281 34 35 19 37 0 := by decide +kernel
theorem i281_37 : zi 281 37 38 0 0 0 := by decide +kernel
theorem i281_35 : zi 281 35 36 0 0 1 := by decide +kernel
theorem i281_36 : zi 281 36 37 17 38 0 := by decide +kernel
theorem i281_38 : zi 281 38 39 13 0 0 := by decide +kernel
theorem i281_39 : zi 281 39 40 3 2 0 := by decide +kernel
theorem i281_40 : zi 281 40 41 5 3 1 := by decide +kernel
theorem i281_41 : zi 281 41 42 17 18 0 := by decide +kernel
theorem i281_42 : zi 281 42 43 1 2 0 := by decide +kernel
theorem i281_43 : zi 281 43 44 25 0 0 := by decide +kernel
theorem ml_281 : z_ml 281 = 4 := by decide +kernel
theorem en_281 : ∀ (v0 v1 : zV), z_ent 281 [v0, v1] = [some v0, some v1, none, none] := fun v0 v1 => by unfold z_ent; rw [ml_281]; rfl
theorem i282_0 : zi 282 0 1 0 0 0 := by decide +kernel
theorem i282_1 : zi 282 1 2 3 5 0 := by decide +kernel
theorem i282_2 : zi 282 2 3 0 0 1 := by decide +kernel
theorem i282_3 : zi 282 3 4 3 6 0 := by decide +kernel
theorem i282_4 : zi 282 4 5 0 0 0 := by decide +kernel
theorem i282_5 : zi 282 5 6 3 7 0 := by decide +kernel
theorem i282_6 : zi 282 6 7 1 7 0 := by decide +kernel
theorem i282_7 : zi 282 7 8 0 0 3 := by decide +kernel
theorem i282_8 : zi 282 8 9 19 38 3 := by decide +kernel
theorem i282_9 : zi 282 9 10 1 5 0 := by decide +kernel
theorem i282_10 : zi 282 10 11 18 16 1 := by decide +kernel
theorem i282_11 : zi 282 11 12 2 0 0 := by decide +kernel
theorem i282_12 : zi 282 12 13 6 12 85 := by decide +kernel
theorem i282_13 : zi 282 13 14 1 7 0 := by decide +kernel
theorem i282_14 : zi 282 14 15 9 0 0 := by decide +kernel
theorem i282_15 : zi 282 15 16 18 18 0 := by decide +kernel
theorem i282_18 : zi 282 18 19 0 0 0 := by decide +kernel
theorem i282_16 : zi 282 16 17 0 0 1 := by decide +kernel
theorem i282_17 : zi 282 17 18 17 19 0 := by decide +kernel
theorem i282_19 : zi 282 19 20 3 5 0 := by decide +kernel
theorem i282_20 : zi 282 20 21 1 6 0 := by decide +kernel
theorem i282_21 : zi 282 21 22 18 34 0 := by decide +kernel
theorem i282_34 : zi 282 34 35 0 0 0 := by decide +kernel
theorem i282_22 : zi 282 22 23 2 0 0 := by decide +kernel
theorem i282_23 : zi 282 23 24 6 12 85 := by decide +kernel
theorem i282_24 : zi 282 24 25 1 7 0 := by decide +kernel
theorem i282_25 : zi 282 25 26 9 0 0 := by decide +kernel
theorem i282_26 : zi 282 26 27 18 32 0 := by decide +kernel
theorem i282_32 : zi 282 32 33 0 0 1 := by decide +kernel
theorem i282_33 : zi 282 33 34 17 35 0 := by decide +kernel
theorem i282_27 : zi 282 27 28 2 0 0 := by decide +kernel
theorem i282_28 : zi 282 28 29 6 12 86 := by decide +kernel
theorem i282_29 : zi 282 29 30 1 7 0 := by decide +kernel
theorem i282_30 : zi 282 30 31 9 0 0 := by decide +kernel
theorem i282_31 : zi 282 31 32 18 34 0 := by decide +kernel
theorem i282_35 : zi 282 35 36 3 6 0 := by decide +kernel
theorem i282_36 : zi 282 36 37 5 7 1 := by decide +kernel
theorem i282_37 : zi 282 37 38 17 6 0 := by decide +kernel
theorem i282_38 : zi 282 38 39 2 0 0 := by decide +kernel
theorem i282_39 : zi 282 39 40 6 12 2 := by decide +kernel
theorem i282_40 : zi 282 40 41 18 45 0 := by decide +kernel
theorem i282_45 : zi 282 45 46 2 0 0 := by decide +kernel
theorem i282_46 : zi 282 46 47 6 12 2 := by decide +kernel
theorem i282_47 : zi 282 47 48 18 50 0 := by decide +kernel
theorem i282_50 : zi 282 50 51 0 0 (-2) := by decide +kernel
theorem i282_48 : zi 282 48 49 0 0 (-3) := by decide +kernel
theorem i282_49 : zi 282 49 50 17 51 0 := by decide +kernel
theorem i282_51 : zi 282 51 52 25 0 0 := by decide +kernel
theorem i282_41 : zi 282 41 42 1 5 0 := by decide +kernel
theorem i282_42 : zi 282 42 43 18 52 0 := by decide +kernel
theorem i282_52 : zi 282 52 53 2 0 0 := by decide +kernel
theorem i282_53 : zi 282 53 54 1 1 0 := by decide +kernel
theorem i282_54 : zi 282 54 55 21 259 12 := by decide +kernel
theorem i282_55 : zi 282 55 56 18 65 0 := by decide +kernel
theorem i282_56 : zi 282 56 57 2 0 0 := by decide +kernel
theorem i282_57 : zi 282 57 58 6 12 53 := by decide +kernel
theorem i282_58 : zi 282 58 59 1 1 0 := by decide +kernel
theorem i282_59 : zi 282 59 60 8 0 0 := by decide +kernel
theorem i282_60 : zi 282 60 61 1 2 0 := by decide +kernel
theorem i282_61 : zi 282 61 62 13 9 0 := by decide +kernel
theorem i282_62 : zi 282 62 63 0 0 1 := by decide +kernel
theorem i282_63 : zi 282 63 64 13 5 0 := by decide +kernel
theorem i282_64 : zi 282 64 65 18 67 1 := by decide +kernel
theorem i282_65 : zi 282 65 66 0 0 (-4) := by decide +kernel
theorem i282_66 : zi 282 66 67 25 0 0 := by decide +kernel
theorem i282_67 : zi 282 67 68 2 0 0 := by decide +kernel
theorem i282_68 : zi 282 68 69 6 12 54 := by decide +kernel
theorem i282_69 : zi 282 69 70 1 1 0 := by decide +kernel
theorem i282_70 : zi 282 70 71 15 0 0 := by decide +kernel
theorem i282_71 : zi 282 71 72 8 0 0 := by decide +kernel
theorem i282_72 : zi 282 72 73 2 0 0 := by decide +kernel
theorem i282_73 : zi 282 73 74 6 12 54 := by decide +kernel
theorem i282_74 : zi 282 74 75 1 1 0 := by decide +kernel
theorem i282_75 : zi 282 75 76 8 0 0 := by decide +kernel
theorem i282_76 : zi 282 76 77 0 0 (-1) := by decide +kernel
theorem i282_77 : zi 282 77 78 19 80 1 := by decide +kernel
theorem i282_78 : zi 282 78 79 0 0 0 := by decide +kernel
theorem i282_79 : zi 282 79 80 17 81 0 := by decide +kernel
theorem i282_80 : zi 282 80 81 0 0 1 := by decide +kernel
theorem i282_81 : zi 282 81 82 13 1 0 := by decide +kernel
theorem i282_82 : zi 282 82 83 10 0 0 := by decide +kernel
theorem i282_83 : zi 282 83 84 1 3 0 := by decide +kernel
theorem i282_84 : zi 282 84 85 22 237 0 := by decide +kernel
theorem i282_85 : zi 282 85 86 3 7 0 := by decide +kernel
theorem i282_86 : zi 282 86 87 2 0 0 := by decide +kernel
theorem i282_87 : zi 282 87 88 6 12 22 := by decide +kernel
theorem fl_13_22 : zfl 13 12 22 22 (some 87) := by decide +kernel
theorem i282_88 : zi 282 88 89 1 7 0 := by decide +kernel
theorem i282_89 : zi 282 89 90 8 0 0 := by decide +kernel
theorem ar_87 : zar 87 0 6 := by decide +kernel
theorem i282_90 : zi 282 90 91 2 0 0 := by decide +kernel
theorem i282_91 : zi 282 91 92 6 12 21 := by decide +kernel
theorem i282_92 : zi 282 92 93 1 7 0 := by decide +kernel
theorem i282_93 : zi 282 93 94 8 0 0 := by decide +kernel
theorem i282_94 : zi 282 94 95 19 97 2 := by decide +kernel
theorem i282_97 : zi 282 97 98 2 0 0 := by decide +kernel
theorem i282_98 : zi 282 98 99 6 12 22 := by decide +kernel
theorem i282_99 : zi 282 99 100 1 7 0 := by decide +kernel
theorem i282_100 : zi 282 100 101 15 0 0 := by decide +kernel
theorem i282_101 : zi 282 101 102 8 0 0 := by decide +kernel
theorem i282_102 : zi 282 102 103 0 0 1 := by decide +kernel
theorem i282_103 : zi 282 103 104 13 0 0 := by decide +kernel
theorem i282_104 : zi 282 104 105 10 0 0 := by decide +kernel
theorem i282_105 : zi 282 105 106 2 0 0 := by decide +kernel
theorem i282_106 : zi 282 106 107 1 1 0 := by decide +kernel
theorem i282_107 : zi 282 107 108 1 3 0 := by decide +kernel
theorem i282_108 : zi 282 108 109 21 257 12 := by decide +kernel
theorem i282_109 : zi 282 109 110 1 4 0 := by decide +kernel
theorem i282_110 : zi 282 110 111 13 5 0 := by decide +kernel
theorem i282_111 : zi 282 111 112 18 114 1 := by decide +kernel
theorem i282_112 : zi 282 112 113 0 0 (-6) := by decide +kernel
theorem i282_113 : zi 282 113 114 17 115 0 := by decide +kernel
theorem i282_114 : zi 282 114 115 0 0 0 := by decide +kernel
theorem i282_115 : zi 282 115 116 25 0 0 := by decide +kernel
theorem i282_95 : zi 282 95 96 0 0 (-5) := by decide +kernel
theorem i282_96 : zi 282 96 97 25 0 0 := by decide +kernel
theorem i282_43 : zi 282 43 44 1 6 0 := by decide +kernel
theorem i282_44 : zi 282 44 45 18 52 0 := by decide +kernel
theorem ml_282 : z_ml 282 = 8 := by decide +kernel
theorem en_282 : ∀ (v0 v1 v2 v3 v4 : zV), z_ent 282 [v0, v1, v2, v3, v4] = [some v0, some v1, some v2, some v3, some v4, none, none, none] := fun v0 v1 v2 v3 v4 => by unfold z_ent; rw [ml_282]; rfl
theorem i283_0 : zi 283 0 1 1 4 0 := by decide +kernel
theorem i283_1 : zi 283 1 2 0 0 (-2) := by decide +kernel
theorem i283_2 : zi 283 2 3 19 66 0 := by decide +kernel
theorem i283_3 : zi 283 3 4 1 4 0 := by decide +kernel
theorem i283_4 : zi 283 4 5 0 0 (-3) := by decide +kernel
theorem i283_5 : zi 283 5 6 19 66 0 := by decide +kernel
theorem i283_6 : zi 283 6 7 1 4 0 := by decide +kernel
theorem i283_7 : zi 283 7 8 18 12 3 := by decide +kernel
theorem i283_12 : zi 283 12 13 1 4 0 := by decide +kernel
theorem i283_8 : zi 283 8 9 0 0 60000 := by decide +kernel
theorem i283_9 : zi 283 9 10 1 4 0 := by decide +kernel
theorem i283_10 : zi 283 10 11 13 0 0 := by decide +kernel
theorem i283_11 : zi 283 11 12 17 13 0 := by decide +kernel
theorem i283_13 : zi 283 13 14 3 5 0 := by decide +kernel
theorem i283_14 : zi 283 14 15 0 0 0 := by decide +kernel
theorem i283_15 : zi 283 15 16 3 6 0 := by decide +kernel
theorem i283_66 : zi 283 66 67 2 0 0 := by decide +kernel
theorem i283_67 : zi 283 67 68 1 1 0 := by decide +kernel
theorem i283_68 : zi 283 68 69 21 259 12 := by decide +kernel
theorem i283_69 : zi 283 69 70 18 79 0 := by decide +kernel
theorem i283_70 : zi 283 70 71 2 0 0 := by decide +kernel
theorem i283_71 : zi 283 71 72 6 12 54 := by decide +kernel
theorem i283_72 : zi 283 72 73 1 1 0 := by decide +kernel
theorem i283_73 : zi 283 73 74 8 0 0 := by decide +kernel
theorem i283_74 : zi 283 74 75 18 79 1 := by decide +kernel
theorem i283_75 : zi 283 75 76 2 0 0 := by decide +kernel
theorem i283_76 : zi 283 76 77 1 1 0 := by decide +kernel
theorem i283_77 : zi 283 77 78 21 264 12 := by decide +kernel
theorem i283_78 : zi 283 78 79 3 5 0 := by decide +kernel
theorem i283_79 : zi 283 79 80 1 4 0 := by decide +kernel
theorem i283_80 : zi 283 80 81 25 0 0 := by decide +kernel
theorem i283_16 : zi 283 16 17 1 6 0 := by decide +kernel
theorem i283_17 : zi 283 17 18 0 0 3 := by decide +kernel
theorem i283_18 : zi 283 18 19 19 66 3 := by decide +kernel
theorem i283_19 : zi 283 19 20 2 0 0 := by decide +kernel
theorem i283_20 : zi 283 20 21 6 12 85 := by decide +kernel
theorem i283_21 : zi 283 21 22 1 6 0 := by decide +kernel
theorem i283_22 : zi 283 22 23 9 0 0 := by decide +kernel
theorem i283_23 : zi 283 23 24 18 64 0 := by decide +kernel
theorem i283_24 : zi 283 24 25 2 0 0 := by decide +kernel
theorem i283_25 : zi 283 25 26 6 12 86 := by decide +kernel
theorem i283_26 : zi 283 26 27 1 6 0 := by decide +kernel
theorem i283_27 : zi 283 27 28 9 0 0 := by decide +kernel
theorem i283_28 : zi 283 28 29 18 64 1 := by decide +kernel
theorem i283_29 : zi 283 29 30 2 0 0 := by decide +kernel
theorem i283_30 : zi 283 30 31 6 12 88 := by decide +kernel
theorem i283_31 : zi 283 31 32 1 6 0 := by decide +kernel
theorem i283_32 : zi 283 32 33 0 0 31 := by decide +kernel
theorem i283_33 : zi 283 33 34 2 0 0 := by decide +kernel
theorem i283_34 : zi 283 34 35 6 12 88 := by decide +kernel
theorem i283_35 : zi 283 35 36 1 6 0 := by decide +kernel
theorem i283_36 : zi 283 36 37 8 0 0 := by decide +kernel
theorem i283_37 : zi 283 37 38 13 2 0 := by decide +kernel
theorem i283_38 : zi 283 38 39 0 0 7 := by decide +kernel
theorem i283_39 : zi 283 39 40 2 0 0 := by decide +kernel
theorem i283_40 : zi 283 40 41 1 1 0 := by decide +kernel
theorem i283_41 : zi 283 41 42 21 258 12 := by decide +kernel
theorem i283_42 : zi 283 42 43 18 45 0 := by decide +kernel
theorem i283_43 : zi 283 43 44 1 1 0 := by decide +kernel
theorem i283_44 : zi 283 44 45 17 46 0 := by decide +kernel
theorem i283_45 : zi 283 45 46 0 0 0 := by decide +kernel
theorem i283_46 : zi 283 46 47 13 2 0 := by decide +kernel
theorem i283_47 : zi 283 47 48 13 0 0 := by decide +kernel
theorem i283_48 : zi 283 48 49 1 2 0 := by decide +kernel
theorem i283_49 : zi 283 49 50 13 0 0 := by decide +kernel
theorem i283_50 : zi 283 50 51 0 0 1000 := by decide +kernel
theorem i283_51 : zi 283 51 52 1 3 0 := by decide +kernel
theorem i283_52 : zi 283 52 53 13 2 0 := by decide +kernel
theorem i283_53 : zi 283 53 54 13 0 0 := by decide +kernel
theorem i283_54 : zi 283 54 55 1 5 0 := by decide +kernel
theorem i283_55 : zi 283 55 56 2 0 0 := by decide +kernel
theorem i283_56 : zi 283 56 57 6 12 87 := by decide +kernel
theorem i283_57 : zi 283 57 58 1 6 0 := by decide +kernel
theorem i283_58 : zi 283 58 59 8 0 0 := by decide +kernel
theorem i283_59 : zi 283 59 60 13 2 0 := by decide +kernel
theorem i283_60 : zi 283 60 61 13 0 0 := by decide +kernel
theorem i283_61 : zi 283 61 62 0 0 65521 := by decide +kernel
theorem i283_62 : zi 283 62 63 13 4 0 := by decide +kernel
theorem i283_63 : zi 283 63 64 10 0 0 := by decide +kernel
theorem i283_64 : zi 283 64 65 5 6 1 := by decide +kernel
theorem i283_65 : zi 283 65 66 17 16 0 := by decide +kernel
theorem ml_283 : z_ml 283 = 7 := by decide +kernel
theorem en_283 : ∀ (v0 v1 v2 v3 v4 : zV), z_ent 283 [v0, v1, v2, v3, v4] = [some v0, some v1, some v2, some v3, some v4, none, none] := fun v0 v1 v2 v3 v4 => by unfold z_ent; rw [ml_283]; rfl
theorem i289_0 : zi 289 0 1 2 0 0 := by decide +kernel
theorem i289_1 : zi 289 1 2 1 2 0 := by decide +kernel
theorem i289_2 : zi 289 2 3 1 3 0 := by decide +kernel
theorem i289_3 : zi 289 3 4 21 288 12 := by decide +kernel
theorem na_288 : z_na 288 = 2 := by decide +kernel
theorem i289_4 : zi 289 4 5 3 4 0 := by decide +kernel
theorem i289_5 : zi 289 5 6 2 0 0 := by decide +kernel
theorem i289_6 : zi 289 6 7 1 1 0 := by decide +kernel
theorem i289_7 : zi 289 7 8 1 2 0 := by decide +kernel
theorem i289_8 : zi 289 8 9 21 257 12 := by decide +kernel
theorem i289_9 : zi 289 9 10 0 0 16 := by decide +kernel
theorem i289_10 : zi 289 10 11 13 3 0 := by decide +kernel
theorem i289_11 : zi 289 11 12 3 5 0 := by decide +kernel
theorem i289_12 : zi 289 12 13 1 4 0 := by decide +kernel
theorem i289_13 : zi 289 13 14 18 16 2 := by decide +kernel
theorem i289_16 : zi 289 16 17 1 4 0 := by decide +kernel
theorem i289_17 : zi 289 17 18 25 0 0 := by decide +kernel
theorem i289_14 : zi 289 14 15 1 5 0 := by decide +kernel
theorem i289_15 : zi 289 15 16 18 18 1 := by decide +kernel
theorem i289_18 : zi 289 18 19 2 0 0 := by decide +kernel
theorem i289_19 : zi 289 19 20 6 12 72 := by decide +kernel
theorem i289_20 : zi 289 20 21 0 0 20 := by decide +kernel
theorem i289_21 : zi 289 21 22 19 24 1 := by decide +kernel
theorem i289_22 : zi 289 22 23 0 0 (-11) := by decide +kernel
theorem i289_23 : zi 289 23 24 25 0 0 := by decide +kernel
theorem i289_24 : zi 289 24 25 2 0 0 := by decide +kernel
theorem i289_25 : zi 289 25 26 6 12 73 := by decide +kernel
theorem fl_13_73 : zfl 13 12 73 73 (some 133) := by decide +kernel
theorem i289_26 : zi 289 26 27 2 0 0 := by decide +kernel
theorem i289_27 : zi 289 27 28 6 12 72 := by decide +kernel
theorem i289_28 : zi 289 28 29 1 1 0 := by decide +kernel
theorem i289_29 : zi 289 29 30 10 0 0 := by decide +kernel
theorem ar_133 : zar 133 0 20 := by decide +kernel
theorem i289_30 : zi 289 30 31 2 0 0 := by decide +kernel
theorem i289_31 : zi 289 31 32 6 12 74 := by decide +kernel
theorem i289_32 : zi 289 32 33 2 0 0 := by decide +kernel
theorem i289_33 : zi 289 33 34 6 12 72 := by decide +kernel
theorem i289_34 : zi 289 34 35 1 2 0 := by decide +kernel
theorem i289_35 : zi 289 35 36 10 0 0 := by decide +kernel
theorem i289_36 : zi 289 36 37 2 0 0 := by decide +kernel
theorem i289_37 : zi 289 37 38 6 12 75 := by decide +kernel
theorem fl_13_75 : zfl 13 12 75 75 (some 135) := by decide +kernel
theorem i289_38 : zi 289 38 39 2 0 0 := by decide +kernel
theorem i289_39 : zi 289 39 40 6 12 72 := by decide +kernel
theorem i289_40 : zi 289 40 41 1 3 0 := by decide +kernel
theorem i289_41 : zi 289 41 42 10 0 0 := by decide +kernel
theorem ar_135 : zar 135 0 20 := by decide +kernel
theorem i289_42 : zi 289 42 43 2 0 0 := by decide +kernel
theorem i289_43 : zi 289 43 44 6 12 76 := by decide +kernel
theorem fl_13_76 : zfl 13 12 76 76 (some 136) := by decide +kernel
theorem i289_44 : zi 289 44 45 2 0 0 := by decide +kernel
theorem i289_45 : zi 289 45 46 6 12 72 := by decide +kernel
theorem i289_46 : zi 289 46 47 1 5 0 := by decide +kernel
theorem i289_47 : zi 289 47 48 10 0 0 := by decide +kernel
theorem ar_136 : zar 136 0 20 := by decide +kernel
theorem i289_48 : zi 289 48 49 2 0 0 := by decide +kernel
theorem i289_49 : zi 289 49 50 6 12 77 := by decide +kernel
theorem fl_13_77 : zfl 13 12 77 77 (some 137) := by decide +kernel
theorem i289_50 : zi 289 50 51 2 0 0 := by decide +kernel
theorem i289_51 : zi 289 51 52 6 12 72 := by decide +kernel
theorem i289_52 : zi 289 52 53 0 0 0 := by decide +kernel
theorem i289_53 : zi 289 53 54 10 0 0 := by decide +kernel
theorem ar_137 : zar 137 0 20 := by decide +kernel
theorem i289_54 : zi 289 54 55 2 0 0 := by decide +kernel
theorem i289_55 : zi 289 55 56 6 12 78 := by decide +kernel
theorem i289_56 : zi 289 56 57 2 0 0 := by decide +kernel
theorem i289_57 : zi 289 57 58 6 12 72 := by decide +kernel
theorem i289_58 : zi 289 58 59 0 0 0 := by decide +kernel
theorem i289_59 : zi 289 59 60 11 0 0 := by decide +kernel
theorem i289_60 : zi 289 60 61 2 0 0 := by decide +kernel
theorem i289_61 : zi 289 61 62 14 0 0 := by decide +kernel
theorem i289_62 : zi 289 62 63 6 12 72 := by decide +kernel
theorem i289_63 : zi 289 63 64 0 0 1 := by decide +kernel
theorem i289_64 : zi 289 64 65 13 0 0 := by decide +kernel
theorem i289_65 : zi 289 65 66 7 12 72 := by decide +kernel
theorem i289_66 : zi 289 66 67 0 0 (-10) := by decide +kernel
theorem i289_67 : zi 289 67 68 25 0 0 := by decide +kernel
theorem ml_289 : z_ml 289 = 6 := by decide +kernel
theorem en_289 : ∀ (v0 v1 v2 v3 : zV), z_ent 289 [v0, v1, v2, v3] = [some v0, some v1, some v2, some v3, none, none] := fun v0 v1 v2 v3 => by unfold z_ent; rw [ml_289]; rfl
set_option maxRecDepth 100000 in
theorem s264_58 {L : Nat} (x1 x2 x3 : Int32) (S : zS) (g0 : (¬ ((S 13 57) ≤ x3)) → (¬ (x2 ≤ 0)) → zx 40 x3) (g1 : (¬ ((S 13 57) ≤ x3)) → (¬ (x2 ≤ 0)) → ((S 125 x3.toNatClampNeg) = 0) → zx 40 (S 120 x3.toNatClampNeg)) (g2 : (¬ ((S 13 57) ≤ x3)) → (¬ (x2 ≤ 0)) → ((S 125 x3.toNatClampNeg) = 0) → (¬ ((S 119 (S 120 x3.toNatClampNeg).toNatClampNeg) = 0)) → zx 3 (S 122 x3.toNatClampNeg)) : zt L 264 58 [some (.inr (.inr 13)), some (.inl x1), some (.inl x2), some (.inl x3)] [] S (if ((S 13 57) ≤ x3) then (.inl (82, [some (.inr (.inr 13)), some (.inl x1), some (.inl x2), some (.inl x3)], [], S)) else (if (x2 ≤ 0) then (.inl (82, [some (.inr (.inr 13)), some (.inl x1), some (.inl x2), some (.inl x3)], [], S)) else (.inl (58, [some (.inr (.inr 13)), some (.inl x1), some (.inl x2), some (.inl (x3 + 1))], [], (if ((S 125 x3.toNatClampNeg) = 0) then (if ((S 119 (S 120 x3.toNatClampNeg).toNatClampNeg) = 0) then S else (G269 x3 (z_up (z_up S 123 x3.toNatClampNeg (S 13 1)) 126 x3.toNatClampNeg 0))) else S))))) := zr_1_3 i264_58 (zr_2_0 i264_59 (zr_6 i264_60 fl_13_57 rfl (zr_19_3 i264_61 (fun h2716 => zt_rfl) (fun h2717 => zr_1_2 i264_62 (zr_18_5 i264_63 (fun h2718 => zt_rfl) (fun h2719 => zr_2_0 i264_64 (zr_6r i264_65 fl_13_63 (zr_1_3 i264_66 (zr_8 i264_67 ar_125 (g0 h2717 h2719) rfl rfl (zt_trans (zt_cast (zr_18_1 i264_68 (fun h2720 => zr_2_0 i264_69 (zr_6r i264_70 fl_13_56 (zr_2_0 i264_71 (zr_6r i264_72 fl_13_58 (zr_1_3 i264_73 (zr_8 i264_74 ar_120 (g0 h2717 h2719) rfl rfl (zr_9 i264_75 ar_119 (g1 h2717 h2719 h2720) rfl rfl (zt_cast (zr_18_0 i264_76 (fun h2722 => zt_rfl) (fun h2723 => zr_2_0 i264_77 (zr_1_3 i264_78 (zr_cn (zs_21_1 i264_79 na_270 ob_13 rfl) (f270 x3 S (g0 h2717 h2719) (g2 h2717 h2719 h2720 h2723)) (zt_rfl))))) (zm_c zz_s zz_s zz_e))))))))) (fun h2721 => zt_rfl)) (zm_c zz_s zz_s zz_e)) (zr_5_3 i264_80 kc_1 (zr_17 i264_81 (zt_rfl)))))))))))))
set_option maxRecDepth 100000 in
theorem w_G269_120 (a : Int32) (S : zS) : G269 a S 120 = S 120 := (show (if ((S 127 (S 122 a.toNatClampNeg).toNatClampNeg) = 1) then (z_up (z_up S 126 a.toNatClampNeg ((S 126 a.toNatClampNeg) + 1)) 125 a.toNatClampNeg (if (((S 126 a.toNatClampNeg) + 1) = 3) then (3 : Int32) else 1)) else (z_up (z_up (z_up S 126 a.toNatClampNeg ((S 126 a.toNatClampNeg) + 1)) 125 a.toNatClampNeg 2) 128 (S 122 a.toNatClampNeg).toNatClampNeg ((S 128 (S 122 a.toNatClampNeg).toNatClampNeg) - 1))) 120 = S 120 from (zite_k ((zupc rfl).trans (zupc rfl)) ((zupc rfl).trans ((zupc rfl).trans (zupc rfl)))))
def k264_58 (x1 x2 : Int32) (j : Nat) (a : zS) : zS := (if ((a 125 j) = 0) then (if ((a 119 (a 120 j).toNatClampNeg) = 0) then a else (G269 (Int32.ofNat j) (z_up (z_up a 123 j (a 13 1)) 126 j 0))) else a)
set_option maxRecDepth 100000 in
theorem l264_58 {L : Nat} (x1 x2 : Int32) (i0 n : Nat) (a : zS) (hn : i0 + n < 2147483648) (hc0 : ∀ j, j < n → ¬ (((zfold (k264_58 x1 x2 ) i0 j a) 13 57) ≤ (Int32.ofNat (i0 + j)))) (hc1 : ∀ j, j < n → ¬ (x2 ≤ 0)) (g0 : ∀ j, j < n → (¬ (((zfold (k264_58 x1 x2 ) i0 j a) 13 57) ≤ (Int32.ofNat (i0 + j)))) → (¬ (x2 ≤ 0)) → zx 40 (Int32.ofNat (i0 + j))) (g1 : ∀ j, j < n → (¬ (((zfold (k264_58 x1 x2 ) i0 j a) 13 57) ≤ (Int32.ofNat (i0 + j)))) → (¬ (x2 ≤ 0)) → (((zfold (k264_58 x1 x2 ) i0 j a) 125 (i0 + j)) = 0) → zx 40 ((zfold (k264_58 x1 x2 ) i0 j a) 120 (i0 + j))) (g2 : ∀ j, j < n → (¬ (((zfold (k264_58 x1 x2 ) i0 j a) 13 57) ≤ (Int32.ofNat (i0 + j)))) → (¬ (x2 ≤ 0)) → (((zfold (k264_58 x1 x2 ) i0 j a) 125 (i0 + j)) = 0) → (¬ (((zfold (k264_58 x1 x2 ) i0 j a) 119 ((zfold (k264_58 x1 x2 ) i0 j a) 120 (i0 + j)).toNatClampNeg) = 0)) → zx 3 ((zfold (k264_58 x1 x2 ) i0 j a) 122 (i0 + j))) : zt L 264 58 [some (.inr (.inr 13)), some (.inl x1), some (.inl x2), some (.inl (Int32.ofNat i0))] [] a (.inl (58, [some (.inr (.inr 13)), some (.inl x1), some (.inl x2), some (.inl (Int32.ofNat (i0 + n)))], [], (zfold (k264_58 x1 x2 ) i0 n a))) := by
  induction n with
  | zero => exact zt_rfl
  | succ n ih =>
    have e1 := zk_ix (i0 + n) (by omega)
    have e2 := zk_add (i0 + n)
    refine zt_trans (ih (by omega) (fun j hj => hc0 j (by omega)) (fun j hj => hc1 j (by omega)) (fun j hj => g0 j (by omega)) (fun j hj => g1 j (by omega)) (fun j hj => g2 j (by omega))) ?_
    refine zt_cast (s264_58 x1 x2 (Int32.ofNat (i0 + n)) (zfold (k264_58 x1 x2 ) i0 n a) (by have hg := g0 n (by omega); first | exact hg | (simp only [e1]; exact hg)) (by have hg := g1 n (by omega); first | exact hg | (simp only [e1]; exact hg)) (by have hg := g2 n (by omega); first | exact hg | (simp only [e1]; exact hg))) ?_
    rw [if_neg (show ¬ (((zfold (k264_58 x1 x2 ) i0 n a) 13 57) ≤ (Int32.ofNat (i0 + n))) from (by have hg := hc0 n (by omega); first | exact hg | (simp only [e1]; exact hg)))]
    rw [if_neg (show ¬ (x2 ≤ 0) from (by have hg := hc1 n (by omega); first | exact hg | (simp only [e1]; exact hg)))]
    simp only [zfold, k264_58, e1, e2, ← Nat.add_assoc]
def K264_58 (x1 x2 : Int32) (i0 : Nat) (S : zS) : zS := zfold (k264_58 x1 x2 ) i0 (if x2 ≤ 0 then 0 else (S 13 57).toNatClampNeg - i0) S
def K264_58_S (x1 x2 : Int32) (i0 : Nat) (S : zS) : zS := (K264_58 x1 x2 i0 S)
set_option maxRecDepth 100000 in
theorem L264_58 {L : Nat} (x1 x2 : Int32) (i0 : Nat) (S : zS) (hi : i0 ≤ 10000) (h0 : zn 40 (S 13 57)) (hA1 : zA 40 40 (S 120)) (hA2 : zA 40 3 (S 122)) : zt L 264 58 [some (.inr (.inr 13)), some (.inl x1), some (.inl x2), some (.inl (Int32.ofNat i0))] [] S (.inl (82, [some (.inr (.inr 13)), some (.inl x1), some (.inl x2), some (.inl (Int32.ofNat (i0 + (if x2 ≤ 0 then 0 else (S 13 57).toNatClampNeg - i0))))], [], (K264_58_S x1 x2 i0 S))) := by
  have hk120 : ∀ n, (zfold (k264_58 x1 x2 ) i0 n S) 120 = S 120 := fun n => zfold_keep (fun b => b 120) (fun j b => show (if ((b 125 j) = 0) then (if ((b 119 (b 120 j).toNatClampNeg) = 0) then b else (G269 (Int32.ofNat j) (z_up (z_up b 123 j (b 13 1)) 126 j 0))) else b) 120 = b 120 from (zite_k (zite_k rfl ((w_G269_120 _ _).trans ((zupc rfl).trans (zupc rfl)))) rfl)) n S
  have hk122 : ∀ n, (zfold (k264_58 x1 x2 ) i0 n S) 122 = S 122 := fun n => zfold_keep (fun b => b 122) (fun j b => show (if ((b 125 j) = 0) then (if ((b 119 (b 120 j).toNatClampNeg) = 0) then b else (G269 (Int32.ofNat j) (z_up (z_up b 123 j (b 13 1)) 126 j 0))) else b) 122 = b 122 from (zite_k (zite_k rfl ((w_G269_122 _ _).trans ((zupc rfl).trans (zupc rfl)))) rfl)) n S
  have hk13_57 : ∀ n, (zfold (k264_58 x1 x2 ) i0 n S) 13 57 = S 13 57 := fun n => zfold_keep (fun b => b 13 57) (fun j b => show (if ((b 125 j) = 0) then (if ((b 119 (b 120 j).toNatClampNeg) = 0) then b else (G269 (Int32.ofNat j) (z_up (z_up b 123 j (b 13 1)) 126 j 0))) else b) 13 57 = b 13 57 from (zite_rd (zite_rd rfl ((w_G269_13_57 _ _).trans ((zupci rfl).trans (zupci rfl)))) rfl)) n S
by_cases hx : x2 ≤ 0
  · simp only [K264_58_S, K264_58, if_pos hx]
    exact zt_cast (s264_58 x1 x2 (Int32.ofNat i0) S (fun _ h9 => absurd hx h9) (fun _ h9 => absurd hx h9) (fun _ h9 => absurd hx h9)) (zte_2 (Or.inr hx))
  · simp only [K264_58_S, K264_58, if_neg hx]
    refine zt_trans (l264_58 x1 x2 i0 ((S 13 57).toNatClampNeg - i0) S (by have := zn_cl h0; omega) (fun j hj => by rw [hk13_57 j]; exact zc_le h0 hj (by omega)) (fun j hj => hx) (fun j hj _ _ => by exact zx_of (by have := zn_cl h0; omega) (by have := zn_cl h0; omega)) (fun j hj _ _ _ => by rw [hk120 j]; have := zn_cl h0; exact hA1 _ (by omega)) (fun j hj _ _ _ _ => by rw [hk122 j]; have := zn_cl h0; exact hA2 _ (by omega))) ?_
    have hend : (zfold (k264_58 x1 x2 ) i0 ((S 13 57).toNatClampNeg - i0) S) 13 57 ≤ Int32.ofNat (i0 + ((S 13 57).toNatClampNeg - i0)) := by rw [hk13_57]; exact zc_le_end h0 (by omega)
    exact zt_cast (s264_58 x1 x2 _ _ (fun h9 => absurd hend h9) (fun h9 => absurd hend h9) (fun h9 => absurd hend h9)) (zte_2 (Or.inl hend))
set_option maxRecDepth 100000 in
theorem s264_18 {L : Nat} (x1 x2 x3 : Int32) (S : zS) (g0 : (¬ ((S 13 45) ≤ x3)) → (¬ (x2 ≤ 0)) → zx 40 x3) (g1 : (¬ ((S 13 45) ≤ x3)) → (¬ (x2 ≤ 0)) → ((S 119 x3.toNatClampNeg) = 0) → (¬ ((S 110 x3.toNatClampNeg) = (-1))) → zx 40 (S 110 x3.toNatClampNeg)) : zt L 264 18 [some (.inr (.inr 13)), some (.inl x1), some (.inl x2), some (.inl x3)] [] S (if ((S 13 45) ≤ x3) then (.inl (56, [some (.inr (.inr 13)), some (.inl x1), some (.inl x2), some (.inl x3)], [], S)) else (if (x2 ≤ 0) then (.inl (56, [some (.inr (.inr 13)), some (.inl x1), some (.inl x2), some (.inl x3)], [], S)) else (.inl (18, [some (.inr (.inr 13)), some (.inl x1), some (.inl (if ((S 119 x3.toNatClampNeg) = 0) then ((if ((S 110 x3.toNatClampNeg) = (-1)) then (x2 : Int32) else (if ((S 119 (S 110 x3.toNatClampNeg).toNatClampNeg) = 0) then (x2 : Int32) else (if ((S 118 x3.toNatClampNeg) = 0) then ((x2 + 1) : Int32) else x2))) : Int32) else x2)), some (.inl (x3 + 1))], [], (if ((S 119 x3.toNatClampNeg) = 0) then (if ((S 110 x3.toNatClampNeg) = (-1)) then S else (if ((S 119 (S 110 x3.toNatClampNeg).toNatClampNeg) = 0) then S else (if ((S 118 x3.toNatClampNeg) = 0) then (z_up S 119 x3.toNatClampNeg 1) else S))) else S))))) := zr_1_3 i264_18 (zr_2_0 i264_19 (zr_6 i264_20 fl_13_45 rfl (zr_19_3 i264_21 (fun h2724 => zt_rfl) (fun h2725 => zr_1_2 i264_22 (zr_18_5 i264_23 (fun h2726 => zt_rfl) (fun h2727 => zr_2_0 i264_24 (zr_6r i264_25 fl_13_56 (zr_1_3 i264_26 (zr_9 i264_27 ar_119 (g0 h2725 h2727) rfl rfl (zt_trans (zt_cast (zr_18_1 i264_28 (fun h2728 => zr_2_0 i264_29 (zr_6r i264_30 fl_13_47 (zr_1_3 i264_31 (zr_8 i264_32 ar_110 (g0 h2725 h2727) rfl rfl (zr_0 i264_33 kc_m1 (zt_cast (zr_19_0 i264_34 (fun h2730 => zt_rfl) (fun h2731 => zr_2_0 i264_35 (zr_6r i264_36 fl_13_56 (zr_2_0 i264_37 (zr_6r i264_38 fl_13_47 (zr_1_3 i264_39 (zr_8 i264_40 ar_110 (g0 h2725 h2727) rfl rfl (zr_9 i264_41 ar_119 (g1 h2725 h2727 h2728 h2731) rfl rfl (zt_cast (zr_18_0 i264_42 (fun h2732 => zt_rfl) (fun h2733 => zr_2_0 i264_43 (zr_6r i264_44 fl_13_55 (zr_1_3 i264_45 (zr_9 i264_46 ar_118 (g0 h2725 h2727) rfl rfl (zt_cast (zr_18_1 i264_47 (fun h2734 => zr_2_0 i264_48 (zr_6r i264_49 fl_13_56 (zr_1_3 i264_50 (zr_0 i264_51 kc_1 (zr_11 i264_52 ar_119 (g0 h2725 h2727) (zo_1) rfl (zr_5_2 i264_53 kc_1 (zt_rfl))))))) (fun h2735 => zt_rfl)) (zm_c (zl_c zz_s (zl_c zz_s (zl_c (zl_v zz_e) zz_s))) zz_s zz_e))))))) (zm_c (zl_c zz_s (zl_c zz_s (zl_c (zl_v zz_e) zz_s))) zz_s zz_e)))))))))) (zm_c (zl_c zz_s (zl_c zz_s (zl_c (zl_v zz_e) zz_s))) zz_s zz_e))))))) (fun h2729 => zt_rfl)) (zm_c (zl_c zz_s (zl_c zz_s (zl_c (zl_v zz_e) zz_s))) zz_s zz_e)) (zr_5_3 i264_54 kc_1 (zr_17 i264_55 (zt_rfl)))))))))))))
def k264_18 (x1 : Int32) (j : Nat) (a : Int32 × zS) : Int32 × zS := ((if ((a.2 119 j) = 0) then ((if ((a.2 110 j) = (-1)) then (a.1 : Int32) else (if ((a.2 119 (a.2 110 j).toNatClampNeg) = 0) then (a.1 : Int32) else (if ((a.2 118 j) = 0) then ((a.1 + 1) : Int32) else a.1))) : Int32) else a.1), (if ((a.2 119 j) = 0) then (if ((a.2 110 j) = (-1)) then a.2 else (if ((a.2 119 (a.2 110 j).toNatClampNeg) = 0) then a.2 else (if ((a.2 118 j) = 0) then (z_up a.2 119 j 1) else a.2))) else a.2))
set_option maxRecDepth 100000 in
theorem l264_18 {L : Nat} (x1 : Int32) (i0 n : Nat) (a : Int32 × zS) (hn : i0 + n < 2147483648) (hc0 : ∀ j, j < n → ¬ (((zfold (k264_18 x1 ) i0 j a).2 13 45) ≤ (Int32.ofNat (i0 + j)))) (hc1 : ∀ j, j < n → ¬ ((zfold (k264_18 x1 ) i0 j a).1 ≤ 0)) (g0 : ∀ j, j < n → (¬ (((zfold (k264_18 x1 ) i0 j a).2 13 45) ≤ (Int32.ofNat (i0 + j)))) → (¬ ((zfold (k264_18 x1 ) i0 j a).1 ≤ 0)) → zx 40 (Int32.ofNat (i0 + j))) (g1 : ∀ j, j < n → (¬ (((zfold (k264_18 x1 ) i0 j a).2 13 45) ≤ (Int32.ofNat (i0 + j)))) → (¬ ((zfold (k264_18 x1 ) i0 j a).1 ≤ 0)) → (((zfold (k264_18 x1 ) i0 j a).2 119 (i0 + j)) = 0) → (¬ (((zfold (k264_18 x1 ) i0 j a).2 110 (i0 + j)) = (-1))) → zx 40 ((zfold (k264_18 x1 ) i0 j a).2 110 (i0 + j))) : zt L 264 18 [some (.inr (.inr 13)), some (.inl x1), some (.inl a.1), some (.inl (Int32.ofNat i0))] [] a.2 (.inl (18, [some (.inr (.inr 13)), some (.inl x1), some (.inl (zfold (k264_18 x1 ) i0 n a).1), some (.inl (Int32.ofNat (i0 + n)))], [], (zfold (k264_18 x1 ) i0 n a).2)) := by
  induction n with
  | zero => exact zt_rfl
  | succ n ih =>
    have e1 := zk_ix (i0 + n) (by omega)
    have e2 := zk_add (i0 + n)
    refine zt_trans (ih (by omega) (fun j hj => hc0 j (by omega)) (fun j hj => hc1 j (by omega)) (fun j hj => g0 j (by omega)) (fun j hj => g1 j (by omega))) ?_
    refine zt_cast (s264_18 x1 (zfold (k264_18 x1 ) i0 n a).1 (Int32.ofNat (i0 + n)) (zfold (k264_18 x1 ) i0 n a).2 (by have hg := g0 n (by omega); first | exact hg | (simp only [e1]; exact hg)) (by have hg := g1 n (by omega); first | exact hg | (simp only [e1]; exact hg))) ?_
    rw [if_neg (show ¬ (((zfold (k264_18 x1 ) i0 n a).2 13 45) ≤ (Int32.ofNat (i0 + n))) from (by have hg := hc0 n (by omega); first | exact hg | (simp only [e1]; exact hg)))]
    rw [if_neg (show ¬ ((zfold (k264_18 x1 ) i0 n a).1 ≤ 0) from (by have hg := hc1 n (by omega); first | exact hg | (simp only [e1]; exact hg)))]
    simp only [zfold, k264_18, e1, e2, ← Nat.add_assoc]
def K264_18 (x1 x2 : Int32) (i0 : Nat) (S : zS) : Int32 × zS := zfold (k264_18 x1 ) i0 (if x2 ≤ 0 then 0 else (S 13 45).toNatClampNeg - i0) (x2, S)
def K264_18_c2 (x1 x2 : Int32) (i0 : Nat) (S : zS) : Int32 := (K264_18 x1 x2 i0 S).1
def K264_18_S (x1 x2 : Int32) (i0 : Nat) (S : zS) : zS := (K264_18 x1 x2 i0 S).2
set_option maxRecDepth 100000 in
theorem L264_18 {L : Nat} (x1 x2 : Int32) (i0 : Nat) (S : zS) (hi : i0 ≤ 10000) (h0 : zn 40 (S 13 45)) (hA1 : zA 40 40 (S 110)) (hx1 : zn 1 x2) : zt L 264 18 [some (.inr (.inr 13)), some (.inl x1), some (.inl x2), some (.inl (Int32.ofNat i0))] [] S (.inl (56, [some (.inr (.inr 13)), some (.inl x1), some (.inl (K264_18_c2 x1 x2 i0 S)), some (.inl (Int32.ofNat (i0 + (if x2 ≤ 0 then 0 else (S 13 45).toNatClampNeg - i0))))], [], (K264_18_S x1 x2 i0 S))) := by
  have hk110 : ∀ n, (zfold (k264_18 x1 ) i0 n (x2, S)).2 110 = S 110 := fun n => zfold_keep (fun b => b.2 110) (fun j b => show (if ((b.2 119 j) = 0) then (if ((b.2 110 j) = (-1)) then b.2 else (if ((b.2 119 (b.2 110 j).toNatClampNeg) = 0) then b.2 else (if ((b.2 118 j) = 0) then (z_up b.2 119 j 1) else b.2))) else b.2) 110 = b.2 110 from (zite_k (zite_k rfl (zite_k rfl (zite_k (zupc rfl) rfl))) rfl)) n (x2, S)
  have hk13_45 : ∀ n, (zfold (k264_18 x1 ) i0 n (x2, S)).2 13 45 = S 13 45 := fun n => zfold_keep (fun b => b.2 13 45) (fun j b => show (if ((b.2 119 j) = 0) then (if ((b.2 110 j) = (-1)) then b.2 else (if ((b.2 119 (b.2 110 j).toNatClampNeg) = 0) then b.2 else (if ((b.2 118 j) = 0) then (z_up b.2 119 j 1) else b.2))) else b.2) 13 45 = b.2 13 45 from (zite_rd (zite_rd rfl (zite_rd rfl (zite_rd (zupci rfl) rfl))) rfl)) n (x2, S)
by_cases hx : x2 ≤ 0
  · simp only [K264_18_S, K264_18_c2, K264_18, if_pos hx]
    exact zt_cast (s264_18 x1 x2 (Int32.ofNat i0) S (fun _ h9 => absurd hx h9) (fun _ h9 => absurd hx h9)) (zte_2 (Or.inr hx))
  · simp only [K264_18_S, K264_18_c2, K264_18, if_neg hx]
    have hacc : ∀ n, n ≤ (S 13 45).toNatClampNeg - i0 → zn (1 + n) (zfold (k264_18 x1 ) i0 n (x2, S)).1 ∧ ¬ (zfold (k264_18 x1 ) i0 n (x2, S)).1 ≤ 0 := by
      intro n
      induction n with
      | zero => intro _; exact ⟨hx1, hx⟩
      | succ n ih =>
        intro hn
        obtain ⟨h, h9⟩ := ih (by omega)
        have := zn_cl h0
        simp only [zfold, k264_18]
        (repeat' split) <;> first | exact ⟨zn_up h, h9⟩ | exact ⟨zn_succ h (by omega), zn_pos h (by omega)⟩
    refine zt_trans (l264_18 x1 i0 ((S 13 45).toNatClampNeg - i0) (x2, S) (by have := zn_cl h0; omega) (fun j hj => by rw [hk13_45 j]; exact zc_le h0 hj (by omega)) (fun j hj => (hacc j (by omega)).2) (fun j hj _ _ => by exact zx_of (by have := zn_cl h0; omega) (by have := zn_cl h0; omega)) (fun j hj _ _ _ _ => by rw [hk110 j]; have := zn_cl h0; exact hA1 _ (by omega))) ?_
    have hend : (zfold (k264_18 x1 ) i0 ((S 13 45).toNatClampNeg - i0) (x2, S)).2 13 45 ≤ Int32.ofNat (i0 + ((S 13 45).toNatClampNeg - i0)) := by rw [hk13_45]; exact zc_le_end h0 (by omega)
    exact zt_cast (s264_18 x1 _ _ _ (fun h9 => absurd hend h9) (fun h9 => absurd hend h9)) (zte_2 (Or.inl hend))
set_option maxRecDepth 100000 in
theorem w_K264_18_S_13_57 (x1 x2 : Int32) (i0 : Nat) (S : zS) : K264_18_S x1 x2 i0 S 13 57 = S 13 57 := zfold_keep (fun b => b.2 13 57) ((fun j b => show (if ((b.2 119 j) = 0) then (if ((b.2 110 j) = (-1)) then b.2 else (if ((b.2 119 (b.2 110 j).toNatClampNeg) = 0) then b.2 else (if ((b.2 118 j) = 0) then (z_up b.2 119 j 1) else b.2))) else b.2) 13 57 = b.2 13 57 from (zite_rd (zite_rd rfl (zite_rd rfl (zite_rd (zupci rfl) rfl))) rfl))) _ _
set_option maxRecDepth 100000 in
theorem w_K264_18_S_120 (x1 x2 : Int32) (i0 : Nat) (S : zS) : K264_18_S x1 x2 i0 S 120 = S 120 := zfold_keep (fun b => b.2 120) ((fun j b => show (if ((b.2 119 j) = 0) then (if ((b.2 110 j) = (-1)) then b.2 else (if ((b.2 119 (b.2 110 j).toNatClampNeg) = 0) then b.2 else (if ((b.2 118 j) = 0) then (z_up b.2 119 j 1) else b.2))) else b.2) 120 = b.2 120 from (zite_k (zite_k rfl (zite_k rfl (zite_k (zupc rfl) rfl))) rfl))) _ _
set_option maxRecDepth 100000 in
theorem w_K264_18_S_122 (x1 x2 : Int32) (i0 : Nat) (S : zS) : K264_18_S x1 x2 i0 S 122 = S 122 := zfold_keep (fun b => b.2 122) ((fun j b => show (if ((b.2 119 j) = 0) then (if ((b.2 110 j) = (-1)) then b.2 else (if ((b.2 119 (b.2 110 j).toNatClampNeg) = 0) then b.2 else (if ((b.2 118 j) = 0) then (z_up b.2 119 j 1) else b.2))) else b.2) 122 = b.2 122 from (zite_k (zite_k rfl (zite_k rfl (zite_k (zupc rfl) rfl))) rfl))) _ _
def G264 (a : Int32) (S : zS) : zS := (K264_58_S a (K264_18_c2 a (zb ((S 119 a.toNatClampNeg) = 0)) (a + 1).toNatClampNeg (z_up S 119 a.toNatClampNeg 1)) 0 (K264_18_S a (zb ((S 119 a.toNatClampNeg) = 0)) (a + 1).toNatClampNeg (z_up S 119 a.toNatClampNeg 1)))
set_option maxRecDepth 100000 in
theorem f264 {L : Nat} (a : Int32) (S : zS) (g0 : zx 40 a) (g1 : zn 40 (S 13 45)) (g2 : zA 40 40 (S 110)) (g3 : zn 10000 (a + 1)) (g4 : zn 40 (S 13 57)) (g5 : zA 40 40 (S 120)) (g6 : zA 40 3 (S 122)) : zf L 264 [.inr (.inr 13), .inl a] S (.inl (some (.inl (K264_18_c2 a (zb ((S 119 a.toNatClampNeg) = 0)) (a + 1).toNatClampNeg (z_up S 119 a.toNatClampNeg 1)))), (G264 a S), 0) := zf_of (en_264 _ _) (zr_2_0 i264_0 (zr_6r i264_1 fl_13_56 (zr_1_1 i264_2 (zr_9 i264_3 ar_119 (g0) rfl rfl (zt_trans (zt_cast (zr_18_0 i264_4 (fun h2736 => zr_0 i264_7 kc_1 (zt_rfl)) (fun h2737 => zr_0 i264_5 kc_0 (zr_17 i264_6 (zt_rfl)))) (zm_c zz_s (zl_c (zl_t zz_10) zz_s) zz_s)) (zr_3_2 i264_8 (zr_2_0 i264_9 (zr_6r i264_10 fl_13_56 (zr_1_1 i264_11 (zr_0 i264_12 kc_1 (zr_11 i264_13 ar_119 (g0) (zo_1) rfl (zr_1_1 i264_14 (zr_0 i264_15 kc_1 (zr_13_0 i264_16 (zr_3_3 i264_17 (zt_trans (zk_cg (P := fun v9 => zt L 264 18 [some (.inr (.inr 13)), some (.inl a), some (.inl (zb ((S 119 a.toNatClampNeg) = 0))), some (.inl v9)] [] (z_up S 119 a.toNatClampNeg 1) (.inl (56, [some (.inr (.inr 13)), some (.inl a), some (.inl (K264_18_c2 a (zb ((S 119 a.toNatClampNeg) = 0)) (a + 1).toNatClampNeg (z_up S 119 a.toNatClampNeg 1))), some (.inl (Int32.ofNat ((a + 1).toNatClampNeg + (if (zb ((S 119 a.toNatClampNeg) = 0)) ≤ 0 then 0 else ((z_up S 119 a.toNatClampNeg 1) 13 45).toNatClampNeg - (a + 1).toNatClampNeg))))], [], (K264_18_S a (zb ((S 119 a.toNatClampNeg) = 0)) (a + 1).toNatClampNeg (z_up S 119 a.toNatClampNeg 1))))) ((g3)).1 (L264_18 a (zb ((S 119 a.toNatClampNeg) = 0)) (a + 1).toNatClampNeg (z_up S 119 a.toNatClampNeg 1) (zn_cl (g3)) (znv (zupci rfl) (g1)) (zpc1 (zupc rfl) (g2)) (zn_zb _))) (zr_0 i264_56 kc_0 (zr_3_3 i264_57 (zt_trans (L264_58 a (K264_18_c2 a (zb ((S 119 a.toNatClampNeg) = 0)) (a + 1).toNatClampNeg (z_up S 119 a.toNatClampNeg 1)) 0 (K264_18_S a (zb ((S 119 a.toNatClampNeg) = 0)) (a + 1).toNatClampNeg (z_up S 119 a.toNatClampNeg 1)) (by decide) (znv ((w_K264_18_S_13_57 _ _ _ _).trans (zupci rfl)) (g4)) (zpc1 ((w_K264_18_S_120 _ _ _ _).trans (zupc rfl)) (g5)) (zpc1 ((w_K264_18_S_122 _ _ _ _).trans (zupc rfl)) (g6))) (zr_1_2 i264_82 (zr_25 i264_83)))))))))))))))))))))
def F265 (a : Int32) (S : zS) : Int32 := (if ((zb (¬ ((¬ (a < 0)) ∧ (¬ (((S 13 45) - 1) < a))))) = 0) then ((K264_18_c2 a (zb (((z_up S 13 0 (zb (¬ ((¬ (a < 0)) ∧ (¬ (((S 13 45) - 1) < a)))))) 119 a.toNatClampNeg) = 0)) (a + 1).toNatClampNeg (z_up (z_up S 13 0 (zb (¬ ((¬ (a < 0)) ∧ (¬ (((S 13 45) - 1) < a)))))) 119 a.toNatClampNeg 1)) : Int32) else 0)
def G265 (a : Int32) (S : zS) : zS := (if ((zb (¬ ((¬ (a < 0)) ∧ (¬ (((S 13 45) - 1) < a))))) = 0) then (G264 a (z_up S 13 0 (zb (¬ ((¬ (a < 0)) ∧ (¬ (((S 13 45) - 1) < a))))))) else (z_up S 13 0 (zb (¬ ((¬ (a < 0)) ∧ (¬ (((S 13 45) - 1) < a)))))))
set_option maxRecDepth 100000 in
theorem f265 {L : Nat} (a : Int32) (S : zS) (g0 : ((zb (¬ ((¬ (a < 0)) ∧ (¬ (((S 13 45) - 1) < a))))) = 0) → zx 40 a) (g1 : zn 40 (S 13 45)) (g2 : zA 40 40 (S 110)) (g3 : ((zb (¬ ((¬ (a < 0)) ∧ (¬ (((S 13 45) - 1) < a))))) = 0) → zn 10000 (a + 1)) (g4 : zn 40 (S 13 57)) (g5 : zA 40 40 (S 120)) (g6 : zA 40 3 (S 122)) : zf L 265 [.inr (.inr 13), .inl a] S (.inl (some (.inl (F265 a S))), (G265 a S), 0) := zf_of (en_265 _ _) (zr_2_0 i265_0 (zr_2_0 i265_1 (zr_1_1 i265_2 (zr_cv (zs_21_1 i265_3 na_258 ob_13 rfl) (f258 a S ) (zt_trans (zt_cast (zr_18b_0 i265_4 (fun h2738 => zr_0 i265_5 kc_0 (zr_17 i265_6 (zt_rfl))) (fun h2739 => zr_0 i265_7 kc_1 (zt_rfl))) (zm_c zz_s (zl_c (zl_t zz_01) zz_s) zz_s)) (zr_cv (zs_21_1 i265_8 na_212 ob_13 rfl) (f212 (zb (¬ ((¬ (a < 0)) ∧ (¬ (((S 13 45) - 1) < a))))) S ) (zt_trans (zt_cast (zr_18b_0 i265_9 (fun h2740 => zr_2_0 i265_10 (zr_1_1 i265_11 (zr_cv (zs_21_1 i265_12 na_264 ob_13 rfl) (f264 a (z_up S 13 0 (zb (¬ ((¬ (a < 0)) ∧ (¬ (((S 13 45) - 1) < a)))))) (g0 h2740) (znv (zupf rfl) (g1)) (zpc1 (zupc rfl) (g2)) (g3 h2740) (znv (zupf rfl) (g4)) (zpc1 (zupc rfl) (g5)) (zpc1 (zupc rfl) (g6))) (zr_17 i265_13 (zt_rfl))))) (fun h2741 => zr_0 i265_14 kc_0 (zt_rfl))) (zm_c zz_s (zl_c (zl_t zz_e) zz_s) zz_e)) (zr_25 i265_15))))))))
def F268 (a b : Int32) (S : zS) : Int32 := (if ((if ((¬ (a < 0)) ∧ (¬ (((S 13 45) - 1) < a))) then ((if ((¬ (b < 0)) ∧ (¬ (215 < b))) then (0 : Int32) else 2) : Int32) else 1) = 0) then ((F257 a b (z_up S 13 0 (if ((¬ (a < 0)) ∧ (¬ (((S 13 45) - 1) < a))) then ((if ((¬ (b < 0)) ∧ (¬ (215 < b))) then (0 : Int32) else 2) : Int32) else 1))) : Int32) else 0)
set_option maxRecDepth 100000 in
theorem f268 {L : Nat} (a b : Int32) (S : zS) (g0 : ((if ((¬ (a < 0)) ∧ (¬ (((S 13 45) - 1) < a))) then ((if ((¬ (b < 0)) ∧ (¬ (215 < b))) then (0 : Int32) else 2) : Int32) else 1) = 0) → zx 40 a) (g1 : ((if ((¬ (a < 0)) ∧ (¬ (((S 13 45) - 1) < a))) then ((if ((¬ (b < 0)) ∧ (¬ (215 < b))) then (0 : Int32) else 2) : Int32) else 1) = 0) → (¬ (((z_up S 13 0 (if ((¬ (a < 0)) ∧ (¬ (((S 13 45) - 1) < a))) then ((if ((¬ (b < 0)) ∧ (¬ (215 < b))) then (0 : Int32) else 2) : Int32) else 1)) 111 a.toNatClampNeg) = (-1))) → zx 8 (S 111 a.toNatClampNeg)) : zf L 268 [.inr (.inr 13), .inl a, .inl b] S (.inl (some (.inl (F268 a b S))), (z_up S 13 0 (if ((¬ (a < 0)) ∧ (¬ (((S 13 45) - 1) < a))) then ((if ((¬ (b < 0)) ∧ (¬ (215 < b))) then (0 : Int32) else 2) : Int32) else 1)), 0) := zf_of (en_268 _ _ _) (zr_2_0 i268_0 (zr_2_0 i268_1 (zr_1_1 i268_2 (zr_cv (zs_21_1 i268_3 na_258 ob_13 rfl) (f258 a S ) (zt_trans (zt_cast (zr_18b_1 i268_4 (fun h2742 => zr_1_2 i268_7 (zr_0 i268_8 kc_0 (zr_0 i268_9 kc_215 (zr_cv (zs_22_3 i268_10 na_213 rfl) (f213 b 0 215 S ) (zt_cast (zr_18b_0 i268_11 (fun h2744 => zr_0 i268_12 kc_0 (zr_17 i268_13 (zt_rfl))) (fun h2745 => zr_0 i268_14 kc_2 (zt_rfl))) (zm_c zz_s (zl_c (zl_t zz_e) zz_s) zz_s)))))) (fun h2743 => zr_0 i268_5 kc_1 (zr_17 i268_6 (zt_rfl)))) (zm_c zz_s (zl_c (zl_t zz_e) zz_s) zz_s)) (zr_cv (zs_21_1 i268_15 na_212 ob_13 rfl) (f212 (if ((¬ (a < 0)) ∧ (¬ (((S 13 45) - 1) < a))) then ((if ((¬ (b < 0)) ∧ (¬ (215 < b))) then (0 : Int32) else 2) : Int32) else 1) S ) (zt_trans (zt_cast (zr_18b_0 i268_16 (fun h2746 => zr_2_0 i268_17 (zr_1_1 i268_18 (zr_1_2 i268_19 (zr_cv (zs_21_2 i268_20 na_257 ob_13 rfl) (f257 a b (z_up S 13 0 (if ((¬ (a < 0)) ∧ (¬ (((S 13 45) - 1) < a))) then ((if ((¬ (b < 0)) ∧ (¬ (215 < b))) then (0 : Int32) else 2) : Int32) else 1)) (g0 h2746) (fun h2748 => (zxc (zupc rfl) (g1 h2746 h2748)))) (zr_17 i268_21 (zt_rfl)))))) (fun h2747 => zr_0 i268_22 kc_0 (zt_rfl))) (zm_c zz_s (zl_c (zl_t zz_e) zz_s) zz_s)) (zr_25 i268_23))))))))
def F276 (a b : Int32) (S : zS) : Int32 := (if ((zb ((¬ ((¬ (a < 0)) ∧ (¬ (5 < a)))) ∨ (¬ ((¬ (b < (-1))) ∧ (¬ (5 < b)))))) = 0) then ((K271_4_c3 a b 0 (none : Option zV) 0 (z_up S 13 0 (zb ((¬ ((¬ (a < 0)) ∧ (¬ (5 < a)))) ∨ (¬ ((¬ (b < (-1))) ∧ (¬ (5 < b)))))))) : Int32) else 0)
def G276 (a b : Int32) (S : zS) : zS := (if ((zb ((¬ ((¬ (a < 0)) ∧ (¬ (5 < a)))) ∨ (¬ ((¬ (b < (-1))) ∧ (¬ (5 < b)))))) = 0) then (K271_4_S a b 0 (none : Option zV) 0 (z_up S 13 0 (zb ((¬ ((¬ (a < 0)) ∧ (¬ (5 < a)))) ∨ (¬ ((¬ (b < (-1))) ∧ (¬ (5 < b)))))))) else (z_up S 13 0 (zb ((¬ ((¬ (a < 0)) ∧ (¬ (5 < a)))) ∨ (¬ ((¬ (b < (-1))) ∧ (¬ (5 < b))))))))
set_option maxRecDepth 100000 in
theorem f276 {L : Nat} (a b : Int32) (S : zS) (g0 : zn 40 (S 13 57)) (g1 : zA 40 3 (S 122)) : zf L 276 [.inr (.inr 13), .inl a, .inl b] S (.inl (some (.inl (F276 a b S))), (G276 a b S), 0) := zf_of (en_276 _ _ _) (zr_2_0 i276_0 (zr_1_1 i276_1 (zr_0 i276_2 kc_0 (zr_0 i276_3 kc_5 (zr_cv (zs_22_3 i276_4 na_213 rfl) (f213 a 0 5 S ) (zt_trans (zt_cast (zr_18b_0 i276_5 (fun h2749 => zr_1_2 i276_6 (zr_0 i276_7 kc_m1 (zr_0 i276_8 kc_5 (zr_cv (zs_22_3 i276_9 na_213 rfl) (f213 b (-1) 5 S ) (zt_cast (zr_18b_0 i276_10 (fun h2751 => zr_0 i276_11 kc_0 (zr_17 i276_12 (zt_rfl))) (fun h2752 => zr_0 i276_13 kc_1 (zt_rfl))) (zm_c zz_s (zl_c (zl_t zz_01) zz_s) zz_s)))))) (fun h2750 => zr_0 i276_13 kc_1 (zt_rfl))) (zm_c zz_s (zl_c (zl_t zz_b1) zz_s) zz_s)) (zr_cv (zs_21_1 i276_14 na_212 ob_13 rfl) (f212 (zb ((¬ ((¬ (a < 0)) ∧ (¬ (5 < a)))) ∨ (¬ ((¬ (b < (-1))) ∧ (¬ (5 < b)))))) S ) (zt_cast (zr_18b_1 i276_15 (fun h2753 => zr_2_0 i276_18 (zr_1_1 i276_19 (zr_1_2 i276_20 (zr_cv (zs_21_2 i276_21 na_271 ob_13 rfl) (f271 a b (z_up S 13 0 (zb ((¬ ((¬ (a < 0)) ∧ (¬ (5 < a)))) ∨ (¬ ((¬ (b < (-1))) ∧ (¬ (5 < b))))))) (znv (zupf rfl) (g0)) (zpc1 (zupc rfl) (g1))) (zr_25 i276_22))))) (fun h2754 => zr_0 i276_16 kc_0 (zr_25 i276_17))) (zm_r zz_e zz_e)))))))))
set_option maxRecDepth 100000 in
theorem s281_18 {L : Nat} (x1 x2 x3 : Int32) (S : zS) (g0 : (¬ ((S 13 57) ≤ x3)) → zx 40 x3) : zt L 281 18 [some (.inr (.inr 13)), some (.inl x1), some (.inl x2), some (.inl x3)] [] S (if ((S 13 57) ≤ x3) then (.inl (42, [some (.inr (.inr 13)), some (.inl x1), some (.inl x2), some (.inl x3)], [], S)) else (.inl (18, [some (.inr (.inr 13)), some (.inl x1), some (.inl (x2 + (zb (((S 122 x3.toNatClampNeg) = x1) ∧ (¬ ((S 125 x3.toNatClampNeg) = 2)))))), some (.inl (x3 + 1))], [], S))) := zr_1_3 i281_18 (zr_2_0 i281_19 (zr_6 i281_20 fl_13_57 rfl (zr_19_3 i281_21 (fun h2775 => zt_rfl) (fun h2776 => zr_1_2 i281_22 (zr_2_0 i281_23 (zr_6r i281_24 fl_13_60 (zr_1_3 i281_25 (zr_8 i281_26 ar_122 (g0 h2776) rfl rfl (zr_1_1 i281_27 (zt_trans (zt_cast (zr_19_1 i281_28 (fun h2777 => zr_2_0 i281_29 (zr_6r i281_30 fl_13_63 (zr_1_3 i281_31 (zr_8 i281_32 ar_125 (g0 h2776) rfl rfl (zr_0 i281_33 kc_2 (zt_cast (zr_19_0 i281_34 (fun h2779 => zr_0 i281_37 kc_0 (zt_rfl)) (fun h2780 => zr_0 i281_35 kc_1 (zr_17 i281_36 (zt_rfl)))) (zm_c zz_s (zl_c (zl_t zz_01) zz_s) zz_s))))))) (fun h2778 => zr_0 i281_37 kc_0 (zt_rfl))) (zm_c zz_s (zl_c (zl_t zz_b0) zz_s) zz_s)) (zr_13_0 i281_38 (zr_3_2 i281_39 (zr_5_3 i281_40 kc_1 (zr_17 i281_41 (zt_rfl)))))))))))))))
def k281_18 (x1 : Int32) (S : zS) (j : Nat) (a : Int32) : Int32 := (a + (zb (((S 122 j) = x1) ∧ (¬ ((S 125 j) = 2)))))
set_option maxRecDepth 100000 in
theorem l281_18 {L : Nat} (x1 : Int32) (S : zS) (i0 n : Nat) (a : Int32) (hn : i0 + n < 2147483648) (hc0 : ∀ j, j < n → ¬ ((S 13 57) ≤ (Int32.ofNat (i0 + j)))) (g0 : ∀ j, j < n → (¬ ((S 13 57) ≤ (Int32.ofNat (i0 + j)))) → zx 40 (Int32.ofNat (i0 + j))) : zt L 281 18 [some (.inr (.inr 13)), some (.inl x1), some (.inl a), some (.inl (Int32.ofNat i0))] [] S (.inl (18, [some (.inr (.inr 13)), some (.inl x1), some (.inl (zfold (k281_18 x1 S) i0 n a)), some (.inl (Int32.ofNat (i0 + n)))], [], S)) := by
  induction n with
  | zero => exact zt_rfl
  | succ n ih =>
    have e1 := zk_ix (i0 + n) (by omega)
    have e2 := zk_add (i0 + n)
    refine zt_trans (ih (by omega) (fun j hj => hc0 j (by omega)) (fun j hj => g0 j (by omega))) ?_
    refine zt_cast (s281_18 x1 (zfold (k281_18 x1 S) i0 n a) (Int32.ofNat (i0 + n)) S (by have hg := g0 n (by omega); first | exact hg | (simp only [e1]; exact hg))) ?_
    rw [if_neg (show ¬ ((S 13 57) ≤ (Int32.ofNat (i0 + n))) from (by have hg := hc0 n (by omega); first | exact hg | (simp only [e1]; exact hg)))]
    simp only [zfold, k281_18, e1, e2, ← Nat.add_assoc]
def K281_18 (x1 x2 : Int32) (i0 : Nat) (S : zS) : Int32 := zfold (k281_18 x1 S) i0 ((S 13 57).toNatClampNeg - i0) x2
def K281_18_c2 (x1 x2 : Int32) (i0 : Nat) (S : zS) : Int32 := (K281_18 x1 x2 i0 S)
set_option maxRecDepth 100000 in
theorem L281_18 {L : Nat} (x1 x2 : Int32) (i0 : Nat) (S : zS) (hi : i0 ≤ 10000) (h0 : zn 40 (S 13 57)) : zt L 281 18 [some (.inr (.inr 13)), some (.inl x1), some (.inl x2), some (.inl (Int32.ofNat i0))] [] S (.inl (42, [some (.inr (.inr 13)), some (.inl x1), some (.inl (K281_18_c2 x1 x2 i0 S)), some (.inl (Int32.ofNat (i0 + ((S 13 57).toNatClampNeg - i0))))], [], S)) := by
  have hend : (S 13 57) ≤ Int32.ofNat (i0 + ((S 13 57).toNatClampNeg - i0)) := by exact zc_le_end h0 (by omega)
  refine zt_trans (l281_18 x1  S i0 ((S 13 57).toNatClampNeg - i0) x2 (by have := zn_cl h0; omega) (fun j hj => by exact zc_le h0 hj (by omega)) (fun j hj _ => by exact zx_of (by have := zn_cl h0; omega) (by have := zn_cl h0; omega))) ?_
  exact zt_cast (s281_18 x1 (zfold (k281_18 x1 S) i0 ((S 13 57).toNatClampNeg - i0) x2) (Int32.ofNat (i0 + ((S 13 57).toNatClampNeg - i0))) S (fun h9 => absurd hend h9)) (if_pos hend)
def F281 (a : Int32) (S : zS) : Int32 := (if ((zb (¬ ((¬ (a < 0)) ∧ (¬ (2 < a))))) = 0) then ((K281_18_c2 a (S 129 a.toNatClampNeg) 0 (z_up S 13 0 (zb (¬ ((¬ (a < 0)) ∧ (¬ (2 < a))))))) : Int32) else 0)
set_option maxRecDepth 100000 in
theorem f281 {L : Nat} (a : Int32) (S : zS) (g0 : ((zb (¬ ((¬ (a < 0)) ∧ (¬ (2 < a))))) = 0) → zx 3 a) (g1 : zn 40 (S 13 57)) : zf L 281 [.inr (.inr 13), .inl a] S (.inl (some (.inl (F281 a S))), (z_up S 13 0 (zb (¬ ((¬ (a < 0)) ∧ (¬ (2 < a)))))), 0) := zf_of (en_281 _ _) (zr_2_0 i281_0 (zr_1_1 i281_1 (zr_cv (zs_22_1 i281_2 na_279 rfl) (f279 a S ) (zt_trans (zt_cast (zr_18b_0 i281_3 (fun h2781 => zr_0 i281_4 kc_0 (zr_17 i281_5 (zt_rfl))) (fun h2782 => zr_0 i281_6 kc_1 (zt_rfl))) (zm_c zz_s (zl_c (zl_t zz_01) zz_s) zz_s)) (zr_cv (zs_21_1 i281_7 na_212 ob_13 rfl) (f212 (zb (¬ ((¬ (a < 0)) ∧ (¬ (2 < a))))) S ) (zt_cast (zr_18b_1 i281_8 (fun h2783 => zr_2_0 i281_11 (zr_6r i281_12 fl_13_67 (zr_1_1 i281_13 (zr_8 i281_14 ar_129 (g0 h2783) rfl (zupci rfl) (zr_3_2 i281_15 (zr_0 i281_16 kc_0 (zr_3_3 i281_17 (zt_trans (L281_18 a (S 129 a.toNatClampNeg) 0 (z_up S 13 0 (zb (¬ ((¬ (a < 0)) ∧ (¬ (2 < a)))))) (by decide) (znv (zupf rfl) (g1))) (zr_1_2 i281_42 (zr_25 i281_43)))))))))) (fun h2784 => zr_0 i281_9 kc_0 (zr_25 i281_10))) (zm_r zz_e zz_s)))))))
set_option maxRecDepth 100000 in
theorem s282_6 {L : Nat} (x1 x2 x3 x4 x5 x6 x7 : Int32) (S : zS) (g0 : (¬ (3 ≤ x7)) → (x5 = 0) → zx 3 x7) (g1 : (¬ (3 ≤ x7)) → (¬ (x6 = 0)) → zx 3 x7) : zt L 282 6 [some (.inr (.inr 13)), some (.inl x1), some (.inl x2), some (.inl x3), some (.inl x4), some (.inl x5), some (.inl x6), some (.inl x7)] [] S (if (3 ≤ x7) then (.inl (38, [some (.inr (.inr 13)), some (.inl x1), some (.inl x2), some (.inl x3), some (.inl x4), some (.inl x5), some (.inl x6), some (.inl x7)], [], S)) else (.inl (6, [some (.inr (.inr 13)), some (.inl x1), some (.inl x2), some (.inl x3), some (.inl x4), some (.inl (zb ((¬ (x5 = 0)) ∨ (¬ ((S 144 x7.toNatClampNeg) = 0))))), some (.inl (zb ((¬ (x6 = 0)) ∧ (((S 144 x7.toNatClampNeg) = 0) ∨ (¬ ((S 145 x7.toNatClampNeg) = 0)))))), some (.inl (x7 + 1))], [], S))) := zr_1_7 i282_6 (zr_0 i282_7 kc_3 (zr_19_3 i282_8 (fun h2877 => zt_rfl) (fun h2878 => zr_1_5 i282_9 (zt_trans (zt_cast (zr_18_1 i282_10 (fun h2879 => zr_2_0 i282_11 (zr_6r i282_12 fl_13_85 (zr_1_7 i282_13 (zr_9 i282_14 ar_144 (g0 h2878 h2879) rfl rfl (zt_cast (zr_18_0 i282_15 (fun h2881 => zr_0 i282_18 kc_0 (zt_rfl)) (fun h2882 => zr_0 i282_16 kc_1 (zr_17 i282_17 (zt_rfl)))) (zm_c zz_s (zl_c (zl_t zz_01) zz_s) zz_s)))))) (fun h2880 => zr_0 i282_16 kc_1 (zr_17 i282_17 (zt_rfl)))) (zm_c zz_s (zl_c (zl_t zz_b1) zz_s) zz_s)) (zr_3_5 i282_19 (zr_1_6 i282_20 (zt_trans (zt_cast (zr_18_0 i282_21 (fun h2883 => zr_0 i282_34 kc_0 (zt_rfl)) (fun h2884 => zr_2_0 i282_22 (zr_6r i282_23 fl_13_85 (zr_1_7 i282_24 (zr_9 i282_25 ar_144 (g1 h2878 h2884) rfl rfl (zt_cast (zr_18_0 i282_26 (fun h2885 => zr_0 i282_32 kc_1 (zr_17 i282_33 (zt_rfl))) (fun h2886 => zr_2_0 i282_27 (zr_6r i282_28 fl_13_86 (zr_1_7 i282_29 (zr_9 i282_30 ar_145 (g1 h2878 h2884) rfl rfl (zt_cast (zr_18_0 i282_31 (fun h2887 => zr_0 i282_34 kc_0 (zt_rfl)) (fun h2888 => zr_0 i282_32 kc_1 (zr_17 i282_33 (zt_rfl)))) (zm_c zz_s (zl_c (zl_t zz_01) zz_s) zz_s))))))) (zm_c zz_s (zl_c (zl_t zz_1b) zz_s) zz_s))))))) (zm_c zz_s (zl_c (zl_t zz_0b) zz_s) zz_s)) (zr_3_6 i282_35 (zr_5_7 i282_36 kc_1 (zr_17 i282_37 (zt_rfl)))))))))))
def k282_6 (x1 x2 x3 x4 : Int32) (S : zS) (j : Nat) (a : Int32 × Int32) : Int32 × Int32 := ((zb ((¬ (a.1 = 0)) ∨ (¬ ((S 144 j) = 0)))), (zb ((¬ (a.2 = 0)) ∧ (((S 144 j) = 0) ∨ (¬ ((S 145 j) = 0))))))
set_option maxRecDepth 100000 in
theorem l282_6 {L : Nat} (x1 x2 x3 x4 : Int32) (S : zS) (i0 n : Nat) (a : Int32 × Int32) (hn : i0 + n < 2147483648) (hc0 : ∀ j, j < n → ¬ (3 ≤ (Int32.ofNat (i0 + j)))) (g0 : ∀ j, j < n → (¬ (3 ≤ (Int32.ofNat (i0 + j)))) → ((zfold (k282_6 x1 x2 x3 x4 S) i0 j a).1 = 0) → zx 3 (Int32.ofNat (i0 + j))) (g1 : ∀ j, j < n → (¬ (3 ≤ (Int32.ofNat (i0 + j)))) → (¬ ((zfold (k282_6 x1 x2 x3 x4 S) i0 j a).2 = 0)) → zx 3 (Int32.ofNat (i0 + j))) : zt L 282 6 [some (.inr (.inr 13)), some (.inl x1), some (.inl x2), some (.inl x3), some (.inl x4), some (.inl a.1), some (.inl a.2), some (.inl (Int32.ofNat i0))] [] S (.inl (6, [some (.inr (.inr 13)), some (.inl x1), some (.inl x2), some (.inl x3), some (.inl x4), some (.inl (zfold (k282_6 x1 x2 x3 x4 S) i0 n a).1), some (.inl (zfold (k282_6 x1 x2 x3 x4 S) i0 n a).2), some (.inl (Int32.ofNat (i0 + n)))], [], S)) := by
  induction n with
  | zero => exact zt_rfl
  | succ n ih =>
    have e1 := zk_ix (i0 + n) (by omega)
    have e2 := zk_add (i0 + n)
    refine zt_trans (ih (by omega) (fun j hj => hc0 j (by omega)) (fun j hj => g0 j (by omega)) (fun j hj => g1 j (by omega))) ?_
    refine zt_cast (s282_6 x1 x2 x3 x4 (zfold (k282_6 x1 x2 x3 x4 S) i0 n a).1 (zfold (k282_6 x1 x2 x3 x4 S) i0 n a).2 (Int32.ofNat (i0 + n)) S (by have hg := g0 n (by omega); first | exact hg | (simp only [e1]; exact hg)) (by have hg := g1 n (by omega); first | exact hg | (simp only [e1]; exact hg))) ?_
    rw [if_neg (show ¬ (3 ≤ (Int32.ofNat (i0 + n))) from (by have hg := hc0 n (by omega); first | exact hg | (simp only [e1]; exact hg)))]
    simp only [zfold, k282_6, e1, e2, ← Nat.add_assoc]
def K282_6 (x1 x2 x3 x4 x5 x6 : Int32) (i0 : Nat) (S : zS) : Int32 × Int32 := zfold (k282_6 x1 x2 x3 x4 S) i0 (3 - i0) (x5, x6)
def K282_6_c5 (x1 x2 x3 x4 x5 x6 : Int32) (i0 : Nat) (S : zS) : Int32 := (K282_6 x1 x2 x3 x4 x5 x6 i0 S).1
def K282_6_c6 (x1 x2 x3 x4 x5 x6 : Int32) (i0 : Nat) (S : zS) : Int32 := (K282_6 x1 x2 x3 x4 x5 x6 i0 S).2
set_option maxRecDepth 100000 in
theorem L282_6 {L : Nat} (x1 x2 x3 x4 x5 x6 : Int32) (i0 : Nat) (S : zS) (hi : i0 ≤ 10000) : zt L 282 6 [some (.inr (.inr 13)), some (.inl x1), some (.inl x2), some (.inl x3), some (.inl x4), some (.inl x5), some (.inl x6), some (.inl (Int32.ofNat i0))] [] S (.inl (38, [some (.inr (.inr 13)), some (.inl x1), some (.inl x2), some (.inl x3), some (.inl x4), some (.inl (K282_6_c5 x1 x2 x3 x4 x5 x6 i0 S)), some (.inl (K282_6_c6 x1 x2 x3 x4 x5 x6 i0 S)), some (.inl (Int32.ofNat (i0 + (3 - i0))))], [], S)) := by
  have hend : 3 ≤ Int32.ofNat (i0 + (3 - i0)) := by exact zc_le_end (show zn 3 3 from by unfold zn; decide) (by omega)
  refine zt_trans (l282_6 x1 x2 x3 x4  S i0 (3 - i0) (x5, x6) (by omega) (fun j hj => by exact zc_le (show zn 3 3 from by unfold zn; decide) hj (by omega)) (fun j hj _ _ => by exact zx_of (by omega) (by omega)) (fun j hj _ _ => by exact zx_of (by omega) (by omega))) ?_
  exact zt_cast (s282_6 x1 x2 x3 x4 (zfold (k282_6 x1 x2 x3 x4 S) i0 (3 - i0) (x5, x6)).1 (zfold (k282_6 x1 x2 x3 x4 S) i0 (3 - i0) (x5, x6)).2 (Int32.ofNat (i0 + (3 - i0))) S (fun h9 => absurd hend h9) (fun h9 => absurd hend h9)) (if_pos hend)
def F282 (a b c d : Int32) (S : zS) : Int32 := (if ((S 13 2) = 0) then ((if ((S 13 2) = 0) then ((-2) : Int32) else (-3)) : Int32) else (if ((K282_6_c5 a b c d 0 1 0 S) = 0) then ((if (((¬ (a < 0)) ∧ (¬ (((S 13 45) - 1) < a))) ∧ ((S 119 a.toNatClampNeg) = 0)) then ((if (((zshr (S 116 a.toNatClampNeg) b) &&& 1) = 0) then ((-4) : Int32) else (if ((S 87 (c / 36).toNatClampNeg) < (S 86 (c / 36).toNatClampNeg)) then ((if (((F257 a c (z_up (z_up S 117 a.toNatClampNeg ((S 117 a.toNatClampNeg) - (zb (¬ ((S 117 a.toNatClampNeg) = (-1)))))) 87 (c / 36).toNatClampNeg ((S 87 (c / 36).toNatClampNeg) + 1))) &&& d) = 0) then ((-6) : Int32) else 0) : Int32) else (-5))) : Int32) else (-4)) : Int32) else (if ((K282_6_c6 a b c d 0 1 0 S) = 0) then ((if (((¬ (a < 0)) ∧ (¬ (((S 13 45) - 1) < a))) ∧ ((S 119 a.toNatClampNeg) = 0)) then ((if (((zshr (S 116 a.toNatClampNeg) b) &&& 1) = 0) then ((-4) : Int32) else (if ((S 87 (c / 36).toNatClampNeg) < (S 86 (c / 36).toNatClampNeg)) then ((if (((F257 a c (z_up (z_up S 117 a.toNatClampNeg ((S 117 a.toNatClampNeg) - (zb (¬ ((S 117 a.toNatClampNeg) = (-1)))))) 87 (c / 36).toNatClampNeg ((S 87 (c / 36).toNatClampNeg) + 1))) &&& d) = 0) then ((-6) : Int32) else 0) : Int32) else (-5))) : Int32) else (-4)) : Int32) else (if ((S 13 2) = 0) then ((-2) : Int32) else (-3)))))
def G282 (a b c d : Int32) (S : zS) : zS := (if ((S 13 2) = 0) then S else (if ((K282_6_c5 a b c d 0 1 0 S) = 0) then (if (((¬ (a < 0)) ∧ (¬ (((S 13 45) - 1) < a))) ∧ ((S 119 a.toNatClampNeg) = 0)) then (if (((zshr (S 116 a.toNatClampNeg) b) &&& 1) = 0) then S else (if ((S 87 (c / 36).toNatClampNeg) < (S 86 (c / 36).toNatClampNeg)) then (z_up (z_up S 117 a.toNatClampNeg ((S 117 a.toNatClampNeg) - (zb (¬ ((S 117 a.toNatClampNeg) = (-1)))))) 87 (c / 36).toNatClampNeg ((S 87 (c / 36).toNatClampNeg) + 1)) else (z_up S 117 a.toNatClampNeg ((S 117 a.toNatClampNeg) - (zb (¬ ((S 117 a.toNatClampNeg) = (-1)))))))) else S) else (if ((K282_6_c6 a b c d 0 1 0 S) = 0) then (if (((¬ (a < 0)) ∧ (¬ (((S 13 45) - 1) < a))) ∧ ((S 119 a.toNatClampNeg) = 0)) then (if (((zshr (S 116 a.toNatClampNeg) b) &&& 1) = 0) then S else (if ((S 87 (c / 36).toNatClampNeg) < (S 86 (c / 36).toNatClampNeg)) then (z_up (z_up S 117 a.toNatClampNeg ((S 117 a.toNatClampNeg) - (zb (¬ ((S 117 a.toNatClampNeg) = (-1)))))) 87 (c / 36).toNatClampNeg ((S 87 (c / 36).toNatClampNeg) + 1)) else (z_up S 117 a.toNatClampNeg ((S 117 a.toNatClampNeg) - (zb (¬ ((S 117 a.toNatClampNeg) = (-1)))))))) else S) else S)))
set_option maxRecDepth 100000 in
theorem f282 {L : Nat} (a b c d : Int32) (S : zS) (g0 : (¬ ((S 13 2) = 0)) → ((K282_6_c5 a b c d 0 1 0 S) = 0) → ((¬ (a < 0)) ∧ (¬ (((S 13 45) - 1) < a))) → zx 40 a) (g1 : (¬ ((S 13 2) = 0)) → ((K282_6_c5 a b c d 0 1 0 S) = 0) → (((¬ (a < 0)) ∧ (¬ (((S 13 45) - 1) < a))) ∧ ((S 119 a.toNatClampNeg) = 0)) → zx 40 a) (g2 : (¬ ((S 13 2) = 0)) → ((K282_6_c5 a b c d 0 1 0 S) = 0) → (((¬ (a < 0)) ∧ (¬ (((S 13 45) - 1) < a))) ∧ ((S 119 a.toNatClampNeg) = 0)) → (¬ (((zshr (S 116 a.toNatClampNeg) b) &&& 1) = 0)) → zx 6 (c / 36)) (g3 : (¬ ((S 13 2) = 0)) → ((K282_6_c5 a b c d 0 1 0 S) = 0) → (((¬ (a < 0)) ∧ (¬ (((S 13 45) - 1) < a))) ∧ ((S 119 a.toNatClampNeg) = 0)) → (¬ (((zshr (S 116 a.toNatClampNeg) b) &&& 1) = 0)) → ((S 87 (c / 36).toNatClampNeg) < (S 86 (c / 36).toNatClampNeg)) → (¬ (((z_up (z_up S 117 a.toNatClampNeg ((S 117 a.toNatClampNeg) - (zb (¬ ((S 117 a.toNatClampNeg) = (-1)))))) 87 (c / 36).toNatClampNeg ((S 87 (c / 36).toNatClampNeg) + 1)) 111 a.toNatClampNeg) = (-1))) → zx 8 (S 111 a.toNatClampNeg)) (g4 : (¬ ((S 13 2) = 0)) → (¬ ((K282_6_c5 a b c d 0 1 0 S) = 0)) → ((K282_6_c6 a b c d 0 1 0 S) = 0) → ((¬ (a < 0)) ∧ (¬ (((S 13 45) - 1) < a))) → zx 40 a) (g5 : (¬ ((S 13 2) = 0)) → (¬ ((K282_6_c5 a b c d 0 1 0 S) = 0)) → ((K282_6_c6 a b c d 0 1 0 S) = 0) → (((¬ (a < 0)) ∧ (¬ (((S 13 45) - 1) < a))) ∧ ((S 119 a.toNatClampNeg) = 0)) → zx 40 a) (g6 : (¬ ((S 13 2) = 0)) → (¬ ((K282_6_c5 a b c d 0 1 0 S) = 0)) → ((K282_6_c6 a b c d 0 1 0 S) = 0) → (((¬ (a < 0)) ∧ (¬ (((S 13 45) - 1) < a))) ∧ ((S 119 a.toNatClampNeg) = 0)) → (¬ (((zshr (S 116 a.toNatClampNeg) b) &&& 1) = 0)) → zx 6 (c / 36)) (g7 : (¬ ((S 13 2) = 0)) → (¬ ((K282_6_c5 a b c d 0 1 0 S) = 0)) → ((K282_6_c6 a b c d 0 1 0 S) = 0) → (((¬ (a < 0)) ∧ (¬ (((S 13 45) - 1) < a))) ∧ ((S 119 a.toNatClampNeg) = 0)) → (¬ (((zshr (S 116 a.toNatClampNeg) b) &&& 1) = 0)) → ((S 87 (c / 36).toNatClampNeg) < (S 86 (c / 36).toNatClampNeg)) → (¬ (((z_up (z_up S 117 a.toNatClampNeg ((S 117 a.toNatClampNeg) - (zb (¬ ((S 117 a.toNatClampNeg) = (-1)))))) 87 (c / 36).toNatClampNeg ((S 87 (c / 36).toNatClampNeg) + 1)) 111 a.toNatClampNeg) = (-1))) → zx 8 (S 111 a.toNatClampNeg)) : zf L 282 [.inr (.inr 13), .inl a, .inl b, .inl c, .inl d] S (.inl (some (.inl (F282 a b c d S))), (G282 a b c d S), 0) := zf_of (en_282 _ _ _ _ _) (zr_0 i282_0 kc_0 (zr_3_5 i282_1 (zr_0 i282_2 kc_1 (zr_3_6 i282_3 (zr_0 i282_4 kc_0 (zr_3_7 i282_5 (zt_trans (L282_6 a b c d 0 1 0 S (by decide) ) (zr_2_0 i282_38 (zr_6 i282_39 fl_13_2 rfl (zt_cast (zr_18_0 i282_40 (fun h2889 => zr_2_0 i282_45 (zr_6 i282_46 fl_13_2 rfl (zt_trans (zt_cast (zr_18_0 i282_47 (fun h2891 => zr_0 i282_50 kc_m2 (zt_rfl)) (fun h2892 => zr_0 i282_48 kc_m3 (zr_17 i282_49 (zt_rfl)))) (zm_c zz_s (zl_c (zl_t zz_e) zz_s) zz_s)) (zr_25 i282_51)))) (fun h2890 => zr_1_5 i282_41 (zt_cast (zr_18_0 i282_42 (fun h2893 => zr_2_0 i282_52 (zr_1_1 i282_53 (zr_cv (zs_21_1 i282_54 na_259 ob_13 rfl) (f259 a S (fun h2895 => (g0 h2890 h2893 h2895))) (zt_cast (zr_18b_0 i282_55 (fun h2896 => zr_2_0 i282_56 (zr_6r i282_57 fl_13_53 (zr_1_1 i282_58 (zr_8 i282_59 ar_116 (g1 h2890 h2893 h2896) rfl rfl (zr_1_2 i282_60 (zr_13_9 i282_61 (zr_0 i282_62 kc_1 (zr_13_5 i282_63 (zt_cast (zr_18_1 i282_64 (fun h2898 => zr_0 i282_65 kc_m4 (zr_25 i282_66)) (fun h2899 => zr_2_0 i282_67 (zr_6r i282_68 fl_13_54 (zr_1_1 i282_69 (zr_15 i282_70 (zr_8 i282_71 ar_117 (g1 h2890 h2893 h2896) rfl rfl (zr_2_0 i282_72 (zr_6r i282_73 fl_13_54 (zr_1_1 i282_74 (zr_8 i282_75 ar_117 (g1 h2890 h2893 h2896) rfl rfl (zr_0 i282_76 kc_m1 (zt_trans (zt_cast (zr_19_1 i282_77 (fun h2900 => zr_0 i282_78 kc_0 (zr_17 i282_79 (zt_rfl))) (fun h2901 => zr_0 i282_80 kc_1 (zt_rfl))) (zm_c zz_s (zl_c (zl_t zz_01) zz_s) zz_s)) (zr_13_1 i282_81 (zr_10 i282_82 ar_117 (g1 h2890 h2893 h2896) rfl (zr_1_3 i282_83 (zr_cv (zs_22_1 i282_84 na_237 rfl) (f237 c (z_up S 117 a.toNatClampNeg ((S 117 a.toNatClampNeg) - (zb (¬ ((S 117 a.toNatClampNeg) = (-1)))))) ) (zr_3_7 i282_85 (zr_2_0 i282_86 (zr_6r i282_87 fl_13_22 (zr_1_7 i282_88 (zr_8 i282_89 ar_87 (g2 h2890 h2893 h2896 h2899) rfl (zupci rfl) (zr_2_0 i282_90 (zr_6r i282_91 fl_13_21 (zr_1_7 i282_92 (zr_8 i282_93 ar_86 (g2 h2890 h2893 h2896 h2899) rfl (zupci rfl) (zt_cast (zr_19_2 i282_94 (fun h2902 => zr_2_0 i282_97 (zr_6r i282_98 fl_13_22 (zr_1_7 i282_99 (zr_15 i282_100 (zr_8 i282_101 ar_87 (g2 h2890 h2893 h2896 h2899) rfl (zupci rfl) (zr_0 i282_102 kc_1 (zr_13_0 i282_103 (zr_10 i282_104 ar_87 (g2 h2890 h2893 h2896 h2899) rfl (zr_2_0 i282_105 (zr_1_1 i282_106 (zr_1_3 i282_107 (zr_cv (zs_21_2 i282_108 na_257 ob_13 rfl) (f257 a c (z_up (z_up S 117 a.toNatClampNeg ((S 117 a.toNatClampNeg) - (zb (¬ ((S 117 a.toNatClampNeg) = (-1)))))) 87 (c / 36).toNatClampNeg ((S 87 (c / 36).toNatClampNeg) + 1)) (g1 h2890 h2893 h2896) (fun h2904 => (zxc ((zupc rfl).trans (zupc rfl)) (g3 h2890 h2893 h2896 h2899 h2902 h2904)))) (zr_1_4 i282_109 (zr_13_5 i282_110 (zt_trans (zt_cast (zr_18_1 i282_111 (fun h2905 => zr_0 i282_112 kc_m6 (zr_17 i282_113 (zt_rfl))) (fun h2906 => zr_0 i282_114 kc_0 (zt_rfl))) (zm_c zz_s (zl_c (zl_t zz_e) zz_s) zz_s)) (zr_25 i282_115)))))))))))))))) (fun h2903 => zr_0 i282_95 kc_m5 (zr_25 i282_96))) (zm_r zz_e zz_e))))))))))))))))))))))))))) (zm_r zz_e zz_e)))))))))) (fun h2897 => zr_0 i282_65 kc_m4 (zr_25 i282_66))) (zm_r zz_e zz_e))))) (fun h2894 => zr_1_6 i282_43 (zt_cast (zr_18_0 i282_44 (fun h2907 => zr_2_0 i282_52 (zr_1_1 i282_53 (zr_cv (zs_21_1 i282_54 na_259 ob_13 rfl) (f259 a S (fun h2909 => (g4 h2890 h2894 h2907 h2909))) (zt_cast (zr_18b_0 i282_55 (fun h2910 => zr_2_0 i282_56 (zr_6r i282_57 fl_13_53 (zr_1_1 i282_58 (zr_8 i282_59 ar_116 (g5 h2890 h2894 h2907 h2910) rfl rfl (zr_1_2 i282_60 (zr_13_9 i282_61 (zr_0 i282_62 kc_1 (zr_13_5 i282_63 (zt_cast (zr_18_1 i282_64 (fun h2912 => zr_0 i282_65 kc_m4 (zr_25 i282_66)) (fun h2913 => zr_2_0 i282_67 (zr_6r i282_68 fl_13_54 (zr_1_1 i282_69 (zr_15 i282_70 (zr_8 i282_71 ar_117 (g5 h2890 h2894 h2907 h2910) rfl rfl (zr_2_0 i282_72 (zr_6r i282_73 fl_13_54 (zr_1_1 i282_74 (zr_8 i282_75 ar_117 (g5 h2890 h2894 h2907 h2910) rfl rfl (zr_0 i282_76 kc_m1 (zt_trans (zt_cast (zr_19_1 i282_77 (fun h2914 => zr_0 i282_78 kc_0 (zr_17 i282_79 (zt_rfl))) (fun h2915 => zr_0 i282_80 kc_1 (zt_rfl))) (zm_c zz_s (zl_c (zl_t zz_01) zz_s) zz_s)) (zr_13_1 i282_81 (zr_10 i282_82 ar_117 (g5 h2890 h2894 h2907 h2910) rfl (zr_1_3 i282_83 (zr_cv (zs_22_1 i282_84 na_237 rfl) (f237 c (z_up S 117 a.toNatClampNeg ((S 117 a.toNatClampNeg) - (zb (¬ ((S 117 a.toNatClampNeg) = (-1)))))) ) (zr_3_7 i282_85 (zr_2_0 i282_86 (zr_6r i282_87 fl_13_22 (zr_1_7 i282_88 (zr_8 i282_89 ar_87 (g6 h2890 h2894 h2907 h2910 h2913) rfl (zupci rfl) (zr_2_0 i282_90 (zr_6r i282_91 fl_13_21 (zr_1_7 i282_92 (zr_8 i282_93 ar_86 (g6 h2890 h2894 h2907 h2910 h2913) rfl (zupci rfl) (zt_cast (zr_19_2 i282_94 (fun h2916 => zr_2_0 i282_97 (zr_6r i282_98 fl_13_22 (zr_1_7 i282_99 (zr_15 i282_100 (zr_8 i282_101 ar_87 (g6 h2890 h2894 h2907 h2910 h2913) rfl (zupci rfl) (zr_0 i282_102 kc_1 (zr_13_0 i282_103 (zr_10 i282_104 ar_87 (g6 h2890 h2894 h2907 h2910 h2913) rfl (zr_2_0 i282_105 (zr_1_1 i282_106 (zr_1_3 i282_107 (zr_cv (zs_21_2 i282_108 na_257 ob_13 rfl) (f257 a c (z_up (z_up S 117 a.toNatClampNeg ((S 117 a.toNatClampNeg) - (zb (¬ ((S 117 a.toNatClampNeg) = (-1)))))) 87 (c / 36).toNatClampNeg ((S 87 (c / 36).toNatClampNeg) + 1)) (g5 h2890 h2894 h2907 h2910) (fun h2918 => (zxc ((zupc rfl).trans (zupc rfl)) (g7 h2890 h2894 h2907 h2910 h2913 h2916 h2918)))) (zr_1_4 i282_109 (zr_13_5 i282_110 (zt_trans (zt_cast (zr_18_1 i282_111 (fun h2919 => zr_0 i282_112 kc_m6 (zr_17 i282_113 (zt_rfl))) (fun h2920 => zr_0 i282_114 kc_0 (zt_rfl))) (zm_c zz_s (zl_c (zl_t zz_e) zz_s) zz_s)) (zr_25 i282_115)))))))))))))))) (fun h2917 => zr_0 i282_95 kc_m5 (zr_25 i282_96))) (zm_r zz_e zz_e))))))))))))))))))))))))))) (zm_r zz_e zz_e)))))))))) (fun h2911 => zr_0 i282_65 kc_m4 (zr_25 i282_66))) (zm_r zz_e zz_e))))) (fun h2908 => zr_2_0 i282_45 (zr_6 i282_46 fl_13_2 rfl (zt_trans (zt_cast (zr_18_0 i282_47 (fun h2921 => zr_0 i282_50 kc_m2 (zt_rfl)) (fun h2922 => zr_0 i282_48 kc_m3 (zr_17 i282_49 (zt_rfl)))) (zm_c zz_s (zl_c (zl_t zz_e) zz_s) zz_s)) (zr_25 i282_51))))) (zm_r zz_e zz_e)))) (zm_r zz_e zz_e)))) (zm_r zz_e zz_e)))))))))))
set_option maxRecDepth 100000 in
theorem s283_16 {L : Nat} (x1 x2 x3 x4 x5 x6 : Int32) (S : zS) (g0 : (¬ (3 ≤ x6)) → zx 3 x6) : zt L 283 16 [some (.inr (.inr 13)), some (.inl x1), some (.inl x2), some (.inl x3), some (.inl x4), some (.inl x5), some (.inl x6)] [] S (if (3 ≤ x6) then (.inl (66, [some (.inr (.inr 13)), some (.inl x1), some (.inl x2), some (.inl x3), some (.inl x4), some (.inl x5), some (.inl x6)], [], S)) else (.inl (16, [some (.inr (.inr 13)), some (.inl x1), some (.inl x2), some (.inl x3), some (.inl x4), some (.inl x5), some (.inl (x6 + 1))], [], (if ((S 144 x6.toNatClampNeg) = 0) then S else (if ((S 145 x6.toNatClampNeg) = 0) then (z_up S 147 x6.toNatClampNeg (zrem (((((31 * (S 147 x6.toNatClampNeg)) + (7 * (if ((¬ (x1 < 0)) ∧ (¬ (((S 13 45) - 1) < x1))) then (x1 : Int32) else 0))) + x2) + (1000 * x3)) + (x5 * (S 146 x6.toNatClampNeg))) 65521)) else S))))) := zr_1_6 i283_16 (zr_0 i283_17 kc_3 (zr_19_3 i283_18 (fun h2966 => zt_rfl) (fun h2967 => zr_2_0 i283_19 (zr_6r i283_20 fl_13_85 (zr_1_6 i283_21 (zr_9 i283_22 ar_144 (g0 h2967) rfl rfl (zt_trans (zt_cast (zr_18_0 i283_23 (fun h2968 => zt_rfl) (fun h2969 => zr_2_0 i283_24 (zr_6r i283_25 fl_13_86 (zr_1_6 i283_26 (zr_9 i283_27 ar_145 (g0 h2967) rfl rfl (zt_cast (zr_18_1 i283_28 (fun h2970 => zr_2_0 i283_29 (zr_6r i283_30 fl_13_88 (zr_1_6 i283_31 (zr_0 i283_32 kc_31 (zr_2_0 i283_33 (zr_6r i283_34 fl_13_88 (zr_1_6 i283_35 (zr_8 i283_36 ar_147 (g0 h2967) rfl rfl (zr_13_2 i283_37 (zr_0 i283_38 kc_7 (zr_2_0 i283_39 (zr_1_1 i283_40 (zr_cv (zs_21_1 i283_41 na_258 ob_13 rfl) (f258 x1 S ) (zt_trans (zt_cast (zr_18b_0 i283_42 (fun h2972 => zr_1_1 i283_43 (zr_17 i283_44 (zt_rfl))) (fun h2973 => zr_0 i283_45 kc_0 (zt_rfl))) (zm_c zz_s (zl_c (zl_t zz_e) zz_s) zz_s)) (zr_13_2 i283_46 (zr_13_0 i283_47 (zr_1_2 i283_48 (zr_13_0 i283_49 (zr_0 i283_50 kc_1000 (zr_1_3 i283_51 (zr_13_2 i283_52 (zr_13_0 i283_53 (zr_1_5 i283_54 (zr_2_0 i283_55 (zr_6r i283_56 fl_13_87 (zr_1_6 i283_57 (zr_8 i283_58 ar_146 (g0 h2967) rfl rfl (zr_13_2 i283_59 (zr_13_0 i283_60 (zr_0 i283_61 kc_65521 (zr_13_4 i283_62 nz_65521 (zr_10 i283_63 ar_147 (g0 h2967) rfl (zt_rfl))))))))))))))))))))))))))))))))) (fun h2971 => zt_rfl)) (zm_c zz_s zz_s zz_e))))))) (zm_c zz_s zz_s zz_e)) (zr_5_6 i283_64 kc_1 (zr_17 i283_65 (zt_rfl))))))))))
def k283_16 (x1 x2 x3 x4 x5 : Int32) (j : Nat) (a : zS) : zS := (if ((a 144 j) = 0) then a else (if ((a 145 j) = 0) then (z_up a 147 j (zrem (((((31 * (a 147 j)) + (7 * (if ((¬ (x1 < 0)) ∧ (¬ (((a 13 45) - 1) < x1))) then (x1 : Int32) else 0))) + x2) + (1000 * x3)) + (x5 * (a 146 j))) 65521)) else a))
set_option maxRecDepth 100000 in
theorem l283_16 {L : Nat} (x1 x2 x3 x4 x5 : Int32) (i0 n : Nat) (a : zS) (hn : i0 + n < 2147483648) (hc0 : ∀ j, j < n → ¬ (3 ≤ (Int32.ofNat (i0 + j)))) (g0 : ∀ j, j < n → (¬ (3 ≤ (Int32.ofNat (i0 + j)))) → zx 3 (Int32.ofNat (i0 + j))) : zt L 283 16 [some (.inr (.inr 13)), some (.inl x1), some (.inl x2), some (.inl x3), some (.inl x4), some (.inl x5), some (.inl (Int32.ofNat i0))] [] a (.inl (16, [some (.inr (.inr 13)), some (.inl x1), some (.inl x2), some (.inl x3), some (.inl x4), some (.inl x5), some (.inl (Int32.ofNat (i0 + n)))], [], (zfold (k283_16 x1 x2 x3 x4 x5 ) i0 n a))) := by
  induction n with
  | zero => exact zt_rfl
  | succ n ih =>
    have e1 := zk_ix (i0 + n) (by omega)
    have e2 := zk_add (i0 + n)
    refine zt_trans (ih (by omega) (fun j hj => hc0 j (by omega)) (fun j hj => g0 j (by omega))) ?_
    refine zt_cast (s283_16 x1 x2 x3 x4 x5 (Int32.ofNat (i0 + n)) (zfold (k283_16 x1 x2 x3 x4 x5 ) i0 n a) (by have hg := g0 n (by omega); first | exact hg | (simp only [e1]; exact hg))) ?_
    rw [if_neg (show ¬ (3 ≤ (Int32.ofNat (i0 + n))) from (by have hg := hc0 n (by omega); first | exact hg | (simp only [e1]; exact hg)))]
    simp only [zfold, k283_16, e1, e2, ← Nat.add_assoc]
def K283_16 (x1 x2 x3 x4 x5 : Int32) (i0 : Nat) (S : zS) : zS := zfold (k283_16 x1 x2 x3 x4 x5 ) i0 (3 - i0) S
def K283_16_S (x1 x2 x3 x4 x5 : Int32) (i0 : Nat) (S : zS) : zS := (K283_16 x1 x2 x3 x4 x5 i0 S)
set_option maxRecDepth 100000 in
theorem L283_16 {L : Nat} (x1 x2 x3 x4 x5 : Int32) (i0 : Nat) (S : zS) (hi : i0 ≤ 10000) : zt L 283 16 [some (.inr (.inr 13)), some (.inl x1), some (.inl x2), some (.inl x3), some (.inl x4), some (.inl x5), some (.inl (Int32.ofNat i0))] [] S (.inl (66, [some (.inr (.inr 13)), some (.inl x1), some (.inl x2), some (.inl x3), some (.inl x4), some (.inl x5), some (.inl (Int32.ofNat (i0 + (3 - i0))))], [], (K283_16_S x1 x2 x3 x4 x5 i0 S))) := by
  have hend : 3 ≤ Int32.ofNat (i0 + (3 - i0)) := by exact zc_le_end (show zn 3 3 from by unfold zn; decide) (by omega)
  refine zt_trans (l283_16 x1 x2 x3 x4 x5   i0 (3 - i0) S (by omega) (fun j hj => by exact zc_le (show zn 3 3 from by unfold zn; decide) hj (by omega)) (fun j hj _ => by exact zx_of (by omega) (by omega))) ?_
  exact zt_cast (s283_16 x1 x2 x3 x4 x5 (Int32.ofNat (i0 + (3 - i0))) (zfold (k283_16 x1 x2 x3 x4 x5 ) i0 (3 - i0) S) (fun h9 => absurd hend h9)) (if_pos hend)
set_option maxRecDepth 100000 in
theorem w_K283_16_S_13_45 (x1 x2 x3 x4 x5 : Int32) (i0 : Nat) (S : zS) : K283_16_S x1 x2 x3 x4 x5 i0 S 13 45 = S 13 45 := zfold_keep (fun b => b 13 45) ((fun j b => show (if ((b 144 j) = 0) then b else (if ((b 145 j) = 0) then (z_up b 147 j (zrem (((((31 * (b 147 j)) + (7 * (if ((¬ (x1 < 0)) ∧ (¬ (((b 13 45) - 1) < x1))) then (x1 : Int32) else 0))) + x2) + (1000 * x3)) + (x5 * (b 146 j))) 65521)) else b)) 13 45 = b 13 45 from (zite_rd rfl (zite_rd (zupci rfl) rfl)))) _ _
set_option maxRecDepth 100000 in
theorem w_K283_16_S_110 (x1 x2 x3 x4 x5 : Int32) (i0 : Nat) (S : zS) : K283_16_S x1 x2 x3 x4 x5 i0 S 110 = S 110 := zfold_keep (fun b => b 110) ((fun j b => show (if ((b 144 j) = 0) then b else (if ((b 145 j) = 0) then (z_up b 147 j (zrem (((((31 * (b 147 j)) + (7 * (if ((¬ (x1 < 0)) ∧ (¬ (((b 13 45) - 1) < x1))) then (x1 : Int32) else 0))) + x2) + (1000 * x3)) + (x5 * (b 146 j))) 65521)) else b)) 110 = b 110 from (zite_k rfl (zite_k (zupc rfl) rfl)))) _ _
set_option maxRecDepth 100000 in
theorem w_K283_16_S_13_57 (x1 x2 x3 x4 x5 : Int32) (i0 : Nat) (S : zS) : K283_16_S x1 x2 x3 x4 x5 i0 S 13 57 = S 13 57 := zfold_keep (fun b => b 13 57) ((fun j b => show (if ((b 144 j) = 0) then b else (if ((b 145 j) = 0) then (z_up b 147 j (zrem (((((31 * (b 147 j)) + (7 * (if ((¬ (x1 < 0)) ∧ (¬ (((b 13 45) - 1) < x1))) then (x1 : Int32) else 0))) + x2) + (1000 * x3)) + (x5 * (b 146 j))) 65521)) else b)) 13 57 = b 13 57 from (zite_rd rfl (zite_rd (zupci rfl) rfl)))) _ _
set_option maxRecDepth 100000 in
theorem w_K283_16_S_120 (x1 x2 x3 x4 x5 : Int32) (i0 : Nat) (S : zS) : K283_16_S x1 x2 x3 x4 x5 i0 S 120 = S 120 := zfold_keep (fun b => b 120) ((fun j b => show (if ((b 144 j) = 0) then b else (if ((b 145 j) = 0) then (z_up b 147 j (zrem (((((31 * (b 147 j)) + (7 * (if ((¬ (x1 < 0)) ∧ (¬ (((b 13 45) - 1) < x1))) then (x1 : Int32) else 0))) + x2) + (1000 * x3)) + (x5 * (b 146 j))) 65521)) else b)) 120 = b 120 from (zite_k rfl (zite_k (zupc rfl) rfl)))) _ _
set_option maxRecDepth 100000 in
theorem w_K283_16_S_122 (x1 x2 x3 x4 x5 : Int32) (i0 : Nat) (S : zS) : K283_16_S x1 x2 x3 x4 x5 i0 S 122 = S 122 := zfold_keep (fun b => b 122) ((fun j b => show (if ((b 144 j) = 0) then b else (if ((b 145 j) = 0) then (z_up b 147 j (zrem (((((31 * (b 147 j)) + (7 * (if ((¬ (x1 < 0)) ∧ (¬ (((b 13 45) - 1) < x1))) then (x1 : Int32) else 0))) + x2) + (1000 * x3)) + (x5 * (b 146 j))) 65521)) else b)) 122 = b 122 from (zite_k rfl (zite_k (zupc rfl) rfl)))) _ _
def G283 (a b c d : Int32) (S : zS) : zS := (if (((¬ (a < 0)) ∧ (¬ ((((if (d = (-2)) then S else (if (d = (-3)) then S else (K283_16_S a b c d (if (0 ≤ d) then (d : Int32) else (60000 + d)) 0 S))) 13 45) - 1) < a))) ∧ (((if (d = (-2)) then S else (if (d = (-3)) then S else (K283_16_S a b c d (if (0 ≤ d) then (d : Int32) else (60000 + d)) 0 S))) 119 a.toNatClampNeg) = 0)) then (if (((if (d = (-2)) then S else (if (d = (-3)) then S else (K283_16_S a b c d (if (0 ≤ d) then (d : Int32) else (60000 + d)) 0 S))) 117 a.toNatClampNeg) = 0) then (G264 a (if (d = (-2)) then S else (if (d = (-3)) then S else (K283_16_S a b c d (if (0 ≤ d) then (d : Int32) else (60000 + d)) 0 S)))) else (if (d = (-2)) then S else (if (d = (-3)) then S else (K283_16_S a b c d (if (0 ≤ d) then (d : Int32) else (60000 + d)) 0 S)))) else (if (d = (-2)) then S else (if (d = (-3)) then S else (K283_16_S a b c d (if (0 ≤ d) then (d : Int32) else (60000 + d)) 0 S))))
set_option maxRecDepth 100000 in
theorem f283 {L : Nat} (a b c d : Int32) (S : zS) (g0 : ((¬ (a < 0)) ∧ (¬ ((((if (d = (-2)) then S else (if (d = (-3)) then S else (K283_16_S a b c d (if (0 ≤ d) then (d : Int32) else (60000 + d)) 0 S))) 13 45) - 1) < a))) → zx 40 a) (g1 : (((¬ (a < 0)) ∧ (¬ ((((if (d = (-2)) then S else (if (d = (-3)) then S else (K283_16_S a b c d (if (0 ≤ d) then (d : Int32) else (60000 + d)) 0 S))) 13 45) - 1) < a))) ∧ (((if (d = (-2)) then S else (if (d = (-3)) then S else (K283_16_S a b c d (if (0 ≤ d) then (d : Int32) else (60000 + d)) 0 S))) 119 a.toNatClampNeg) = 0)) → zx 40 a) (g2 : zn 40 (S 13 45)) (g3 : zA 40 40 (S 110)) (g4 : (((¬ (a < 0)) ∧ (¬ ((((if (d = (-2)) then S else (if (d = (-3)) then S else (K283_16_S a b c d (if (0 ≤ d) then (d : Int32) else (60000 + d)) 0 S))) 13 45) - 1) < a))) ∧ (((if (d = (-2)) then S else (if (d = (-3)) then S else (K283_16_S a b c d (if (0 ≤ d) then (d : Int32) else (60000 + d)) 0 S))) 119 a.toNatClampNeg) = 0)) → (((if (d = (-2)) then S else (if (d = (-3)) then S else (K283_16_S a b c d (if (0 ≤ d) then (d : Int32) else (60000 + d)) 0 S))) 117 a.toNatClampNeg) = 0) → zn 10000 (a + 1)) (g5 : zn 40 (S 13 57)) (g6 : zA 40 40 (S 120)) (g7 : zA 40 3 (S 122)) : zf L 283 [.inr (.inr 13), .inl a, .inl b, .inl c, .inl d] S (.inl (some (.inl d)), (G283 a b c d S), 0) := zf_of (en_283 _ _ _ _ _) (zr_1_4 i283_0 (zr_0 i283_1 kc_m2 (zt_trans (zt_cast (zr_19_0 i283_2 (fun h2974 => zt_rfl) (fun h2975 => zr_1_4 i283_3 (zr_0 i283_4 kc_m3 (zt_cast (zr_19_0 i283_5 (fun h2976 => zt_rfl) (fun h2977 => zr_1_4 i283_6 (zt_trans (zt_cast (zr_18_3 i283_7 (fun h2978 => zr_1_4 i283_12 (zt_rfl)) (fun h2979 => zr_0 i283_8 kc_60000 (zr_1_4 i283_9 (zr_13_0 i283_10 (zr_17 i283_11 (zt_rfl)))))) (zm_c zz_s (zl_c (zl_t zz_e) zz_s) zz_s)) (zr_3_5 i283_13 (zr_0 i283_14 kc_0 (zr_3_6 i283_15 (zt_trans (L283_16 a b c d (if (0 ≤ d) then (d : Int32) else (60000 + d)) 0 S (by decide) ) (zt_rfl)))))))) (zm_c (zl_c zz_s (zl_c zz_s (zl_c zz_s (zl_c zz_s (zl_c zz_s (zl_c zz_e (zl_c zz_e zz_s))))))) zz_s zz_e))))) (zm_c (zl_c zz_s (zl_c zz_s (zl_c zz_s (zl_c zz_s (zl_c zz_s (zl_c zz_e (zl_c zz_e zz_s))))))) zz_s zz_e)) (zr_2_0 i283_66 (zr_1_1 i283_67 (zr_cv (zs_21_1 i283_68 na_259 ob_13 rfl) (f259 a (if (d = (-2)) then S else (if (d = (-3)) then S else (K283_16_S a b c d (if (0 ≤ d) then (d : Int32) else (60000 + d)) 0 S))) (fun h2980 => (g0 h2980))) (zt_trans (zt_cast (zr_18b_0 i283_69 (fun h2981 => zr_2_0 i283_70 (zr_6r i283_71 fl_13_54 (zr_1_1 i283_72 (zr_8 i283_73 ar_117 (g1 h2981) rfl rfl (zt_cast (zr_18_1 i283_74 (fun h2983 => zr_2_0 i283_75 (zr_1_1 i283_76 (zr_cv (zs_21_1 i283_77 na_264 ob_13 rfl) (f264 a (if (d = (-2)) then S else (if (d = (-3)) then S else (K283_16_S a b c d (if (0 ≤ d) then (d : Int32) else (60000 + d)) 0 S))) (g1 h2981) (znv (zite_rd rfl (zite_rd rfl (w_K283_16_S_13_45 _ _ _ _ _ _ _))) (g2)) (zpc1 (zite_k rfl (zite_k rfl (w_K283_16_S_110 _ _ _ _ _ _ _))) (g3)) (g4 h2981 h2983) (znv (zite_rd rfl (zite_rd rfl (w_K283_16_S_13_57 _ _ _ _ _ _ _))) (g5)) (zpc1 (zite_k rfl (zite_k rfl (w_K283_16_S_120 _ _ _ _ _ _ _))) (g6)) (zpc1 (zite_k rfl (zite_k rfl (w_K283_16_S_122 _ _ _ _ _ _ _))) (g7))) (zr_3_5 i283_78 (zt_rfl))))) (fun h2984 => zt_rfl)) (zm_c (zl_c zz_s (zl_c zz_s (zl_c zz_s (zl_c zz_s (zl_c zz_s (zl_c zz_e zz_s)))))) zz_s zz_e)))))) (fun h2982 => zt_rfl)) (zm_c (zl_c zz_s (zl_c zz_s (zl_c zz_s (zl_c zz_s (zl_c zz_s (zl_c zz_e zz_s)))))) zz_s zz_e)) (zr_1_4 i283_79 (zr_25 i283_80)))))))))
def F289 (a b c : Int32) (S : zS) : Int32 := (if ((F288 b c S) < 0) then ((F288 b c S) : Int32) else (if (((F257 a b S) / 16) = 0) then ((F288 b c S) : Int32) else (if ((S 13 72) = 20) then ((-11) : Int32) else (-10))))
def G289 (a b c : Int32) (S : zS) : zS := (if ((F288 b c S) < 0) then S else (if (((F257 a b S) / 16) = 0) then S else (if ((S 13 72) = 20) then S else (z_up (z_up (z_up (z_up (z_up (z_up (z_up S 133 (S 13 72).toNatClampNeg a) 134 (S 13 72).toNatClampNeg b) 135 (S 13 72).toNatClampNeg c) 136 (S 13 72).toNatClampNeg ((F257 a b S) / 16)) 137 (S 13 72).toNatClampNeg 0) 138 (S 13 72).toNatClampNeg 0) 13 72 ((S 13 72) + 1)))))
set_option maxRecDepth 100000 in
theorem f289 {L : Nat} (a b c : Int32) (S : zS) (g0 : (c = 0) → zx 216 b) (g1 : zx 6 (b / 36)) (g2 : ((S 84 (b / 36).toNatClampNeg) = 0) → (¬ ((if (c = 0) then ((S 88 b.toNatClampNeg) : Int32) else c) < 1)) → zx 216 b) (g3 : ((S 84 (b / 36).toNatClampNeg) = 0) → ((¬ ((if (c = 0) then ((S 88 b.toNatClampNeg) : Int32) else c) < 1)) ∧ ((¬ ((S 88 b.toNatClampNeg) < (if (c = 0) then ((S 88 b.toNatClampNeg) : Int32) else c))) ∧ (¬ ((if (c = 0) then ((S 88 b.toNatClampNeg) : Int32) else c) ≤ ((S 88 b.toNatClampNeg) - 4))))) → zx 864 ((4 * b) + (zrem (if (c = 0) then ((S 88 b.toNatClampNeg) : Int32) else c) 4))) (g4 : zx 40 a) (g5 : (¬ ((S 111 a.toNatClampNeg) = (-1))) → zx 8 (S 111 a.toNatClampNeg)) (g6 : (¬ ((F288 b c S) < 0)) → (¬ (((F257 a b S) / 16) = 0)) → (¬ ((S 13 72) = 20)) → zx 20 (S 13 72)) : zf L 289 [.inr (.inr 13), .inl a, .inl b, .inl c] S (.inl (some (.inl (F289 a b c S))), (G289 a b c S), 0) := zf_of (en_289 _ _ _ _) (zr_2_0 i289_0 (zr_1_2 i289_1 (zr_1_3 i289_2 (zr_cv (zs_21_2 i289_3 na_288 ob_13 rfl) (f288 b c S (fun h2985 => (g0 h2985)) (g1) (fun h2986 h2987 => (g2 h2986 h2987)) (fun h2988 h2989 => (g3 h2988 h2989))) (zr_3_4 i289_4 (zr_2_0 i289_5 (zr_1_1 i289_6 (zr_1_2 i289_7 (zr_cv (zs_21_2 i289_8 na_257 ob_13 rfl) (f257 a b S (g4) (fun h2990 => (g5 h2990))) (zr_0 i289_9 kc_16 (zr_13_3 i289_10 nz_16 (zr_3_5 i289_11 (zr_1_4 i289_12 (zt_cast (zr_18_2 i289_13 (fun h2991 => zr_1_4 i289_16 (zr_25 i289_17)) (fun h2992 => zr_1_5 i289_14 (zt_cast (zr_18_1 i289_15 (fun h2993 => zr_1_4 i289_16 (zr_25 i289_17)) (fun h2994 => zr_2_0 i289_18 (zr_6 i289_19 fl_13_72 rfl (zr_0 i289_20 kc_20 (zt_cast (zr_19_1 i289_21 (fun h2995 => zr_0 i289_22 kc_m11 (zr_25 i289_23)) (fun h2996 => zr_2_0 i289_24 (zr_6r i289_25 fl_13_73 (zr_2_0 i289_26 (zr_6 i289_27 fl_13_72 rfl (zr_1_1 i289_28 (zr_10 i289_29 ar_133 (g6 h2992 h2994 h2996) rfl (zr_2_0 i289_30 (zr_6r i289_31 fl_13_74 (zr_2_0 i289_32 (zr_6 i289_33 fl_13_72 (zupci rfl) (zr_1_2 i289_34 (zr_10 i289_35 ar_134 (g6 h2992 h2994 h2996) rfl (zr_2_0 i289_36 (zr_6r i289_37 fl_13_75 (zr_2_0 i289_38 (zr_6 i289_39 fl_13_72 ((zupci rfl).trans (zupci rfl)) (zr_1_3 i289_40 (zr_10 i289_41 ar_135 (g6 h2992 h2994 h2996) rfl (zr_2_0 i289_42 (zr_6r i289_43 fl_13_76 (zr_2_0 i289_44 (zr_6 i289_45 fl_13_72 ((zupci rfl).trans ((zupci rfl).trans (zupci rfl))) (zr_1_5 i289_46 (zr_10 i289_47 ar_136 (g6 h2992 h2994 h2996) rfl (zr_2_0 i289_48 (zr_6r i289_49 fl_13_77 (zr_2_0 i289_50 (zr_6 i289_51 fl_13_72 ((zupci rfl).trans ((zupci rfl).trans ((zupci rfl).trans (zupci rfl)))) (zr_0 i289_52 kc_0 (zr_10 i289_53 ar_137 (g6 h2992 h2994 h2996) rfl (zr_2_0 i289_54 (zr_6r i289_55 fl_13_78 (zr_2_0 i289_56 (zr_6 i289_57 fl_13_72 ((zupci rfl).trans ((zupci rfl).trans ((zupci rfl).trans ((zupci rfl).trans (zupci rfl))))) (zr_0 i289_58 kc_0 (zr_11 i289_59 ar_138 (g6 h2992 h2994 h2996) (zo_0) rfl (zr_2_0 i289_60 (zr_14r i289_61 (zr_6 i289_62 fl_13_72 ((zupci rfl).trans ((zupci rfl).trans ((zupci rfl).trans ((zupci rfl).trans ((zupci rfl).trans (zupci rfl)))))) (zr_0 i289_63 kc_1 (zr_13_0 i289_64 (zr_7 i289_65 fl_13_72 (zr_0 i289_66 kc_m10 (zr_25 i289_67))))))))))))))))))))))))))))))))))))))))))))) (zm_r zz_e zz_e)))))) (zm_r zz_e zz_e)))) (zm_r zz_e zz_e)))))))))))))))
