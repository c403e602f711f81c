/-! the methods with loops, and what calls them (wip/whole/gen/gen18.py) -/
theorem i223_0 : zi 223 0 1 1 1 0 := by decide +kernel
theorem i223_1 : zi 223 1 2 0 0 1 := by decide +kernel
theorem i223_2 : zi 223 2 3 2 0 0 := by decide +kernel
theorem i223_3 : zi 223 3 4 6 12 4 := by decide +kernel
theorem i223_4 : zi 223 4 5 22 213 0 := by decide +kernel
theorem i223_5 : zi 223 5 6 3 3 0 := by decide +kernel
theorem i223_6 : zi 223 6 7 2 0 0 := by decide +kernel
theorem i223_7 : zi 223 7 8 1 3 0 := by decide +kernel
theorem i223_8 : zi 223 8 9 18 11 1 := by decide +kernel
theorem i223_11 : zi 223 11 12 1 2 0 := by decide +kernel
theorem i223_12 : zi 223 12 13 0 0 0 := by decide +kernel
theorem i223_13 : zi 223 13 14 0 0 256 := by decide +kernel
theorem i223_14 : zi 223 14 15 22 213 0 := by decide +kernel
theorem i223_15 : zi 223 15 16 18 18 1 := by decide +kernel
theorem i223_18 : zi 223 18 19 2 0 0 := by decide +kernel
theorem i223_19 : zi 223 19 20 6 12 2 := by decide +kernel
theorem i223_20 : zi 223 20 21 18 23 0 := by decide +kernel
theorem i223_23 : zi 223 23 24 0 0 0 := by decide +kernel
theorem i223_21 : zi 223 21 22 0 0 3 := by decide +kernel
theorem i223_22 : zi 223 22 23 17 24 0 := by decide +kernel
theorem i223_16 : zi 223 16 17 0 0 2 := by decide +kernel
theorem i223_17 : zi 223 17 18 17 24 0 := by decide +kernel
theorem i223_9 : zi 223 9 10 0 0 1 := by decide +kernel
theorem i223_10 : zi 223 10 11 17 24 0 := by decide +kernel
theorem i223_24 : zi 223 24 25 21 212 12 := by decide +kernel
theorem i223_25 : zi 223 25 26 18 28 1 := by decide +kernel
theorem i223_28 : zi 223 28 29 2 0 0 := by decide +kernel
theorem i223_29 : zi 223 29 30 6 12 7 := by decide +kernel
theorem i223_30 : zi 223 30 31 1 1 0 := by decide +kernel
theorem i223_31 : zi 223 31 32 1 2 0 := by decide +kernel
theorem i223_32 : zi 223 32 33 10 0 0 := by decide +kernel
theorem i223_33 : zi 223 33 34 2 0 0 := by decide +kernel
theorem i223_34 : zi 223 34 35 6 12 7 := by decide +kernel
theorem i223_35 : zi 223 35 36 22 220 0 := by decide +kernel
theorem na_220 : z_na 220 = 1 := by decide +kernel
theorem i223_36 : zi 223 36 37 3 4 0 := by decide +kernel
theorem i223_37 : zi 223 37 38 1 4 0 := by decide +kernel
theorem i223_38 : zi 223 38 39 2 0 0 := by decide +kernel
theorem i223_39 : zi 223 39 40 6 12 5 := by decide +kernel
theorem i223_40 : zi 223 40 41 19 43 3 := by decide +kernel
theorem i223_43 : zi 223 43 44 2 0 0 := by decide +kernel
theorem i223_44 : zi 223 44 45 2 0 0 := by decide +kernel
theorem i223_45 : zi 223 45 46 6 12 7 := by decide +kernel
theorem i223_46 : zi 223 46 47 22 222 0 := by decide +kernel
theorem na_222 : z_na 222 = 1 := by decide +kernel
theorem i223_47 : zi 223 47 48 2 0 0 := by decide +kernel
theorem i223_48 : zi 223 48 49 6 12 3 := by decide +kernel
theorem i223_49 : zi 223 49 50 19 52 1 := by decide +kernel
theorem i223_50 : zi 223 50 51 0 0 1 := by decide +kernel
theorem i223_51 : zi 223 51 52 17 53 0 := by decide +kernel
theorem i223_52 : zi 223 52 53 0 0 0 := by decide +kernel
theorem i223_53 : zi 223 53 54 33 12 2 := by decide +kernel
theorem i223_54 : zi 223 54 55 2 0 0 := by decide +kernel
theorem i223_55 : zi 223 55 56 21 214 12 := by decide +kernel
theorem na_214 : z_na 214 = 0 := by decide +kernel
theorem i223_56 : zi 223 56 57 0 0 0 := by decide +kernel
theorem i223_57 : zi 223 57 58 25 0 0 := by decide +kernel
theorem i223_41 : zi 223 41 42 1 4 0 := by decide +kernel
theorem i223_42 : zi 223 42 43 25 0 0 := by decide +kernel
theorem i223_26 : zi 223 26 27 0 0 0 := by decide +kernel
theorem i223_27 : zi 223 27 28 25 0 0 := by decide +kernel
theorem ml_223 : z_ml 223 = 5 := by decide +kernel
theorem en_223 : ∀ (v0 v1 v2 : zV), z_ent 223 [v0, v1, v2] = [some v0, some v1, some v2, none, none] := fun v0 v1 v2 => by unfold z_ent; rw [ml_223]; rfl
theorem i224_0 : zi 224 0 1 2 0 0 := by decide +kernel
theorem i224_1 : zi 224 1 2 0 0 0 := by decide +kernel
theorem i224_2 : zi 224 2 3 7 12 0 := by decide +kernel
theorem i224_3 : zi 224 3 4 2 0 0 := by decide +kernel
theorem i224_4 : zi 224 4 5 6 12 2 := by decide +kernel
theorem i224_5 : zi 224 5 6 3 1 0 := by decide +kernel
theorem i224_6 : zi 224 6 7 2 0 0 := by decide +kernel
theorem i224_7 : zi 224 7 8 21 214 12 := by decide +kernel
theorem i224_8 : zi 224 8 9 2 0 0 := by decide +kernel
theorem i224_9 : zi 224 9 10 0 0 0 := by decide +kernel
theorem i224_10 : zi 224 10 11 33 12 2 := by decide +kernel
theorem i224_11 : zi 224 11 12 2 0 0 := by decide +kernel
theorem i224_12 : zi 224 12 13 0 0 0 := by decide +kernel
theorem i224_13 : zi 224 13 14 33 12 9 := by decide +kernel
theorem fl_13_9 : zfl 13 12 9 9 none := by decide +kernel
theorem i224_14 : zi 224 14 15 1 1 0 := by decide +kernel
theorem i224_15 : zi 224 15 16 26 0 0 := by decide +kernel
theorem ml_224 : z_ml 224 = 2 := by decide +kernel
theorem en_224 : ∀ (v0 : zV), z_ent 224 [v0] = [some v0, none] := fun v0 => by unfold z_ent; rw [ml_224]; rfl
theorem i226_0 : zi 226 0 1 2 0 0 := by decide +kernel
theorem i226_1 : zi 226 1 2 1 1 0 := by decide +kernel
theorem i226_2 : zi 226 2 3 1 2 0 := by decide +kernel
theorem i226_3 : zi 226 3 4 1 3 0 := by decide +kernel
theorem i226_4 : zi 226 4 5 22 217 0 := by decide +kernel
theorem i226_5 : zi 226 5 6 18 8 1 := by decide +kernel
theorem i226_8 : zi 226 8 9 2 0 0 := by decide +kernel
theorem i226_9 : zi 226 9 10 6 12 2 := by decide +kernel
theorem i226_10 : zi 226 10 11 18 13 0 := by decide +kernel
theorem i226_13 : zi 226 13 14 0 0 2 := by decide +kernel
theorem i226_11 : zi 226 11 12 0 0 0 := by decide +kernel
theorem i226_12 : zi 226 12 13 17 14 0 := by decide +kernel
theorem i226_6 : zi 226 6 7 0 0 1 := by decide +kernel
theorem i226_7 : zi 226 7 8 17 14 0 := by decide +kernel
theorem i226_14 : zi 226 14 15 21 212 12 := by decide +kernel
theorem i226_15 : zi 226 15 16 18 30 0 := by decide +kernel
theorem i226_16 : zi 226 16 17 2 0 0 := by decide +kernel
theorem i226_17 : zi 226 17 18 0 0 1 := by decide +kernel
theorem i226_18 : zi 226 18 19 33 12 9 := by decide +kernel
theorem i226_19 : zi 226 19 20 2 0 0 := by decide +kernel
theorem i226_20 : zi 226 20 21 1 1 0 := by decide +kernel
theorem i226_21 : zi 226 21 22 7 12 10 := by decide +kernel
theorem fl_13_10 : zfl 13 12 10 10 none := by decide +kernel
theorem i226_22 : zi 226 22 23 2 0 0 := by decide +kernel
theorem i226_23 : zi 226 23 24 1 2 0 := by decide +kernel
theorem i226_24 : zi 226 24 25 7 12 11 := by decide +kernel
theorem fl_13_11 : zfl 13 12 11 11 none := by decide +kernel
theorem i226_25 : zi 226 25 26 2 0 0 := by decide +kernel
theorem i226_26 : zi 226 26 27 1 3 0 := by decide +kernel
theorem i226_27 : zi 226 27 28 7 12 12 := by decide +kernel
theorem fl_13_12 : zfl 13 12 12 12 none := by decide +kernel
theorem i226_28 : zi 226 28 29 2 0 0 := by decide +kernel
theorem i226_29 : zi 226 29 30 21 214 12 := by decide +kernel
theorem i226_30 : zi 226 30 31 27 0 0 := by decide +kernel
theorem ml_226 : z_ml 226 = 4 := by decide +kernel
theorem en_226 : ∀ (v0 v1 v2 v3 : zV), z_ent 226 [v0, v1, v2, v3] = [some v0, some v1, some v2, some v3] := fun v0 v1 v2 v3 => by unfold z_ent; rw [ml_226]; rfl
theorem i227_0 : zi 227 0 1 1 1 0 := by decide +kernel
theorem i227_1 : zi 227 1 2 0 0 1 := by decide +kernel
theorem i227_2 : zi 227 2 3 2 0 0 := by decide +kernel
theorem i227_3 : zi 227 3 4 6 12 4 := by decide +kernel
theorem i227_4 : zi 227 4 5 22 213 0 := by decide +kernel
theorem i227_5 : zi 227 5 6 3 3 0 := by decide +kernel
theorem i227_6 : zi 227 6 7 2 0 0 := by decide +kernel
theorem i227_7 : zi 227 7 8 1 3 0 := by decide +kernel
theorem i227_8 : zi 227 8 9 18 11 1 := by decide +kernel
theorem i227_11 : zi 227 11 12 1 2 0 := by decide +kernel
theorem i227_12 : zi 227 12 13 0 0 0 := by decide +kernel
theorem i227_13 : zi 227 13 14 0 0 256 := by decide +kernel
theorem i227_14 : zi 227 14 15 22 213 0 := by decide +kernel
theorem i227_15 : zi 227 15 16 18 18 1 := by decide +kernel
theorem i227_18 : zi 227 18 19 2 0 0 := by decide +kernel
theorem i227_19 : zi 227 19 20 6 12 9 := by decide +kernel
theorem i227_20 : zi 227 20 21 18 23 0 := by decide +kernel
theorem i227_23 : zi 227 23 24 0 0 3 := by decide +kernel
theorem i227_21 : zi 227 21 22 0 0 0 := by decide +kernel
theorem i227_22 : zi 227 22 23 17 24 0 := by decide +kernel
theorem i227_16 : zi 227 16 17 0 0 2 := by decide +kernel
theorem i227_17 : zi 227 17 18 17 24 0 := by decide +kernel
theorem i227_9 : zi 227 9 10 0 0 1 := by decide +kernel
theorem i227_10 : zi 227 10 11 17 24 0 := by decide +kernel
theorem i227_24 : zi 227 24 25 21 212 12 := by decide +kernel
theorem i227_25 : zi 227 25 26 18 28 1 := by decide +kernel
theorem i227_28 : zi 227 28 29 2 0 0 := by decide +kernel
theorem i227_29 : zi 227 29 30 6 12 8 := by decide +kernel
theorem i227_30 : zi 227 30 31 1 1 0 := by decide +kernel
theorem i227_31 : zi 227 31 32 1 2 0 := by decide +kernel
theorem i227_32 : zi 227 32 33 10 0 0 := by decide +kernel
theorem i227_33 : zi 227 33 34 2 0 0 := by decide +kernel
theorem i227_34 : zi 227 34 35 6 12 8 := by decide +kernel
theorem i227_35 : zi 227 35 36 22 220 0 := by decide +kernel
theorem i227_36 : zi 227 36 37 3 4 0 := by decide +kernel
theorem i227_37 : zi 227 37 38 1 4 0 := by decide +kernel
theorem i227_38 : zi 227 38 39 2 0 0 := by decide +kernel
theorem i227_39 : zi 227 39 40 6 12 5 := by decide +kernel
theorem i227_40 : zi 227 40 41 19 43 3 := by decide +kernel
theorem i227_43 : zi 227 43 44 2 0 0 := by decide +kernel
theorem i227_44 : zi 227 44 45 6 12 8 := by decide +kernel
theorem i227_45 : zi 227 45 46 22 222 0 := by decide +kernel
theorem i227_46 : zi 227 46 47 2 0 0 := by decide +kernel
theorem i227_47 : zi 227 47 48 6 12 3 := by decide +kernel
theorem i227_48 : zi 227 48 49 19 51 1 := by decide +kernel
theorem i227_49 : zi 227 49 50 0 0 1 := by decide +kernel
theorem i227_50 : zi 227 50 51 17 52 0 := by decide +kernel
theorem i227_51 : zi 227 51 52 0 0 0 := by decide +kernel
theorem i227_52 : zi 227 52 53 3 5 0 := by decide +kernel
theorem i227_53 : zi 227 53 54 2 0 0 := by decide +kernel
theorem i227_54 : zi 227 54 55 0 0 0 := by decide +kernel
theorem i227_55 : zi 227 55 56 33 12 9 := by decide +kernel
theorem i227_56 : zi 227 56 57 2 0 0 := by decide +kernel
theorem i227_57 : zi 227 57 58 21 214 12 := by decide +kernel
theorem i227_58 : zi 227 58 59 1 5 0 := by decide +kernel
theorem i227_59 : zi 227 59 60 18 68 0 := by decide +kernel
theorem i227_60 : zi 227 60 61 2 0 0 := by decide +kernel
theorem i227_61 : zi 227 61 62 2 0 0 := by decide +kernel
theorem i227_62 : zi 227 62 63 6 12 10 := by decide +kernel
theorem i227_63 : zi 227 63 64 2 0 0 := by decide +kernel
theorem i227_64 : zi 227 64 65 6 12 11 := by decide +kernel
theorem i227_65 : zi 227 65 66 2 0 0 := by decide +kernel
theorem i227_66 : zi 227 66 67 6 12 12 := by decide +kernel
theorem i227_67 : zi 227 67 68 21 216 12 := by decide +kernel
theorem i227_68 : zi 227 68 69 0 0 0 := by decide +kernel
theorem i227_69 : zi 227 69 70 25 0 0 := by decide +kernel
theorem i227_41 : zi 227 41 42 1 4 0 := by decide +kernel
theorem i227_42 : zi 227 42 43 25 0 0 := by decide +kernel
theorem i227_26 : zi 227 26 27 0 0 0 := by decide +kernel
theorem i227_27 : zi 227 27 28 25 0 0 := by decide +kernel
theorem ml_227 : z_ml 227 = 6 := by decide +kernel
theorem en_227 : ∀ (v0 v1 v2 : zV), z_ent 227 [v0, v1, v2] = [some v0, some v1, some v2, none, none, none] := fun v0 v1 v2 => by unfold z_ent; rw [ml_227]; rfl
theorem i234_0 : zi 234 0 1 2 0 0 := by decide +kernel
theorem i234_1 : zi 234 1 2 1 1 0 := by decide +kernel
theorem i234_2 : zi 234 2 3 0 0 1 := by decide +kernel
theorem i234_3 : zi 234 3 4 0 0 50 := by decide +kernel
theorem i234_4 : zi 234 4 5 22 213 0 := by decide +kernel
theorem i234_5 : zi 234 5 6 18 8 1 := by decide +kernel
theorem i234_8 : zi 234 8 9 2 0 0 := by decide +kernel
theorem i234_9 : zi 234 9 10 6 12 2 := by decide +kernel
theorem i234_10 : zi 234 10 11 18 13 0 := by decide +kernel
theorem i234_13 : zi 234 13 14 0 0 2 := by decide +kernel
theorem i234_11 : zi 234 11 12 0 0 0 := by decide +kernel
theorem i234_12 : zi 234 12 13 17 14 0 := by decide +kernel
theorem i234_6 : zi 234 6 7 0 0 1 := by decide +kernel
theorem i234_7 : zi 234 7 8 17 14 0 := by decide +kernel
theorem i234_14 : zi 234 14 15 21 212 12 := by decide +kernel
theorem i234_15 : zi 234 15 16 18 18 1 := by decide +kernel
theorem i234_18 : zi 234 18 19 0 0 0 := by decide +kernel
theorem i234_19 : zi 234 19 20 3 2 0 := by decide +kernel
theorem i234_20 : zi 234 20 21 2 0 0 := by decide +kernel
theorem i234_21 : zi 234 21 22 6 12 13 := by decide +kernel
theorem i234_22 : zi 234 22 23 3 3 0 := by decide +kernel
theorem i234_23 : zi 234 23 24 0 0 0 := by decide +kernel
theorem i234_24 : zi 234 24 25 3 4 0 := by decide +kernel
theorem i234_16 : zi 234 16 17 0 0 0 := by decide +kernel
theorem i234_17 : zi 234 17 18 25 0 0 := by decide +kernel
theorem i234_25 : zi 234 25 26 1 4 0 := by decide +kernel
theorem i234_26 : zi 234 26 27 0 0 216 := by decide +kernel
theorem i234_27 : zi 234 27 28 19 91 3 := by decide +kernel
theorem i234_28 : zi 234 28 29 2 0 0 := by decide +kernel
theorem i234_29 : zi 234 29 30 6 12 23 := by decide +kernel
theorem i234_30 : zi 234 30 31 1 4 0 := by decide +kernel
theorem i234_31 : zi 234 31 32 8 0 0 := by decide +kernel
theorem i234_32 : zi 234 32 33 0 0 4 := by decide +kernel
theorem i234_33 : zi 234 33 34 13 1 0 := by decide +kernel
theorem i234_34 : zi 234 34 35 0 0 1 := by decide +kernel
theorem i234_35 : zi 234 35 36 13 0 0 := by decide +kernel
theorem i234_36 : zi 234 36 37 3 5 0 := by decide +kernel
theorem i234_91 : zi 234 91 92 1 2 0 := by decide +kernel
theorem i234_92 : zi 234 92 93 25 0 0 := by decide +kernel
theorem i234_37 : zi 234 37 38 1 5 0 := by decide +kernel
theorem i234_38 : zi 234 38 39 2 0 0 := by decide +kernel
theorem i234_39 : zi 234 39 40 6 12 23 := by decide +kernel
theorem i234_40 : zi 234 40 41 1 4 0 := by decide +kernel
theorem i234_41 : zi 234 41 42 8 0 0 := by decide +kernel
theorem i234_42 : zi 234 42 43 19 89 4 := by decide +kernel
theorem i234_43 : zi 234 43 44 1 2 0 := by decide +kernel
theorem i234_44 : zi 234 44 45 1 1 0 := by decide +kernel
theorem i234_45 : zi 234 45 46 19 89 3 := by decide +kernel
theorem i234_46 : zi 234 46 47 0 0 4 := by decide +kernel
theorem i234_47 : zi 234 47 48 1 4 0 := by decide +kernel
theorem i234_48 : zi 234 48 49 13 2 0 := by decide +kernel
theorem i234_49 : zi 234 49 50 1 5 0 := by decide +kernel
theorem i234_50 : zi 234 50 51 0 0 4 := by decide +kernel
theorem i234_51 : zi 234 51 52 13 0 0 := by decide +kernel
theorem i234_52 : zi 234 52 53 0 0 4 := by decide +kernel
theorem i234_53 : zi 234 53 54 13 4 0 := by decide +kernel
theorem i234_54 : zi 234 54 55 13 0 0 := by decide +kernel
theorem i234_55 : zi 234 55 56 3 6 0 := by decide +kernel
theorem i234_56 : zi 234 56 57 2 0 0 := by decide +kernel
theorem i234_57 : zi 234 57 58 1 4 0 := by decide +kernel
theorem i234_58 : zi 234 58 59 1 5 0 := by decide +kernel
theorem i234_59 : zi 234 59 60 21 233 12 := by decide +kernel
theorem i234_60 : zi 234 60 61 18 87 0 := by decide +kernel
theorem i234_61 : zi 234 61 62 2 0 0 := by decide +kernel
theorem i234_62 : zi 234 62 63 6 12 26 := by decide +kernel
theorem i234_63 : zi 234 63 64 1 6 0 := by decide +kernel
theorem i234_64 : zi 234 64 65 8 0 0 := by decide +kernel
theorem i234_65 : zi 234 65 66 0 0 2 := by decide +kernel
theorem i234_66 : zi 234 66 67 19 87 0 := by decide +kernel
theorem i234_67 : zi 234 67 68 2 0 0 := by decide +kernel
theorem i234_68 : zi 234 68 69 6 12 25 := by decide +kernel
theorem i234_69 : zi 234 69 70 1 6 0 := by decide +kernel
theorem i234_70 : zi 234 70 71 8 0 0 := by decide +kernel
theorem i234_71 : zi 234 71 72 1 3 0 := by decide +kernel
theorem i234_72 : zi 234 72 73 19 87 3 := by decide +kernel
theorem i234_73 : zi 234 73 74 2 0 0 := by decide +kernel
theorem i234_74 : zi 234 74 75 6 12 25 := by decide +kernel
theorem i234_75 : zi 234 75 76 1 6 0 := by decide +kernel
theorem i234_76 : zi 234 76 77 8 0 0 := by decide +kernel
theorem i234_77 : zi 234 77 78 2 0 0 := by decide +kernel
theorem i234_78 : zi 234 78 79 6 12 18 := by decide +kernel
theorem i234_79 : zi 234 79 80 19 87 2 := by decide +kernel
theorem i234_80 : zi 234 80 81 2 0 0 := by decide +kernel
theorem i234_81 : zi 234 81 82 6 12 25 := by decide +kernel
theorem i234_82 : zi 234 82 83 1 6 0 := by decide +kernel
theorem i234_83 : zi 234 83 84 2 0 0 := by decide +kernel
theorem i234_84 : zi 234 84 85 21 229 12 := by decide +kernel
theorem i234_85 : zi 234 85 86 10 0 0 := by decide +kernel
theorem i234_86 : zi 234 86 87 5 2 1 := by decide +kernel
theorem i234_87 : zi 234 87 88 5 5 1 := by decide +kernel
theorem i234_88 : zi 234 88 89 17 37 0 := by decide +kernel
theorem i234_89 : zi 234 89 90 5 4 1 := by decide +kernel
theorem i234_90 : zi 234 90 91 17 25 0 := by decide +kernel
theorem ml_234 : z_ml 234 = 7 := by decide +kernel
theorem en_234 : ∀ (v0 v1 : zV), z_ent 234 [v0, v1] = [some v0, some v1, none, none, none, none, none] := fun v0 v1 => by unfold z_ent; rw [ml_234]; rfl
theorem i271_0 : zi 271 0 1 0 0 0 := by decide +kernel
theorem i271_1 : zi 271 1 2 3 3 0 := by decide +kernel
theorem i271_2 : zi 271 2 3 0 0 0 := by decide +kernel
theorem i271_3 : zi 271 3 4 3 4 0 := by decide +kernel
theorem i271_4 : zi 271 4 5 1 4 0 := by decide +kernel
theorem i271_5 : zi 271 5 6 2 0 0 := by decide +kernel
theorem i271_6 : zi 271 6 7 6 12 57 := by decide +kernel
theorem i271_7 : zi 271 7 8 19 43 3 := by decide +kernel
theorem i271_8 : zi 271 8 9 2 0 0 := by decide +kernel
theorem i271_9 : zi 271 9 10 6 12 63 := by decide +kernel
theorem i271_10 : zi 271 10 11 1 4 0 := by decide +kernel
theorem i271_11 : zi 271 11 12 8 0 0 := by decide +kernel
theorem i271_12 : zi 271 12 13 18 33 1 := by decide +kernel
theorem i271_13 : zi 271 13 14 2 0 0 := by decide +kernel
theorem i271_14 : zi 271 14 15 6 12 59 := by decide +kernel
theorem i271_15 : zi 271 15 16 1 4 0 := by decide +kernel
theorem i271_16 : zi 271 16 17 8 0 0 := by decide +kernel
theorem i271_17 : zi 271 17 18 22 237 0 := by decide +kernel
theorem i271_18 : zi 271 18 19 1 1 0 := by decide +kernel
theorem i271_19 : zi 271 19 20 19 33 1 := by decide +kernel
theorem i271_20 : zi 271 20 21 1 2 0 := by decide +kernel
theorem i271_21 : zi 271 21 22 0 0 (-1) := by decide +kernel
theorem i271_22 : zi 271 22 23 19 31 0 := by decide +kernel
theorem i271_31 : zi 271 31 32 0 0 1 := by decide +kernel
theorem i271_32 : zi 271 32 33 17 34 0 := by decide +kernel
theorem i271_23 : zi 271 23 24 2 0 0 := by decide +kernel
theorem i271_24 : zi 271 24 25 6 12 59 := by decide +kernel
theorem i271_25 : zi 271 25 26 1 4 0 := by decide +kernel
theorem i271_26 : zi 271 26 27 8 0 0 := by decide +kernel
theorem i271_27 : zi 271 27 28 0 0 1 := by decide +kernel
theorem i271_28 : zi 271 28 29 22 253 0 := by decide +kernel
theorem na_253 : z_na 253 = 2 := by decide +kernel
theorem i271_29 : zi 271 29 30 1 2 0 := by decide +kernel
theorem i271_30 : zi 271 30 31 19 33 1 := by decide +kernel
theorem i271_33 : zi 271 33 34 0 0 0 := by decide +kernel
theorem i271_34 : zi 271 34 35 3 5 0 := by decide +kernel
theorem i271_35 : zi 271 35 36 1 5 0 := by decide +kernel
theorem i271_36 : zi 271 36 37 18 41 0 := by decide +kernel
theorem i271_37 : zi 271 37 38 2 0 0 := by decide +kernel
theorem i271_38 : zi 271 38 39 1 4 0 := by decide +kernel
theorem i271_39 : zi 271 39 40 21 270 12 := by decide +kernel
theorem na_270 : z_na 270 = 1 := by decide +kernel
theorem i271_40 : zi 271 40 41 5 3 1 := by decide +kernel
theorem i271_41 : zi 271 41 42 5 4 1 := by decide +kernel
theorem i271_42 : zi 271 42 43 17 4 0 := by decide +kernel
theorem i271_43 : zi 271 43 44 1 3 0 := by decide +kernel
theorem i271_44 : zi 271 44 45 25 0 0 := by decide +kernel
theorem ml_271 : z_ml 271 = 6 := by decide +kernel
theorem en_271 : ∀ (v0 v1 v2 : zV), z_ent 271 [v0, v1, v2] = [some v0, some v1, some v2, none, none, none] := fun v0 v1 v2 => by unfold z_ent; rw [ml_271]; rfl
theorem i238_0 : zi 238 0 1 0 0 36 := by decide +kernel
theorem i238_1 : zi 238 1 2 1 1 0 := by decide +kernel
theorem i238_2 : zi 238 2 3 13 2 0 := by decide +kernel
theorem i238_3 : zi 238 3 4 3 2 0 := by decide +kernel
theorem i238_4 : zi 238 4 5 1 2 0 := by decide +kernel
theorem i238_5 : zi 238 5 6 0 0 36 := by decide +kernel
theorem i238_6 : zi 238 6 7 1 1 0 := by decide +kernel
theorem i238_7 : zi 238 7 8 13 2 0 := by decide +kernel
theorem i238_8 : zi 238 8 9 0 0 36 := by decide +kernel
theorem i238_9 : zi 238 9 10 13 0 0 := by decide +kernel
theorem i238_10 : zi 238 10 11 19 23 3 := by decide +kernel
theorem i238_11 : zi 238 11 12 2 0 0 := by decide +kernel
theorem i238_12 : zi 238 12 13 6 12 23 := by decide +kernel
theorem i238_13 : zi 238 13 14 1 2 0 := by decide +kernel
theorem i238_14 : zi 238 14 15 0 0 0 := by decide +kernel
theorem i238_15 : zi 238 15 16 10 0 0 := by decide +kernel
theorem i238_16 : zi 238 16 17 2 0 0 := by decide +kernel
theorem i238_17 : zi 238 17 18 6 12 27 := by decide +kernel
theorem fl_13_27 : zfl 13 12 27 27 (some 92) := by decide +kernel
theorem i238_18 : zi 238 18 19 1 2 0 := by decide +kernel
theorem i238_19 : zi 238 19 20 0 0 0 := by decide +kernel
theorem i238_20 : zi 238 20 21 10 0 0 := by decide +kernel
theorem ar_92 : zar 92 0 216 := by decide +kernel
theorem i238_21 : zi 238 21 22 5 2 1 := by decide +kernel
theorem i238_22 : zi 238 22 23 17 4 0 := by decide +kernel
theorem i238_23 : zi 238 23 24 0 0 0 := by decide +kernel
theorem i238_24 : zi 238 24 25 3 2 0 := by decide +kernel
theorem i238_25 : zi 238 25 26 0 0 0 := by decide +kernel
theorem i238_26 : zi 238 26 27 3 3 0 := by decide +kernel
theorem i238_27 : zi 238 27 28 1 3 0 := by decide +kernel
theorem i238_28 : zi 238 28 29 2 0 0 := by decide +kernel
theorem i238_29 : zi 238 29 30 6 12 36 := by decide +kernel
theorem i238_30 : zi 238 30 31 19 64 3 := by decide +kernel
theorem i238_31 : zi 238 31 32 2 0 0 := by decide +kernel
theorem i238_32 : zi 238 32 33 6 12 31 := by decide +kernel
theorem i238_33 : zi 238 33 34 1 3 0 := by decide +kernel
theorem i238_34 : zi 238 34 35 8 0 0 := by decide +kernel
theorem i238_35 : zi 238 35 36 22 237 0 := by decide +kernel
theorem i238_36 : zi 238 36 37 1 1 0 := by decide +kernel
theorem i238_37 : zi 238 37 38 19 62 0 := by decide +kernel
theorem i238_38 : zi 238 38 39 2 0 0 := by decide +kernel
theorem i238_39 : zi 238 39 40 1 2 0 := by decide +kernel
theorem i238_40 : zi 238 40 41 2 0 0 := by decide +kernel
theorem i238_41 : zi 238 41 42 6 12 31 := by decide +kernel
theorem i238_42 : zi 238 42 43 1 3 0 := by decide +kernel
theorem i238_43 : zi 238 43 44 8 0 0 := by decide +kernel
theorem i238_44 : zi 238 44 45 2 0 0 := by decide +kernel
theorem i238_45 : zi 238 45 46 6 12 32 := by decide +kernel
theorem i238_46 : zi 238 46 47 1 3 0 := by decide +kernel
theorem i238_47 : zi 238 47 48 8 0 0 := by decide +kernel
theorem i238_48 : zi 238 48 49 2 0 0 := by decide +kernel
theorem i238_49 : zi 238 49 50 6 12 33 := by decide +kernel
theorem i238_50 : zi 238 50 51 1 3 0 := by decide +kernel
theorem i238_51 : zi 238 51 52 8 0 0 := by decide +kernel
theorem i238_52 : zi 238 52 53 2 0 0 := by decide +kernel
theorem i238_53 : zi 238 53 54 6 12 34 := by decide +kernel
theorem i238_54 : zi 238 54 55 1 3 0 := by decide +kernel
theorem i238_55 : zi 238 55 56 8 0 0 := by decide +kernel
theorem i238_56 : zi 238 56 57 2 0 0 := by decide +kernel
theorem i238_57 : zi 238 57 58 6 12 35 := by decide +kernel
theorem i238_58 : zi 238 58 59 1 3 0 := by decide +kernel
theorem i238_59 : zi 238 59 60 8 0 0 := by decide +kernel
theorem i238_60 : zi 238 60 61 21 239 12 := by decide +kernel
theorem i238_61 : zi 238 61 62 5 2 1 := by decide +kernel
theorem i238_62 : zi 238 62 63 5 3 1 := by decide +kernel
theorem i238_63 : zi 238 63 64 17 27 0 := by decide +kernel
theorem i238_64 : zi 238 64 65 2 0 0 := by decide +kernel
theorem i238_65 : zi 238 65 66 1 2 0 := by decide +kernel
theorem i238_66 : zi 238 66 67 7 12 36 := by decide +kernel
theorem i238_67 : zi 238 67 68 2 0 0 := by decide +kernel
theorem i238_68 : zi 238 68 69 1 1 0 := by decide +kernel
theorem i238_69 : zi 238 69 70 0 0 (-1) := by decide +kernel
theorem i238_70 : zi 238 70 71 21 271 12 := by decide +kernel
theorem na_271 : z_na 271 = 2 := by decide +kernel
theorem i238_71 : zi 238 71 72 3 3 0 := by decide +kernel
theorem i238_72 : zi 238 72 73 0 0 0 := by decide +kernel
theorem i238_73 : zi 238 73 74 3 4 0 := by decide +kernel
theorem i238_74 : zi 238 74 75 1 4 0 := by decide +kernel
theorem i238_75 : zi 238 75 76 2 0 0 := by decide +kernel
theorem i238_76 : zi 238 76 77 6 12 72 := by decide +kernel
theorem i238_77 : zi 238 77 78 19 99 3 := by decide +kernel
theorem i238_78 : zi 238 78 79 2 0 0 := by decide +kernel
theorem i238_79 : zi 238 79 80 6 12 78 := by decide +kernel
theorem fl_13_78 : zfl 13 12 78 78 (some 138) := by decide +kernel
theorem i238_80 : zi 238 80 81 1 4 0 := by decide +kernel
theorem i238_81 : zi 238 81 82 2 0 0 := by decide +kernel
theorem i238_82 : zi 238 82 83 6 12 78 := by decide +kernel
theorem i238_83 : zi 238 83 84 1 4 0 := by decide +kernel
theorem i238_84 : zi 238 84 85 9 0 0 := by decide +kernel
theorem ar_138 : zar 138 1 20 := by decide +kernel
theorem i238_85 : zi 238 85 86 18 93 1 := by decide +kernel
theorem i238_86 : zi 238 86 87 2 0 0 := by decide +kernel
theorem i238_87 : zi 238 87 88 6 12 74 := by decide +kernel
theorem fl_13_74 : zfl 13 12 74 74 (some 134) := by decide +kernel
theorem i238_88 : zi 238 88 89 1 4 0 := by decide +kernel
theorem i238_89 : zi 238 89 90 8 0 0 := by decide +kernel
theorem ar_134 : zar 134 0 20 := by decide +kernel
theorem i238_90 : zi 238 90 91 22 237 0 := by decide +kernel
theorem i238_91 : zi 238 91 92 1 1 0 := by decide +kernel
theorem i238_92 : zi 238 92 93 19 95 1 := by decide +kernel
theorem i238_93 : zi 238 93 94 0 0 1 := by decide +kernel
theorem i238_94 : zi 238 94 95 17 96 0 := by decide +kernel
theorem i238_95 : zi 238 95 96 0 0 0 := by decide +kernel
theorem i238_96 : zi 238 96 97 11 0 0 := by decide +kernel
theorem i238_97 : zi 238 97 98 5 4 1 := by decide +kernel
theorem i238_98 : zi 238 98 99 17 74 0 := by decide +kernel
theorem i238_99 : zi 238 99 100 27 0 0 := by decide +kernel
theorem ml_238 : z_ml 238 = 5 := by decide +kernel
theorem en_238 : ∀ (v0 v1 : zV), z_ent 238 [v0, v1] = [some v0, some v1, none, none, none] := fun v0 v1 => by unfold z_ent; rw [ml_238]; rfl
theorem zn_0_0 : zn 0 0 := by unfold zn; decide
def F223 (a b : Int32) (S : zS) : Int32 := (if ((if ((¬ (a < 1)) ∧ (¬ ((S 13 4) < a))) then ((if ((¬ (b < 0)) ∧ (¬ (256 < b))) then ((if ((S 13 2) = 0) then (0 : Int32) else 3) : Int32) else 2) : Int32) else 1) = 0) then ((if ((S 13 5) ≤ (K220_82_4_c1 0 1 (z_up (z_up S 13 0 (if ((¬ (a < 1)) ∧ (¬ ((S 13 4) < a))) then ((if ((¬ (b < 0)) ∧ (¬ (256 < b))) then ((if ((S 13 2) = 0) then (0 : Int32) else 3) : Int32) else 2) : Int32) else 1)) 82 a.toNatClampNeg b))) then (0 : Int32) else (K220_82_4_c1 0 1 (z_up (z_up S 13 0 (if ((¬ (a < 1)) ∧ (¬ ((S 13 4) < a))) then ((if ((¬ (b < 0)) ∧ (¬ (256 < b))) then ((if ((S 13 2) = 0) then (0 : Int32) else 3) : Int32) else 2) : Int32) else 1)) 82 a.toNatClampNeg b))) : Int32) else 0)
def G223 (a b : Int32) (S : zS) : zS := (if ((if ((¬ (a < 1)) ∧ (¬ ((S 13 4) < a))) then ((if ((¬ (b < 0)) ∧ (¬ (256 < b))) then ((if ((S 13 2) = 0) then (0 : Int32) else 3) : Int32) else 2) : Int32) else 1) = 0) then (if ((S 13 5) ≤ (K220_82_4_c1 0 1 (z_up (z_up S 13 0 (if ((¬ (a < 1)) ∧ (¬ ((S 13 4) < a))) then ((if ((¬ (b < 0)) ∧ (¬ (256 < b))) then ((if ((S 13 2) = 0) then (0 : Int32) else 3) : Int32) else 2) : Int32) else 1)) 82 a.toNatClampNeg b))) then (K214_2_S 0 (z_up (z_up (z_up S 13 0 (if ((¬ (a < 1)) ∧ (¬ ((S 13 4) < a))) then ((if ((¬ (b < 0)) ∧ (¬ (256 < b))) then ((if ((S 13 2) = 0) then (0 : Int32) else 3) : Int32) else 2) : Int32) else 1)) 82 a.toNatClampNeg b) 13 2 (zb ((zrem (K222_82_4_c1 0 (none : Option zV) (none : Option zV) 1 (z_up (z_up S 13 0 (if ((¬ (a < 1)) ∧ (¬ ((S 13 4) < a))) then ((if ((¬ (b < 0)) ∧ (¬ (256 < b))) then ((if ((S 13 2) = 0) then (0 : Int32) else 3) : Int32) else 2) : Int32) else 1)) 82 a.toNatClampNeg b)) 257) = (S 13 3))))) else (z_up (z_up S 13 0 (if ((¬ (a < 1)) ∧ (¬ ((S 13 4) < a))) then ((if ((¬ (b < 0)) ∧ (¬ (256 < b))) then ((if ((S 13 2) = 0) then (0 : Int32) else 3) : Int32) else 2) : Int32) else 1)) 82 a.toNatClampNeg b)) else (z_up S 13 0 (if ((¬ (a < 1)) ∧ (¬ ((S 13 4) < a))) then ((if ((¬ (b < 0)) ∧ (¬ (256 < b))) then ((if ((S 13 2) = 0) then (0 : Int32) else 3) : Int32) else 2) : Int32) else 1)))
set_option maxRecDepth 100000 in
theorem f223 {L : Nat} (a b : Int32) (S : zS) (g0 : ((if ((¬ (a < 1)) ∧ (¬ ((S 13 4) < a))) then ((if ((¬ (b < 0)) ∧ (¬ (256 < b))) then ((if ((S 13 2) = 0) then (0 : Int32) else 3) : Int32) else 2) : Int32) else 1) = 0) → zx 7 a) : zf L 223 [.inr (.inr 13), .inl a, .inl b] S (.inl (some (.inl (F223 a b S))), (G223 a b S), 0) := zf_of (en_223 _ _ _) (zr_1_1 i223_0 (zr_0 i223_1 kc_1 (zr_2_0 i223_2 (zr_6 i223_3 fl_13_4 rfl (zr_cv (zs_22_3 i223_4 na_213 rfl) (f213 a 1 (S 13 4) S ) (zr_3_3 i223_5 (zr_2_0 i223_6 (zr_1_3 i223_7 (zt_trans (zt_cast (zr_18b_1 i223_8 (fun h2089 => zr_1_2 i223_11 (zr_0 i223_12 kc_0 (zr_0 i223_13 kc_256 (zr_cv (zs_22_3 i223_14 na_213 rfl) (f213 b 0 256 S ) (zt_cast (zr_18b_1 i223_15 (fun h2091 => zr_2_0 i223_18 (zr_6 i223_19 fl_13_2 rfl (zt_cast (zr_18_0 i223_20 (fun h2093 => zr_0 i223_23 kc_0 (zt_rfl)) (fun h2094 => zr_0 i223_21 kc_3 (zr_17 i223_22 (zt_rfl)))) (zm_c zz_s (zl_c (zl_t zz_e) zz_s) zz_s)))) (fun h2092 => zr_0 i223_16 kc_2 (zr_17 i223_17 (zt_rfl)))) (zm_c zz_s (zl_c (zl_t zz_e) zz_s) zz_s)))))) (fun h2090 => zr_0 i223_9 kc_1 (zr_17 i223_10 (zt_rfl)))) (zm_c zz_s (zl_c (zl_t zz_e) zz_s) zz_s)) (zr_cv (zs_21_1 i223_24 na_212 ob_13 rfl) (f212 (if ((¬ (a < 1)) ∧ (¬ ((S 13 4) < a))) then ((if ((¬ (b < 0)) ∧ (¬ (256 < b))) then ((if ((S 13 2) = 0) then (0 : Int32) else 3) : Int32) else 2) : Int32) else 1) S ) (zt_cast (zr_18b_1 i223_25 (fun h2095 => zr_2_0 i223_28 (zr_6r i223_29 fl_13_7 (zr_1_1 i223_30 (zr_1_2 i223_31 (zr_10 i223_32 ar_82 (g0 h2095) rfl (zr_2_0 i223_33 (zr_6r i223_34 fl_13_7 (zr_cv (zs_22_1 i223_35 na_220 rfl) (f220_82  (z_up (z_up S 13 0 (if ((¬ (a < 1)) ∧ (¬ ((S 13 4) < a))) then ((if ((¬ (b < 0)) ∧ (¬ (256 < b))) then ((if ((S 13 2) = 0) then (0 : Int32) else 3) : Int32) else 2) : Int32) else 1)) 82 a.toNatClampNeg b) ) (zr_3_4 i223_36 (zr_1_4 i223_37 (zr_2_0 i223_38 (zr_6 i223_39 fl_13_5 ((zupci rfl).trans (zupf rfl)) (zt_cast (zr_19_3 i223_40 (fun h2097 => zr_2_0 i223_43 (zr_2_0 i223_44 (zr_6r i223_45 fl_13_7 (zr_cv (zs_22_1 i223_46 na_222 rfl) (f222_82  (z_up (z_up S 13 0 (if ((¬ (a < 1)) ∧ (¬ ((S 13 4) < a))) then ((if ((¬ (b < 0)) ∧ (¬ (256 < b))) then ((if ((S 13 2) = 0) then (0 : Int32) else 3) : Int32) else 2) : Int32) else 1)) 82 a.toNatClampNeg b) ) (zr_2_0 i223_47 (zr_6 i223_48 fl_13_3 ((zupci rfl).trans (zupf rfl)) (zt_trans (zt_cast (zr_19_1 i223_49 (fun h2099 => zr_0 i223_50 kc_1 (zr_17 i223_51 (zt_rfl))) (fun h2100 => zr_0 i223_52 kc_0 (zt_rfl))) (zm_c zz_s (zl_c (zl_t zz_10) zz_s) zz_s)) (zr_33 i223_53 fl_13_2 (zb_01 _) (zr_2_0 i223_54 (zr_cn (zs_21_0 i223_55 na_214 ob_13 rfl) (f214  (z_up (z_up (z_up S 13 0 (if ((¬ (a < 1)) ∧ (¬ ((S 13 4) < a))) then ((if ((¬ (b < 0)) ∧ (¬ (256 < b))) then ((if ((S 13 2) = 0) then (0 : Int32) else 3) : Int32) else 2) : Int32) else 1)) 82 a.toNatClampNeg b) 13 2 (zb ((zrem (K222_82_4_c1 0 (none : Option zV) (none : Option zV) 1 (z_up (z_up S 13 0 (if ((¬ (a < 1)) ∧ (¬ ((S 13 4) < a))) then ((if ((¬ (b < 0)) ∧ (¬ (256 < b))) then ((if ((S 13 2) = 0) then (0 : Int32) else 3) : Int32) else 2) : Int32) else 1)) 82 a.toNatClampNeg b)) 257) = (S 13 3)))) ) (zr_0 i223_56 kc_0 (zr_25 i223_57)))))))))))) (fun h2098 => zr_1_4 i223_41 (zr_25 i223_42))) (zm_r zz_e zz_e)))))))))))))) (fun h2096 => zr_0 i223_26 kc_0 (zr_25 i223_27))) (zm_r zz_e zz_e))))))))))))
set_option maxRecDepth 100000 in
theorem f224 {L : Nat} (S : zS) (g0 : zo (S 13 2)) : zf L 224 [.inr (.inr 13)] S (.inl (some (.inl (S 13 2))), (z_up (z_up (K214_2_S 0 (z_up S 13 0 0)) 13 2 0) 13 9 0), 0) := zf_of (en_224 _) (zr_2_0 i224_0 (zr_0 i224_1 kc_0 (zr_7 i224_2 fl_13_0 (zr_2_0 i224_3 (zr_6 i224_4 fl_13_2 (zupf rfl) (zr_3_1 i224_5 (zr_2_0 i224_6 (zr_cn (zs_21_0 i224_7 na_214 ob_13 rfl) (f214  (z_up S 13 0 0) ) (zr_2_0 i224_8 (zr_0 i224_9 kc_0 (zr_33 i224_10 fl_13_2 (zo_0) (zr_2_0 i224_11 (zr_0 i224_12 kc_0 (zr_33 i224_13 fl_13_9 (zo_0) (zr_1_1 i224_14 (zr_26 i224_15 (g0)))))))))))))))))
def G226 (a b c : Int32) (S : zS) : zS := (if ((if (((¬ (a < 0)) ∧ (¬ (65535 < a))) ∧ (((¬ (b < 1)) ∧ (¬ (6 < b))) ∧ ((¬ (c < 1)) ∧ (¬ (b < c))))) then ((if ((S 13 2) = 0) then (2 : Int32) else 0) : Int32) else 1) = 0) then (K214_2_S 0 (z_up (z_up (z_up (z_up (z_up S 13 0 (if (((¬ (a < 0)) ∧ (¬ (65535 < a))) ∧ (((¬ (b < 1)) ∧ (¬ (6 < b))) ∧ ((¬ (c < 1)) ∧ (¬ (b < c))))) then ((if ((S 13 2) = 0) then (2 : Int32) else 0) : Int32) else 1)) 13 9 1) 13 10 a) 13 11 b) 13 12 c)) else (z_up S 13 0 (if (((¬ (a < 0)) ∧ (¬ (65535 < a))) ∧ (((¬ (b < 1)) ∧ (¬ (6 < b))) ∧ ((¬ (c < 1)) ∧ (¬ (b < c))))) then ((if ((S 13 2) = 0) then (2 : Int32) else 0) : Int32) else 1)))
set_option maxRecDepth 100000 in
theorem f226 {L : Nat} (a b c : Int32) (S : zS) : zf L 226 [.inr (.inr 13), .inl a, .inl b, .inl c] S (.inl none, (G226 a b c S), 0) := zf_of (en_226 _ _ _ _) (zr_2_0 i226_0 (zr_1_1 i226_1 (zr_1_2 i226_2 (zr_1_3 i226_3 (zr_cv (zs_22_3 i226_4 na_217 rfl) (f217 a b c S ) (zt_trans (zt_cast (zr_18b_1 i226_5 (fun h2101 => zr_2_0 i226_8 (zr_6 i226_9 fl_13_2 rfl (zt_cast (zr_18_0 i226_10 (fun h2103 => zr_0 i226_13 kc_2 (zt_rfl)) (fun h2104 => zr_0 i226_11 kc_0 (zr_17 i226_12 (zt_rfl)))) (zm_c zz_s (zl_c (zl_t zz_e) zz_s) zz_s)))) (fun h2102 => zr_0 i226_6 kc_1 (zr_17 i226_7 (zt_rfl)))) (zm_c zz_s (zl_c (zl_t zz_e) zz_s) zz_s)) (zr_cv (zs_21_1 i226_14 na_212 ob_13 rfl) (f212 (if (((¬ (a < 0)) ∧ (¬ (65535 < a))) ∧ (((¬ (b < 1)) ∧ (¬ (6 < b))) ∧ ((¬ (c < 1)) ∧ (¬ (b < c))))) then ((if ((S 13 2) = 0) then (2 : Int32) else 0) : Int32) else 1) S ) (zt_trans (zt_cast (zr_18b_0 i226_15 (fun h2105 => zr_2_0 i226_16 (zr_0 i226_17 kc_1 (zr_33 i226_18 fl_13_9 (zo_1) (zr_2_0 i226_19 (zr_1_1 i226_20 (zr_7 i226_21 fl_13_10 (zr_2_0 i226_22 (zr_1_2 i226_23 (zr_7 i226_24 fl_13_11 (zr_2_0 i226_25 (zr_1_3 i226_26 (zr_7 i226_27 fl_13_12 (zr_2_0 i226_28 (zr_cn (zs_21_0 i226_29 na_214 ob_13 rfl) (f214  (z_up (z_up (z_up (z_up (z_up S 13 0 (if (((¬ (a < 0)) ∧ (¬ (65535 < a))) ∧ (((¬ (b < 1)) ∧ (¬ (6 < b))) ∧ ((¬ (c < 1)) ∧ (¬ (b < c))))) then ((if ((S 13 2) = 0) then (2 : Int32) else 0) : Int32) else 1)) 13 9 1) 13 10 a) 13 11 b) 13 12 c) ) (zt_rfl))))))))))))))) (fun h2106 => zt_rfl)) (zm_c zz_s zz_s zz_e)) (zr_27 i226_30)))))))))
set_option maxRecDepth 100000 in
theorem w_K214_2_S_13_11 (i0 : Nat) (S : zS) : K214_2_S  i0 S 13 11 = S 13 11 := zfold_keep (fun b => b 13 11) ((fun j b => show (z_up (z_up b 82 j (-1)) 83 j (-1)) 13 11 = b 13 11 from ((zupci rfl).trans (zupci rfl)))) _ _
set_option maxRecDepth 100000 in
theorem w_K214_2_S_13_12 (i0 : Nat) (S : zS) : K214_2_S  i0 S 13 12 = S 13 12 := zfold_keep (fun b => b 13 12) ((fun j b => show (z_up (z_up b 82 j (-1)) 83 j (-1)) 13 12 = b 13 12 from ((zupci rfl).trans (zupci rfl)))) _ _
def F227 (a b : Int32) (S : zS) : Int32 := (if ((if ((¬ (a < 1)) ∧ (¬ ((S 13 4) < a))) then ((if ((¬ (b < 0)) ∧ (¬ (256 < b))) then ((if ((S 13 9) = 0) then (3 : Int32) else 0) : Int32) else 2) : Int32) else 1) = 0) then ((if ((S 13 5) ≤ (K220_83_4_c1 0 1 (z_up (z_up S 13 0 (if ((¬ (a < 1)) ∧ (¬ ((S 13 4) < a))) then ((if ((¬ (b < 0)) ∧ (¬ (256 < b))) then ((if ((S 13 9) = 0) then (3 : Int32) else 0) : Int32) else 2) : Int32) else 1)) 83 a.toNatClampNeg b))) then (0 : Int32) else (K220_83_4_c1 0 1 (z_up (z_up S 13 0 (if ((¬ (a < 1)) ∧ (¬ ((S 13 4) < a))) then ((if ((¬ (b < 0)) ∧ (¬ (256 < b))) then ((if ((S 13 9) = 0) then (3 : Int32) else 0) : Int32) else 2) : Int32) else 1)) 83 a.toNatClampNeg b))) : Int32) else 0)
def G227 (a b : Int32) (S : zS) : zS := (if ((if ((¬ (a < 1)) ∧ (¬ ((S 13 4) < a))) then ((if ((¬ (b < 0)) ∧ (¬ (256 < b))) then ((if ((S 13 9) = 0) then (3 : Int32) else 0) : Int32) else 2) : Int32) else 1) = 0) then (if ((S 13 5) ≤ (K220_83_4_c1 0 1 (z_up (z_up S 13 0 (if ((¬ (a < 1)) ∧ (¬ ((S 13 4) < a))) then ((if ((¬ (b < 0)) ∧ (¬ (256 < b))) then ((if ((S 13 9) = 0) then (3 : Int32) else 0) : Int32) else 2) : Int32) else 1)) 83 a.toNatClampNeg b))) then (if ((zrem (K222_83_4_c1 0 (none : Option zV) (none : Option zV) 1 (z_up (z_up S 13 0 (if ((¬ (a < 1)) ∧ (¬ ((S 13 4) < a))) then ((if ((¬ (b < 0)) ∧ (¬ (256 < b))) then ((if ((S 13 9) = 0) then (3 : Int32) else 0) : Int32) else 2) : Int32) else 1)) 83 a.toNatClampNeg b)) 257) = (S 13 3)) then (G216 ((K214_2_S 0 (z_up (z_up (z_up S 13 0 (if ((¬ (a < 1)) ∧ (¬ ((S 13 4) < a))) then ((if ((¬ (b < 0)) ∧ (¬ (256 < b))) then ((if ((S 13 9) = 0) then (3 : Int32) else 0) : Int32) else 2) : Int32) else 1)) 83 a.toNatClampNeg b) 13 9 0)) 13 10) ((K214_2_S 0 (z_up (z_up (z_up S 13 0 (if ((¬ (a < 1)) ∧ (¬ ((S 13 4) < a))) then ((if ((¬ (b < 0)) ∧ (¬ (256 < b))) then ((if ((S 13 9) = 0) then (3 : Int32) else 0) : Int32) else 2) : Int32) else 1)) 83 a.toNatClampNeg b) 13 9 0)) 13 11) ((K214_2_S 0 (z_up (z_up (z_up S 13 0 (if ((¬ (a < 1)) ∧ (¬ ((S 13 4) < a))) then ((if ((¬ (b < 0)) ∧ (¬ (256 < b))) then ((if ((S 13 9) = 0) then (3 : Int32) else 0) : Int32) else 2) : Int32) else 1)) 83 a.toNatClampNeg b) 13 9 0)) 13 12) (K214_2_S 0 (z_up (z_up (z_up S 13 0 (if ((¬ (a < 1)) ∧ (¬ ((S 13 4) < a))) then ((if ((¬ (b < 0)) ∧ (¬ (256 < b))) then ((if ((S 13 9) = 0) then (3 : Int32) else 0) : Int32) else 2) : Int32) else 1)) 83 a.toNatClampNeg b) 13 9 0))) else (K214_2_S 0 (z_up (z_up (z_up S 13 0 (if ((¬ (a < 1)) ∧ (¬ ((S 13 4) < a))) then ((if ((¬ (b < 0)) ∧ (¬ (256 < b))) then ((if ((S 13 9) = 0) then (3 : Int32) else 0) : Int32) else 2) : Int32) else 1)) 83 a.toNatClampNeg b) 13 9 0))) else (z_up (z_up S 13 0 (if ((¬ (a < 1)) ∧ (¬ ((S 13 4) < a))) then ((if ((¬ (b < 0)) ∧ (¬ (256 < b))) then ((if ((S 13 9) = 0) then (3 : Int32) else 0) : Int32) else 2) : Int32) else 1)) 83 a.toNatClampNeg b)) else (z_up S 13 0 (if ((¬ (a < 1)) ∧ (¬ ((S 13 4) < a))) then ((if ((¬ (b < 0)) ∧ (¬ (256 < b))) then ((if ((S 13 9) = 0) then (3 : Int32) else 0) : Int32) else 2) : Int32) else 1)))
set_option maxRecDepth 100000 in
theorem f227 {L : Nat} (a b : Int32) (S : zS) (g0 : ((if ((¬ (a < 1)) ∧ (¬ ((S 13 4) < a))) then ((if ((¬ (b < 0)) ∧ (¬ (256 < b))) then ((if ((S 13 9) = 0) then (3 : Int32) else 0) : Int32) else 2) : Int32) else 1) = 0) → zx 7 a) (g1 : zn 600 (S 13 11)) (g2 : zn 600 (S 13 12)) : zf L 227 [.inr (.inr 13), .inl a, .inl b] S (.inl (some (.inl (F227 a b S))), (G227 a b S), 0) := zf_of (en_227 _ _ _) (zr_1_1 i227_0 (zr_0 i227_1 kc_1 (zr_2_0 i227_2 (zr_6 i227_3 fl_13_4 rfl (zr_cv (zs_22_3 i227_4 na_213 rfl) (f213 a 1 (S 13 4) S ) (zr_3_3 i227_5 (zr_2_0 i227_6 (zr_1_3 i227_7 (zt_trans (zt_cast (zr_18b_1 i227_8 (fun h2107 => zr_1_2 i227_11 (zr_0 i227_12 kc_0 (zr_0 i227_13 kc_256 (zr_cv (zs_22_3 i227_14 na_213 rfl) (f213 b 0 256 S ) (zt_cast (zr_18b_1 i227_15 (fun h2109 => zr_2_0 i227_18 (zr_6 i227_19 fl_13_9 rfl (zt_cast (zr_18_0 i227_20 (fun h2111 => zr_0 i227_23 kc_3 (zt_rfl)) (fun h2112 => zr_0 i227_21 kc_0 (zr_17 i227_22 (zt_rfl)))) (zm_c zz_s (zl_c (zl_t zz_e) zz_s) zz_s)))) (fun h2110 => zr_0 i227_16 kc_2 (zr_17 i227_17 (zt_rfl)))) (zm_c zz_s (zl_c (zl_t zz_e) zz_s) zz_s)))))) (fun h2108 => zr_0 i227_9 kc_1 (zr_17 i227_10 (zt_rfl)))) (zm_c zz_s (zl_c (zl_t zz_e) zz_s) zz_s)) (zr_cv (zs_21_1 i227_24 na_212 ob_13 rfl) (f212 (if ((¬ (a < 1)) ∧ (¬ ((S 13 4) < a))) then ((if ((¬ (b < 0)) ∧ (¬ (256 < b))) then ((if ((S 13 9) = 0) then (3 : Int32) else 0) : Int32) else 2) : Int32) else 1) S ) (zt_cast (zr_18b_1 i227_25 (fun h2113 => zr_2_0 i227_28 (zr_6r i227_29 fl_13_8 (zr_1_1 i227_30 (zr_1_2 i227_31 (zr_10 i227_32 ar_83 (g0 h2113) rfl (zr_2_0 i227_33 (zr_6r i227_34 fl_13_8 (zr_cv (zs_22_1 i227_35 na_220 rfl) (f220_83  (z_up (z_up S 13 0 (if ((¬ (a < 1)) ∧ (¬ ((S 13 4) < a))) then ((if ((¬ (b < 0)) ∧ (¬ (256 < b))) then ((if ((S 13 9) = 0) then (3 : Int32) else 0) : Int32) else 2) : Int32) else 1)) 83 a.toNatClampNeg b) ) (zr_3_4 i227_36 (zr_1_4 i227_37 (zr_2_0 i227_38 (zr_6 i227_39 fl_13_5 ((zupci rfl).trans (zupf rfl)) (zt_cast (zr_19_3 i227_40 (fun h2115 => zr_2_0 i227_43 (zr_6r i227_44 fl_13_8 (zr_cv (zs_22_1 i227_45 na_222 rfl) (f222_83  (z_up (z_up S 13 0 (if ((¬ (a < 1)) ∧ (¬ ((S 13 4) < a))) then ((if ((¬ (b < 0)) ∧ (¬ (256 < b))) then ((if ((S 13 9) = 0) then (3 : Int32) else 0) : Int32) else 2) : Int32) else 1)) 83 a.toNatClampNeg b) ) (zr_2_0 i227_46 (zr_6 i227_47 fl_13_3 ((zupci rfl).trans (zupf rfl)) (zt_trans (zt_cast (zr_19_1 i227_48 (fun h2117 => zr_0 i227_49 kc_1 (zr_17 i227_50 (zt_rfl))) (fun h2118 => zr_0 i227_51 kc_0 (zt_rfl))) (zm_c zz_s (zl_c (zl_t zz_10) zz_s) zz_s)) (zr_3_5 i227_52 (zr_2_0 i227_53 (zr_0 i227_54 kc_0 (zr_33 i227_55 fl_13_9 (zo_0) (zr_2_0 i227_56 (zr_cn (zs_21_0 i227_57 na_214 ob_13 rfl) (f214  (z_up (z_up (z_up S 13 0 (if ((¬ (a < 1)) ∧ (¬ ((S 13 4) < a))) then ((if ((¬ (b < 0)) ∧ (¬ (256 < b))) then ((if ((S 13 9) = 0) then (3 : Int32) else 0) : Int32) else 2) : Int32) else 1)) 83 a.toNatClampNeg b) 13 9 0) ) (zr_1_5 i227_58 (zt_trans (zt_cast (zr_18b_0 i227_59 (fun h2119 => zr_2_0 i227_60 (zr_2_0 i227_61 (zr_6 i227_62 fl_13_10 rfl (zr_2_0 i227_63 (zr_6 i227_64 fl_13_11 rfl (zr_2_0 i227_65 (zr_6 i227_66 fl_13_12 rfl (zr_cn (zs_21_3 i227_67 na_216 ob_13 rfl) (f216 ((K214_2_S 0 (z_up (z_up (z_up S 13 0 (if ((¬ (a < 1)) ∧ (¬ ((S 13 4) < a))) then ((if ((¬ (b < 0)) ∧ (¬ (256 < b))) then ((if ((S 13 9) = 0) then (3 : Int32) else 0) : Int32) else 2) : Int32) else 1)) 83 a.toNatClampNeg b) 13 9 0)) 13 10) ((K214_2_S 0 (z_up (z_up (z_up S 13 0 (if ((¬ (a < 1)) ∧ (¬ ((S 13 4) < a))) then ((if ((¬ (b < 0)) ∧ (¬ (256 < b))) then ((if ((S 13 9) = 0) then (3 : Int32) else 0) : Int32) else 2) : Int32) else 1)) 83 a.toNatClampNeg b) 13 9 0)) 13 11) ((K214_2_S 0 (z_up (z_up (z_up S 13 0 (if ((¬ (a < 1)) ∧ (¬ ((S 13 4) < a))) then ((if ((¬ (b < 0)) ∧ (¬ (256 < b))) then ((if ((S 13 9) = 0) then (3 : Int32) else 0) : Int32) else 2) : Int32) else 1)) 83 a.toNatClampNeg b) 13 9 0)) 13 12) (K214_2_S 0 (z_up (z_up (z_up S 13 0 (if ((¬ (a < 1)) ∧ (¬ ((S 13 4) < a))) then ((if ((¬ (b < 0)) ∧ (¬ (256 < b))) then ((if ((S 13 9) = 0) then (3 : Int32) else 0) : Int32) else 2) : Int32) else 1)) 83 a.toNatClampNeg b) 13 9 0)) (znv ((w_K214_2_S_13_11 _ _).trans ((zupf rfl).trans ((zupci rfl).trans (zupf rfl)))) (g1)) (znv ((w_K214_2_S_13_12 _ _).trans ((zupf rfl).trans ((zupci rfl).trans (zupf rfl)))) (g2))) (zt_rfl))))))))) (fun h2120 => zt_rfl)) (zm_c zz_s zz_s zz_e)) (zr_0 i227_68 kc_0 (zr_25 i227_69)))))))))))))))) (fun h2116 => zr_1_4 i227_41 (zr_25 i227_42))) (zm_r zz_e zz_e)))))))))))))) (fun h2114 => zr_0 i227_26 kc_0 (zr_25 i227_27))) (zm_r zz_e zz_e))))))))))))
set_option maxRecDepth 100000 in
theorem s234_37 {L : Nat} (x1 x2 x3 x4 x5 : Int32) (u6 : Option zV) (S : zS) (g0 : zx 216 x4) (g1 : (¬ ((S 88 x4.toNatClampNeg) < x5)) → (¬ (x1 ≤ x2)) → ((¬ (x5 < 1)) ∧ ((¬ ((S 88 x4.toNatClampNeg) < x5)) ∧ (¬ (x5 ≤ ((S 88 x4.toNatClampNeg) - 4))))) → zx 864 ((4 * x4) + (zrem (x5 + 4) 4))) : zt L 234 37 [some (.inr (.inr 13)), some (.inl x1), some (.inl x2), some (.inl x3), some (.inl x4), some (.inl x5), u6] [] S (if ((S 88 x4.toNatClampNeg) < x5) then (.inl (89, [some (.inr (.inr 13)), some (.inl x1), some (.inl x2), some (.inl x3), some (.inl x4), some (.inl x5), u6], [], S)) else (if (x1 ≤ x2) then (.inl (89, [some (.inr (.inr 13)), some (.inl x1), some (.inl x2), some (.inl x3), some (.inl x4), some (.inl x5), u6], [], S)) else (.inl (37, [some (.inr (.inr 13)), some (.inl x1), some (.inl (if ((¬ (x5 < 1)) ∧ ((¬ ((S 88 x4.toNatClampNeg) < x5)) ∧ (¬ (x5 ≤ ((S 88 x4.toNatClampNeg) - 4))))) then ((if ((S 91 ((4 * x4) + (zrem (x5 + 4) 4)).toNatClampNeg) = 2) then (x2 : Int32) else (if (x3 ≤ (S 90 ((4 * x4) + (zrem (x5 + 4) 4)).toNatClampNeg)) then (x2 : Int32) else (if ((S 90 ((4 * x4) + (zrem (x5 + 4) 4)).toNatClampNeg) < (S 13 18)) then (x2 : Int32) else (x2 + 1)))) : Int32) else x2)), some (.inl x3), some (.inl x4), some (.inl (x5 + 1)), some (.inl ((4 * x4) + (zrem (x5 + 4) 4)))], [], (if ((¬ (x5 < 1)) ∧ ((¬ ((S 88 x4.toNatClampNeg) < x5)) ∧ (¬ (x5 ≤ ((S 88 x4.toNatClampNeg) - 4))))) then (if ((S 91 ((4 * x4) + (zrem (x5 + 4) 4)).toNatClampNeg) = 2) then S else (if (x3 ≤ (S 90 ((4 * x4) + (zrem (x5 + 4) 4)).toNatClampNeg)) then S else (if ((S 90 ((4 * x4) + (zrem (x5 + 4) 4)).toNatClampNeg) < (S 13 18)) then S else (z_up (G229 S) 90 ((4 * x4) + (zrem (x5 + 4) 4)).toNatClampNeg (F229 S))))) else S))))) := zr_1_5 i234_37 (zr_2_0 i234_38 (zr_6r i234_39 fl_13_23 (zr_1_4 i234_40 (zr_8 i234_41 ar_88 (g0) rfl rfl (zr_19_4 i234_42 (fun h2180 => zt_rfl) (fun h2181 => zr_1_2 i234_43 (zr_1_1 i234_44 (zr_19_3 i234_45 (fun h2182 => zt_rfl) (fun h2183 => zr_0 i234_46 kc_4 (zr_1_4 i234_47 (zr_13_2 i234_48 (zr_1_5 i234_49 (zr_0 i234_50 kc_4 (zr_13_0 i234_51 (zr_0 i234_52 kc_4 (zr_13_4 i234_53 nz_4 (zr_13_0 i234_54 (zr_3_6 i234_55 (zr_2_0 i234_56 (zr_1_4 i234_57 (zr_1_5 i234_58 (zr_cv (zs_21_2 i234_59 na_233 ob_13 rfl) (f233 x4 x5 S (fun h2184 => (g0))) (zt_trans (zt_cast (zr_18b_0 i234_60 (fun h2185 => zr_2_0 i234_61 (zr_6r i234_62 fl_13_26 (zr_1_6 i234_63 (zr_8 i234_64 ar_91 (g1 h2181 h2183 h2185) rfl rfl (zr_0 i234_65 kc_2 (zt_cast (zr_19_0 i234_66 (fun h2187 => zt_rfl) (fun h2188 => zr_2_0 i234_67 (zr_6r i234_68 fl_13_25 (zr_1_6 i234_69 (zr_8 i234_70 ar_90 (g1 h2181 h2183 h2185) rfl rfl (zr_1_3 i234_71 (zt_cast (zr_19_3 i234_72 (fun h2189 => zt_rfl) (fun h2190 => zr_2_0 i234_73 (zr_6r i234_74 fl_13_25 (zr_1_6 i234_75 (zr_8 i234_76 ar_90 (g1 h2181 h2183 h2185) rfl rfl (zr_2_0 i234_77 (zr_6 i234_78 fl_13_18 rfl (zt_cast (zr_19_2 i234_79 (fun h2191 => zt_rfl) (fun h2192 => zr_2_0 i234_80 (zr_6r i234_81 fl_13_25 (zr_1_6 i234_82 (zr_2_0 i234_83 (zr_cv (zs_21_0 i234_84 na_229 ob_13 rfl) (f229  S ) (zr_10 i234_85 ar_90 (g1 h2181 h2183 h2185) rfl (zr_5_2 i234_86 kc_1 (zt_rfl))))))))) (zm_c (zl_c zz_s (zl_c zz_s (zl_c (zl_v zz_e) zz_s))) zz_s zz_e))))))))) (zm_c (zl_c zz_s (zl_c zz_s (zl_c (zl_v zz_e) zz_s))) zz_s zz_e)))))))) (zm_c (zl_c zz_s (zl_c zz_s (zl_c (zl_v zz_e) zz_s))) zz_s zz_e))))))) (fun h2186 => zt_rfl)) (zm_c (zl_c zz_s (zl_c zz_s (zl_c (zl_v zz_e) zz_s))) zz_s zz_e)) (zr_5_5 i234_87 kc_1 (zr_17 i234_88 (zt_rfl))))))))))))))))))))))))))
set_option maxRecDepth 100000 in
theorem w_G229_88 (S : zS) : G229 S 88 = S 88 := (show (z_up (if ((S 13 16) ≤ (S 13 14)) then (z_up (z_up (z_up S 13 13 ((S 13 13) + 1)) 13 14 0) 13 15 (S 13 1)) else (if (((S 13 1) - (S 13 15)) < (S 13 17)) then S else (z_up (z_up (z_up S 13 13 ((S 13 13) + 1)) 13 14 0) 13 15 (S 13 1)))) 13 14 (((if ((S 13 16) ≤ (S 13 14)) then (z_up (z_up (z_up S 13 13 ((S 13 13) + 1)) 13 14 0) 13 15 (S 13 1)) else (if (((S 13 1) - (S 13 15)) < (S 13 17)) then S else (z_up (z_up (z_up S 13 13 ((S 13 13) + 1)) 13 14 0) 13 15 (S 13 1)))) 13 14) + 1)) 88 = S 88 from ((zupc rfl).trans (zite_k ((zupc rfl).trans ((zupc rfl).trans (zupc rfl))) (zite_k rfl ((zupc rfl).trans ((zupc rfl).trans (zupc rfl)))))))
def c234_37 (x1 x3 x4 : Int32) (a : Int32 × Int32 × Option zV × zS) : Bool := decide ((a.2.2.2 88 x4.toNatClampNeg) < a.2.1) || decide (x1 ≤ a.1)
def kw234_37 (x1 x3 x4 : Int32) (a : Int32 × Int32 × Option zV × zS) : Int32 × Int32 × Option zV × zS := ((if ((¬ (a.2.1 < 1)) ∧ ((¬ ((a.2.2.2 88 x4.toNatClampNeg) < a.2.1)) ∧ (¬ (a.2.1 ≤ ((a.2.2.2 88 x4.toNatClampNeg) - 4))))) then ((if ((a.2.2.2 91 ((4 * x4) + (zrem (a.2.1 + 4) 4)).toNatClampNeg) = 2) then (a.1 : Int32) else (if (x3 ≤ (a.2.2.2 90 ((4 * x4) + (zrem (a.2.1 + 4) 4)).toNatClampNeg)) then (a.1 : Int32) else (if ((a.2.2.2 90 ((4 * x4) + (zrem (a.2.1 + 4) 4)).toNatClampNeg) < (a.2.2.2 13 18)) then (a.1 : Int32) else (a.1 + 1)))) : Int32) else a.1), (a.2.1 + 1), (some (.inl ((4 * x4) + (zrem (a.2.1 + 4) 4)))), (if ((¬ (a.2.1 < 1)) ∧ ((¬ ((a.2.2.2 88 x4.toNatClampNeg) < a.2.1)) ∧ (¬ (a.2.1 ≤ ((a.2.2.2 88 x4.toNatClampNeg) - 4))))) then (if ((a.2.2.2 91 ((4 * x4) + (zrem (a.2.1 + 4) 4)).toNatClampNeg) = 2) then a.2.2.2 else (if (x3 ≤ (a.2.2.2 90 ((4 * x4) + (zrem (a.2.1 + 4) 4)).toNatClampNeg)) then a.2.2.2 else (if ((a.2.2.2 90 ((4 * x4) + (zrem (a.2.1 + 4) 4)).toNatClampNeg) < (a.2.2.2 13 18)) then a.2.2.2 else (z_up (G229 a.2.2.2) 90 ((4 * x4) + (zrem (a.2.1 + 4) 4)).toNatClampNeg (F229 a.2.2.2))))) else a.2.2.2))
set_option maxRecDepth 100000 in
theorem lw234_37 {L : Nat} (x1 x3 x4 : Int32) (n : Nat) (a : Int32 × Int32 × Option zV × zS) (g0 : ∀ j, j < n → zx 216 x4) (g1 : ∀ j, j < n → (¬ (((zwl (fun a => c234_37 x1 x3 x4 a = true) (kw234_37 x1 x3 x4) j a).2.2.2 88 x4.toNatClampNeg) < (zwl (fun a => c234_37 x1 x3 x4 a = true) (kw234_37 x1 x3 x4) j a).2.1)) → (¬ (x1 ≤ (zwl (fun a => c234_37 x1 x3 x4 a = true) (kw234_37 x1 x3 x4) j a).1)) → ((¬ ((zwl (fun a => c234_37 x1 x3 x4 a = true) (kw234_37 x1 x3 x4) j a).2.1 < 1)) ∧ ((¬ (((zwl (fun a => c234_37 x1 x3 x4 a = true) (kw234_37 x1 x3 x4) j a).2.2.2 88 x4.toNatClampNeg) < (zwl (fun a => c234_37 x1 x3 x4 a = true) (kw234_37 x1 x3 x4) j a).2.1)) ∧ (¬ ((zwl (fun a => c234_37 x1 x3 x4 a = true) (kw234_37 x1 x3 x4) j a).2.1 ≤ (((zwl (fun a => c234_37 x1 x3 x4 a = true) (kw234_37 x1 x3 x4) j a).2.2.2 88 x4.toNatClampNeg) - 4))))) → zx 864 ((4 * x4) + (zrem ((zwl (fun a => c234_37 x1 x3 x4 a = true) (kw234_37 x1 x3 x4) j a).2.1 + 4) 4))) : zt L 234 37 [some (.inr (.inr 13)), some (.inl x1), some (.inl a.1), some (.inl x3), some (.inl x4), some (.inl a.2.1), a.2.2.1] [] a.2.2.2 (.inl (37, [some (.inr (.inr 13)), some (.inl x1), some (.inl (zwl (fun a => c234_37 x1 x3 x4 a = true) (kw234_37 x1 x3 x4) n a).1), some (.inl x3), some (.inl x4), some (.inl (zwl (fun a => c234_37 x1 x3 x4 a = true) (kw234_37 x1 x3 x4) n a).2.1), (zwl (fun a => c234_37 x1 x3 x4 a = true) (kw234_37 x1 x3 x4) n a).2.2.1], [], (zwl (fun a => c234_37 x1 x3 x4 a = true) (kw234_37 x1 x3 x4) n a).2.2.2)) := by
  refine zwl_run (c := fun a => c234_37 x1 x3 x4 a = true) (f := kw234_37 x1 x3 x4) (lv := fun a => [some (.inr (.inr 13)), some (.inl x1), some (.inl a.1), some (.inl x3), some (.inl x4), some (.inl a.2.1), a.2.2.1]) (S := fun a => a.2.2.2) (a := a) (n := n) (fun j hj hc => ?_)
  refine zt_cast (s234_37 x1 (zwl (fun a => c234_37 x1 x3 x4 a = true) (kw234_37 x1 x3 x4) j a).1 x3 x4 (zwl (fun a => c234_37 x1 x3 x4 a = true) (kw234_37 x1 x3 x4) j a).2.1 (zwl (fun a => c234_37 x1 x3 x4 a = true) (kw234_37 x1 x3 x4) j a).2.2.1 (zwl (fun a => c234_37 x1 x3 x4 a = true) (kw234_37 x1 x3 x4) j a).2.2.2 (g0 j hj) (g1 j hj)) ?_
  simp only [c234_37, Bool.or_eq_true, decide_eq_true_eq, not_or, Bool.not_eq_true, decide_eq_false_iff_not] at hc
  first
  | (rw [if_neg hc]; rfl)
  | (rw [if_neg hc.1, if_neg hc.2]; rfl)
def K234_37 (x1 x2 x3 x4 x5 : Int32) (u6 : Option zV) (S : zS) : Int32 × Int32 × Option zV × zS := (zwl (fun a => c234_37 x1 x3 x4 a = true) (kw234_37 x1 x3 x4) 4 (x2, x5, u6, S))
def K234_37_c2 (x1 x2 x3 x4 x5 : Int32) (u6 : Option zV) (S : zS) : Int32 := (K234_37 x1 x2 x3 x4 x5 u6 S).1
def K234_37_c5 (x1 x2 x3 x4 x5 : Int32) (u6 : Option zV) (S : zS) : Int32 := (K234_37 x1 x2 x3 x4 x5 u6 S).2.1
def K234_37_c6 (x1 x2 x3 x4 x5 : Int32) (u6 : Option zV) (S : zS) : Option zV := (K234_37 x1 x2 x3 x4 x5 u6 S).2.2.1
def K234_37_S (x1 x2 x3 x4 x5 : Int32) (u6 : Option zV) (S : zS) : zS := (K234_37 x1 x2 x3 x4 x5 u6 S).2.2.2
set_option maxRecDepth 100000 in
theorem L234_37 {L : Nat} (x1 x2 x3 x4 x5 : Int32) (u6 : Option zV) (S : zS) (hp : zx 216 x4) (hl : zrw (S 88 x4.toNatClampNeg) x5) : zt L 234 37 [some (.inr (.inr 13)), some (.inl x1), some (.inl x2), some (.inl x3), some (.inl x4), some (.inl x5), u6] [] S (.inl (89, [some (.inr (.inr 13)), some (.inl x1), some (.inl (K234_37_c2 x1 x2 x3 x4 x5 u6 S)), some (.inl x3), some (.inl x4), some (.inl (K234_37_c5 x1 x2 x3 x4 x5 u6 S)), (K234_37_c6 x1 x2 x3 x4 x5 u6 S)], [], (K234_37_S x1 x2 x3 x4 x5 u6 S))) := by
  obtain ⟨hl1, hl2, hl3⟩ := hl
  have hk : ∀ n, (zwl (fun a => c234_37 x1 x3 x4 a = true) (kw234_37 x1 x3 x4) n (x2, x5, u6, S)).2.2.2 88 = S 88 := fun n => zwl_inv (I := fun b => b.2.2.2 88 = S 88) rfl (fun b _ hb => ((show (if ((¬ (b.2.1 < 1)) ∧ ((¬ ((b.2.2.2 88 x4.toNatClampNeg) < b.2.1)) ∧ (¬ (b.2.1 ≤ ((b.2.2.2 88 x4.toNatClampNeg) - 4))))) then (if ((b.2.2.2 91 ((4 * x4) + (zrem (b.2.1 + 4) 4)).toNatClampNeg) = 2) then b.2.2.2 else (if (x3 ≤ (b.2.2.2 90 ((4 * x4) + (zrem (b.2.1 + 4) 4)).toNatClampNeg)) then b.2.2.2 else (if ((b.2.2.2 90 ((4 * x4) + (zrem (b.2.1 + 4) 4)).toNatClampNeg) < (b.2.2.2 13 18)) then b.2.2.2 else (z_up (G229 b.2.2.2) 90 ((4 * x4) + (zrem (b.2.1 + 4) 4)).toNatClampNeg (F229 b.2.2.2))))) else b.2.2.2) 88 = b.2.2.2 88 from (zite_k (zite_k rfl (zite_k rfl (zite_k rfl ((zupc rfl).trans (w_G229_88 _))))) rfl))).trans hb)
  have hI : ∀ n, n ≤ 4 → (c234_37 x1 x3 x4 (zwl (fun a => c234_37 x1 x3 x4 a = true) (kw234_37 x1 x3 x4) n (x2, x5, u6, S)) = true ∨ ((zwl (fun a => c234_37 x1 x3 x4 a = true) (kw234_37 x1 x3 x4) n (x2, x5, u6, S)).2.1).toInt = x5.toInt + n) ∧ x5.toInt ≤ ((zwl (fun a => c234_37 x1 x3 x4 a = true) (kw234_37 x1 x3 x4) n (x2, x5, u6, S)).2.1).toInt ∧ ((zwl (fun a => c234_37 x1 x3 x4 a = true) (kw234_37 x1 x3 x4) n (x2, x5, u6, S)).2.1).toInt ≤ x5.toInt + n := by
    intro n
    induction n with
    | zero => intro _; exact ⟨Or.inr (by show _ = _ + ((0 : Nat) : Int); omega), Int.le_refl _, by show _ ≤ _ + ((0 : Nat) : Int); omega⟩
    | succ n ih =>
      intro hn
      obtain ⟨h1, h2, h3⟩ := ih (by omega)
      unfold zwl
      by_cases hc : c234_37 x1 x3 x4 (zwl (fun a => c234_37 x1 x3 x4 a = true) (kw234_37 x1 x3 x4) n (x2, x5, u6, S)) = true
      · rw [if_pos hc]; exact ⟨Or.inl hc, h2, by omega⟩
      · rw [if_neg hc]
        have h4 := h1.resolve_left hc
        have e : (kw234_37 x1 x3 x4 (zwl (fun a => c234_37 x1 x3 x4 a = true) (kw234_37 x1 x3 x4) n (x2, x5, u6, S))).2.1 = ((zwl (fun a => c234_37 x1 x3 x4 a = true) (kw234_37 x1 x3 x4) n (x2, x5, u6, S)).2.1) + 1 := rfl
        have e1 : (((zwl (fun a => c234_37 x1 x3 x4 a = true) (kw234_37 x1 x3 x4) n (x2, x5, u6, S)).2.1) + 1).toInt = ((zwl (fun a => c234_37 x1 x3 x4 a = true) (kw234_37 x1 x3 x4) n (x2, x5, u6, S)).2.1).toInt + 1 := zk_tadd (by rw [zk_1]; omega) (by rw [zk_1]; omega)
        rw [e, e1]
        exact ⟨Or.inr (by omega), by omega, by omega⟩
  have hver : ∀ n, n ≤ 4 → ¬ ((zwl (fun a => c234_37 x1 x3 x4 a = true) (kw234_37 x1 x3 x4) n (x2, x5, u6, S)).2.1 < 1) → 0 ≤ ((zwl (fun a => c234_37 x1 x3 x4 a = true) (kw234_37 x1 x3 x4) n (x2, x5, u6, S)).2.1 + 4).toInt := by
    intro n hn h
    have := hI n hn
    rw [zk_lt] at h
    rw [zk_tadd (by rw [show (4 : Int32).toInt = 4 from rfl]; omega) (by rw [show (4 : Int32).toInt = 4 from rfl]; omega), show (4 : Int32).toInt = 4 from rfl]
    have : (1 : Int32).toInt = 1 := rfl
    omega
  have hend : c234_37 x1 x3 x4 (zwl (fun a => c234_37 x1 x3 x4 a = true) (kw234_37 x1 x3 x4) 4 (x2, x5, u6, S)) = true := by
    obtain ⟨h1, h2, h3⟩ := hI 4 (Nat.le_refl _)
    rcases h1 with h1 | h1
    · exact h1
    · unfold c234_37
      rw [Bool.or_eq_true]
      refine Or.inl (decide_eq_true ?_)
      rw [hk 4, zk_lt]; omega
  have hend2 : (((zwl (fun a => c234_37 x1 x3 x4 a = true) (kw234_37 x1 x3 x4) 4 (x2, x5, u6, S)).2.2.2 88 x4.toNatClampNeg) < (zwl (fun a => c234_37 x1 x3 x4 a = true) (kw234_37 x1 x3 x4) 4 (x2, x5, u6, S)).2.1) ∨ (x1 ≤ (zwl (fun a => c234_37 x1 x3 x4 a = true) (kw234_37 x1 x3 x4) 4 (x2, x5, u6, S)).1) := by
    have := hend
    unfold c234_37 at this
    simpa only [Bool.or_eq_true, decide_eq_true_eq] using this
  refine zt_trans (lw234_37 x1 x3 x4 4 (x2, x5, u6, S) (fun j hj  => hp) (fun j hj _ _ hv => zx_slot' hp (zn_rem4 (hver j (by omega) hv.1)))) ?_
  exact zt_cast (s234_37 x1 (zwl (fun a => c234_37 x1 x3 x4 a = true) (kw234_37 x1 x3 x4) 4 (x2, x5, u6, S)).1 x3 x4 (zwl (fun a => c234_37 x1 x3 x4 a = true) (kw234_37 x1 x3 x4) 4 (x2, x5, u6, S)).2.1 (zwl (fun a => c234_37 x1 x3 x4 a = true) (kw234_37 x1 x3 x4) 4 (x2, x5, u6, S)).2.2.1 (zwl (fun a => c234_37 x1 x3 x4 a = true) (kw234_37 x1 x3 x4) 4 (x2, x5, u6, S)).2.2.2 hp (fun a9 b9 => (hend2.elim a9 b9).elim)) (zte_2 hend2)
set_option maxRecDepth 100000 in
theorem s234_25 {L : Nat} (x1 x2 x3 x4 : Int32) (u5 u6 : Option zV) (S : zS) (g0 : (¬ (216 ≤ x4)) → zx 216 x4) (g1 : (¬ (216 ≤ x4)) → zrw (S 88 x4.toNatClampNeg) (((S 88 x4.toNatClampNeg) - 4) + 1)) : zt L 234 25 [some (.inr (.inr 13)), some (.inl x1), some (.inl x2), some (.inl x3), some (.inl x4), u5, u6] [] S (if (216 ≤ x4) then (.inl (91, [some (.inr (.inr 13)), some (.inl x1), some (.inl x2), some (.inl x3), some (.inl x4), u5, u6], [], S)) else (.inl (25, [some (.inr (.inr 13)), some (.inl x1), some (.inl (K234_37_c2 x1 x2 x3 x4 (((S 88 x4.toNatClampNeg) - 4) + 1) u6 S)), some (.inl x3), some (.inl (x4 + 1)), some (.inl (K234_37_c5 x1 x2 x3 x4 (((S 88 x4.toNatClampNeg) - 4) + 1) u6 S)), (K234_37_c6 x1 x2 x3 x4 (((S 88 x4.toNatClampNeg) - 4) + 1) (u6 : Option zV)  S)], [], (K234_37_S x1 x2 x3 x4 (((S 88 x4.toNatClampNeg) - 4) + 1) u6 S)))) := zr_1_4 i234_25 (zr_0 i234_26 kc_216 (zr_19_3 i234_27 (fun h2193 => zt_rfl) (fun h2194 => zr_2_0 i234_28 (zr_6r i234_29 fl_13_23 (zr_1_4 i234_30 (zr_8 i234_31 ar_88 (g0 h2194) rfl rfl (zr_0 i234_32 kc_4 (zr_13_1 i234_33 (zr_0 i234_34 kc_1 (zr_13_0 i234_35 (zr_3_5 i234_36 (zt_trans (L234_37 x1 x2 x3 x4 (((S 88 x4.toNatClampNeg) - 4) + 1) (u6 : Option zV)  S  (g0 h2194) (g1 h2194)) (zr_5_4 i234_89 kc_1 (zr_17 i234_90 (zt_rfl)))))))))))))))
set_option maxRecDepth 100000 in
theorem w_K234_37_S_88 (x1 x2 x3 x4 x5 : Int32) (u6 : Option zV) (S : zS) : K234_37_S x1 x2 x3 x4 x5 u6 S 88 = S 88 := zwl_inv (I := fun b => b.2.2.2 88 = S 88) rfl (fun b _ hb => ((show (if ((¬ (b.2.1 < 1)) ∧ ((¬ ((b.2.2.2 88 x4.toNatClampNeg) < b.2.1)) ∧ (¬ (b.2.1 ≤ ((b.2.2.2 88 x4.toNatClampNeg) - 4))))) then (if ((b.2.2.2 91 ((4 * x4) + (zrem (b.2.1 + 4) 4)).toNatClampNeg) = 2) then b.2.2.2 else (if (x3 ≤ (b.2.2.2 90 ((4 * x4) + (zrem (b.2.1 + 4) 4)).toNatClampNeg)) then b.2.2.2 else (if ((b.2.2.2 90 ((4 * x4) + (zrem (b.2.1 + 4) 4)).toNatClampNeg) < (b.2.2.2 13 18)) then b.2.2.2 else (z_up (G229 b.2.2.2) 90 ((4 * x4) + (zrem (b.2.1 + 4) 4)).toNatClampNeg (F229 b.2.2.2))))) else b.2.2.2) 88 = b.2.2.2 88 from (zite_k (zite_k rfl (zite_k rfl (zite_k rfl ((zupc rfl).trans (w_G229_88 _))))) rfl))).trans hb)
def k234_25 (x1 x3 : Int32) (j : Nat) (a : Int32 × Option zV × Option zV × zS) : Int32 × Option zV × Option zV × zS := ((K234_37_c2 x1 a.1 x3 (Int32.ofNat j) (((a.2.2.2 88 j) - 4) + 1) a.2.2.1 a.2.2.2), (some (.inl (K234_37_c5 x1 a.1 x3 (Int32.ofNat j) (((a.2.2.2 88 j) - 4) + 1) a.2.2.1 a.2.2.2))), (K234_37_c6 x1 a.1 x3 (Int32.ofNat j) (((a.2.2.2 88 j) - 4) + 1) a.2.2.1 a.2.2.2), (K234_37_S x1 a.1 x3 (Int32.ofNat j) (((a.2.2.2 88 j) - 4) + 1) a.2.2.1 a.2.2.2))
set_option maxRecDepth 100000 in
theorem l234_25 {L : Nat} (x1 x3 : Int32) (i0 n : Nat) (a : Int32 × Option zV × Option zV × zS) (hn : i0 + n < 2147483648) (hc0 : ∀ j, j < n → ¬ (216 ≤ (Int32.ofNat (i0 + j)))) (g0 : ∀ j, j < n → (¬ (216 ≤ (Int32.ofNat (i0 + j)))) → zx 216 (Int32.ofNat (i0 + j))) (g1 : ∀ j, j < n → (¬ (216 ≤ (Int32.ofNat (i0 + j)))) → zrw ((zfold (k234_25 x1 x3 ) i0 j a).2.2.2 88 (i0 + j)) ((((zfold (k234_25 x1 x3 ) i0 j a).2.2.2 88 (i0 + j)) - 4) + 1)) : zt L 234 25 [some (.inr (.inr 13)), some (.inl x1), some (.inl a.1), some (.inl x3), some (.inl (Int32.ofNat i0)), a.2.1, a.2.2.1] [] a.2.2.2 (.inl (25, [some (.inr (.inr 13)), some (.inl x1), some (.inl (zfold (k234_25 x1 x3 ) i0 n a).1), some (.inl x3), some (.inl (Int32.ofNat (i0 + n))), (zfold (k234_25 x1 x3 ) i0 n a).2.1, (zfold (k234_25 x1 x3 ) i0 n a).2.2.1], [], (zfold (k234_25 x1 x3 ) i0 n a).2.2.2)) := by
  induction n with
  | zero => exact zt_rfl
  | succ n ih =>
    have e1 := zk_ix (i0 + n) (by omega)
    have e2 := zk_add (i0 + n)
    refine zt_trans (ih (by omega) (fun j hj => hc0 j (by omega)) (fun j hj => g0 j (by omega)) (fun j hj => g1 j (by omega))) ?_
    refine zt_cast (s234_25 x1 (zfold (k234_25 x1 x3 ) i0 n a).1 x3 (Int32.ofNat (i0 + n)) (zfold (k234_25 x1 x3 ) i0 n a).2.1 (zfold (k234_25 x1 x3 ) i0 n a).2.2.1 (zfold (k234_25 x1 x3 ) i0 n a).2.2.2 (by have hg := g0 n (by omega); first | exact hg | (simp only [e1]; exact hg)) (by have hg := g1 n (by omega); first | exact hg | (simp only [e1]; exact hg))) ?_
    rw [if_neg (show ¬ (216 ≤ (Int32.ofNat (i0 + n))) from (by have hg := hc0 n (by omega); first | exact hg | (simp only [e1]; exact hg)))]
    simp only [zfold, k234_25, e1, e2, ← Nat.add_assoc]
def K234_25 (x1 x2 x3 : Int32) (u5 u6 : Option zV) (i0 : Nat) (S : zS) : Int32 × Option zV × Option zV × zS := zfold (k234_25 x1 x3 ) i0 (216 - i0) (x2, u5, u6, S)
def K234_25_c2 (x1 x2 x3 : Int32) (u5 u6 : Option zV) (i0 : Nat) (S : zS) : Int32 := (K234_25 x1 x2 x3 u5 u6 i0 S).1
def K234_25_c5 (x1 x2 x3 : Int32) (u5 u6 : Option zV) (i0 : Nat) (S : zS) : Option zV := (K234_25 x1 x2 x3 u5 u6 i0 S).2.1
def K234_25_c6 (x1 x2 x3 : Int32) (u5 u6 : Option zV) (i0 : Nat) (S : zS) : Option zV := (K234_25 x1 x2 x3 u5 u6 i0 S).2.2.1
def K234_25_S (x1 x2 x3 : Int32) (u5 u6 : Option zV) (i0 : Nat) (S : zS) : zS := (K234_25 x1 x2 x3 u5 u6 i0 S).2.2.2
set_option maxRecDepth 100000 in
theorem L234_25 {L : Nat} (x1 x2 x3 : Int32) (u5 u6 : Option zV) (i0 : Nat) (S : zS) (hi : i0 ≤ 10000) (hLa : zLa (S 88)) : zt L 234 25 [some (.inr (.inr 13)), some (.inl x1), some (.inl x2), some (.inl x3), some (.inl (Int32.ofNat i0)), u5, u6] [] S (.inl (91, [some (.inr (.inr 13)), some (.inl x1), some (.inl (K234_25_c2 x1 x2 x3 u5 u6 i0 S)), some (.inl x3), some (.inl (Int32.ofNat (i0 + (216 - i0)))), (K234_25_c5 x1 x2 x3 u5 u6 i0 S), (K234_25_c6 x1 x2 x3 u5 u6 i0 S)], [], (K234_25_S x1 x2 x3 u5 u6 i0 S))) := by
  have hk88 : ∀ n, (zfold (k234_25 x1 x3 ) i0 n (x2, u5, u6, S)).2.2.2 88 = S 88 := fun n => zfold_keep (fun b => b.2.2.2 88) (fun j b => show (K234_37_S x1 b.1 x3 (Int32.ofNat j) (((b.2.2.2 88 j) - 4) + 1) u6 b.2.2.2) 88 = b.2.2.2 88 from (w_K234_37_S_88 _ _ _ _ _ _ _)) n (x2, u5, u6, S)
  have hend : 216 ≤ Int32.ofNat (i0 + (216 - i0)) := by exact zc_le_end (show zn 216 216 from by unfold zn; decide) (by omega)
  refine zt_trans (l234_25 x1 x3   i0 (216 - i0) (x2, u5, u6, S) (by omega) (fun j hj => by exact zc_le (show zn 216 216 from by unfold zn; decide) hj (by omega)) (fun j hj _ => by exact zx_of (by omega) (by omega)) (fun j hj _ => by rw [hk88 j]; exact zrw_1 (hLa _ (by omega)))) ?_
  exact zt_cast (s234_25 x1 (zfold (k234_25 x1 x3 ) i0 (216 - i0) (x2, u5, u6, S)).1 x3 (Int32.ofNat (i0 + (216 - i0))) (zfold (k234_25 x1 x3 ) i0 (216 - i0) (x2, u5, u6, S)).2.1 (zfold (k234_25 x1 x3 ) i0 (216 - i0) (x2, u5, u6, S)).2.2.1 (zfold (k234_25 x1 x3 ) i0 (216 - i0) (x2, u5, u6, S)).2.2.2 (fun h9 => absurd hend h9) (fun h9 => absurd hend h9)) (if_pos hend)
def F234 (a : Int32) (S : zS) : Int32 := (if ((if ((¬ (a < 1)) ∧ (¬ (50 < a))) then ((if ((S 13 2) = 0) then (2 : Int32) else 0) : Int32) else 1) = 0) then ((K234_25_c2 a 0 (S 13 13) (none : Option zV) (none : Option zV) 0 (z_up S 13 0 (if ((¬ (a < 1)) ∧ (¬ (50 < a))) then ((if ((S 13 2) = 0) then (2 : Int32) else 0) : Int32) else 1))) : Int32) else 0)
def G234 (a : Int32) (S : zS) : zS := (if ((if ((¬ (a < 1)) ∧ (¬ (50 < a))) then ((if ((S 13 2) = 0) then (2 : Int32) else 0) : Int32) else 1) = 0) then (K234_25_S a 0 (S 13 13) (none : Option zV) (none : Option zV) 0 (z_up S 13 0 (if ((¬ (a < 1)) ∧ (¬ (50 < a))) then ((if ((S 13 2) = 0) then (2 : Int32) else 0) : Int32) else 1))) else (z_up S 13 0 (if ((¬ (a < 1)) ∧ (¬ (50 < a))) then ((if ((S 13 2) = 0) then (2 : Int32) else 0) : Int32) else 1)))
set_option maxRecDepth 100000 in
theorem f234 {L : Nat} (a : Int32) (S : zS) (g0 : zLa (S 88)) : zf L 234 [.inr (.inr 13), .inl a] S (.inl (some (.inl (F234 a S))), (G234 a S), 0) := zf_of (en_234 _ _) (zr_2_0 i234_0 (zr_1_1 i234_1 (zr_0 i234_2 kc_1 (zr_0 i234_3 kc_50 (zr_cv (zs_22_3 i234_4 na_213 rfl) (f213 a 1 50 S ) (zt_trans (zt_cast (zr_18b_1 i234_5 (fun h2195 => zr_2_0 i234_8 (zr_6 i234_9 fl_13_2 rfl (zt_cast (zr_18_0 i234_10 (fun h2197 => zr_0 i234_13 kc_2 (zt_rfl)) (fun h2198 => zr_0 i234_11 kc_0 (zr_17 i234_12 (zt_rfl)))) (zm_c zz_s (zl_c (zl_t zz_e) zz_s) zz_s)))) (fun h2196 => zr_0 i234_6 kc_1 (zr_17 i234_7 (zt_rfl)))) (zm_c zz_s (zl_c (zl_t zz_e) zz_s) zz_s)) (zr_cv (zs_21_1 i234_14 na_212 ob_13 rfl) (f212 (if ((¬ (a < 1)) ∧ (¬ (50 < a))) then ((if ((S 13 2) = 0) then (2 : Int32) else 0) : Int32) else 1) S ) (zt_cast (zr_18b_1 i234_15 (fun h2199 => zr_0 i234_18 kc_0 (zr_3_2 i234_19 (zr_2_0 i234_20 (zr_6 i234_21 fl_13_13 (zupf rfl) (zr_3_3 i234_22 (zr_0 i234_23 kc_0 (zr_3_4 i234_24 (zt_trans (L234_25 a 0 (S 13 13) (none : Option zV) (none : Option zV) 0 (z_up S 13 0 (if ((¬ (a < 1)) ∧ (¬ (50 < a))) then ((if ((S 13 2) = 0) then (2 : Int32) else 0) : Int32) else 1)) (by decide) (zpc1 (zupc rfl) (g0))) (zr_1_2 i234_91 (zr_25 i234_92)))))))))) (fun h2200 => zr_0 i234_16 kc_0 (zr_25 i234_17))) (zm_r zz_e zz_e)))))))))
set_option maxRecDepth 100000 in
theorem s271_4 {L : Nat} (x1 x2 x3 x4 : Int32) (u5 : Option zV) (S : zS) (g0 : (¬ ((S 13 57) ≤ x4)) → zx 40 x4) (g1 : (¬ ((S 13 57) ≤ x4)) → (((S 125 x4.toNatClampNeg) = 0) ∧ ((((S 121 x4.toNatClampNeg) / 36) = x1) ∧ ((x2 = (-1)) ∨ ((if (1 = 0) then (((S 121 x4.toNatClampNeg) / 36) : Int32) else (if (1 = 1) then ((zrem ((S 121 x4.toNatClampNeg) / 6) 6) : Int32) else (zrem (S 121 x4.toNatClampNeg) 6))) = x2)))) → zx 3 (S 122 x4.toNatClampNeg)) : zt L 271 4 [some (.inr (.inr 13)), some (.inl x1), some (.inl x2), some (.inl x3), some (.inl x4), u5] [] S (if ((S 13 57) ≤ x4) then (.inl (43, [some (.inr (.inr 13)), some (.inl x1), some (.inl x2), some (.inl x3), some (.inl x4), u5], [], S)) else (.inl (4, [some (.inr (.inr 13)), some (.inl x1), some (.inl x2), some (.inl (if (((S 125 x4.toNatClampNeg) = 0) ∧ ((((S 121 x4.toNatClampNeg) / 36) = x1) ∧ ((x2 = (-1)) ∨ ((if (1 = 0) then (((S 121 x4.toNatClampNeg) / 36) : Int32) else (if (1 = 1) then ((zrem ((S 121 x4.toNatClampNeg) / 6) 6) : Int32) else (zrem (S 121 x4.toNatClampNeg) 6))) = x2)))) then ((x3 + 1) : Int32) else x3)), some (.inl (x4 + 1)), some (.inl (zb (((S 125 x4.toNatClampNeg) = 0) ∧ ((((S 121 x4.toNatClampNeg) / 36) = x1) ∧ ((x2 = (-1)) ∨ ((if (1 = 0) then (((S 121 x4.toNatClampNeg) / 36) : Int32) else (if (1 = 1) then ((zrem ((S 121 x4.toNatClampNeg) / 6) 6) : Int32) else (zrem (S 121 x4.toNatClampNeg) 6))) = x2))))))], [], (if (((S 125 x4.toNatClampNeg) = 0) ∧ ((((S 121 x4.toNatClampNeg) / 36) = x1) ∧ ((x2 = (-1)) ∨ ((if (1 = 0) then (((S 121 x4.toNatClampNeg) / 36) : Int32) else (if (1 = 1) then ((zrem ((S 121 x4.toNatClampNeg) / 6) 6) : Int32) else (zrem (S 121 x4.toNatClampNeg) 6))) = x2)))) then (G269 x4 (z_up (z_up S 123 x4.toNatClampNeg (S 13 1)) 126 x4.toNatClampNeg 0)) else S)))) := zr_1_4 i271_4 (zr_2_0 i271_5 (zr_6 i271_6 fl_13_57 rfl (zr_19_3 i271_7 (fun h2237 => zt_rfl) (fun h2238 => zr_2_0 i271_8 (zr_6r i271_9 fl_13_63 (zr_1_4 i271_10 (zr_8 i271_11 ar_125 (g0 h2238) rfl rfl (zt_trans (zt_cast (zr_18_1 i271_12 (fun h2239 => zr_2_0 i271_13 (zr_6r i271_14 fl_13_59 (zr_1_4 i271_15 (zr_8 i271_16 ar_121 (g0 h2238) rfl rfl (zr_cv (zs_22_1 i271_17 na_237 rfl) (f237 (S 121 x4.toNatClampNeg) S ) (zr_1_1 i271_18 (zt_cast (zr_19_1 i271_19 (fun h2241 => zr_1_2 i271_20 (zr_0 i271_21 kc_m1 (zt_cast (zr_19_0 i271_22 (fun h2243 => zr_0 i271_31 kc_1 (zr_17 i271_32 (zt_rfl))) (fun h2244 => zr_2_0 i271_23 (zr_6r i271_24 fl_13_59 (zr_1_4 i271_25 (zr_8 i271_26 ar_121 (g0 h2238) rfl rfl (zr_0 i271_27 kc_1 (zr_cv (zs_22_2 i271_28 na_253 rfl) (f253 (S 121 x4.toNatClampNeg) 1 S ) (zr_1_2 i271_29 (zt_cast (zr_19_1 i271_30 (fun h2245 => zr_0 i271_31 kc_1 (zr_17 i271_32 (zt_rfl))) (fun h2246 => zr_0 i271_33 kc_0 (zt_rfl))) (zm_c zz_s (zl_c (zl_t zz_10) zz_s) zz_s)))))))))) (zm_c zz_s (zl_c (zl_t zz_1b) zz_s) zz_s)))) (fun h2242 => zr_0 i271_33 kc_0 (zt_rfl))) (zm_c zz_s (zl_c (zl_t zz_b0) zz_s) zz_s)))))))) (fun h2240 => zr_0 i271_33 kc_0 (zt_rfl))) (zm_c zz_s (zl_c (zl_t zz_b0) zz_s) zz_s)) (zr_3_5 i271_34 (zr_1_5 i271_35 (zt_trans (zt_cast (zr_18b_0 i271_36 (fun h2247 => zr_2_0 i271_37 (zr_1_4 i271_38 (zr_cn (zs_21_1 i271_39 na_270 ob_13 rfl) (f270 x4 S (g0 h2238) (g1 h2238 h2247)) (zr_5_3 i271_40 kc_1 (zt_rfl))))) (fun h2248 => zt_rfl)) (zm_c (zl_c zz_s (zl_c zz_s (zl_c zz_s (zl_c (zl_v zz_e) zz_s)))) zz_s zz_e)) (zr_5_4 i271_41 kc_1 (zr_17 i271_42 (zt_rfl))))))))))))))
def k271_4 (x1 x2 : Int32) (j : Nat) (a : Int32 × Option zV × zS) : Int32 × Option zV × zS := ((if (((a.2.2 125 j) = 0) ∧ ((((a.2.2 121 j) / 36) = x1) ∧ ((x2 = (-1)) ∨ ((if (1 = 0) then (((a.2.2 121 j) / 36) : Int32) else (if (1 = 1) then ((zrem ((a.2.2 121 j) / 6) 6) : Int32) else (zrem (a.2.2 121 j) 6))) = x2)))) then ((a.1 + 1) : Int32) else a.1), (some (.inl (zb (((a.2.2 125 j) = 0) ∧ ((((a.2.2 121 j) / 36) = x1) ∧ ((x2 = (-1)) ∨ ((if (1 = 0) then (((a.2.2 121 j) / 36) : Int32) else (if (1 = 1) then ((zrem ((a.2.2 121 j) / 6) 6) : Int32) else (zrem (a.2.2 121 j) 6))) = x2))))))), (if (((a.2.2 125 j) = 0) ∧ ((((a.2.2 121 j) / 36) = x1) ∧ ((x2 = (-1)) ∨ ((if (1 = 0) then (((a.2.2 121 j) / 36) : Int32) else (if (1 = 1) then ((zrem ((a.2.2 121 j) / 6) 6) : Int32) else (zrem (a.2.2 121 j) 6))) = x2)))) then (G269 (Int32.ofNat j) (z_up (z_up a.2.2 123 j (a.2.2 13 1)) 126 j 0)) else a.2.2))
set_option maxRecDepth 100000 in
theorem l271_4 {L : Nat} (x1 x2 : Int32) (i0 n : Nat) (a : Int32 × Option zV × zS) (hn : i0 + n < 2147483648) (hc0 : ∀ j, j < n → ¬ (((zfold (k271_4 x1 x2 ) i0 j a).2.2 13 57) ≤ (Int32.ofNat (i0 + j)))) (g0 : ∀ j, j < n → (¬ (((zfold (k271_4 x1 x2 ) i0 j a).2.2 13 57) ≤ (Int32.ofNat (i0 + j)))) → zx 40 (Int32.ofNat (i0 + j))) (g1 : ∀ j, j < n → (¬ (((zfold (k271_4 x1 x2 ) i0 j a).2.2 13 57) ≤ (Int32.ofNat (i0 + j)))) → ((((zfold (k271_4 x1 x2 ) i0 j a).2.2 125 (i0 + j)) = 0) ∧ (((((zfold (k271_4 x1 x2 ) i0 j a).2.2 121 (i0 + j)) / 36) = x1) ∧ ((x2 = (-1)) ∨ ((if (1 = 0) then ((((zfold (k271_4 x1 x2 ) i0 j a).2.2 121 (i0 + j)) / 36) : Int32) else (if (1 = 1) then ((zrem (((zfold (k271_4 x1 x2 ) i0 j a).2.2 121 (i0 + j)) / 6) 6) : Int32) else (zrem ((zfold (k271_4 x1 x2 ) i0 j a).2.2 121 (i0 + j)) 6))) = x2)))) → zx 3 ((zfold (k271_4 x1 x2 ) i0 j a).2.2 122 (i0 + j))) : zt L 271 4 [some (.inr (.inr 13)), some (.inl x1), some (.inl x2), some (.inl a.1), some (.inl (Int32.ofNat i0)), a.2.1] [] a.2.2 (.inl (4, [some (.inr (.inr 13)), some (.inl x1), some (.inl x2), some (.inl (zfold (k271_4 x1 x2 ) i0 n a).1), some (.inl (Int32.ofNat (i0 + n))), (zfold (k271_4 x1 x2 ) i0 n a).2.1], [], (zfold (k271_4 x1 x2 ) i0 n a).2.2)) := by
  induction n with
  | zero => exact zt_rfl
  | succ n ih =>
    have e1 := zk_ix (i0 + n) (by omega)
    have e2 := zk_add (i0 + n)
    refine zt_trans (ih (by omega) (fun j hj => hc0 j (by omega)) (fun j hj => g0 j (by omega)) (fun j hj => g1 j (by omega))) ?_
    refine zt_cast (s271_4 x1 x2 (zfold (k271_4 x1 x2 ) i0 n a).1 (Int32.ofNat (i0 + n)) (zfold (k271_4 x1 x2 ) i0 n a).2.1 (zfold (k271_4 x1 x2 ) i0 n a).2.2 (by have hg := g0 n (by omega); first | exact hg | (simp only [e1]; exact hg)) (by have hg := g1 n (by omega); first | exact hg | (simp only [e1]; exact hg))) ?_
    rw [if_neg (show ¬ (((zfold (k271_4 x1 x2 ) i0 n a).2.2 13 57) ≤ (Int32.ofNat (i0 + n))) from (by have hg := hc0 n (by omega); first | exact hg | (simp only [e1]; exact hg)))]
    simp only [zfold, k271_4, e1, e2, ← Nat.add_assoc]
set_option maxRecDepth 100000 in
theorem w_G269_122 (a : Int32) (S : zS) : G269 a S 122 = S 122 := (show (if ((S 127 (S 122 a.toNatClampNeg).toNatClampNeg) = 1) then (z_up (z_up S 126 a.toNatClampNeg ((S 126 a.toNatClampNeg) + 1)) 125 a.toNatClampNeg (if (((S 126 a.toNatClampNeg) + 1) = 3) then (3 : Int32) else 1)) else (z_up (z_up (z_up S 126 a.toNatClampNeg ((S 126 a.toNatClampNeg) + 1)) 125 a.toNatClampNeg 2) 128 (S 122 a.toNatClampNeg).toNatClampNeg ((S 128 (S 122 a.toNatClampNeg).toNatClampNeg) - 1))) 122 = S 122 from (zite_k ((zupc rfl).trans (zupc rfl)) ((zupc rfl).trans ((zupc rfl).trans (zupc rfl)))))
set_option maxRecDepth 100000 in
theorem w_G269_13_57 (a : Int32) (S : zS) : G269 a S 13 57 = S 13 57 := (show (if ((S 127 (S 122 a.toNatClampNeg).toNatClampNeg) = 1) then (z_up (z_up S 126 a.toNatClampNeg ((S 126 a.toNatClampNeg) + 1)) 125 a.toNatClampNeg (if (((S 126 a.toNatClampNeg) + 1) = 3) then (3 : Int32) else 1)) else (z_up (z_up (z_up S 126 a.toNatClampNeg ((S 126 a.toNatClampNeg) + 1)) 125 a.toNatClampNeg 2) 128 (S 122 a.toNatClampNeg).toNatClampNeg ((S 128 (S 122 a.toNatClampNeg).toNatClampNeg) - 1))) 13 57 = S 13 57 from (zite_rd ((zupci rfl).trans (zupci rfl)) ((zupci rfl).trans ((zupci rfl).trans (zupci rfl)))))
def K271_4 (x1 x2 x3 : Int32) (u5 : Option zV) (i0 : Nat) (S : zS) : Int32 × Option zV × zS := zfold (k271_4 x1 x2 ) i0 ((S 13 57).toNatClampNeg - i0) (x3, u5, S)
def K271_4_c3 (x1 x2 x3 : Int32) (u5 : Option zV) (i0 : Nat) (S : zS) : Int32 := (K271_4 x1 x2 x3 u5 i0 S).1
def K271_4_c5 (x1 x2 x3 : Int32) (u5 : Option zV) (i0 : Nat) (S : zS) : Option zV := (K271_4 x1 x2 x3 u5 i0 S).2.1
def K271_4_S (x1 x2 x3 : Int32) (u5 : Option zV) (i0 : Nat) (S : zS) : zS := (K271_4 x1 x2 x3 u5 i0 S).2.2
set_option maxRecDepth 100000 in
theorem L271_4 {L : Nat} (x1 x2 x3 : Int32) (u5 : Option zV) (i0 : Nat) (S : zS) (hi : i0 ≤ 10000) (h0 : zn 40 (S 13 57)) (hA1 : zA 40 3 (S 122)) : zt L 271 4 [some (.inr (.inr 13)), some (.inl x1), some (.inl x2), some (.inl x3), some (.inl (Int32.ofNat i0)), u5] [] S (.inl (43, [some (.inr (.inr 13)), some (.inl x1), some (.inl x2), some (.inl (K271_4_c3 x1 x2 x3 u5 i0 S)), some (.inl (Int32.ofNat (i0 + ((S 13 57).toNatClampNeg - i0)))), (K271_4_c5 x1 x2 x3 u5 i0 S)], [], (K271_4_S x1 x2 x3 u5 i0 S))) := by
  have hk122 : ∀ n, (zfold (k271_4 x1 x2 ) i0 n (x3, u5, S)).2.2 122 = S 122 := fun n => zfold_keep (fun b => b.2.2 122) (fun j b => show (if (((b.2.2 125 j) = 0) ∧ ((((b.2.2 121 j) / 36) = x1) ∧ ((x2 = (-1)) ∨ ((if (1 = 0) then (((b.2.2 121 j) / 36) : Int32) else (if (1 = 1) then ((zrem ((b.2.2 121 j) / 6) 6) : Int32) else (zrem (b.2.2 121 j) 6))) = x2)))) then (G269 (Int32.ofNat j) (z_up (z_up b.2.2 123 j (b.2.2 13 1)) 126 j 0)) else b.2.2) 122 = b.2.2 122 from (zite_k ((w_G269_122 _ _).trans ((zupc rfl).trans (zupc rfl))) rfl)) n (x3, u5, S)
  have hk13_57 : ∀ n, (zfold (k271_4 x1 x2 ) i0 n (x3, u5, S)).2.2 13 57 = S 13 57 := fun n => zfold_keep (fun b => b.2.2 13 57) (fun j b => show (if (((b.2.2 125 j) = 0) ∧ ((((b.2.2 121 j) / 36) = x1) ∧ ((x2 = (-1)) ∨ ((if (1 = 0) then (((b.2.2 121 j) / 36) : Int32) else (if (1 = 1) then ((zrem ((b.2.2 121 j) / 6) 6) : Int32) else (zrem (b.2.2 121 j) 6))) = x2)))) then (G269 (Int32.ofNat j) (z_up (z_up b.2.2 123 j (b.2.2 13 1)) 126 j 0)) else b.2.2) 13 57 = b.2.2 13 57 from (zite_rd ((w_G269_13_57 _ _).trans ((zupci rfl).trans (zupci rfl))) rfl)) n (x3, u5, S)
  have hend : (zfold (k271_4 x1 x2 ) i0 ((S 13 57).toNatClampNeg - i0) (x3, u5, S)).2.2 13 57 ≤ Int32.ofNat (i0 + ((S 13 57).toNatClampNeg - i0)) := by rw [hk13_57]; exact zc_le_end h0 (by omega)
  refine zt_trans (l271_4 x1 x2   i0 ((S 13 57).toNatClampNeg - i0) (x3, u5, S) (by have := zn_cl h0; omega) (fun j hj => by rw [hk13_57]; exact zc_le h0 hj (by omega)) (fun j hj _ => by exact zx_of (by have := zn_cl h0; omega) (by have := zn_cl h0; omega)) (fun j hj _ _ => by rw [hk122 j]; have := zn_cl h0; exact hA1 _ (by omega))) ?_
  exact zt_cast (s271_4 x1 x2 (zfold (k271_4 x1 x2 ) i0 ((S 13 57).toNatClampNeg - i0) (x3, u5, S)).1 (Int32.ofNat (i0 + ((S 13 57).toNatClampNeg - i0))) (zfold (k271_4 x1 x2 ) i0 ((S 13 57).toNatClampNeg - i0) (x3, u5, S)).2.1 (zfold (k271_4 x1 x2 ) i0 ((S 13 57).toNatClampNeg - i0) (x3, u5, S)).2.2 (fun h9 => absurd hend h9) (fun h9 => absurd hend h9)) (if_pos hend)
set_option maxRecDepth 100000 in
theorem f271 {L : Nat} (a b : Int32) (S : zS) (g0 : zn 40 (S 13 57)) (g1 : zA 40 3 (S 122)) : zf L 271 [.inr (.inr 13), .inl a, .inl b] S (.inl (some (.inl (K271_4_c3 a b 0 (none : Option zV) 0 S))), (K271_4_S a b 0 (none : Option zV) 0 S), 0) := zf_of (en_271 _ _ _) (zr_0 i271_0 kc_0 (zr_3_3 i271_1 (zr_0 i271_2 kc_0 (zr_3_4 i271_3 (zt_trans (L271_4 a b 0 (none : Option zV) 0 S (by decide) (g0) (g1)) (zr_1_3 i271_43 (zr_25 i271_44)))))))
set_option maxRecDepth 100000 in
theorem s238_74 {L : Nat} (x1 x2 x3 x4 : Int32) (S : zS) (g0 : (¬ ((S 13 72) ≤ x4)) → zx 20 x4) : zt L 238 74 [some (.inr (.inr 13)), some (.inl x1), some (.inl x2), some (.inl x3), some (.inl x4)] [] S (if ((S 13 72) ≤ x4) then (.inl (99, [some (.inr (.inr 13)), some (.inl x1), some (.inl x2), some (.inl x3), some (.inl x4)], [], S)) else (.inl (74, [some (.inr (.inr 13)), some (.inl x1), some (.inl x2), some (.inl x3), some (.inl (x4 + 1))], [], (z_up S 138 x4.toNatClampNeg (zb ((¬ ((S 138 x4.toNatClampNeg) = 0)) ∨ (((S 134 x4.toNatClampNeg) / 36) = x1))))))) := zr_1_4 i238_74 (zr_2_0 i238_75 (zr_6 i238_76 fl_13_72 rfl (zr_19_3 i238_77 (fun h2273 => zt_rfl) (fun h2274 => zr_2_0 i238_78 (zr_6r i238_79 fl_13_78 (zr_1_4 i238_80 (zr_2_0 i238_81 (zr_6r i238_82 fl_13_78 (zr_1_4 i238_83 (zr_9 i238_84 ar_138 (g0 h2274) rfl rfl (zt_trans (zt_cast (zr_18_1 i238_85 (fun h2275 => zr_2_0 i238_86 (zr_6r i238_87 fl_13_74 (zr_1_4 i238_88 (zr_8 i238_89 ar_134 (g0 h2274) rfl rfl (zr_cv (zs_22_1 i238_90 na_237 rfl) (f237 (S 134 x4.toNatClampNeg) S ) (zr_1_1 i238_91 (zt_cast (zr_19_1 i238_92 (fun h2277 => zr_0 i238_93 kc_1 (zr_17 i238_94 (zt_rfl))) (fun h2278 => zr_0 i238_95 kc_0 (zt_rfl))) (zm_c zz_s (zl_c (zl_t zz_10) zz_s) zz_s)))))))) (fun h2276 => zr_0 i238_93 kc_1 (zr_17 i238_94 (zt_rfl)))) (zm_c zz_s (zl_c (zl_t zz_b1) zz_s) zz_s)) (zr_11 i238_96 ar_138 (g0 h2274) (zb_01 _) rfl (zr_5_4 i238_97 kc_1 (zr_17 i238_98 (zt_rfl)))))))))))))))
def k238_74 (x1 x2 x3 : Int32) (j : Nat) (a : zS) : zS := (z_up a 138 j (zb ((¬ ((a 138 j) = 0)) ∨ (((a 134 j) / 36) = x1))))
set_option maxRecDepth 100000 in
theorem l238_74 {L : Nat} (x1 x2 x3 : Int32) (i0 n : Nat) (a : zS) (hn : i0 + n < 2147483648) (hc0 : ∀ j, j < n → ¬ (((zfold (k238_74 x1 x2 x3 ) i0 j a) 13 72) ≤ (Int32.ofNat (i0 + j)))) (g0 : ∀ j, j < n → (¬ (((zfold (k238_74 x1 x2 x3 ) i0 j a) 13 72) ≤ (Int32.ofNat (i0 + j)))) → zx 20 (Int32.ofNat (i0 + j))) : zt L 238 74 [some (.inr (.inr 13)), some (.inl x1), some (.inl x2), some (.inl x3), some (.inl (Int32.ofNat i0))] [] a (.inl (74, [some (.inr (.inr 13)), some (.inl x1), some (.inl x2), some (.inl x3), some (.inl (Int32.ofNat (i0 + n)))], [], (zfold (k238_74 x1 x2 x3 ) i0 n a))) := by
  induction n with
  | zero => exact zt_rfl
  | succ n ih =>
    have e1 := zk_ix (i0 + n) (by omega)
    have e2 := zk_add (i0 + n)
    refine zt_trans (ih (by omega) (fun j hj => hc0 j (by omega)) (fun j hj => g0 j (by omega))) ?_
    refine zt_cast (s238_74 x1 x2 x3 (Int32.ofNat (i0 + n)) (zfold (k238_74 x1 x2 x3 ) i0 n a) (by have hg := g0 n (by omega); first | exact hg | (simp only [e1]; exact hg))) ?_
    rw [if_neg (show ¬ (((zfold (k238_74 x1 x2 x3 ) i0 n a) 13 72) ≤ (Int32.ofNat (i0 + n))) from (by have hg := hc0 n (by omega); first | exact hg | (simp only [e1]; exact hg)))]
    simp only [zfold, k238_74, e1, e2, ← Nat.add_assoc]
def K238_74 (x1 x2 x3 : Int32) (i0 : Nat) (S : zS) : zS := zfold (k238_74 x1 x2 x3 ) i0 ((S 13 72).toNatClampNeg - i0) S
def K238_74_S (x1 x2 x3 : Int32) (i0 : Nat) (S : zS) : zS := (K238_74 x1 x2 x3 i0 S)
set_option maxRecDepth 100000 in
theorem L238_74 {L : Nat} (x1 x2 x3 : Int32) (i0 : Nat) (S : zS) (hi : i0 ≤ 10000) (h0 : zn 20 (S 13 72)) : zt L 238 74 [some (.inr (.inr 13)), some (.inl x1), some (.inl x2), some (.inl x3), some (.inl (Int32.ofNat i0))] [] S (.inl (99, [some (.inr (.inr 13)), some (.inl x1), some (.inl x2), some (.inl x3), some (.inl (Int32.ofNat (i0 + ((S 13 72).toNatClampNeg - i0))))], [], (K238_74_S x1 x2 x3 i0 S))) := by
  have hk13_72 : ∀ n, (zfold (k238_74 x1 x2 x3 ) i0 n S) 13 72 = S 13 72 := fun n => zfold_keep (fun b => b 13 72) (fun j b => show (z_up b 138 j (zb ((¬ ((b 138 j) = 0)) ∨ (((b 134 j) / 36) = x1)))) 13 72 = b 13 72 from (zupci rfl)) n S
  have hend : (zfold (k238_74 x1 x2 x3 ) i0 ((S 13 72).toNatClampNeg - i0) S) 13 72 ≤ Int32.ofNat (i0 + ((S 13 72).toNatClampNeg - i0)) := by rw [hk13_72]; exact zc_le_end h0 (by omega)
  refine zt_trans (l238_74 x1 x2 x3   i0 ((S 13 72).toNatClampNeg - i0) S (by have := zn_cl h0; omega) (fun j hj => by rw [hk13_72]; exact zc_le h0 hj (by omega)) (fun j hj _ => by exact zx_of (by have := zn_cl h0; omega) (by have := zn_cl h0; omega))) ?_
  exact zt_cast (s238_74 x1 x2 x3 (Int32.ofNat (i0 + ((S 13 72).toNatClampNeg - i0))) (zfold (k238_74 x1 x2 x3 ) i0 ((S 13 72).toNatClampNeg - i0) S) (fun h9 => absurd hend h9)) (if_pos hend)
set_option maxRecDepth 100000 in
theorem s238_27 {L : Nat} (x1 x2 x3 : Int32) (S : zS) (g0 : (¬ ((S 13 36) ≤ x3)) → zx 2048 x3) (g1 : (¬ ((S 13 36) ≤ x3)) → (¬ (((S 96 x3.toNatClampNeg) / 36) = x1)) → zx 2048 x2) : zt L 238 27 [some (.inr (.inr 13)), some (.inl x1), some (.inl x2), some (.inl x3), none] [] S (if ((S 13 36) ≤ x3) then (.inl (64, [some (.inr (.inr 13)), some (.inl x1), some (.inl x2), some (.inl x3), none], [], S)) else (.inl (27, [some (.inr (.inr 13)), some (.inl x1), some (.inl (if (((S 96 x3.toNatClampNeg) / 36) = x1) then (x2 : Int32) else (x2 + 1))), some (.inl (x3 + 1)), none], [], (if (((S 96 x3.toNatClampNeg) / 36) = x1) then S else (z_up (z_up (z_up (z_up (z_up S 96 x2.toNatClampNeg (S 96 x3.toNatClampNeg)) 97 x2.toNatClampNeg (S 97 x3.toNatClampNeg)) 98 x2.toNatClampNeg (S 98 x3.toNatClampNeg)) 99 x2.toNatClampNeg (S 99 x3.toNatClampNeg)) 100 x2.toNatClampNeg (S 100 x3.toNatClampNeg)))))) := zr_1_3 i238_27 (zr_2_0 i238_28 (zr_6 i238_29 fl_13_36 rfl (zr_19_3 i238_30 (fun h2279 => zt_rfl) (fun h2280 => zr_2_0 i238_31 (zr_6r i238_32 fl_13_31 (zr_1_3 i238_33 (zr_8 i238_34 ar_96 (g0 h2280) rfl rfl (zr_cv (zs_22_1 i238_35 na_237 rfl) (f237 (S 96 x3.toNatClampNeg) S ) (zr_1_1 i238_36 (zt_trans (zt_cast (zr_19_0 i238_37 (fun h2281 => zt_rfl) (fun h2282 => zr_2_0 i238_38 (zr_1_2 i238_39 (zr_2_0 i238_40 (zr_6r i238_41 fl_13_31 (zr_1_3 i238_42 (zr_8 i238_43 ar_96 (g0 h2280) rfl rfl (zr_2_0 i238_44 (zr_6r i238_45 fl_13_32 (zr_1_3 i238_46 (zr_8 i238_47 ar_97 (g0 h2280) rfl rfl (zr_2_0 i238_48 (zr_6r i238_49 fl_13_33 (zr_1_3 i238_50 (zr_8 i238_51 ar_98 (g0 h2280) rfl rfl (zr_2_0 i238_52 (zr_6r i238_53 fl_13_34 (zr_1_3 i238_54 (zr_8 i238_55 ar_99 (g0 h2280) rfl rfl (zr_2_0 i238_56 (zr_6r i238_57 fl_13_35 (zr_1_3 i238_58 (zr_8 i238_59 ar_100 (g0 h2280) rfl rfl (zr_cn (zs_21_6 i238_60 na_239 ob_13 rfl) (f239 x2 (S 96 x3.toNatClampNeg) (S 97 x3.toNatClampNeg) (S 98 x3.toNatClampNeg) (S 99 x3.toNatClampNeg) (S 100 x3.toNatClampNeg) S (g1 h2280 h2282)) (zr_5_2 i238_61 kc_1 (zt_rfl)))))))))))))))))))))))))) (zm_c (zl_c zz_s (zl_c zz_s (zl_c (zl_v zz_e) zz_s))) zz_s zz_e)) (zr_5_3 i238_62 kc_1 (zr_17 i238_63 (zt_rfl)))))))))))))
def k238_27 (x1 : Int32) (j : Nat) (a : Int32 × zS) : Int32 × zS := ((if (((a.2 96 j) / 36) = x1) then (a.1 : Int32) else (a.1 + 1)), (if (((a.2 96 j) / 36) = x1) then a.2 else (z_up (z_up (z_up (z_up (z_up a.2 96 a.1.toNatClampNeg (a.2 96 j)) 97 a.1.toNatClampNeg (a.2 97 j)) 98 a.1.toNatClampNeg (a.2 98 j)) 99 a.1.toNatClampNeg (a.2 99 j)) 100 a.1.toNatClampNeg (a.2 100 j))))
set_option maxRecDepth 100000 in
theorem l238_27 {L : Nat} (x1 : Int32) (i0 n : Nat) (a : Int32 × zS) (hn : i0 + n < 2147483648) (hc0 : ∀ j, j < n → ¬ (((zfold (k238_27 x1 ) i0 j a).2 13 36) ≤ (Int32.ofNat (i0 + j)))) (g0 : ∀ j, j < n → (¬ (((zfold (k238_27 x1 ) i0 j a).2 13 36) ≤ (Int32.ofNat (i0 + j)))) → zx 2048 (Int32.ofNat (i0 + j))) (g1 : ∀ j, j < n → (¬ (((zfold (k238_27 x1 ) i0 j a).2 13 36) ≤ (Int32.ofNat (i0 + j)))) → (¬ ((((zfold (k238_27 x1 ) i0 j a).2 96 (i0 + j)) / 36) = x1)) → zx 2048 (zfold (k238_27 x1 ) i0 j a).1) : zt L 238 27 [some (.inr (.inr 13)), some (.inl x1), some (.inl a.1), some (.inl (Int32.ofNat i0)), none] [] a.2 (.inl (27, [some (.inr (.inr 13)), some (.inl x1), some (.inl (zfold (k238_27 x1 ) i0 n a).1), some (.inl (Int32.ofNat (i0 + n))), none], [], (zfold (k238_27 x1 ) i0 n a).2)) := by
  induction n with
  | zero => exact zt_rfl
  | succ n ih =>
    have e1 := zk_ix (i0 + n) (by omega)
    have e2 := zk_add (i0 + n)
    refine zt_trans (ih (by omega) (fun j hj => hc0 j (by omega)) (fun j hj => g0 j (by omega)) (fun j hj => g1 j (by omega))) ?_
    refine zt_cast (s238_27 x1 (zfold (k238_27 x1 ) i0 n a).1 (Int32.ofNat (i0 + n)) (zfold (k238_27 x1 ) i0 n a).2 (by have hg := g0 n (by omega); first | exact hg | (simp only [e1]; exact hg)) (by have hg := g1 n (by omega); first | exact hg | (simp only [e1]; exact hg))) ?_
    rw [if_neg (show ¬ (((zfold (k238_27 x1 ) i0 n a).2 13 36) ≤ (Int32.ofNat (i0 + n))) from (by have hg := hc0 n (by omega); first | exact hg | (simp only [e1]; exact hg)))]
    simp only [zfold, k238_27, e1, e2, ← Nat.add_assoc]
def K238_27 (x1 x2 : Int32) (i0 : Nat) (S : zS) : Int32 × zS := zfold (k238_27 x1 ) i0 ((S 13 36).toNatClampNeg - i0) (x2, S)
def K238_27_c2 (x1 x2 : Int32) (i0 : Nat) (S : zS) : Int32 := (K238_27 x1 x2 i0 S).1
def K238_27_S (x1 x2 : Int32) (i0 : Nat) (S : zS) : zS := (K238_27 x1 x2 i0 S).2
set_option maxRecDepth 100000 in
theorem L238_27 {L : Nat} (x1 x2 : Int32) (i0 : Nat) (S : zS) (hi : i0 ≤ 10000) (h0 : zn 2048 (S 13 36)) (hx : zn i0 x2) : zt L 238 27 [some (.inr (.inr 13)), some (.inl x1), some (.inl x2), some (.inl (Int32.ofNat i0)), none] [] S (.inl (64, [some (.inr (.inr 13)), some (.inl x1), some (.inl (K238_27_c2 x1 x2 i0 S)), some (.inl (Int32.ofNat (i0 + ((S 13 36).toNatClampNeg - i0)))), none], [], (K238_27_S x1 x2 i0 S))) := by
  have hk13_36 : ∀ n, (zfold (k238_27 x1 ) i0 n (x2, S)).2 13 36 = S 13 36 := fun n => zfold_keep (fun b => b.2 13 36) (fun j b => show (if (((b.2 96 j) / 36) = x1) then b.2 else (z_up (z_up (z_up (z_up (z_up b.2 96 b.1.toNatClampNeg (b.2 96 j)) 97 b.1.toNatClampNeg (b.2 97 j)) 98 b.1.toNatClampNeg (b.2 98 j)) 99 b.1.toNatClampNeg (b.2 99 j)) 100 b.1.toNatClampNeg (b.2 100 j))) 13 36 = b.2 13 36 from (zite_rd rfl ((zupci rfl).trans ((zupci rfl).trans ((zupci rfl).trans ((zupci rfl).trans (zupci rfl))))))) n (x2, S)
  have hacc : ∀ n, n ≤ ((S 13 36).toNatClampNeg - i0) → zn (i0 + n) (zfold (k238_27 x1 ) i0 n (x2, S)).1 := by
    intro n
    induction n with
    | zero => intro _; exact hx
    | succ n ih =>
      intro hn
      have h := ih (by omega)
      have := zn_cl h0
      simp only [zfold, k238_27]
      (repeat' split) <;> first | exact zn_succ h (by omega) | exact zn_up h
  have hend : (zfold (k238_27 x1 ) i0 ((S 13 36).toNatClampNeg - i0) (x2, S)).2 13 36 ≤ Int32.ofNat (i0 + ((S 13 36).toNatClampNeg - i0)) := by rw [hk13_36]; exact zc_le_end h0 (by omega)
  refine zt_trans (l238_27 x1   i0 ((S 13 36).toNatClampNeg - i0) (x2, S) (by have := zn_cl h0; omega) (fun j hj => by rw [hk13_36]; exact zc_le h0 hj (by omega)) (fun j hj _ => by exact zx_of (by have := zn_cl h0; omega) (by have := zn_cl h0; omega)) (fun j hj _ _ => zx_zn (hacc j (by omega)) (by have := zn_cl h0; omega))) ?_
  exact zt_cast (s238_27 x1 (zfold (k238_27 x1 ) i0 ((S 13 36).toNatClampNeg - i0) (x2, S)).1 (Int32.ofNat (i0 + ((S 13 36).toNatClampNeg - i0))) (zfold (k238_27 x1 ) i0 ((S 13 36).toNatClampNeg - i0) (x2, S)).2 (fun h9 => absurd hend h9) (fun h9 => absurd hend h9)) (if_pos hend)
set_option maxRecDepth 100000 in
theorem s238_4 {L : Nat} (x1 x2 : Int32) (S : zS) (g0 : (¬ (((36 * x1) + 36) ≤ x2)) → zx 216 x2) : zt L 238 4 [some (.inr (.inr 13)), some (.inl x1), some (.inl x2), none, none] [] S (if (((36 * x1) + 36) ≤ x2) then (.inl (23, [some (.inr (.inr 13)), some (.inl x1), some (.inl x2), none, none], [], S)) else (.inl (4, [some (.inr (.inr 13)), some (.inl x1), some (.inl (x2 + 1)), none, none], [], (z_up (z_up S 88 x2.toNatClampNeg 0) 92 x2.toNatClampNeg 0)))) := zr_1_2 i238_4 (zr_0 i238_5 kc_36 (zr_1_1 i238_6 (zr_13_2 i238_7 (zr_0 i238_8 kc_36 (zr_13_0 i238_9 (zr_19_3 i238_10 (fun h2283 => zt_rfl) (fun h2284 => zr_2_0 i238_11 (zr_6r i238_12 fl_13_23 (zr_1_2 i238_13 (zr_0 i238_14 kc_0 (zr_10 i238_15 ar_88 (g0 h2284) rfl (zr_2_0 i238_16 (zr_6r i238_17 fl_13_27 (zr_1_2 i238_18 (zr_0 i238_19 kc_0 (zr_10 i238_20 ar_92 (g0 h2284) rfl (zr_5_2 i238_21 kc_1 (zr_17 i238_22 (zt_rfl)))))))))))))))))))
def k238_4 (x1 : Int32) (j : Nat) (a : zS) : zS := (z_up (z_up a 88 j 0) 92 j 0)
set_option maxRecDepth 100000 in
theorem l238_4 {L : Nat} (x1 : Int32) (i0 n : Nat) (a : zS) (hn : i0 + n < 2147483648) (hc0 : ∀ j, j < n → ¬ (((36 * x1) + 36) ≤ (Int32.ofNat (i0 + j)))) (g0 : ∀ j, j < n → (¬ (((36 * x1) + 36) ≤ (Int32.ofNat (i0 + j)))) → zx 216 (Int32.ofNat (i0 + j))) : zt L 238 4 [some (.inr (.inr 13)), some (.inl x1), some (.inl (Int32.ofNat i0)), none, none] [] a (.inl (4, [some (.inr (.inr 13)), some (.inl x1), some (.inl (Int32.ofNat (i0 + n))), none, none], [], (zfold (k238_4 x1 ) i0 n a))) := by
  induction n with
  | zero => exact zt_rfl
  | succ n ih =>
    have e1 := zk_ix (i0 + n) (by omega)
    have e2 := zk_add (i0 + n)
    refine zt_trans (ih (by omega) (fun j hj => hc0 j (by omega)) (fun j hj => g0 j (by omega))) ?_
    refine zt_cast (s238_4 x1 (Int32.ofNat (i0 + n)) (zfold (k238_4 x1 ) i0 n a) (by have hg := g0 n (by omega); first | exact hg | (simp only [e1]; exact hg))) ?_
    rw [if_neg (show ¬ (((36 * x1) + 36) ≤ (Int32.ofNat (i0 + n))) from (by have hg := hc0 n (by omega); first | exact hg | (simp only [e1]; exact hg)))]
    simp only [zfold, k238_4, e1, e2, ← Nat.add_assoc]
def K238_4 (x1 : Int32) (i0 : Nat) (S : zS) : zS := zfold (k238_4 x1 ) i0 (((36 * x1) + 36).toNatClampNeg - i0) S
def K238_4_S (x1 : Int32) (i0 : Nat) (S : zS) : zS := (K238_4 x1 i0 S)
set_option maxRecDepth 100000 in
theorem L238_4 {L : Nat} (x1 : Int32) (i0 : Nat) (S : zS) (hi : i0 ≤ 10000) (h0 : zn 216 ((36 * x1) + 36)) : zt L 238 4 [some (.inr (.inr 13)), some (.inl x1), some (.inl (Int32.ofNat i0)), none, none] [] S (.inl (23, [some (.inr (.inr 13)), some (.inl x1), some (.inl (Int32.ofNat (i0 + (((36 * x1) + 36).toNatClampNeg - i0)))), none, none], [], (K238_4_S x1 i0 S))) := by
  have hend : ((36 * x1) + 36) ≤ Int32.ofNat (i0 + (((36 * x1) + 36).toNatClampNeg - i0)) := by exact zc_le_end h0 (by omega)
  refine zt_trans (l238_4 x1   i0 (((36 * x1) + 36).toNatClampNeg - i0) S (by have := zn_cl h0; omega) (fun j hj => by exact zc_le h0 hj (by omega)) (fun j hj _ => by exact zx_of (by have := zn_cl h0; omega) (by have := zn_cl h0; omega))) ?_
  exact zt_cast (s238_4 x1 (Int32.ofNat (i0 + (((36 * x1) + 36).toNatClampNeg - i0))) (zfold (k238_4 x1 ) i0 (((36 * x1) + 36).toNatClampNeg - i0) S) (fun h9 => absurd hend h9)) (if_pos hend)
set_option maxRecDepth 100000 in
theorem w_K238_4_S_13_36 (x1 : Int32) (i0 : Nat) (S : zS) : K238_4_S x1 i0 S 13 36 = S 13 36 := zfold_keep (fun b => b 13 36) ((fun j b => show (z_up (z_up b 88 j 0) 92 j 0) 13 36 = b 13 36 from ((zupci rfl).trans (zupci rfl)))) _ _
set_option maxRecDepth 100000 in
theorem w_K238_27_S_13_57 (x1 x2 : Int32) (i0 : Nat) (S : zS) : K238_27_S x1 x2 i0 S 13 57 = S 13 57 := zfold_keep (fun b => b.2 13 57) ((fun j b => show (if (((b.2 96 j) / 36) = x1) then b.2 else (z_up (z_up (z_up (z_up (z_up b.2 96 b.1.toNatClampNeg (b.2 96 j)) 97 b.1.toNatClampNeg (b.2 97 j)) 98 b.1.toNatClampNeg (b.2 98 j)) 99 b.1.toNatClampNeg (b.2 99 j)) 100 b.1.toNatClampNeg (b.2 100 j))) 13 57 = b.2 13 57 from (zite_rd rfl ((zupci rfl).trans ((zupci rfl).trans ((zupci rfl).trans ((zupci rfl).trans (zupci rfl)))))))) _ _
set_option maxRecDepth 100000 in
theorem w_K238_4_S_13_57 (x1 : Int32) (i0 : Nat) (S : zS) : K238_4_S x1 i0 S 13 57 = S 13 57 := zfold_keep (fun b => b 13 57) ((fun j b => show (z_up (z_up b 88 j 0) 92 j 0) 13 57 = b 13 57 from ((zupci rfl).trans (zupci rfl)))) _ _
set_option maxRecDepth 100000 in
theorem w_K238_27_S_122 (x1 x2 : Int32) (i0 : Nat) (S : zS) : K238_27_S x1 x2 i0 S 122 = S 122 := zfold_keep (fun b => b.2 122) ((fun j b => show (if (((b.2 96 j) / 36) = x1) then b.2 else (z_up (z_up (z_up (z_up (z_up b.2 96 b.1.toNatClampNeg (b.2 96 j)) 97 b.1.toNatClampNeg (b.2 97 j)) 98 b.1.toNatClampNeg (b.2 98 j)) 99 b.1.toNatClampNeg (b.2 99 j)) 100 b.1.toNatClampNeg (b.2 100 j))) 122 = b.2 122 from (zite_k rfl ((zupc rfl).trans ((zupc rfl).trans ((zupc rfl).trans ((zupc rfl).trans (zupc rfl)))))))) _ _
set_option maxRecDepth 100000 in
theorem w_K238_4_S_122 (x1 : Int32) (i0 : Nat) (S : zS) : K238_4_S x1 i0 S 122 = S 122 := zfold_keep (fun b => b 122) ((fun j b => show (z_up (z_up b 88 j 0) 92 j 0) 122 = b 122 from ((zupc rfl).trans (zupc rfl)))) _ _
set_option maxRecDepth 100000 in
theorem w_G269_13_72 (a : Int32) (S : zS) : G269 a S 13 72 = S 13 72 := (show (if ((S 127 (S 122 a.toNatClampNeg).toNatClampNeg) = 1) then (z_up (z_up S 126 a.toNatClampNeg ((S 126 a.toNatClampNeg) + 1)) 125 a.toNatClampNeg (if (((S 126 a.toNatClampNeg) + 1) = 3) then (3 : Int32) else 1)) else (z_up (z_up (z_up S 126 a.toNatClampNeg ((S 126 a.toNatClampNeg) + 1)) 125 a.toNatClampNeg 2) 128 (S 122 a.toNatClampNeg).toNatClampNeg ((S 128 (S 122 a.toNatClampNeg).toNatClampNeg) - 1))) 13 72 = S 13 72 from (zite_rd ((zupci rfl).trans (zupci rfl)) ((zupci rfl).trans ((zupci rfl).trans (zupci rfl)))))
set_option maxRecDepth 100000 in
theorem w_K271_4_S_13_72 (x1 x2 x3 : Int32) (u5 : Option zV) (i0 : Nat) (S : zS) : K271_4_S x1 x2 x3 u5 i0 S 13 72 = S 13 72 := zfold_keep (fun b => b.2.2 13 72) ((fun j b => show (if (((b.2.2 125 j) = 0) ∧ ((((b.2.2 121 j) / 36) = x1) ∧ ((x2 = (-1)) ∨ ((if (1 = 0) then (((b.2.2 121 j) / 36) : Int32) else (if (1 = 1) then ((zrem ((b.2.2 121 j) / 6) 6) : Int32) else (zrem (b.2.2 121 j) 6))) = x2)))) then (G269 (Int32.ofNat j) (z_up (z_up b.2.2 123 j (b.2.2 13 1)) 126 j 0)) else b.2.2) 13 72 = b.2.2 13 72 from (zite_rd ((w_G269_13_72 _ _).trans ((zupci rfl).trans (zupci rfl))) rfl))) _ _
set_option maxRecDepth 100000 in
theorem w_K238_27_S_13_72 (x1 x2 : Int32) (i0 : Nat) (S : zS) : K238_27_S x1 x2 i0 S 13 72 = S 13 72 := zfold_keep (fun b => b.2 13 72) ((fun j b => show (if (((b.2 96 j) / 36) = x1) then b.2 else (z_up (z_up (z_up (z_up (z_up b.2 96 b.1.toNatClampNeg (b.2 96 j)) 97 b.1.toNatClampNeg (b.2 97 j)) 98 b.1.toNatClampNeg (b.2 98 j)) 99 b.1.toNatClampNeg (b.2 99 j)) 100 b.1.toNatClampNeg (b.2 100 j))) 13 72 = b.2 13 72 from (zite_rd rfl ((zupci rfl).trans ((zupci rfl).trans ((zupci rfl).trans ((zupci rfl).trans (zupci rfl)))))))) _ _
set_option maxRecDepth 100000 in
theorem w_K238_4_S_13_72 (x1 : Int32) (i0 : Nat) (S : zS) : K238_4_S x1 i0 S 13 72 = S 13 72 := zfold_keep (fun b => b 13 72) ((fun j b => show (z_up (z_up b 88 j 0) 92 j 0) 13 72 = b 13 72 from ((zupci rfl).trans (zupci rfl)))) _ _
def G238 (a : Int32) (S : zS) : zS := (K238_74_S a (K238_27_c2 a 0 0 (K238_4_S a (36 * a).toNatClampNeg S)) (K271_4_c3 a (-1) 0 (none : Option zV) 0 (z_up (K238_27_S a 0 0 (K238_4_S a (36 * a).toNatClampNeg S)) 13 36 (K238_27_c2 a 0 0 (K238_4_S a (36 * a).toNatClampNeg S)))) 0 (K271_4_S a (-1) 0 (none : Option zV) 0 (z_up (K238_27_S a 0 0 (K238_4_S a (36 * a).toNatClampNeg S)) 13 36 (K238_27_c2 a 0 0 (K238_4_S a (36 * a).toNatClampNeg S)))))
set_option maxRecDepth 100000 in
theorem f238 {L : Nat} (a : Int32) (S : zS) (g0 : zn 216 ((36 * a) + 36)) (g1 : zn 10000 (36 * a)) (g2 : zn 2048 (S 13 36)) (g3 : zn 40 (S 13 57)) (g4 : zA 40 3 (S 122)) (g5 : zn 20 (S 13 72)) : zf L 238 [.inr (.inr 13), .inl a] S (.inl none, (G238 a S), 0) := zf_of (en_238 _ _) (zr_0 i238_0 kc_36 (zr_1_1 i238_1 (zr_13_2 i238_2 (zr_3_2 i238_3 (zt_trans (zk_cg (P := fun v9 => zt L 238 4 [some (.inr (.inr 13)), some (.inl a), some (.inl v9), none, none] [] S (.inl (23, [some (.inr (.inr 13)), some (.inl a), some (.inl (Int32.ofNat ((36 * a).toNatClampNeg + (((36 * a) + 36).toNatClampNeg - (36 * a).toNatClampNeg)))), none, none], [], (K238_4_S a (36 * a).toNatClampNeg S)))) ((g1)).1 (L238_4 a (36 * a).toNatClampNeg S (zn_cl (g1)) (g0))) (zr_0 i238_23 kc_0 (zr_3_2 i238_24 (zr_0 i238_25 kc_0 (zr_3_3 i238_26 (zt_trans (L238_27 a 0 0 (K238_4_S a (36 * a).toNatClampNeg S) (by decide) (znv (w_K238_4_S_13_36 _ _ _) (g2)) (zn_c zn_0_0)) (zr_2_0 i238_64 (zr_1_2 i238_65 (zr_7 i238_66 fl_13_36 (zr_2_0 i238_67 (zr_1_1 i238_68 (zr_0 i238_69 kc_m1 (zr_cv (zs_21_2 i238_70 na_271 ob_13 rfl) (f271 a (-1) (z_up (K238_27_S a 0 0 (K238_4_S a (36 * a).toNatClampNeg S)) 13 36 (K238_27_c2 a 0 0 (K238_4_S a (36 * a).toNatClampNeg S))) (znv ((zupf rfl).trans ((w_K238_27_S_13_57 _ _ _ _).trans (w_K238_4_S_13_57 _ _ _))) (g3)) (zpc1 ((zupc rfl).trans ((w_K238_27_S_122 _ _ _ _).trans (w_K238_4_S_122 _ _ _))) (g4))) (zr_3_3 i238_71 (zr_0 i238_72 kc_0 (zr_3_4 i238_73 (zt_trans (L238_74 a (K238_27_c2 a 0 0 (K238_4_S a (36 * a).toNatClampNeg S)) (K271_4_c3 a (-1) 0 (none : Option zV) 0 (z_up (K238_27_S a 0 0 (K238_4_S a (36 * a).toNatClampNeg S)) 13 36 (K238_27_c2 a 0 0 (K238_4_S a (36 * a).toNatClampNeg S)))) 0 (K271_4_S a (-1) 0 (none : Option zV) 0 (z_up (K238_27_S a 0 0 (K238_4_S a (36 * a).toNatClampNeg S)) 13 36 (K238_27_c2 a 0 0 (K238_4_S a (36 * a).toNatClampNeg S)))) (by decide) (znv ((w_K271_4_S_13_72 _ _ _ _ _ _).trans ((zupf rfl).trans ((w_K238_27_S_13_72 _ _ _ _).trans (w_K238_4_S_13_72 _ _ _)))) (g5))) (zr_27 i238_99))))))))))))))))))))))
