/-! the methods with loops, and what calls them (wip/whole/gen/gen18.py) -/
theorem i271_0 : zi 271 0 1 0 0 0 := by decide +kernel
theorem i271_1 : zi 271 1 2 3 3 0 := by decide +kernel
theorem i271_2 : zi 271 2 3 0 0 0 := by decide +kernel
theorem i271_3 : zi 271 3 4 3 4 0 := by decide +kernel
theorem i271_4 : zi 271 4 5 1 4 0 := by decide +kernel
theorem i271_5 : zi 271 5 6 2 0 0 := by decide +kernel
theorem i271_6 : zi 271 6 7 6 12 57 := by decide +kernel
theorem i271_7 : zi 271 7 8 19 43 3 := by decide +kernel
theorem i271_8 : zi 271 8 9 2 0 0 := by decide +kernel
theorem i271_9 : zi 271 9 10 6 12 63 := by decide +kernel
theorem i271_10 : zi 271 10 11 1 4 0 := by decide +kernel
theorem i271_11 : zi 271 11 12 8 0 0 := by decide +kernel
theorem i271_12 : zi 271 12 13 18 33 1 := by decide +kernel
theorem i271_13 : zi 271 13 14 2 0 0 := by decide +kernel
theorem i271_14 : zi 271 14 15 6 12 59 := by decide +kernel
theorem i271_15 : zi 271 15 16 1 4 0 := by decide +kernel
theorem i271_16 : zi 271 16 17 8 0 0 := by decide +kernel
theorem i271_17 : zi 271 17 18 22 237 0 := by decide +kernel
theorem i271_18 : zi 271 18 19 1 1 0 := by decide +kernel
theorem i271_19 : zi 271 19 20 19 33 1 := by decide +kernel
theorem i271_20 : zi 271 20 21 1 2 0 := by decide +kernel
theorem i271_21 : zi 271 21 22 0 0 (-1) := by decide +kernel
theorem i271_22 : zi 271 22 23 19 31 0 := by decide +kernel
theorem i271_31 : zi 271 31 32 0 0 1 := by decide +kernel
theorem i271_32 : zi 271 32 33 17 34 0 := by decide +kernel
theorem i271_23 : zi 271 23 24 2 0 0 := by decide +kernel
theorem i271_24 : zi 271 24 25 6 12 59 := by decide +kernel
theorem i271_25 : zi 271 25 26 1 4 0 := by decide +kernel
theorem i271_26 : zi 271 26 27 8 0 0 := by decide +kernel
theorem i271_27 : zi 271 27 28 0 0 1 := by decide +kernel
theorem i271_28 : zi 271 28 29 22 253 0 := by decide +kernel
theorem na_253 : z_na 253 = 2 := by decide +kernel
theorem i271_29 : zi 271 29 30 1 2 0 := by decide +kernel
theorem i271_30 : zi 271 30 31 19 33 1 := by decide +kernel
theorem i271_33 : zi 271 33 34 0 0 0 := by decide +kernel
theorem i271_34 : zi 271 34 35 3 5 0 := by decide +kernel
theorem i271_35 : zi 271 35 36 1 5 0 := by decide +kernel
theorem i271_36 : zi 271 36 37 18 41 0 := by decide +kernel
theorem i271_37 : zi 271 37 38 2 0 0 := by decide +kernel
theorem i271_38 : zi 271 38 39 1 4 0 := by decide +kernel
theorem i271_39 : zi 271 39 40 21 270 12 := by decide +kernel
theorem na_270 : z_na 270 = 1 := by decide +kernel
theorem i271_40 : zi 271 40 41 5 3 1 := by decide +kernel
theorem i271_41 : zi 271 41 42 5 4 1 := by decide +kernel
theorem i271_42 : zi 271 42 43 17 4 0 := by decide +kernel
theorem i271_43 : zi 271 43 44 1 3 0 := by decide +kernel
theorem i271_44 : zi 271 44 45 25 0 0 := by decide +kernel
theorem ml_271 : z_ml 271 = 6 := by decide +kernel
theorem en_271 : ∀ (v0 v1 v2 : zV), z_ent 271 [v0, v1, v2] = [some v0, some v1, some v2, none, none, none] := fun v0 v1 v2 => by unfold z_ent; rw [ml_271]; rfl
theorem i238_0 : zi 238 0 1 0 0 36 := by decide +kernel
theorem i238_1 : zi 238 1 2 1 1 0 := by decide +kernel
theorem i238_2 : zi 238 2 3 13 2 0 := by decide +kernel
theorem i238_3 : zi 238 3 4 3 2 0 := by decide +kernel
theorem i238_4 : zi 238 4 5 1 2 0 := by decide +kernel
theorem i238_5 : zi 238 5 6 0 0 36 := by decide +kernel
theorem i238_6 : zi 238 6 7 1 1 0 := by decide +kernel
theorem i238_7 : zi 238 7 8 13 2 0 := by decide +kernel
theorem i238_8 : zi 238 8 9 0 0 36 := by decide +kernel
theorem i238_9 : zi 238 9 10 13 0 0 := by decide +kernel
theorem i238_10 : zi 238 10 11 19 23 3 := by decide +kernel
theorem i238_11 : zi 238 11 12 2 0 0 := by decide +kernel
theorem i238_12 : zi 238 12 13 6 12 23 := by decide +kernel
theorem i238_13 : zi 238 13 14 1 2 0 := by decide +kernel
theorem i238_14 : zi 238 14 15 0 0 0 := by decide +kernel
theorem i238_15 : zi 238 15 16 10 0 0 := by decide +kernel
theorem i238_16 : zi 238 16 17 2 0 0 := by decide +kernel
theorem i238_17 : zi 238 17 18 6 12 27 := by decide +kernel
theorem fl_13_27 : zfl 13 12 27 27 (some 92) := by decide +kernel
theorem i238_18 : zi 238 18 19 1 2 0 := by decide +kernel
theorem i238_19 : zi 238 19 20 0 0 0 := by decide +kernel
theorem i238_20 : zi 238 20 21 10 0 0 := by decide +kernel
theorem ar_92 : zar 92 0 216 := by decide +kernel
theorem i238_21 : zi 238 21 22 5 2 1 := by decide +kernel
theorem i238_22 : zi 238 22 23 17 4 0 := by decide +kernel
theorem i238_23 : zi 238 23 24 0 0 0 := by decide +kernel
theorem i238_24 : zi 238 24 25 3 2 0 := by decide +kernel
theorem i238_25 : zi 238 25 26 0 0 0 := by decide +kernel
theorem i238_26 : zi 238 26 27 3 3 0 := by decide +kernel
theorem i238_27 : zi 238 27 28 1 3 0 := by decide +kernel
theorem i238_28 : zi 238 28 29 2 0 0 := by decide +kernel
theorem i238_29 : zi 238 29 30 6 12 36 := by decide +kernel
theorem i238_30 : zi 238 30 31 19 64 3 := by decide +kernel
theorem i238_31 : zi 238 31 32 2 0 0 := by decide +kernel
theorem i238_32 : zi 238 32 33 6 12 31 := by decide +kernel
theorem i238_33 : zi 238 33 34 1 3 0 := by decide +kernel
theorem i238_34 : zi 238 34 35 8 0 0 := by decide +kernel
theorem i238_35 : zi 238 35 36 22 237 0 := by decide +kernel
theorem i238_36 : zi 238 36 37 1 1 0 := by decide +kernel
theorem i238_37 : zi 238 37 38 19 62 0 := by decide +kernel
theorem i238_38 : zi 238 38 39 2 0 0 := by decide +kernel
theorem i238_39 : zi 238 39 40 1 2 0 := by decide +kernel
theorem i238_40 : zi 238 40 41 2 0 0 := by decide +kernel
theorem i238_41 : zi 238 41 42 6 12 31 := by decide +kernel
theorem i238_42 : zi 238 42 43 1 3 0 := by decide +kernel
theorem i238_43 : zi 238 43 44 8 0 0 := by decide +kernel
theorem i238_44 : zi 238 44 45 2 0 0 := by decide +kernel
theorem i238_45 : zi 238 45 46 6 12 32 := by decide +kernel
theorem i238_46 : zi 238 46 47 1 3 0 := by decide +kernel
theorem i238_47 : zi 238 47 48 8 0 0 := by decide +kernel
theorem i238_48 : zi 238 48 49 2 0 0 := by decide +kernel
theorem i238_49 : zi 238 49 50 6 12 33 := by decide +kernel
theorem i238_50 : zi 238 50 51 1 3 0 := by decide +kernel
theorem i238_51 : zi 238 51 52 8 0 0 := by decide +kernel
theorem i238_52 : zi 238 52 53 2 0 0 := by decide +kernel
theorem i238_53 : zi 238 53 54 6 12 34 := by decide +kernel
theorem i238_54 : zi 238 54 55 1 3 0 := by decide +kernel
theorem i238_55 : zi 238 55 56 8 0 0 := by decide +kernel
theorem i238_56 : zi 238 56 57 2 0 0 := by decide +kernel
theorem i238_57 : zi 238 57 58 6 12 35 := by decide +kernel
theorem i238_58 : zi 238 58 59 1 3 0 := by decide +kernel
theorem i238_59 : zi 238 59 60 8 0 0 := by decide +kernel
theorem i238_60 : zi 238 60 61 21 239 12 := by decide +kernel
theorem i238_61 : zi 238 61 62 5 2 1 := by decide +kernel
theorem i238_62 : zi 238 62 63 5 3 1 := by decide +kernel
theorem i238_63 : zi 238 63 64 17 27 0 := by decide +kernel
theorem i238_64 : zi 238 64 65 2 0 0 := by decide +kernel
theorem i238_65 : zi 238 65 66 1 2 0 := by decide +kernel
theorem i238_66 : zi 238 66 67 7 12 36 := by decide +kernel
theorem i238_67 : zi 238 67 68 2 0 0 := by decide +kernel
theorem i238_68 : zi 238 68 69 1 1 0 := by decide +kernel
theorem i238_69 : zi 238 69 70 0 0 (-1) := by decide +kernel
theorem i238_70 : zi 238 70 71 21 271 12 := by decide +kernel
theorem na_271 : z_na 271 = 2 := by decide +kernel
theorem i238_71 : zi 238 71 72 3 3 0 := by decide +kernel
theorem i238_72 : zi 238 72 73 0 0 0 := by decide +kernel
theorem i238_73 : zi 238 73 74 3 4 0 := by decide +kernel
theorem i238_74 : zi 238 74 75 1 4 0 := by decide +kernel
theorem i238_75 : zi 238 75 76 2 0 0 := by decide +kernel
theorem i238_76 : zi 238 76 77 6 12 72 := by decide +kernel
theorem i238_77 : zi 238 77 78 19 99 3 := by decide +kernel
theorem i238_78 : zi 238 78 79 2 0 0 := by decide +kernel
theorem i238_79 : zi 238 79 80 6 12 78 := by decide +kernel
theorem fl_13_78 : zfl 13 12 78 78 (some 138) := by decide +kernel
theorem i238_80 : zi 238 80 81 1 4 0 := by decide +kernel
theorem i238_81 : zi 238 81 82 2 0 0 := by decide +kernel
theorem i238_82 : zi 238 82 83 6 12 78 := by decide +kernel
theorem i238_83 : zi 238 83 84 1 4 0 := by decide +kernel
theorem i238_84 : zi 238 84 85 9 0 0 := by decide +kernel
theorem ar_138 : zar 138 1 20 := by decide +kernel
theorem i238_85 : zi 238 85 86 18 93 1 := by decide +kernel
theorem i238_86 : zi 238 86 87 2 0 0 := by decide +kernel
theorem i238_87 : zi 238 87 88 6 12 74 := by decide +kernel
theorem fl_13_74 : zfl 13 12 74 74 (some 134) := by decide +kernel
theorem i238_88 : zi 238 88 89 1 4 0 := by decide +kernel
theorem i238_89 : zi 238 89 90 8 0 0 := by decide +kernel
theorem ar_134 : zar 134 0 20 := by decide +kernel
theorem i238_90 : zi 238 90 91 22 237 0 := by decide +kernel
theorem i238_91 : zi 238 91 92 1 1 0 := by decide +kernel
theorem i238_92 : zi 238 92 93 19 95 1 := by decide +kernel
theorem i238_93 : zi 238 93 94 0 0 1 := by decide +kernel
theorem i238_94 : zi 238 94 95 17 96 0 := by decide +kernel
theorem i238_95 : zi 238 95 96 0 0 0 := by decide +kernel
theorem i238_96 : zi 238 96 97 11 0 0 := by decide +kernel
theorem i238_97 : zi 238 97 98 5 4 1 := by decide +kernel
theorem i238_98 : zi 238 98 99 17 74 0 := by decide +kernel
theorem i238_99 : zi 238 99 100 27 0 0 := by decide +kernel
theorem ml_238 : z_ml 238 = 5 := by decide +kernel
theorem en_238 : ∀ (v0 v1 : zV), z_ent 238 [v0, v1] = [some v0, some v1, none, none, none] := fun v0 v1 => by unfold z_ent; rw [ml_238]; rfl
theorem zn_0_0 : zn 0 0 := by unfold zn; decide
theorem i236_0 : zi 236 0 1 1 1 0 := by decide +kernel
theorem i236_1 : zi 236 1 2 0 0 0 := by decide +kernel
theorem i236_2 : zi 236 2 3 0 0 5 := by decide +kernel
theorem i236_3 : zi 236 3 4 22 213 0 := by decide +kernel
theorem i236_4 : zi 236 4 5 18 22 0 := by decide +kernel
theorem i236_5 : zi 236 5 6 1 2 0 := by decide +kernel
theorem i236_6 : zi 236 6 7 0 0 (-1) := by decide +kernel
theorem i236_7 : zi 236 7 8 0 0 2 := by decide +kernel
theorem i236_8 : zi 236 8 9 22 213 0 := by decide +kernel
theorem i236_9 : zi 236 9 10 18 22 0 := by decide +kernel
theorem i236_10 : zi 236 10 11 1 3 0 := by decide +kernel
theorem i236_11 : zi 236 11 12 0 0 0 := by decide +kernel
theorem i236_12 : zi 236 12 13 1 2 0 := by decide +kernel
theorem i236_13 : zi 236 13 14 0 0 1 := by decide +kernel
theorem i236_14 : zi 236 14 15 19 17 1 := by decide +kernel
theorem i236_15 : zi 236 15 16 0 0 2 := by decide +kernel
theorem i236_16 : zi 236 16 17 17 18 0 := by decide +kernel
theorem i236_17 : zi 236 17 18 0 0 0 := by decide +kernel
theorem i236_18 : zi 236 18 19 22 213 0 := by decide +kernel
theorem i236_19 : zi 236 19 20 18 22 0 := by decide +kernel
theorem i236_20 : zi 236 20 21 0 0 1 := by decide +kernel
theorem i236_21 : zi 236 21 22 17 23 0 := by decide +kernel
theorem i236_22 : zi 236 22 23 0 0 0 := by decide +kernel
theorem i236_23 : zi 236 23 24 3 4 0 := by decide +kernel
theorem i236_24 : zi 236 24 25 2 0 0 := by decide +kernel
theorem i236_25 : zi 236 25 26 1 4 0 := by decide +kernel
theorem i236_26 : zi 236 26 27 18 29 1 := by decide +kernel
theorem i236_29 : zi 236 29 30 2 0 0 := by decide +kernel
theorem i236_30 : zi 236 30 31 6 12 19 := by decide +kernel
theorem i236_31 : zi 236 31 32 1 1 0 := by decide +kernel
theorem i236_32 : zi 236 32 33 8 0 0 := by decide +kernel
theorem i236_33 : zi 236 33 34 0 0 (-1) := by decide +kernel
theorem i236_34 : zi 236 34 35 19 37 1 := by decide +kernel
theorem i236_35 : zi 236 35 36 0 0 1 := by decide +kernel
theorem i236_36 : zi 236 36 37 17 38 0 := by decide +kernel
theorem i236_37 : zi 236 37 38 0 0 0 := by decide +kernel
theorem i236_38 : zi 236 38 39 1 2 0 := by decide +kernel
theorem i236_39 : zi 236 39 40 0 0 (-1) := by decide +kernel
theorem i236_40 : zi 236 40 41 19 43 1 := by decide +kernel
theorem i236_41 : zi 236 41 42 0 0 1 := by decide +kernel
theorem i236_42 : zi 236 42 43 17 44 0 := by decide +kernel
theorem i236_43 : zi 236 43 44 0 0 0 := by decide +kernel
theorem i236_44 : zi 236 44 45 19 47 1 := by decide +kernel
theorem i236_45 : zi 236 45 46 0 0 2 := by decide +kernel
theorem i236_46 : zi 236 46 47 17 48 0 := by decide +kernel
theorem i236_47 : zi 236 47 48 0 0 0 := by decide +kernel
theorem i236_27 : zi 236 27 28 0 0 1 := by decide +kernel
theorem i236_28 : zi 236 28 29 17 48 0 := by decide +kernel
theorem i236_48 : zi 236 48 49 21 212 12 := by decide +kernel
theorem i236_49 : zi 236 49 50 18 51 1 := by decide +kernel
theorem i236_51 : zi 236 51 52 2 0 0 := by decide +kernel
theorem i236_52 : zi 236 52 53 6 12 19 := by decide +kernel
theorem i236_53 : zi 236 53 54 1 1 0 := by decide +kernel
theorem i236_54 : zi 236 54 55 1 2 0 := by decide +kernel
theorem i236_55 : zi 236 55 56 10 0 0 := by decide +kernel
theorem i236_56 : zi 236 56 57 2 0 0 := by decide +kernel
theorem i236_57 : zi 236 57 58 6 12 20 := by decide +kernel
theorem i236_58 : zi 236 58 59 1 1 0 := by decide +kernel
theorem i236_59 : zi 236 59 60 1 3 0 := by decide +kernel
theorem i236_60 : zi 236 60 61 10 0 0 := by decide +kernel
theorem i236_61 : zi 236 61 62 1 2 0 := by decide +kernel
theorem i236_62 : zi 236 62 63 0 0 (-1) := by decide +kernel
theorem i236_63 : zi 236 63 64 19 67 1 := by decide +kernel
theorem i236_64 : zi 236 64 65 2 0 0 := by decide +kernel
theorem i236_65 : zi 236 65 66 1 1 0 := by decide +kernel
theorem i236_66 : zi 236 66 67 21 238 12 := by decide +kernel
theorem na_238 : z_na 238 = 1 := by decide +kernel
theorem i236_67 : zi 236 67 68 27 0 0 := by decide +kernel
theorem i236_50 : zi 236 50 51 27 0 0 := by decide +kernel
theorem ml_236 : z_ml 236 = 5 := by decide +kernel
theorem en_236 : ∀ (v0 v1 v2 v3 : zV), z_ent 236 [v0, v1, v2, v3] = [some v0, some v1, some v2, some v3, none] := fun v0 v1 v2 v3 => by unfold z_ent; rw [ml_236]; rfl
theorem i249_0 : zi 249 0 1 2 0 0 := by decide +kernel
theorem i249_1 : zi 249 1 2 1 1 0 := by decide +kernel
theorem i249_2 : zi 249 2 3 22 244 0 := by decide +kernel
theorem i249_3 : zi 249 3 4 18 7 0 := by decide +kernel
theorem i249_4 : zi 249 4 5 1 2 0 := by decide +kernel
theorem i249_5 : zi 249 5 6 22 244 0 := by decide +kernel
theorem i249_6 : zi 249 6 7 18 9 1 := by decide +kernel
theorem i249_9 : zi 249 9 10 1 1 0 := by decide +kernel
theorem i249_10 : zi 249 10 11 1 2 0 := by decide +kernel
theorem i249_11 : zi 249 11 12 19 14 1 := by decide +kernel
theorem i249_12 : zi 249 12 13 0 0 2 := by decide +kernel
theorem i249_13 : zi 249 13 14 17 15 0 := by decide +kernel
theorem i249_14 : zi 249 14 15 0 0 0 := by decide +kernel
theorem i249_7 : zi 249 7 8 0 0 1 := by decide +kernel
theorem i249_8 : zi 249 8 9 17 15 0 := by decide +kernel
theorem i249_15 : zi 249 15 16 21 212 12 := by decide +kernel
theorem i249_16 : zi 249 16 17 18 19 1 := by decide +kernel
theorem i249_19 : zi 249 19 20 0 0 0 := by decide +kernel
theorem i249_20 : zi 249 20 21 3 3 0 := by decide +kernel
theorem i249_21 : zi 249 21 22 0 0 0 := by decide +kernel
theorem i249_22 : zi 249 22 23 3 4 0 := by decide +kernel
theorem i249_17 : zi 249 17 18 0 0 0 := by decide +kernel
theorem i249_18 : zi 249 18 19 25 0 0 := by decide +kernel
theorem i249_23 : zi 249 23 24 1 4 0 := by decide +kernel
theorem i249_24 : zi 249 24 25 0 0 18 := by decide +kernel
theorem kc_18 : Int32.ofInt 18 = 18 := by decide +kernel
theorem i249_25 : zi 249 25 26 19 56 3 := by decide +kernel
theorem i249_26 : zi 249 26 27 1 3 0 := by decide +kernel
theorem i249_27 : zi 249 27 28 2 0 0 := by decide +kernel
theorem i249_28 : zi 249 28 29 6 12 42 := by decide +kernel
theorem i249_29 : zi 249 29 30 1 4 0 := by decide +kernel
theorem i249_30 : zi 249 30 31 8 0 0 := by decide +kernel
theorem i249_31 : zi 249 31 32 1 1 0 := by decide +kernel
theorem i249_32 : zi 249 32 33 19 35 1 := by decide +kernel
theorem i249_33 : zi 249 33 34 0 0 1 := by decide +kernel
theorem i249_34 : zi 249 34 35 17 36 0 := by decide +kernel
theorem i249_35 : zi 249 35 36 0 0 0 := by decide +kernel
theorem i249_36 : zi 249 36 37 13 0 0 := by decide +kernel
theorem i249_37 : zi 249 37 38 3 3 0 := by decide +kernel
theorem i249_38 : zi 249 38 39 2 0 0 := by decide +kernel
theorem i249_39 : zi 249 39 40 6 12 42 := by decide +kernel
theorem i249_40 : zi 249 40 41 1 4 0 := by decide +kernel
theorem i249_41 : zi 249 41 42 2 0 0 := by decide +kernel
theorem i249_42 : zi 249 42 43 6 12 42 := by decide +kernel
theorem i249_43 : zi 249 43 44 1 4 0 := by decide +kernel
theorem i249_44 : zi 249 44 45 8 0 0 := by decide +kernel
theorem i249_45 : zi 249 45 46 1 1 0 := by decide +kernel
theorem i249_46 : zi 249 46 47 19 49 1 := by decide +kernel
theorem i249_47 : zi 249 47 48 1 2 0 := by decide +kernel
theorem i249_48 : zi 249 48 49 17 53 0 := by decide +kernel
theorem i249_49 : zi 249 49 50 2 0 0 := by decide +kernel
theorem i249_50 : zi 249 50 51 6 12 42 := by decide +kernel
theorem i249_51 : zi 249 51 52 1 4 0 := by decide +kernel
theorem i249_52 : zi 249 52 53 8 0 0 := by decide +kernel
theorem i249_53 : zi 249 53 54 10 0 0 := by decide +kernel
theorem i249_54 : zi 249 54 55 5 4 1 := by decide +kernel
theorem i249_55 : zi 249 55 56 17 23 0 := by decide +kernel
theorem i249_56 : zi 249 56 57 0 0 0 := by decide +kernel
theorem i249_57 : zi 249 57 58 3 4 0 := by decide +kernel
theorem i249_58 : zi 249 58 59 1 4 0 := by decide +kernel
theorem i249_59 : zi 249 59 60 2 0 0 := by decide +kernel
theorem i249_60 : zi 249 60 61 6 12 45 := by decide +kernel
theorem i249_61 : zi 249 61 62 19 80 3 := by decide +kernel
theorem i249_62 : zi 249 62 63 2 0 0 := by decide +kernel
theorem i249_63 : zi 249 63 64 6 12 48 := by decide +kernel
theorem i249_64 : zi 249 64 65 1 4 0 := by decide +kernel
theorem i249_65 : zi 249 65 66 2 0 0 := by decide +kernel
theorem i249_66 : zi 249 66 67 6 12 48 := by decide +kernel
theorem i249_67 : zi 249 67 68 1 4 0 := by decide +kernel
theorem i249_68 : zi 249 68 69 8 0 0 := by decide +kernel
theorem i249_69 : zi 249 69 70 1 1 0 := by decide +kernel
theorem i249_70 : zi 249 70 71 19 73 1 := by decide +kernel
theorem i249_71 : zi 249 71 72 1 2 0 := by decide +kernel
theorem i249_72 : zi 249 72 73 17 77 0 := by decide +kernel
theorem i249_73 : zi 249 73 74 2 0 0 := by decide +kernel
theorem i249_74 : zi 249 74 75 6 12 48 := by decide +kernel
theorem i249_75 : zi 249 75 76 1 4 0 := by decide +kernel
theorem i249_76 : zi 249 76 77 8 0 0 := by decide +kernel
theorem i249_77 : zi 249 77 78 10 0 0 := by decide +kernel
theorem i249_78 : zi 249 78 79 5 4 1 := by decide +kernel
theorem i249_79 : zi 249 79 80 17 58 0 := by decide +kernel
theorem i249_80 : zi 249 80 81 0 0 0 := by decide +kernel
theorem i249_81 : zi 249 81 82 3 4 0 := by decide +kernel
theorem i249_82 : zi 249 82 83 1 4 0 := by decide +kernel
theorem i249_83 : zi 249 83 84 0 0 4 := by decide +kernel
theorem i249_84 : zi 249 84 85 19 126 3 := by decide +kernel
theorem i249_85 : zi 249 85 86 2 0 0 := by decide +kernel
theorem i249_86 : zi 249 86 87 6 12 43 := by decide +kernel
theorem i249_87 : zi 249 87 88 1 4 0 := by decide +kernel
theorem i249_88 : zi 249 88 89 8 0 0 := by decide +kernel
theorem i249_89 : zi 249 89 90 1 1 0 := by decide +kernel
theorem i249_90 : zi 249 90 91 13 9 0 := by decide +kernel
theorem i249_91 : zi 249 91 92 0 0 1 := by decide +kernel
theorem i249_92 : zi 249 92 93 13 5 0 := by decide +kernel
theorem i249_93 : zi 249 93 94 0 0 1 := by decide +kernel
theorem i249_94 : zi 249 94 95 19 97 1 := by decide +kernel
theorem i249_95 : zi 249 95 96 0 0 1 := by decide +kernel
theorem i249_96 : zi 249 96 97 17 98 0 := by decide +kernel
theorem i249_97 : zi 249 97 98 0 0 0 := by decide +kernel
theorem i249_98 : zi 249 98 99 3 5 0 := by decide +kernel
theorem i249_99 : zi 249 99 100 2 0 0 := by decide +kernel
theorem i249_100 : zi 249 100 101 6 12 43 := by decide +kernel
theorem i249_101 : zi 249 101 102 1 4 0 := by decide +kernel
theorem i249_102 : zi 249 102 103 1 5 0 := by decide +kernel
theorem i249_103 : zi 249 103 104 18 119 0 := by decide +kernel
theorem i249_104 : zi 249 104 105 2 0 0 := by decide +kernel
theorem i249_105 : zi 249 105 106 6 12 43 := by decide +kernel
theorem i249_106 : zi 249 106 107 1 4 0 := by decide +kernel
theorem i249_107 : zi 249 107 108 8 0 0 := by decide +kernel
theorem i249_108 : zi 249 108 109 0 0 1 := by decide +kernel
theorem i249_109 : zi 249 109 110 1 1 0 := by decide +kernel
theorem i249_110 : zi 249 110 111 13 8 0 := by decide +kernel
theorem i249_111 : zi 249 111 112 0 0 (-1) := by decide +kernel
theorem i249_112 : zi 249 112 113 13 7 0 := by decide +kernel
theorem i249_113 : zi 249 113 114 13 5 0 := by decide +kernel
theorem i249_114 : zi 249 114 115 0 0 1 := by decide +kernel
theorem i249_115 : zi 249 115 116 1 2 0 := by decide +kernel
theorem i249_116 : zi 249 116 117 13 8 0 := by decide +kernel
theorem i249_117 : zi 249 117 118 13 6 0 := by decide +kernel
theorem i249_118 : zi 249 118 119 17 123 0 := by decide +kernel
theorem i249_119 : zi 249 119 120 2 0 0 := by decide +kernel
theorem i249_120 : zi 249 120 121 6 12 43 := by decide +kernel
theorem i249_121 : zi 249 121 122 1 4 0 := by decide +kernel
theorem i249_122 : zi 249 122 123 8 0 0 := by decide +kernel
theorem i249_123 : zi 249 123 124 10 0 0 := by decide +kernel
theorem i249_124 : zi 249 124 125 5 4 1 := by decide +kernel
theorem i249_125 : zi 249 125 126 17 82 0 := by decide +kernel
theorem i249_126 : zi 249 126 127 1 3 0 := by decide +kernel
theorem i249_127 : zi 249 127 128 25 0 0 := by decide +kernel
theorem ml_249 : z_ml 249 = 6 := by decide +kernel
theorem en_249 : ∀ (v0 v1 v2 : zV), z_ent 249 [v0, v1, v2] = [some v0, some v1, some v2, none, none, none] := fun v0 v1 v2 => by unfold z_ent; rw [ml_249]; rfl
set_option maxRecDepth 100000 in
theorem s271_4 {L : Nat} (x1 x2 x3 x4 : Int32) (u5 : Option zV) (S : zS) (g0 : (¬ ((S 13 57) ≤ x4)) → zx 40 x4) (g1 : (¬ ((S 13 57) ≤ x4)) → (((S 125 x4.toNatClampNeg) = 0) ∧ ((((S 121 x4.toNatClampNeg) / 36) = x1) ∧ ((x2 = (-1)) ∨ ((if (1 = 0) then (((S 121 x4.toNatClampNeg) / 36) : Int32) else (if (1 = 1) then ((zrem ((S 121 x4.toNatClampNeg) / 6) 6) : Int32) else (zrem (S 121 x4.toNatClampNeg) 6))) = x2)))) → zx 3 (S 122 x4.toNatClampNeg)) : zt L 271 4 [some (.inr (.inr 13)), some (.inl x1), some (.inl x2), some (.inl x3), some (.inl x4), u5] [] S (if ((S 13 57) ≤ x4) then (.inl (43, [some (.inr (.inr 13)), some (.inl x1), some (.inl x2), some (.inl x3), some (.inl x4), u5], [], S)) else (.inl (4, [some (.inr (.inr 13)), some (.inl x1), some (.inl x2), some (.inl (if (((S 125 x4.toNatClampNeg) = 0) ∧ ((((S 121 x4.toNatClampNeg) / 36) = x1) ∧ ((x2 = (-1)) ∨ ((if (1 = 0) then (((S 121 x4.toNatClampNeg) / 36) : Int32) else (if (1 = 1) then ((zrem ((S 121 x4.toNatClampNeg) / 6) 6) : Int32) else (zrem (S 121 x4.toNatClampNeg) 6))) = x2)))) then ((x3 + 1) : Int32) else x3)), some (.inl (x4 + 1)), some (.inl (zb (((S 125 x4.toNatClampNeg) = 0) ∧ ((((S 121 x4.toNatClampNeg) / 36) = x1) ∧ ((x2 = (-1)) ∨ ((if (1 = 0) then (((S 121 x4.toNatClampNeg) / 36) : Int32) else (if (1 = 1) then ((zrem ((S 121 x4.toNatClampNeg) / 6) 6) : Int32) else (zrem (S 121 x4.toNatClampNeg) 6))) = x2))))))], [], (if (((S 125 x4.toNatClampNeg) = 0) ∧ ((((S 121 x4.toNatClampNeg) / 36) = x1) ∧ ((x2 = (-1)) ∨ ((if (1 = 0) then (((S 121 x4.toNatClampNeg) / 36) : Int32) else (if (1 = 1) then ((zrem ((S 121 x4.toNatClampNeg) / 6) 6) : Int32) else (zrem (S 121 x4.toNatClampNeg) 6))) = x2)))) then (G269 x4 (z_up (z_up S 123 x4.toNatClampNeg (S 13 1)) 126 x4.toNatClampNeg 0)) else S)))) := zr_1_4 i271_4 (zr_2_0 i271_5 (zr_6 i271_6 fl_13_57 rfl (zr_19_3 i271_7 (fun h2237 => zt_rfl) (fun h2238 => zr_2_0 i271_8 (zr_6r i271_9 fl_13_63 (zr_1_4 i271_10 (zr_8 i271_11 ar_125 (g0 h2238) rfl rfl (zt_trans (zt_cast (zr_18_1 i271_12 (fun h2239 => zr_2_0 i271_13 (zr_6r i271_14 fl_13_59 (zr_1_4 i271_15 (zr_8 i271_16 ar_121 (g0 h2238) rfl rfl (zr_cv (zs_22_1 i271_17 na_237 rfl) (f237 (S 121 x4.toNatClampNeg) S ) (zr_1_1 i271_18 (zt_cast (zr_19_1 i271_19 (fun h2241 => zr_1_2 i271_20 (zr_0 i271_21 kc_m1 (zt_cast (zr_19_0 i271_22 (fun h2243 => zr_0 i271_31 kc_1 (zr_17 i271_32 (zt_rfl))) (fun h2244 => zr_2_0 i271_23 (zr_6r i271_24 fl_13_59 (zr_1_4 i271_25 (zr_8 i271_26 ar_121 (g0 h2238) rfl rfl (zr_0 i271_27 kc_1 (zr_cv (zs_22_2 i271_28 na_253 rfl) (f253 (S 121 x4.toNatClampNeg) 1 S ) (zr_1_2 i271_29 (zt_cast (zr_19_1 i271_30 (fun h2245 => zr_0 i271_31 kc_1 (zr_17 i271_32 (zt_rfl))) (fun h2246 => zr_0 i271_33 kc_0 (zt_rfl))) (zm_c zz_s (zl_c (zl_t zz_10) zz_s) zz_s)))))))))) (zm_c zz_s (zl_c (zl_t zz_1b) zz_s) zz_s)))) (fun h2242 => zr_0 i271_33 kc_0 (zt_rfl))) (zm_c zz_s (zl_c (zl_t zz_b0) zz_s) zz_s)))))))) (fun h2240 => zr_0 i271_33 kc_0 (zt_rfl))) (zm_c zz_s (zl_c (zl_t zz_b0) zz_s) zz_s)) (zr_3_5 i271_34 (zr_1_5 i271_35 (zt_trans (zt_cast (zr_18b_0 i271_36 (fun h2247 => zr_2_0 i271_37 (zr_1_4 i271_38 (zr_cn (zs_21_1 i271_39 na_270 ob_13 rfl) (f270 x4 S (g0 h2238) (g1 h2238 h2247)) (zr_5_3 i271_40 kc_1 (zt_rfl))))) (fun h2248 => zt_rfl)) (zm_c (zl_c zz_s (zl_c zz_s (zl_c zz_s (zl_c (zl_v zz_e) zz_s)))) zz_s zz_e)) (zr_5_4 i271_41 kc_1 (zr_17 i271_42 (zt_rfl))))))))))))))
def k271_4 (x1 x2 : Int32) (j : Nat) (a : Int32 × Option zV × zS) : Int32 × Option zV × zS := ((if (((a.2.2 125 j) = 0) ∧ ((((a.2.2 121 j) / 36) = x1) ∧ ((x2 = (-1)) ∨ ((if (1 = 0) then (((a.2.2 121 j) / 36) : Int32) else (if (1 = 1) then ((zrem ((a.2.2 121 j) / 6) 6) : Int32) else (zrem (a.2.2 121 j) 6))) = x2)))) then ((a.1 + 1) : Int32) else a.1), (some (.inl (zb (((a.2.2 125 j) = 0) ∧ ((((a.2.2 121 j) / 36) = x1) ∧ ((x2 = (-1)) ∨ ((if (1 = 0) then (((a.2.2 121 j) / 36) : Int32) else (if (1 = 1) then ((zrem ((a.2.2 121 j) / 6) 6) : Int32) else (zrem (a.2.2 121 j) 6))) = x2))))))), (if (((a.2.2 125 j) = 0) ∧ ((((a.2.2 121 j) / 36) = x1) ∧ ((x2 = (-1)) ∨ ((if (1 = 0) then (((a.2.2 121 j) / 36) : Int32) else (if (1 = 1) then ((zrem ((a.2.2 121 j) / 6) 6) : Int32) else (zrem (a.2.2 121 j) 6))) = x2)))) then (G269 (Int32.ofNat j) (z_up (z_up a.2.2 123 j (a.2.2 13 1)) 126 j 0)) else a.2.2))
set_option maxRecDepth 100000 in
theorem l271_4 {L : Nat} (x1 x2 : Int32) (i0 n : Nat) (a : Int32 × Option zV × zS) (hn : i0 + n < 2147483648) (hc0 : ∀ j, j < n → ¬ (((zfold (k271_4 x1 x2 ) i0 j a).2.2 13 57) ≤ (Int32.ofNat (i0 + j)))) (g0 : ∀ j, j < n → (¬ (((zfold (k271_4 x1 x2 ) i0 j a).2.2 13 57) ≤ (Int32.ofNat (i0 + j)))) → zx 40 (Int32.ofNat (i0 + j))) (g1 : ∀ j, j < n → (¬ (((zfold (k271_4 x1 x2 ) i0 j a).2.2 13 57) ≤ (Int32.ofNat (i0 + j)))) → ((((zfold (k271_4 x1 x2 ) i0 j a).2.2 125 (i0 + j)) = 0) ∧ (((((zfold (k271_4 x1 x2 ) i0 j a).2.2 121 (i0 + j)) / 36) = x1) ∧ ((x2 = (-1)) ∨ ((if (1 = 0) then ((((zfold (k271_4 x1 x2 ) i0 j a).2.2 121 (i0 + j)) / 36) : Int32) else (if (1 = 1) then ((zrem (((zfold (k271_4 x1 x2 ) i0 j a).2.2 121 (i0 + j)) / 6) 6) : Int32) else (zrem ((zfold (k271_4 x1 x2 ) i0 j a).2.2 121 (i0 + j)) 6))) = x2)))) → zx 3 ((zfold (k271_4 x1 x2 ) i0 j a).2.2 122 (i0 + j))) : zt L 271 4 [some (.inr (.inr 13)), some (.inl x1), some (.inl x2), some (.inl a.1), some (.inl (Int32.ofNat i0)), a.2.1] [] a.2.2 (.inl (4, [some (.inr (.inr 13)), some (.inl x1), some (.inl x2), some (.inl (zfold (k271_4 x1 x2 ) i0 n a).1), some (.inl (Int32.ofNat (i0 + n))), (zfold (k271_4 x1 x2 ) i0 n a).2.1], [], (zfold (k271_4 x1 x2 ) i0 n a).2.2)) := by
  induction n with
  | zero => exact zt_rfl
  | succ n ih =>
    have e1 := zk_ix (i0 + n) (by omega)
    have e2 := zk_add (i0 + n)
    refine zt_trans (ih (by omega) (fun j hj => hc0 j (by omega)) (fun j hj => g0 j (by omega)) (fun j hj => g1 j (by omega))) ?_
    refine zt_cast (s271_4 x1 x2 (zfold (k271_4 x1 x2 ) i0 n a).1 (Int32.ofNat (i0 + n)) (zfold (k271_4 x1 x2 ) i0 n a).2.1 (zfold (k271_4 x1 x2 ) i0 n a).2.2 (by have hg := g0 n (by omega); first | exact hg | (simp only [e1]; exact hg)) (by have hg := g1 n (by omega); first | exact hg | (simp only [e1]; exact hg))) ?_
    rw [if_neg (show ¬ (((zfold (k271_4 x1 x2 ) i0 n a).2.2 13 57) ≤ (Int32.ofNat (i0 + n))) from (by have hg := hc0 n (by omega); first | exact hg | (simp only [e1]; exact hg)))]
    simp only [zfold, k271_4, e1, e2, ← Nat.add_assoc]
set_option maxRecDepth 100000 in
theorem w_G269_122 (a : Int32) (S : zS) : G269 a S 122 = S 122 := (show (if ((S 127 (S 122 a.toNatClampNeg).toNatClampNeg) = 1) then (z_up (z_up S 126 a.toNatClampNeg ((S 126 a.toNatClampNeg) + 1)) 125 a.toNatClampNeg (if (((S 126 a.toNatClampNeg) + 1) = 3) then (3 : Int32) else 1)) else (z_up (z_up (z_up S 126 a.toNatClampNeg ((S 126 a.toNatClampNeg) + 1)) 125 a.toNatClampNeg 2) 128 (S 122 a.toNatClampNeg).toNatClampNeg ((S 128 (S 122 a.toNatClampNeg).toNatClampNeg) - 1))) 122 = S 122 from (zite_k ((zupc rfl).trans (zupc rfl)) ((zupc rfl).trans ((zupc rfl).trans (zupc rfl)))))
set_option maxRecDepth 100000 in
theorem w_G269_13_57 (a : Int32) (S : zS) : G269 a S 13 57 = S 13 57 := (show (if ((S 127 (S 122 a.toNatClampNeg).toNatClampNeg) = 1) then (z_up (z_up S 126 a.toNatClampNeg ((S 126 a.toNatClampNeg) + 1)) 125 a.toNatClampNeg (if (((S 126 a.toNatClampNeg) + 1) = 3) then (3 : Int32) else 1)) else (z_up (z_up (z_up S 126 a.toNatClampNeg ((S 126 a.toNatClampNeg) + 1)) 125 a.toNatClampNeg 2) 128 (S 122 a.toNatClampNeg).toNatClampNeg ((S 128 (S 122 a.toNatClampNeg).toNatClampNeg) - 1))) 13 57 = S 13 57 from (zite_rd ((zupci rfl).trans (zupci rfl)) ((zupci rfl).trans ((zupci rfl).trans (zupci rfl)))))
def K271_4 (x1 x2 x3 : Int32) (u5 : Option zV) (i0 : Nat) (S : zS) : Int32 × Option zV × zS := zfold (k271_4 x1 x2 ) i0 ((S 13 57).toNatClampNeg - i0) (x3, u5, S)
def K271_4_c3 (x1 x2 x3 : Int32) (u5 : Option zV) (i0 : Nat) (S : zS) : Int32 := (K271_4 x1 x2 x3 u5 i0 S).1
def K271_4_c5 (x1 x2 x3 : Int32) (u5 : Option zV) (i0 : Nat) (S : zS) : Option zV := (K271_4 x1 x2 x3 u5 i0 S).2.1
def K271_4_S (x1 x2 x3 : Int32) (u5 : Option zV) (i0 : Nat) (S : zS) : zS := (K271_4 x1 x2 x3 u5 i0 S).2.2
set_option maxRecDepth 100000 in
theorem L271_4 {L : Nat} (x1 x2 x3 : Int32) (u5 : Option zV) (i0 : Nat) (S : zS) (hi : i0 ≤ 10000) (h0 : zn 40 (S 13 57)) (hA1 : zA 40 3 (S 122)) : zt L 271 4 [some (.inr (.inr 13)), some (.inl x1), some (.inl x2), some (.inl x3), some (.inl (Int32.ofNat i0)), u5] [] S (.inl (43, [some (.inr (.inr 13)), some (.inl x1), some (.inl x2), some (.inl (K271_4_c3 x1 x2 x3 u5 i0 S)), some (.inl (Int32.ofNat (i0 + ((S 13 57).toNatClampNeg - i0)))), (K271_4_c5 x1 x2 x3 u5 i0 S)], [], (K271_4_S x1 x2 x3 u5 i0 S))) := by
  have hk122 : ∀ n, (zfold (k271_4 x1 x2 ) i0 n (x3, u5, S)).2.2 122 = S 122 := fun n => zfold_keep (f := (k271_4 x1 x2 )) (fun (b : Int32 × Option zV × zS) => b.2.2 122) (fun j b => by unfold k271_4; exact (show (if (((b.2.2 125 j) = 0) ∧ ((((b.2.2 121 j) / 36) = x1) ∧ ((x2 = (-1)) ∨ ((if (1 = 0) then (((b.2.2 121 j) / 36) : Int32) else (if (1 = 1) then ((zrem ((b.2.2 121 j) / 6) 6) : Int32) else (zrem (b.2.2 121 j) 6))) = x2)))) then (G269 (Int32.ofNat j) (z_up (z_up b.2.2 123 j (b.2.2 13 1)) 126 j 0)) else b.2.2) 122 = b.2.2 122 from (zite_k ((w_G269_122 _ _).trans ((zupc rfl).trans (zupc rfl))) rfl))) n (x3, u5, S)
  have hk13_57 : ∀ n, (zfold (k271_4 x1 x2 ) i0 n (x3, u5, S)).2.2 13 57 = S 13 57 := fun n => zfold_keep (f := (k271_4 x1 x2 )) (fun (b : Int32 × Option zV × zS) => b.2.2 13 57) (fun j b => by unfold k271_4; exact (show (if (((b.2.2 125 j) = 0) ∧ ((((b.2.2 121 j) / 36) = x1) ∧ ((x2 = (-1)) ∨ ((if (1 = 0) then (((b.2.2 121 j) / 36) : Int32) else (if (1 = 1) then ((zrem ((b.2.2 121 j) / 6) 6) : Int32) else (zrem (b.2.2 121 j) 6))) = x2)))) then (G269 (Int32.ofNat j) (z_up (z_up b.2.2 123 j (b.2.2 13 1)) 126 j 0)) else b.2.2) 13 57 = b.2.2 13 57 from (zite_rd ((w_G269_13_57 _ _).trans ((zupci rfl).trans (zupci rfl))) rfl))) n (x3, u5, S)
  have hend : (zfold (k271_4 x1 x2 ) i0 ((S 13 57).toNatClampNeg - i0) (x3, u5, S)).2.2 13 57 ≤ Int32.ofNat (i0 + ((S 13 57).toNatClampNeg - i0)) := by rw [hk13_57]; exact zc_le_end h0 (by omega)
  refine zt_trans (l271_4 x1 x2   i0 ((S 13 57).toNatClampNeg - i0) (x3, u5, S) (by have := zn_cl h0; omega) (fun j hj => by rw [hk13_57]; exact zc_le h0 hj (by omega)) (fun j hj _ => by exact zx_of (by have := zn_cl h0; omega) (by have := zn_cl h0; omega)) (fun j hj _ _ => by rw [hk122 j]; have := zn_cl h0; exact hA1 _ (by omega))) ?_
  exact zt_cast (s271_4 x1 x2 (zfold (k271_4 x1 x2 ) i0 ((S 13 57).toNatClampNeg - i0) (x3, u5, S)).1 (Int32.ofNat (i0 + ((S 13 57).toNatClampNeg - i0))) (zfold (k271_4 x1 x2 ) i0 ((S 13 57).toNatClampNeg - i0) (x3, u5, S)).2.1 (zfold (k271_4 x1 x2 ) i0 ((S 13 57).toNatClampNeg - i0) (x3, u5, S)).2.2 (fun h9 => absurd hend h9) (fun h9 => absurd hend h9)) (if_pos hend)
set_option maxRecDepth 100000 in
theorem f271 {L : Nat} (a b : Int32) (S : zS) (g0 : zn 40 (S 13 57)) (g1 : zA 40 3 (S 122)) : zf L 271 [.inr (.inr 13), .inl a, .inl b] S (.inl (some (.inl (K271_4_c3 a b 0 (none : Option zV) 0 S))), (K271_4_S a b 0 (none : Option zV) 0 S), 0) := zf_of (en_271 _ _ _) (zr_0 i271_0 kc_0 (zr_3_3 i271_1 (zr_0 i271_2 kc_0 (zr_3_4 i271_3 (zt_trans (L271_4 a b 0 (none : Option zV) 0 S (by decide) (g0) (g1)) (zr_1_3 i271_43 (zr_25 i271_44)))))))
set_option maxRecDepth 100000 in
theorem s238_74 {L : Nat} (x1 x2 x3 x4 : Int32) (S : zS) (g0 : (¬ ((S 13 72) ≤ x4)) → zx 20 x4) : zt L 238 74 [some (.inr (.inr 13)), some (.inl x1), some (.inl x2), some (.inl x3), some (.inl x4)] [] S (if ((S 13 72) ≤ x4) then (.inl (99, [some (.inr (.inr 13)), some (.inl x1), some (.inl x2), some (.inl x3), some (.inl x4)], [], S)) else (.inl (74, [some (.inr (.inr 13)), some (.inl x1), some (.inl x2), some (.inl x3), some (.inl (x4 + 1))], [], (z_up S 138 x4.toNatClampNeg (zb ((¬ ((S 138 x4.toNatClampNeg) = 0)) ∨ (((S 134 x4.toNatClampNeg) / 36) = x1))))))) := zr_1_4 i238_74 (zr_2_0 i238_75 (zr_6 i238_76 fl_13_72 rfl (zr_19_3 i238_77 (fun h2273 => zt_rfl) (fun h2274 => zr_2_0 i238_78 (zr_6r i238_79 fl_13_78 (zr_1_4 i238_80 (zr_2_0 i238_81 (zr_6r i238_82 fl_13_78 (zr_1_4 i238_83 (zr_9 i238_84 ar_138 (g0 h2274) rfl rfl (zt_trans (zt_cast (zr_18_1 i238_85 (fun h2275 => zr_2_0 i238_86 (zr_6r i238_87 fl_13_74 (zr_1_4 i238_88 (zr_8 i238_89 ar_134 (g0 h2274) rfl rfl (zr_cv (zs_22_1 i238_90 na_237 rfl) (f237 (S 134 x4.toNatClampNeg) S ) (zr_1_1 i238_91 (zt_cast (zr_19_1 i238_92 (fun h2277 => zr_0 i238_93 kc_1 (zr_17 i238_94 (zt_rfl))) (fun h2278 => zr_0 i238_95 kc_0 (zt_rfl))) (zm_c zz_s (zl_c (zl_t zz_10) zz_s) zz_s)))))))) (fun h2276 => zr_0 i238_93 kc_1 (zr_17 i238_94 (zt_rfl)))) (zm_c zz_s (zl_c (zl_t zz_b1) zz_s) zz_s)) (zr_11 i238_96 ar_138 (g0 h2274) (zb_01 _) rfl (zr_5_4 i238_97 kc_1 (zr_17 i238_98 (zt_rfl)))))))))))))))
def k238_74 (x1 x2 x3 : Int32) (j : Nat) (a : zS) : zS := (z_up a 138 j (zb ((¬ ((a 138 j) = 0)) ∨ (((a 134 j) / 36) = x1))))
set_option maxRecDepth 100000 in
theorem l238_74 {L : Nat} (x1 x2 x3 : Int32) (i0 n : Nat) (a : zS) (hn : i0 + n < 2147483648) (hc0 : ∀ j, j < n → ¬ (((zfold (k238_74 x1 x2 x3 ) i0 j a) 13 72) ≤ (Int32.ofNat (i0 + j)))) (g0 : ∀ j, j < n → (¬ (((zfold (k238_74 x1 x2 x3 ) i0 j a) 13 72) ≤ (Int32.ofNat (i0 + j)))) → zx 20 (Int32.ofNat (i0 + j))) : zt L 238 74 [some (.inr (.inr 13)), some (.inl x1), some (.inl x2), some (.inl x3), some (.inl (Int32.ofNat i0))] [] a (.inl (74, [some (.inr (.inr 13)), some (.inl x1), some (.inl x2), some (.inl x3), some (.inl (Int32.ofNat (i0 + n)))], [], (zfold (k238_74 x1 x2 x3 ) i0 n a))) := by
  induction n with
  | zero => exact zt_rfl
  | succ n ih =>
    have e1 := zk_ix (i0 + n) (by omega)
    have e2 := zk_add (i0 + n)
    refine zt_trans (ih (by omega) (fun j hj => hc0 j (by omega)) (fun j hj => g0 j (by omega))) ?_
    refine zt_cast (s238_74 x1 x2 x3 (Int32.ofNat (i0 + n)) (zfold (k238_74 x1 x2 x3 ) i0 n a) (by have hg := g0 n (by omega); first | exact hg | (simp only [e1]; exact hg))) ?_
    rw [if_neg (show ¬ (((zfold (k238_74 x1 x2 x3 ) i0 n a) 13 72) ≤ (Int32.ofNat (i0 + n))) from (by have hg := hc0 n (by omega); first | exact hg | (simp only [e1]; exact hg)))]
    simp only [zfold, k238_74, e1, e2, ← Nat.add_assoc]
def K238_74 (x1 x2 x3 : Int32) (i0 : Nat) (S : zS) : zS := zfold (k238_74 x1 x2 x3 ) i0 ((S 13 72).toNatClampNeg - i0) S
def K238_74_S (x1 x2 x3 : Int32) (i0 : Nat) (S : zS) : zS := (K238_74 x1 x2 x3 i0 S)
set_option maxRecDepth 100000 in
theorem L238_74 {L : Nat} (x1 x2 x3 : Int32) (i0 : Nat) (S : zS) (hi : i0 ≤ 10000) (h0 : zn 20 (S 13 72)) : zt L 238 74 [some (.inr (.inr 13)), some (.inl x1), some (.inl x2), some (.inl x3), some (.inl (Int32.ofNat i0))] [] S (.inl (99, [some (.inr (.inr 13)), some (.inl x1), some (.inl x2), some (.inl x3), some (.inl (Int32.ofNat (i0 + ((S 13 72).toNatClampNeg - i0))))], [], (K238_74_S x1 x2 x3 i0 S))) := by
  have hk13_72 : ∀ n, (zfold (k238_74 x1 x2 x3 ) i0 n S) 13 72 = S 13 72 := fun n => zfold_keep (f := (k238_74 x1 x2 x3 )) (fun (b : zS) => b 13 72) (fun j b => by unfold k238_74; exact (show (z_up b 138 j (zb ((¬ ((b 138 j) = 0)) ∨ (((b 134 j) / 36) = x1)))) 13 72 = b 13 72 from (zupci rfl))) n S
  have hend : (zfold (k238_74 x1 x2 x3 ) i0 ((S 13 72).toNatClampNeg - i0) S) 13 72 ≤ Int32.ofNat (i0 + ((S 13 72).toNatClampNeg - i0)) := by rw [hk13_72]; exact zc_le_end h0 (by omega)
  refine zt_trans (l238_74 x1 x2 x3   i0 ((S 13 72).toNatClampNeg - i0) S (by have := zn_cl h0; omega) (fun j hj => by rw [hk13_72]; exact zc_le h0 hj (by omega)) (fun j hj _ => by exact zx_of (by have := zn_cl h0; omega) (by have := zn_cl h0; omega))) ?_
  exact zt_cast (s238_74 x1 x2 x3 (Int32.ofNat (i0 + ((S 13 72).toNatClampNeg - i0))) (zfold (k238_74 x1 x2 x3 ) i0 ((S 13 72).toNatClampNeg - i0) S) (fun h9 => absurd hend h9)) (if_pos hend)
set_option maxRecDepth 100000 in
theorem s238_27 {L : Nat} (x1 x2 x3 : Int32) (S : zS) (g0 : (¬ ((S 13 36) ≤ x3)) → zx 2048 x3) (g1 : (¬ ((S 13 36) ≤ x3)) → (¬ (((S 96 x3.toNatClampNeg) / 36) = x1)) → zx 2048 x2) : zt L 238 27 [some (.inr (.inr 13)), some (.inl x1), some (.inl x2), some (.inl x3), none] [] S (if ((S 13 36) ≤ x3) then (.inl (64, [some (.inr (.inr 13)), some (.inl x1), some (.inl x2), some (.inl x3), none], [], S)) else (.inl (27, [some (.inr (.inr 13)), some (.inl x1), some (.inl (if (((S 96 x3.toNatClampNeg) / 36) = x1) then (x2 : Int32) else (x2 + 1))), some (.inl (x3 + 1)), none], [], (if (((S 96 x3.toNatClampNeg) / 36) = x1) then S else (z_up (z_up (z_up (z_up (z_up S 96 x2.toNatClampNeg (S 96 x3.toNatClampNeg)) 97 x2.toNatClampNeg (S 97 x3.toNatClampNeg)) 98 x2.toNatClampNeg (S 98 x3.toNatClampNeg)) 99 x2.toNatClampNeg (S 99 x3.toNatClampNeg)) 100 x2.toNatClampNeg (S 100 x3.toNatClampNeg)))))) := zr_1_3 i238_27 (zr_2_0 i238_28 (zr_6 i238_29 fl_13_36 rfl (zr_19_3 i238_30 (fun h2279 => zt_rfl) (fun h2280 => zr_2_0 i238_31 (zr_6r i238_32 fl_13_31 (zr_1_3 i238_33 (zr_8 i238_34 ar_96 (g0 h2280) rfl rfl (zr_cv (zs_22_1 i238_35 na_237 rfl) (f237 (S 96 x3.toNatClampNeg) S ) (zr_1_1 i238_36 (zt_trans (zt_cast (zr_19_0 i238_37 (fun h2281 => zt_rfl) (fun h2282 => zr_2_0 i238_38 (zr_1_2 i238_39 (zr_2_0 i238_40 (zr_6r i238_41 fl_13_31 (zr_1_3 i238_42 (zr_8 i238_43 ar_96 (g0 h2280) rfl rfl (zr_2_0 i238_44 (zr_6r i238_45 fl_13_32 (zr_1_3 i238_46 (zr_8 i238_47 ar_97 (g0 h2280) rfl rfl (zr_2_0 i238_48 (zr_6r i238_49 fl_13_33 (zr_1_3 i238_50 (zr_8 i238_51 ar_98 (g0 h2280) rfl rfl (zr_2_0 i238_52 (zr_6r i238_53 fl_13_34 (zr_1_3 i238_54 (zr_8 i238_55 ar_99 (g0 h2280) rfl rfl (zr_2_0 i238_56 (zr_6r i238_57 fl_13_35 (zr_1_3 i238_58 (zr_8 i238_59 ar_100 (g0 h2280) rfl rfl (zr_cn (zs_21_6 i238_60 na_239 ob_13 rfl) (f239 x2 (S 96 x3.toNatClampNeg) (S 97 x3.toNatClampNeg) (S 98 x3.toNatClampNeg) (S 99 x3.toNatClampNeg) (S 100 x3.toNatClampNeg) S (g1 h2280 h2282)) (zr_5_2 i238_61 kc_1 (zt_rfl)))))))))))))))))))))))))) (zm_c (zl_c zz_s (zl_c zz_s (zl_c (zl_v zz_e) zz_s))) zz_s zz_e)) (zr_5_3 i238_62 kc_1 (zr_17 i238_63 (zt_rfl)))))))))))))
def k238_27 (x1 : Int32) (j : Nat) (a : Int32 × zS) : Int32 × zS := ((if (((a.2 96 j) / 36) = x1) then (a.1 : Int32) else (a.1 + 1)), (if (((a.2 96 j) / 36) = x1) then a.2 else (z_up (z_up (z_up (z_up (z_up a.2 96 a.1.toNatClampNeg (a.2 96 j)) 97 a.1.toNatClampNeg (a.2 97 j)) 98 a.1.toNatClampNeg (a.2 98 j)) 99 a.1.toNatClampNeg (a.2 99 j)) 100 a.1.toNatClampNeg (a.2 100 j))))
set_option maxRecDepth 100000 in
theorem l238_27 {L : Nat} (x1 : Int32) (i0 n : Nat) (a : Int32 × zS) (hn : i0 + n < 2147483648) (hc0 : ∀ j, j < n → ¬ (((zfold (k238_27 x1 ) i0 j a).2 13 36) ≤ (Int32.ofNat (i0 + j)))) (g0 : ∀ j, j < n → (¬ (((zfold (k238_27 x1 ) i0 j a).2 13 36) ≤ (Int32.ofNat (i0 + j)))) → zx 2048 (Int32.ofNat (i0 + j))) (g1 : ∀ j, j < n → (¬ (((zfold (k238_27 x1 ) i0 j a).2 13 36) ≤ (Int32.ofNat (i0 + j)))) → (¬ ((((zfold (k238_27 x1 ) i0 j a).2 96 (i0 + j)) / 36) = x1)) → zx 2048 (zfold (k238_27 x1 ) i0 j a).1) : zt L 238 27 [some (.inr (.inr 13)), some (.inl x1), some (.inl a.1), some (.inl (Int32.ofNat i0)), none] [] a.2 (.inl (27, [some (.inr (.inr 13)), some (.inl x1), some (.inl (zfold (k238_27 x1 ) i0 n a).1), some (.inl (Int32.ofNat (i0 + n))), none], [], (zfold (k238_27 x1 ) i0 n a).2)) := by
  induction n with
  | zero => exact zt_rfl
  | succ n ih =>
    have e1 := zk_ix (i0 + n) (by omega)
    have e2 := zk_add (i0 + n)
    refine zt_trans (ih (by omega) (fun j hj => hc0 j (by omega)) (fun j hj => g0 j (by omega)) (fun j hj => g1 j (by omega))) ?_
    refine zt_cast (s238_27 x1 (zfold (k238_27 x1 ) i0 n a).1 (Int32.ofNat (i0 + n)) (zfold (k238_27 x1 ) i0 n a).2 (by have hg := g0 n (by omega); first | exact hg | (simp only [e1]; exact hg)) (by have hg := g1 n (by omega); first | exact hg | (simp only [e1]; exact hg))) ?_
    rw [if_neg (show ¬ (((zfold (k238_27 x1 ) i0 n a).2 13 36) ≤ (Int32.ofNat (i0 + n))) from (by have hg := hc0 n (by omega); first | exact hg | (simp only [e1]; exact hg)))]
    simp only [zfold, k238_27, e1, e2, ← Nat.add_assoc]
def K238_27 (x1 x2 : Int32) (i0 : Nat) (S : zS) : Int32 × zS := zfold (k238_27 x1 ) i0 ((S 13 36).toNatClampNeg - i0) (x2, S)
def K238_27_c2 (x1 x2 : Int32) (i0 : Nat) (S : zS) : Int32 := (K238_27 x1 x2 i0 S).1
def K238_27_S (x1 x2 : Int32) (i0 : Nat) (S : zS) : zS := (K238_27 x1 x2 i0 S).2
set_option maxRecDepth 100000 in
theorem L238_27 {L : Nat} (x1 x2 : Int32) (i0 : Nat) (S : zS) (hi : i0 ≤ 10000) (h0 : zn 2048 (S 13 36)) (hx : zn i0 x2) : zt L 238 27 [some (.inr (.inr 13)), some (.inl x1), some (.inl x2), some (.inl (Int32.ofNat i0)), none] [] S (.inl (64, [some (.inr (.inr 13)), some (.inl x1), some (.inl (K238_27_c2 x1 x2 i0 S)), some (.inl (Int32.ofNat (i0 + ((S 13 36).toNatClampNeg - i0)))), none], [], (K238_27_S x1 x2 i0 S))) := by
  have hk13_36 : ∀ n, (zfold (k238_27 x1 ) i0 n (x2, S)).2 13 36 = S 13 36 := fun n => zfold_keep (f := (k238_27 x1 )) (fun (b : Int32 × zS) => b.2 13 36) (fun j b => by unfold k238_27; exact (show (if (((b.2 96 j) / 36) = x1) then b.2 else (z_up (z_up (z_up (z_up (z_up b.2 96 b.1.toNatClampNeg (b.2 96 j)) 97 b.1.toNatClampNeg (b.2 97 j)) 98 b.1.toNatClampNeg (b.2 98 j)) 99 b.1.toNatClampNeg (b.2 99 j)) 100 b.1.toNatClampNeg (b.2 100 j))) 13 36 = b.2 13 36 from (zite_rd rfl ((zupci rfl).trans ((zupci rfl).trans ((zupci rfl).trans ((zupci rfl).trans (zupci rfl)))))))) n (x2, S)
  have hacc : ∀ n, n ≤ ((S 13 36).toNatClampNeg - i0) → zn (i0 + n) (zfold (k238_27 x1 ) i0 n (x2, S)).1 := by
    intro n
    induction n with
    | zero => intro _; exact hx
    | succ n ih =>
      intro hn
      have h := ih (by omega)
      have := zn_cl h0
      simp only [zfold, k238_27]
      (repeat' split) <;> first | exact zn_succ (n := i0 + n) h (by omega) | exact zn_up (n := i0 + n) h
  have hend : (zfold (k238_27 x1 ) i0 ((S 13 36).toNatClampNeg - i0) (x2, S)).2 13 36 ≤ Int32.ofNat (i0 + ((S 13 36).toNatClampNeg - i0)) := by rw [hk13_36]; exact zc_le_end h0 (by omega)
  refine zt_trans (l238_27 x1   i0 ((S 13 36).toNatClampNeg - i0) (x2, S) (by have := zn_cl h0; omega) (fun j hj => by rw [hk13_36]; exact zc_le h0 hj (by omega)) (fun j hj _ => by exact zx_of (by have := zn_cl h0; omega) (by have := zn_cl h0; omega)) (fun j hj _ _ => zx_zn (hacc j (by omega)) (by have := zn_cl h0; omega))) ?_
  exact zt_cast (s238_27 x1 (zfold (k238_27 x1 ) i0 ((S 13 36).toNatClampNeg - i0) (x2, S)).1 (Int32.ofNat (i0 + ((S 13 36).toNatClampNeg - i0))) (zfold (k238_27 x1 ) i0 ((S 13 36).toNatClampNeg - i0) (x2, S)).2 (fun h9 => absurd hend h9) (fun h9 => absurd hend h9)) (if_pos hend)
set_option maxRecDepth 100000 in
theorem s238_4 {L : Nat} (x1 x2 : Int32) (S : zS) (g0 : (¬ (((36 * x1) + 36) ≤ x2)) → zx 216 x2) : zt L 238 4 [some (.inr (.inr 13)), some (.inl x1), some (.inl x2), none, none] [] S (if (((36 * x1) + 36) ≤ x2) then (.inl (23, [some (.inr (.inr 13)), some (.inl x1), some (.inl x2), none, none], [], S)) else (.inl (4, [some (.inr (.inr 13)), some (.inl x1), some (.inl (x2 + 1)), none, none], [], (z_up (z_up S 88 x2.toNatClampNeg 0) 92 x2.toNatClampNeg 0)))) := zr_1_2 i238_4 (zr_0 i238_5 kc_36 (zr_1_1 i238_6 (zr_13_2 i238_7 (zr_0 i238_8 kc_36 (zr_13_0 i238_9 (zr_19_3 i238_10 (fun h2283 => zt_rfl) (fun h2284 => zr_2_0 i238_11 (zr_6r i238_12 fl_13_23 (zr_1_2 i238_13 (zr_0 i238_14 kc_0 (zr_10 i238_15 ar_88 (g0 h2284) rfl (zr_2_0 i238_16 (zr_6r i238_17 fl_13_27 (zr_1_2 i238_18 (zr_0 i238_19 kc_0 (zr_10 i238_20 ar_92 (g0 h2284) rfl (zr_5_2 i238_21 kc_1 (zr_17 i238_22 (zt_rfl)))))))))))))))))))
def k238_4 (x1 : Int32) (j : Nat) (a : zS) : zS := (z_up (z_up a 88 j 0) 92 j 0)
set_option maxRecDepth 100000 in
theorem l238_4 {L : Nat} (x1 : Int32) (i0 n : Nat) (a : zS) (hn : i0 + n < 2147483648) (hc0 : ∀ j, j < n → ¬ (((36 * x1) + 36) ≤ (Int32.ofNat (i0 + j)))) (g0 : ∀ j, j < n → (¬ (((36 * x1) + 36) ≤ (Int32.ofNat (i0 + j)))) → zx 216 (Int32.ofNat (i0 + j))) : zt L 238 4 [some (.inr (.inr 13)), some (.inl x1), some (.inl (Int32.ofNat i0)), none, none] [] a (.inl (4, [some (.inr (.inr 13)), some (.inl x1), some (.inl (Int32.ofNat (i0 + n))), none, none], [], (zfold (k238_4 x1 ) i0 n a))) := by
  induction n with
  | zero => exact zt_rfl
  | succ n ih =>
    have e1 := zk_ix (i0 + n) (by omega)
    have e2 := zk_add (i0 + n)
    refine zt_trans (ih (by omega) (fun j hj => hc0 j (by omega)) (fun j hj => g0 j (by omega))) ?_
    refine zt_cast (s238_4 x1 (Int32.ofNat (i0 + n)) (zfold (k238_4 x1 ) i0 n a) (by have hg := g0 n (by omega); first | exact hg | (simp only [e1]; exact hg))) ?_
    rw [if_neg (show ¬ (((36 * x1) + 36) ≤ (Int32.ofNat (i0 + n))) from (by have hg := hc0 n (by omega); first | exact hg | (simp only [e1]; exact hg)))]
    simp only [zfold, k238_4, e1, e2, ← Nat.add_assoc]
def K238_4 (x1 : Int32) (i0 : Nat) (S : zS) : zS := zfold (k238_4 x1 ) i0 (((36 * x1) + 36).toNatClampNeg - i0) S
def K238_4_S (x1 : Int32) (i0 : Nat) (S : zS) : zS := (K238_4 x1 i0 S)
set_option maxRecDepth 100000 in
theorem L238_4 {L : Nat} (x1 : Int32) (i0 : Nat) (S : zS) (hi : i0 ≤ 10000) (h0 : zn 216 ((36 * x1) + 36)) : zt L 238 4 [some (.inr (.inr 13)), some (.inl x1), some (.inl (Int32.ofNat i0)), none, none] [] S (.inl (23, [some (.inr (.inr 13)), some (.inl x1), some (.inl (Int32.ofNat (i0 + (((36 * x1) + 36).toNatClampNeg - i0)))), none, none], [], (K238_4_S x1 i0 S))) := by
  have hend : ((36 * x1) + 36) ≤ Int32.ofNat (i0 + (((36 * x1) + 36).toNatClampNeg - i0)) := by exact zc_le_end h0 (by omega)
  refine zt_trans (l238_4 x1   i0 (((36 * x1) + 36).toNatClampNeg - i0) S (by have := zn_cl h0; omega) (fun j hj => by exact zc_le h0 hj (by omega)) (fun j hj _ => by exact zx_of (by have := zn_cl h0; omega) (by have := zn_cl h0; omega))) ?_
  exact zt_cast (s238_4 x1 (Int32.ofNat (i0 + (((36 * x1) + 36).toNatClampNeg - i0))) (zfold (k238_4 x1 ) i0 (((36 * x1) + 36).toNatClampNeg - i0) S) (fun h9 => absurd hend h9)) (if_pos hend)
set_option maxRecDepth 100000 in
theorem w_K238_4_S_13_36 (x1 : Int32) (i0 : Nat) (S : zS) : K238_4_S x1 i0 S 13 36 = S 13 36 := zfold_keep (f := (k238_4 x1 )) (fun (b : zS) => b 13 36) ((fun j b => by unfold k238_4; exact (show (z_up (z_up b 88 j 0) 92 j 0) 13 36 = b 13 36 from ((zupci rfl).trans (zupci rfl))))) _ _
set_option maxRecDepth 100000 in
theorem w_K238_27_S_13_57 (x1 x2 : Int32) (i0 : Nat) (S : zS) : K238_27_S x1 x2 i0 S 13 57 = S 13 57 := zfold_keep (f := (k238_27 x1 )) (fun (b : Int32 × zS) => b.2 13 57) ((fun j b => by unfold k238_27; exact (show (if (((b.2 96 j) / 36) = x1) then b.2 else (z_up (z_up (z_up (z_up (z_up b.2 96 b.1.toNatClampNeg (b.2 96 j)) 97 b.1.toNatClampNeg (b.2 97 j)) 98 b.1.toNatClampNeg (b.2 98 j)) 99 b.1.toNatClampNeg (b.2 99 j)) 100 b.1.toNatClampNeg (b.2 100 j))) 13 57 = b.2 13 57 from (zite_rd rfl ((zupci rfl).trans ((zupci rfl).trans ((zupci rfl).trans ((zupci rfl).trans (zupci rfl))))))))) _ _
set_option maxRecDepth 100000 in
theorem w_K238_4_S_13_57 (x1 : Int32) (i0 : Nat) (S : zS) : K238_4_S x1 i0 S 13 57 = S 13 57 := zfold_keep (f := (k238_4 x1 )) (fun (b : zS) => b 13 57) ((fun j b => by unfold k238_4; exact (show (z_up (z_up b 88 j 0) 92 j 0) 13 57 = b 13 57 from ((zupci rfl).trans (zupci rfl))))) _ _
set_option maxRecDepth 100000 in
theorem w_K238_27_S_122 (x1 x2 : Int32) (i0 : Nat) (S : zS) : K238_27_S x1 x2 i0 S 122 = S 122 := zfold_keep (f := (k238_27 x1 )) (fun (b : Int32 × zS) => b.2 122) ((fun j b => by unfold k238_27; exact (show (if (((b.2 96 j) / 36) = x1) then b.2 else (z_up (z_up (z_up (z_up (z_up b.2 96 b.1.toNatClampNeg (b.2 96 j)) 97 b.1.toNatClampNeg (b.2 97 j)) 98 b.1.toNatClampNeg (b.2 98 j)) 99 b.1.toNatClampNeg (b.2 99 j)) 100 b.1.toNatClampNeg (b.2 100 j))) 122 = b.2 122 from (zite_k rfl ((zupc rfl).trans ((zupc rfl).trans ((zupc rfl).trans ((zupc rfl).trans (zupc rfl))))))))) _ _
set_option maxRecDepth 100000 in
theorem w_K238_4_S_122 (x1 : Int32) (i0 : Nat) (S : zS) : K238_4_S x1 i0 S 122 = S 122 := zfold_keep (f := (k238_4 x1 )) (fun (b : zS) => b 122) ((fun j b => by unfold k238_4; exact (show (z_up (z_up b 88 j 0) 92 j 0) 122 = b 122 from ((zupc rfl).trans (zupc rfl))))) _ _
set_option maxRecDepth 100000 in
theorem w_G269_13_72 (a : Int32) (S : zS) : G269 a S 13 72 = S 13 72 := (show (if ((S 127 (S 122 a.toNatClampNeg).toNatClampNeg) = 1) then (z_up (z_up S 126 a.toNatClampNeg ((S 126 a.toNatClampNeg) + 1)) 125 a.toNatClampNeg (if (((S 126 a.toNatClampNeg) + 1) = 3) then (3 : Int32) else 1)) else (z_up (z_up (z_up S 126 a.toNatClampNeg ((S 126 a.toNatClampNeg) + 1)) 125 a.toNatClampNeg 2) 128 (S 122 a.toNatClampNeg).toNatClampNeg ((S 128 (S 122 a.toNatClampNeg).toNatClampNeg) - 1))) 13 72 = S 13 72 from (zite_rd ((zupci rfl).trans (zupci rfl)) ((zupci rfl).trans ((zupci rfl).trans (zupci rfl)))))
set_option maxRecDepth 100000 in
theorem w_K271_4_S_13_72 (x1 x2 x3 : Int32) (u5 : Option zV) (i0 : Nat) (S : zS) : K271_4_S x1 x2 x3 u5 i0 S 13 72 = S 13 72 := zfold_keep (f := (k271_4 x1 x2 )) (fun (b : Int32 × Option zV × zS) => b.2.2 13 72) ((fun j b => by unfold k271_4; exact (show (if (((b.2.2 125 j) = 0) ∧ ((((b.2.2 121 j) / 36) = x1) ∧ ((x2 = (-1)) ∨ ((if (1 = 0) then (((b.2.2 121 j) / 36) : Int32) else (if (1 = 1) then ((zrem ((b.2.2 121 j) / 6) 6) : Int32) else (zrem (b.2.2 121 j) 6))) = x2)))) then (G269 (Int32.ofNat j) (z_up (z_up b.2.2 123 j (b.2.2 13 1)) 126 j 0)) else b.2.2) 13 72 = b.2.2 13 72 from (zite_rd ((w_G269_13_72 _ _).trans ((zupci rfl).trans (zupci rfl))) rfl)))) _ _
set_option maxRecDepth 100000 in
theorem w_K238_27_S_13_72 (x1 x2 : Int32) (i0 : Nat) (S : zS) : K238_27_S x1 x2 i0 S 13 72 = S 13 72 := zfold_keep (f := (k238_27 x1 )) (fun (b : Int32 × zS) => b.2 13 72) ((fun j b => by unfold k238_27; exact (show (if (((b.2 96 j) / 36) = x1) then b.2 else (z_up (z_up (z_up (z_up (z_up b.2 96 b.1.toNatClampNeg (b.2 96 j)) 97 b.1.toNatClampNeg (b.2 97 j)) 98 b.1.toNatClampNeg (b.2 98 j)) 99 b.1.toNatClampNeg (b.2 99 j)) 100 b.1.toNatClampNeg (b.2 100 j))) 13 72 = b.2 13 72 from (zite_rd rfl ((zupci rfl).trans ((zupci rfl).trans ((zupci rfl).trans ((zupci rfl).trans (zupci rfl))))))))) _ _
set_option maxRecDepth 100000 in
theorem w_K238_4_S_13_72 (x1 : Int32) (i0 : Nat) (S : zS) : K238_4_S x1 i0 S 13 72 = S 13 72 := zfold_keep (f := (k238_4 x1 )) (fun (b : zS) => b 13 72) ((fun j b => by unfold k238_4; exact (show (z_up (z_up b 88 j 0) 92 j 0) 13 72 = b 13 72 from ((zupci rfl).trans (zupci rfl))))) _ _
def G238 (a : Int32) (S : zS) : zS := (K238_74_S a (K238_27_c2 a 0 0 (K238_4_S a (36 * a).toNatClampNeg S)) (K271_4_c3 a (-1) 0 (none : Option zV) 0 (z_up (K238_27_S a 0 0 (K238_4_S a (36 * a).toNatClampNeg S)) 13 36 (K238_27_c2 a 0 0 (K238_4_S a (36 * a).toNatClampNeg S)))) 0 (K271_4_S a (-1) 0 (none : Option zV) 0 (z_up (K238_27_S a 0 0 (K238_4_S a (36 * a).toNatClampNeg S)) 13 36 (K238_27_c2 a 0 0 (K238_4_S a (36 * a).toNatClampNeg S)))))
set_option maxRecDepth 100000 in
theorem f238 {L : Nat} (a : Int32) (S : zS) (g0 : zn 216 ((36 * a) + 36)) (g1 : zn 10000 (36 * a)) (g2 : zn 2048 (S 13 36)) (g3 : zn 40 (S 13 57)) (g4 : zA 40 3 (S 122)) (g5 : zn 20 (S 13 72)) : zf L 238 [.inr (.inr 13), .inl a] S (.inl none, (G238 a S), 0) := zf_of (en_238 _ _) (zr_0 i238_0 kc_36 (zr_1_1 i238_1 (zr_13_2 i238_2 (zr_3_2 i238_3 (zt_trans (zk_cg (P := fun v9 => zt L 238 4 [some (.inr (.inr 13)), some (.inl a), some (.inl v9), none, none] [] S (.inl (23, [some (.inr (.inr 13)), some (.inl a), some (.inl (Int32.ofNat ((36 * a).toNatClampNeg + (((36 * a) + 36).toNatClampNeg - (36 * a).toNatClampNeg)))), none, none], [], (K238_4_S a (36 * a).toNatClampNeg S)))) ((g1)).1 (L238_4 a (36 * a).toNatClampNeg S (zn_cl (g1)) (g0))) (zr_0 i238_23 kc_0 (zr_3_2 i238_24 (zr_0 i238_25 kc_0 (zr_3_3 i238_26 (zt_trans (L238_27 a 0 0 (K238_4_S a (36 * a).toNatClampNeg S) (by decide) (znv (w_K238_4_S_13_36 _ _ _) (g2)) (zn_0_0)) (zr_2_0 i238_64 (zr_1_2 i238_65 (zr_7 i238_66 fl_13_36 (zr_2_0 i238_67 (zr_1_1 i238_68 (zr_0 i238_69 kc_m1 (zr_cv (zs_21_2 i238_70 na_271 ob_13 rfl) (f271 a (-1) (z_up (K238_27_S a 0 0 (K238_4_S a (36 * a).toNatClampNeg S)) 13 36 (K238_27_c2 a 0 0 (K238_4_S a (36 * a).toNatClampNeg S))) (znv ((zupf rfl).trans ((w_K238_27_S_13_57 _ _ _ _).trans (w_K238_4_S_13_57 _ _ _))) (g3)) (zpc1 ((zupc rfl).trans ((w_K238_27_S_122 _ _ _ _).trans (w_K238_4_S_122 _ _ _))) (g4))) (zr_3_3 i238_71 (zr_0 i238_72 kc_0 (zr_3_4 i238_73 (zt_trans (L238_74 a (K238_27_c2 a 0 0 (K238_4_S a (36 * a).toNatClampNeg S)) (K271_4_c3 a (-1) 0 (none : Option zV) 0 (z_up (K238_27_S a 0 0 (K238_4_S a (36 * a).toNatClampNeg S)) 13 36 (K238_27_c2 a 0 0 (K238_4_S a (36 * a).toNatClampNeg S)))) 0 (K271_4_S a (-1) 0 (none : Option zV) 0 (z_up (K238_27_S a 0 0 (K238_4_S a (36 * a).toNatClampNeg S)) 13 36 (K238_27_c2 a 0 0 (K238_4_S a (36 * a).toNatClampNeg S)))) (by decide) (znv ((w_K271_4_S_13_72 _ _ _ _ _ _).trans ((zupf rfl).trans ((w_K238_27_S_13_72 _ _ _ _).trans (w_K238_4_S_13_72 _ _ _)))) (g5))) (zr_27 i238_99))))))))))))))))))))))
def G236 (a b c : Int32) (S : zS) : zS := (if ((if (((¬ (a < 0)) ∧ (¬ (5 < a))) ∧ (((¬ (b < (-1))) ∧ (¬ (2 < b))) ∧ ((¬ (c < 0)) ∧ (¬ ((if (b = 1) then (2 : Int32) else 0) < c))))) then ((if ((zb ((S 84 a.toNatClampNeg) = (-1))) = (zb (b = (-1)))) then (2 : Int32) else 0) : Int32) else 1) = 0) then (if (b = (-1)) then (G238 a (z_up (z_up (z_up S 13 0 (if (((¬ (a < 0)) ∧ (¬ (5 < a))) ∧ (((¬ (b < (-1))) ∧ (¬ (2 < b))) ∧ ((¬ (c < 0)) ∧ (¬ ((if (b = 1) then (2 : Int32) else 0) < c))))) then ((if ((zb ((S 84 a.toNatClampNeg) = (-1))) = (zb (b = (-1)))) then (2 : Int32) else 0) : Int32) else 1)) 84 a.toNatClampNeg b) 85 a.toNatClampNeg c)) else (z_up (z_up (z_up S 13 0 (if (((¬ (a < 0)) ∧ (¬ (5 < a))) ∧ (((¬ (b < (-1))) ∧ (¬ (2 < b))) ∧ ((¬ (c < 0)) ∧ (¬ ((if (b = 1) then (2 : Int32) else 0) < c))))) then ((if ((zb ((S 84 a.toNatClampNeg) = (-1))) = (zb (b = (-1)))) then (2 : Int32) else 0) : Int32) else 1)) 84 a.toNatClampNeg b) 85 a.toNatClampNeg c)) else (z_up S 13 0 (if (((¬ (a < 0)) ∧ (¬ (5 < a))) ∧ (((¬ (b < (-1))) ∧ (¬ (2 < b))) ∧ ((¬ (c < 0)) ∧ (¬ ((if (b = 1) then (2 : Int32) else 0) < c))))) then ((if ((zb ((S 84 a.toNatClampNeg) = (-1))) = (zb (b = (-1)))) then (2 : Int32) else 0) : Int32) else 1)))
set_option maxRecDepth 100000 in
theorem f236 {L : Nat} (a b c : Int32) (S : zS) (g0 : (((¬ (a < 0)) ∧ (¬ (5 < a))) ∧ (((¬ (b < (-1))) ∧ (¬ (2 < b))) ∧ ((¬ (c < 0)) ∧ (¬ ((if (b = 1) then (2 : Int32) else 0) < c))))) → zx 6 a) (g1 : ((if (((¬ (a < 0)) ∧ (¬ (5 < a))) ∧ (((¬ (b < (-1))) ∧ (¬ (2 < b))) ∧ ((¬ (c < 0)) ∧ (¬ ((if (b = 1) then (2 : Int32) else 0) < c))))) then ((if ((zb ((S 84 a.toNatClampNeg) = (-1))) = (zb (b = (-1)))) then (2 : Int32) else 0) : Int32) else 1) = 0) → zx 6 a) (g2 : ((if (((¬ (a < 0)) ∧ (¬ (5 < a))) ∧ (((¬ (b < (-1))) ∧ (¬ (2 < b))) ∧ ((¬ (c < 0)) ∧ (¬ ((if (b = 1) then (2 : Int32) else 0) < c))))) then ((if ((zb ((S 84 a.toNatClampNeg) = (-1))) = (zb (b = (-1)))) then (2 : Int32) else 0) : Int32) else 1) = 0) → (b = (-1)) → zn 216 ((36 * a) + 36)) (g3 : ((if (((¬ (a < 0)) ∧ (¬ (5 < a))) ∧ (((¬ (b < (-1))) ∧ (¬ (2 < b))) ∧ ((¬ (c < 0)) ∧ (¬ ((if (b = 1) then (2 : Int32) else 0) < c))))) then ((if ((zb ((S 84 a.toNatClampNeg) = (-1))) = (zb (b = (-1)))) then (2 : Int32) else 0) : Int32) else 1) = 0) → (b = (-1)) → zn 10000 (36 * a)) (g4 : zn 2048 (S 13 36)) (g5 : zn 40 (S 13 57)) (g6 : zA 40 3 (S 122)) (g7 : zn 20 (S 13 72)) : zf L 236 [.inr (.inr 13), .inl a, .inl b, .inl c] S (.inl none, (G236 a b c S), 0) := zf_of (en_236 _ _ _ _) (zr_1_1 i236_0 (zr_0 i236_1 kc_0 (zr_0 i236_2 kc_5 (zr_cv (zs_22_3 i236_3 na_213 rfl) (f213 a 0 5 S ) (zt_trans (zt_cast (zr_18b_0 i236_4 (fun h2285 => zr_1_2 i236_5 (zr_0 i236_6 kc_m1 (zr_0 i236_7 kc_2 (zr_cv (zs_22_3 i236_8 na_213 rfl) (f213 b (-1) 2 S ) (zt_cast (zr_18b_0 i236_9 (fun h2287 => zr_1_3 i236_10 (zr_0 i236_11 kc_0 (zr_1_2 i236_12 (zr_0 i236_13 kc_1 (zt_trans (zt_cast (zr_19_1 i236_14 (fun h2289 => zr_0 i236_15 kc_2 (zr_17 i236_16 (zt_rfl))) (fun h2290 => zr_0 i236_17 kc_0 (zt_rfl))) (zm_c zz_s (zl_c (zl_t zz_e) zz_s) zz_s)) (zr_cv (zs_22_3 i236_18 na_213 rfl) (f213 c 0 (if (b = 1) then (2 : Int32) else 0) S ) (zt_cast (zr_18b_0 i236_19 (fun h2291 => zr_0 i236_20 kc_1 (zr_17 i236_21 (zt_rfl))) (fun h2292 => zr_0 i236_22 kc_0 (zt_rfl))) (zm_c zz_s (zl_c (zl_t zz_10) zz_s) zz_s)))))))) (fun h2288 => zr_0 i236_22 kc_0 (zt_rfl))) (zm_c zz_s (zl_c (zl_t zz_b0) zz_s) zz_s)))))) (fun h2286 => zr_0 i236_22 kc_0 (zt_rfl))) (zm_c zz_s (zl_c (zl_t zz_b0) zz_s) zz_s)) (zr_3_4 i236_23 (zr_2_0 i236_24 (zr_1_4 i236_25 (zt_trans (zt_cast (zr_18b_1 i236_26 (fun h2293 => zr_2_0 i236_29 (zr_6r i236_30 fl_13_19 (zr_1_1 i236_31 (zr_8 i236_32 ar_84 (g0 h2293) rfl rfl (zr_0 i236_33 kc_m1 (zt_trans (zt_cast (zr_19_1 i236_34 (fun h2295 => zr_0 i236_35 kc_1 (zr_17 i236_36 (zt_rfl))) (fun h2296 => zr_0 i236_37 kc_0 (zt_rfl))) (zm_c zz_s (zl_c (zl_t zz_10) zz_s) zz_s)) (zr_1_2 i236_38 (zr_0 i236_39 kc_m1 (zt_trans (zt_cast (zr_19_1 i236_40 (fun h2297 => zr_0 i236_41 kc_1 (zr_17 i236_42 (zt_rfl))) (fun h2298 => zr_0 i236_43 kc_0 (zt_rfl))) (zm_c zz_s (zl_c (zl_t zz_10) zz_s) zz_s)) (zt_cast (zr_19_1 i236_44 (fun h2299 => zr_0 i236_45 kc_2 (zr_17 i236_46 (zt_rfl))) (fun h2300 => zr_0 i236_47 kc_0 (zt_rfl))) (zm_c zz_s (zl_c (zl_t zz_e) zz_s) zz_s))))))))))) (fun h2294 => zr_0 i236_27 kc_1 (zr_17 i236_28 (zt_rfl)))) (zm_c zz_s (zl_c (zl_t zz_e) zz_s) zz_s)) (zr_cv (zs_21_1 i236_48 na_212 ob_13 rfl) (f212 (if (((¬ (a < 0)) ∧ (¬ (5 < a))) ∧ (((¬ (b < (-1))) ∧ (¬ (2 < b))) ∧ ((¬ (c < 0)) ∧ (¬ ((if (b = 1) then (2 : Int32) else 0) < c))))) then ((if ((zb ((S 84 a.toNatClampNeg) = (-1))) = (zb (b = (-1)))) then (2 : Int32) else 0) : Int32) else 1) S ) (zt_cast (zr_18b_1 i236_49 (fun h2301 => zr_2_0 i236_51 (zr_6r i236_52 fl_13_19 (zr_1_1 i236_53 (zr_1_2 i236_54 (zr_10 i236_55 ar_84 (g1 h2301) rfl (zr_2_0 i236_56 (zr_6r i236_57 fl_13_20 (zr_1_1 i236_58 (zr_1_3 i236_59 (zr_10 i236_60 ar_85 (g1 h2301) rfl (zr_1_2 i236_61 (zr_0 i236_62 kc_m1 (zt_trans (zt_cast (zr_19_1 i236_63 (fun h2303 => zr_2_0 i236_64 (zr_1_1 i236_65 (zr_cn (zs_21_1 i236_66 na_238 ob_13 rfl) (f238 a (z_up (z_up (z_up S 13 0 (if (((¬ (a < 0)) ∧ (¬ (5 < a))) ∧ (((¬ (b < (-1))) ∧ (¬ (2 < b))) ∧ ((¬ (c < 0)) ∧ (¬ ((if (b = 1) then (2 : Int32) else 0) < c))))) then ((if ((zb ((S 84 a.toNatClampNeg) = (-1))) = (zb (b = (-1)))) then (2 : Int32) else 0) : Int32) else 1)) 84 a.toNatClampNeg b) 85 a.toNatClampNeg c) (g2 h2301 h2303) (g3 h2301 h2303) (znv ((zupci rfl).trans ((zupci rfl).trans (zupf rfl))) (g4)) (znv ((zupci rfl).trans ((zupci rfl).trans (zupf rfl))) (g5)) (zpc1 ((zupc rfl).trans ((zupc rfl).trans (zupc rfl))) (g6)) (znv ((zupci rfl).trans ((zupci rfl).trans (zupf rfl))) (g7))) (zt_rfl)))) (fun h2304 => zt_rfl)) (zm_c zz_s zz_s zz_e)) (zr_27 i236_67)))))))))))))) (fun h2302 => zr_27 i236_50)) (zm_v zz_e))))))))))))
set_option maxRecDepth 100000 in
theorem s249_82 {L : Nat} (x1 x2 x3 x4 : Int32) (u5 : Option zV) (S : zS) (g0 : (¬ (4 ≤ x4)) → zx 4 x4) : zt L 249 82 [some (.inr (.inr 13)), some (.inl x1), some (.inl x2), some (.inl x3), some (.inl x4), u5] [] S (if (4 ≤ x4) then (.inl (126, [some (.inr (.inr 13)), some (.inl x1), some (.inl x2), some (.inl x3), some (.inl x4), u5], [], S)) else (.inl (82, [some (.inr (.inr 13)), some (.inl x1), some (.inl x2), some (.inl x3), some (.inl (x4 + 1)), some (.inl (zb (((zshr (S 107 x4.toNatClampNeg) x1) &&& 1) = 1)))], [], (z_up S 107 x4.toNatClampNeg (if (((zshr (S 107 x4.toNatClampNeg) x1) &&& 1) = 1) then ((((S 107 x4.toNatClampNeg) &&& ((zshl 1 x1) ^^^ (-1))) ||| (zshl 1 x2)) : Int32) else (S 107 x4.toNatClampNeg)))))) := zr_1_4 i249_82 (zr_0 i249_83 kc_4 (zr_19_3 i249_84 (fun h2359 => zt_rfl) (fun h2360 => zr_2_0 i249_85 (zr_6r i249_86 fl_13_43 (zr_1_4 i249_87 (zr_8 i249_88 ar_107 (g0 h2360) rfl rfl (zr_1_1 i249_89 (zr_13_9 i249_90 (zr_0 i249_91 kc_1 (zr_13_5 i249_92 (zr_0 i249_93 kc_1 (zt_trans (zt_cast (zr_19_1 i249_94 (fun h2361 => zr_0 i249_95 kc_1 (zr_17 i249_96 (zt_rfl))) (fun h2362 => zr_0 i249_97 kc_0 (zt_rfl))) (zm_c zz_s (zl_c (zl_t zz_10) zz_s) zz_s)) (zr_3_5 i249_98 (zr_2_0 i249_99 (zr_6r i249_100 fl_13_43 (zr_1_4 i249_101 (zr_1_5 i249_102 (zt_trans (zt_cast (zr_18b_0 i249_103 (fun h2363 => zr_2_0 i249_104 (zr_6r i249_105 fl_13_43 (zr_1_4 i249_106 (zr_8 i249_107 ar_107 (g0 h2360) rfl rfl (zr_0 i249_108 kc_1 (zr_1_1 i249_109 (zr_13_8 i249_110 (zr_0 i249_111 kc_m1 (zr_13_7 i249_112 (zr_13_5 i249_113 (zr_0 i249_114 kc_1 (zr_1_2 i249_115 (zr_13_8 i249_116 (zr_13_6 i249_117 (zr_17 i249_118 (zt_rfl)))))))))))))))) (fun h2364 => zr_2_0 i249_119 (zr_6r i249_120 fl_13_43 (zr_1_4 i249_121 (zr_8 i249_122 ar_107 (g0 h2360) rfl rfl (zt_rfl)))))) (zm_c zz_s (zl_c (zl_t zz_e) zz_s) zz_s)) (zr_10 i249_123 ar_107 (g0 h2360) rfl (zr_5_4 i249_124 kc_1 (zr_17 i249_125 (zt_rfl))))))))))))))))))))))
def k249_82 (x1 x2 x3 : Int32) (j : Nat) (a : Option zV × zS) : Option zV × zS := ((some (.inl (zb (((zshr (a.2 107 j) x1) &&& 1) = 1)))), (z_up a.2 107 j (if (((zshr (a.2 107 j) x1) &&& 1) = 1) then ((((a.2 107 j) &&& ((zshl 1 x1) ^^^ (-1))) ||| (zshl 1 x2)) : Int32) else (a.2 107 j))))
set_option maxRecDepth 100000 in
theorem l249_82 {L : Nat} (x1 x2 x3 : Int32) (i0 n : Nat) (a : Option zV × zS) (hn : i0 + n < 2147483648) (hc0 : ∀ j, j < n → ¬ (4 ≤ (Int32.ofNat (i0 + j)))) (g0 : ∀ j, j < n → (¬ (4 ≤ (Int32.ofNat (i0 + j)))) → zx 4 (Int32.ofNat (i0 + j))) : zt L 249 82 [some (.inr (.inr 13)), some (.inl x1), some (.inl x2), some (.inl x3), some (.inl (Int32.ofNat i0)), a.1] [] a.2 (.inl (82, [some (.inr (.inr 13)), some (.inl x1), some (.inl x2), some (.inl x3), some (.inl (Int32.ofNat (i0 + n))), (zfold (k249_82 x1 x2 x3 ) i0 n a).1], [], (zfold (k249_82 x1 x2 x3 ) i0 n a).2)) := by
  induction n with
  | zero => exact zt_rfl
  | succ n ih =>
    have e1 := zk_ix (i0 + n) (by omega)
    have e2 := zk_add (i0 + n)
    refine zt_trans (ih (by omega) (fun j hj => hc0 j (by omega)) (fun j hj => g0 j (by omega))) ?_
    refine zt_cast (s249_82 x1 x2 x3 (Int32.ofNat (i0 + n)) (zfold (k249_82 x1 x2 x3 ) i0 n a).1 (zfold (k249_82 x1 x2 x3 ) i0 n a).2 (by have hg := g0 n (by omega); first | exact hg | (simp only [e1]; exact hg))) ?_
    rw [if_neg (show ¬ (4 ≤ (Int32.ofNat (i0 + n))) from (by have hg := hc0 n (by omega); first | exact hg | (simp only [e1]; exact hg)))]
    simp only [zfold, k249_82, e1, e2, ← Nat.add_assoc]
def K249_82 (x1 x2 x3 : Int32) (u5 : Option zV) (i0 : Nat) (S : zS) : Option zV × zS := zfold (k249_82 x1 x2 x3 ) i0 (4 - i0) (u5, S)
def K249_82_c5 (x1 x2 x3 : Int32) (u5 : Option zV) (i0 : Nat) (S : zS) : Option zV := (K249_82 x1 x2 x3 u5 i0 S).1
def K249_82_S (x1 x2 x3 : Int32) (u5 : Option zV) (i0 : Nat) (S : zS) : zS := (K249_82 x1 x2 x3 u5 i0 S).2
set_option maxRecDepth 100000 in
theorem L249_82 {L : Nat} (x1 x2 x3 : Int32) (u5 : Option zV) (i0 : Nat) (S : zS) (hi : i0 ≤ 10000) : zt L 249 82 [some (.inr (.inr 13)), some (.inl x1), some (.inl x2), some (.inl x3), some (.inl (Int32.ofNat i0)), u5] [] S (.inl (126, [some (.inr (.inr 13)), some (.inl x1), some (.inl x2), some (.inl x3), some (.inl (Int32.ofNat (i0 + (4 - i0)))), (K249_82_c5 x1 x2 x3 u5 i0 S)], [], (K249_82_S x1 x2 x3 u5 i0 S))) := by
  have hend : 4 ≤ Int32.ofNat (i0 + (4 - i0)) := by exact zc_le_end (show zn 4 4 from by unfold zn; decide) (by omega)
  refine zt_trans (l249_82 x1 x2 x3   i0 (4 - i0) (u5, S) (by omega) (fun j hj => by exact zc_le (show zn 4 4 from by unfold zn; decide) hj (by omega)) (fun j hj _ => by exact zx_of (by omega) (by omega))) ?_
  exact zt_cast (s249_82 x1 x2 x3 (Int32.ofNat (i0 + (4 - i0))) (zfold (k249_82 x1 x2 x3 ) i0 (4 - i0) (u5, S)).1 (zfold (k249_82 x1 x2 x3 ) i0 (4 - i0) (u5, S)).2 (fun h9 => absurd hend h9)) (if_pos hend)
set_option maxRecDepth 100000 in
theorem s249_58 {L : Nat} (x1 x2 x3 x4 : Int32) (S : zS) (g0 : (¬ ((S 13 45) ≤ x4)) → zx 40 x4) : zt L 249 58 [some (.inr (.inr 13)), some (.inl x1), some (.inl x2), some (.inl x3), some (.inl x4), none] [] S (if ((S 13 45) ≤ x4) then (.inl (80, [some (.inr (.inr 13)), some (.inl x1), some (.inl x2), some (.inl x3), some (.inl x4), none], [], S)) else (.inl (58, [some (.inr (.inr 13)), some (.inl x1), some (.inl x2), some (.inl x3), some (.inl (x4 + 1)), none], [], (z_up S 111 x4.toNatClampNeg (if ((S 111 x4.toNatClampNeg) = x1) then (x2 : Int32) else (S 111 x4.toNatClampNeg)))))) := zr_1_4 i249_58 (zr_2_0 i249_59 (zr_6 i249_60 fl_13_45 rfl (zr_19_3 i249_61 (fun h2365 => zt_rfl) (fun h2366 => zr_2_0 i249_62 (zr_6r i249_63 fl_13_48 (zr_1_4 i249_64 (zr_2_0 i249_65 (zr_6r i249_66 fl_13_48 (zr_1_4 i249_67 (zr_8 i249_68 ar_111 (g0 h2366) rfl rfl (zr_1_1 i249_69 (zt_trans (zt_cast (zr_19_1 i249_70 (fun h2367 => zr_1_2 i249_71 (zr_17 i249_72 (zt_rfl))) (fun h2368 => zr_2_0 i249_73 (zr_6r i249_74 fl_13_48 (zr_1_4 i249_75 (zr_8 i249_76 ar_111 (g0 h2366) rfl rfl (zt_rfl)))))) (zm_c zz_s (zl_c (zl_t zz_e) zz_s) zz_s)) (zr_10 i249_77 ar_111 (g0 h2366) rfl (zr_5_4 i249_78 kc_1 (zr_17 i249_79 (zt_rfl))))))))))))))))
def k249_58 (x1 x2 x3 : Int32) (j : Nat) (a : zS) : zS := (z_up a 111 j (if ((a 111 j) = x1) then (x2 : Int32) else (a 111 j)))
set_option maxRecDepth 100000 in
theorem l249_58 {L : Nat} (x1 x2 x3 : Int32) (i0 n : Nat) (a : zS) (hn : i0 + n < 2147483648) (hc0 : ∀ j, j < n → ¬ (((zfold (k249_58 x1 x2 x3 ) i0 j a) 13 45) ≤ (Int32.ofNat (i0 + j)))) (g0 : ∀ j, j < n → (¬ (((zfold (k249_58 x1 x2 x3 ) i0 j a) 13 45) ≤ (Int32.ofNat (i0 + j)))) → zx 40 (Int32.ofNat (i0 + j))) : zt L 249 58 [some (.inr (.inr 13)), some (.inl x1), some (.inl x2), some (.inl x3), some (.inl (Int32.ofNat i0)), none] [] a (.inl (58, [some (.inr (.inr 13)), some (.inl x1), some (.inl x2), some (.inl x3), some (.inl (Int32.ofNat (i0 + n))), none], [], (zfold (k249_58 x1 x2 x3 ) i0 n a))) := by
  induction n with
  | zero => exact zt_rfl
  | succ n ih =>
    have e1 := zk_ix (i0 + n) (by omega)
    have e2 := zk_add (i0 + n)
    refine zt_trans (ih (by omega) (fun j hj => hc0 j (by omega)) (fun j hj => g0 j (by omega))) ?_
    refine zt_cast (s249_58 x1 x2 x3 (Int32.ofNat (i0 + n)) (zfold (k249_58 x1 x2 x3 ) i0 n a) (by have hg := g0 n (by omega); first | exact hg | (simp only [e1]; exact hg))) ?_
    rw [if_neg (show ¬ (((zfold (k249_58 x1 x2 x3 ) i0 n a) 13 45) ≤ (Int32.ofNat (i0 + n))) from (by have hg := hc0 n (by omega); first | exact hg | (simp only [e1]; exact hg)))]
    simp only [zfold, k249_58, e1, e2, ← Nat.add_assoc]
def K249_58 (x1 x2 x3 : Int32) (i0 : Nat) (S : zS) : zS := zfold (k249_58 x1 x2 x3 ) i0 ((S 13 45).toNatClampNeg - i0) S
def K249_58_S (x1 x2 x3 : Int32) (i0 : Nat) (S : zS) : zS := (K249_58 x1 x2 x3 i0 S)
set_option maxRecDepth 100000 in
theorem L249_58 {L : Nat} (x1 x2 x3 : Int32) (i0 : Nat) (S : zS) (hi : i0 ≤ 10000) (h0 : zn 40 (S 13 45)) : zt L 249 58 [some (.inr (.inr 13)), some (.inl x1), some (.inl x2), some (.inl x3), some (.inl (Int32.ofNat i0)), none] [] S (.inl (80, [some (.inr (.inr 13)), some (.inl x1), some (.inl x2), some (.inl x3), some (.inl (Int32.ofNat (i0 + ((S 13 45).toNatClampNeg - i0)))), none], [], (K249_58_S x1 x2 x3 i0 S))) := by
  have hk13_45 : ∀ n, (zfold (k249_58 x1 x2 x3 ) i0 n S) 13 45 = S 13 45 := fun n => zfold_keep (f := (k249_58 x1 x2 x3 )) (fun (b : zS) => b 13 45) (fun j b => by unfold k249_58; exact (show (z_up b 111 j (if ((b 111 j) = x1) then (x2 : Int32) else (b 111 j))) 13 45 = b 13 45 from (zupci rfl))) n S
  have hend : (zfold (k249_58 x1 x2 x3 ) i0 ((S 13 45).toNatClampNeg - i0) S) 13 45 ≤ Int32.ofNat (i0 + ((S 13 45).toNatClampNeg - i0)) := by rw [hk13_45]; exact zc_le_end h0 (by omega)
  refine zt_trans (l249_58 x1 x2 x3   i0 ((S 13 45).toNatClampNeg - i0) S (by have := zn_cl h0; omega) (fun j hj => by rw [hk13_45]; exact zc_le h0 hj (by omega)) (fun j hj _ => by exact zx_of (by have := zn_cl h0; omega) (by have := zn_cl h0; omega))) ?_
  exact zt_cast (s249_58 x1 x2 x3 (Int32.ofNat (i0 + ((S 13 45).toNatClampNeg - i0))) (zfold (k249_58 x1 x2 x3 ) i0 ((S 13 45).toNatClampNeg - i0) S) (fun h9 => absurd hend h9)) (if_pos hend)
set_option maxRecDepth 100000 in
theorem s249_23 {L : Nat} (x1 x2 x3 x4 : Int32) (S : zS) (g0 : (¬ (18 ≤ x4)) → zx 18 x4) : zt L 249 23 [some (.inr (.inr 13)), some (.inl x1), some (.inl x2), some (.inl x3), some (.inl x4), none] [] S (if (18 ≤ x4) then (.inl (56, [some (.inr (.inr 13)), some (.inl x1), some (.inl x2), some (.inl x3), some (.inl x4), none], [], S)) else (.inl (23, [some (.inr (.inr 13)), some (.inl x1), some (.inl x2), some (.inl (x3 + (zb ((S 106 x4.toNatClampNeg) = x1)))), some (.inl (x4 + 1)), none], [], (z_up S 106 x4.toNatClampNeg (if ((S 106 x4.toNatClampNeg) = x1) then (x2 : Int32) else (S 106 x4.toNatClampNeg)))))) := zr_1_4 i249_23 (zr_0 i249_24 kc_18 (zr_19_3 i249_25 (fun h2369 => zt_rfl) (fun h2370 => zr_1_3 i249_26 (zr_2_0 i249_27 (zr_6r i249_28 fl_13_42 (zr_1_4 i249_29 (zr_8 i249_30 ar_106 (g0 h2370) rfl rfl (zr_1_1 i249_31 (zt_trans (zt_cast (zr_19_1 i249_32 (fun h2371 => zr_0 i249_33 kc_1 (zr_17 i249_34 (zt_rfl))) (fun h2372 => zr_0 i249_35 kc_0 (zt_rfl))) (zm_c zz_s (zl_c (zl_t zz_10) zz_s) zz_s)) (zr_13_0 i249_36 (zr_3_3 i249_37 (zr_2_0 i249_38 (zr_6r i249_39 fl_13_42 (zr_1_4 i249_40 (zr_2_0 i249_41 (zr_6r i249_42 fl_13_42 (zr_1_4 i249_43 (zr_8 i249_44 ar_106 (g0 h2370) rfl rfl (zr_1_1 i249_45 (zt_trans (zt_cast (zr_19_1 i249_46 (fun h2373 => zr_1_2 i249_47 (zr_17 i249_48 (zt_rfl))) (fun h2374 => zr_2_0 i249_49 (zr_6r i249_50 fl_13_42 (zr_1_4 i249_51 (zr_8 i249_52 ar_106 (g0 h2370) rfl rfl (zt_rfl)))))) (zm_c zz_s (zl_c (zl_t zz_e) zz_s) zz_s)) (zr_10 i249_53 ar_106 (g0 h2370) rfl (zr_5_4 i249_54 kc_1 (zr_17 i249_55 (zt_rfl))))))))))))))))))))))))
def k249_23 (x1 x2 : Int32) (j : Nat) (a : Int32 × zS) : Int32 × zS := ((a.1 + (zb ((a.2 106 j) = x1))), (z_up a.2 106 j (if ((a.2 106 j) = x1) then (x2 : Int32) else (a.2 106 j))))
set_option maxRecDepth 100000 in
theorem l249_23 {L : Nat} (x1 x2 : Int32) (i0 n : Nat) (a : Int32 × zS) (hn : i0 + n < 2147483648) (hc0 : ∀ j, j < n → ¬ (18 ≤ (Int32.ofNat (i0 + j)))) (g0 : ∀ j, j < n → (¬ (18 ≤ (Int32.ofNat (i0 + j)))) → zx 18 (Int32.ofNat (i0 + j))) : zt L 249 23 [some (.inr (.inr 13)), some (.inl x1), some (.inl x2), some (.inl a.1), some (.inl (Int32.ofNat i0)), none] [] a.2 (.inl (23, [some (.inr (.inr 13)), some (.inl x1), some (.inl x2), some (.inl (zfold (k249_23 x1 x2 ) i0 n a).1), some (.inl (Int32.ofNat (i0 + n))), none], [], (zfold (k249_23 x1 x2 ) i0 n a).2)) := by
  induction n with
  | zero => exact zt_rfl
  | succ n ih =>
    have e1 := zk_ix (i0 + n) (by omega)
    have e2 := zk_add (i0 + n)
    refine zt_trans (ih (by omega) (fun j hj => hc0 j (by omega)) (fun j hj => g0 j (by omega))) ?_
    refine zt_cast (s249_23 x1 x2 (zfold (k249_23 x1 x2 ) i0 n a).1 (Int32.ofNat (i0 + n)) (zfold (k249_23 x1 x2 ) i0 n a).2 (by have hg := g0 n (by omega); first | exact hg | (simp only [e1]; exact hg))) ?_
    rw [if_neg (show ¬ (18 ≤ (Int32.ofNat (i0 + n))) from (by have hg := hc0 n (by omega); first | exact hg | (simp only [e1]; exact hg)))]
    simp only [zfold, k249_23, e1, e2, ← Nat.add_assoc]
def K249_23 (x1 x2 x3 : Int32) (i0 : Nat) (S : zS) : Int32 × zS := zfold (k249_23 x1 x2 ) i0 (18 - i0) (x3, S)
def K249_23_c3 (x1 x2 x3 : Int32) (i0 : Nat) (S : zS) : Int32 := (K249_23 x1 x2 x3 i0 S).1
def K249_23_S (x1 x2 x3 : Int32) (i0 : Nat) (S : zS) : zS := (K249_23 x1 x2 x3 i0 S).2
set_option maxRecDepth 100000 in
theorem L249_23 {L : Nat} (x1 x2 x3 : Int32) (i0 : Nat) (S : zS) (hi : i0 ≤ 10000) : zt L 249 23 [some (.inr (.inr 13)), some (.inl x1), some (.inl x2), some (.inl x3), some (.inl (Int32.ofNat i0)), none] [] S (.inl (56, [some (.inr (.inr 13)), some (.inl x1), some (.inl x2), some (.inl (K249_23_c3 x1 x2 x3 i0 S)), some (.inl (Int32.ofNat (i0 + (18 - i0)))), none], [], (K249_23_S x1 x2 x3 i0 S))) := by
  have hend : 18 ≤ Int32.ofNat (i0 + (18 - i0)) := by exact zc_le_end (show zn 18 18 from by unfold zn; decide) (by omega)
  refine zt_trans (l249_23 x1 x2   i0 (18 - i0) (x3, S) (by omega) (fun j hj => by exact zc_le (show zn 18 18 from by unfold zn; decide) hj (by omega)) (fun j hj _ => by exact zx_of (by omega) (by omega))) ?_
  exact zt_cast (s249_23 x1 x2 (zfold (k249_23 x1 x2 ) i0 (18 - i0) (x3, S)).1 (Int32.ofNat (i0 + (18 - i0))) (zfold (k249_23 x1 x2 ) i0 (18 - i0) (x3, S)).2 (fun h9 => absurd hend h9)) (if_pos hend)
set_option maxRecDepth 100000 in
theorem w_K249_23_S_13_45 (x1 x2 x3 : Int32) (i0 : Nat) (S : zS) : K249_23_S x1 x2 x3 i0 S 13 45 = S 13 45 := zfold_keep (f := (k249_23 x1 x2 )) (fun (b : Int32 × zS) => b.2 13 45) ((fun j b => by unfold k249_23; exact (show (z_up b.2 106 j (if ((b.2 106 j) = x1) then (x2 : Int32) else (b.2 106 j))) 13 45 = b.2 13 45 from (zupci rfl)))) _ _
def F249 (a b : Int32) (S : zS) : Int32 := (if ((if ((¬ (a < 0)) ∧ (¬ (7 < a))) then ((if ((¬ (b < 0)) ∧ (¬ (7 < b))) then ((if (a = b) then (2 : Int32) else 0) : Int32) else 1) : Int32) else 1) = 0) then ((K249_23_c3 a b 0 0 (z_up S 13 0 (if ((¬ (a < 0)) ∧ (¬ (7 < a))) then ((if ((¬ (b < 0)) ∧ (¬ (7 < b))) then ((if (a = b) then (2 : Int32) else 0) : Int32) else 1) : Int32) else 1))) : Int32) else 0)
def G249 (a b : Int32) (S : zS) : zS := (if ((if ((¬ (a < 0)) ∧ (¬ (7 < a))) then ((if ((¬ (b < 0)) ∧ (¬ (7 < b))) then ((if (a = b) then (2 : Int32) else 0) : Int32) else 1) : Int32) else 1) = 0) then (K249_82_S a b (K249_23_c3 a b 0 0 (z_up S 13 0 (if ((¬ (a < 0)) ∧ (¬ (7 < a))) then ((if ((¬ (b < 0)) ∧ (¬ (7 < b))) then ((if (a = b) then (2 : Int32) else 0) : Int32) else 1) : Int32) else 1))) (none : Option zV) 0 (K249_58_S a b (K249_23_c3 a b 0 0 (z_up S 13 0 (if ((¬ (a < 0)) ∧ (¬ (7 < a))) then ((if ((¬ (b < 0)) ∧ (¬ (7 < b))) then ((if (a = b) then (2 : Int32) else 0) : Int32) else 1) : Int32) else 1))) 0 (K249_23_S a b 0 0 (z_up S 13 0 (if ((¬ (a < 0)) ∧ (¬ (7 < a))) then ((if ((¬ (b < 0)) ∧ (¬ (7 < b))) then ((if (a = b) then (2 : Int32) else 0) : Int32) else 1) : Int32) else 1))))) else (z_up S 13 0 (if ((¬ (a < 0)) ∧ (¬ (7 < a))) then ((if ((¬ (b < 0)) ∧ (¬ (7 < b))) then ((if (a = b) then (2 : Int32) else 0) : Int32) else 1) : Int32) else 1)))
set_option maxRecDepth 100000 in
theorem f249 {L : Nat} (a b : Int32) (S : zS) (g0 : zn 40 (S 13 45)) : zf L 249 [.inr (.inr 13), .inl a, .inl b] S (.inl (some (.inl (F249 a b S))), (G249 a b S), 0) := zf_of (en_249 _ _ _) (zr_2_0 i249_0 (zr_1_1 i249_1 (zr_cv (zs_22_1 i249_2 na_244 rfl) (f244 a S ) (zt_trans (zt_cast (zr_18b_0 i249_3 (fun h2375 => zr_1_2 i249_4 (zr_cv (zs_22_1 i249_5 na_244 rfl) (f244 b S ) (zt_cast (zr_18b_1 i249_6 (fun h2377 => zr_1_1 i249_9 (zr_1_2 i249_10 (zt_cast (zr_19_1 i249_11 (fun h2379 => zr_0 i249_12 kc_2 (zr_17 i249_13 (zt_rfl))) (fun h2380 => zr_0 i249_14 kc_0 (zt_rfl))) (zm_c zz_s (zl_c (zl_t zz_e) zz_s) zz_s)))) (fun h2378 => zr_0 i249_7 kc_1 (zr_17 i249_8 (zt_rfl)))) (zm_c zz_s (zl_c (zl_t zz_e) zz_s) zz_s)))) (fun h2376 => zr_0 i249_7 kc_1 (zr_17 i249_8 (zt_rfl)))) (zm_c zz_s (zl_c (zl_t zz_e) zz_s) zz_s)) (zr_cv (zs_21_1 i249_15 na_212 ob_13 rfl) (f212 (if ((¬ (a < 0)) ∧ (¬ (7 < a))) then ((if ((¬ (b < 0)) ∧ (¬ (7 < b))) then ((if (a = b) then (2 : Int32) else 0) : Int32) else 1) : Int32) else 1) S ) (zt_cast (zr_18b_1 i249_16 (fun h2381 => zr_0 i249_19 kc_0 (zr_3_3 i249_20 (zr_0 i249_21 kc_0 (zr_3_4 i249_22 (zt_trans (L249_23 a b 0 0 (z_up S 13 0 (if ((¬ (a < 0)) ∧ (¬ (7 < a))) then ((if ((¬ (b < 0)) ∧ (¬ (7 < b))) then ((if (a = b) then (2 : Int32) else 0) : Int32) else 1) : Int32) else 1)) (by decide) ) (zr_0 i249_56 kc_0 (zr_3_4 i249_57 (zt_trans (L249_58 a b (K249_23_c3 a b 0 0 (z_up S 13 0 (if ((¬ (a < 0)) ∧ (¬ (7 < a))) then ((if ((¬ (b < 0)) ∧ (¬ (7 < b))) then ((if (a = b) then (2 : Int32) else 0) : Int32) else 1) : Int32) else 1))) 0 (K249_23_S a b 0 0 (z_up S 13 0 (if ((¬ (a < 0)) ∧ (¬ (7 < a))) then ((if ((¬ (b < 0)) ∧ (¬ (7 < b))) then ((if (a = b) then (2 : Int32) else 0) : Int32) else 1) : Int32) else 1))) (by decide) (znv ((w_K249_23_S_13_45 _ _ _ _ _).trans (zupf rfl)) (g0))) (zr_0 i249_80 kc_0 (zr_3_4 i249_81 (zt_trans (L249_82 a b (K249_23_c3 a b 0 0 (z_up S 13 0 (if ((¬ (a < 0)) ∧ (¬ (7 < a))) then ((if ((¬ (b < 0)) ∧ (¬ (7 < b))) then ((if (a = b) then (2 : Int32) else 0) : Int32) else 1) : Int32) else 1))) (none : Option zV) 0 (K249_58_S a b (K249_23_c3 a b 0 0 (z_up S 13 0 (if ((¬ (a < 0)) ∧ (¬ (7 < a))) then ((if ((¬ (b < 0)) ∧ (¬ (7 < b))) then ((if (a = b) then (2 : Int32) else 0) : Int32) else 1) : Int32) else 1))) 0 (K249_23_S a b 0 0 (z_up S 13 0 (if ((¬ (a < 0)) ∧ (¬ (7 < a))) then ((if ((¬ (b < 0)) ∧ (¬ (7 < b))) then ((if (a = b) then (2 : Int32) else 0) : Int32) else 1) : Int32) else 1)))) (by decide) ) (zr_1_3 i249_126 (zr_25 i249_127))))))))))))) (fun h2382 => zr_0 i249_17 kc_0 (zr_25 i249_18))) (zm_r zz_e zz_e)))))))
