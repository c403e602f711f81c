/-! the methods with loops, and what calls them (wip/whole/gen/gen18.py) -/
theorem i236_0 : zi 236 0 1 1 1 0 := by decide +kernel
theorem i236_1 : zi 236 1 2 0 0 0 := by decide +kernel
theorem i236_2 : zi 236 2 3 0 0 5 := by decide +kernel
theorem i236_3 : zi 236 3 4 22 213 0 := by decide +kernel
theorem i236_4 : zi 236 4 5 18 22 0 := by decide +kernel
theorem i236_5 : zi 236 5 6 1 2 0 := by decide +kernel
theorem i236_6 : zi 236 6 7 0 0 (-1) := by decide +kernel
theorem i236_7 : zi 236 7 8 0 0 2 := by decide +kernel
theorem i236_8 : zi 236 8 9 22 213 0 := by decide +kernel
theorem i236_9 : zi 236 9 10 18 22 0 := by decide +kernel
theorem i236_10 : zi 236 10 11 1 3 0 := by decide +kernel
theorem i236_11 : zi 236 11 12 0 0 0 := by decide +kernel
theorem i236_12 : zi 236 12 13 1 2 0 := by decide +kernel
theorem i236_13 : zi 236 13 14 0 0 1 := by decide +kernel
theorem i236_14 : zi 236 14 15 19 17 1 := by decide +kernel
theorem i236_15 : zi 236 15 16 0 0 2 := by decide +kernel
theorem i236_16 : zi 236 16 17 17 18 0 := by decide +kernel
theorem i236_17 : zi 236 17 18 0 0 0 := by decide +kernel
theorem i236_18 : zi 236 18 19 22 213 0 := by decide +kernel
theorem i236_19 : zi 236 19 20 18 22 0 := by decide +kernel
theorem i236_20 : zi 236 20 21 0 0 1 := by decide +kernel
theorem i236_21 : zi 236 21 22 17 23 0 := by decide +kernel
theorem i236_22 : zi 236 22 23 0 0 0 := by decide +kernel
theorem i236_23 : zi 236 23 24 3 4 0 := by decide +kernel
theorem i236_24 : zi 236 24 25 2 0 0 := by decide +kernel
theorem i236_25 : zi 236 25 26 1 4 0 := by decide +kernel
theorem i236_26 : zi 236 26 27 18 29 1 := by decide +kernel
theorem i236_29 : zi 236 29 30 2 0 0 := by decide +kernel
theorem i236_30 : zi 236 30 31 6 12 19 := by decide +kernel
theorem i236_31 : zi 236 31 32 1 1 0 := by decide +kernel
theorem i236_32 : zi 236 32 33 8 0 0 := by decide +kernel
theorem i236_33 : zi 236 33 34 0 0 (-1) := by decide +kernel
theorem i236_34 : zi 236 34 35 19 37 1 := by decide +kernel
theorem i236_35 : zi 236 35 36 0 0 1 := by decide +kernel
theorem i236_36 : zi 236 36 37 17 38 0 := by decide +kernel
theorem i236_37 : zi 236 37 38 0 0 0 := by decide +kernel
theorem i236_38 : zi 236 38 39 1 2 0 := by decide +kernel
theorem i236_39 : zi 236 39 40 0 0 (-1) := by decide +kernel
theorem i236_40 : zi 236 40 41 19 43 1 := by decide +kernel
theorem i236_41 : zi 236 41 42 0 0 1 := by decide +kernel
theorem i236_42 : zi 236 42 43 17 44 0 := by decide +kernel
theorem i236_43 : zi 236 43 44 0 0 0 := by decide +kernel
theorem i236_44 : zi 236 44 45 19 47 1 := by decide +kernel
theorem i236_45 : zi 236 45 46 0 0 2 := by decide +kernel
theorem i236_46 : zi 236 46 47 17 48 0 := by decide +kernel
theorem i236_47 : zi 236 47 48 0 0 0 := by decide +kernel
theorem i236_27 : zi 236 27 28 0 0 1 := by decide +kernel
theorem i236_28 : zi 236 28 29 17 48 0 := by decide +kernel
theorem i236_48 : zi 236 48 49 21 212 12 := by decide +kernel
theorem i236_49 : zi 236 49 50 18 51 1 := by decide +kernel
theorem i236_51 : zi 236 51 52 2 0 0 := by decide +kernel
theorem i236_52 : zi 236 52 53 6 12 19 := by decide +kernel
theorem i236_53 : zi 236 53 54 1 1 0 := by decide +kernel
theorem i236_54 : zi 236 54 55 1 2 0 := by decide +kernel
theorem i236_55 : zi 236 55 56 10 0 0 := by decide +kernel
theorem i236_56 : zi 236 56 57 2 0 0 := by decide +kernel
theorem i236_57 : zi 236 57 58 6 12 20 := by decide +kernel
theorem i236_58 : zi 236 58 59 1 1 0 := by decide +kernel
theorem i236_59 : zi 236 59 60 1 3 0 := by decide +kernel
theorem i236_60 : zi 236 60 61 10 0 0 := by decide +kernel
theorem i236_61 : zi 236 61 62 1 2 0 := by decide +kernel
theorem i236_62 : zi 236 62 63 0 0 (-1) := by decide +kernel
theorem i236_63 : zi 236 63 64 19 67 1 := by decide +kernel
theorem i236_64 : zi 236 64 65 2 0 0 := by decide +kernel
theorem i236_65 : zi 236 65 66 1 1 0 := by decide +kernel
theorem i236_66 : zi 236 66 67 21 238 12 := by decide +kernel
theorem na_238 : z_na 238 = 1 := by decide +kernel
theorem i236_67 : zi 236 67 68 27 0 0 := by decide +kernel
theorem i236_50 : zi 236 50 51 27 0 0 := by decide +kernel
theorem ml_236 : z_ml 236 = 5 := by decide +kernel
theorem en_236 : ∀ (v0 v1 v2 v3 : zV), z_ent 236 [v0, v1, v2, v3] = [some v0, some v1, some v2, some v3, none] := fun v0 v1 v2 v3 => by unfold z_ent; rw [ml_236]; rfl
theorem i249_0 : zi 249 0 1 2 0 0 := by decide +kernel
theorem i249_1 : zi 249 1 2 1 1 0 := by decide +kernel
theorem i249_2 : zi 249 2 3 22 244 0 := by decide +kernel
theorem i249_3 : zi 249 3 4 18 7 0 := by decide +kernel
theorem i249_4 : zi 249 4 5 1 2 0 := by decide +kernel
theorem i249_5 : zi 249 5 6 22 244 0 := by decide +kernel
theorem i249_6 : zi 249 6 7 18 9 1 := by decide +kernel
theorem i249_9 : zi 249 9 10 1 1 0 := by decide +kernel
theorem i249_10 : zi 249 10 11 1 2 0 := by decide +kernel
theorem i249_11 : zi 249 11 12 19 14 1 := by decide +kernel
theorem i249_12 : zi 249 12 13 0 0 2 := by decide +kernel
theorem i249_13 : zi 249 13 14 17 15 0 := by decide +kernel
theorem i249_14 : zi 249 14 15 0 0 0 := by decide +kernel
theorem i249_7 : zi 249 7 8 0 0 1 := by decide +kernel
theorem i249_8 : zi 249 8 9 17 15 0 := by decide +kernel
theorem i249_15 : zi 249 15 16 21 212 12 := by decide +kernel
theorem i249_16 : zi 249 16 17 18 19 1 := by decide +kernel
theorem i249_19 : zi 249 19 20 0 0 0 := by decide +kernel
theorem i249_20 : zi 249 20 21 3 3 0 := by decide +kernel
theorem i249_21 : zi 249 21 22 0 0 0 := by decide +kernel
theorem i249_22 : zi 249 22 23 3 4 0 := by decide +kernel
theorem i249_17 : zi 249 17 18 0 0 0 := by decide +kernel
theorem i249_18 : zi 249 18 19 25 0 0 := by decide +kernel
theorem i249_23 : zi 249 23 24 1 4 0 := by decide +kernel
theorem i249_24 : zi 249 24 25 0 0 18 := by decide +kernel
theorem kc_18 : Int32.ofInt 18 = 18 := by decide +kernel
theorem i249_25 : zi 249 25 26 19 56 3 := by decide +kernel
theorem i249_26 : zi 249 26 27 1 3 0 := by decide +kernel
theorem i249_27 : zi 249 27 28 2 0 0 := by decide +kernel
theorem i249_28 : zi 249 28 29 6 12 42 := by decide +kernel
theorem i249_29 : zi 249 29 30 1 4 0 := by decide +kernel
theorem i249_30 : zi 249 30 31 8 0 0 := by decide +kernel
theorem i249_31 : zi 249 31 32 1 1 0 := by decide +kernel
theorem i249_32 : zi 249 32 33 19 35 1 := by decide +kernel
theorem i249_33 : zi 249 33 34 0 0 1 := by decide +kernel
theorem i249_34 : zi 249 34 35 17 36 0 := by decide +kernel
theorem i249_35 : zi 249 35 36 0 0 0 := by decide +kernel
theorem i249_36 : zi 249 36 37 13 0 0 := by decide +kernel
theorem i249_37 : zi 249 37 38 3 3 0 := by decide +kernel
theorem i249_38 : zi 249 38 39 2 0 0 := by decide +kernel
theorem i249_39 : zi 249 39 40 6 12 42 := by decide +kernel
theorem i249_40 : zi 249 40 41 1 4 0 := by decide +kernel
theorem i249_41 : zi 249 41 42 2 0 0 := by decide +kernel
theorem i249_42 : zi 249 42 43 6 12 42 := by decide +kernel
theorem i249_43 : zi 249 43 44 1 4 0 := by decide +kernel
theorem i249_44 : zi 249 44 45 8 0 0 := by decide +kernel
theorem i249_45 : zi 249 45 46 1 1 0 := by decide +kernel
theorem i249_46 : zi 249 46 47 19 49 1 := by decide +kernel
theorem i249_47 : zi 249 47 48 1 2 0 := by decide +kernel
theorem i249_48 : zi 249 48 49 17 53 0 := by decide +kernel
theorem i249_49 : zi 249 49 50 2 0 0 := by decide +kernel
theorem i249_50 : zi 249 50 51 6 12 42 := by decide +kernel
theorem i249_51 : zi 249 51 52 1 4 0 := by decide +kernel
theorem i249_52 : zi 249 52 53 8 0 0 := by decide +kernel
theorem i249_53 : zi 249 53 54 10 0 0 := by decide +kernel
theorem i249_54 : zi 249 54 55 5 4 1 := by decide +kernel
theorem i249_55 : zi 249 55 56 17 23 0 := by decide +kernel
theorem i249_56 : zi 249 56 57 0 0 0 := by decide +kernel
theorem i249_57 : zi 249 57 58 3 4 0 := by decide +kernel
theorem i249_58 : zi 249 58 59 1 4 0 := by decide +kernel
theorem i249_59 : zi 249 59 60 2 0 0 := by decide +kernel
theorem i249_60 : zi 249 60 61 6 12 45 := by decide +kernel
theorem i249_61 : zi 249 61 62 19 80 3 := by decide +kernel
theorem i249_62 : zi 249 62 63 2 0 0 := by decide +kernel
theorem i249_63 : zi 249 63 64 6 12 48 := by decide +kernel
theorem i249_64 : zi 249 64 65 1 4 0 := by decide +kernel
theorem i249_65 : zi 249 65 66 2 0 0 := by decide +kernel
theorem i249_66 : zi 249 66 67 6 12 48 := by decide +kernel
theorem i249_67 : zi 249 67 68 1 4 0 := by decide +kernel
theorem i249_68 : zi 249 68 69 8 0 0 := by decide +kernel
theorem i249_69 : zi 249 69 70 1 1 0 := by decide +kernel
theorem i249_70 : zi 249 70 71 19 73 1 := by decide +kernel
theorem i249_71 : zi 249 71 72 1 2 0 := by decide +kernel
theorem i249_72 : zi 249 72 73 17 77 0 := by decide +kernel
theorem i249_73 : zi 249 73 74 2 0 0 := by decide +kernel
theorem i249_74 : zi 249 74 75 6 12 48 := by decide +kernel
theorem i249_75 : zi 249 75 76 1 4 0 := by decide +kernel
theorem i249_76 : zi 249 76 77 8 0 0 := by decide +kernel
theorem i249_77 : zi 249 77 78 10 0 0 := by decide +kernel
theorem i249_78 : zi 249 78 79 5 4 1 := by decide +kernel
theorem i249_79 : zi 249 79 80 17 58 0 := by decide +kernel
theorem i249_80 : zi 249 80 81 0 0 0 := by decide +kernel
theorem i249_81 : zi 249 81 82 3 4 0 := by decide +kernel
theorem i249_82 : zi 249 82 83 1 4 0 := by decide +kernel
theorem i249_83 : zi 249 83 84 0 0 4 := by decide +kernel
theorem i249_84 : zi 249 84 85 19 126 3 := by decide +kernel
theorem i249_85 : zi 249 85 86 2 0 0 := by decide +kernel
theorem i249_86 : zi 249 86 87 6 12 43 := by decide +kernel
theorem i249_87 : zi 249 87 88 1 4 0 := by decide +kernel
theorem i249_88 : zi 249 88 89 8 0 0 := by decide +kernel
theorem i249_89 : zi 249 89 90 1 1 0 := by decide +kernel
theorem i249_90 : zi 249 90 91 13 9 0 := by decide +kernel
theorem i249_91 : zi 249 91 92 0 0 1 := by decide +kernel
theorem i249_92 : zi 249 92 93 13 5 0 := by decide +kernel
theorem i249_93 : zi 249 93 94 0 0 1 := by decide +kernel
theorem i249_94 : zi 249 94 95 19 97 1 := by decide +kernel
theorem i249_95 : zi 249 95 96 0 0 1 := by decide +kernel
theorem i249_96 : zi 249 96 97 17 98 0 := by decide +kernel
theorem i249_97 : zi 249 97 98 0 0 0 := by decide +kernel
theorem i249_98 : zi 249 98 99 3 5 0 := by decide +kernel
theorem i249_99 : zi 249 99 100 2 0 0 := by decide +kernel
theorem i249_100 : zi 249 100 101 6 12 43 := by decide +kernel
theorem i249_101 : zi 249 101 102 1 4 0 := by decide +kernel
theorem i249_102 : zi 249 102 103 1 5 0 := by decide +kernel
theorem i249_103 : zi 249 103 104 18 119 0 := by decide +kernel
theorem i249_104 : zi 249 104 105 2 0 0 := by decide +kernel
theorem i249_105 : zi 249 105 106 6 12 43 := by decide +kernel
theorem i249_106 : zi 249 106 107 1 4 0 := by decide +kernel
theorem i249_107 : zi 249 107 108 8 0 0 := by decide +kernel
theorem i249_108 : zi 249 108 109 0 0 1 := by decide +kernel
theorem i249_109 : zi 249 109 110 1 1 0 := by decide +kernel
theorem i249_110 : zi 249 110 111 13 8 0 := by decide +kernel
theorem i249_111 : zi 249 111 112 0 0 (-1) := by decide +kernel
theorem i249_112 : zi 249 112 113 13 7 0 := by decide +kernel
theorem i249_113 : zi 249 113 114 13 5 0 := by decide +kernel
theorem i249_114 : zi 249 114 115 0 0 1 := by decide +kernel
theorem i249_115 : zi 249 115 116 1 2 0 := by decide +kernel
theorem i249_116 : zi 249 116 117 13 8 0 := by decide +kernel
theorem i249_117 : zi 249 117 118 13 6 0 := by decide +kernel
theorem i249_118 : zi 249 118 119 17 123 0 := by decide +kernel
theorem i249_119 : zi 249 119 120 2 0 0 := by decide +kernel
theorem i249_120 : zi 249 120 121 6 12 43 := by decide +kernel
theorem i249_121 : zi 249 121 122 1 4 0 := by decide +kernel
theorem i249_122 : zi 249 122 123 8 0 0 := by decide +kernel
theorem i249_123 : zi 249 123 124 10 0 0 := by decide +kernel
theorem i249_124 : zi 249 124 125 5 4 1 := by decide +kernel
theorem i249_125 : zi 249 125 126 17 82 0 := by decide +kernel
theorem i249_126 : zi 249 126 127 1 3 0 := by decide +kernel
theorem i249_127 : zi 249 127 128 25 0 0 := by decide +kernel
theorem ml_249 : z_ml 249 = 6 := by decide +kernel
theorem en_249 : ∀ (v0 v1 v2 : zV), z_ent 249 [v0, v1, v2] = [some v0, some v1, some v2, none, none, none] := fun v0 v1 v2 => by unfold z_ent; rw [ml_249]; rfl
theorem i251_0 : zi 251 0 1 0 0 0 := by decide +kernel
theorem i251_1 : zi 251 1 2 3 2 0 := by decide +kernel
theorem i251_2 : zi 251 2 3 0 0 (-1) := by decide +kernel
theorem i251_3 : zi 251 3 4 3 3 0 := by decide +kernel
theorem i251_4 : zi 251 4 5 1 3 0 := by decide +kernel
theorem i251_5 : zi 251 5 6 1 2 0 := by decide +kernel
theorem i251_6 : zi 251 6 7 19 48 0 := by decide +kernel
theorem i251_7 : zi 251 7 8 1 2 0 := by decide +kernel
theorem i251_8 : zi 251 8 9 3 3 0 := by decide +kernel
theorem i251_9 : zi 251 9 10 0 0 0 := by decide +kernel
theorem i251_10 : zi 251 10 11 3 4 0 := by decide +kernel
theorem i251_48 : zi 251 48 49 1 2 0 := by decide +kernel
theorem i251_49 : zi 251 49 50 25 0 0 := by decide +kernel
theorem i251_11 : zi 251 11 12 1 4 0 := by decide +kernel
theorem i251_12 : zi 251 12 13 0 0 4 := by decide +kernel
theorem i251_13 : zi 251 13 14 19 47 3 := by decide +kernel
theorem i251_14 : zi 251 14 15 2 0 0 := by decide +kernel
theorem i251_15 : zi 251 15 16 6 12 43 := by decide +kernel
theorem i251_16 : zi 251 16 17 1 4 0 := by decide +kernel
theorem i251_17 : zi 251 17 18 8 0 0 := by decide +kernel
theorem i251_18 : zi 251 18 19 1 1 0 := by decide +kernel
theorem i251_19 : zi 251 19 20 13 9 0 := by decide +kernel
theorem i251_20 : zi 251 20 21 0 0 1 := by decide +kernel
theorem i251_21 : zi 251 21 22 13 5 0 := by decide +kernel
theorem i251_22 : zi 251 22 23 0 0 1 := by decide +kernel
theorem i251_23 : zi 251 23 24 19 31 0 := by decide +kernel
theorem i251_31 : zi 251 31 32 0 0 1 := by decide +kernel
theorem i251_32 : zi 251 32 33 17 34 0 := by decide +kernel
theorem i251_24 : zi 251 24 25 2 0 0 := by decide +kernel
theorem i251_25 : zi 251 25 26 6 12 44 := by decide +kernel
theorem i251_26 : zi 251 26 27 1 4 0 := by decide +kernel
theorem i251_27 : zi 251 27 28 8 0 0 := by decide +kernel
theorem i251_28 : zi 251 28 29 1 3 0 := by decide +kernel
theorem i251_29 : zi 251 29 30 13 5 0 := by decide +kernel
theorem i251_30 : zi 251 30 31 18 33 0 := by decide +kernel
theorem i251_33 : zi 251 33 34 0 0 0 := by decide +kernel
theorem i251_34 : zi 251 34 35 3 5 0 := by decide +kernel
theorem i251_35 : zi 251 35 36 1 2 0 := by decide +kernel
theorem i251_36 : zi 251 36 37 1 5 0 := by decide +kernel
theorem i251_37 : zi 251 37 38 18 42 0 := by decide +kernel
theorem i251_38 : zi 251 38 39 0 0 1 := by decide +kernel
theorem i251_39 : zi 251 39 40 1 4 0 := by decide +kernel
theorem i251_40 : zi 251 40 41 13 8 0 := by decide +kernel
theorem i251_41 : zi 251 41 42 17 43 0 := by decide +kernel
theorem i251_42 : zi 251 42 43 0 0 0 := by decide +kernel
theorem i251_43 : zi 251 43 44 13 6 0 := by decide +kernel
theorem i251_44 : zi 251 44 45 3 2 0 := by decide +kernel
theorem i251_45 : zi 251 45 46 5 4 1 := by decide +kernel
theorem i251_46 : zi 251 46 47 17 11 0 := by decide +kernel
theorem i251_47 : zi 251 47 48 17 4 0 := by decide +kernel
theorem ml_251 : z_ml 251 = 6 := by decide +kernel
theorem en_251 : ∀ (v0 v1 : zV), z_ent 251 [v0, v1] = [some v0, some v1, none, none, none, none] := fun v0 v1 => by unfold z_ent; rw [ml_251]; rfl
theorem zn_15_0 : zn 15 0 := by unfold zn; decide
theorem i252_0 : zi 252 0 1 2 0 0 := by decide +kernel
theorem i252_1 : zi 252 1 2 6 12 49 := by decide +kernel
theorem i252_2 : zi 252 2 3 1 1 0 := by decide +kernel
theorem i252_3 : zi 252 3 4 8 0 0 := by decide +kernel
theorem i252_4 : zi 252 4 5 3 2 0 := by decide +kernel
theorem i252_5 : zi 252 5 6 2 0 0 := by decide +kernel
theorem i252_6 : zi 252 6 7 6 12 48 := by decide +kernel
theorem i252_7 : zi 252 7 8 1 1 0 := by decide +kernel
theorem i252_8 : zi 252 8 9 8 0 0 := by decide +kernel
theorem i252_9 : zi 252 9 10 3 3 0 := by decide +kernel
theorem i252_10 : zi 252 10 11 1 3 0 := by decide +kernel
theorem i252_11 : zi 252 11 12 0 0 (-1) := by decide +kernel
theorem i252_12 : zi 252 12 13 19 47 0 := by decide +kernel
theorem i252_13 : zi 252 13 14 2 0 0 := by decide +kernel
theorem i252_14 : zi 252 14 15 1 3 0 := by decide +kernel
theorem i252_15 : zi 252 15 16 21 251 12 := by decide +kernel
theorem na_251 : z_na 251 = 1 := by decide +kernel
theorem i252_16 : zi 252 16 17 3 4 0 := by decide +kernel
theorem i252_17 : zi 252 17 18 1 2 0 := by decide +kernel
theorem i252_18 : zi 252 18 19 2 0 0 := by decide +kernel
theorem i252_19 : zi 252 19 20 6 12 40 := by decide +kernel
theorem i252_20 : zi 252 20 21 1 3 0 := by decide +kernel
theorem i252_21 : zi 252 21 22 8 0 0 := by decide +kernel
theorem i252_22 : zi 252 22 23 13 6 0 := by decide +kernel
theorem i252_23 : zi 252 23 24 3 2 0 := by decide +kernel
theorem i252_24 : zi 252 24 25 0 0 0 := by decide +kernel
theorem i252_25 : zi 252 25 26 3 5 0 := by decide +kernel
theorem i252_47 : zi 252 47 48 1 2 0 := by decide +kernel
theorem i252_48 : zi 252 48 49 25 0 0 := by decide +kernel
theorem i252_26 : zi 252 26 27 1 5 0 := by decide +kernel
theorem i252_27 : zi 252 27 28 0 0 4 := by decide +kernel
theorem i252_28 : zi 252 28 29 19 47 3 := by decide +kernel
theorem i252_29 : zi 252 29 30 1 2 0 := by decide +kernel
theorem i252_30 : zi 252 30 31 1 4 0 := by decide +kernel
theorem i252_31 : zi 252 31 32 1 5 0 := by decide +kernel
theorem i252_32 : zi 252 32 33 13 9 0 := by decide +kernel
theorem i252_33 : zi 252 33 34 0 0 1 := by decide +kernel
theorem i252_34 : zi 252 34 35 13 5 0 := by decide +kernel
theorem i252_35 : zi 252 35 36 0 0 1 := by decide +kernel
theorem i252_36 : zi 252 36 37 19 42 1 := by decide +kernel
theorem i252_37 : zi 252 37 38 2 0 0 := by decide +kernel
theorem i252_38 : zi 252 38 39 6 12 41 := by decide +kernel
theorem i252_39 : zi 252 39 40 1 5 0 := by decide +kernel
theorem i252_40 : zi 252 40 41 8 0 0 := by decide +kernel
theorem i252_41 : zi 252 41 42 17 43 0 := by decide +kernel
theorem i252_42 : zi 252 42 43 0 0 0 := by decide +kernel
theorem i252_43 : zi 252 43 44 13 6 0 := by decide +kernel
theorem i252_44 : zi 252 44 45 3 2 0 := by decide +kernel
theorem i252_45 : zi 252 45 46 5 5 1 := by decide +kernel
theorem i252_46 : zi 252 46 47 17 26 0 := by decide +kernel
theorem ml_252 : z_ml 252 = 6 := by decide +kernel
theorem en_252 : ∀ (v0 v1 : zV), z_ent 252 [v0, v1] = [some v0, some v1, none, none, none, none] := fun v0 v1 => by unfold z_ent; rw [ml_252]; rfl
theorem i255_0 : zi 255 0 1 0 0 1 := by decide +kernel
theorem i255_1 : zi 255 1 2 3 4 0 := by decide +kernel
theorem i255_2 : zi 255 2 3 0 0 0 := by decide +kernel
theorem i255_3 : zi 255 3 4 3 5 0 := by decide +kernel
theorem i255_4 : zi 255 4 5 0 0 0 := by decide +kernel
theorem i255_5 : zi 255 5 6 3 6 0 := by decide +kernel
theorem i255_6 : zi 255 6 7 1 6 0 := by decide +kernel
theorem i255_7 : zi 255 7 8 0 0 3 := by decide +kernel
theorem i255_8 : zi 255 8 9 19 65 3 := by decide +kernel
theorem i255_9 : zi 255 9 10 2 0 0 := by decide +kernel
theorem i255_10 : zi 255 10 11 6 12 38 := by decide +kernel
theorem i255_11 : zi 255 11 12 0 0 5 := by decide +kernel
theorem i255_12 : zi 255 12 13 1 1 0 := by decide +kernel
theorem i255_13 : zi 255 13 14 13 2 0 := by decide +kernel
theorem i255_14 : zi 255 14 15 1 6 0 := by decide +kernel
theorem i255_15 : zi 255 15 16 13 0 0 := by decide +kernel
theorem i255_16 : zi 255 16 17 8 0 0 := by decide +kernel
theorem i255_17 : zi 255 17 18 3 7 0 := by decide +kernel
theorem i255_18 : zi 255 18 19 1 5 0 := by decide +kernel
theorem i255_19 : zi 255 19 20 18 23 1 := by decide +kernel
theorem i255_20 : zi 255 20 21 1 7 0 := by decide +kernel
theorem i255_21 : zi 255 21 22 0 0 8 := by decide +kernel
theorem i255_22 : zi 255 22 23 19 25 1 := by decide +kernel
theorem i255_23 : zi 255 23 24 0 0 1 := by decide +kernel
theorem i255_24 : zi 255 24 25 17 26 0 := by decide +kernel
theorem i255_25 : zi 255 25 26 0 0 0 := by decide +kernel
theorem i255_26 : zi 255 26 27 3 5 0 := by decide +kernel
theorem i255_27 : zi 255 27 28 1 7 0 := by decide +kernel
theorem i255_28 : zi 255 28 29 0 0 6 := by decide +kernel
theorem i255_29 : zi 255 29 30 19 49 0 := by decide +kernel
theorem i255_49 : zi 255 49 50 0 0 1 := by decide +kernel
theorem i255_50 : zi 255 50 51 17 52 0 := by decide +kernel
theorem i255_30 : zi 255 30 31 1 7 0 := by decide +kernel
theorem i255_31 : zi 255 31 32 0 0 7 := by decide +kernel
theorem i255_32 : zi 255 32 33 19 44 1 := by decide +kernel
theorem i255_33 : zi 255 33 34 1 3 0 := by decide +kernel
theorem i255_34 : zi 255 34 35 0 0 (-1) := by decide +kernel
theorem i255_35 : zi 255 35 36 19 51 0 := by decide +kernel
theorem i255_51 : zi 255 51 52 0 0 0 := by decide +kernel
theorem i255_36 : zi 255 36 37 1 3 0 := by decide +kernel
theorem i255_37 : zi 255 37 38 0 0 6 := by decide +kernel
theorem i255_38 : zi 255 38 39 13 4 0 := by decide +kernel
theorem i255_39 : zi 255 39 40 1 2 0 := by decide +kernel
theorem i255_40 : zi 255 40 41 1 6 0 := by decide +kernel
theorem i255_41 : zi 255 41 42 22 253 0 := by decide +kernel
theorem i255_42 : zi 255 42 43 19 51 1 := by decide +kernel
theorem i255_43 : zi 255 43 44 17 49 0 := by decide +kernel
theorem i255_44 : zi 255 44 45 1 7 0 := by decide +kernel
theorem i255_45 : zi 255 45 46 1 2 0 := by decide +kernel
theorem i255_46 : zi 255 46 47 1 6 0 := by decide +kernel
theorem i255_47 : zi 255 47 48 22 253 0 := by decide +kernel
theorem i255_48 : zi 255 48 49 19 51 1 := by decide +kernel
theorem i255_52 : zi 255 52 53 3 8 0 := by decide +kernel
theorem i255_53 : zi 255 53 54 1 4 0 := by decide +kernel
theorem i255_54 : zi 255 54 55 18 61 0 := by decide +kernel
theorem i255_55 : zi 255 55 56 1 5 0 := by decide +kernel
theorem i255_56 : zi 255 56 57 18 59 1 := by decide +kernel
theorem i255_59 : zi 255 59 60 0 0 1 := by decide +kernel
theorem i255_60 : zi 255 60 61 17 62 0 := by decide +kernel
theorem i255_57 : zi 255 57 58 1 8 0 := by decide +kernel
theorem i255_58 : zi 255 58 59 18 61 0 := by decide +kernel
theorem i255_61 : zi 255 61 62 0 0 0 := by decide +kernel
theorem i255_62 : zi 255 62 63 3 4 0 := by decide +kernel
theorem i255_63 : zi 255 63 64 5 6 1 := by decide +kernel
theorem i255_64 : zi 255 64 65 17 6 0 := by decide +kernel
theorem i255_65 : zi 255 65 66 1 4 0 := by decide +kernel
theorem i255_66 : zi 255 66 67 26 0 0 := by decide +kernel
theorem ml_255 : z_ml 255 = 9 := by decide +kernel
theorem en_255 : ∀ (v0 v1 v2 v3 : zV), z_ent 255 [v0, v1, v2, v3] = [some v0, some v1, some v2, some v3, none, none, none, none, none] := fun v0 v1 v2 v3 => by unfold z_ent; rw [ml_255]; rfl
theorem i256_0 : zi 256 0 1 0 0 0 := by decide +kernel
theorem i256_1 : zi 256 1 2 3 3 0 := by decide +kernel
theorem i256_2 : zi 256 2 3 1 3 0 := by decide +kernel
theorem i256_3 : zi 256 3 4 0 0 3 := by decide +kernel
theorem i256_4 : zi 256 4 5 19 32 3 := by decide +kernel
theorem i256_5 : zi 256 5 6 2 0 0 := by decide +kernel
theorem i256_6 : zi 256 6 7 1 1 0 := by decide +kernel
theorem i256_7 : zi 256 7 8 1 3 0 := by decide +kernel
theorem i256_8 : zi 256 8 9 21 254 12 := by decide +kernel
theorem na_254 : z_na 254 = 2 := by decide +kernel
theorem i256_9 : zi 256 9 10 2 0 0 := by decide +kernel
theorem i256_10 : zi 256 10 11 1 2 0 := by decide +kernel
theorem i256_11 : zi 256 11 12 1 3 0 := by decide +kernel
theorem i256_12 : zi 256 12 13 21 254 12 := by decide +kernel
theorem i256_13 : zi 256 13 14 13 1 0 := by decide +kernel
theorem i256_14 : zi 256 14 15 3 4 0 := by decide +kernel
theorem i256_15 : zi 256 15 16 1 4 0 := by decide +kernel
theorem i256_16 : zi 256 16 17 18 23 0 := by decide +kernel
theorem i256_23 : zi 256 23 24 2 0 0 := by decide +kernel
theorem i256_24 : zi 256 24 25 1 1 0 := by decide +kernel
theorem i256_25 : zi 256 25 26 1 3 0 := by decide +kernel
theorem i256_26 : zi 256 26 27 21 254 12 := by decide +kernel
theorem i256_27 : zi 256 27 28 18 30 1 := by decide +kernel
theorem i256_28 : zi 256 28 29 0 0 0 := by decide +kernel
theorem i256_29 : zi 256 29 30 25 0 0 := by decide +kernel
theorem i256_30 : zi 256 30 31 5 3 1 := by decide +kernel
theorem i256_31 : zi 256 31 32 17 2 0 := by decide +kernel
theorem i256_32 : zi 256 32 33 0 0 0 := by decide +kernel
theorem i256_33 : zi 256 33 34 25 0 0 := by decide +kernel
theorem i256_17 : zi 256 17 18 1 4 0 := by decide +kernel
theorem i256_18 : zi 256 18 19 18 21 5 := by decide +kernel
theorem i256_21 : zi 256 21 22 0 0 (-1) := by decide +kernel
theorem i256_19 : zi 256 19 20 0 0 1 := by decide +kernel
theorem i256_20 : zi 256 20 21 17 22 0 := by decide +kernel
theorem i256_22 : zi 256 22 23 25 0 0 := by decide +kernel
theorem ml_256 : z_ml 256 = 5 := by decide +kernel
theorem en_256 : ∀ (v0 v1 v2 : zV), z_ent 256 [v0, v1, v2] = [some v0, some v1, some v2, none, none] := fun v0 v1 v2 => by unfold z_ent; rw [ml_256]; rfl
theorem i257_0 : zi 257 0 1 2 0 0 := by decide +kernel
theorem i257_1 : zi 257 1 2 1 1 0 := by decide +kernel
theorem i257_2 : zi 257 2 3 21 252 12 := by decide +kernel
theorem na_252 : z_na 252 = 1 := by decide +kernel
theorem i257_3 : zi 257 3 4 3 3 0 := by decide +kernel
theorem i257_4 : zi 257 4 5 0 0 (-1) := by decide +kernel
theorem i257_5 : zi 257 5 6 3 4 0 := by decide +kernel
theorem i257_6 : zi 257 6 7 0 0 0 := by decide +kernel
theorem i257_7 : zi 257 7 8 3 5 0 := by decide +kernel
theorem i257_8 : zi 257 8 9 0 0 0 := by decide +kernel
theorem i257_9 : zi 257 9 10 3 6 0 := by decide +kernel
theorem i257_10 : zi 257 10 11 0 0 0 := by decide +kernel
theorem i257_11 : zi 257 11 12 3 7 0 := by decide +kernel
theorem i257_12 : zi 257 12 13 0 0 0 := by decide +kernel
theorem i257_13 : zi 257 13 14 3 8 0 := by decide +kernel
theorem i257_14 : zi 257 14 15 1 8 0 := by decide +kernel
theorem i257_15 : zi 257 15 16 0 0 40 := by decide +kernel
theorem i257_16 : zi 257 16 17 19 125 3 := by decide +kernel
theorem i257_17 : zi 257 17 18 1 3 0 := by decide +kernel
theorem i257_18 : zi 257 18 19 1 8 0 := by decide +kernel
theorem i257_19 : zi 257 19 20 0 0 5 := by decide +kernel
theorem i257_20 : zi 257 20 21 13 3 0 := by decide +kernel
theorem i257_21 : zi 257 21 22 13 9 0 := by decide +kernel
theorem i257_22 : zi 257 22 23 0 0 1 := by decide +kernel
theorem i257_23 : zi 257 23 24 13 5 0 := by decide +kernel
theorem i257_24 : zi 257 24 25 0 0 1 := by decide +kernel
theorem i257_25 : zi 257 25 26 19 47 1 := by decide +kernel
theorem i257_26 : zi 257 26 27 1 8 0 := by decide +kernel
theorem i257_27 : zi 257 27 28 0 0 5 := by decide +kernel
theorem i257_28 : zi 257 28 29 13 4 0 := by decide +kernel
theorem i257_29 : zi 257 29 30 2 0 0 := by decide +kernel
theorem i257_30 : zi 257 30 31 6 12 37 := by decide +kernel
theorem i257_31 : zi 257 31 32 1 8 0 := by decide +kernel
theorem i257_32 : zi 257 32 33 0 0 5 := by decide +kernel
theorem i257_33 : zi 257 33 34 13 3 0 := by decide +kernel
theorem i257_34 : zi 257 34 35 8 0 0 := by decide +kernel
theorem i257_35 : zi 257 35 36 19 47 3 := by decide +kernel
theorem i257_47 : zi 257 47 48 0 0 0 := by decide +kernel
theorem i257_36 : zi 257 36 37 2 0 0 := by decide +kernel
theorem i257_37 : zi 257 37 38 1 8 0 := by decide +kernel
theorem i257_38 : zi 257 38 39 1 2 0 := by decide +kernel
theorem i257_39 : zi 257 39 40 2 0 0 := by decide +kernel
theorem i257_40 : zi 257 40 41 6 12 48 := by decide +kernel
theorem i257_41 : zi 257 41 42 1 1 0 := by decide +kernel
theorem i257_42 : zi 257 42 43 8 0 0 := by decide +kernel
theorem i257_43 : zi 257 43 44 21 255 12 := by decide +kernel
theorem na_255 : z_na 255 = 3 := by decide +kernel
theorem i257_44 : zi 257 44 45 18 47 0 := by decide +kernel
theorem i257_45 : zi 257 45 46 0 0 1 := by decide +kernel
theorem i257_46 : zi 257 46 47 17 48 0 := by decide +kernel
theorem i257_48 : zi 257 48 49 3 9 0 := by decide +kernel
theorem i257_49 : zi 257 49 50 1 9 0 := by decide +kernel
theorem i257_50 : zi 257 50 51 18 53 1 := by decide +kernel
theorem i257_53 : zi 257 53 54 1 4 0 := by decide +kernel
theorem i257_54 : zi 257 54 55 0 0 (-1) := by decide +kernel
theorem i257_55 : zi 257 55 56 19 58 1 := by decide +kernel
theorem i257_56 : zi 257 56 57 0 0 1 := by decide +kernel
theorem i257_57 : zi 257 57 58 17 62 0 := by decide +kernel
theorem i257_58 : zi 257 58 59 2 0 0 := by decide +kernel
theorem i257_59 : zi 257 59 60 1 8 0 := by decide +kernel
theorem i257_60 : zi 257 60 61 1 4 0 := by decide +kernel
theorem i257_61 : zi 257 61 62 21 256 12 := by decide +kernel
theorem na_256 : z_na 256 = 2 := by decide +kernel
theorem i257_51 : zi 257 51 52 0 0 (-1) := by decide +kernel
theorem i257_52 : zi 257 52 53 17 62 0 := by decide +kernel
theorem i257_62 : zi 257 62 63 3 10 0 := by decide +kernel
theorem i257_63 : zi 257 63 64 1 10 0 := by decide +kernel
theorem i257_64 : zi 257 64 65 0 0 1 := by decide +kernel
theorem i257_65 : zi 257 65 66 19 74 1 := by decide +kernel
theorem i257_66 : zi 257 66 67 1 8 0 := by decide +kernel
theorem i257_67 : zi 257 67 68 3 4 0 := by decide +kernel
theorem i257_68 : zi 257 68 69 0 0 0 := by decide +kernel
theorem i257_69 : zi 257 69 70 3 5 0 := by decide +kernel
theorem i257_70 : zi 257 70 71 0 0 0 := by decide +kernel
theorem i257_71 : zi 257 71 72 3 6 0 := by decide +kernel
theorem i257_72 : zi 257 72 73 0 0 0 := by decide +kernel
theorem i257_73 : zi 257 73 74 3 7 0 := by decide +kernel
theorem i257_74 : zi 257 74 75 1 10 0 := by decide +kernel
theorem i257_75 : zi 257 75 76 18 123 2 := by decide +kernel
theorem i257_76 : zi 257 76 77 1 5 0 := by decide +kernel
theorem i257_77 : zi 257 77 78 2 0 0 := by decide +kernel
theorem i257_78 : zi 257 78 79 6 12 38 := by decide +kernel
theorem i257_79 : zi 257 79 80 0 0 5 := by decide +kernel
theorem i257_80 : zi 257 80 81 1 8 0 := by decide +kernel
theorem i257_81 : zi 257 81 82 13 2 0 := by decide +kernel
theorem i257_82 : zi 257 82 83 0 0 3 := by decide +kernel
theorem i257_83 : zi 257 83 84 13 0 0 := by decide +kernel
theorem i257_84 : zi 257 84 85 8 0 0 := by decide +kernel
theorem i257_85 : zi 257 85 86 13 6 0 := by decide +kernel
theorem i257_86 : zi 257 86 87 3 5 0 := by decide +kernel
theorem i257_87 : zi 257 87 88 2 0 0 := by decide +kernel
theorem i257_88 : zi 257 88 89 6 12 38 := by decide +kernel
theorem i257_89 : zi 257 89 90 0 0 5 := by decide +kernel
theorem i257_90 : zi 257 90 91 1 8 0 := by decide +kernel
theorem i257_91 : zi 257 91 92 13 2 0 := by decide +kernel
theorem i257_92 : zi 257 92 93 0 0 4 := by decide +kernel
theorem i257_93 : zi 257 93 94 13 0 0 := by decide +kernel
theorem i257_94 : zi 257 94 95 8 0 0 := by decide +kernel
theorem i257_95 : zi 257 95 96 1 6 0 := by decide +kernel
theorem i257_96 : zi 257 96 97 19 106 5 := by decide +kernel
theorem i257_106 : zi 257 106 107 1 6 0 := by decide +kernel
theorem i257_97 : zi 257 97 98 2 0 0 := by decide +kernel
theorem i257_98 : zi 257 98 99 6 12 38 := by decide +kernel
theorem i257_99 : zi 257 99 100 0 0 5 := by decide +kernel
theorem i257_100 : zi 257 100 101 1 8 0 := by decide +kernel
theorem i257_101 : zi 257 101 102 13 2 0 := by decide +kernel
theorem i257_102 : zi 257 102 103 0 0 4 := by decide +kernel
theorem i257_103 : zi 257 103 104 13 0 0 := by decide +kernel
theorem i257_104 : zi 257 104 105 8 0 0 := by decide +kernel
theorem i257_105 : zi 257 105 106 17 107 0 := by decide +kernel
theorem i257_107 : zi 257 107 108 3 6 0 := by decide +kernel
theorem i257_108 : zi 257 108 109 1 7 0 := by decide +kernel
theorem i257_109 : zi 257 109 110 18 119 1 := by decide +kernel
theorem i257_110 : zi 257 110 111 2 0 0 := by decide +kernel
theorem i257_111 : zi 257 111 112 6 12 38 := by decide +kernel
theorem i257_112 : zi 257 112 113 0 0 5 := by decide +kernel
theorem i257_113 : zi 257 113 114 1 8 0 := by decide +kernel
theorem i257_114 : zi 257 114 115 13 2 0 := by decide +kernel
theorem i257_115 : zi 257 115 116 0 0 3 := by decide +kernel
theorem i257_116 : zi 257 116 117 13 0 0 := by decide +kernel
theorem i257_117 : zi 257 117 118 8 0 0 := by decide +kernel
theorem i257_118 : zi 257 118 119 18 121 1 := by decide +kernel
theorem i257_119 : zi 257 119 120 0 0 1 := by decide +kernel
theorem i257_120 : zi 257 120 121 17 122 0 := by decide +kernel
theorem i257_121 : zi 257 121 122 0 0 0 := by decide +kernel
theorem i257_122 : zi 257 122 123 3 7 0 := by decide +kernel
theorem i257_123 : zi 257 123 124 5 8 1 := by decide +kernel
theorem i257_124 : zi 257 124 125 17 14 0 := by decide +kernel
theorem i257_125 : zi 257 125 126 1 7 0 := by decide +kernel
theorem i257_126 : zi 257 126 127 18 129 1 := by decide +kernel
theorem i257_127 : zi 257 127 128 1 5 0 := by decide +kernel
theorem i257_128 : zi 257 128 129 18 131 1 := by decide +kernel
theorem i257_129 : zi 257 129 130 0 0 0 := by decide +kernel
theorem i257_130 : zi 257 130 131 17 136 0 := by decide +kernel
theorem i257_131 : zi 257 131 132 1 5 0 := by decide +kernel
theorem i257_132 : zi 257 132 133 0 0 16 := by decide +kernel
theorem i257_133 : zi 257 133 134 1 6 0 := by decide +kernel
theorem i257_134 : zi 257 134 135 13 2 0 := by decide +kernel
theorem i257_135 : zi 257 135 136 13 0 0 := by decide +kernel
theorem i257_136 : zi 257 136 137 25 0 0 := by decide +kernel
theorem ml_257 : z_ml 257 = 11 := by decide +kernel
theorem en_257 : ∀ (v0 v1 v2 : zV), z_ent 257 [v0, v1, v2] = [some v0, some v1, some v2, none, none, none, none, none, none, none, none] := fun v0 v1 v2 => by unfold z_ent; rw [ml_257]; rfl
theorem zbest_m1 : zbest (-1) := Or.inl rfl
def G236 (a b c : Int32) (S : zS) : zS := (if ((if (((¬ (a < 0)) ∧ (¬ (5 < a))) ∧ (((¬ (b < (-1))) ∧ (¬ (2 < b))) ∧ ((¬ (c < 0)) ∧ (¬ ((if (b = 1) then (2 : Int32) else 0) < c))))) then ((if ((zb ((S 84 a.toNatClampNeg) = (-1))) = (zb (b = (-1)))) then (2 : Int32) else 0) : Int32) else 1) = 0) then (if (b = (-1)) then (G238 a (z_up (z_up (z_up S 13 0 (if (((¬ (a < 0)) ∧ (¬ (5 < a))) ∧ (((¬ (b < (-1))) ∧ (¬ (2 < b))) ∧ ((¬ (c < 0)) ∧ (¬ ((if (b = 1) then (2 : Int32) else 0) < c))))) then ((if ((zb ((S 84 a.toNatClampNeg) = (-1))) = (zb (b = (-1)))) then (2 : Int32) else 0) : Int32) else 1)) 84 a.toNatClampNeg b) 85 a.toNatClampNeg c)) else (z_up (z_up (z_up S 13 0 (if (((¬ (a < 0)) ∧ (¬ (5 < a))) ∧ (((¬ (b < (-1))) ∧ (¬ (2 < b))) ∧ ((¬ (c < 0)) ∧ (¬ ((if (b = 1) then (2 : Int32) else 0) < c))))) then ((if ((zb ((S 84 a.toNatClampNeg) = (-1))) = (zb (b = (-1)))) then (2 : Int32) else 0) : Int32) else 1)) 84 a.toNatClampNeg b) 85 a.toNatClampNeg c)) else (z_up S 13 0 (if (((¬ (a < 0)) ∧ (¬ (5 < a))) ∧ (((¬ (b < (-1))) ∧ (¬ (2 < b))) ∧ ((¬ (c < 0)) ∧ (¬ ((if (b = 1) then (2 : Int32) else 0) < c))))) then ((if ((zb ((S 84 a.toNatClampNeg) = (-1))) = (zb (b = (-1)))) then (2 : Int32) else 0) : Int32) else 1)))
set_option maxRecDepth 100000 in
theorem f236 {L : Nat} (a b c : Int32) (S : zS) (g0 : (((¬ (a < 0)) ∧ (¬ (5 < a))) ∧ (((¬ (b < (-1))) ∧ (¬ (2 < b))) ∧ ((¬ (c < 0)) ∧ (¬ ((if (b = 1) then (2 : Int32) else 0) < c))))) → zx 6 a) (g1 : ((if (((¬ (a < 0)) ∧ (¬ (5 < a))) ∧ (((¬ (b < (-1))) ∧ (¬ (2 < b))) ∧ ((¬ (c < 0)) ∧ (¬ ((if (b = 1) then (2 : Int32) else 0) < c))))) then ((if ((zb ((S 84 a.toNatClampNeg) = (-1))) = (zb (b = (-1)))) then (2 : Int32) else 0) : Int32) else 1) = 0) → zx 6 a) (g2 : ((if (((¬ (a < 0)) ∧ (¬ (5 < a))) ∧ (((¬ (b < (-1))) ∧ (¬ (2 < b))) ∧ ((¬ (c < 0)) ∧ (¬ ((if (b = 1) then (2 : Int32) else 0) < c))))) then ((if ((zb ((S 84 a.toNatClampNeg) = (-1))) = (zb (b = (-1)))) then (2 : Int32) else 0) : Int32) else 1) = 0) → (b = (-1)) → zn 216 ((36 * a) + 36)) (g3 : ((if (((¬ (a < 0)) ∧ (¬ (5 < a))) ∧ (((¬ (b < (-1))) ∧ (¬ (2 < b))) ∧ ((¬ (c < 0)) ∧ (¬ ((if (b = 1) then (2 : Int32) else 0) < c))))) then ((if ((zb ((S 84 a.toNatClampNeg) = (-1))) = (zb (b = (-1)))) then (2 : Int32) else 0) : Int32) else 1) = 0) → (b = (-1)) → zn 10000 (36 * a)) (g4 : zn 2048 (S 13 36)) (g5 : zn 40 (S 13 57)) (g6 : zA 40 3 (S 122)) (g7 : zn 20 (S 13 72)) : zf L 236 [.inr (.inr 13), .inl a, .inl b, .inl c] S (.inl none, (G236 a b c S), 0) := zf_of (en_236 _ _ _ _) (zr_1_1 i236_0 (zr_0 i236_1 kc_0 (zr_0 i236_2 kc_5 (zr_cv (zs_22_3 i236_3 na_213 rfl) (f213 a 0 5 S ) (zt_trans (zt_cast (zr_18b_0 i236_4 (fun h2285 => zr_1_2 i236_5 (zr_0 i236_6 kc_m1 (zr_0 i236_7 kc_2 (zr_cv (zs_22_3 i236_8 na_213 rfl) (f213 b (-1) 2 S ) (zt_cast (zr_18b_0 i236_9 (fun h2287 => zr_1_3 i236_10 (zr_0 i236_11 kc_0 (zr_1_2 i236_12 (zr_0 i236_13 kc_1 (zt_trans (zt_cast (zr_19_1 i236_14 (fun h2289 => zr_0 i236_15 kc_2 (zr_17 i236_16 (zt_rfl))) (fun h2290 => zr_0 i236_17 kc_0 (zt_rfl))) (zm_c zz_s (zl_c (zl_t zz_e) zz_s) zz_s)) (zr_cv (zs_22_3 i236_18 na_213 rfl) (f213 c 0 (if (b = 1) then (2 : Int32) else 0) S ) (zt_cast (zr_18b_0 i236_19 (fun h2291 => zr_0 i236_20 kc_1 (zr_17 i236_21 (zt_rfl))) (fun h2292 => zr_0 i236_22 kc_0 (zt_rfl))) (zm_c zz_s (zl_c (zl_t zz_10) zz_s) zz_s)))))))) (fun h2288 => zr_0 i236_22 kc_0 (zt_rfl))) (zm_c zz_s (zl_c (zl_t zz_b0) zz_s) zz_s)))))) (fun h2286 => zr_0 i236_22 kc_0 (zt_rfl))) (zm_c zz_s (zl_c (zl_t zz_b0) zz_s) zz_s)) (zr_3_4 i236_23 (zr_2_0 i236_24 (zr_1_4 i236_25 (zt_trans (zt_cast (zr_18b_1 i236_26 (fun h2293 => zr_2_0 i236_29 (zr_6r i236_30 fl_13_19 (zr_1_1 i236_31 (zr_8 i236_32 ar_84 (g0 h2293) rfl rfl (zr_0 i236_33 kc_m1 (zt_trans (zt_cast (zr_19_1 i236_34 (fun h2295 => zr_0 i236_35 kc_1 (zr_17 i236_36 (zt_rfl))) (fun h2296 => zr_0 i236_37 kc_0 (zt_rfl))) (zm_c zz_s (zl_c (zl_t zz_10) zz_s) zz_s)) (zr_1_2 i236_38 (zr_0 i236_39 kc_m1 (zt_trans (zt_cast (zr_19_1 i236_40 (fun h2297 => zr_0 i236_41 kc_1 (zr_17 i236_42 (zt_rfl))) (fun h2298 => zr_0 i236_43 kc_0 (zt_rfl))) (zm_c zz_s (zl_c (zl_t zz_10) zz_s) zz_s)) (zt_cast (zr_19_1 i236_44 (fun h2299 => zr_0 i236_45 kc_2 (zr_17 i236_46 (zt_rfl))) (fun h2300 => zr_0 i236_47 kc_0 (zt_rfl))) (zm_c zz_s (zl_c (zl_t zz_e) zz_s) zz_s))))))))))) (fun h2294 => zr_0 i236_27 kc_1 (zr_17 i236_28 (zt_rfl)))) (zm_c zz_s (zl_c (zl_t zz_e) zz_s) zz_s)) (zr_cv (zs_21_1 i236_48 na_212 ob_13 rfl) (f212 (if (((¬ (a < 0)) ∧ (¬ (5 < a))) ∧ (((¬ (b < (-1))) ∧ (¬ (2 < b))) ∧ ((¬ (c < 0)) ∧ (¬ ((if (b = 1) then (2 : Int32) else 0) < c))))) then ((if ((zb ((S 84 a.toNatClampNeg) = (-1))) = (zb (b = (-1)))) then (2 : Int32) else 0) : Int32) else 1) S ) (zt_cast (zr_18b_1 i236_49 (fun h2301 => zr_2_0 i236_51 (zr_6r i236_52 fl_13_19 (zr_1_1 i236_53 (zr_1_2 i236_54 (zr_10 i236_55 ar_84 (g1 h2301) rfl (zr_2_0 i236_56 (zr_6r i236_57 fl_13_20 (zr_1_1 i236_58 (zr_1_3 i236_59 (zr_10 i236_60 ar_85 (g1 h2301) rfl (zr_1_2 i236_61 (zr_0 i236_62 kc_m1 (zt_trans (zt_cast (zr_19_1 i236_63 (fun h2303 => zr_2_0 i236_64 (zr_1_1 i236_65 (zr_cn (zs_21_1 i236_66 na_238 ob_13 rfl) (f238 a (z_up (z_up (z_up S 13 0 (if (((¬ (a < 0)) ∧ (¬ (5 < a))) ∧ (((¬ (b < (-1))) ∧ (¬ (2 < b))) ∧ ((¬ (c < 0)) ∧ (¬ ((if (b = 1) then (2 : Int32) else 0) < c))))) then ((if ((zb ((S 84 a.toNatClampNeg) = (-1))) = (zb (b = (-1)))) then (2 : Int32) else 0) : Int32) else 1)) 84 a.toNatClampNeg b) 85 a.toNatClampNeg c) (g2 h2301 h2303) (g3 h2301 h2303) (znv ((zupci rfl).trans ((zupci rfl).trans (zupf rfl))) (g4)) (znv ((zupci rfl).trans ((zupci rfl).trans (zupf rfl))) (g5)) (zpc1 ((zupc rfl).trans ((zupc rfl).trans (zupc rfl))) (g6)) (znv ((zupci rfl).trans ((zupci rfl).trans (zupf rfl))) (g7))) (zt_rfl)))) (fun h2304 => zt_rfl)) (zm_c zz_s zz_s zz_e)) (zr_27 i236_67)))))))))))))) (fun h2302 => zr_27 i236_50)) (zm_v zz_e))))))))))))
set_option maxRecDepth 100000 in
theorem s249_82 {L : Nat} (x1 x2 x3 x4 : Int32) (u5 : Option zV) (S : zS) (g0 : (¬ (4 ≤ x4)) → zx 4 x4) : zt L 249 82 [some (.inr (.inr 13)), some (.inl x1), some (.inl x2), some (.inl x3), some (.inl x4), u5] [] S (if (4 ≤ x4) then (.inl (126, [some (.inr (.inr 13)), some (.inl x1), some (.inl x2), some (.inl x3), some (.inl x4), u5], [], S)) else (.inl (82, [some (.inr (.inr 13)), some (.inl x1), some (.inl x2), some (.inl x3), some (.inl (x4 + 1)), some (.inl (zb (((zshr (S 107 x4.toNatClampNeg) x1) &&& 1) = 1)))], [], (z_up S 107 x4.toNatClampNeg (if (((zshr (S 107 x4.toNatClampNeg) x1) &&& 1) = 1) then ((((S 107 x4.toNatClampNeg) &&& ((zshl 1 x1) ^^^ (-1))) ||| (zshl 1 x2)) : Int32) else (S 107 x4.toNatClampNeg)))))) := zr_1_4 i249_82 (zr_0 i249_83 kc_4 (zr_19_3 i249_84 (fun h2359 => zt_rfl) (fun h2360 => zr_2_0 i249_85 (zr_6r i249_86 fl_13_43 (zr_1_4 i249_87 (zr_8 i249_88 ar_107 (g0 h2360) rfl rfl (zr_1_1 i249_89 (zr_13_9 i249_90 (zr_0 i249_91 kc_1 (zr_13_5 i249_92 (zr_0 i249_93 kc_1 (zt_trans (zt_cast (zr_19_1 i249_94 (fun h2361 => zr_0 i249_95 kc_1 (zr_17 i249_96 (zt_rfl))) (fun h2362 => zr_0 i249_97 kc_0 (zt_rfl))) (zm_c zz_s (zl_c (zl_t zz_10) zz_s) zz_s)) (zr_3_5 i249_98 (zr_2_0 i249_99 (zr_6r i249_100 fl_13_43 (zr_1_4 i249_101 (zr_1_5 i249_102 (zt_trans (zt_cast (zr_18b_0 i249_103 (fun h2363 => zr_2_0 i249_104 (zr_6r i249_105 fl_13_43 (zr_1_4 i249_106 (zr_8 i249_107 ar_107 (g0 h2360) rfl rfl (zr_0 i249_108 kc_1 (zr_1_1 i249_109 (zr_13_8 i249_110 (zr_0 i249_111 kc_m1 (zr_13_7 i249_112 (zr_13_5 i249_113 (zr_0 i249_114 kc_1 (zr_1_2 i249_115 (zr_13_8 i249_116 (zr_13_6 i249_117 (zr_17 i249_118 (zt_rfl)))))))))))))))) (fun h2364 => zr_2_0 i249_119 (zr_6r i249_120 fl_13_43 (zr_1_4 i249_121 (zr_8 i249_122 ar_107 (g0 h2360) rfl rfl (zt_rfl)))))) (zm_c zz_s (zl_c (zl_t zz_e) zz_s) zz_s)) (zr_10 i249_123 ar_107 (g0 h2360) rfl (zr_5_4 i249_124 kc_1 (zr_17 i249_125 (zt_rfl))))))))))))))))))))))
def k249_82 (x1 x2 x3 : Int32) (j : Nat) (a : Option zV × zS) : Option zV × zS := ((some (.inl (zb (((zshr (a.2 107 j) x1) &&& 1) = 1)))), (z_up a.2 107 j (if (((zshr (a.2 107 j) x1) &&& 1) = 1) then ((((a.2 107 j) &&& ((zshl 1 x1) ^^^ (-1))) ||| (zshl 1 x2)) : Int32) else (a.2 107 j))))
set_option maxRecDepth 100000 in
theorem l249_82 {L : Nat} (x1 x2 x3 : Int32) (i0 n : Nat) (a : Option zV × zS) (hn : i0 + n < 2147483648) (hc0 : ∀ j, j < n → ¬ (4 ≤ (Int32.ofNat (i0 + j)))) (g0 : ∀ j, j < n → (¬ (4 ≤ (Int32.ofNat (i0 + j)))) → zx 4 (Int32.ofNat (i0 + j))) : zt L 249 82 [some (.inr (.inr 13)), some (.inl x1), some (.inl x2), some (.inl x3), some (.inl (Int32.ofNat i0)), a.1] [] a.2 (.inl (82, [some (.inr (.inr 13)), some (.inl x1), some (.inl x2), some (.inl x3), some (.inl (Int32.ofNat (i0 + n))), (zfold (k249_82 x1 x2 x3 ) i0 n a).1], [], (zfold (k249_82 x1 x2 x3 ) i0 n a).2)) := by
  induction n with
  | zero => exact zt_rfl
  | succ n ih =>
    have e1 := zk_ix (i0 + n) (by omega)
    have e2 := zk_add (i0 + n)
    refine zt_trans (ih (by omega) (fun j hj => hc0 j (by omega)) (fun j hj => g0 j (by omega))) ?_
    refine zt_cast (s249_82 x1 x2 x3 (Int32.ofNat (i0 + n)) (zfold (k249_82 x1 x2 x3 ) i0 n a).1 (zfold (k249_82 x1 x2 x3 ) i0 n a).2 (by have hg := g0 n (by omega); first | exact hg | (simp only [e1]; exact hg))) ?_
    rw [if_neg (show ¬ (4 ≤ (Int32.ofNat (i0 + n))) from (by have hg := hc0 n (by omega); first | exact hg | (simp only [e1]; exact hg)))]
    simp only [zfold, k249_82, e1, e2, ← Nat.add_assoc]
def K249_82 (x1 x2 x3 : Int32) (u5 : Option zV) (i0 : Nat) (S : zS) : Option zV × zS := zfold (k249_82 x1 x2 x3 ) i0 (4 - i0) (u5, S)
def K249_82_c5 (x1 x2 x3 : Int32) (u5 : Option zV) (i0 : Nat) (S : zS) : Option zV := (K249_82 x1 x2 x3 u5 i0 S).1
def K249_82_S (x1 x2 x3 : Int32) (u5 : Option zV) (i0 : Nat) (S : zS) : zS := (K249_82 x1 x2 x3 u5 i0 S).2
set_option maxRecDepth 100000 in
theorem L249_82 {L : Nat} (x1 x2 x3 : Int32) (u5 : Option zV) (i0 : Nat) (S : zS) (hi : i0 ≤ 10000) : zt L 249 82 [some (.inr (.inr 13)), some (.inl x1), some (.inl x2), some (.inl x3), some (.inl (Int32.ofNat i0)), u5] [] S (.inl (126, [some (.inr (.inr 13)), some (.inl x1), some (.inl x2), some (.inl x3), some (.inl (Int32.ofNat (i0 + (4 - i0)))), (K249_82_c5 x1 x2 x3 u5 i0 S)], [], (K249_82_S x1 x2 x3 u5 i0 S))) := by
  have hend : 4 ≤ Int32.ofNat (i0 + (4 - i0)) := by exact zc_le_end (show zn 4 4 from by unfold zn; decide) (by omega)
  refine zt_trans (l249_82 x1 x2 x3   i0 (4 - i0) (u5, S) (by omega) (fun j hj => by exact zc_le (show zn 4 4 from by unfold zn; decide) hj (by omega)) (fun j hj _ => by exact zx_of (by omega) (by omega))) ?_
  exact zt_cast (s249_82 x1 x2 x3 (Int32.ofNat (i0 + (4 - i0))) (zfold (k249_82 x1 x2 x3 ) i0 (4 - i0) (u5, S)).1 (zfold (k249_82 x1 x2 x3 ) i0 (4 - i0) (u5, S)).2 (fun h9 => absurd hend h9)) (if_pos hend)
set_option maxRecDepth 100000 in
theorem s249_58 {L : Nat} (x1 x2 x3 x4 : Int32) (S : zS) (g0 : (¬ ((S 13 45) ≤ x4)) → zx 40 x4) : zt L 249 58 [some (.inr (.inr 13)), some (.inl x1), some (.inl x2), some (.inl x3), some (.inl x4), none] [] S (if ((S 13 45) ≤ x4) then (.inl (80, [some (.inr (.inr 13)), some (.inl x1), some (.inl x2), some (.inl x3), some (.inl x4), none], [], S)) else (.inl (58, [some (.inr (.inr 13)), some (.inl x1), some (.inl x2), some (.inl x3), some (.inl (x4 + 1)), none], [], (z_up S 111 x4.toNatClampNeg (if ((S 111 x4.toNatClampNeg) = x1) then (x2 : Int32) else (S 111 x4.toNatClampNeg)))))) := zr_1_4 i249_58 (zr_2_0 i249_59 (zr_6 i249_60 fl_13_45 rfl (zr_19_3 i249_61 (fun h2365 => zt_rfl) (fun h2366 => zr_2_0 i249_62 (zr_6r i249_63 fl_13_48 (zr_1_4 i249_64 (zr_2_0 i249_65 (zr_6r i249_66 fl_13_48 (zr_1_4 i249_67 (zr_8 i249_68 ar_111 (g0 h2366) rfl rfl (zr_1_1 i249_69 (zt_trans (zt_cast (zr_19_1 i249_70 (fun h2367 => zr_1_2 i249_71 (zr_17 i249_72 (zt_rfl))) (fun h2368 => zr_2_0 i249_73 (zr_6r i249_74 fl_13_48 (zr_1_4 i249_75 (zr_8 i249_76 ar_111 (g0 h2366) rfl rfl (zt_rfl)))))) (zm_c zz_s (zl_c (zl_t zz_e) zz_s) zz_s)) (zr_10 i249_77 ar_111 (g0 h2366) rfl (zr_5_4 i249_78 kc_1 (zr_17 i249_79 (zt_rfl))))))))))))))))
def k249_58 (x1 x2 x3 : Int32) (j : Nat) (a : zS) : zS := (z_up a 111 j (if ((a 111 j) = x1) then (x2 : Int32) else (a 111 j)))
set_option maxRecDepth 100000 in
theorem l249_58 {L : Nat} (x1 x2 x3 : Int32) (i0 n : Nat) (a : zS) (hn : i0 + n < 2147483648) (hc0 : ∀ j, j < n → ¬ (((zfold (k249_58 x1 x2 x3 ) i0 j a) 13 45) ≤ (Int32.ofNat (i0 + j)))) (g0 : ∀ j, j < n → (¬ (((zfold (k249_58 x1 x2 x3 ) i0 j a) 13 45) ≤ (Int32.ofNat (i0 + j)))) → zx 40 (Int32.ofNat (i0 + j))) : zt L 249 58 [some (.inr (.inr 13)), some (.inl x1), some (.inl x2), some (.inl x3), some (.inl (Int32.ofNat i0)), none] [] a (.inl (58, [some (.inr (.inr 13)), some (.inl x1), some (.inl x2), some (.inl x3), some (.inl (Int32.ofNat (i0 + n))), none], [], (zfold (k249_58 x1 x2 x3 ) i0 n a))) := by
  induction n with
  | zero => exact zt_rfl
  | succ n ih =>
    have e1 := zk_ix (i0 + n) (by omega)
    have e2 := zk_add (i0 + n)
    refine zt_trans (ih (by omega) (fun j hj => hc0 j (by omega)) (fun j hj => g0 j (by omega))) ?_
    refine zt_cast (s249_58 x1 x2 x3 (Int32.ofNat (i0 + n)) (zfold (k249_58 x1 x2 x3 ) i0 n a) (by have hg := g0 n (by omega); first | exact hg | (simp only [e1]; exact hg))) ?_
    rw [if_neg (show ¬ (((zfold (k249_58 x1 x2 x3 ) i0 n a) 13 45) ≤ (Int32.ofNat (i0 + n))) from (by have hg := hc0 n (by omega); first | exact hg | (simp only [e1]; exact hg)))]
    simp only [zfold, k249_58, e1, e2, ← Nat.add_assoc]
def K249_58 (x1 x2 x3 : Int32) (i0 : Nat) (S : zS) : zS := zfold (k249_58 x1 x2 x3 ) i0 ((S 13 45).toNatClampNeg - i0) S
def K249_58_S (x1 x2 x3 : Int32) (i0 : Nat) (S : zS) : zS := (K249_58 x1 x2 x3 i0 S)
set_option maxRecDepth 100000 in
theorem L249_58 {L : Nat} (x1 x2 x3 : Int32) (i0 : Nat) (S : zS) (hi : i0 ≤ 10000) (h0 : zn 40 (S 13 45)) : zt L 249 58 [some (.inr (.inr 13)), some (.inl x1), some (.inl x2), some (.inl x3), some (.inl (Int32.ofNat i0)), none] [] S (.inl (80, [some (.inr (.inr 13)), some (.inl x1), some (.inl x2), some (.inl x3), some (.inl (Int32.ofNat (i0 + ((S 13 45).toNatClampNeg - i0)))), none], [], (K249_58_S x1 x2 x3 i0 S))) := by
  have hk13_45 : ∀ n, (zfold (k249_58 x1 x2 x3 ) i0 n S) 13 45 = S 13 45 := fun n => zfold_keep (fun b => b 13 45) (fun j b => show (z_up b 111 j (if ((b 111 j) = x1) then (x2 : Int32) else (b 111 j))) 13 45 = b 13 45 from (zupci rfl)) n S
  have hend : (zfold (k249_58 x1 x2 x3 ) i0 ((S 13 45).toNatClampNeg - i0) S) 13 45 ≤ Int32.ofNat (i0 + ((S 13 45).toNatClampNeg - i0)) := by rw [hk13_45]; exact zc_le_end h0 (by omega)
  refine zt_trans (l249_58 x1 x2 x3   i0 ((S 13 45).toNatClampNeg - i0) S (by have := zn_cl h0; omega) (fun j hj => by rw [hk13_45]; exact zc_le h0 hj (by omega)) (fun j hj _ => by exact zx_of (by have := zn_cl h0; omega) (by have := zn_cl h0; omega))) ?_
  exact zt_cast (s249_58 x1 x2 x3 (Int32.ofNat (i0 + ((S 13 45).toNatClampNeg - i0))) (zfold (k249_58 x1 x2 x3 ) i0 ((S 13 45).toNatClampNeg - i0) S) (fun h9 => absurd hend h9)) (if_pos hend)
set_option maxRecDepth 100000 in
theorem s249_23 {L : Nat} (x1 x2 x3 x4 : Int32) (S : zS) (g0 : (¬ (18 ≤ x4)) → zx 18 x4) : zt L 249 23 [some (.inr (.inr 13)), some (.inl x1), some (.inl x2), some (.inl x3), some (.inl x4), none] [] S (if (18 ≤ x4) then (.inl (56, [some (.inr (.inr 13)), some (.inl x1), some (.inl x2), some (.inl x3), some (.inl x4), none], [], S)) else (.inl (23, [some (.inr (.inr 13)), some (.inl x1), some (.inl x2), some (.inl (x3 + (zb ((S 106 x4.toNatClampNeg) = x1)))), some (.inl (x4 + 1)), none], [], (z_up S 106 x4.toNatClampNeg (if ((S 106 x4.toNatClampNeg) = x1) then (x2 : Int32) else (S 106 x4.toNatClampNeg)))))) := zr_1_4 i249_23 (zr_0 i249_24 kc_18 (zr_19_3 i249_25 (fun h2369 => zt_rfl) (fun h2370 => zr_1_3 i249_26 (zr_2_0 i249_27 (zr_6r i249_28 fl_13_42 (zr_1_4 i249_29 (zr_8 i249_30 ar_106 (g0 h2370) rfl rfl (zr_1_1 i249_31 (zt_trans (zt_cast (zr_19_1 i249_32 (fun h2371 => zr_0 i249_33 kc_1 (zr_17 i249_34 (zt_rfl))) (fun h2372 => zr_0 i249_35 kc_0 (zt_rfl))) (zm_c zz_s (zl_c (zl_t zz_10) zz_s) zz_s)) (zr_13_0 i249_36 (zr_3_3 i249_37 (zr_2_0 i249_38 (zr_6r i249_39 fl_13_42 (zr_1_4 i249_40 (zr_2_0 i249_41 (zr_6r i249_42 fl_13_42 (zr_1_4 i249_43 (zr_8 i249_44 ar_106 (g0 h2370) rfl rfl (zr_1_1 i249_45 (zt_trans (zt_cast (zr_19_1 i249_46 (fun h2373 => zr_1_2 i249_47 (zr_17 i249_48 (zt_rfl))) (fun h2374 => zr_2_0 i249_49 (zr_6r i249_50 fl_13_42 (zr_1_4 i249_51 (zr_8 i249_52 ar_106 (g0 h2370) rfl rfl (zt_rfl)))))) (zm_c zz_s (zl_c (zl_t zz_e) zz_s) zz_s)) (zr_10 i249_53 ar_106 (g0 h2370) rfl (zr_5_4 i249_54 kc_1 (zr_17 i249_55 (zt_rfl))))))))))))))))))))))))
def k249_23 (x1 x2 : Int32) (j : Nat) (a : Int32 × zS) : Int32 × zS := ((a.1 + (zb ((a.2 106 j) = x1))), (z_up a.2 106 j (if ((a.2 106 j) = x1) then (x2 : Int32) else (a.2 106 j))))
set_option maxRecDepth 100000 in
theorem l249_23 {L : Nat} (x1 x2 : Int32) (i0 n : Nat) (a : Int32 × zS) (hn : i0 + n < 2147483648) (hc0 : ∀ j, j < n → ¬ (18 ≤ (Int32.ofNat (i0 + j)))) (g0 : ∀ j, j < n → (¬ (18 ≤ (Int32.ofNat (i0 + j)))) → zx 18 (Int32.ofNat (i0 + j))) : zt L 249 23 [some (.inr (.inr 13)), some (.inl x1), some (.inl x2), some (.inl a.1), some (.inl (Int32.ofNat i0)), none] [] a.2 (.inl (23, [some (.inr (.inr 13)), some (.inl x1), some (.inl x2), some (.inl (zfold (k249_23 x1 x2 ) i0 n a).1), some (.inl (Int32.ofNat (i0 + n))), none], [], (zfold (k249_23 x1 x2 ) i0 n a).2)) := by
  induction n with
  | zero => exact zt_rfl
  | succ n ih =>
    have e1 := zk_ix (i0 + n) (by omega)
    have e2 := zk_add (i0 + n)
    refine zt_trans (ih (by omega) (fun j hj => hc0 j (by omega)) (fun j hj => g0 j (by omega))) ?_
    refine zt_cast (s249_23 x1 x2 (zfold (k249_23 x1 x2 ) i0 n a).1 (Int32.ofNat (i0 + n)) (zfold (k249_23 x1 x2 ) i0 n a).2 (by have hg := g0 n (by omega); first | exact hg | (simp only [e1]; exact hg))) ?_
    rw [if_neg (show ¬ (18 ≤ (Int32.ofNat (i0 + n))) from (by have hg := hc0 n (by omega); first | exact hg | (simp only [e1]; exact hg)))]
    simp only [zfold, k249_23, e1, e2, ← Nat.add_assoc]
def K249_23 (x1 x2 x3 : Int32) (i0 : Nat) (S : zS) : Int32 × zS := zfold (k249_23 x1 x2 ) i0 (18 - i0) (x3, S)
def K249_23_c3 (x1 x2 x3 : Int32) (i0 : Nat) (S : zS) : Int32 := (K249_23 x1 x2 x3 i0 S).1
def K249_23_S (x1 x2 x3 : Int32) (i0 : Nat) (S : zS) : zS := (K249_23 x1 x2 x3 i0 S).2
set_option maxRecDepth 100000 in
theorem L249_23 {L : Nat} (x1 x2 x3 : Int32) (i0 : Nat) (S : zS) (hi : i0 ≤ 10000) : zt L 249 23 [some (.inr (.inr 13)), some (.inl x1), some (.inl x2), some (.inl x3), some (.inl (Int32.ofNat i0)), none] [] S (.inl (56, [some (.inr (.inr 13)), some (.inl x1), some (.inl x2), some (.inl (K249_23_c3 x1 x2 x3 i0 S)), some (.inl (Int32.ofNat (i0 + (18 - i0)))), none], [], (K249_23_S x1 x2 x3 i0 S))) := by
  have hend : 18 ≤ Int32.ofNat (i0 + (18 - i0)) := by exact zc_le_end (show zn 18 18 from by unfold zn; decide) (by omega)
  refine zt_trans (l249_23 x1 x2   i0 (18 - i0) (x3, S) (by omega) (fun j hj => by exact zc_le (show zn 18 18 from by unfold zn; decide) hj (by omega)) (fun j hj _ => by exact zx_of (by omega) (by omega))) ?_
  exact zt_cast (s249_23 x1 x2 (zfold (k249_23 x1 x2 ) i0 (18 - i0) (x3, S)).1 (Int32.ofNat (i0 + (18 - i0))) (zfold (k249_23 x1 x2 ) i0 (18 - i0) (x3, S)).2 (fun h9 => absurd hend h9)) (if_pos hend)
set_option maxRecDepth 100000 in
theorem w_K249_23_S_13_45 (x1 x2 x3 : Int32) (i0 : Nat) (S : zS) : K249_23_S x1 x2 x3 i0 S 13 45 = S 13 45 := zfold_keep (fun b => b.2 13 45) ((fun j b => show (z_up b.2 106 j (if ((b.2 106 j) = x1) then (x2 : Int32) else (b.2 106 j))) 13 45 = b.2 13 45 from (zupci rfl))) _ _
def F249 (a b : Int32) (S : zS) : Int32 := (if ((if ((¬ (a < 0)) ∧ (¬ (7 < a))) then ((if ((¬ (b < 0)) ∧ (¬ (7 < b))) then ((if (a = b) then (2 : Int32) else 0) : Int32) else 1) : Int32) else 1) = 0) then ((K249_23_c3 a b 0 0 (z_up S 13 0 (if ((¬ (a < 0)) ∧ (¬ (7 < a))) then ((if ((¬ (b < 0)) ∧ (¬ (7 < b))) then ((if (a = b) then (2 : Int32) else 0) : Int32) else 1) : Int32) else 1))) : Int32) else 0)
def G249 (a b : Int32) (S : zS) : zS := (if ((if ((¬ (a < 0)) ∧ (¬ (7 < a))) then ((if ((¬ (b < 0)) ∧ (¬ (7 < b))) then ((if (a = b) then (2 : Int32) else 0) : Int32) else 1) : Int32) else 1) = 0) then (K249_82_S a b (K249_23_c3 a b 0 0 (z_up S 13 0 (if ((¬ (a < 0)) ∧ (¬ (7 < a))) then ((if ((¬ (b < 0)) ∧ (¬ (7 < b))) then ((if (a = b) then (2 : Int32) else 0) : Int32) else 1) : Int32) else 1))) (none : Option zV) 0 (K249_58_S a b (K249_23_c3 a b 0 0 (z_up S 13 0 (if ((¬ (a < 0)) ∧ (¬ (7 < a))) then ((if ((¬ (b < 0)) ∧ (¬ (7 < b))) then ((if (a = b) then (2 : Int32) else 0) : Int32) else 1) : Int32) else 1))) 0 (K249_23_S a b 0 0 (z_up S 13 0 (if ((¬ (a < 0)) ∧ (¬ (7 < a))) then ((if ((¬ (b < 0)) ∧ (¬ (7 < b))) then ((if (a = b) then (2 : Int32) else 0) : Int32) else 1) : Int32) else 1))))) else (z_up S 13 0 (if ((¬ (a < 0)) ∧ (¬ (7 < a))) then ((if ((¬ (b < 0)) ∧ (¬ (7 < b))) then ((if (a = b) then (2 : Int32) else 0) : Int32) else 1) : Int32) else 1)))
set_option maxRecDepth 100000 in
theorem f249 {L : Nat} (a b : Int32) (S : zS) (g0 : zn 40 (S 13 45)) : zf L 249 [.inr (.inr 13), .inl a, .inl b] S (.inl (some (.inl (F249 a b S))), (G249 a b S), 0) := zf_of (en_249 _ _ _) (zr_2_0 i249_0 (zr_1_1 i249_1 (zr_cv (zs_22_1 i249_2 na_244 rfl) (f244 a S ) (zt_trans (zt_cast (zr_18b_0 i249_3 (fun h2375 => zr_1_2 i249_4 (zr_cv (zs_22_1 i249_5 na_244 rfl) (f244 b S ) (zt_cast (zr_18b_1 i249_6 (fun h2377 => zr_1_1 i249_9 (zr_1_2 i249_10 (zt_cast (zr_19_1 i249_11 (fun h2379 => zr_0 i249_12 kc_2 (zr_17 i249_13 (zt_rfl))) (fun h2380 => zr_0 i249_14 kc_0 (zt_rfl))) (zm_c zz_s (zl_c (zl_t zz_e) zz_s) zz_s)))) (fun h2378 => zr_0 i249_7 kc_1 (zr_17 i249_8 (zt_rfl)))) (zm_c zz_s (zl_c (zl_t zz_e) zz_s) zz_s)))) (fun h2376 => zr_0 i249_7 kc_1 (zr_17 i249_8 (zt_rfl)))) (zm_c zz_s (zl_c (zl_t zz_e) zz_s) zz_s)) (zr_cv (zs_21_1 i249_15 na_212 ob_13 rfl) (f212 (if ((¬ (a < 0)) ∧ (¬ (7 < a))) then ((if ((¬ (b < 0)) ∧ (¬ (7 < b))) then ((if (a = b) then (2 : Int32) else 0) : Int32) else 1) : Int32) else 1) S ) (zt_cast (zr_18b_1 i249_16 (fun h2381 => zr_0 i249_19 kc_0 (zr_3_3 i249_20 (zr_0 i249_21 kc_0 (zr_3_4 i249_22 (zt_trans (L249_23 a b 0 0 (z_up S 13 0 (if ((¬ (a < 0)) ∧ (¬ (7 < a))) then ((if ((¬ (b < 0)) ∧ (¬ (7 < b))) then ((if (a = b) then (2 : Int32) else 0) : Int32) else 1) : Int32) else 1)) (by decide) ) (zr_0 i249_56 kc_0 (zr_3_4 i249_57 (zt_trans (L249_58 a b (K249_23_c3 a b 0 0 (z_up S 13 0 (if ((¬ (a < 0)) ∧ (¬ (7 < a))) then ((if ((¬ (b < 0)) ∧ (¬ (7 < b))) then ((if (a = b) then (2 : Int32) else 0) : Int32) else 1) : Int32) else 1))) 0 (K249_23_S a b 0 0 (z_up S 13 0 (if ((¬ (a < 0)) ∧ (¬ (7 < a))) then ((if ((¬ (b < 0)) ∧ (¬ (7 < b))) then ((if (a = b) then (2 : Int32) else 0) : Int32) else 1) : Int32) else 1))) (by decide) (znv ((w_K249_23_S_13_45 _ _ _ _ _).trans (zupf rfl)) (g0))) (zr_0 i249_80 kc_0 (zr_3_4 i249_81 (zt_trans (L249_82 a b (K249_23_c3 a b 0 0 (z_up S 13 0 (if ((¬ (a < 0)) ∧ (¬ (7 < a))) then ((if ((¬ (b < 0)) ∧ (¬ (7 < b))) then ((if (a = b) then (2 : Int32) else 0) : Int32) else 1) : Int32) else 1))) (none : Option zV) 0 (K249_58_S a b (K249_23_c3 a b 0 0 (z_up S 13 0 (if ((¬ (a < 0)) ∧ (¬ (7 < a))) then ((if ((¬ (b < 0)) ∧ (¬ (7 < b))) then ((if (a = b) then (2 : Int32) else 0) : Int32) else 1) : Int32) else 1))) 0 (K249_23_S a b 0 0 (z_up S 13 0 (if ((¬ (a < 0)) ∧ (¬ (7 < a))) then ((if ((¬ (b < 0)) ∧ (¬ (7 < b))) then ((if (a = b) then (2 : Int32) else 0) : Int32) else 1) : Int32) else 1)))) (by decide) ) (zr_1_3 i249_126 (zr_25 i249_127))))))))))))) (fun h2382 => zr_0 i249_17 kc_0 (zr_25 i249_18))) (zm_r zz_e zz_e)))))))
set_option maxRecDepth 100000 in
theorem s251_11 {L : Nat} (x1 x2 x3 x4 : Int32) (u5 : Option zV) (S : zS) (g0 : (¬ (4 ≤ x4)) → zx 4 x4) : zt L 251 11 [some (.inr (.inr 13)), some (.inl x1), some (.inl x2), some (.inl x3), some (.inl x4), u5] [] S (if (4 ≤ x4) then (.inl (47, [some (.inr (.inr 13)), some (.inl x1), some (.inl x2), some (.inl x3), some (.inl x4), u5], [], S)) else (.inl (11, [some (.inr (.inr 13)), some (.inl x1), some (.inl (x2 ||| (if ((((zshr (S 107 x4.toNatClampNeg) x1) &&& 1) = 1) ∨ (¬ (((S 108 x4.toNatClampNeg) &&& x3) = 0))) then ((zshl 1 x4) : Int32) else 0))), some (.inl x3), some (.inl (x4 + 1)), some (.inl (zb ((((zshr (S 107 x4.toNatClampNeg) x1) &&& 1) = 1) ∨ (¬ (((S 108 x4.toNatClampNeg) &&& x3) = 0)))))], [], S))) := zr_1_4 i251_11 (zr_0 i251_12 kc_4 (zr_19_3 i251_13 (fun h2415 => zt_rfl) (fun h2416 => zr_2_0 i251_14 (zr_6r i251_15 fl_13_43 (zr_1_4 i251_16 (zr_8 i251_17 ar_107 (g0 h2416) rfl rfl (zr_1_1 i251_18 (zr_13_9 i251_19 (zr_0 i251_20 kc_1 (zr_13_5 i251_21 (zr_0 i251_22 kc_1 (zt_trans (zt_cast (zr_19_0 i251_23 (fun h2417 => zr_0 i251_31 kc_1 (zr_17 i251_32 (zt_rfl))) (fun h2418 => zr_2_0 i251_24 (zr_6r i251_25 fl_13_44 (zr_1_4 i251_26 (zr_8 i251_27 ar_108 (g0 h2416) rfl rfl (zr_1_3 i251_28 (zr_13_5 i251_29 (zt_cast (zr_18_0 i251_30 (fun h2419 => zr_0 i251_33 kc_0 (zt_rfl)) (fun h2420 => zr_0 i251_31 kc_1 (zr_17 i251_32 (zt_rfl)))) (zm_c zz_s (zl_c (zl_t zz_01) zz_s) zz_s))))))))) (zm_c zz_s (zl_c (zl_t zz_1b) zz_s) zz_s)) (zr_3_5 i251_34 (zr_1_2 i251_35 (zr_1_5 i251_36 (zt_trans (zt_cast (zr_18b_0 i251_37 (fun h2421 => zr_0 i251_38 kc_1 (zr_1_4 i251_39 (zr_13_8 i251_40 (zr_17 i251_41 (zt_rfl))))) (fun h2422 => zr_0 i251_42 kc_0 (zt_rfl))) (zm_c zz_s (zl_c (zl_t zz_e) zz_s) zz_s)) (zr_13_6 i251_43 (zr_3_2 i251_44 (zr_5_4 i251_45 kc_1 (zr_17 i251_46 (zt_rfl)))))))))))))))))))))
def k251_11 (x1 x3 : Int32) (S : zS) (j : Nat) (a : Int32 × Option zV) : Int32 × Option zV := ((a.1 ||| (if ((((zshr (S 107 j) x1) &&& 1) = 1) ∨ (¬ (((S 108 j) &&& x3) = 0))) then ((zshl 1 (Int32.ofNat j)) : Int32) else 0)), (some (.inl (zb ((((zshr (S 107 j) x1) &&& 1) = 1) ∨ (¬ (((S 108 j) &&& x3) = 0)))))))
set_option maxRecDepth 100000 in
theorem l251_11 {L : Nat} (x1 x3 : Int32) (S : zS) (i0 n : Nat) (a : Int32 × Option zV) (hn : i0 + n < 2147483648) (hc0 : ∀ j, j < n → ¬ (4 ≤ (Int32.ofNat (i0 + j)))) (g0 : ∀ j, j < n → (¬ (4 ≤ (Int32.ofNat (i0 + j)))) → zx 4 (Int32.ofNat (i0 + j))) : zt L 251 11 [some (.inr (.inr 13)), some (.inl x1), some (.inl a.1), some (.inl x3), some (.inl (Int32.ofNat i0)), a.2] [] S (.inl (11, [some (.inr (.inr 13)), some (.inl x1), some (.inl (zfold (k251_11 x1 x3 S) i0 n a).1), some (.inl x3), some (.inl (Int32.ofNat (i0 + n))), (zfold (k251_11 x1 x3 S) i0 n a).2], [], S)) := by
  induction n with
  | zero => exact zt_rfl
  | succ n ih =>
    have e1 := zk_ix (i0 + n) (by omega)
    have e2 := zk_add (i0 + n)
    refine zt_trans (ih (by omega) (fun j hj => hc0 j (by omega)) (fun j hj => g0 j (by omega))) ?_
    refine zt_cast (s251_11 x1 (zfold (k251_11 x1 x3 S) i0 n a).1 x3 (Int32.ofNat (i0 + n)) (zfold (k251_11 x1 x3 S) i0 n a).2 S (by have hg := g0 n (by omega); first | exact hg | (simp only [e1]; exact hg))) ?_
    rw [if_neg (show ¬ (4 ≤ (Int32.ofNat (i0 + n))) from (by have hg := hc0 n (by omega); first | exact hg | (simp only [e1]; exact hg)))]
    simp only [zfold, k251_11, e1, e2, ← Nat.add_assoc]
def K251_11 (x1 x2 x3 : Int32) (u5 : Option zV) (i0 : Nat) (S : zS) : Int32 × Option zV := zfold (k251_11 x1 x3 S) i0 (4 - i0) (x2, u5)
def K251_11_c2 (x1 x2 x3 : Int32) (u5 : Option zV) (i0 : Nat) (S : zS) : Int32 := (K251_11 x1 x2 x3 u5 i0 S).1
def K251_11_c5 (x1 x2 x3 : Int32) (u5 : Option zV) (i0 : Nat) (S : zS) : Option zV := (K251_11 x1 x2 x3 u5 i0 S).2
set_option maxRecDepth 100000 in
theorem L251_11 {L : Nat} (x1 x2 x3 : Int32) (u5 : Option zV) (i0 : Nat) (S : zS) (hi : i0 ≤ 10000) : zt L 251 11 [some (.inr (.inr 13)), some (.inl x1), some (.inl x2), some (.inl x3), some (.inl (Int32.ofNat i0)), u5] [] S (.inl (47, [some (.inr (.inr 13)), some (.inl x1), some (.inl (K251_11_c2 x1 x2 x3 u5 i0 S)), some (.inl x3), some (.inl (Int32.ofNat (i0 + (4 - i0)))), (K251_11_c5 x1 x2 x3 u5 i0 S)], [], S)) := by
  have hend : 4 ≤ Int32.ofNat (i0 + (4 - i0)) := by exact zc_le_end (show zn 4 4 from by unfold zn; decide) (by omega)
  refine zt_trans (l251_11 x1 x3  S i0 (4 - i0) (x2, u5) (by omega) (fun j hj => by exact zc_le (show zn 4 4 from by unfold zn; decide) hj (by omega)) (fun j hj _ => by exact zx_of (by omega) (by omega))) ?_
  exact zt_cast (s251_11 x1 (zfold (k251_11 x1 x3 S) i0 (4 - i0) (x2, u5)).1 x3 (Int32.ofNat (i0 + (4 - i0))) (zfold (k251_11 x1 x3 S) i0 (4 - i0) (x2, u5)).2 S (fun h9 => absurd hend h9)) (if_pos hend)
set_option maxRecDepth 100000 in
theorem s251_4 {L : Nat} (x1 x2 x3 : Int32) (u4 u5 : Option zV) (S : zS) : zt L 251 4 [some (.inr (.inr 13)), some (.inl x1), some (.inl x2), some (.inl x3), u4, u5] [] S (if (x3 = x2) then (.inl (48, [some (.inr (.inr 13)), some (.inl x1), some (.inl x2), some (.inl x3), u4, u5], [], S)) else (.inl (4, [some (.inr (.inr 13)), some (.inl x1), some (.inl (K251_11_c2 x1 x2 x2 u5 0 S)), some (.inl x2), some (.inl (Int32.ofNat (0 + (4 - 0)))), (K251_11_c5 x1 x2 x2 (u5 : Option zV) 0 S)], [], S))) := zr_1_3 i251_4 (zr_1_2 i251_5 (zr_19_0 i251_6 (fun h2423 => zt_rfl) (fun h2424 => zr_1_2 i251_7 (zr_3_3 i251_8 (zr_0 i251_9 kc_0 (zr_3_4 i251_10 (zt_trans (L251_11 x1 x2 x2 (u5 : Option zV) 0 S (by decide) ) (zr_17 i251_47 (zt_rfl)))))))))
def c251_4 (x1 : Int32) (S : zS) (a : Int32 × Int32 × Option zV × Option zV) : Bool := decide (a.2.1 = a.1)
def kw251_4 (x1 : Int32) (S : zS) (a : Int32 × Int32 × Option zV × Option zV) : Int32 × Int32 × Option zV × Option zV := ((K251_11_c2 x1 a.1 a.1 a.2.2.2 0 S), a.1, (some (.inl (Int32.ofNat (0 + (4 - 0))))), (K251_11_c5 x1 a.1 a.1 a.2.2.2 0 S))
set_option maxRecDepth 100000 in
theorem lw251_4 {L : Nat} (x1 : Int32) (S : zS) (n : Nat) (a : Int32 × Int32 × Option zV × Option zV) : zt L 251 4 [some (.inr (.inr 13)), some (.inl x1), some (.inl a.1), some (.inl a.2.1), a.2.2.1, a.2.2.2] [] S (.inl (4, [some (.inr (.inr 13)), some (.inl x1), some (.inl (zwl (fun a => c251_4 x1 S a = true) (kw251_4 x1 S) n a).1), some (.inl (zwl (fun a => c251_4 x1 S a = true) (kw251_4 x1 S) n a).2.1), (zwl (fun a => c251_4 x1 S a = true) (kw251_4 x1 S) n a).2.2.1, (zwl (fun a => c251_4 x1 S a = true) (kw251_4 x1 S) n a).2.2.2], [], S)) := by
  refine zwl_run (c := fun a => c251_4 x1 S a = true) (f := kw251_4 x1 S) (lv := fun a => [some (.inr (.inr 13)), some (.inl x1), some (.inl a.1), some (.inl a.2.1), a.2.2.1, a.2.2.2]) (S := fun a => S) (a := a) (n := n) (fun j hj hc => ?_)
  refine zt_cast (s251_4 x1 (zwl (fun a => c251_4 x1 S a = true) (kw251_4 x1 S) j a).1 (zwl (fun a => c251_4 x1 S a = true) (kw251_4 x1 S) j a).2.1 (zwl (fun a => c251_4 x1 S a = true) (kw251_4 x1 S) j a).2.2.1 (zwl (fun a => c251_4 x1 S a = true) (kw251_4 x1 S) j a).2.2.2 S ) ?_
  simp only [c251_4, Bool.or_eq_true, decide_eq_true_eq, not_or, Bool.not_eq_true, decide_eq_false_iff_not] at hc
  first
  | (rw [if_neg hc]; rfl)
  | (rw [if_neg hc.1, if_neg hc.2]; rfl)
def K251_4 (x1 x2 x3 : Int32) (u4 u5 : Option zV) (S : zS) : Int32 × Int32 × Option zV × Option zV := (zwl (fun a => c251_4 x1 S a = true) (kw251_4 x1 S) 17 (x2, x3, u4, u5))
def K251_4_c2 (x1 x2 x3 : Int32) (u4 u5 : Option zV) (S : zS) : Int32 := (K251_4 x1 x2 x3 u4 u5 S).1
def K251_4_c3 (x1 x2 x3 : Int32) (u4 u5 : Option zV) (S : zS) : Int32 := (K251_4 x1 x2 x3 u4 u5 S).2.1
def K251_4_c4 (x1 x2 x3 : Int32) (u4 u5 : Option zV) (S : zS) : Option zV := (K251_4 x1 x2 x3 u4 u5 S).2.2.1
def K251_4_c5 (x1 x2 x3 : Int32) (u4 u5 : Option zV) (S : zS) : Option zV := (K251_4 x1 x2 x3 u4 u5 S).2.2.2
set_option maxRecDepth 100000 in
theorem K251_11_zn (x1 x2 x3 : Int32) (u5 : Option zV) (S : zS) (h : zn 15 x2) : zn 15 (K251_11_c2 x1 x2 x3 u5 0 S) ∧ x2.toInt ≤ (K251_11_c2 x1 x2 x3 u5 0 S).toInt := by
  have key : ∀ n, n ≤ 4 → zn 15 (zfold (k251_11 x1 x3 S) 0 n (x2, u5)).1 ∧ x2.toInt ≤ (zfold (k251_11 x1 x3 S) 0 n (x2, u5)).1.toInt := by
    intro n
    induction n with
    | zero => intro _; exact ⟨h, Int.le_refl _⟩
    | succ n ih =>
      intro hn
      obtain ⟨h1, h2⟩ := ih (by omega)
      have := zor_zn h1 (0 + n) (by omega) ((((zshr (S 107 (0 + n)) x1) &&& 1) = 1) ∨ (¬ (((S 108 (0 + n)) &&& x3) = 0)))
      exact ⟨this.1, Int.le_trans h2 this.2⟩
  exact key 4 (Nat.le_refl _)
set_option maxRecDepth 100000 in
theorem L251_4 {L : Nat} (x1 x2 x3 : Int32) (u4 u5 : Option zV) (S : zS) (h0 : zn 15 x2) : zt L 251 4 [some (.inr (.inr 13)), some (.inl x1), some (.inl x2), some (.inl x3), u4, u5] [] S (.inl (48, [some (.inr (.inr 13)), some (.inl x1), some (.inl (K251_4_c2 x1 x2 x3 u4 u5 S)), some (.inl (K251_4_c3 x1 x2 x3 u4 u5 S)), (K251_4_c4 x1 x2 x3 u4 u5 S), (K251_4_c5 x1 x2 x3 u4 u5 S)], [], S)) := by
  have hI : ∀ n : Nat, zn 15 (zwl (fun a => c251_4 x1 S a = true) (kw251_4 x1 S) n (x2, x3, u4, u5)).1 ∧ (c251_4 x1 S (zwl (fun a => c251_4 x1 S a = true) (kw251_4 x1 S) n (x2, x3, u4, u5)) = true ∨ (n : Int) ≤ (zwl (fun a => c251_4 x1 S a = true) (kw251_4 x1 S) n (x2, x3, u4, u5)).1.toInt + 1) := by
    intro n
    induction n with
    | zero => exact ⟨h0, Or.inr (by have := h0.1; show ((0 : Nat) : Int) ≤ x2.toInt + 1; omega)⟩
    | succ n ih =>
      obtain ⟨h1, h2⟩ := ih
      unfold zwl
      by_cases hc : c251_4 x1 S (zwl (fun a => c251_4 x1 S a = true) (kw251_4 x1 S) n (x2, x3, u4, u5)) = true
      · rw [if_pos hc]; exact ⟨h1, Or.inl hc⟩
      · rw [if_neg hc]
        have h3 := h2.resolve_left hc
        obtain ⟨h4, h5⟩ := K251_11_zn x1 (zwl (fun a => c251_4 x1 S a = true) (kw251_4 x1 S) n (x2, x3, u4, u5)).1 (zwl (fun a => c251_4 x1 S a = true) (kw251_4 x1 S) n (x2, x3, u4, u5)).1 (zwl (fun a => c251_4 x1 S a = true) (kw251_4 x1 S) n (x2, x3, u4, u5)).2.2.2 S h1
        refine ⟨h4, ?_⟩
        by_cases he : (zwl (fun a => c251_4 x1 S a = true) (kw251_4 x1 S) n (x2, x3, u4, u5)).1 = K251_11_c2 x1 (zwl (fun a => c251_4 x1 S a = true) (kw251_4 x1 S) n (x2, x3, u4, u5)).1 (zwl (fun a => c251_4 x1 S a = true) (kw251_4 x1 S) n (x2, x3, u4, u5)).1 (zwl (fun a => c251_4 x1 S a = true) (kw251_4 x1 S) n (x2, x3, u4, u5)).2.2.2 0 S
        · exact Or.inl (decide_eq_true he)
        · refine Or.inr ?_
          have h6 : (zwl (fun a => c251_4 x1 S a = true) (kw251_4 x1 S) n (x2, x3, u4, u5)).1.toInt ≠ (K251_11_c2 x1 (zwl (fun a => c251_4 x1 S a = true) (kw251_4 x1 S) n (x2, x3, u4, u5)).1 (zwl (fun a => c251_4 x1 S a = true) (kw251_4 x1 S) n (x2, x3, u4, u5)).1 (zwl (fun a => c251_4 x1 S a = true) (kw251_4 x1 S) n (x2, x3, u4, u5)).2.2.2 0 S).toInt := fun h9 => he (zk_eq.mpr h9)
          show ((n + 1 : Nat) : Int) ≤ (K251_11_c2 x1 (zwl (fun a => c251_4 x1 S a = true) (kw251_4 x1 S) n (x2, x3, u4, u5)).1 (zwl (fun a => c251_4 x1 S a = true) (kw251_4 x1 S) n (x2, x3, u4, u5)).1 (zwl (fun a => c251_4 x1 S a = true) (kw251_4 x1 S) n (x2, x3, u4, u5)).2.2.2 0 S).toInt + 1
          omega
  have hend : c251_4 x1 S (zwl (fun a => c251_4 x1 S a = true) (kw251_4 x1 S) 17 (x2, x3, u4, u5)) = true := by
    obtain ⟨h1, h2⟩ := hI 17
    rcases h2 with h2 | h2
    · exact h2
    · unfold zn at h1; omega
  refine zt_trans (lw251_4 x1 S 17 (x2, x3, u4, u5)) ?_
  exact zt_cast (s251_4 x1 _ _ _ _ S) (if_pos (of_decide_eq_true hend))
set_option maxRecDepth 100000 in
theorem f251 {L : Nat} (a : Int32) (S : zS) : zf L 251 [.inr (.inr 13), .inl a] S (.inl (some (.inl (K251_4_c2 a 0 (-1) (none : Option zV) (none : Option zV) S))), S, 0) := zf_of (en_251 _ _) (zr_0 i251_0 kc_0 (zr_3_2 i251_1 (zr_0 i251_2 kc_m1 (zr_3_3 i251_3 (zt_trans (L251_4 a 0 (-1) (none : Option zV) (none : Option zV)  S  (zn_15_0)) (zr_1_2 i251_48 (zr_25 i251_49)))))))
set_option maxRecDepth 100000 in
theorem s252_26 {L : Nat} (x1 x2 x3 x4 x5 : Int32) (S : zS) (g0 : (¬ (4 ≤ x5)) → (((zshr x4 x5) &&& 1) = 1) → zx 4 x5) : zt L 252 26 [some (.inr (.inr 13)), some (.inl x1), some (.inl x2), some (.inl x3), some (.inl x4), some (.inl x5)] [] S (if (4 ≤ x5) then (.inl (47, [some (.inr (.inr 13)), some (.inl x1), some (.inl x2), some (.inl x3), some (.inl x4), some (.inl x5)], [], S)) else (.inl (26, [some (.inr (.inr 13)), some (.inl x1), some (.inl (x2 ||| (if (((zshr x4 x5) &&& 1) = 1) then ((S 105 x5.toNatClampNeg) : Int32) else 0))), some (.inl x3), some (.inl x4), some (.inl (x5 + 1))], [], S))) := zr_1_5 i252_26 (zr_0 i252_27 kc_4 (zr_19_3 i252_28 (fun h2437 => zt_rfl) (fun h2438 => zr_1_2 i252_29 (zr_1_4 i252_30 (zr_1_5 i252_31 (zr_13_9 i252_32 (zr_0 i252_33 kc_1 (zr_13_5 i252_34 (zr_0 i252_35 kc_1 (zt_trans (zt_cast (zr_19_1 i252_36 (fun h2439 => zr_2_0 i252_37 (zr_6r i252_38 fl_13_41 (zr_1_5 i252_39 (zr_8 i252_40 ar_105 (g0 h2438 h2439) rfl rfl (zr_17 i252_41 (zt_rfl)))))) (fun h2440 => zr_0 i252_42 kc_0 (zt_rfl))) (zm_c zz_s (zl_c (zl_t zz_e) zz_s) zz_s)) (zr_13_6 i252_43 (zr_3_2 i252_44 (zr_5_5 i252_45 kc_1 (zr_17 i252_46 (zt_rfl)))))))))))))))
def k252_26 (x1 x3 x4 : Int32) (S : zS) (j : Nat) (a : Int32) : Int32 := (a ||| (if (((zshr x4 (Int32.ofNat j)) &&& 1) = 1) then ((S 105 j) : Int32) else 0))
set_option maxRecDepth 100000 in
theorem l252_26 {L : Nat} (x1 x3 x4 : Int32) (S : zS) (i0 n : Nat) (a : Int32) (hn : i0 + n < 2147483648) (hc0 : ∀ j, j < n → ¬ (4 ≤ (Int32.ofNat (i0 + j)))) (g0 : ∀ j, j < n → (¬ (4 ≤ (Int32.ofNat (i0 + j)))) → (((zshr x4 (Int32.ofNat (i0 + j))) &&& 1) = 1) → zx 4 (Int32.ofNat (i0 + j))) : zt L 252 26 [some (.inr (.inr 13)), some (.inl x1), some (.inl a), some (.inl x3), some (.inl x4), some (.inl (Int32.ofNat i0))] [] S (.inl (26, [some (.inr (.inr 13)), some (.inl x1), some (.inl (zfold (k252_26 x1 x3 x4 S) i0 n a)), some (.inl x3), some (.inl x4), some (.inl (Int32.ofNat (i0 + n)))], [], S)) := by
  induction n with
  | zero => exact zt_rfl
  | succ n ih =>
    have e1 := zk_ix (i0 + n) (by omega)
    have e2 := zk_add (i0 + n)
    refine zt_trans (ih (by omega) (fun j hj => hc0 j (by omega)) (fun j hj => g0 j (by omega))) ?_
    refine zt_cast (s252_26 x1 (zfold (k252_26 x1 x3 x4 S) i0 n a) x3 x4 (Int32.ofNat (i0 + n)) S (by have hg := g0 n (by omega); first | exact hg | (simp only [e1]; exact hg))) ?_
    rw [if_neg (show ¬ (4 ≤ (Int32.ofNat (i0 + n))) from (by have hg := hc0 n (by omega); first | exact hg | (simp only [e1]; exact hg)))]
    simp only [zfold, k252_26, e1, e2, ← Nat.add_assoc]
def K252_26 (x1 x2 x3 x4 : Int32) (i0 : Nat) (S : zS) : Int32 := zfold (k252_26 x1 x3 x4 S) i0 (4 - i0) x2
def K252_26_c2 (x1 x2 x3 x4 : Int32) (i0 : Nat) (S : zS) : Int32 := (K252_26 x1 x2 x3 x4 i0 S)
set_option maxRecDepth 100000 in
theorem L252_26 {L : Nat} (x1 x2 x3 x4 : Int32) (i0 : Nat) (S : zS) (hi : i0 ≤ 10000) : zt L 252 26 [some (.inr (.inr 13)), some (.inl x1), some (.inl x2), some (.inl x3), some (.inl x4), some (.inl (Int32.ofNat i0))] [] S (.inl (47, [some (.inr (.inr 13)), some (.inl x1), some (.inl (K252_26_c2 x1 x2 x3 x4 i0 S)), some (.inl x3), some (.inl x4), some (.inl (Int32.ofNat (i0 + (4 - i0))))], [], S)) := by
  have hend : 4 ≤ Int32.ofNat (i0 + (4 - i0)) := by exact zc_le_end (show zn 4 4 from by unfold zn; decide) (by omega)
  refine zt_trans (l252_26 x1 x3 x4  S i0 (4 - i0) x2 (by omega) (fun j hj => by exact zc_le (show zn 4 4 from by unfold zn; decide) hj (by omega)) (fun j hj _ _ => by exact zx_of (by omega) (by omega))) ?_
  exact zt_cast (s252_26 x1 (zfold (k252_26 x1 x3 x4 S) i0 (4 - i0) x2) x3 x4 (Int32.ofNat (i0 + (4 - i0))) S (fun h9 => absurd hend h9)) (if_pos hend)
def F252 (a : Int32) (S : zS) : Int32 := (if ((S 111 a.toNatClampNeg) = (-1)) then ((S 112 a.toNatClampNeg) : Int32) else (K252_26_c2 a ((S 112 a.toNatClampNeg) ||| (S 104 (S 111 a.toNatClampNeg).toNatClampNeg)) (S 111 a.toNatClampNeg) (K251_4_c2 (S 111 a.toNatClampNeg) 0 (-1) (none : Option zV) (none : Option zV) S) 0 S))
set_option maxRecDepth 100000 in
theorem f252 {L : Nat} (a : Int32) (S : zS) (g0 : zx 40 a) (g1 : (¬ ((S 111 a.toNatClampNeg) = (-1))) → zx 8 (S 111 a.toNatClampNeg)) : zf L 252 [.inr (.inr 13), .inl a] S (.inl (some (.inl (F252 a S))), S, 0) := zf_of (en_252 _ _) (zr_2_0 i252_0 (zr_6r i252_1 fl_13_49 (zr_1_1 i252_2 (zr_8 i252_3 ar_112 (g0) rfl rfl (zr_3_2 i252_4 (zr_2_0 i252_5 (zr_6r i252_6 fl_13_48 (zr_1_1 i252_7 (zr_8 i252_8 ar_111 (g0) rfl rfl (zr_3_3 i252_9 (zr_1_3 i252_10 (zr_0 i252_11 kc_m1 (zt_trans (zt_cast (zr_19_0 i252_12 (fun h2441 => zt_rfl) (fun h2442 => zr_2_0 i252_13 (zr_1_3 i252_14 (zr_cv (zs_21_1 i252_15 na_251 ob_13 rfl) (f251 (S 111 a.toNatClampNeg) S ) (zr_3_4 i252_16 (zr_1_2 i252_17 (zr_2_0 i252_18 (zr_6r i252_19 fl_13_40 (zr_1_3 i252_20 (zr_8 i252_21 ar_104 (g1 h2442) rfl rfl (zr_13_6 i252_22 (zr_3_2 i252_23 (zr_0 i252_24 kc_0 (zr_3_5 i252_25 (zt_trans (L252_26 a ((S 112 a.toNatClampNeg) ||| (S 104 (S 111 a.toNatClampNeg).toNatClampNeg)) (S 111 a.toNatClampNeg) (K251_4_c2 (S 111 a.toNatClampNeg) 0 (-1) (none : Option zV) (none : Option zV) S) 0 S (by decide) ) (zt_rfl)))))))))))))))) (zm_c (zl_c zz_s (zl_c zz_s (zl_c (zl_v zz_e) (zl_c zz_s (zl_c zz_e (zl_c zz_e zz_s)))))) zz_s zz_s)) (zr_1_2 i252_47 (zr_25 i252_48)))))))))))))))
def F255 (a b c : Int32) (S : zS) : Int32 := (zb (((((S 102 ((5 * a) + 0).toNatClampNeg) = 8) ∨ (((S 102 ((5 * a) + 0).toNatClampNeg) = 6) ∨ (if ((S 102 ((5 * a) + 0).toNatClampNeg) = 7) then ((¬ (c = (-1))) ∧ ((zrem c 6) = (if (0 = 0) then ((b / 36) : Int32) else (if (0 = 1) then ((zrem (b / 6) 6) : Int32) else (zrem b 6))))) else ((S 102 ((5 * a) + 0).toNatClampNeg) = (if (0 = 0) then ((b / 36) : Int32) else (if (0 = 1) then ((zrem (b / 6) 6) : Int32) else (zrem b 6))))))) ∧ ((((S 102 ((5 * a) + 0).toNatClampNeg) = 8) ∨ ((S 102 ((5 * a) + 1).toNatClampNeg) = 8)) ∨ (((S 102 ((5 * a) + 1).toNatClampNeg) = 6) ∨ (if ((S 102 ((5 * a) + 1).toNatClampNeg) = 7) then ((¬ (c = (-1))) ∧ ((zrem c 6) = (if (1 = 0) then ((b / 36) : Int32) else (if (1 = 1) then ((zrem (b / 6) 6) : Int32) else (zrem b 6))))) else ((S 102 ((5 * a) + 1).toNatClampNeg) = (if (1 = 0) then ((b / 36) : Int32) else (if (1 = 1) then ((zrem (b / 6) 6) : Int32) else (zrem b 6)))))))) ∧ (((((S 102 ((5 * a) + 0).toNatClampNeg) = 8) ∨ ((S 102 ((5 * a) + 1).toNatClampNeg) = 8)) ∨ ((S 102 ((5 * a) + 2).toNatClampNeg) = 8)) ∨ (((S 102 ((5 * a) + 2).toNatClampNeg) = 6) ∨ (if ((S 102 ((5 * a) + 2).toNatClampNeg) = 7) then ((¬ (c = (-1))) ∧ ((zrem c 6) = (if (2 = 0) then ((b / 36) : Int32) else (if (2 = 1) then ((zrem (b / 6) 6) : Int32) else (zrem b 6))))) else ((S 102 ((5 * a) + 2).toNatClampNeg) = (if (2 = 0) then ((b / 36) : Int32) else (if (2 = 1) then ((zrem (b / 6) 6) : Int32) else (zrem b 6)))))))))
set_option maxRecDepth 100000 in
theorem f255 {L : Nat} (a b c : Int32) (S : zS) (g0 : zx 200 ((5 * a) + 0)) (g1 : zx 200 ((5 * a) + 1)) (g2 : zx 200 ((5 * a) + 2)) : zf L 255 [.inr (.inr 13), .inl a, .inl b, .inl c] S (.inl (some (.inl (F255 a b c S))), S, 0) := zf_of (en_255 _ _ _ _) (zr_0 i255_0 kc_1 (zr_3_4 i255_1 (zr_0 i255_2 kc_0 (zr_3_5 i255_3 (zr_0 i255_4 kc_0 (zr_3_6 i255_5 (zr_1_6 i255_6 (zr_0 i255_7 kc_3 (zr_19f_3 i255_8 (by decide) (zr_2_0 i255_9 (zr_6r i255_10 fl_13_38 (zr_0 i255_11 kc_5 (zr_1_1 i255_12 (zr_13_2 i255_13 (zr_1_6 i255_14 (zr_13_0 i255_15 (zr_8 i255_16 ar_102 (g0) rfl rfl (zr_3_7 i255_17 (zr_1_5 i255_18 (zr_18f_1 i255_19 (by decide) (zr_1_7 i255_20 (zr_0 i255_21 kc_8 (zt_trans (zt_cast (zr_19_1 i255_22 (fun h2443 => zr_0 i255_23 kc_1 (zr_17 i255_24 (zt_rfl))) (fun h2444 => zr_0 i255_25 kc_0 (zt_rfl))) (zm_c zz_s (zl_c (zl_t zz_10) zz_s) zz_s)) (zr_3_5 i255_26 (zr_1_7 i255_27 (zr_0 i255_28 kc_6 (zt_trans (zt_cast (zr_19_0 i255_29 (fun h2445 => zr_0 i255_49 kc_1 (zr_17 i255_50 (zt_rfl))) (fun h2446 => zr_1_7 i255_30 (zr_0 i255_31 kc_7 (zt_cast (zr_19_1 i255_32 (fun h2447 => zr_1_3 i255_33 (zr_0 i255_34 kc_m1 (zt_cast (zr_19_0 i255_35 (fun h2449 => zr_0 i255_51 kc_0 (zt_rfl)) (fun h2450 => zr_1_3 i255_36 (zr_0 i255_37 kc_6 (zr_13_4 i255_38 nz_6 (zr_1_2 i255_39 (zr_1_6 i255_40 (zr_cv (zs_22_2 i255_41 na_253 rfl) (f253 b 0 S ) (zt_cast (zr_19_1 i255_42 (fun h2451 => zr_17 i255_43 (zr_0 i255_49 kc_1 (zr_17 i255_50 (zt_rfl)))) (fun h2452 => zr_0 i255_51 kc_0 (zt_rfl))) (zm_c zz_s (zl_c (zl_t zz_10) zz_s) zz_s))))))))) (zm_c zz_s (zl_c (zl_t zz_0b) zz_s) zz_s)))) (fun h2448 => zr_1_7 i255_44 (zr_1_2 i255_45 (zr_1_6 i255_46 (zr_cv (zs_22_2 i255_47 na_253 rfl) (f253 b 0 S ) (zt_cast (zr_19_1 i255_48 (fun h2453 => zr_0 i255_49 kc_1 (zr_17 i255_50 (zt_rfl))) (fun h2454 => zr_0 i255_51 kc_0 (zt_rfl))) (zm_c zz_s (zl_c (zl_t zz_10) zz_s) zz_s))))))) (zm_c zz_s (zl_c (zl_t zz_bb) zz_s) zz_s))))) (zm_c zz_s (zl_c (zl_t zz_1b) zz_s) zz_s)) (zr_3_8 i255_52 (zr_1_4 i255_53 (zr_18f_0 i255_54 (by decide) (zr_1_5 i255_55 (zt_trans (zt_cast (zr_18b_1 i255_56 (fun h2455 => zr_0 i255_59 kc_1 (zr_17 i255_60 (zt_rfl))) (fun h2456 => zr_1_8 i255_57 (zt_cast (zr_18b_0 i255_58 (fun h2457 => zr_0 i255_59 kc_1 (zr_17 i255_60 (zt_rfl))) (fun h2458 => zr_0 i255_61 kc_0 (zt_rfl))) (zm_c zz_s (zl_c (zl_t zz_10) zz_s) zz_s)))) (zm_c zz_s (zl_c (zl_t zz_1b) zz_s) zz_s)) (zr_3_4 i255_62 (zr_5c_6 i255_63 kc_1 ka_0_1 (zr_17 i255_64 (zr_1_6 i255_6 (zr_0 i255_7 kc_3 (zr_19f_3 i255_8 (by decide) (zr_2_0 i255_9 (zr_6r i255_10 fl_13_38 (zr_0 i255_11 kc_5 (zr_1_1 i255_12 (zr_13_2 i255_13 (zr_1_6 i255_14 (zr_13_0 i255_15 (zr_8 i255_16 ar_102 (g1) rfl rfl (zr_3_7 i255_17 (zr_1_5 i255_18 (zt_trans (zt_cast (zr_18b_1 i255_19 (fun h2459 => zr_0 i255_23 kc_1 (zr_17 i255_24 (zt_rfl))) (fun h2460 => zr_1_7 i255_20 (zr_0 i255_21 kc_8 (zt_cast (zr_19_1 i255_22 (fun h2461 => zr_0 i255_23 kc_1 (zr_17 i255_24 (zt_rfl))) (fun h2462 => zr_0 i255_25 kc_0 (zt_rfl))) (zm_c zz_s (zl_c (zl_t zz_10) zz_s) zz_s))))) (zm_c zz_s (zl_c (zl_t zz_1b) zz_s) zz_s)) (zr_3_5 i255_26 (zr_1_7 i255_27 (zr_0 i255_28 kc_6 (zt_trans (zt_cast (zr_19_0 i255_29 (fun h2463 => zr_0 i255_49 kc_1 (zr_17 i255_50 (zt_rfl))) (fun h2464 => zr_1_7 i255_30 (zr_0 i255_31 kc_7 (zt_cast (zr_19_1 i255_32 (fun h2465 => zr_1_3 i255_33 (zr_0 i255_34 kc_m1 (zt_cast (zr_19_0 i255_35 (fun h2467 => zr_0 i255_51 kc_0 (zt_rfl)) (fun h2468 => zr_1_3 i255_36 (zr_0 i255_37 kc_6 (zr_13_4 i255_38 nz_6 (zr_1_2 i255_39 (zr_1_6 i255_40 (zr_cv (zs_22_2 i255_41 na_253 rfl) (f253 b 1 S ) (zt_cast (zr_19_1 i255_42 (fun h2469 => zr_17 i255_43 (zr_0 i255_49 kc_1 (zr_17 i255_50 (zt_rfl)))) (fun h2470 => zr_0 i255_51 kc_0 (zt_rfl))) (zm_c zz_s (zl_c (zl_t zz_10) zz_s) zz_s))))))))) (zm_c zz_s (zl_c (zl_t zz_0b) zz_s) zz_s)))) (fun h2466 => zr_1_7 i255_44 (zr_1_2 i255_45 (zr_1_6 i255_46 (zr_cv (zs_22_2 i255_47 na_253 rfl) (f253 b 1 S ) (zt_cast (zr_19_1 i255_48 (fun h2471 => zr_0 i255_49 kc_1 (zr_17 i255_50 (zt_rfl))) (fun h2472 => zr_0 i255_51 kc_0 (zt_rfl))) (zm_c zz_s (zl_c (zl_t zz_10) zz_s) zz_s))))))) (zm_c zz_s (zl_c (zl_t zz_bb) zz_s) zz_s))))) (zm_c zz_s (zl_c (zl_t zz_1b) zz_s) zz_s)) (zr_3_8 i255_52 (zr_1_4 i255_53 (zt_trans (zt_cast (zr_18b_0 i255_54 (fun h2473 => zr_1_5 i255_55 (zt_cast (zr_18b_1 i255_56 (fun h2475 => zr_0 i255_59 kc_1 (zr_17 i255_60 (zt_rfl))) (fun h2476 => zr_1_8 i255_57 (zt_cast (zr_18b_0 i255_58 (fun h2477 => zr_0 i255_59 kc_1 (zr_17 i255_60 (zt_rfl))) (fun h2478 => zr_0 i255_61 kc_0 (zt_rfl))) (zm_c zz_s (zl_c (zl_t zz_10) zz_s) zz_s)))) (zm_c zz_s (zl_c (zl_t zz_1b) zz_s) zz_s))) (fun h2474 => zr_0 i255_61 kc_0 (zt_rfl))) (zm_c zz_s (zl_c (zl_t zz_b0) zz_s) zz_s)) (zr_3_4 i255_62 (zr_5c_6 i255_63 kc_1 ka_1_1 (zr_17 i255_64 (zr_1_6 i255_6 (zr_0 i255_7 kc_3 (zr_19f_3 i255_8 (by decide) (zr_2_0 i255_9 (zr_6r i255_10 fl_13_38 (zr_0 i255_11 kc_5 (zr_1_1 i255_12 (zr_13_2 i255_13 (zr_1_6 i255_14 (zr_13_0 i255_15 (zr_8 i255_16 ar_102 (g2) rfl rfl (zr_3_7 i255_17 (zr_1_5 i255_18 (zt_trans (zt_cast (zr_18b_1 i255_19 (fun h2479 => zr_0 i255_23 kc_1 (zr_17 i255_24 (zt_rfl))) (fun h2480 => zr_1_7 i255_20 (zr_0 i255_21 kc_8 (zt_cast (zr_19_1 i255_22 (fun h2481 => zr_0 i255_23 kc_1 (zr_17 i255_24 (zt_rfl))) (fun h2482 => zr_0 i255_25 kc_0 (zt_rfl))) (zm_c zz_s (zl_c (zl_t zz_10) zz_s) zz_s))))) (zm_c zz_s (zl_c (zl_t zz_1b) zz_s) zz_s)) (zr_3_5 i255_26 (zr_1_7 i255_27 (zr_0 i255_28 kc_6 (zt_trans (zt_cast (zr_19_0 i255_29 (fun h2483 => zr_0 i255_49 kc_1 (zr_17 i255_50 (zt_rfl))) (fun h2484 => zr_1_7 i255_30 (zr_0 i255_31 kc_7 (zt_cast (zr_19_1 i255_32 (fun h2485 => zr_1_3 i255_33 (zr_0 i255_34 kc_m1 (zt_cast (zr_19_0 i255_35 (fun h2487 => zr_0 i255_51 kc_0 (zt_rfl)) (fun h2488 => zr_1_3 i255_36 (zr_0 i255_37 kc_6 (zr_13_4 i255_38 nz_6 (zr_1_2 i255_39 (zr_1_6 i255_40 (zr_cv (zs_22_2 i255_41 na_253 rfl) (f253 b 2 S ) (zt_cast (zr_19_1 i255_42 (fun h2489 => zr_17 i255_43 (zr_0 i255_49 kc_1 (zr_17 i255_50 (zt_rfl)))) (fun h2490 => zr_0 i255_51 kc_0 (zt_rfl))) (zm_c zz_s (zl_c (zl_t zz_10) zz_s) zz_s))))))))) (zm_c zz_s (zl_c (zl_t zz_0b) zz_s) zz_s)))) (fun h2486 => zr_1_7 i255_44 (zr_1_2 i255_45 (zr_1_6 i255_46 (zr_cv (zs_22_2 i255_47 na_253 rfl) (f253 b 2 S ) (zt_cast (zr_19_1 i255_48 (fun h2491 => zr_0 i255_49 kc_1 (zr_17 i255_50 (zt_rfl))) (fun h2492 => zr_0 i255_51 kc_0 (zt_rfl))) (zm_c zz_s (zl_c (zl_t zz_10) zz_s) zz_s))))))) (zm_c zz_s (zl_c (zl_t zz_bb) zz_s) zz_s))))) (zm_c zz_s (zl_c (zl_t zz_1b) zz_s) zz_s)) (zr_3_8 i255_52 (zr_1_4 i255_53 (zt_trans (zt_cast (zr_18b_0 i255_54 (fun h2493 => zr_1_5 i255_55 (zt_cast (zr_18b_1 i255_56 (fun h2495 => zr_0 i255_59 kc_1 (zr_17 i255_60 (zt_rfl))) (fun h2496 => zr_1_8 i255_57 (zt_cast (zr_18b_0 i255_58 (fun h2497 => zr_0 i255_59 kc_1 (zr_17 i255_60 (zt_rfl))) (fun h2498 => zr_0 i255_61 kc_0 (zt_rfl))) (zm_c zz_s (zl_c (zl_t zz_10) zz_s) zz_s)))) (zm_c zz_s (zl_c (zl_t zz_1b) zz_s) zz_s))) (fun h2494 => zr_0 i255_61 kc_0 (zt_rfl))) (zm_c zz_s (zl_c (zl_t zz_b0) zz_s) zz_s)) (zr_3_4 i255_62 (zr_5c_6 i255_63 kc_1 ka_2_1 (zr_17 i255_64 (zr_1_6 i255_6 (zr_0 i255_7 kc_3 (zr_19t_3 i255_8 (by decide) (zr_1_4 i255_65 (zr_26 i255_66 (zb_01 _)))))))))))))))))))))))))))))))))))))))))))))))))))))))))))))))))))))))))))))))))))))))))
def F256 (a b : Int32) (S : zS) : Int32 := (if (((F254 a 0 S) - (F254 b 0 S)) = 0) then ((if ((F254 a 0 S) = 0) then (0 : Int32) else (if (((F254 a 1 S) - (F254 b 1 S)) = 0) then ((if ((F254 a 1 S) = 0) then (0 : Int32) else (if (((F254 a 2 S) - (F254 b 2 S)) = 0) then (0 : Int32) else (if (((F254 a 2 S) - (F254 b 2 S)) ≤ 0) then ((-1) : Int32) else 1))) : Int32) else (if (((F254 a 1 S) - (F254 b 1 S)) ≤ 0) then ((-1) : Int32) else 1))) : Int32) else (if (((F254 a 0 S) - (F254 b 0 S)) ≤ 0) then ((-1) : Int32) else 1))
set_option maxRecDepth 100000 in
theorem f256 {L : Nat} (a b : Int32) (S : zS) (g0 : zx 200 ((5 * a) + 0)) (g1 : zx 200 ((5 * b) + 0)) (g2 : (((F254 a 0 S) - (F254 b 0 S)) = 0) → (¬ ((F254 a 0 S) = 0)) → zx 200 ((5 * a) + 1)) (g3 : (((F254 a 0 S) - (F254 b 0 S)) = 0) → (¬ ((F254 a 0 S) = 0)) → zx 200 ((5 * b) + 1)) (g4 : (((F254 a 0 S) - (F254 b 0 S)) = 0) → (¬ ((F254 a 0 S) = 0)) → (((F254 a 1 S) - (F254 b 1 S)) = 0) → (¬ ((F254 a 1 S) = 0)) → zx 200 ((5 * a) + 2)) (g5 : (((F254 a 0 S) - (F254 b 0 S)) = 0) → (¬ ((F254 a 0 S) = 0)) → (((F254 a 1 S) - (F254 b 1 S)) = 0) → (¬ ((F254 a 1 S) = 0)) → zx 200 ((5 * b) + 2)) : zf L 256 [.inr (.inr 13), .inl a, .inl b] S (.inl (some (.inl (F256 a b S))), S, 0) := zf_of (en_256 _ _ _) (zr_0 i256_0 kc_0 (zr_3_3 i256_1 (zr_1_3 i256_2 (zr_0 i256_3 kc_3 (zr_19f_3 i256_4 (by decide) (zr_2_0 i256_5 (zr_1_1 i256_6 (zr_1_3 i256_7 (zr_cv (zs_21_2 i256_8 na_254 ob_13 rfl) (f254 a 0 S (g0)) (zr_2_0 i256_9 (zr_1_2 i256_10 (zr_1_3 i256_11 (zr_cv (zs_21_2 i256_12 na_254 ob_13 rfl) (f254 b 0 S (g1)) (zr_13_1 i256_13 (zr_3_4 i256_14 (zr_1_4 i256_15 (zt_cast (zr_18_0 i256_16 (fun h2499 => zr_2_0 i256_23 (zr_1_1 i256_24 (zr_1_3 i256_25 (zr_cv (zs_21_2 i256_26 na_254 ob_13 rfl) (f254 a 0 S (g0)) (zt_cast (zr_18_1 i256_27 (fun h2501 => zr_0 i256_28 kc_0 (zr_25 i256_29)) (fun h2502 => zr_5c_3 i256_30 kc_1 ka_0_1 (zr_17 i256_31 (zr_1_3 i256_2 (zr_0 i256_3 kc_3 (zr_19f_3 i256_4 (by decide) (zr_2_0 i256_5 (zr_1_1 i256_6 (zr_1_3 i256_7 (zr_cv (zs_21_2 i256_8 na_254 ob_13 rfl) (f254 a 1 S (g2 h2499 h2502)) (zr_2_0 i256_9 (zr_1_2 i256_10 (zr_1_3 i256_11 (zr_cv (zs_21_2 i256_12 na_254 ob_13 rfl) (f254 b 1 S (g3 h2499 h2502)) (zr_13_1 i256_13 (zr_3_4 i256_14 (zr_1_4 i256_15 (zt_cast (zr_18_0 i256_16 (fun h2503 => zr_2_0 i256_23 (zr_1_1 i256_24 (zr_1_3 i256_25 (zr_cv (zs_21_2 i256_26 na_254 ob_13 rfl) (f254 a 1 S (g2 h2499 h2502)) (zt_cast (zr_18_1 i256_27 (fun h2505 => zr_0 i256_28 kc_0 (zr_25 i256_29)) (fun h2506 => zr_5c_3 i256_30 kc_1 ka_1_1 (zr_17 i256_31 (zr_1_3 i256_2 (zr_0 i256_3 kc_3 (zr_19f_3 i256_4 (by decide) (zr_2_0 i256_5 (zr_1_1 i256_6 (zr_1_3 i256_7 (zr_cv (zs_21_2 i256_8 na_254 ob_13 rfl) (f254 a 2 S (g4 h2499 h2502 h2503 h2506)) (zr_2_0 i256_9 (zr_1_2 i256_10 (zr_1_3 i256_11 (zr_cv (zs_21_2 i256_12 na_254 ob_13 rfl) (f254 b 2 S (g5 h2499 h2502 h2503 h2506)) (zr_13_1 i256_13 (zr_3_4 i256_14 (zr_1_4 i256_15 (zt_cast (zr_18_0 i256_16 (fun h2507 => zr_2_0 i256_23 (zr_1_1 i256_24 (zr_1_3 i256_25 (zr_cv (zs_21_2 i256_26 na_254 ob_13 rfl) (f254 a 2 S (g4 h2499 h2502 h2503 h2506)) (zt_cast (zr_18_1 i256_27 (fun h2509 => zr_0 i256_28 kc_0 (zr_25 i256_29)) (fun h2510 => zr_5c_3 i256_30 kc_1 ka_2_1 (zr_17 i256_31 (zr_1_3 i256_2 (zr_0 i256_3 kc_3 (zr_19t_3 i256_4 (by decide) (zr_0 i256_32 kc_0 (zr_25 i256_33)))))))) (zm_r zz_s zz_s)))))) (fun h2508 => zr_1_4 i256_17 (zt_trans (zt_cast (zr_18_5 i256_18 (fun h2511 => zr_0 i256_21 kc_m1 (zt_rfl)) (fun h2512 => zr_0 i256_19 kc_1 (zr_17 i256_20 (zt_rfl)))) (zm_c zz_s (zl_c (zl_t zz_e) zz_s) zz_s)) (zr_25 i256_22)))) (zm_r zz_e zz_s))))))))))))))))))) (zm_r zz_e zz_s)))))) (fun h2504 => zr_1_4 i256_17 (zt_trans (zt_cast (zr_18_5 i256_18 (fun h2513 => zr_0 i256_21 kc_m1 (zt_rfl)) (fun h2514 => zr_0 i256_19 kc_1 (zr_17 i256_20 (zt_rfl)))) (zm_c zz_s (zl_c (zl_t zz_e) zz_s) zz_s)) (zr_25 i256_22)))) (zm_r zz_e zz_s))))))))))))))))))) (zm_r zz_e zz_s)))))) (fun h2500 => zr_1_4 i256_17 (zt_trans (zt_cast (zr_18_5 i256_18 (fun h2515 => zr_0 i256_21 kc_m1 (zt_rfl)) (fun h2516 => zr_0 i256_19 kc_1 (zr_17 i256_20 (zt_rfl)))) (zm_c zz_s (zl_c (zl_t zz_e) zz_s) zz_s)) (zr_25 i256_22)))) (zm_r zz_e zz_s))))))))))))))))))
set_option maxRecDepth 100000 in
theorem s257_14 {L : Nat} (x1 x2 x3 x4 x5 x6 x7 x8 : Int32) (u9 u10 : Option zV) (S : zS) (g0 : (¬ (40 ≤ x8)) → (((zshr x3 (x8 / 5)) &&& 1) = 1) → zx 8 (x8 / 5)) (g1 : (¬ (40 ≤ x8)) → (((zshr x3 (x8 / 5)) &&& 1) = 1) → (¬ ((S 101 (x8 / 5).toNatClampNeg) ≤ (zrem x8 5))) → zx 40 x1) (g2 : (¬ (40 ≤ x8)) → (((zshr x3 (x8 / 5)) &&& 1) = 1) → (¬ ((S 101 (x8 / 5).toNatClampNeg) ≤ (zrem x8 5))) → zx 200 ((5 * x8) + 0)) (g3 : (¬ (40 ≤ x8)) → (((zshr x3 (x8 / 5)) &&& 1) = 1) → (¬ ((S 101 (x8 / 5).toNatClampNeg) ≤ (zrem x8 5))) → zx 200 ((5 * x8) + 1)) (g4 : (¬ (40 ≤ x8)) → (((zshr x3 (x8 / 5)) &&& 1) = 1) → (¬ ((S 101 (x8 / 5).toNatClampNeg) ≤ (zrem x8 5))) → zx 200 ((5 * x8) + 2)) (g5 : (¬ (40 ≤ x8)) → ((((zshr x3 (x8 / 5)) &&& 1) = 1) ∧ ((¬ ((S 101 (x8 / 5).toNatClampNeg) ≤ (zrem x8 5))) ∧ (¬ ((F255 x8 x2 (S 111 x1.toNatClampNeg) S) = 0)))) → (¬ (x4 = (-1))) → zx 200 ((5 * x8) + 0)) (g6 : (¬ (40 ≤ x8)) → ((((zshr x3 (x8 / 5)) &&& 1) = 1) ∧ ((¬ ((S 101 (x8 / 5).toNatClampNeg) ≤ (zrem x8 5))) ∧ (¬ ((F255 x8 x2 (S 111 x1.toNatClampNeg) S) = 0)))) → (¬ (x4 = (-1))) → zx 200 ((5 * x4) + 0)) (g7 : (¬ (40 ≤ x8)) → ((((zshr x3 (x8 / 5)) &&& 1) = 1) ∧ ((¬ ((S 101 (x8 / 5).toNatClampNeg) ≤ (zrem x8 5))) ∧ (¬ ((F255 x8 x2 (S 111 x1.toNatClampNeg) S) = 0)))) → (¬ (x4 = (-1))) → (((F254 x8 0 S) - (F254 x4 0 S)) = 0) → (¬ ((F254 x8 0 S) = 0)) → zx 200 ((5 * x8) + 1)) (g8 : (¬ (40 ≤ x8)) → ((((zshr x3 (x8 / 5)) &&& 1) = 1) ∧ ((¬ ((S 101 (x8 / 5).toNatClampNeg) ≤ (zrem x8 5))) ∧ (¬ ((F255 x8 x2 (S 111 x1.toNatClampNeg) S) = 0)))) → (¬ (x4 = (-1))) → (((F254 x8 0 S) - (F254 x4 0 S)) = 0) → (¬ ((F254 x8 0 S) = 0)) → zx 200 ((5 * x4) + 1)) (g9 : (¬ (40 ≤ x8)) → ((((zshr x3 (x8 / 5)) &&& 1) = 1) ∧ ((¬ ((S 101 (x8 / 5).toNatClampNeg) ≤ (zrem x8 5))) ∧ (¬ ((F255 x8 x2 (S 111 x1.toNatClampNeg) S) = 0)))) → (¬ (x4 = (-1))) → (((F254 x8 0 S) - (F254 x4 0 S)) = 0) → (¬ ((F254 x8 0 S) = 0)) → (((F254 x8 1 S) - (F254 x4 1 S)) = 0) → (¬ ((F254 x8 1 S) = 0)) → zx 200 ((5 * x8) + 2)) (g10 : (¬ (40 ≤ x8)) → ((((zshr x3 (x8 / 5)) &&& 1) = 1) ∧ ((¬ ((S 101 (x8 / 5).toNatClampNeg) ≤ (zrem x8 5))) ∧ (¬ ((F255 x8 x2 (S 111 x1.toNatClampNeg) S) = 0)))) → (¬ (x4 = (-1))) → (((F254 x8 0 S) - (F254 x4 0 S)) = 0) → (¬ ((F254 x8 0 S) = 0)) → (((F254 x8 1 S) - (F254 x4 1 S)) = 0) → (¬ ((F254 x8 1 S) = 0)) → zx 200 ((5 * x4) + 2)) (g11 : (¬ (40 ≤ x8)) → (¬ ((if ((((zshr x3 (x8 / 5)) &&& 1) = 1) ∧ ((¬ ((S 101 (x8 / 5).toNatClampNeg) ≤ (zrem x8 5))) ∧ (¬ ((F255 x8 x2 (S 111 x1.toNatClampNeg) S) = 0)))) then ((if (x4 = (-1)) then (1 : Int32) else (F256 x8 x4 S)) : Int32) else (-1)) < 0)) → zx 200 ((5 * x8) + 3)) (g12 : (¬ (40 ≤ x8)) → (¬ ((if ((((zshr x3 (x8 / 5)) &&& 1) = 1) ∧ ((¬ ((S 101 (x8 / 5).toNatClampNeg) ≤ (zrem x8 5))) ∧ (¬ ((F255 x8 x2 (S 111 x1.toNatClampNeg) S) = 0)))) then ((if (x4 = (-1)) then (1 : Int32) else (F256 x8 x4 S)) : Int32) else (-1)) < 0)) → zx 200 ((5 * x8) + 4)) : zt L 257 14 [some (.inr (.inr 13)), some (.inl x1), some (.inl x2), some (.inl x3), some (.inl x4), some (.inl x5), some (.inl x6), some (.inl x7), some (.inl x8), u9, u10] [] S (if (40 ≤ x8) then (.inl (125, [some (.inr (.inr 13)), some (.inl x1), some (.inl x2), some (.inl x3), some (.inl x4), some (.inl x5), some (.inl x6), some (.inl x7), some (.inl x8), u9, u10], [], S)) else (.inl (14, [some (.inr (.inr 13)), some (.inl x1), some (.inl x2), some (.inl x3), some (.inl (if ((if ((((zshr x3 (x8 / 5)) &&& 1) = 1) ∧ ((¬ ((S 101 (x8 / 5).toNatClampNeg) ≤ (zrem x8 5))) ∧ (¬ ((F255 x8 x2 (S 111 x1.toNatClampNeg) S) = 0)))) then ((if (x4 = (-1)) then (1 : Int32) else (F256 x8 x4 S)) : Int32) else (-1)) = 1) then (x8 : Int32) else x4)), some (.inl (if ((if ((((zshr x3 (x8 / 5)) &&& 1) = 1) ∧ ((¬ ((S 101 (x8 / 5).toNatClampNeg) ≤ (zrem x8 5))) ∧ (¬ ((F255 x8 x2 (S 111 x1.toNatClampNeg) S) = 0)))) then ((if (x4 = (-1)) then (1 : Int32) else (F256 x8 x4 S)) : Int32) else (-1)) < 0) then ((if ((if ((((zshr x3 (x8 / 5)) &&& 1) = 1) ∧ ((¬ ((S 101 (x8 / 5).toNatClampNeg) ≤ (zrem x8 5))) ∧ (¬ ((F255 x8 x2 (S 111 x1.toNatClampNeg) S) = 0)))) then ((if (x4 = (-1)) then (1 : Int32) else (F256 x8 x4 S)) : Int32) else (-1)) = 1) then (0 : Int32) else x5) : Int32) else ((if ((if ((((zshr x3 (x8 / 5)) &&& 1) = 1) ∧ ((¬ ((S 101 (x8 / 5).toNatClampNeg) ≤ (zrem x8 5))) ∧ (¬ ((F255 x8 x2 (S 111 x1.toNatClampNeg) S) = 0)))) then ((if (x4 = (-1)) then (1 : Int32) else (F256 x8 x4 S)) : Int32) else (-1)) = 1) then (0 : Int32) else x5) ||| (S 102 ((5 * x8) + 3).toNatClampNeg)))), some (.inl (if ((if ((((zshr x3 (x8 / 5)) &&& 1) = 1) ∧ ((¬ ((S 101 (x8 / 5).toNatClampNeg) ≤ (zrem x8 5))) ∧ (¬ ((F255 x8 x2 (S 111 x1.toNatClampNeg) S) = 0)))) then ((if (x4 = (-1)) then (1 : Int32) else (F256 x8 x4 S)) : Int32) else (-1)) < 0) then ((if ((if ((((zshr x3 (x8 / 5)) &&& 1) = 1) ∧ ((¬ ((S 101 (x8 / 5).toNatClampNeg) ≤ (zrem x8 5))) ∧ (¬ ((F255 x8 x2 (S 111 x1.toNatClampNeg) S) = 0)))) then ((if (x4 = (-1)) then (1 : Int32) else (F256 x8 x4 S)) : Int32) else (-1)) = 1) then (0 : Int32) else x6) : Int32) else (if ((S 102 ((5 * x8) + 4).toNatClampNeg) ≤ (if ((if ((((zshr x3 (x8 / 5)) &&& 1) = 1) ∧ ((¬ ((S 101 (x8 / 5).toNatClampNeg) ≤ (zrem x8 5))) ∧ (¬ ((F255 x8 x2 (S 111 x1.toNatClampNeg) S) = 0)))) then ((if (x4 = (-1)) then (1 : Int32) else (F256 x8 x4 S)) : Int32) else (-1)) = 1) then (0 : Int32) else x6)) then ((if ((if ((((zshr x3 (x8 / 5)) &&& 1) = 1) ∧ ((¬ ((S 101 (x8 / 5).toNatClampNeg) ≤ (zrem x8 5))) ∧ (¬ ((F255 x8 x2 (S 111 x1.toNatClampNeg) S) = 0)))) then ((if (x4 = (-1)) then (1 : Int32) else (F256 x8 x4 S)) : Int32) else (-1)) = 1) then (0 : Int32) else x6) : Int32) else (S 102 ((5 * x8) + 4).toNatClampNeg)))), some (.inl (if ((if ((((zshr x3 (x8 / 5)) &&& 1) = 1) ∧ ((¬ ((S 101 (x8 / 5).toNatClampNeg) ≤ (zrem x8 5))) ∧ (¬ ((F255 x8 x2 (S 111 x1.toNatClampNeg) S) = 0)))) then ((if (x4 = (-1)) then (1 : Int32) else (F256 x8 x4 S)) : Int32) else (-1)) < 0) then ((if ((if ((((zshr x3 (x8 / 5)) &&& 1) = 1) ∧ ((¬ ((S 101 (x8 / 5).toNatClampNeg) ≤ (zrem x8 5))) ∧ (¬ ((F255 x8 x2 (S 111 x1.toNatClampNeg) S) = 0)))) then ((if (x4 = (-1)) then (1 : Int32) else (F256 x8 x4 S)) : Int32) else (-1)) = 1) then (0 : Int32) else x7) : Int32) else (zb ((¬ ((if ((if ((((zshr x3 (x8 / 5)) &&& 1) = 1) ∧ ((¬ ((S 101 (x8 / 5).toNatClampNeg) ≤ (zrem x8 5))) ∧ (¬ ((F255 x8 x2 (S 111 x1.toNatClampNeg) S) = 0)))) then ((if (x4 = (-1)) then (1 : Int32) else (F256 x8 x4 S)) : Int32) else (-1)) = 1) then (0 : Int32) else x7) = 0)) ∨ ((S 102 ((5 * x8) + 3).toNatClampNeg) = 0))))), some (.inl (x8 + 1)), some (.inl (zb ((((zshr x3 (x8 / 5)) &&& 1) = 1) ∧ ((¬ ((S 101 (x8 / 5).toNatClampNeg) ≤ (zrem x8 5))) ∧ (¬ ((F255 x8 x2 (S 111 x1.toNatClampNeg) S) = 0)))))), some (.inl (if ((((zshr x3 (x8 / 5)) &&& 1) = 1) ∧ ((¬ ((S 101 (x8 / 5).toNatClampNeg) ≤ (zrem x8 5))) ∧ (¬ ((F255 x8 x2 (S 111 x1.toNatClampNeg) S) = 0)))) then ((if (x4 = (-1)) then (1 : Int32) else (F256 x8 x4 S)) : Int32) else (-1)))], [], S))) := zr_1_8 i257_14 (zr_0 i257_15 kc_40 (zr_19_3 i257_16 (fun h2633 => zt_rfl) (fun h2634 => zr_1_3 i257_17 (zr_1_8 i257_18 (zr_0 i257_19 kc_5 (zr_13_3 i257_20 nz_5 (zr_13_9 i257_21 (zr_0 i257_22 kc_1 (zr_13_5 i257_23 (zr_0 i257_24 kc_1 (zt_trans (zt_cast (zr_19_1 i257_25 (fun h2635 => zr_1_8 i257_26 (zr_0 i257_27 kc_5 (zr_13_4 i257_28 nz_5 (zr_2_0 i257_29 (zr_6r i257_30 fl_13_37 (zr_1_8 i257_31 (zr_0 i257_32 kc_5 (zr_13_3 i257_33 nz_5 (zr_8 i257_34 ar_101 (g0 h2634 h2635) rfl rfl (zt_cast (zr_19_3 i257_35 (fun h2637 => zr_0 i257_47 kc_0 (zt_rfl)) (fun h2638 => zr_2_0 i257_36 (zr_1_8 i257_37 (zr_1_2 i257_38 (zr_2_0 i257_39 (zr_6r i257_40 fl_13_48 (zr_1_1 i257_41 (zr_8 i257_42 ar_111 (g1 h2634 h2635 h2638) rfl rfl (zr_cv (zs_21_3 i257_43 na_255 ob_13 rfl) (f255 x8 x2 (S 111 x1.toNatClampNeg) S (g2 h2634 h2635 h2638) (g3 h2634 h2635 h2638) (g4 h2634 h2635 h2638)) (zt_cast (zr_18_0 i257_44 (fun h2639 => zr_0 i257_47 kc_0 (zt_rfl)) (fun h2640 => zr_0 i257_45 kc_1 (zr_17 i257_46 (zt_rfl)))) (zm_c zz_s (zl_c (zl_t zz_01) zz_s) zz_s))))))))))) (zm_c zz_s (zl_c (zl_t zz_0b) zz_s) zz_s))))))))))) (fun h2636 => zr_0 i257_47 kc_0 (zt_rfl))) (zm_c zz_s (zl_c (zl_t zz_b0) zz_s) zz_s)) (zr_3_9 i257_48 (zr_1_9 i257_49 (zt_trans (zt_cast (zr_18b_1 i257_50 (fun h2641 => zr_1_4 i257_53 (zr_0 i257_54 kc_m1 (zt_cast (zr_19_1 i257_55 (fun h2643 => zr_0 i257_56 kc_1 (zr_17 i257_57 (zt_rfl))) (fun h2644 => zr_2_0 i257_58 (zr_1_8 i257_59 (zr_1_4 i257_60 (zr_cv (zs_21_2 i257_61 na_256 ob_13 rfl) (f256 x8 x4 S (g5 h2634 h2641 h2644) (g6 h2634 h2641 h2644) (fun h2645 h2646 => (g7 h2634 h2641 h2644 h2645 h2646)) (fun h2647 h2648 => (g8 h2634 h2641 h2644 h2647 h2648)) (fun h2649 h2650 h2651 h2652 => (g9 h2634 h2641 h2644 h2649 h2650 h2651 h2652)) (fun h2653 h2654 h2655 h2656 => (g10 h2634 h2641 h2644 h2653 h2654 h2655 h2656))) (zt_rfl)))))) (zm_c zz_s (zl_c (zl_t zz_e) zz_s) zz_s)))) (fun h2642 => zr_0 i257_51 kc_m1 (zr_17 i257_52 (zt_rfl)))) (zm_c zz_s (zl_c (zl_t zz_e) zz_s) zz_s)) (zr_3_10 i257_62 (zr_1_10 i257_63 (zr_0 i257_64 kc_1 (zt_trans (zt_cast (zr_19_1 i257_65 (fun h2657 => zr_1_8 i257_66 (zr_3_4 i257_67 (zr_0 i257_68 kc_0 (zr_3_5 i257_69 (zr_0 i257_70 kc_0 (zr_3_6 i257_71 (zr_0 i257_72 kc_0 (zr_3_7 i257_73 (zt_rfl))))))))) (fun h2658 => zt_rfl)) (zm_c (zl_c zz_s (zl_c zz_s (zl_c zz_s (zl_c zz_s (zl_c (zl_v zz_e) (zl_c (zl_v zz_e) (zl_c (zl_v zz_e) (zl_c (zl_v zz_e) zz_s)))))))) zz_s zz_s)) (zr_1_10 i257_74 (zt_trans (zt_cast (zr_18_2 i257_75 (fun h2659 => zt_rfl) (fun h2660 => zr_1_5 i257_76 (zr_2_0 i257_77 (zr_6r i257_78 fl_13_38 (zr_0 i257_79 kc_5 (zr_1_8 i257_80 (zr_13_2 i257_81 (zr_0 i257_82 kc_3 (zr_13_0 i257_83 (zr_8 i257_84 ar_102 (g11 h2634 h2660) rfl rfl (zr_13_6 i257_85 (zr_3_5 i257_86 (zr_2_0 i257_87 (zr_6r i257_88 fl_13_38 (zr_0 i257_89 kc_5 (zr_1_8 i257_90 (zr_13_2 i257_91 (zr_0 i257_92 kc_4 (zr_13_0 i257_93 (zr_8 i257_94 ar_102 (g12 h2634 h2660) rfl rfl (zr_1_6 i257_95 (zt_trans (zt_cast (zr_19_5 i257_96 (fun h2661 => zr_1_6 i257_106 (zt_rfl)) (fun h2662 => zr_2_0 i257_97 (zr_6r i257_98 fl_13_38 (zr_0 i257_99 kc_5 (zr_1_8 i257_100 (zr_13_2 i257_101 (zr_0 i257_102 kc_4 (zr_13_0 i257_103 (zr_8 i257_104 ar_102 (g12 h2634 h2660) rfl rfl (zr_17 i257_105 (zt_rfl))))))))))) (zm_c zz_s (zl_c (zl_t zz_e) zz_s) zz_s)) (zr_3_6 i257_107 (zr_1_7 i257_108 (zt_trans (zt_cast (zr_18_1 i257_109 (fun h2663 => zr_2_0 i257_110 (zr_6r i257_111 fl_13_38 (zr_0 i257_112 kc_5 (zr_1_8 i257_113 (zr_13_2 i257_114 (zr_0 i257_115 kc_3 (zr_13_0 i257_116 (zr_8 i257_117 ar_102 (g11 h2634 h2660) rfl rfl (zt_cast (zr_18_1 i257_118 (fun h2665 => zr_0 i257_119 kc_1 (zr_17 i257_120 (zt_rfl))) (fun h2666 => zr_0 i257_121 kc_0 (zt_rfl))) (zm_c zz_s (zl_c (zl_t zz_10) zz_s) zz_s)))))))))) (fun h2664 => zr_0 i257_119 kc_1 (zr_17 i257_120 (zt_rfl)))) (zm_c zz_s (zl_c (zl_t zz_b1) zz_s) zz_s)) (zr_3_7 i257_122 (zt_rfl))))))))))))))))))))))))))) (zm_c (zl_c zz_s (zl_c zz_s (zl_c zz_s (zl_c zz_s (zl_c zz_s (zl_c (zl_v zz_e) (zl_c (zl_v zz_e) (zl_c (zl_v zz_e) zz_s)))))))) zz_s zz_s)) (zr_5_8 i257_123 kc_1 (zr_17 i257_124 (zt_rfl)))))))))))))))))))))))
def k257_14 (x1 x2 x3 : Int32) (S : zS) (j : Nat) (a : Int32 × Int32 × Int32 × Int32 × Option zV × Option zV) : Int32 × Int32 × Int32 × Int32 × Option zV × Option zV := ((if ((if ((((zshr x3 ((Int32.ofNat j) / 5)) &&& 1) = 1) ∧ ((¬ ((S 101 ((Int32.ofNat j) / 5).toNatClampNeg) ≤ (zrem (Int32.ofNat j) 5))) ∧ (¬ ((F255 (Int32.ofNat j) x2 (S 111 x1.toNatClampNeg) S) = 0)))) then ((if (a.1 = (-1)) then (1 : Int32) else (F256 (Int32.ofNat j) a.1 S)) : Int32) else (-1)) = 1) then ((Int32.ofNat j) : Int32) else a.1), (if ((if ((((zshr x3 ((Int32.ofNat j) / 5)) &&& 1) = 1) ∧ ((¬ ((S 101 ((Int32.ofNat j) / 5).toNatClampNeg) ≤ (zrem (Int32.ofNat j) 5))) ∧ (¬ ((F255 (Int32.ofNat j) x2 (S 111 x1.toNatClampNeg) S) = 0)))) then ((if (a.1 = (-1)) then (1 : Int32) else (F256 (Int32.ofNat j) a.1 S)) : Int32) else (-1)) < 0) then ((if ((if ((((zshr x3 ((Int32.ofNat j) / 5)) &&& 1) = 1) ∧ ((¬ ((S 101 ((Int32.ofNat j) / 5).toNatClampNeg) ≤ (zrem (Int32.ofNat j) 5))) ∧ (¬ ((F255 (Int32.ofNat j) x2 (S 111 x1.toNatClampNeg) S) = 0)))) then ((if (a.1 = (-1)) then (1 : Int32) else (F256 (Int32.ofNat j) a.1 S)) : Int32) else (-1)) = 1) then (0 : Int32) else a.2.1) : Int32) else ((if ((if ((((zshr x3 ((Int32.ofNat j) / 5)) &&& 1) = 1) ∧ ((¬ ((S 101 ((Int32.ofNat j) / 5).toNatClampNeg) ≤ (zrem (Int32.ofNat j) 5))) ∧ (¬ ((F255 (Int32.ofNat j) x2 (S 111 x1.toNatClampNeg) S) = 0)))) then ((if (a.1 = (-1)) then (1 : Int32) else (F256 (Int32.ofNat j) a.1 S)) : Int32) else (-1)) = 1) then (0 : Int32) else a.2.1) ||| (S 102 ((5 * (Int32.ofNat j)) + 3).toNatClampNeg))), (if ((if ((((zshr x3 ((Int32.ofNat j) / 5)) &&& 1) = 1) ∧ ((¬ ((S 101 ((Int32.ofNat j) / 5).toNatClampNeg) ≤ (zrem (Int32.ofNat j) 5))) ∧ (¬ ((F255 (Int32.ofNat j) x2 (S 111 x1.toNatClampNeg) S) = 0)))) then ((if (a.1 = (-1)) then (1 : Int32) else (F256 (Int32.ofNat j) a.1 S)) : Int32) else (-1)) < 0) then ((if ((if ((((zshr x3 ((Int32.ofNat j) / 5)) &&& 1) = 1) ∧ ((¬ ((S 101 ((Int32.ofNat j) / 5).toNatClampNeg) ≤ (zrem (Int32.ofNat j) 5))) ∧ (¬ ((F255 (Int32.ofNat j) x2 (S 111 x1.toNatClampNeg) S) = 0)))) then ((if (a.1 = (-1)) then (1 : Int32) else (F256 (Int32.ofNat j) a.1 S)) : Int32) else (-1)) = 1) then (0 : Int32) else a.2.2.1) : Int32) else (if ((S 102 ((5 * (Int32.ofNat j)) + 4).toNatClampNeg) ≤ (if ((if ((((zshr x3 ((Int32.ofNat j) / 5)) &&& 1) = 1) ∧ ((¬ ((S 101 ((Int32.ofNat j) / 5).toNatClampNeg) ≤ (zrem (Int32.ofNat j) 5))) ∧ (¬ ((F255 (Int32.ofNat j) x2 (S 111 x1.toNatClampNeg) S) = 0)))) then ((if (a.1 = (-1)) then (1 : Int32) else (F256 (Int32.ofNat j) a.1 S)) : Int32) else (-1)) = 1) then (0 : Int32) else a.2.2.1)) then ((if ((if ((((zshr x3 ((Int32.ofNat j) / 5)) &&& 1) = 1) ∧ ((¬ ((S 101 ((Int32.ofNat j) / 5).toNatClampNeg) ≤ (zrem (Int32.ofNat j) 5))) ∧ (¬ ((F255 (Int32.ofNat j) x2 (S 111 x1.toNatClampNeg) S) = 0)))) then ((if (a.1 = (-1)) then (1 : Int32) else (F256 (Int32.ofNat j) a.1 S)) : Int32) else (-1)) = 1) then (0 : Int32) else a.2.2.1) : Int32) else (S 102 ((5 * (Int32.ofNat j)) + 4).toNatClampNeg))), (if ((if ((((zshr x3 ((Int32.ofNat j) / 5)) &&& 1) = 1) ∧ ((¬ ((S 101 ((Int32.ofNat j) / 5).toNatClampNeg) ≤ (zrem (Int32.ofNat j) 5))) ∧ (¬ ((F255 (Int32.ofNat j) x2 (S 111 x1.toNatClampNeg) S) = 0)))) then ((if (a.1 = (-1)) then (1 : Int32) else (F256 (Int32.ofNat j) a.1 S)) : Int32) else (-1)) < 0) then ((if ((if ((((zshr x3 ((Int32.ofNat j) / 5)) &&& 1) = 1) ∧ ((¬ ((S 101 ((Int32.ofNat j) / 5).toNatClampNeg) ≤ (zrem (Int32.ofNat j) 5))) ∧ (¬ ((F255 (Int32.ofNat j) x2 (S 111 x1.toNatClampNeg) S) = 0)))) then ((if (a.1 = (-1)) then (1 : Int32) else (F256 (Int32.ofNat j) a.1 S)) : Int32) else (-1)) = 1) then (0 : Int32) else a.2.2.2.1) : Int32) else (zb ((¬ ((if ((if ((((zshr x3 ((Int32.ofNat j) / 5)) &&& 1) = 1) ∧ ((¬ ((S 101 ((Int32.ofNat j) / 5).toNatClampNeg) ≤ (zrem (Int32.ofNat j) 5))) ∧ (¬ ((F255 (Int32.ofNat j) x2 (S 111 x1.toNatClampNeg) S) = 0)))) then ((if (a.1 = (-1)) then (1 : Int32) else (F256 (Int32.ofNat j) a.1 S)) : Int32) else (-1)) = 1) then (0 : Int32) else a.2.2.2.1) = 0)) ∨ ((S 102 ((5 * (Int32.ofNat j)) + 3).toNatClampNeg) = 0)))), (some (.inl (zb ((((zshr x3 ((Int32.ofNat j) / 5)) &&& 1) = 1) ∧ ((¬ ((S 101 ((Int32.ofNat j) / 5).toNatClampNeg) ≤ (zrem (Int32.ofNat j) 5))) ∧ (¬ ((F255 (Int32.ofNat j) x2 (S 111 x1.toNatClampNeg) S) = 0))))))), (some (.inl (if ((((zshr x3 ((Int32.ofNat j) / 5)) &&& 1) = 1) ∧ ((¬ ((S 101 ((Int32.ofNat j) / 5).toNatClampNeg) ≤ (zrem (Int32.ofNat j) 5))) ∧ (¬ ((F255 (Int32.ofNat j) x2 (S 111 x1.toNatClampNeg) S) = 0)))) then ((if (a.1 = (-1)) then (1 : Int32) else (F256 (Int32.ofNat j) a.1 S)) : Int32) else (-1)))))
set_option maxRecDepth 100000 in
theorem l257_14 {L : Nat} (x1 x2 x3 : Int32) (S : zS) (i0 n : Nat) (a : Int32 × Int32 × Int32 × Int32 × Option zV × Option zV) (hn : i0 + n < 2147483648) (hc0 : ∀ j, j < n → ¬ (40 ≤ (Int32.ofNat (i0 + j)))) (g0 : ∀ j, j < n → (¬ (40 ≤ (Int32.ofNat (i0 + j)))) → (((zshr x3 ((Int32.ofNat (i0 + j)) / 5)) &&& 1) = 1) → zx 8 ((Int32.ofNat (i0 + j)) / 5)) (g1 : ∀ j, j < n → (¬ (40 ≤ (Int32.ofNat (i0 + j)))) → (((zshr x3 ((Int32.ofNat (i0 + j)) / 5)) &&& 1) = 1) → (¬ ((S 101 ((Int32.ofNat (i0 + j)) / 5).toNatClampNeg) ≤ (zrem (Int32.ofNat (i0 + j)) 5))) → zx 40 x1) (g2 : ∀ j, j < n → (¬ (40 ≤ (Int32.ofNat (i0 + j)))) → (((zshr x3 ((Int32.ofNat (i0 + j)) / 5)) &&& 1) = 1) → (¬ ((S 101 ((Int32.ofNat (i0 + j)) / 5).toNatClampNeg) ≤ (zrem (Int32.ofNat (i0 + j)) 5))) → zx 200 ((5 * (Int32.ofNat (i0 + j))) + 0)) (g3 : ∀ j, j < n → (¬ (40 ≤ (Int32.ofNat (i0 + j)))) → (((zshr x3 ((Int32.ofNat (i0 + j)) / 5)) &&& 1) = 1) → (¬ ((S 101 ((Int32.ofNat (i0 + j)) / 5).toNatClampNeg) ≤ (zrem (Int32.ofNat (i0 + j)) 5))) → zx 200 ((5 * (Int32.ofNat (i0 + j))) + 1)) (g4 : ∀ j, j < n → (¬ (40 ≤ (Int32.ofNat (i0 + j)))) → (((zshr x3 ((Int32.ofNat (i0 + j)) / 5)) &&& 1) = 1) → (¬ ((S 101 ((Int32.ofNat (i0 + j)) / 5).toNatClampNeg) ≤ (zrem (Int32.ofNat (i0 + j)) 5))) → zx 200 ((5 * (Int32.ofNat (i0 + j))) + 2)) (g5 : ∀ j, j < n → (¬ (40 ≤ (Int32.ofNat (i0 + j)))) → ((((zshr x3 ((Int32.ofNat (i0 + j)) / 5)) &&& 1) = 1) ∧ ((¬ ((S 101 ((Int32.ofNat (i0 + j)) / 5).toNatClampNeg) ≤ (zrem (Int32.ofNat (i0 + j)) 5))) ∧ (¬ ((F255 (Int32.ofNat (i0 + j)) x2 (S 111 x1.toNatClampNeg) S) = 0)))) → (¬ ((zfold (k257_14 x1 x2 x3 S) i0 j a).1 = (-1))) → zx 200 ((5 * (Int32.ofNat (i0 + j))) + 0)) (g6 : ∀ j, j < n → (¬ (40 ≤ (Int32.ofNat (i0 + j)))) → ((((zshr x3 ((Int32.ofNat (i0 + j)) / 5)) &&& 1) = 1) ∧ ((¬ ((S 101 ((Int32.ofNat (i0 + j)) / 5).toNatClampNeg) ≤ (zrem (Int32.ofNat (i0 + j)) 5))) ∧ (¬ ((F255 (Int32.ofNat (i0 + j)) x2 (S 111 x1.toNatClampNeg) S) = 0)))) → (¬ ((zfold (k257_14 x1 x2 x3 S) i0 j a).1 = (-1))) → zx 200 ((5 * (zfold (k257_14 x1 x2 x3 S) i0 j a).1) + 0)) (g7 : ∀ j, j < n → (¬ (40 ≤ (Int32.ofNat (i0 + j)))) → ((((zshr x3 ((Int32.ofNat (i0 + j)) / 5)) &&& 1) = 1) ∧ ((¬ ((S 101 ((Int32.ofNat (i0 + j)) / 5).toNatClampNeg) ≤ (zrem (Int32.ofNat (i0 + j)) 5))) ∧ (¬ ((F255 (Int32.ofNat (i0 + j)) x2 (S 111 x1.toNatClampNeg) S) = 0)))) → (¬ ((zfold (k257_14 x1 x2 x3 S) i0 j a).1 = (-1))) → (((F254 (Int32.ofNat (i0 + j)) 0 S) - (F254 (zfold (k257_14 x1 x2 x3 S) i0 j a).1 0 S)) = 0) → (¬ ((F254 (Int32.ofNat (i0 + j)) 0 S) = 0)) → zx 200 ((5 * (Int32.ofNat (i0 + j))) + 1)) (g8 : ∀ j, j < n → (¬ (40 ≤ (Int32.ofNat (i0 + j)))) → ((((zshr x3 ((Int32.ofNat (i0 + j)) / 5)) &&& 1) = 1) ∧ ((¬ ((S 101 ((Int32.ofNat (i0 + j)) / 5).toNatClampNeg) ≤ (zrem (Int32.ofNat (i0 + j)) 5))) ∧ (¬ ((F255 (Int32.ofNat (i0 + j)) x2 (S 111 x1.toNatClampNeg) S) = 0)))) → (¬ ((zfold (k257_14 x1 x2 x3 S) i0 j a).1 = (-1))) → (((F254 (Int32.ofNat (i0 + j)) 0 S) - (F254 (zfold (k257_14 x1 x2 x3 S) i0 j a).1 0 S)) = 0) → (¬ ((F254 (Int32.ofNat (i0 + j)) 0 S) = 0)) → zx 200 ((5 * (zfold (k257_14 x1 x2 x3 S) i0 j a).1) + 1)) (g9 : ∀ j, j < n → (¬ (40 ≤ (Int32.ofNat (i0 + j)))) → ((((zshr x3 ((Int32.ofNat (i0 + j)) / 5)) &&& 1) = 1) ∧ ((¬ ((S 101 ((Int32.ofNat (i0 + j)) / 5).toNatClampNeg) ≤ (zrem (Int32.ofNat (i0 + j)) 5))) ∧ (¬ ((F255 (Int32.ofNat (i0 + j)) x2 (S 111 x1.toNatClampNeg) S) = 0)))) → (¬ ((zfold (k257_14 x1 x2 x3 S) i0 j a).1 = (-1))) → (((F254 (Int32.ofNat (i0 + j)) 0 S) - (F254 (zfold (k257_14 x1 x2 x3 S) i0 j a).1 0 S)) = 0) → (¬ ((F254 (Int32.ofNat (i0 + j)) 0 S) = 0)) → (((F254 (Int32.ofNat (i0 + j)) 1 S) - (F254 (zfold (k257_14 x1 x2 x3 S) i0 j a).1 1 S)) = 0) → (¬ ((F254 (Int32.ofNat (i0 + j)) 1 S) = 0)) → zx 200 ((5 * (Int32.ofNat (i0 + j))) + 2)) (g10 : ∀ j, j < n → (¬ (40 ≤ (Int32.ofNat (i0 + j)))) → ((((zshr x3 ((Int32.ofNat (i0 + j)) / 5)) &&& 1) = 1) ∧ ((¬ ((S 101 ((Int32.ofNat (i0 + j)) / 5).toNatClampNeg) ≤ (zrem (Int32.ofNat (i0 + j)) 5))) ∧ (¬ ((F255 (Int32.ofNat (i0 + j)) x2 (S 111 x1.toNatClampNeg) S) = 0)))) → (¬ ((zfold (k257_14 x1 x2 x3 S) i0 j a).1 = (-1))) → (((F254 (Int32.ofNat (i0 + j)) 0 S) - (F254 (zfold (k257_14 x1 x2 x3 S) i0 j a).1 0 S)) = 0) → (¬ ((F254 (Int32.ofNat (i0 + j)) 0 S) = 0)) → (((F254 (Int32.ofNat (i0 + j)) 1 S) - (F254 (zfold (k257_14 x1 x2 x3 S) i0 j a).1 1 S)) = 0) → (¬ ((F254 (Int32.ofNat (i0 + j)) 1 S) = 0)) → zx 200 ((5 * (zfold (k257_14 x1 x2 x3 S) i0 j a).1) + 2)) (g11 : ∀ j, j < n → (¬ (40 ≤ (Int32.ofNat (i0 + j)))) → (¬ ((if ((((zshr x3 ((Int32.ofNat (i0 + j)) / 5)) &&& 1) = 1) ∧ ((¬ ((S 101 ((Int32.ofNat (i0 + j)) / 5).toNatClampNeg) ≤ (zrem (Int32.ofNat (i0 + j)) 5))) ∧ (¬ ((F255 (Int32.ofNat (i0 + j)) x2 (S 111 x1.toNatClampNeg) S) = 0)))) then ((if ((zfold (k257_14 x1 x2 x3 S) i0 j a).1 = (-1)) then (1 : Int32) else (F256 (Int32.ofNat (i0 + j)) (zfold (k257_14 x1 x2 x3 S) i0 j a).1 S)) : Int32) else (-1)) < 0)) → zx 200 ((5 * (Int32.ofNat (i0 + j))) + 3)) (g12 : ∀ j, j < n → (¬ (40 ≤ (Int32.ofNat (i0 + j)))) → (¬ ((if ((((zshr x3 ((Int32.ofNat (i0 + j)) / 5)) &&& 1) = 1) ∧ ((¬ ((S 101 ((Int32.ofNat (i0 + j)) / 5).toNatClampNeg) ≤ (zrem (Int32.ofNat (i0 + j)) 5))) ∧ (¬ ((F255 (Int32.ofNat (i0 + j)) x2 (S 111 x1.toNatClampNeg) S) = 0)))) then ((if ((zfold (k257_14 x1 x2 x3 S) i0 j a).1 = (-1)) then (1 : Int32) else (F256 (Int32.ofNat (i0 + j)) (zfold (k257_14 x1 x2 x3 S) i0 j a).1 S)) : Int32) else (-1)) < 0)) → zx 200 ((5 * (Int32.ofNat (i0 + j))) + 4)) : zt L 257 14 [some (.inr (.inr 13)), some (.inl x1), some (.inl x2), some (.inl x3), some (.inl a.1), some (.inl a.2.1), some (.inl a.2.2.1), some (.inl a.2.2.2.1), some (.inl (Int32.ofNat i0)), a.2.2.2.2.1, a.2.2.2.2.2] [] S (.inl (14, [some (.inr (.inr 13)), some (.inl x1), some (.inl x2), some (.inl x3), some (.inl (zfold (k257_14 x1 x2 x3 S) i0 n a).1), some (.inl (zfold (k257_14 x1 x2 x3 S) i0 n a).2.1), some (.inl (zfold (k257_14 x1 x2 x3 S) i0 n a).2.2.1), some (.inl (zfold (k257_14 x1 x2 x3 S) i0 n a).2.2.2.1), some (.inl (Int32.ofNat (i0 + n))), (zfold (k257_14 x1 x2 x3 S) i0 n a).2.2.2.2.1, (zfold (k257_14 x1 x2 x3 S) i0 n a).2.2.2.2.2], [], S)) := by
  induction n with
  | zero => exact zt_rfl
  | succ n ih =>
    have e1 := zk_ix (i0 + n) (by omega)
    have e2 := zk_add (i0 + n)
    refine zt_trans (ih (by omega) (fun j hj => hc0 j (by omega)) (fun j hj => g0 j (by omega)) (fun j hj => g1 j (by omega)) (fun j hj => g2 j (by omega)) (fun j hj => g3 j (by omega)) (fun j hj => g4 j (by omega)) (fun j hj => g5 j (by omega)) (fun j hj => g6 j (by omega)) (fun j hj => g7 j (by omega)) (fun j hj => g8 j (by omega)) (fun j hj => g9 j (by omega)) (fun j hj => g10 j (by omega)) (fun j hj => g11 j (by omega)) (fun j hj => g12 j (by omega))) ?_
    refine zt_cast (s257_14 x1 x2 x3 (zfold (k257_14 x1 x2 x3 S) i0 n a).1 (zfold (k257_14 x1 x2 x3 S) i0 n a).2.1 (zfold (k257_14 x1 x2 x3 S) i0 n a).2.2.1 (zfold (k257_14 x1 x2 x3 S) i0 n a).2.2.2.1 (Int32.ofNat (i0 + n)) (zfold (k257_14 x1 x2 x3 S) i0 n a).2.2.2.2.1 (zfold (k257_14 x1 x2 x3 S) i0 n a).2.2.2.2.2 S (by have hg := g0 n (by omega); first | exact hg | (simp only [e1]; exact hg)) (by have hg := g1 n (by omega); first | exact hg | (simp only [e1]; exact hg)) (by have hg := g2 n (by omega); first | exact hg | (simp only [e1]; exact hg)) (by have hg := g3 n (by omega); first | exact hg | (simp only [e1]; exact hg)) (by have hg := g4 n (by omega); first | exact hg | (simp only [e1]; exact hg)) (by have hg := g5 n (by omega); first | exact hg | (simp only [e1]; exact hg)) (by have hg := g6 n (by omega); first | exact hg | (simp only [e1]; exact hg)) (by have hg := g7 n (by omega); first | exact hg | (simp only [e1]; exact hg)) (by have hg := g8 n (by omega); first | exact hg | (simp only [e1]; exact hg)) (by have hg := g9 n (by omega); first | exact hg | (simp only [e1]; exact hg)) (by have hg := g10 n (by omega); first | exact hg | (simp only [e1]; exact hg)) (by have hg := g11 n (by omega); first | exact hg | (simp only [e1]; exact hg)) (by have hg := g12 n (by omega); first | exact hg | (simp only [e1]; exact hg))) ?_
    rw [if_neg (show ¬ (40 ≤ (Int32.ofNat (i0 + n))) from (by have hg := hc0 n (by omega); first | exact hg | (simp only [e1]; exact hg)))]
    simp only [zfold, k257_14, e1, e2, ← Nat.add_assoc]
def K257_14 (x1 x2 x3 x4 x5 x6 x7 : Int32) (u9 u10 : Option zV) (i0 : Nat) (S : zS) : Int32 × Int32 × Int32 × Int32 × Option zV × Option zV := zfold (k257_14 x1 x2 x3 S) i0 (40 - i0) (x4, x5, x6, x7, u9, u10)
def K257_14_c4 (x1 x2 x3 x4 x5 x6 x7 : Int32) (u9 u10 : Option zV) (i0 : Nat) (S : zS) : Int32 := (K257_14 x1 x2 x3 x4 x5 x6 x7 u9 u10 i0 S).1
def K257_14_c5 (x1 x2 x3 x4 x5 x6 x7 : Int32) (u9 u10 : Option zV) (i0 : Nat) (S : zS) : Int32 := (K257_14 x1 x2 x3 x4 x5 x6 x7 u9 u10 i0 S).2.1
def K257_14_c6 (x1 x2 x3 x4 x5 x6 x7 : Int32) (u9 u10 : Option zV) (i0 : Nat) (S : zS) : Int32 := (K257_14 x1 x2 x3 x4 x5 x6 x7 u9 u10 i0 S).2.2.1
def K257_14_c7 (x1 x2 x3 x4 x5 x6 x7 : Int32) (u9 u10 : Option zV) (i0 : Nat) (S : zS) : Int32 := (K257_14 x1 x2 x3 x4 x5 x6 x7 u9 u10 i0 S).2.2.2.1
def K257_14_c9 (x1 x2 x3 x4 x5 x6 x7 : Int32) (u9 u10 : Option zV) (i0 : Nat) (S : zS) : Option zV := (K257_14 x1 x2 x3 x4 x5 x6 x7 u9 u10 i0 S).2.2.2.2.1
def K257_14_c10 (x1 x2 x3 x4 x5 x6 x7 : Int32) (u9 u10 : Option zV) (i0 : Nat) (S : zS) : Option zV := (K257_14 x1 x2 x3 x4 x5 x6 x7 u9 u10 i0 S).2.2.2.2.2
set_option maxRecDepth 100000 in
theorem L257_14 {L : Nat} (x1 x2 x3 x4 x5 x6 x7 : Int32) (u9 u10 : Option zV) (i0 : Nat) (S : zS) (hi : i0 ≤ 10000) (hq0 : zx 40 x1) (hb : zbest x4) : zt L 257 14 [some (.inr (.inr 13)), some (.inl x1), some (.inl x2), some (.inl x3), some (.inl x4), some (.inl x5), some (.inl x6), some (.inl x7), some (.inl (Int32.ofNat i0)), u9, u10] [] S (.inl (125, [some (.inr (.inr 13)), some (.inl x1), some (.inl x2), some (.inl x3), some (.inl (K257_14_c4 x1 x2 x3 x4 x5 x6 x7 u9 u10 i0 S)), some (.inl (K257_14_c5 x1 x2 x3 x4 x5 x6 x7 u9 u10 i0 S)), some (.inl (K257_14_c6 x1 x2 x3 x4 x5 x6 x7 u9 u10 i0 S)), some (.inl (K257_14_c7 x1 x2 x3 x4 x5 x6 x7 u9 u10 i0 S)), some (.inl (Int32.ofNat (i0 + (40 - i0)))), (K257_14_c9 x1 x2 x3 x4 x5 x6 x7 u9 u10 i0 S), (K257_14_c10 x1 x2 x3 x4 x5 x6 x7 u9 u10 i0 S)], [], S)) := by
  have hacc : ∀ n, n ≤ (40 - i0) → zbest (zfold (k257_14 x1 x2 x3 S) i0 n (x4, x5, x6, x7, u9, u10)).1 := by
    intro n
    induction n with
    | zero => intro _; exact hb
    | succ n ih =>
      intro hn
      have h := ih (by omega)
      simp only [zfold, k257_14]
      split
      · exact Or.inr ⟨i0 + n, by omega, rfl⟩
      · exact h
  have hend : 40 ≤ Int32.ofNat (i0 + (40 - i0)) := by exact zc_le_end (show zn 40 40 from by unfold zn; decide) (by omega)
  refine zt_trans (l257_14 x1 x2 x3  S i0 (40 - i0) (x4, x5, x6, x7, u9, u10) (by omega) (fun j hj => by exact zc_le (show zn 40 40 from by unfold zn; decide) hj (by omega)) (fun j hj _ _ => zx_d5 (by omega)) (fun j hj _ _ _ => by exact hq0) (fun j hj _ _ _ => zx_p5 (k := 0) (by omega) (by omega)) (fun j hj _ _ _ => zx_p5 (k := 1) (by omega) (by omega)) (fun j hj _ _ _ => zx_p5 (k := 2) (by omega) (by omega)) (fun j hj _ _ _ => zx_p5 (k := 0) (by omega) (by omega)) (fun j hj _ _ hne  => by
      rcases hacc j (by omega) with h | ⟨i, hi, h⟩
      · exact absurd h hne
      · rw [h]; exact zx_p5 (k := 0) hi (by omega)) (fun j hj _ _ _ _ _ => zx_p5 (k := 1) (by omega) (by omega)) (fun j hj _ _ hne _ _ => by
      rcases hacc j (by omega) with h | ⟨i, hi, h⟩
      · exact absurd h hne
      · rw [h]; exact zx_p5 (k := 1) hi (by omega)) (fun j hj _ _ _ _ _ _ _ => zx_p5 (k := 2) (by omega) (by omega)) (fun j hj _ _ hne _ _ _ _ => by
      rcases hacc j (by omega) with h | ⟨i, hi, h⟩
      · exact absurd h hne
      · rw [h]; exact zx_p5 (k := 2) hi (by omega)) (fun j hj _ _ => zx_p5 (k := 3) (by omega) (by omega)) (fun j hj _ _ => zx_p5 (k := 4) (by omega) (by omega))) ?_
  exact zt_cast (s257_14 x1 x2 x3 (zfold (k257_14 x1 x2 x3 S) i0 (40 - i0) (x4, x5, x6, x7, u9, u10)).1 (zfold (k257_14 x1 x2 x3 S) i0 (40 - i0) (x4, x5, x6, x7, u9, u10)).2.1 (zfold (k257_14 x1 x2 x3 S) i0 (40 - i0) (x4, x5, x6, x7, u9, u10)).2.2.1 (zfold (k257_14 x1 x2 x3 S) i0 (40 - i0) (x4, x5, x6, x7, u9, u10)).2.2.2.1 (Int32.ofNat (i0 + (40 - i0))) (zfold (k257_14 x1 x2 x3 S) i0 (40 - i0) (x4, x5, x6, x7, u9, u10)).2.2.2.2.1 (zfold (k257_14 x1 x2 x3 S) i0 (40 - i0) (x4, x5, x6, x7, u9, u10)).2.2.2.2.2 S (fun h9 => absurd hend h9) (fun h9 => absurd hend h9) (fun h9 => absurd hend h9) (fun h9 => absurd hend h9) (fun h9 => absurd hend h9) (fun h9 => absurd hend h9) (fun h9 => absurd hend h9) (fun h9 => absurd hend h9) (fun h9 => absurd hend h9) (fun h9 => absurd hend h9) (fun h9 => absurd hend h9) (fun h9 => absurd hend h9) (fun h9 => absurd hend h9)) (if_pos hend)
def F257 (a b : Int32) (S : zS) : Int32 := (if ((K257_14_c7 a b (F252 a S) (-1) 0 0 0 (none : Option zV) (none : Option zV) 0 S) = 0) then ((if ((K257_14_c5 a b (F252 a S) (-1) 0 0 0 (none : Option zV) (none : Option zV) 0 S) = 0) then (0 : Int32) else ((K257_14_c5 a b (F252 a S) (-1) 0 0 0 (none : Option zV) (none : Option zV) 0 S) + (16 * (K257_14_c6 a b (F252 a S) (-1) 0 0 0 (none : Option zV) (none : Option zV) 0 S)))) : Int32) else 0)
set_option maxRecDepth 100000 in
theorem f257 {L : Nat} (a b : Int32) (S : zS) (g0 : zx 40 a) (g1 : (¬ ((S 111 a.toNatClampNeg) = (-1))) → zx 8 (S 111 a.toNatClampNeg)) : zf L 257 [.inr (.inr 13), .inl a, .inl b] S (.inl (some (.inl (F257 a b S))), S, 0) := zf_of (en_257 _ _ _) (zr_2_0 i257_0 (zr_1_1 i257_1 (zr_cv (zs_21_1 i257_2 na_252 ob_13 rfl) (f252 a S (g0) (fun h2667 => (g1 h2667))) (zr_3_3 i257_3 (zr_0 i257_4 kc_m1 (zr_3_4 i257_5 (zr_0 i257_6 kc_0 (zr_3_5 i257_7 (zr_0 i257_8 kc_0 (zr_3_6 i257_9 (zr_0 i257_10 kc_0 (zr_3_7 i257_11 (zr_0 i257_12 kc_0 (zr_3_8 i257_13 (zt_trans (L257_14 a b (F252 a S) (-1) 0 0 0 (none : Option zV) (none : Option zV) 0 S (by decide) (g0) (zbest_m1)) (zr_1_7 i257_125 (zt_trans (zt_cast (zr_18_1 i257_126 (fun h2668 => zr_1_5 i257_127 (zt_cast (zr_18_1 i257_128 (fun h2670 => zr_0 i257_129 kc_0 (zr_17 i257_130 (zt_rfl))) (fun h2671 => zr_1_5 i257_131 (zr_0 i257_132 kc_16 (zr_1_6 i257_133 (zr_13_2 i257_134 (zr_13_0 i257_135 (zt_rfl))))))) (zm_c zz_s (zl_c (zl_t zz_e) zz_s) zz_s))) (fun h2669 => zr_0 i257_129 kc_0 (zr_17 i257_130 (zt_rfl)))) (zm_c zz_s (zl_c (zl_t zz_e) zz_s) zz_s)) (zr_25 i257_136))))))))))))))))))
