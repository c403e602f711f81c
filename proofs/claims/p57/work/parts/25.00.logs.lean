/-! the law: 25.00.logs (wip/p57/gen) -/
theorem i324_0 : zi 324 0 1 1 1 0 := by decide +kernel
theorem i324_1 : zi 324 1 2 2 0 0 := by decide +kernel
theorem i324_2 : zi 324 2 3 12 0 0 := by decide +kernel
theorem i324_3 : zi 324 3 4 19 10 3 := by decide +kernel
theorem i324_10 : zi 324 10 11 0 0 104729 := by decide +kernel
theorem kc_104729 : Int32.ofInt 104729 = 104729 := by decide +kernel
theorem i324_11 : zi 324 11 12 1 1 0 := by decide +kernel
theorem i324_12 : zi 324 12 13 0 0 2 := by decide +kernel
theorem i324_13 : zi 324 13 14 13 0 0 := by decide +kernel
theorem i324_14 : zi 324 14 15 13 2 0 := by decide +kernel
theorem i324_15 : zi 324 15 16 0 0 65521 := by decide +kernel
theorem i324_16 : zi 324 16 17 13 4 0 := by decide +kernel
theorem i324_4 : zi 324 4 5 2 0 0 := by decide +kernel
theorem i324_5 : zi 324 5 6 1 1 0 := by decide +kernel
theorem i324_6 : zi 324 6 7 8 0 0 := by decide +kernel
theorem i324_7 : zi 324 7 8 0 0 2147483647 := by decide +kernel
theorem kc_2147483647 : Int32.ofInt 2147483647 = 2147483647 := by decide +kernel
theorem i324_8 : zi 324 8 9 13 5 0 := by decide +kernel
theorem i324_9 : zi 324 9 10 17 17 0 := by decide +kernel
theorem i324_17 : zi 324 17 18 25 0 0 := by decide +kernel
theorem ml_324 : z_ml 324 = 2 := by decide +kernel
theorem en_324 : ∀ (v0 v1 : zV), z_ent 324 [v0, v1] = [some v0, some v1] := fun v0 v1 => by unfold z_ent; rw [ml_324]; rfl
theorem i328_0 : zi 328 0 1 2 0 0 := by decide +kernel
theorem i328_1 : zi 328 1 2 1 2 0 := by decide +kernel
theorem i328_2 : zi 328 2 3 1 3 0 := by decide +kernel
theorem i328_3 : zi 328 3 4 21 151 11 := by decide +kernel
theorem na_151 : z_na 151 = 2 := by decide +kernel
theorem i328_4 : zi 328 4 5 3 4 0 := by decide +kernel
theorem i328_5 : zi 328 5 6 1 4 0 := by decide +kernel
theorem i328_6 : zi 328 6 7 18 30 3 := by decide +kernel
theorem i328_30 : zi 328 30 31 2 1 0 := by decide +kernel
theorem i328_31 : zi 328 31 32 0 0 1 := by decide +kernel
theorem i328_32 : zi 328 32 33 15 0 0 := by decide +kernel
theorem i328_33 : zi 328 33 34 8 0 0 := by decide +kernel
theorem ar_13 : zar 13 0 9 := by decide +kernel
theorem zx_9_1 : zx 9 1 := by unfold zx; decide
theorem i328_34 : zi 328 34 35 0 0 1 := by decide +kernel
theorem i328_35 : zi 328 35 36 13 0 0 := by decide +kernel
theorem i328_36 : zi 328 36 37 10 0 0 := by decide +kernel
theorem i328_37 : zi 328 37 38 2 1 0 := by decide +kernel
theorem i328_38 : zi 328 38 39 0 0 8 := by decide +kernel
theorem i328_39 : zi 328 39 40 8 0 0 := by decide +kernel
theorem kt_8 : (8 : Int32).toNatClampNeg = 8 := by decide +kernel
theorem zx_9_8 : zx 9 8 := by unfold zx; decide
theorem i328_40 : zi 328 40 41 0 0 1 := by decide +kernel
theorem i328_41 : zi 328 41 42 19 60 1 := by decide +kernel
theorem i328_42 : zi 328 42 43 1 4 0 := by decide +kernel
theorem i328_43 : zi 328 43 44 2 1 0 := by decide +kernel
theorem i328_44 : zi 328 44 45 0 0 1 := by decide +kernel
theorem i328_45 : zi 328 45 46 8 0 0 := by decide +kernel
theorem i328_46 : zi 328 46 47 0 0 1 := by decide +kernel
theorem i328_47 : zi 328 47 48 13 1 0 := by decide +kernel
theorem i328_48 : zi 328 48 49 19 60 1 := by decide +kernel
theorem i328_49 : zi 328 49 50 2 0 0 := by decide +kernel
theorem i328_50 : zi 328 50 51 1 4 0 := by decide +kernel
theorem i328_51 : zi 328 51 52 21 156 11 := by decide +kernel
theorem na_156 : z_na 156 = 1 := by decide +kernel
theorem i328_52 : zi 328 52 53 18 60 0 := by decide +kernel
theorem i328_60 : zi 328 60 61 0 0 0 := by decide +kernel
theorem i328_53 : zi 328 53 54 2 0 0 := by decide +kernel
theorem i328_54 : zi 328 54 55 1 4 0 := by decide +kernel
theorem i328_55 : zi 328 55 56 21 155 11 := by decide +kernel
theorem na_155 : z_na 155 = 1 := by decide +kernel
theorem i328_56 : zi 328 56 57 0 0 (-1) := by decide +kernel
theorem i328_57 : zi 328 57 58 19 60 1 := by decide +kernel
theorem i328_58 : zi 328 58 59 0 0 1 := by decide +kernel
theorem i328_59 : zi 328 59 60 17 61 0 := by decide +kernel
theorem i328_61 : zi 328 61 62 26 0 0 := by decide +kernel
theorem i328_7 : zi 328 7 8 1 4 0 := by decide +kernel
theorem i328_8 : zi 328 8 9 2 1 0 := by decide +kernel
theorem i328_9 : zi 328 9 10 0 0 8 := by decide +kernel
theorem i328_10 : zi 328 10 11 8 0 0 := by decide +kernel
theorem i328_11 : zi 328 11 12 18 14 1 := by decide +kernel
theorem i328_12 : zi 328 12 13 0 0 (-2) := by decide +kernel
theorem i328_13 : zi 328 13 14 17 25 0 := by decide +kernel
theorem i328_14 : zi 328 14 15 2 1 0 := by decide +kernel
theorem i328_15 : zi 328 15 16 0 0 1 := by decide +kernel
theorem i328_16 : zi 328 16 17 8 0 0 := by decide +kernel
theorem i328_17 : zi 328 17 18 0 0 40 := by decide +kernel
theorem i328_18 : zi 328 18 19 19 24 1 := by decide +kernel
theorem i328_19 : zi 328 19 20 1 4 0 := by decide +kernel
theorem i328_20 : zi 328 20 21 0 0 (-6) := by decide +kernel
theorem i328_21 : zi 328 21 22 19 24 0 := by decide +kernel
theorem i328_24 : zi 328 24 25 0 0 (-6) := by decide +kernel
theorem i328_22 : zi 328 22 23 0 0 (-11) := by decide +kernel
theorem i328_23 : zi 328 23 24 17 25 0 := by decide +kernel
theorem i328_25 : zi 328 25 26 19 28 1 := by decide +kernel
theorem i328_26 : zi 328 26 27 0 0 1 := by decide +kernel
theorem i328_27 : zi 328 27 28 17 29 0 := by decide +kernel
theorem i328_28 : zi 328 28 29 0 0 0 := by decide +kernel
theorem i328_29 : zi 328 29 30 26 0 0 := by decide +kernel
theorem ml_328 : z_ml 328 = 5 := by decide +kernel
theorem en_328 : ∀ (v0 v1 v2 v3 : zV), z_ent 328 [v0, v1, v2, v3] = [some v0, some v1, some v2, some v3, none] := fun v0 v1 v2 v3 => by unfold z_ent; rw [ml_328]; rfl
theorem i329_0 : zi 329 0 1 2 1 0 := by decide +kernel
theorem i329_1 : zi 329 1 2 0 0 1 := by decide +kernel
theorem i329_2 : zi 329 2 3 8 0 0 := by decide +kernel
theorem i329_3 : zi 329 3 4 18 8 0 := by decide +kernel
theorem i329_8 : zi 329 8 9 0 0 (-1) := by decide +kernel
theorem i329_9 : zi 329 9 10 17 11 0 := by decide +kernel
theorem i329_4 : zi 329 4 5 1 4 0 := by decide +kernel
theorem i329_5 : zi 329 5 6 0 0 5 := by decide +kernel
theorem i329_6 : zi 329 6 7 13 4 0 := by decide +kernel
theorem i329_7 : zi 329 7 8 18 10 1 := by decide +kernel
theorem i329_10 : zi 329 10 11 1 2 0 := by decide +kernel
theorem i329_11 : zi 329 11 12 3 5 0 := by decide +kernel
theorem i329_12 : zi 329 12 13 0 0 1 := by decide +kernel
theorem i329_13 : zi 329 13 14 1 3 0 := by decide +kernel
theorem i329_14 : zi 329 14 15 0 0 256 := by decide +kernel
theorem i329_15 : zi 329 15 16 13 3 0 := by decide +kernel
theorem nz_256 : ¬ (256 : Int32) = 0 := by decide
theorem i329_16 : zi 329 16 17 0 0 100 := by decide +kernel
theorem i329_17 : zi 329 17 18 13 4 0 := by decide +kernel
theorem nz_100 : ¬ (100 : Int32) = 0 := by decide
theorem i329_18 : zi 329 18 19 13 0 0 := by decide +kernel
theorem i329_19 : zi 329 19 20 3 6 0 := by decide +kernel
theorem i329_20 : zi 329 20 21 1 6 0 := by decide +kernel
theorem i329_21 : zi 329 21 22 1 4 0 := by decide +kernel
theorem i329_22 : zi 329 22 23 0 0 2048 := by decide +kernel
theorem kc_2048 : Int32.ofInt 2048 = 2048 := by decide +kernel
theorem i329_23 : zi 329 23 24 13 3 0 := by decide +kernel
theorem nz_2048 : ¬ (2048 : Int32) = 0 := by decide
theorem i329_24 : zi 329 24 25 0 0 201 := by decide +kernel
theorem kc_201 : Int32.ofInt 201 = 201 := by decide +kernel
theorem i329_25 : zi 329 25 26 1 6 0 := by decide +kernel
theorem i329_26 : zi 329 26 27 13 1 0 := by decide +kernel
theorem i329_27 : zi 329 27 28 13 4 0 := by decide +kernel
theorem i329_28 : zi 329 28 29 13 0 0 := by decide +kernel
theorem i329_29 : zi 329 29 30 3 7 0 := by decide +kernel
theorem i329_30 : zi 329 30 31 1 4 0 := by decide +kernel
theorem i329_31 : zi 329 31 32 0 0 16 := by decide +kernel
theorem i329_32 : zi 329 32 33 13 3 0 := by decide +kernel
theorem i329_33 : zi 329 33 34 0 0 3 := by decide +kernel
theorem i329_34 : zi 329 34 35 13 4 0 := by decide +kernel
theorem nz_3 : ¬ (3 : Int32) = 0 := by decide
theorem i329_35 : zi 329 35 36 18 44 1 := by decide +kernel
theorem i329_36 : zi 329 36 37 0 0 1 := by decide +kernel
theorem i329_37 : zi 329 37 38 1 4 0 := by decide +kernel
theorem i329_38 : zi 329 38 39 0 0 64 := by decide +kernel
theorem i329_39 : zi 329 39 40 13 3 0 := by decide +kernel
theorem nz_64 : ¬ (64 : Int32) = 0 := by decide
theorem i329_40 : zi 329 40 41 0 0 20 := by decide +kernel
theorem i329_41 : zi 329 41 42 13 4 0 := by decide +kernel
theorem nz_20 : ¬ (20 : Int32) = 0 := by decide
theorem i329_42 : zi 329 42 43 13 0 0 := by decide +kernel
theorem i329_43 : zi 329 43 44 17 45 0 := by decide +kernel
theorem i329_44 : zi 329 44 45 0 0 (-1) := by decide +kernel
theorem i329_45 : zi 329 45 46 3 8 0 := by decide +kernel
theorem i329_46 : zi 329 46 47 2 0 0 := by decide +kernel
theorem i329_47 : zi 329 47 48 1 5 0 := by decide +kernel
theorem i329_48 : zi 329 48 49 1 3 0 := by decide +kernel
theorem i329_49 : zi 329 49 50 0 0 64 := by decide +kernel
theorem i329_50 : zi 329 50 51 13 3 0 := by decide +kernel
theorem i329_51 : zi 329 51 52 0 0 3 := by decide +kernel
theorem i329_52 : zi 329 52 53 13 4 0 := by decide +kernel
theorem i329_53 : zi 329 53 54 1 4 0 := by decide +kernel
theorem i329_54 : zi 329 54 55 0 0 8 := by decide +kernel
theorem i329_55 : zi 329 55 56 13 3 0 := by decide +kernel
theorem nz_8 : ¬ (8 : Int32) = 0 := by decide
theorem i329_56 : zi 329 56 57 0 0 256 := by decide +kernel
theorem i329_57 : zi 329 57 58 13 4 0 := by decide +kernel
theorem i329_58 : zi 329 58 59 1 6 0 := by decide +kernel
theorem i329_59 : zi 329 59 60 1 7 0 := by decide +kernel
theorem i329_60 : zi 329 60 61 1 8 0 := by decide +kernel
theorem i329_61 : zi 329 61 62 0 0 1 := by decide +kernel
theorem i329_62 : zi 329 62 63 1 3 0 := by decide +kernel
theorem i329_63 : zi 329 63 64 0 0 1024 := by decide +kernel
theorem kc_1024 : Int32.ofInt 1024 = 1024 := by decide +kernel
theorem i329_64 : zi 329 64 65 13 3 0 := by decide +kernel
theorem nz_1024 : ¬ (1024 : Int32) = 0 := by decide
theorem i329_65 : zi 329 65 66 0 0 15 := by decide +kernel
theorem i329_66 : zi 329 66 67 13 4 0 := by decide +kernel
theorem nz_15 : ¬ (15 : Int32) = 0 := by decide
theorem i329_67 : zi 329 67 68 13 0 0 := by decide +kernel
theorem i329_68 : zi 329 68 69 1 4 0 := by decide +kernel
theorem i329_69 : zi 329 69 70 0 0 2 := by decide +kernel
theorem i329_70 : zi 329 70 71 13 4 0 := by decide +kernel
theorem nz_2 : ¬ (2 : Int32) = 0 := by decide
theorem i329_71 : zi 329 71 72 18 74 1 := by decide +kernel
theorem i329_72 : zi 329 72 73 0 0 1 := by decide +kernel
theorem i329_73 : zi 329 73 74 17 75 0 := by decide +kernel
theorem i329_74 : zi 329 74 75 0 0 0 := by decide +kernel
theorem i329_75 : zi 329 75 76 21 152 11 := by decide +kernel
theorem na_152 : z_na 152 = 8 := by decide +kernel
theorem i329_76 : zi 329 76 77 3 9 0 := by decide +kernel
theorem i329_77 : zi 329 77 78 1 9 0 := by decide +kernel
theorem i329_78 : zi 329 78 79 18 114 3 := by decide +kernel
theorem i329_114 : zi 329 114 115 2 1 0 := by decide +kernel
theorem i329_115 : zi 329 115 116 0 0 1 := by decide +kernel
theorem i329_116 : zi 329 116 117 15 0 0 := by decide +kernel
theorem i329_117 : zi 329 117 118 8 0 0 := by decide +kernel
theorem i329_118 : zi 329 118 119 0 0 1 := by decide +kernel
theorem i329_119 : zi 329 119 120 13 0 0 := by decide +kernel
theorem i329_120 : zi 329 120 121 10 0 0 := by decide +kernel
theorem i329_121 : zi 329 121 122 2 1 0 := by decide +kernel
theorem i329_122 : zi 329 122 123 0 0 8 := by decide +kernel
theorem i329_123 : zi 329 123 124 8 0 0 := by decide +kernel
theorem i329_124 : zi 329 124 125 0 0 1 := by decide +kernel
theorem i329_125 : zi 329 125 126 19 151 1 := by decide +kernel
theorem i329_126 : zi 329 126 127 1 9 0 := by decide +kernel
theorem i329_127 : zi 329 127 128 2 1 0 := by decide +kernel
theorem i329_128 : zi 329 128 129 0 0 1 := by decide +kernel
theorem i329_129 : zi 329 129 130 8 0 0 := by decide +kernel
theorem i329_130 : zi 329 130 131 0 0 1 := by decide +kernel
theorem i329_131 : zi 329 131 132 13 1 0 := by decide +kernel
theorem i329_132 : zi 329 132 133 19 151 1 := by decide +kernel
theorem i329_133 : zi 329 133 134 2 0 0 := by decide +kernel
theorem i329_134 : zi 329 134 135 1 9 0 := by decide +kernel
theorem i329_135 : zi 329 135 136 21 156 11 := by decide +kernel
theorem i329_136 : zi 329 136 137 18 151 0 := by decide +kernel
theorem i329_151 : zi 329 151 152 0 0 0 := by decide +kernel
theorem i329_137 : zi 329 137 138 2 0 0 := by decide +kernel
theorem i329_138 : zi 329 138 139 1 9 0 := by decide +kernel
theorem i329_139 : zi 329 139 140 21 155 11 := by decide +kernel
theorem i329_140 : zi 329 140 141 1 8 0 := by decide +kernel
theorem i329_141 : zi 329 141 142 19 151 1 := by decide +kernel
theorem i329_142 : zi 329 142 143 1 5 0 := by decide +kernel
theorem i329_143 : zi 329 143 144 0 0 (-1) := by decide +kernel
theorem i329_144 : zi 329 144 145 19 149 0 := by decide +kernel
theorem i329_149 : zi 329 149 150 0 0 1 := by decide +kernel
theorem i329_150 : zi 329 150 151 17 152 0 := by decide +kernel
theorem i329_145 : zi 329 145 146 2 0 0 := by decide +kernel
theorem i329_146 : zi 329 146 147 1 5 0 := by decide +kernel
theorem i329_147 : zi 329 147 148 21 156 11 := by decide +kernel
theorem i329_148 : zi 329 148 149 18 151 0 := by decide +kernel
theorem i329_152 : zi 329 152 153 26 0 0 := by decide +kernel
theorem i329_79 : zi 329 79 80 2 1 0 := by decide +kernel
theorem i329_80 : zi 329 80 81 0 0 8 := by decide +kernel
theorem i329_81 : zi 329 81 82 8 0 0 := by decide +kernel
theorem i329_82 : zi 329 82 83 18 90 1 := by decide +kernel
theorem i329_83 : zi 329 83 84 1 9 0 := by decide +kernel
theorem i329_84 : zi 329 84 85 0 0 (-2) := by decide +kernel
theorem i329_85 : zi 329 85 86 19 88 1 := by decide +kernel
theorem i329_86 : zi 329 86 87 0 0 1 := by decide +kernel
theorem i329_87 : zi 329 87 88 17 113 0 := by decide +kernel
theorem i329_88 : zi 329 88 89 0 0 0 := by decide +kernel
theorem i329_89 : zi 329 89 90 17 113 0 := by decide +kernel
theorem i329_90 : zi 329 90 91 1 9 0 := by decide +kernel
theorem i329_91 : zi 329 91 92 0 0 (-4) := by decide +kernel
theorem i329_92 : zi 329 92 93 19 96 1 := by decide +kernel
theorem i329_93 : zi 329 93 94 1 5 0 := by decide +kernel
theorem i329_94 : zi 329 94 95 0 0 (-1) := by decide +kernel
theorem i329_95 : zi 329 95 96 19 110 1 := by decide +kernel
theorem i329_96 : zi 329 96 97 1 9 0 := by decide +kernel
theorem i329_97 : zi 329 97 98 0 0 (-6) := by decide +kernel
theorem i329_98 : zi 329 98 99 19 102 1 := by decide +kernel
theorem i329_99 : zi 329 99 100 1 5 0 := by decide +kernel
theorem i329_100 : zi 329 100 101 0 0 (-1) := by decide +kernel
theorem i329_101 : zi 329 101 102 19 110 1 := by decide +kernel
theorem i329_102 : zi 329 102 103 1 9 0 := by decide +kernel
theorem i329_103 : zi 329 103 104 0 0 (-11) := by decide +kernel
theorem i329_104 : zi 329 104 105 19 112 1 := by decide +kernel
theorem i329_105 : zi 329 105 106 2 1 0 := by decide +kernel
theorem i329_106 : zi 329 106 107 0 0 1 := by decide +kernel
theorem i329_107 : zi 329 107 108 8 0 0 := by decide +kernel
theorem i329_108 : zi 329 108 109 0 0 40 := by decide +kernel
theorem i329_109 : zi 329 109 110 19 112 1 := by decide +kernel
theorem i329_110 : zi 329 110 111 0 0 1 := by decide +kernel
theorem i329_111 : zi 329 111 112 17 113 0 := by decide +kernel
theorem i329_112 : zi 329 112 113 0 0 0 := by decide +kernel
theorem i329_113 : zi 329 113 114 26 0 0 := by decide +kernel
theorem ml_329 : z_ml 329 = 10 := by decide +kernel
theorem en_329 : ∀ (v0 v1 v2 v3 v4 : zV), z_ent 329 [v0, v1, v2, v3, v4] = [some v0, some v1, some v2, some v3, some v4, none, none, none, none, none] := fun v0 v1 v2 v3 v4 => by unfold z_ent; rw [ml_329]; rfl
theorem i330_0 : zi 330 0 1 2 0 0 := by decide +kernel
theorem i330_1 : zi 330 1 2 1 2 0 := by decide +kernel
theorem i330_2 : zi 330 2 3 21 156 11 := by decide +kernel
theorem i330_3 : zi 330 3 4 3 4 0 := by decide +kernel
theorem i330_4 : zi 330 4 5 1 3 0 := by decide +kernel
theorem i330_5 : zi 330 5 6 0 0 4 := by decide +kernel
theorem i330_6 : zi 330 6 7 13 4 0 := by decide +kernel
theorem i330_7 : zi 330 7 8 18 23 5 := by decide +kernel
theorem i330_23 : zi 330 23 24 2 0 0 := by decide +kernel
theorem i330_24 : zi 330 24 25 1 2 0 := by decide +kernel
theorem i330_25 : zi 330 25 26 21 154 11 := by decide +kernel
theorem na_154 : z_na 154 = 1 := by decide +kernel
theorem i330_26 : zi 330 26 27 3 5 0 := by decide +kernel
theorem i330_27 : zi 330 27 28 1 4 0 := by decide +kernel
theorem i330_28 : zi 330 28 29 18 38 0 := by decide +kernel
theorem i330_38 : zi 330 38 39 1 5 0 := by decide +kernel
theorem i330_39 : zi 330 39 40 18 50 1 := by decide +kernel
theorem i330_40 : zi 330 40 41 2 0 0 := by decide +kernel
theorem i330_41 : zi 330 41 42 1 2 0 := by decide +kernel
theorem i330_42 : zi 330 42 43 21 156 11 := by decide +kernel
theorem i330_43 : zi 330 43 44 18 50 1 := by decide +kernel
theorem i330_44 : zi 330 44 45 2 0 0 := by decide +kernel
theorem i330_45 : zi 330 45 46 1 2 0 := by decide +kernel
theorem i330_46 : zi 330 46 47 21 154 11 := by decide +kernel
theorem i330_47 : zi 330 47 48 18 50 1 := by decide +kernel
theorem i330_48 : zi 330 48 49 0 0 1 := by decide +kernel
theorem i330_49 : zi 330 49 50 17 51 0 := by decide +kernel
theorem i330_50 : zi 330 50 51 0 0 0 := by decide +kernel
theorem i330_29 : zi 330 29 30 1 5 0 := by decide +kernel
theorem i330_30 : zi 330 30 31 0 0 1 := by decide +kernel
theorem i330_31 : zi 330 31 32 19 50 2 := by decide +kernel
theorem i330_32 : zi 330 32 33 1 5 0 := by decide +kernel
theorem i330_33 : zi 330 33 34 2 1 0 := by decide +kernel
theorem i330_34 : zi 330 34 35 0 0 1 := by decide +kernel
theorem i330_35 : zi 330 35 36 8 0 0 := by decide +kernel
theorem i330_36 : zi 330 36 37 19 50 4 := by decide +kernel
theorem i330_37 : zi 330 37 38 17 40 0 := by decide +kernel
theorem i330_51 : zi 330 51 52 26 0 0 := by decide +kernel
theorem i330_8 : zi 330 8 9 2 0 0 := by decide +kernel
theorem i330_9 : zi 330 9 10 1 2 0 := by decide +kernel
theorem i330_10 : zi 330 10 11 21 155 11 := by decide +kernel
theorem i330_11 : zi 330 11 12 0 0 (-1) := by decide +kernel
theorem i330_12 : zi 330 12 13 19 21 2 := by decide +kernel
theorem i330_21 : zi 330 21 22 0 0 0 := by decide +kernel
theorem i330_13 : zi 330 13 14 2 0 0 := by decide +kernel
theorem i330_14 : zi 330 14 15 1 2 0 := by decide +kernel
theorem i330_15 : zi 330 15 16 21 155 11 := by decide +kernel
theorem i330_16 : zi 330 16 17 18 19 1 := by decide +kernel
theorem i330_17 : zi 330 17 18 1 4 0 := by decide +kernel
theorem i330_18 : zi 330 18 19 18 21 1 := by decide +kernel
theorem i330_19 : zi 330 19 20 0 0 1 := by decide +kernel
theorem i330_20 : zi 330 20 21 17 22 0 := by decide +kernel
theorem i330_22 : zi 330 22 23 26 0 0 := by decide +kernel
theorem ml_330 : z_ml 330 = 6 := by decide +kernel
theorem en_330 : ∀ (v0 v1 v2 v3 : zV), z_ent 330 [v0, v1, v2, v3] = [some v0, some v1, some v2, some v3, none, none] := fun v0 v1 v2 v3 => by unfold z_ent; rw [ml_330]; rfl
theorem i331_0 : zi 331 0 1 2 2 0 := by decide +kernel
theorem i331_1 : zi 331 1 2 1 5 0 := by decide +kernel
theorem i331_2 : zi 331 2 3 0 0 36 := by decide +kernel
theorem i331_3 : zi 331 3 4 13 3 0 := by decide +kernel
theorem i331_4 : zi 331 4 5 8 0 0 := by decide +kernel
theorem ar_81 : zar 81 0 12 := by decide +kernel
theorem i331_5 : zi 331 5 6 0 0 1 := by decide +kernel
theorem i331_6 : zi 331 6 7 19 9 1 := by decide +kernel
theorem i331_7 : zi 331 7 8 0 0 1 := by decide +kernel
theorem i331_8 : zi 331 8 9 17 10 0 := by decide +kernel
theorem i331_9 : zi 331 9 10 0 0 0 := by decide +kernel
theorem i331_10 : zi 331 10 11 3 7 0 := by decide +kernel
theorem i331_11 : zi 331 11 12 2 0 0 := by decide +kernel
theorem i331_12 : zi 331 12 13 1 3 0 := by decide +kernel
theorem i331_13 : zi 331 13 14 1 4 0 := by decide +kernel
theorem i331_14 : zi 331 14 15 1 5 0 := by decide +kernel
theorem i331_15 : zi 331 15 16 1 6 0 := by decide +kernel
theorem i331_16 : zi 331 16 17 0 0 10000 := by decide +kernel
theorem kc_10000 : Int32.ofInt 10000 = 10000 := by decide +kernel
theorem i331_17 : zi 331 17 18 13 4 0 := by decide +kernel
theorem nz_10000 : ¬ (10000 : Int32) = 0 := by decide
theorem i331_18 : zi 331 18 19 0 0 (-1) := by decide +kernel
theorem i331_19 : zi 331 19 20 21 159 11 := by decide +kernel
theorem na_159 : z_na 159 = 5 := by decide +kernel
theorem i331_20 : zi 331 20 21 3 8 0 := by decide +kernel
theorem i331_21 : zi 331 21 22 1 8 0 := by decide +kernel
theorem i331_22 : zi 331 22 23 18 41 4 := by decide +kernel
theorem i331_41 : zi 331 41 42 1 7 0 := by decide +kernel
theorem i331_42 : zi 331 42 43 18 72 0 := by decide +kernel
theorem i331_43 : zi 331 43 44 2 1 0 := by decide +kernel
theorem i331_44 : zi 331 44 45 0 0 8 := by decide +kernel
theorem i331_45 : zi 331 45 46 8 0 0 := by decide +kernel
theorem i331_46 : zi 331 46 47 0 0 1 := by decide +kernel
theorem i331_47 : zi 331 47 48 19 72 1 := by decide +kernel
theorem i331_48 : zi 331 48 49 2 0 0 := by decide +kernel
theorem i331_49 : zi 331 49 50 1 5 0 := by decide +kernel
theorem i331_50 : zi 331 50 51 0 0 0 := by decide +kernel
theorem i331_51 : zi 331 51 52 21 161 11 := by decide +kernel
theorem na_161 : z_na 161 = 2 := by decide +kernel
theorem i331_52 : zi 331 52 53 2 0 0 := by decide +kernel
theorem i331_53 : zi 331 53 54 21 142 11 := by decide +kernel
theorem na_142 : z_na 142 = 0 := by decide +kernel
theorem i331_54 : zi 331 54 55 19 72 1 := by decide +kernel
theorem i331_55 : zi 331 55 56 2 0 0 := by decide +kernel
theorem i331_56 : zi 331 56 57 1 5 0 := by decide +kernel
theorem i331_57 : zi 331 57 58 1 8 0 := by decide +kernel
theorem i331_58 : zi 331 58 59 21 161 11 := by decide +kernel
theorem i331_59 : zi 331 59 60 2 0 0 := by decide +kernel
theorem i331_60 : zi 331 60 61 21 142 11 := by decide +kernel
theorem i331_61 : zi 331 61 62 19 72 1 := by decide +kernel
theorem i331_62 : zi 331 62 63 2 0 0 := by decide +kernel
theorem i331_63 : zi 331 63 64 1 5 0 := by decide +kernel
theorem i331_64 : zi 331 64 65 1 8 0 := by decide +kernel
theorem i331_65 : zi 331 65 66 0 0 1 := by decide +kernel
theorem i331_66 : zi 331 66 67 13 0 0 := by decide +kernel
theorem i331_67 : zi 331 67 68 21 161 11 := by decide +kernel
theorem i331_68 : zi 331 68 69 0 0 (-1) := by decide +kernel
theorem i331_69 : zi 331 69 70 19 72 1 := by decide +kernel
theorem i331_70 : zi 331 70 71 0 0 1 := by decide +kernel
theorem i331_71 : zi 331 71 72 17 73 0 := by decide +kernel
theorem i331_72 : zi 331 72 73 0 0 0 := by decide +kernel
theorem i331_73 : zi 331 73 74 3 9 0 := by decide +kernel
theorem i331_74 : zi 331 74 75 2 0 0 := by decide +kernel
theorem i331_75 : zi 331 75 76 1 3 0 := by decide +kernel
theorem i331_76 : zi 331 76 77 1 4 0 := by decide +kernel
theorem i331_77 : zi 331 77 78 1 5 0 := by decide +kernel
theorem i331_78 : zi 331 78 79 1 6 0 := by decide +kernel
theorem i331_79 : zi 331 79 80 0 0 2 := by decide +kernel
theorem i331_80 : zi 331 80 81 13 4 0 := by decide +kernel
theorem i331_81 : zi 331 81 82 18 84 1 := by decide +kernel
theorem i331_82 : zi 331 82 83 0 0 0 := by decide +kernel
theorem i331_83 : zi 331 83 84 17 85 0 := by decide +kernel
theorem i331_84 : zi 331 84 85 1 8 0 := by decide +kernel
theorem i331_85 : zi 331 85 86 21 158 11 := by decide +kernel
theorem na_158 : z_na 158 = 4 := by decide +kernel
theorem i331_86 : zi 331 86 87 3 10 0 := by decide +kernel
theorem i331_87 : zi 331 87 88 2 1 0 := by decide +kernel
theorem i331_88 : zi 331 88 89 0 0 4 := by decide +kernel
theorem i331_89 : zi 331 89 90 2 0 0 := by decide +kernel
theorem i331_90 : zi 331 90 91 21 174 11 := by decide +kernel
theorem na_174 : z_na 174 = 0 := by decide +kernel
theorem i331_91 : zi 331 91 92 10 0 0 := by decide +kernel
theorem kt_4 : (4 : Int32).toNatClampNeg = 4 := by decide +kernel
theorem zx_9_4 : zx 9 4 := by unfold zx; decide
theorem i331_92 : zi 331 92 93 1 9 0 := by decide +kernel
theorem i331_93 : zi 331 93 94 18 104 0 := by decide +kernel
theorem i331_94 : zi 331 94 95 1 10 0 := by decide +kernel
theorem i331_95 : zi 331 95 96 1 6 0 := by decide +kernel
theorem i331_96 : zi 331 96 97 0 0 10000 := by decide +kernel
theorem i331_97 : zi 331 97 98 13 4 0 := by decide +kernel
theorem i331_98 : zi 331 98 99 19 102 0 := by decide +kernel
theorem i331_102 : zi 331 102 103 0 0 1 := by decide +kernel
theorem i331_103 : zi 331 103 104 17 105 0 := by decide +kernel
theorem i331_99 : zi 331 99 100 1 10 0 := by decide +kernel
theorem i331_100 : zi 331 100 101 0 0 (-1) := by decide +kernel
theorem i331_101 : zi 331 101 102 19 104 3 := by decide +kernel
theorem i331_104 : zi 331 104 105 0 0 0 := by decide +kernel
theorem i331_105 : zi 331 105 106 3 9 0 := by decide +kernel
theorem i331_106 : zi 331 106 107 2 0 0 := by decide +kernel
theorem i331_107 : zi 331 107 108 1 3 0 := by decide +kernel
theorem i331_108 : zi 331 108 109 1 5 0 := by decide +kernel
theorem i331_109 : zi 331 109 110 1 8 0 := by decide +kernel
theorem i331_110 : zi 331 110 111 21 183 11 := by decide +kernel
theorem na_183 : z_na 183 = 3 := by decide +kernel
theorem i331_111 : zi 331 111 112 3 11 0 := by decide +kernel
theorem i331_112 : zi 331 112 113 1 9 0 := by decide +kernel
theorem i331_113 : zi 331 113 114 18 135 0 := by decide +kernel
theorem i331_114 : zi 331 114 115 1 11 0 := by decide +kernel
theorem i331_115 : zi 331 115 116 0 0 (-1) := by decide +kernel
theorem i331_116 : zi 331 116 117 19 122 2 := by decide +kernel
theorem i331_122 : zi 331 122 123 2 0 0 := by decide +kernel
theorem i331_123 : zi 331 123 124 1 3 0 := by decide +kernel
theorem i331_124 : zi 331 124 125 1 4 0 := by decide +kernel
theorem i331_125 : zi 331 125 126 1 5 0 := by decide +kernel
theorem i331_126 : zi 331 126 127 0 0 5 := by decide +kernel
theorem i331_127 : zi 331 127 128 1 8 0 := by decide +kernel
theorem i331_128 : zi 331 128 129 0 0 1 := by decide +kernel
theorem i331_129 : zi 331 129 130 13 1 0 := by decide +kernel
theorem i331_130 : zi 331 130 131 21 159 11 := by decide +kernel
theorem i331_131 : zi 331 131 132 0 0 (-1) := by decide +kernel
theorem i331_132 : zi 331 132 133 19 135 3 := by decide +kernel
theorem i331_135 : zi 331 135 136 0 0 0 := by decide +kernel
theorem i331_133 : zi 331 133 134 0 0 1 := by decide +kernel
theorem i331_134 : zi 331 134 135 17 136 0 := by decide +kernel
theorem i331_117 : zi 331 117 118 1 11 0 := by decide +kernel
theorem i331_118 : zi 331 118 119 1 6 0 := by decide +kernel
theorem i331_119 : zi 331 119 120 0 0 10000 := by decide +kernel
theorem i331_120 : zi 331 120 121 13 4 0 := by decide +kernel
theorem i331_121 : zi 331 121 122 19 135 1 := by decide +kernel
theorem i331_136 : zi 331 136 137 3 9 0 := by decide +kernel
theorem i331_137 : zi 331 137 138 1 6 0 := by decide +kernel
theorem i331_138 : zi 331 138 139 0 0 3 := by decide +kernel
theorem i331_139 : zi 331 139 140 13 4 0 := by decide +kernel
theorem i331_140 : zi 331 140 141 18 143 5 := by decide +kernel
theorem i331_143 : zi 331 143 144 2 0 0 := by decide +kernel
theorem i331_144 : zi 331 144 145 1 3 0 := by decide +kernel
theorem i331_145 : zi 331 145 146 1 4 0 := by decide +kernel
theorem i331_146 : zi 331 146 147 1 5 0 := by decide +kernel
theorem i331_147 : zi 331 147 148 0 0 0 := by decide +kernel
theorem i331_148 : zi 331 148 149 1 6 0 := by decide +kernel
theorem i331_149 : zi 331 149 150 0 0 3 := by decide +kernel
theorem i331_150 : zi 331 150 151 13 3 0 := by decide +kernel
theorem i331_151 : zi 331 151 152 0 0 3 := by decide +kernel
theorem i331_152 : zi 331 152 153 13 4 0 := by decide +kernel
theorem i331_153 : zi 331 153 154 21 160 11 := by decide +kernel
theorem na_160 : z_na 160 = 5 := by decide +kernel
theorem i331_154 : zi 331 154 155 3 12 0 := by decide +kernel
theorem i331_155 : zi 331 155 156 1 12 0 := by decide +kernel
theorem i331_156 : zi 331 156 157 18 166 3 := by decide +kernel
theorem i331_166 : zi 331 166 167 2 0 0 := by decide +kernel
theorem i331_167 : zi 331 167 168 1 3 0 := by decide +kernel
theorem i331_168 : zi 331 168 169 1 4 0 := by decide +kernel
theorem i331_169 : zi 331 169 170 1 5 0 := by decide +kernel
theorem i331_170 : zi 331 170 171 1 8 0 := by decide +kernel
theorem i331_171 : zi 331 171 172 21 158 11 := by decide +kernel
theorem i331_172 : zi 331 172 173 3 10 0 := by decide +kernel
theorem i331_173 : zi 331 173 174 2 1 0 := by decide +kernel
theorem i331_174 : zi 331 174 175 0 0 4 := by decide +kernel
theorem i331_175 : zi 331 175 176 2 0 0 := by decide +kernel
theorem i331_176 : zi 331 176 177 21 174 11 := by decide +kernel
theorem i331_177 : zi 331 177 178 10 0 0 := by decide +kernel
theorem i331_178 : zi 331 178 179 1 9 0 := by decide +kernel
theorem i331_179 : zi 331 179 180 18 231 0 := by decide +kernel
theorem i331_180 : zi 331 180 181 1 12 0 := by decide +kernel
theorem i331_181 : zi 331 181 182 18 231 1 := by decide +kernel
theorem i331_182 : zi 331 182 183 1 10 0 := by decide +kernel
theorem i331_183 : zi 331 183 184 0 0 (-1) := by decide +kernel
theorem i331_184 : zi 331 184 185 19 191 2 := by decide +kernel
theorem i331_191 : zi 331 191 192 2 0 0 := by decide +kernel
theorem i331_192 : zi 331 192 193 1 5 0 := by decide +kernel
theorem i331_193 : zi 331 193 194 1 8 0 := by decide +kernel
theorem i331_194 : zi 331 194 195 21 161 11 := by decide +kernel
theorem i331_195 : zi 331 195 196 0 0 (-1) := by decide +kernel
theorem i331_196 : zi 331 196 197 19 199 1 := by decide +kernel
theorem i331_197 : zi 331 197 198 0 0 1 := by decide +kernel
theorem i331_198 : zi 331 198 199 17 200 0 := by decide +kernel
theorem i331_199 : zi 331 199 200 0 0 0 := by decide +kernel
theorem i331_200 : zi 331 200 201 1 6 0 := by decide +kernel
theorem i331_201 : zi 331 201 202 0 0 3 := by decide +kernel
theorem i331_202 : zi 331 202 203 13 3 0 := by decide +kernel
theorem i331_203 : zi 331 203 204 0 0 3 := by decide +kernel
theorem i331_204 : zi 331 204 205 13 4 0 := by decide +kernel
theorem i331_205 : zi 331 205 206 0 0 2 := by decide +kernel
theorem i331_206 : zi 331 206 207 19 209 1 := by decide +kernel
theorem i331_207 : zi 331 207 208 0 0 1 := by decide +kernel
theorem i331_208 : zi 331 208 209 17 210 0 := by decide +kernel
theorem i331_209 : zi 331 209 210 0 0 0 := by decide +kernel
theorem i331_210 : zi 331 210 211 19 231 1 := by decide +kernel
theorem i331_211 : zi 331 211 212 2 0 0 := by decide +kernel
theorem i331_212 : zi 331 212 213 1 3 0 := by decide +kernel
theorem i331_213 : zi 331 213 214 1 4 0 := by decide +kernel
theorem i331_214 : zi 331 214 215 1 5 0 := by decide +kernel
theorem i331_215 : zi 331 215 216 1 8 0 := by decide +kernel
theorem i331_216 : zi 331 216 217 0 0 0 := by decide +kernel
theorem i331_217 : zi 331 217 218 21 160 11 := by decide +kernel
theorem i331_218 : zi 331 218 219 1 6 0 := by decide +kernel
theorem i331_219 : zi 331 219 220 0 0 3 := by decide +kernel
theorem i331_220 : zi 331 220 221 13 3 0 := by decide +kernel
theorem i331_221 : zi 331 221 222 0 0 3 := by decide +kernel
theorem i331_222 : zi 331 222 223 13 4 0 := by decide +kernel
theorem i331_223 : zi 331 223 224 0 0 2 := by decide +kernel
theorem i331_224 : zi 331 224 225 19 227 1 := by decide +kernel
theorem i331_225 : zi 331 225 226 0 0 (-1) := by decide +kernel
theorem i331_226 : zi 331 226 227 17 228 0 := by decide +kernel
theorem i331_227 : zi 331 227 228 0 0 3 := by decide +kernel
theorem i331_228 : zi 331 228 229 19 231 3 := by decide +kernel
theorem i331_231 : zi 331 231 232 0 0 0 := by decide +kernel
theorem i331_229 : zi 331 229 230 0 0 1 := by decide +kernel
theorem i331_230 : zi 331 230 231 17 232 0 := by decide +kernel
theorem i331_185 : zi 331 185 186 1 6 0 := by decide +kernel
theorem i331_186 : zi 331 186 187 0 0 3 := by decide +kernel
theorem i331_187 : zi 331 187 188 13 3 0 := by decide +kernel
theorem i331_188 : zi 331 188 189 0 0 3 := by decide +kernel
theorem i331_189 : zi 331 189 190 13 4 0 := by decide +kernel
theorem i331_190 : zi 331 190 191 18 231 1 := by decide +kernel
theorem i331_232 : zi 331 232 233 26 0 0 := by decide +kernel
theorem i331_157 : zi 331 157 158 1 9 0 := by decide +kernel
theorem i331_158 : zi 331 158 159 18 164 0 := by decide +kernel
theorem i331_159 : zi 331 159 160 1 12 0 := by decide +kernel
theorem i331_160 : zi 331 160 161 0 0 (-1) := by decide +kernel
theorem i331_161 : zi 331 161 162 19 164 3 := by decide +kernel
theorem i331_164 : zi 331 164 165 0 0 0 := by decide +kernel
theorem i331_162 : zi 331 162 163 0 0 1 := by decide +kernel
theorem i331_163 : zi 331 163 164 17 165 0 := by decide +kernel
theorem i331_165 : zi 331 165 166 26 0 0 := by decide +kernel
theorem i331_141 : zi 331 141 142 1 9 0 := by decide +kernel
theorem i331_142 : zi 331 142 143 26 0 0 := by decide +kernel
theorem i331_23 : zi 331 23 24 1 8 0 := by decide +kernel
theorem i331_24 : zi 331 24 25 0 0 (-1) := by decide +kernel
theorem i331_25 : zi 331 25 26 19 39 3 := by decide +kernel
theorem i331_39 : zi 331 39 40 0 0 0 := by decide +kernel
theorem i331_26 : zi 331 26 27 1 8 0 := by decide +kernel
theorem i331_27 : zi 331 27 28 0 0 (-14) := by decide +kernel
theorem kc_m14 : Int32.ofInt (-14) = (-14) := by decide +kernel
theorem i331_28 : zi 331 28 29 19 39 5 := by decide +kernel
theorem i331_29 : zi 331 29 30 2 1 0 := by decide +kernel
theorem i331_30 : zi 331 30 31 0 0 8 := by decide +kernel
theorem i331_31 : zi 331 31 32 8 0 0 := by decide +kernel
theorem i331_32 : zi 331 32 33 0 0 1 := by decide +kernel
theorem i331_33 : zi 331 33 34 19 37 0 := by decide +kernel
theorem i331_37 : zi 331 37 38 0 0 1 := by decide +kernel
theorem i331_38 : zi 331 38 39 17 40 0 := by decide +kernel
theorem i331_34 : zi 331 34 35 1 8 0 := by decide +kernel
theorem i331_35 : zi 331 35 36 0 0 (-2) := by decide +kernel
theorem i331_36 : zi 331 36 37 19 39 1 := by decide +kernel
theorem i331_40 : zi 331 40 41 26 0 0 := by decide +kernel
theorem ml_331 : z_ml 331 = 13 := by decide +kernel
theorem en_331 : ∀ (v0 v1 v2 v3 v4 v5 v6 : zV), z_ent 331 [v0, v1, v2, v3, v4, v5, v6] = [some v0, some v1, some v2, some v3, some v4, some v5, some v6, none, none, none, none, none, none] := fun v0 v1 v2 v3 v4 v5 v6 => by unfold z_ent; rw [ml_331]; rfl
theorem i332_0 : zi 332 0 1 0 0 1 := by decide +kernel
theorem i332_1 : zi 332 1 2 1 6 0 := by decide +kernel
theorem i332_2 : zi 332 2 3 0 0 50 := by decide +kernel
theorem i332_3 : zi 332 3 4 13 4 0 := by decide +kernel
theorem nz_50 : ¬ (50 : Int32) = 0 := by decide
theorem i332_4 : zi 332 4 5 13 0 0 := by decide +kernel
theorem i332_5 : zi 332 5 6 3 7 0 := by decide +kernel
theorem i332_6 : zi 332 6 7 2 0 0 := by decide +kernel
theorem i332_7 : zi 332 7 8 1 3 0 := by decide +kernel
theorem i332_8 : zi 332 8 9 1 4 0 := by decide +kernel
theorem i332_9 : zi 332 9 10 1 5 0 := by decide +kernel
theorem i332_10 : zi 332 10 11 1 7 0 := by decide +kernel
theorem i332_11 : zi 332 11 12 1 7 0 := by decide +kernel
theorem i332_12 : zi 332 12 13 1 6 0 := by decide +kernel
theorem i332_13 : zi 332 13 14 0 0 64 := by decide +kernel
theorem i332_14 : zi 332 14 15 13 3 0 := by decide +kernel
theorem i332_15 : zi 332 15 16 0 0 101 := by decide +kernel
theorem kc_101 : Int32.ofInt 101 = 101 := by decide +kernel
theorem i332_16 : zi 332 16 17 1 7 0 := by decide +kernel
theorem i332_17 : zi 332 17 18 13 1 0 := by decide +kernel
theorem i332_18 : zi 332 18 19 13 4 0 := by decide +kernel
theorem i332_19 : zi 332 19 20 13 0 0 := by decide +kernel
theorem i332_20 : zi 332 20 21 21 163 11 := by decide +kernel
theorem na_163 : z_na 163 = 5 := by decide +kernel
theorem i332_21 : zi 332 21 22 3 8 0 := by decide +kernel
theorem i332_22 : zi 332 22 23 0 0 1 := by decide +kernel
theorem i332_23 : zi 332 23 24 3 9 0 := by decide +kernel
theorem i332_24 : zi 332 24 25 1 8 0 := by decide +kernel
theorem i332_25 : zi 332 25 26 18 81 2 := by decide +kernel
theorem i332_81 : zi 332 81 82 1 8 0 := by decide +kernel
theorem i332_82 : zi 332 82 83 0 0 (-1) := by decide +kernel
theorem i332_83 : zi 332 83 84 19 89 3 := by decide +kernel
theorem i332_89 : zi 332 89 90 0 0 0 := by decide +kernel
theorem i332_84 : zi 332 84 85 1 8 0 := by decide +kernel
theorem i332_85 : zi 332 85 86 0 0 (-14) := by decide +kernel
theorem i332_86 : zi 332 86 87 19 89 5 := by decide +kernel
theorem i332_87 : zi 332 87 88 0 0 1 := by decide +kernel
theorem i332_88 : zi 332 88 89 17 90 0 := by decide +kernel
theorem i332_90 : zi 332 90 91 3 9 0 := by decide +kernel
theorem i332_26 : zi 332 26 27 2 1 0 := by decide +kernel
theorem i332_27 : zi 332 27 28 0 0 2 := by decide +kernel
theorem i332_28 : zi 332 28 29 15 0 0 := by decide +kernel
theorem i332_29 : zi 332 29 30 8 0 0 := by decide +kernel
theorem zx_9_2 : zx 9 2 := by unfold zx; decide
theorem i332_30 : zi 332 30 31 0 0 1 := by decide +kernel
theorem i332_31 : zi 332 31 32 13 0 0 := by decide +kernel
theorem i332_32 : zi 332 32 33 10 0 0 := by decide +kernel
theorem i332_33 : zi 332 33 34 2 1 0 := by decide +kernel
theorem i332_34 : zi 332 34 35 0 0 8 := by decide +kernel
theorem i332_35 : zi 332 35 36 8 0 0 := by decide +kernel
theorem i332_36 : zi 332 36 37 0 0 1 := by decide +kernel
theorem i332_37 : zi 332 37 38 19 78 1 := by decide +kernel
theorem i332_38 : zi 332 38 39 2 2 0 := by decide +kernel
theorem i332_39 : zi 332 39 40 1 5 0 := by decide +kernel
theorem i332_40 : zi 332 40 41 0 0 36 := by decide +kernel
theorem i332_41 : zi 332 41 42 13 3 0 := by decide +kernel
theorem i332_42 : zi 332 42 43 8 0 0 := by decide +kernel
theorem i332_43 : zi 332 43 44 0 0 2 := by decide +kernel
theorem i332_44 : zi 332 44 45 19 78 1 := by decide +kernel
theorem i332_45 : zi 332 45 46 1 8 0 := by decide +kernel
theorem i332_46 : zi 332 46 47 2 1 0 := by decide +kernel
theorem i332_47 : zi 332 47 48 0 0 2 := by decide +kernel
theorem i332_48 : zi 332 48 49 8 0 0 := by decide +kernel
theorem i332_49 : zi 332 49 50 0 0 1 := by decide +kernel
theorem i332_50 : zi 332 50 51 13 1 0 := by decide +kernel
theorem i332_51 : zi 332 51 52 19 78 1 := by decide +kernel
theorem i332_52 : zi 332 52 53 2 0 0 := by decide +kernel
theorem i332_53 : zi 332 53 54 1 8 0 := by decide +kernel
theorem i332_54 : zi 332 54 55 21 167 11 := by decide +kernel
theorem na_167 : z_na 167 = 1 := by decide +kernel
theorem i332_55 : zi 332 55 56 2 1 0 := by decide +kernel
theorem i332_56 : zi 332 56 57 0 0 0 := by decide +kernel
theorem i332_57 : zi 332 57 58 8 0 0 := by decide +kernel
theorem zx_9_0 : zx 9 0 := by unfold zx; decide
theorem i332_58 : zi 332 58 59 1 7 0 := by decide +kernel
theorem i332_59 : zi 332 59 60 13 0 0 := by decide +kernel
theorem i332_60 : zi 332 60 61 19 78 4 := by decide +kernel
theorem i332_78 : zi 332 78 79 0 0 0 := by decide +kernel
theorem i332_61 : zi 332 61 62 2 0 0 := by decide +kernel
theorem i332_62 : zi 332 62 63 1 8 0 := by decide +kernel
theorem i332_63 : zi 332 63 64 21 166 11 := by decide +kernel
theorem na_166 : z_na 166 = 1 := by decide +kernel
theorem i332_64 : zi 332 64 65 18 76 4 := by decide +kernel
theorem i332_76 : zi 332 76 77 0 0 1 := by decide +kernel
theorem i332_77 : zi 332 77 78 17 79 0 := by decide +kernel
theorem i332_65 : zi 332 65 66 2 0 0 := by decide +kernel
theorem i332_66 : zi 332 66 67 1 3 0 := by decide +kernel
theorem i332_67 : zi 332 67 68 21 156 11 := by decide +kernel
theorem i332_68 : zi 332 68 69 18 78 0 := by decide +kernel
theorem i332_69 : zi 332 69 70 2 0 0 := by decide +kernel
theorem i332_70 : zi 332 70 71 1 8 0 := by decide +kernel
theorem i332_71 : zi 332 71 72 21 167 11 := by decide +kernel
theorem i332_72 : zi 332 72 73 2 1 0 := by decide +kernel
theorem i332_73 : zi 332 73 74 0 0 0 := by decide +kernel
theorem i332_74 : zi 332 74 75 8 0 0 := by decide +kernel
theorem i332_75 : zi 332 75 76 19 78 5 := by decide +kernel
theorem i332_79 : zi 332 79 80 3 9 0 := by decide +kernel
theorem i332_80 : zi 332 80 81 17 91 0 := by decide +kernel
theorem i332_91 : zi 332 91 92 2 1 0 := by decide +kernel
theorem i332_92 : zi 332 92 93 0 0 2 := by decide +kernel
theorem i332_93 : zi 332 93 94 8 0 0 := by decide +kernel
theorem i332_94 : zi 332 94 95 18 153 5 := by decide +kernel
theorem i332_95 : zi 332 95 96 1 9 0 := by decide +kernel
theorem i332_96 : zi 332 96 97 18 153 0 := by decide +kernel
theorem i332_97 : zi 332 97 98 1 6 0 := by decide +kernel
theorem i332_98 : zi 332 98 99 2 1 0 := by decide +kernel
theorem i332_99 : zi 332 99 100 0 0 2 := by decide +kernel
theorem i332_100 : zi 332 100 101 8 0 0 := by decide +kernel
theorem i332_101 : zi 332 101 102 13 4 0 := by decide +kernel
theorem i332_102 : zi 332 102 103 3 10 0 := by decide +kernel
theorem i332_103 : zi 332 103 104 2 0 0 := by decide +kernel
theorem i332_104 : zi 332 104 105 1 10 0 := by decide +kernel
theorem i332_105 : zi 332 105 106 21 166 11 := by decide +kernel
theorem i332_106 : zi 332 106 107 3 11 0 := by decide +kernel
theorem i332_107 : zi 332 107 108 2 0 0 := by decide +kernel
theorem i332_108 : zi 332 108 109 1 10 0 := by decide +kernel
theorem i332_109 : zi 332 109 110 1 7 0 := by decide +kernel
theorem i332_110 : zi 332 110 111 21 164 11 := by decide +kernel
theorem na_164 : z_na 164 = 2 := by decide +kernel
theorem i332_111 : zi 332 111 112 3 12 0 := by decide +kernel
theorem i332_112 : zi 332 112 113 2 1 0 := by decide +kernel
theorem i332_113 : zi 332 113 114 0 0 8 := by decide +kernel
theorem i332_114 : zi 332 114 115 8 0 0 := by decide +kernel
theorem i332_115 : zi 332 115 116 18 123 1 := by decide +kernel
theorem i332_116 : zi 332 116 117 1 12 0 := by decide +kernel
theorem i332_117 : zi 332 117 118 0 0 (-2) := by decide +kernel
theorem i332_118 : zi 332 118 119 19 121 1 := by decide +kernel
theorem i332_119 : zi 332 119 120 0 0 1 := by decide +kernel
theorem i332_120 : zi 332 120 121 17 152 0 := by decide +kernel
theorem i332_121 : zi 332 121 122 0 0 0 := by decide +kernel
theorem i332_122 : zi 332 122 123 17 152 0 := by decide +kernel
theorem i332_123 : zi 332 123 124 1 11 0 := by decide +kernel
theorem i332_124 : zi 332 124 125 18 146 1 := by decide +kernel
theorem i332_125 : zi 332 125 126 1 12 0 := by decide +kernel
theorem i332_126 : zi 332 126 127 2 1 0 := by decide +kernel
theorem i332_127 : zi 332 127 128 0 0 0 := by decide +kernel
theorem i332_128 : zi 332 128 129 8 0 0 := by decide +kernel
theorem i332_129 : zi 332 129 130 19 144 5 := by decide +kernel
theorem i332_144 : zi 332 144 145 0 0 0 := by decide +kernel
theorem i332_145 : zi 332 145 146 17 152 0 := by decide +kernel
theorem i332_130 : zi 332 130 131 1 12 0 := by decide +kernel
theorem i332_131 : zi 332 131 132 2 1 0 := by decide +kernel
theorem i332_132 : zi 332 132 133 0 0 0 := by decide +kernel
theorem i332_133 : zi 332 133 134 8 0 0 := by decide +kernel
theorem i332_134 : zi 332 134 135 1 7 0 := by decide +kernel
theorem i332_135 : zi 332 135 136 13 0 0 := by decide +kernel
theorem i332_136 : zi 332 136 137 19 144 4 := by decide +kernel
theorem i332_137 : zi 332 137 138 2 0 0 := by decide +kernel
theorem i332_138 : zi 332 138 139 1 10 0 := by decide +kernel
theorem i332_139 : zi 332 139 140 21 167 11 := by decide +kernel
theorem i332_140 : zi 332 140 141 1 12 0 := by decide +kernel
theorem i332_141 : zi 332 141 142 19 144 1 := by decide +kernel
theorem i332_142 : zi 332 142 143 0 0 1 := by decide +kernel
theorem i332_143 : zi 332 143 144 17 152 0 := by decide +kernel
theorem i332_146 : zi 332 146 147 1 12 0 := by decide +kernel
theorem i332_147 : zi 332 147 148 0 0 (-7) := by decide +kernel
theorem i332_148 : zi 332 148 149 19 151 1 := by decide +kernel
theorem i332_149 : zi 332 149 150 0 0 1 := by decide +kernel
theorem i332_150 : zi 332 150 151 17 152 0 := by decide +kernel
theorem i332_151 : zi 332 151 152 0 0 0 := by decide +kernel
theorem i332_152 : zi 332 152 153 3 9 0 := by decide +kernel
theorem i332_153 : zi 332 153 154 1 6 0 := by decide +kernel
theorem i332_154 : zi 332 154 155 0 0 7 := by decide +kernel
theorem i332_155 : zi 332 155 156 13 4 0 := by decide +kernel
theorem nz_7 : ¬ (7 : Int32) = 0 := by decide
theorem i332_156 : zi 332 156 157 18 203 1 := by decide +kernel
theorem i332_157 : zi 332 157 158 1 9 0 := by decide +kernel
theorem i332_158 : zi 332 158 159 18 203 0 := by decide +kernel
theorem i332_159 : zi 332 159 160 2 0 0 := by decide +kernel
theorem i332_160 : zi 332 160 161 1 5 0 := by decide +kernel
theorem i332_161 : zi 332 161 162 0 0 36 := by decide +kernel
theorem i332_162 : zi 332 162 163 13 3 0 := by decide +kernel
theorem i332_163 : zi 332 163 164 1 6 0 := by decide +kernel
theorem i332_164 : zi 332 164 165 0 0 2 := by decide +kernel
theorem i332_165 : zi 332 165 166 13 4 0 := by decide +kernel
theorem i332_166 : zi 332 166 167 18 169 1 := by decide +kernel
theorem i332_167 : zi 332 167 168 0 0 (-1) := by decide +kernel
theorem i332_168 : zi 332 168 169 17 174 0 := by decide +kernel
theorem i332_169 : zi 332 169 170 1 5 0 := by decide +kernel
theorem i332_170 : zi 332 170 171 0 0 6 := by decide +kernel
theorem i332_171 : zi 332 171 172 13 3 0 := by decide +kernel
theorem i332_172 : zi 332 172 173 0 0 6 := by decide +kernel
theorem i332_173 : zi 332 173 174 13 4 0 := by decide +kernel
theorem i332_174 : zi 332 174 175 21 165 11 := by decide +kernel
theorem na_165 : z_na 165 = 2 := by decide +kernel
theorem i332_175 : zi 332 175 176 3 10 0 := by decide +kernel
theorem i332_176 : zi 332 176 177 1 10 0 := by decide +kernel
theorem i332_177 : zi 332 177 178 18 201 2 := by decide +kernel
theorem i332_201 : zi 332 201 202 0 0 0 := by decide +kernel
theorem i332_178 : zi 332 178 179 1 10 0 := by decide +kernel
theorem i332_179 : zi 332 179 180 2 1 0 := by decide +kernel
theorem i332_180 : zi 332 180 181 0 0 2 := by decide +kernel
theorem i332_181 : zi 332 181 182 8 0 0 := by decide +kernel
theorem i332_182 : zi 332 182 183 19 201 4 := by decide +kernel
theorem i332_183 : zi 332 183 184 2 0 0 := by decide +kernel
theorem i332_184 : zi 332 184 185 1 5 0 := by decide +kernel
theorem i332_185 : zi 332 185 186 0 0 36 := by decide +kernel
theorem i332_186 : zi 332 186 187 13 3 0 := by decide +kernel
theorem i332_187 : zi 332 187 188 1 5 0 := by decide +kernel
theorem i332_188 : zi 332 188 189 0 0 6 := by decide +kernel
theorem i332_189 : zi 332 189 190 13 3 0 := by decide +kernel
theorem i332_190 : zi 332 190 191 0 0 6 := by decide +kernel
theorem i332_191 : zi 332 191 192 13 4 0 := by decide +kernel
theorem i332_192 : zi 332 192 193 21 165 11 := by decide +kernel
theorem i332_193 : zi 332 193 194 2 1 0 := by decide +kernel
theorem i332_194 : zi 332 194 195 0 0 2 := by decide +kernel
theorem i332_195 : zi 332 195 196 8 0 0 := by decide +kernel
theorem i332_196 : zi 332 196 197 1 10 0 := by decide +kernel
theorem i332_197 : zi 332 197 198 13 1 0 := by decide +kernel
theorem i332_198 : zi 332 198 199 19 201 4 := by decide +kernel
theorem i332_199 : zi 332 199 200 0 0 1 := by decide +kernel
theorem i332_200 : zi 332 200 201 17 202 0 := by decide +kernel
theorem i332_202 : zi 332 202 203 3 9 0 := by decide +kernel
theorem i332_203 : zi 332 203 204 1 9 0 := by decide +kernel
theorem i332_204 : zi 332 204 205 26 0 0 := by decide +kernel
theorem ml_332 : z_ml 332 = 13 := by decide +kernel
theorem en_332 : ∀ (v0 v1 v2 v3 v4 v5 v6 : zV), z_ent 332 [v0, v1, v2, v3, v4, v5, v6] = [some v0, some v1, some v2, some v3, some v4, some v5, some v6, none, none, none, none, none, none] := fun v0 v1 v2 v3 v4 v5 v6 => by unfold z_ent; rw [ml_332]; rfl
theorem i333_0 : zi 333 0 1 2 0 0 := by decide +kernel
theorem i333_1 : zi 333 1 2 1 2 0 := by decide +kernel
theorem i333_2 : zi 333 2 3 1 3 0 := by decide +kernel
theorem i333_3 : zi 333 3 4 1 4 0 := by decide +kernel
theorem i333_4 : zi 333 4 5 0 0 0 := by decide +kernel
theorem i333_5 : zi 333 5 6 21 170 11 := by decide +kernel
theorem na_170 : z_na 170 = 4 := by decide +kernel
theorem i333_6 : zi 333 6 7 3 5 0 := by decide +kernel
theorem i333_7 : zi 333 7 8 2 1 0 := by decide +kernel
theorem i333_8 : zi 333 8 9 0 0 4 := by decide +kernel
theorem i333_9 : zi 333 9 10 2 0 0 := by decide +kernel
theorem i333_10 : zi 333 10 11 21 174 11 := by decide +kernel
theorem i333_11 : zi 333 11 12 10 0 0 := by decide +kernel
theorem i333_12 : zi 333 12 13 1 5 0 := by decide +kernel
theorem i333_13 : zi 333 13 14 18 41 3 := by decide +kernel
theorem i333_41 : zi 333 41 42 2 1 0 := by decide +kernel
theorem i333_42 : zi 333 42 43 0 0 3 := by decide +kernel
theorem i333_43 : zi 333 43 44 15 0 0 := by decide +kernel
theorem i333_44 : zi 333 44 45 8 0 0 := by decide +kernel
theorem kt_3 : (3 : Int32).toNatClampNeg = 3 := by decide +kernel
theorem zx_9_3 : zx 9 3 := by unfold zx; decide
theorem i333_45 : zi 333 45 46 0 0 1 := by decide +kernel
theorem i333_46 : zi 333 46 47 13 0 0 := by decide +kernel
theorem i333_47 : zi 333 47 48 10 0 0 := by decide +kernel
theorem i333_48 : zi 333 48 49 2 0 0 := by decide +kernel
theorem i333_49 : zi 333 49 50 1 5 0 := by decide +kernel
theorem i333_50 : zi 333 50 51 21 171 11 := by decide +kernel
theorem na_171 : z_na 171 = 1 := by decide +kernel
theorem i333_51 : zi 333 51 52 3 6 0 := by decide +kernel
theorem i333_52 : zi 333 52 53 1 5 0 := by decide +kernel
theorem i333_53 : zi 333 53 54 2 1 0 := by decide +kernel
theorem i333_54 : zi 333 54 55 0 0 3 := by decide +kernel
theorem i333_55 : zi 333 55 56 8 0 0 := by decide +kernel
theorem i333_56 : zi 333 56 57 0 0 1 := by decide +kernel
theorem i333_57 : zi 333 57 58 13 1 0 := by decide +kernel
theorem i333_58 : zi 333 58 59 19 71 1 := by decide +kernel
theorem i333_59 : zi 333 59 60 1 6 0 := by decide +kernel
theorem i333_60 : zi 333 60 61 18 71 2 := by decide +kernel
theorem i333_71 : zi 333 71 72 0 0 0 := by decide +kernel
theorem i333_61 : zi 333 61 62 1 6 0 := by decide +kernel
theorem i333_62 : zi 333 62 63 0 0 10000 := by decide +kernel
theorem i333_63 : zi 333 63 64 19 71 3 := by decide +kernel
theorem i333_64 : zi 333 64 65 2 0 0 := by decide +kernel
theorem i333_65 : zi 333 65 66 1 5 0 := by decide +kernel
theorem i333_66 : zi 333 66 67 21 171 11 := by decide +kernel
theorem i333_67 : zi 333 67 68 0 0 (-7) := by decide +kernel
theorem i333_68 : zi 333 68 69 19 71 1 := by decide +kernel
theorem i333_69 : zi 333 69 70 0 0 1 := by decide +kernel
theorem i333_70 : zi 333 70 71 17 72 0 := by decide +kernel
theorem i333_72 : zi 333 72 73 26 0 0 := by decide +kernel
theorem i333_14 : zi 333 14 15 1 5 0 := by decide +kernel
theorem i333_15 : zi 333 15 16 0 0 (-1) := by decide +kernel
theorem i333_16 : zi 333 16 17 19 39 3 := by decide +kernel
theorem i333_39 : zi 333 39 40 0 0 0 := by decide +kernel
theorem i333_17 : zi 333 17 18 1 5 0 := by decide +kernel
theorem i333_18 : zi 333 18 19 0 0 (-14) := by decide +kernel
theorem i333_19 : zi 333 19 20 19 39 5 := by decide +kernel
theorem i333_20 : zi 333 20 21 2 1 0 := by decide +kernel
theorem i333_21 : zi 333 21 22 0 0 3 := by decide +kernel
theorem i333_22 : zi 333 22 23 8 0 0 := by decide +kernel
theorem i333_23 : zi 333 23 24 18 37 0 := by decide +kernel
theorem i333_37 : zi 333 37 38 0 0 1 := by decide +kernel
theorem i333_38 : zi 333 38 39 17 40 0 := by decide +kernel
theorem i333_24 : zi 333 24 25 2 1 0 := by decide +kernel
theorem i333_25 : zi 333 25 26 0 0 8 := by decide +kernel
theorem i333_26 : zi 333 26 27 8 0 0 := by decide +kernel
theorem i333_27 : zi 333 27 28 18 37 0 := by decide +kernel
theorem i333_28 : zi 333 28 29 2 0 0 := by decide +kernel
theorem i333_29 : zi 333 29 30 2 1 0 := by decide +kernel
theorem i333_30 : zi 333 30 31 0 0 3 := by decide +kernel
theorem i333_31 : zi 333 31 32 8 0 0 := by decide +kernel
theorem i333_32 : zi 333 32 33 0 0 1 := by decide +kernel
theorem i333_33 : zi 333 33 34 13 1 0 := by decide +kernel
theorem i333_34 : zi 333 34 35 21 171 11 := by decide +kernel
theorem i333_35 : zi 333 35 36 0 0 (-7) := by decide +kernel
theorem i333_36 : zi 333 36 37 19 39 2 := by decide +kernel
theorem i333_40 : zi 333 40 41 26 0 0 := by decide +kernel
theorem ml_333 : z_ml 333 = 7 := by decide +kernel
theorem en_333 : ∀ (v0 v1 v2 v3 v4 : zV), z_ent 333 [v0, v1, v2, v3, v4] = [some v0, some v1, some v2, some v3, some v4, none, none] := fun v0 v1 v2 v3 v4 => by unfold z_ent; rw [ml_333]; rfl
theorem i334_0 : zi 334 0 1 0 0 1 := by decide +kernel
theorem i334_1 : zi 334 1 2 3 6 0 := by decide +kernel
theorem i334_2 : zi 334 2 3 1 5 0 := by decide +kernel
theorem i334_3 : zi 334 3 4 0 0 3 := by decide +kernel
theorem i334_4 : zi 334 4 5 13 4 0 := by decide +kernel
theorem i334_5 : zi 334 5 6 18 44 5 := by decide +kernel
theorem i334_6 : zi 334 6 7 2 0 0 := by decide +kernel
theorem i334_7 : zi 334 7 8 1 2 0 := by decide +kernel
theorem i334_8 : zi 334 8 9 1 3 0 := by decide +kernel
theorem i334_9 : zi 334 9 10 1 4 0 := by decide +kernel
theorem i334_10 : zi 334 10 11 21 172 11 := by decide +kernel
theorem na_172 : z_na 172 = 3 := by decide +kernel
theorem i334_11 : zi 334 11 12 3 7 0 := by decide +kernel
theorem i334_12 : zi 334 12 13 2 0 0 := by decide +kernel
theorem i334_13 : zi 334 13 14 1 2 0 := by decide +kernel
theorem i334_14 : zi 334 14 15 1 3 0 := by decide +kernel
theorem i334_15 : zi 334 15 16 1 4 0 := by decide +kernel
theorem i334_16 : zi 334 16 17 21 172 11 := by decide +kernel
theorem i334_17 : zi 334 17 18 3 8 0 := by decide +kernel
theorem i334_18 : zi 334 18 19 1 7 0 := by decide +kernel
theorem i334_19 : zi 334 19 20 0 0 (-1) := by decide +kernel
theorem i334_20 : zi 334 20 21 19 28 3 := by decide +kernel
theorem i334_28 : zi 334 28 29 1 7 0 := by decide +kernel
theorem i334_29 : zi 334 29 30 0 0 1 := by decide +kernel
theorem i334_30 : zi 334 30 31 19 42 2 := by decide +kernel
theorem i334_42 : zi 334 42 43 0 0 0 := by decide +kernel
theorem i334_31 : zi 334 31 32 1 7 0 := by decide +kernel
theorem i334_32 : zi 334 32 33 0 0 8 := by decide +kernel
theorem i334_33 : zi 334 33 34 19 42 4 := by decide +kernel
theorem i334_34 : zi 334 34 35 1 8 0 := by decide +kernel
theorem i334_35 : zi 334 35 36 1 7 0 := by decide +kernel
theorem i334_36 : zi 334 36 37 19 40 0 := by decide +kernel
theorem i334_40 : zi 334 40 41 0 0 1 := by decide +kernel
theorem i334_41 : zi 334 41 42 17 43 0 := by decide +kernel
theorem i334_37 : zi 334 37 38 1 8 0 := by decide +kernel
theorem i334_38 : zi 334 38 39 0 0 (-1) := by decide +kernel
theorem i334_39 : zi 334 39 40 19 42 3 := by decide +kernel
theorem i334_21 : zi 334 21 22 1 7 0 := by decide +kernel
theorem i334_22 : zi 334 22 23 0 0 (-14) := by decide +kernel
theorem i334_23 : zi 334 23 24 19 26 5 := by decide +kernel
theorem i334_26 : zi 334 26 27 0 0 0 := by decide +kernel
theorem i334_27 : zi 334 27 28 17 43 0 := by decide +kernel
theorem i334_24 : zi 334 24 25 0 0 1 := by decide +kernel
theorem i334_25 : zi 334 25 26 17 43 0 := by decide +kernel
theorem i334_43 : zi 334 43 44 3 6 0 := by decide +kernel
theorem i334_44 : zi 334 44 45 2 0 0 := by decide +kernel
theorem i334_45 : zi 334 45 46 1 2 0 := by decide +kernel
theorem i334_46 : zi 334 46 47 1 3 0 := by decide +kernel
theorem i334_47 : zi 334 47 48 1 4 0 := by decide +kernel
theorem i334_48 : zi 334 48 49 21 173 11 := by decide +kernel
theorem na_173 : z_na 173 = 3 := by decide +kernel
theorem i334_49 : zi 334 49 50 3 7 0 := by decide +kernel
theorem i334_50 : zi 334 50 51 1 6 0 := by decide +kernel
theorem i334_51 : zi 334 51 52 18 78 0 := by decide +kernel
theorem i334_52 : zi 334 52 53 1 7 0 := by decide +kernel
theorem i334_53 : zi 334 53 54 0 0 (-1) := by decide +kernel
theorem i334_54 : zi 334 54 55 19 58 3 := by decide +kernel
theorem i334_58 : zi 334 58 59 1 7 0 := by decide +kernel
theorem i334_59 : zi 334 59 60 18 78 2 := by decide +kernel
theorem i334_78 : zi 334 78 79 0 0 0 := by decide +kernel
theorem i334_60 : zi 334 60 61 1 7 0 := by decide +kernel
theorem i334_61 : zi 334 61 62 0 0 10000 := by decide +kernel
theorem i334_62 : zi 334 62 63 19 78 3 := by decide +kernel
theorem i334_63 : zi 334 63 64 2 0 0 := by decide +kernel
theorem i334_64 : zi 334 64 65 1 2 0 := by decide +kernel
theorem i334_65 : zi 334 65 66 1 3 0 := by decide +kernel
theorem i334_66 : zi 334 66 67 1 4 0 := by decide +kernel
theorem i334_67 : zi 334 67 68 21 173 11 := by decide +kernel
theorem i334_68 : zi 334 68 69 0 0 (-1) := by decide +kernel
theorem i334_69 : zi 334 69 70 19 78 3 := by decide +kernel
theorem i334_70 : zi 334 70 71 2 0 0 := by decide +kernel
theorem i334_71 : zi 334 71 72 21 174 11 := by decide +kernel
theorem i334_72 : zi 334 72 73 2 1 0 := by decide +kernel
theorem i334_73 : zi 334 73 74 0 0 4 := by decide +kernel
theorem i334_74 : zi 334 74 75 8 0 0 := by decide +kernel
theorem i334_75 : zi 334 75 76 19 78 1 := by decide +kernel
theorem i334_76 : zi 334 76 77 0 0 1 := by decide +kernel
theorem i334_77 : zi 334 77 78 17 79 0 := by decide +kernel
theorem i334_55 : zi 334 55 56 1 7 0 := by decide +kernel
theorem i334_56 : zi 334 56 57 0 0 (-14) := by decide +kernel
theorem i334_57 : zi 334 57 58 19 70 4 := by decide +kernel
theorem i334_79 : zi 334 79 80 26 0 0 := by decide +kernel
theorem ml_334 : z_ml 334 = 9 := by decide +kernel
theorem en_334 : ∀ (v0 v1 v2 v3 v4 v5 : zV), z_ent 334 [v0, v1, v2, v3, v4, v5] = [some v0, some v1, some v2, some v3, some v4, some v5, none, none, none] := fun v0 v1 v2 v3 v4 v5 => by unfold z_ent; rw [ml_334]; rfl
theorem i335_0 : zi 335 0 1 2 0 0 := by decide +kernel
theorem i335_1 : zi 335 1 2 1 2 0 := by decide +kernel
theorem i335_2 : zi 335 2 3 1 3 0 := by decide +kernel
theorem i335_3 : zi 335 3 4 1 4 0 := by decide +kernel
theorem i335_4 : zi 335 4 5 1 5 0 := by decide +kernel
theorem i335_5 : zi 335 5 6 21 175 11 := by decide +kernel
theorem na_175 : z_na 175 = 4 := by decide +kernel
theorem i335_6 : zi 335 6 7 3 6 0 := by decide +kernel
theorem i335_7 : zi 335 7 8 1 6 0 := by decide +kernel
theorem i335_8 : zi 335 8 9 18 22 3 := by decide +kernel
theorem i335_22 : zi 335 22 23 2 1 0 := by decide +kernel
theorem i335_23 : zi 335 23 24 0 0 5 := by decide +kernel
theorem i335_24 : zi 335 24 25 15 0 0 := by decide +kernel
theorem i335_25 : zi 335 25 26 8 0 0 := by decide +kernel
theorem kt_5 : (5 : Int32).toNatClampNeg = 5 := by decide +kernel
theorem zx_9_5 : zx 9 5 := by unfold zx; decide
theorem i335_26 : zi 335 26 27 0 0 1 := by decide +kernel
theorem i335_27 : zi 335 27 28 13 0 0 := by decide +kernel
theorem i335_28 : zi 335 28 29 10 0 0 := by decide +kernel
theorem i335_29 : zi 335 29 30 1 6 0 := by decide +kernel
theorem i335_30 : zi 335 30 31 2 1 0 := by decide +kernel
theorem i335_31 : zi 335 31 32 0 0 5 := by decide +kernel
theorem i335_32 : zi 335 32 33 8 0 0 := by decide +kernel
theorem i335_33 : zi 335 33 34 0 0 1 := by decide +kernel
theorem i335_34 : zi 335 34 35 13 1 0 := by decide +kernel
theorem i335_35 : zi 335 35 36 19 56 1 := by decide +kernel
theorem i335_36 : zi 335 36 37 2 0 0 := by decide +kernel
theorem i335_37 : zi 335 37 38 1 6 0 := by decide +kernel
theorem i335_38 : zi 335 38 39 21 178 11 := by decide +kernel
theorem na_178 : z_na 178 = 1 := by decide +kernel
theorem i335_39 : zi 335 39 40 18 56 0 := by decide +kernel
theorem i335_56 : zi 335 56 57 0 0 0 := by decide +kernel
theorem i335_40 : zi 335 40 41 2 0 0 := by decide +kernel
theorem i335_41 : zi 335 41 42 1 6 0 := by decide +kernel
theorem i335_42 : zi 335 42 43 21 179 11 := by decide +kernel
theorem na_179 : z_na 179 = 1 := by decide +kernel
theorem i335_43 : zi 335 43 44 1 6 0 := by decide +kernel
theorem i335_44 : zi 335 44 45 19 56 4 := by decide +kernel
theorem i335_45 : zi 335 45 46 1 4 0 := by decide +kernel
theorem i335_46 : zi 335 46 47 0 0 6 := by decide +kernel
theorem i335_47 : zi 335 47 48 13 4 0 := by decide +kernel
theorem i335_48 : zi 335 48 49 18 54 1 := by decide +kernel
theorem i335_49 : zi 335 49 50 2 0 0 := by decide +kernel
theorem i335_50 : zi 335 50 51 1 6 0 := by decide +kernel
theorem i335_51 : zi 335 51 52 21 179 11 := by decide +kernel
theorem i335_52 : zi 335 52 53 1 6 0 := by decide +kernel
theorem i335_53 : zi 335 53 54 19 56 1 := by decide +kernel
theorem i335_54 : zi 335 54 55 0 0 1 := by decide +kernel
theorem i335_55 : zi 335 55 56 17 57 0 := by decide +kernel
theorem i335_57 : zi 335 57 58 3 7 0 := by decide +kernel
theorem i335_58 : zi 335 58 59 1 5 0 := by decide +kernel
theorem i335_59 : zi 335 59 60 0 0 3 := by decide +kernel
theorem i335_60 : zi 335 60 61 13 4 0 := by decide +kernel
theorem i335_61 : zi 335 61 62 18 64 5 := by decide +kernel
theorem i335_64 : zi 335 64 65 1 7 0 := by decide +kernel
theorem i335_65 : zi 335 65 66 18 88 0 := by decide +kernel
theorem i335_66 : zi 335 66 67 2 0 0 := by decide +kernel
theorem i335_67 : zi 335 67 68 1 6 0 := by decide +kernel
theorem i335_68 : zi 335 68 69 21 176 11 := by decide +kernel
theorem na_176 : z_na 176 = 1 := by decide +kernel
theorem i335_69 : zi 335 69 70 18 88 0 := by decide +kernel
theorem i335_88 : zi 335 88 89 0 0 0 := by decide +kernel
theorem i335_70 : zi 335 70 71 2 0 0 := by decide +kernel
theorem i335_71 : zi 335 71 72 1 6 0 := by decide +kernel
theorem i335_72 : zi 335 72 73 21 176 11 := by decide +kernel
theorem i335_73 : zi 335 73 74 18 88 1 := by decide +kernel
theorem i335_74 : zi 335 74 75 2 0 0 := by decide +kernel
theorem i335_75 : zi 335 75 76 1 6 0 := by decide +kernel
theorem i335_76 : zi 335 76 77 21 178 11 := by decide +kernel
theorem i335_77 : zi 335 77 78 18 88 0 := by decide +kernel
theorem i335_78 : zi 335 78 79 2 0 0 := by decide +kernel
theorem i335_79 : zi 335 79 80 21 177 11 := by decide +kernel
theorem na_177 : z_na 177 = 0 := by decide +kernel
theorem i335_80 : zi 335 80 81 0 0 1 := by decide +kernel
theorem i335_81 : zi 335 81 82 19 88 2 := by decide +kernel
theorem i335_82 : zi 335 82 83 2 0 0 := by decide +kernel
theorem i335_83 : zi 335 83 84 1 6 0 := by decide +kernel
theorem i335_84 : zi 335 84 85 21 178 11 := by decide +kernel
theorem i335_85 : zi 335 85 86 18 88 1 := by decide +kernel
theorem i335_86 : zi 335 86 87 0 0 1 := by decide +kernel
theorem i335_87 : zi 335 87 88 17 89 0 := by decide +kernel
theorem i335_89 : zi 335 89 90 26 0 0 := by decide +kernel
theorem i335_62 : zi 335 62 63 1 7 0 := by decide +kernel
theorem i335_63 : zi 335 63 64 26 0 0 := by decide +kernel
theorem i335_9 : zi 335 9 10 1 6 0 := by decide +kernel
theorem i335_10 : zi 335 10 11 0 0 (-1) := by decide +kernel
theorem i335_11 : zi 335 11 12 19 20 3 := by decide +kernel
theorem i335_20 : zi 335 20 21 0 0 0 := by decide +kernel
theorem i335_12 : zi 335 12 13 1 6 0 := by decide +kernel
theorem i335_13 : zi 335 13 14 0 0 (-14) := by decide +kernel
theorem i335_14 : zi 335 14 15 19 20 5 := by decide +kernel
theorem i335_15 : zi 335 15 16 2 0 0 := by decide +kernel
theorem i335_16 : zi 335 16 17 21 177 11 := by decide +kernel
theorem i335_17 : zi 335 17 18 18 20 2 := by decide +kernel
theorem i335_18 : zi 335 18 19 0 0 1 := by decide +kernel
theorem i335_19 : zi 335 19 20 17 21 0 := by decide +kernel
theorem i335_21 : zi 335 21 22 26 0 0 := by decide +kernel
theorem ml_335 : z_ml 335 = 8 := by decide +kernel
theorem en_335 : ∀ (v0 v1 v2 v3 v4 v5 : zV), z_ent 335 [v0, v1, v2, v3, v4, v5] = [some v0, some v1, some v2, some v3, some v4, some v5, none, none] := fun v0 v1 v2 v3 v4 v5 => by unfold z_ent; rw [ml_335]; rfl
theorem jk_4 : (4 : Int32).toInt = 4 := rfl
theorem jk_10 : (10 : Int32).toInt = 10 := rfl
theorem jk_11 : (11 : Int32).toInt = 11 := rfl
theorem jk_13 : (13 : Int32).toInt = 13 := rfl
theorem jk_14 : (14 : Int32).toInt = 14 := rfl
theorem jk_15 : (15 : Int32).toInt = 15 := rfl
theorem jk_16 : (16 : Int32).toInt = 16 := rfl
theorem jk_18 : (18 : Int32).toInt = 18 := rfl
theorem jk_20 : (20 : Int32).toInt = 20 := rfl
theorem jk_25 : (25 : Int32).toInt = 25 := rfl
theorem jk_64 : (64 : Int32).toInt = 64 := rfl
theorem jk_120 : (120 : Int32).toInt = 120 := rfl
theorem jk_200 : (200 : Int32).toInt = 200 := rfl
theorem jk_201 : (201 : Int32).toInt = 201 := rfl
theorem jk_216 : (216 : Int32).toInt = 216 := rfl
theorem jk_255 : (255 : Int32).toInt = 255 := rfl
theorem jk_256 : (256 : Int32).toInt = 256 := rfl
theorem jk_512 : (512 : Int32).toInt = 512 := rfl
theorem jk_2048 : (2048 : Int32).toInt = 2048 := rfl
theorem jk_9999 : (9999 : Int32).toInt = 9999 := rfl
theorem jk_10000 : (10000 : Int32).toInt = 10000 := rfl
theorem jk_104729 : (104729 : Int32).toInt = 104729 := rfl
theorem jk_2147483647 : (2147483647 : Int32).toInt = 2147483647 := rfl
theorem jk_m2 : (-2 : Int32).toInt = -2 := rfl
theorem jk_m3 : (-3 : Int32).toInt = -3 := rfl
theorem jk_m4 : (-4 : Int32).toInt = -4 := rfl
theorem jk_m5 : (-5 : Int32).toInt = -5 := rfl
theorem jk_m6 : (-6 : Int32).toInt = -6 := rfl
theorem jk_m7 : (-7 : Int32).toInt = -7 := rfl
theorem jk_m8 : (-8 : Int32).toInt = -8 := rfl
theorem jk_m9 : (-9 : Int32).toInt = -9 := rfl
theorem jk_m10 : (-10 : Int32).toInt = -10 := rfl
theorem jk_m11 : (-11 : Int32).toInt = -11 := rfl
theorem jk_m12 : (-12 : Int32).toInt = -12 := rfl
theorem jk_m13 : (-13 : Int32).toInt = -13 := rfl
theorem jk_m14 : (-14 : Int32).toInt = -14 := rfl
theorem jk_sub1 {x : Int32} : (x + 1) - 1 = x := by rw [Int32.add_sub_cancel]
theorem jdem {a m : Int32} (h0 : 0 ≤ a.toInt) (h1 : a.toInt < m.toInt) : (¬ (a < 0)) ∧ (¬ (m ≤ a)) := by rw [zk_lt, zk_le, jk_0]; omega
theorem jI_n {n : Nat} {S : zS} (hn : n < 490) (h : jI n S) : ∃ n, n < 490 ∧ jI n S := ⟨n, hn, h⟩
/-- the call of login, with the law's numbers -/
theorem jv151 {n : Nat} {S : zS} (hn : n < 490) (w : jLaw n S) {a b : Int32} (ha : 0 ≤ a.toInt ∧ a.toInt < 3) (hb : 0 ≤ b.toInt ∧ b.toInt < 6) : jI n (B151 a b S) ∧ jCx [1] (B151 a b S) ∧ jE (B151 a b S) ∧ B151 a b S 13 1 = S 5 0 ∧ B151 a b S 1 6 = S 1 6 ∧ ((S 1 6 = 0 ∧ A151 a b S = -2 ∧ B151 a b S = S) ∨ (¬ S 1 6 = 0 ∧ A151 a b S = -6 ∧ B151 a b S = S) ∨ (¬ S 1 6 = 0 ∧ A151 a b S = -11 ∧ S 5 0 = 40 ∧ B151 a b S = S) ∨ (¬ S 1 6 = 0 ∧ A151 a b S = S 5 0 ∧ B151 a b S 5 0 = (S 5 0) + 1 ∧ B151 a b S 40 (S 5 0).toNatClampNeg = 0 ∧ B151 a b S 37 (S 5 0).toNatClampNeg = -1)) := by
  obtain ⟨h1, h2⟩ := jq151 (by omega) w.1 ha hb
  have hp := p_B151 a b S
  exact ⟨h1, jCx_k rfl hp w.2.1, jE_k rfl rfl hp w.2.2, (hp.2 13 1 rfl rfl).trans (jcx1 w.2.1), hp.2 1 6 rfl rfl, h2⟩

set_option maxRecDepth 100000 in
theorem q328 {L : Nat} (a b : Int32) {S : zS} {n : Nat} (hn : n < 480) (w : jLaw n S) (ha : 0 ≤ a.toInt ∧ a.toInt < 3) (hb : 0 ≤ b.toInt ∧ b.toInt < 6) : ∃ S', zf L 328 [.inr (.inr 0), .inr (.inr 13), .inl a, .inl b] S (.inl (some (.inl 1)), S', 0) ∧ jLaw (n + 6) S' := by
  refine zH_f (en_328 _ _ _ _) ?_
  refine zH_pre (zr_2_0 i328_0 (zr_1_2 i328_1 (zr_1_3 i328_2 (zt_rfl)))) ?_
  have hP : jP151 a b S := ⟨jI_n (by omega) w.1, by simp only [zk_lt, zk_le, zk_1, jk_0, jk_2, jk_3, jk_4, jk_5, jk_6, jk_7, jk_8, jk_10, jk_11, jk_13, jk_14, jk_15, jk_16, jk_18, jk_20, jk_24, jk_25, jk_36, jk_40, jk_50, jk_64, jk_72, jk_100, jk_120, jk_200, jk_201, jk_216, jk_255, jk_256, jk_257, jk_512, jk_1000, jk_2048, jk_9999, jk_10000, jk_65521, jk_65536, jk_104729, jk_2147483647, jk_m1, jk_m2, jk_m3, jk_m4, jk_m5, jk_m6, jk_m7, jk_m8, jk_m9, jk_m10, jk_m11, jk_m12, jk_m13, jk_m14]; omega⟩
  refine zH_call (zs_21_2 i328_3 na_151 ob_0 rfl) (y151 a b S hP) ?_
  have f := jv151 (by omega) w ha hb
  generalize (B151 a b S) = S1 at f ⊢
  generalize (A151 a b S) = r at f ⊢
  obtain ⟨i1, c1, e1, k1, k6, h⟩ := f
  have hT := (rTok_0 (jI_Tok w.1)).1
  have k8 : S1 13 8 = S 1 6 := (jcxk8 c1).trans k6
  refine zH_pre (zr_3_4 i328_4 (zr_1_4 i328_5 (zt_rfl))) ?_
  by_cases hr : (0 ≤ r)
  · refine zH_pre (zt_cast (zr_18_3 i328_6 (fun _ => zt_rfl) (fun _ => zt_rfl)) (if_pos hr)) ?_
    obtain ⟨g1, g2, g3, g4, g5⟩ : ¬ S 1 6 = 0 ∧ r = S 5 0 ∧ S1 5 0 = (S 5 0) + 1 ∧ S1 40 (S 5 0).toNatClampNeg = 0 ∧ S1 37 (S 5 0).toNatClampNeg = -1 := by
      rcases h with ⟨_, e, _⟩ | ⟨_, e, _⟩ | ⟨_, e, _⟩ | e
      · rw [e] at hr; exact absurd hr (by decide)
      · rw [e] at hr; exact absurd hr (by decide)
      · rw [e] at hr; exact absurd hr (by decide)
      · exact e
    have h16 : S 1 6 = 1 := (rSea_0 (jI_Sea w.1)).resolve_left g1
    have e5 := jk_p _ (rTok_0 (jI_Tok w.1)) (by decide)
    refine zH_pre (zr_2_1 i328_30 (zr_0 i328_31 kc_1 (zr_15 i328_32 (zr_8 i328_33 ar_13 (zx_9_1) kt_1 rfl (zr_0 i328_34 kc_1 (zr_13_0 i328_35 (zr_10 i328_36 ar_13 (zx_9_1) kt_1 (zr_2_1 i328_37 (zr_0 i328_38 kc_8 (zr_8 i328_39 ar_13 (zx_9_8) kt_8 (zupf rfl) (zr_0 i328_40 kc_1 (zt_rfl)))))))))))) ?_
    have f := (show jLaw n (z_up S1 13 1 ((S1 13 1) + 1)) ∧ ((z_up S1 13 1 ((S1 13 1) + 1)) 13 8 = S1 13 8) ∧ (z_up S1 13 1 ((S1 13 1) + 1)) 13 1 = S1 13 1 + 1 ∧ (z_up S1 13 1 ((S1 13 1) + 1)) 5 0 = S1 5 0 ∧ (z_up S1 13 1 ((S1 13 1) + 1)) 40 = S1 40 ∧ (z_up S1 13 1 ((S1 13 1) + 1)) 37 = S1 37 from ⟨⟨jI_13 i1 1 _ rfl, jCx_up1 c1 (by rw [k1, g3]) [] jmem1, jE_13 e1 1 _⟩, zupf rfl, zup_s _ _ _ _, zupci rfl, zupc rfl, zupc rfl⟩)
    generalize (z_up S1 13 1 ((S1 13 1) + 1)) = S2 at f ⊢
    obtain ⟨w2, m8, m1, m5, m40, m37⟩ := f
    have hc : ((S1 13 8) = 1) := k8.trans h16
    refine zH_pre (zt_cast (zr_19_1 i328_41 (fun _ => zt_rfl) (fun _ => zt_rfl)) (if_pos hc)) ?_
    clear hc
    refine zH_pre (zr_1_4 i328_42 (zr_2_1 i328_43 (zr_0 i328_44 kc_1 (zr_8 i328_45 ar_13 (zx_9_1) kt_1 rfl (zr_0 i328_46 kc_1 (zr_13_1 i328_47 (zt_rfl))))))) ?_
    have hc : (r = ((S2 13 1) - 1)) := by rw [m1, k1, jk_sub1]; exact g2
    refine zH_pre (zt_cast (zr_19_1 i328_48 (fun _ => zt_rfl) (fun _ => zt_rfl)) (if_pos hc)) ?_
    clear hc
    refine zH_pre (zr_2_0 i328_49 (zr_1_4 i328_50 (zt_rfl))) ?_
    have hP : jP156 r S2 := ⟨jI_n (by omega) w2.1, jdem (by rw [g2]; exact hT) (by rw [g2, m5, g3, e5]; omega)⟩
    refine zH_call (zs_21_1 i328_51 na_156 ob_0 rfl) (y156 r S2 hP) ?_
    have f := (show (A156 r S2) = 1 from by unfold A156; rw [g2, m40, g4]; exact (zb_1 _).mpr rfl)
    generalize (A156 r S2) = r2 at f ⊢
    have hc : ¬ (r2 = 0) := by rw [f]; decide
    refine zH_pre (zt_cast (zr_18_0 i328_52 (fun _ => zt_rfl) (fun _ => zt_rfl)) (if_neg hc)) ?_
    clear hc
    refine zH_pre (zr_2_0 i328_53 (zr_1_4 i328_54 (zt_rfl))) ?_
    have hP : jP155 r S2 := ⟨jI_n (by omega) w2.1, jdem (by rw [g2]; exact hT) (by rw [g2, m5, g3, e5]; omega)⟩
    refine zH_call (zs_21_1 i328_55 na_155 ob_0 rfl) (y155 r S2 hP) ?_
    have f := (show (A155 r S2) = -1 from by unfold A155; rw [g2, m37, g5])
    generalize (A155 r S2) = r3 at f ⊢
    refine zH_pre (zr_0 i328_56 kc_m1 (zt_rfl)) ?_
    have hc : (r3 = (-1)) := f
    refine zH_pre (zt_cast (zr_19_1 i328_57 (fun _ => zt_rfl) (fun _ => zt_rfl)) (if_pos hc)) ?_
    clear hc
    refine zH_pre (zr_0 i328_58 kc_1 (zr_17 i328_59 (zt_rfl))) ?_
    exact zH_ret (zr_26 i328_61 zo_1) ⟨rfl, jLaw_u (by omega) w2⟩
  · refine zH_pre (zt_cast (zr_18_3 i328_6 (fun _ => zt_rfl) (fun _ => zt_rfl)) (if_neg hr)) ?_
    have h2 : S1 = S ∧ ((S 1 6 = 0 ∧ r = -2) ∨ (¬ S 1 6 = 0 ∧ r = -6) ∨ (¬ S 1 6 = 0 ∧ r = -11 ∧ S 5 0 = 40)) := by
      rcases h with ⟨e1, e2, e3⟩ | ⟨e1, e2, e3⟩ | ⟨e1, e2, e3, e4⟩ | ⟨_, e2, _⟩
      · exact ⟨e3, Or.inl ⟨e1, e2⟩⟩
      · exact ⟨e3, Or.inr (Or.inl ⟨e1, e2⟩)⟩
      · exact ⟨e4, Or.inr (Or.inr ⟨e1, e2, e3⟩)⟩
      · rw [e2, zk_le, jk_0] at hr; exact absurd hT hr
    obtain ⟨rfl, h2⟩ := h2
    refine zH_pre (zr_1_4 i328_7 (zr_2_1 i328_8 (zr_0 i328_9 kc_8 (zr_8 i328_10 ar_13 (zx_9_8) kt_8 rfl (zt_rfl))))) ?_
    by_cases c8 : ((S1 13 8) = 0)
    · refine zH_pre (zt_cast (zr_18_1 i328_11 (fun _ => zt_rfl) (fun _ => zt_rfl)) (if_pos c8)) ?_
      have hr2 : r = -2 := (h2.resolve_right (fun e => e.elim (fun e => e.1 (k8.symm.trans c8)) (fun e => e.1 (k8.symm.trans c8)))).2
      refine zH_pre (zr_0 i328_12 kc_m2 (zr_17 i328_13 (zt_rfl))) ?_
      have hc : (r = (-2)) := hr2
      refine zH_pre (zt_cast (zr_19_1 i328_25 (fun _ => zt_rfl) (fun _ => zt_rfl)) (if_pos hc)) ?_
      clear hc
      refine zH_pre (zr_0 i328_26 kc_1 (zr_17 i328_27 (zt_rfl))) ?_
      exact zH_ret (zr_26 i328_29 zo_1) ⟨rfl, jLaw_u (by omega) w⟩
    · refine zH_pre (zt_cast (zr_18_1 i328_11 (fun _ => zt_rfl) (fun _ => zt_rfl)) (if_neg c8)) ?_
      have h3 := h2.resolve_left (fun e => c8 (k8.trans e.1))
      refine zH_pre (zr_2_1 i328_14 (zr_0 i328_15 kc_1 (zr_8 i328_16 ar_13 (zx_9_1) kt_1 rfl (zr_0 i328_17 kc_40 (zt_rfl))))) ?_
      by_cases c40 : ((S1 13 1) = 40)
      · refine zH_pre (zt_cast (zr_19_1 i328_18 (fun _ => zt_rfl) (fun _ => zt_rfl)) (if_pos c40)) ?_
        refine zH_pre (zr_1_4 i328_19 (zr_0 i328_20 kc_m6 (zt_rfl))) ?_
        by_cases c6 : (r = (-6))
        · refine zH_pre (zt_cast (zr_19_0 i328_21 (fun _ => zt_rfl) (fun _ => zt_rfl)) (if_pos c6)) ?_
          refine zH_pre (zr_0 i328_24 kc_m6 (zt_rfl)) ?_
          have hc : (r = (-6)) := c6
          refine zH_pre (zt_cast (zr_19_1 i328_25 (fun _ => zt_rfl) (fun _ => zt_rfl)) (if_pos hc)) ?_
          clear hc
          refine zH_pre (zr_0 i328_26 kc_1 (zr_17 i328_27 (zt_rfl))) ?_
          exact zH_ret (zr_26 i328_29 zo_1) ⟨rfl, jLaw_u (by omega) w⟩
        · refine zH_pre (zt_cast (zr_19_0 i328_21 (fun _ => zt_rfl) (fun _ => zt_rfl)) (if_neg c6)) ?_
          refine zH_pre (zr_0 i328_22 kc_m11 (zr_17 i328_23 (zt_rfl))) ?_
          have hc : (r = (-11)) := (h3.resolve_left (fun e => c6 e.2)).2.1
          refine zH_pre (zt_cast (zr_19_1 i328_25 (fun _ => zt_rfl) (fun _ => zt_rfl)) (if_pos hc)) ?_
          clear hc
          refine zH_pre (zr_0 i328_26 kc_1 (zr_17 i328_27 (zt_rfl))) ?_
          exact zH_ret (zr_26 i328_29 zo_1) ⟨rfl, jLaw_u (by omega) w⟩
      · refine zH_pre (zt_cast (zr_19_1 i328_18 (fun _ => zt_rfl) (fun _ => zt_rfl)) (if_neg c40)) ?_
        refine zH_pre (zr_0 i328_24 kc_m6 (zt_rfl)) ?_
        have hc : (r = (-6)) := (h3.resolve_right (fun e => c40 ((jcx1 w.2.1).trans e.2.2))).2
        refine zH_pre (zt_cast (zr_19_1 i328_25 (fun _ => zt_rfl) (fun _ => zt_rfl)) (if_pos hc)) ?_
        clear hc
        refine zH_pre (zr_0 i328_26 kc_1 (zr_17 i328_27 (zt_rfl))) ?_
        exact zH_ret (zr_26 i328_29 zo_1) ⟨rfl, jLaw_u (by omega) w⟩
