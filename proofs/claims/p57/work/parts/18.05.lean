/-! the methods with loops, and what calls them (wip/p57/gen/gen18.py) -/
theorem i126_0 : zi 126 0 1 0 0 0 := by decide +kernel
theorem i126_1 : zi 126 1 2 3 3 0 := by decide +kernel
theorem i126_2 : zi 126 2 3 1 3 0 := by decide +kernel
theorem i126_3 : zi 126 3 4 2 0 0 := by decide +kernel
theorem i126_4 : zi 126 4 5 6 10 0 := by decide +kernel
theorem i126_5 : zi 126 5 6 19 19 3 := by decide +kernel
theorem i126_6 : zi 126 6 7 2 0 0 := by decide +kernel
theorem i126_7 : zi 126 7 8 6 10 3 := by decide +kernel
theorem i126_8 : zi 126 8 9 1 3 0 := by decide +kernel
theorem i126_9 : zi 126 9 10 8 0 0 := by decide +kernel
theorem i126_10 : zi 126 10 11 1 1 0 := by decide +kernel
theorem i126_11 : zi 126 11 12 19 17 1 := by decide +kernel
theorem i126_12 : zi 126 12 13 2 0 0 := by decide +kernel
theorem i126_13 : zi 126 13 14 6 10 3 := by decide +kernel
theorem i126_14 : zi 126 14 15 1 3 0 := by decide +kernel
theorem i126_15 : zi 126 15 16 1 2 0 := by decide +kernel
theorem i126_16 : zi 126 16 17 10 0 0 := by decide +kernel
theorem i126_17 : zi 126 17 18 5 3 1 := by decide +kernel
theorem i126_18 : zi 126 18 19 17 2 0 := by decide +kernel
theorem i126_19 : zi 126 19 20 27 0 0 := by decide +kernel
theorem ml_126 : z_ml 126 = 4 := by decide +kernel
theorem en_126 : ∀ (v0 v1 v2 : zV), z_ent 126 [v0, v1, v2] = [some v0, some v1, some v2, none] := fun v0 v1 v2 => by unfold z_ent; rw [ml_126]; rfl
theorem i129_0 : zi 129 0 1 2 0 0 := by decide +kernel
theorem i129_1 : zi 129 1 2 6 10 11 := by decide +kernel
theorem i129_2 : zi 129 2 3 1 1 0 := by decide +kernel
theorem i129_3 : zi 129 3 4 9 0 0 := by decide +kernel
theorem i129_4 : zi 129 4 5 18 7 0 := by decide +kernel
theorem i129_7 : zi 129 7 8 2 0 0 := by decide +kernel
theorem i129_8 : zi 129 8 9 6 10 11 := by decide +kernel
theorem i129_9 : zi 129 9 10 1 1 0 := by decide +kernel
theorem i129_10 : zi 129 10 11 0 0 1 := by decide +kernel
theorem i129_11 : zi 129 11 12 11 0 0 := by decide +kernel
theorem i129_12 : zi 129 12 13 0 0 1 := by decide +kernel
theorem i129_13 : zi 129 13 14 3 2 0 := by decide +kernel
theorem i129_14 : zi 129 14 15 1 1 0 := by decide +kernel
theorem i129_15 : zi 129 15 16 0 0 1 := by decide +kernel
theorem i129_16 : zi 129 16 17 13 0 0 := by decide +kernel
theorem i129_17 : zi 129 17 18 3 3 0 := by decide +kernel
theorem i129_5 : zi 129 5 6 0 0 0 := by decide +kernel
theorem i129_6 : zi 129 6 7 25 0 0 := by decide +kernel
theorem i129_18 : zi 129 18 19 1 3 0 := by decide +kernel
theorem i129_19 : zi 129 19 20 2 0 0 := by decide +kernel
theorem i129_20 : zi 129 20 21 6 10 0 := by decide +kernel
theorem i129_21 : zi 129 21 22 19 39 3 := by decide +kernel
theorem i129_22 : zi 129 22 23 2 0 0 := by decide +kernel
theorem i129_23 : zi 129 23 24 6 10 11 := by decide +kernel
theorem i129_24 : zi 129 24 25 1 3 0 := by decide +kernel
theorem i129_25 : zi 129 25 26 9 0 0 := by decide +kernel
theorem i129_26 : zi 129 26 27 18 37 1 := by decide +kernel
theorem i129_27 : zi 129 27 28 2 0 0 := by decide +kernel
theorem i129_28 : zi 129 28 29 1 3 0 := by decide +kernel
theorem i129_29 : zi 129 29 30 21 130 10 := by decide +kernel
theorem na_130 : z_na 130 = 1 := by decide +kernel
theorem i129_30 : zi 129 30 31 18 37 0 := by decide +kernel
theorem i129_31 : zi 129 31 32 2 0 0 := by decide +kernel
theorem i129_32 : zi 129 32 33 6 10 11 := by decide +kernel
theorem i129_33 : zi 129 33 34 1 3 0 := by decide +kernel
theorem i129_34 : zi 129 34 35 0 0 1 := by decide +kernel
theorem i129_35 : zi 129 35 36 11 0 0 := by decide +kernel
theorem i129_36 : zi 129 36 37 5 2 1 := by decide +kernel
theorem i129_37 : zi 129 37 38 5 3 1 := by decide +kernel
theorem i129_38 : zi 129 38 39 17 18 0 := by decide +kernel
theorem i129_39 : zi 129 39 40 1 2 0 := by decide +kernel
theorem i129_40 : zi 129 40 41 25 0 0 := by decide +kernel
theorem ml_129 : z_ml 129 = 4 := by decide +kernel
theorem en_129 : ∀ (v0 v1 : zV), z_ent 129 [v0, v1] = [some v0, some v1, none, none] := fun v0 v1 => by unfold z_ent; rw [ml_129]; rfl
theorem i131_0 : zi 131 0 1 1 1 0 := by decide +kernel
theorem i131_1 : zi 131 1 2 1 2 0 := by decide +kernel
theorem i131_2 : zi 131 2 3 1 3 0 := by decide +kernel
theorem i131_3 : zi 131 3 4 22 194 0 := by decide +kernel
theorem na_194 : z_na 194 = 3 := by decide +kernel
theorem i131_4 : zi 131 4 5 22 186 0 := by decide +kernel
theorem i131_5 : zi 131 5 6 2 0 0 := by decide +kernel
theorem i131_6 : zi 131 6 7 6 11 0 := by decide +kernel
theorem i131_7 : zi 131 7 8 21 82 7 := by decide +kernel
theorem na_82 : z_na 82 = 0 := by decide +kernel
theorem i131_8 : zi 131 8 9 18 11 1 := by decide +kernel
theorem i131_11 : zi 131 11 12 0 0 0 := by decide +kernel
theorem i131_9 : zi 131 9 10 0 0 1 := by decide +kernel
theorem i131_10 : zi 131 10 11 17 12 0 := by decide +kernel
theorem i131_12 : zi 131 12 13 22 187 0 := by decide +kernel
theorem i131_13 : zi 131 13 14 2 0 0 := by decide +kernel
theorem i131_14 : zi 131 14 15 6 11 0 := by decide +kernel
theorem i131_15 : zi 131 15 16 1 1 0 := by decide +kernel
theorem i131_16 : zi 131 16 17 1 2 0 := by decide +kernel
theorem i131_17 : zi 131 17 18 1 3 0 := by decide +kernel
theorem i131_18 : zi 131 18 19 21 87 7 := by decide +kernel
theorem na_87 : z_na 87 = 3 := by decide +kernel
theorem i131_19 : zi 131 19 20 27 0 0 := by decide +kernel
theorem th_131 : (z_th 131).isEmpty = true := by decide +kernel
theorem ml_131 : z_ml 131 = 4 := by decide +kernel
theorem en_131 : ∀ (v0 v1 v2 v3 : zV), z_ent 131 [v0, v1, v2, v3] = [some v0, some v1, some v2, some v3] := fun v0 v1 v2 v3 => by unfold z_ent; rw [ml_131]; rfl
theorem i133_0 : zi 133 0 1 2 0 0 := by decide +kernel
theorem i133_1 : zi 133 1 2 6 11 0 := by decide +kernel
theorem i133_2 : zi 133 2 3 1 1 0 := by decide +kernel
theorem i133_3 : zi 133 3 4 21 83 7 := by decide +kernel
theorem i133_4 : zi 133 4 5 22 185 0 := by decide +kernel
theorem i133_5 : zi 133 5 6 1 2 0 := by decide +kernel
theorem i133_6 : zi 133 6 7 0 0 0 := by decide +kernel
theorem i133_7 : zi 133 7 8 0 0 256 := by decide +kernel
theorem kc_256 : Int32.ofInt 256 = 256 := by decide +kernel
theorem i133_8 : zi 133 8 9 22 188 0 := by decide +kernel
theorem i133_9 : zi 133 9 10 22 186 0 := by decide +kernel
theorem i133_10 : zi 133 10 11 2 0 0 := by decide +kernel
theorem i133_11 : zi 133 11 12 6 11 0 := by decide +kernel
theorem i133_12 : zi 133 12 13 21 85 7 := by decide +kernel
theorem i133_13 : zi 133 13 14 18 16 1 := by decide +kernel
theorem i133_14 : zi 133 14 15 0 0 1 := by decide +kernel
theorem i133_15 : zi 133 15 16 17 17 0 := by decide +kernel
theorem i133_16 : zi 133 16 17 0 0 0 := by decide +kernel
theorem i133_17 : zi 133 17 18 22 187 0 := by decide +kernel
theorem i133_18 : zi 133 18 19 2 0 0 := by decide +kernel
theorem i133_19 : zi 133 19 20 6 11 0 := by decide +kernel
theorem i133_20 : zi 133 20 21 1 1 0 := by decide +kernel
theorem i133_21 : zi 133 21 22 1 2 0 := by decide +kernel
theorem i133_22 : zi 133 22 23 21 88 7 := by decide +kernel
theorem na_88 : z_na 88 = 2 := by decide +kernel
theorem i133_23 : zi 133 23 24 25 0 0 := by decide +kernel
theorem th_133 : (z_th 133).isEmpty = true := by decide +kernel
theorem ml_133 : z_ml 133 = 3 := by decide +kernel
theorem en_133 : ∀ (v0 v1 v2 : zV), z_ent 133 [v0, v1, v2] = [some v0, some v1, some v2] := fun v0 v1 v2 => by unfold z_ent; rw [ml_133]; rfl
theorem i134_0 : zi 134 0 1 2 0 0 := by decide +kernel
theorem i134_1 : zi 134 1 2 6 11 0 := by decide +kernel
theorem i134_2 : zi 134 2 3 21 91 7 := by decide +kernel
theorem na_91 : z_na 91 = 0 := by decide +kernel
theorem i134_3 : zi 134 3 4 26 0 0 := by decide +kernel
theorem ml_134 : z_ml 134 = 1 := by decide +kernel
theorem en_134 : ∀ (v0 : zV), z_ent 134 [v0] = [some v0] := fun v0 => by unfold z_ent; rw [ml_134]; rfl
theorem i141_0 : zi 141 0 1 1 1 0 := by decide +kernel
theorem i141_1 : zi 141 1 2 0 0 1 := by decide +kernel
theorem i141_2 : zi 141 2 3 0 0 50 := by decide +kernel
theorem i141_3 : zi 141 3 4 22 188 0 := by decide +kernel
theorem i141_4 : zi 141 4 5 22 186 0 := by decide +kernel
theorem i141_5 : zi 141 5 6 2 0 0 := by decide +kernel
theorem i141_6 : zi 141 6 7 6 11 0 := by decide +kernel
theorem i141_7 : zi 141 7 8 21 85 7 := by decide +kernel
theorem i141_8 : zi 141 8 9 22 187 0 := by decide +kernel
theorem i141_9 : zi 141 9 10 2 0 0 := by decide +kernel
theorem i141_10 : zi 141 10 11 6 11 6 := by decide +kernel
theorem i141_11 : zi 141 11 12 1 1 0 := by decide +kernel
theorem i141_12 : zi 141 12 13 2 0 0 := by decide +kernel
theorem i141_13 : zi 141 13 14 6 11 1 := by decide +kernel
theorem i141_14 : zi 141 14 15 2 0 0 := by decide +kernel
theorem i141_15 : zi 141 15 16 6 11 11 := by decide +kernel
theorem i141_16 : zi 141 16 17 21 112 9 := by decide +kernel
theorem na_112 : z_na 112 = 3 := by decide +kernel
theorem i141_17 : zi 141 17 18 25 0 0 := by decide +kernel
theorem th_141 : (z_th 141).isEmpty = true := by decide +kernel
theorem ml_141 : z_ml 141 = 2 := by decide +kernel
theorem en_141 : ∀ (v0 v1 : zV), z_ent 141 [v0, v1] = [some v0, some v1] := fun v0 v1 => by unfold z_ent; rw [ml_141]; rfl
theorem i209_0 : zi 209 0 1 1 1 0 := by decide +kernel
theorem i209_1 : zi 209 1 2 0 0 36 := by decide +kernel
theorem i209_2 : zi 209 2 3 13 2 0 := by decide +kernel
theorem i209_3 : zi 209 3 4 3 2 0 := by decide +kernel
theorem i209_4 : zi 209 4 5 1 2 0 := by decide +kernel
theorem i209_5 : zi 209 5 6 0 0 36 := by decide +kernel
theorem i209_6 : zi 209 6 7 13 0 0 := by decide +kernel
theorem i209_7 : zi 209 7 8 3 3 0 := by decide +kernel
theorem i209_8 : zi 209 8 9 2 0 0 := by decide +kernel
theorem i209_9 : zi 209 9 10 6 11 6 := by decide +kernel
theorem i209_10 : zi 209 10 11 1 2 0 := by decide +kernel
theorem i209_11 : zi 209 11 12 1 3 0 := by decide +kernel
theorem i209_12 : zi 209 12 13 21 111 9 := by decide +kernel
theorem i209_13 : zi 209 13 14 2 0 0 := by decide +kernel
theorem i209_14 : zi 209 14 15 6 11 7 := by decide +kernel
theorem i209_15 : zi 209 15 16 1 2 0 := by decide +kernel
theorem i209_16 : zi 209 16 17 1 3 0 := by decide +kernel
theorem i209_17 : zi 209 17 18 21 18 2 := by decide +kernel
theorem na_18 : z_na 18 = 2 := by decide +kernel
theorem i209_18 : zi 209 18 19 2 0 0 := by decide +kernel
theorem i209_19 : zi 209 19 20 6 11 5 := by decide +kernel
theorem i209_20 : zi 209 20 21 1 2 0 := by decide +kernel
theorem i209_21 : zi 209 21 22 1 3 0 := by decide +kernel
theorem i209_22 : zi 209 22 23 2 0 0 := by decide +kernel
theorem i209_23 : zi 209 23 24 6 11 11 := by decide +kernel
theorem i209_24 : zi 209 24 25 21 53 5 := by decide +kernel
theorem na_53 : z_na 53 = 3 := by decide +kernel
theorem i209_25 : zi 209 25 26 16 0 0 := by decide +kernel
theorem i209_26 : zi 209 26 27 2 0 0 := by decide +kernel
theorem i209_27 : zi 209 27 28 6 11 8 := by decide +kernel
theorem i209_28 : zi 209 28 29 1 2 0 := by decide +kernel
theorem i209_29 : zi 209 29 30 1 3 0 := by decide +kernel
theorem i209_30 : zi 209 30 31 21 35 3 := by decide +kernel
theorem na_35 : z_na 35 = 2 := by decide +kernel
theorem i209_31 : zi 209 31 32 27 0 0 := by decide +kernel
theorem ml_209 : z_ml 209 = 4 := by decide +kernel
theorem en_209 : ∀ (v0 v1 : zV), z_ent 209 [v0, v1] = [some v0, some v1, none, none] := fun v0 v1 => by unfold z_ent; rw [ml_209]; rfl
theorem i143_0 : zi 143 0 1 1 2 0 := by decide +kernel
theorem i143_1 : zi 143 1 2 0 0 1 := by decide +kernel
theorem i143_2 : zi 143 2 3 19 5 1 := by decide +kernel
theorem i143_3 : zi 143 3 4 0 0 2 := by decide +kernel
theorem i143_4 : zi 143 4 5 17 6 0 := by decide +kernel
theorem i143_5 : zi 143 5 6 0 0 0 := by decide +kernel
theorem i143_6 : zi 143 6 7 3 4 0 := by decide +kernel
theorem i143_7 : zi 143 7 8 1 1 0 := by decide +kernel
theorem i143_8 : zi 143 8 9 22 190 0 := by decide +kernel
theorem i143_9 : zi 143 9 10 18 22 0 := by decide +kernel
theorem i143_10 : zi 143 10 11 1 2 0 := by decide +kernel
theorem i143_11 : zi 143 11 12 0 0 (-1) := by decide +kernel
theorem i143_12 : zi 143 12 13 0 0 2 := by decide +kernel
theorem i143_13 : zi 143 13 14 22 188 0 := by decide +kernel
theorem i143_14 : zi 143 14 15 18 22 0 := by decide +kernel
theorem i143_15 : zi 143 15 16 1 3 0 := by decide +kernel
theorem i143_16 : zi 143 16 17 0 0 0 := by decide +kernel
theorem i143_17 : zi 143 17 18 1 4 0 := by decide +kernel
theorem i143_18 : zi 143 18 19 22 188 0 := by decide +kernel
theorem i143_19 : zi 143 19 20 18 22 0 := by decide +kernel
theorem i143_20 : zi 143 20 21 0 0 1 := by decide +kernel
theorem i143_21 : zi 143 21 22 17 23 0 := by decide +kernel
theorem i143_22 : zi 143 22 23 0 0 0 := by decide +kernel
theorem i143_23 : zi 143 23 24 22 186 0 := by decide +kernel
theorem i143_24 : zi 143 24 25 1 2 0 := by decide +kernel
theorem i143_25 : zi 143 25 26 0 0 (-1) := by decide +kernel
theorem i143_26 : zi 143 26 27 19 29 1 := by decide +kernel
theorem i143_27 : zi 143 27 28 0 0 1 := by decide +kernel
theorem i143_28 : zi 143 28 29 17 30 0 := by decide +kernel
theorem i143_29 : zi 143 29 30 0 0 0 := by decide +kernel
theorem i143_30 : zi 143 30 31 2 0 0 := by decide +kernel
theorem i143_31 : zi 143 31 32 6 11 2 := by decide +kernel
theorem i143_32 : zi 143 32 33 1 1 0 := by decide +kernel
theorem i143_33 : zi 143 33 34 21 8 1 := by decide +kernel
theorem i143_34 : zi 143 34 35 0 0 (-1) := by decide +kernel
theorem i143_35 : zi 143 35 36 19 38 0 := by decide +kernel
theorem i143_38 : zi 143 38 39 0 0 0 := by decide +kernel
theorem i143_36 : zi 143 36 37 0 0 1 := by decide +kernel
theorem i143_37 : zi 143 37 38 17 39 0 := by decide +kernel
theorem i143_39 : zi 143 39 40 19 42 1 := by decide +kernel
theorem i143_40 : zi 143 40 41 0 0 1 := by decide +kernel
theorem i143_41 : zi 143 41 42 17 43 0 := by decide +kernel
theorem i143_42 : zi 143 42 43 0 0 0 := by decide +kernel
theorem i143_43 : zi 143 43 44 22 187 0 := by decide +kernel
theorem i143_44 : zi 143 44 45 2 0 0 := by decide +kernel
theorem i143_45 : zi 143 45 46 6 11 2 := by decide +kernel
theorem i143_46 : zi 143 46 47 1 1 0 := by decide +kernel
theorem i143_47 : zi 143 47 48 1 2 0 := by decide +kernel
theorem i143_48 : zi 143 48 49 1 3 0 := by decide +kernel
theorem i143_49 : zi 143 49 50 21 10 1 := by decide +kernel
theorem na_10 : z_na 10 = 3 := by decide +kernel
theorem i143_50 : zi 143 50 51 1 2 0 := by decide +kernel
theorem i143_51 : zi 143 51 52 0 0 (-1) := by decide +kernel
theorem i143_52 : zi 143 52 53 19 56 1 := by decide +kernel
theorem i143_53 : zi 143 53 54 2 0 0 := by decide +kernel
theorem i143_54 : zi 143 54 55 1 1 0 := by decide +kernel
theorem i143_55 : zi 143 55 56 21 209 11 := by decide +kernel
theorem na_209 : z_na 209 = 1 := by decide +kernel
theorem i143_56 : zi 143 56 57 27 0 0 := by decide +kernel
theorem th_143 : (z_th 143).isEmpty = true := by decide +kernel
theorem ml_143 : z_ml 143 = 5 := by decide +kernel
theorem en_143 : ∀ (v0 v1 v2 v3 : zV), z_ent 143 [v0, v1, v2, v3] = [some v0, some v1, some v2, some v3, none] := fun v0 v1 v2 v3 => by unfold z_ent; rw [ml_143]; rfl
theorem i149_0 : zi 149 0 1 1 1 0 := by decide +kernel
theorem i149_1 : zi 149 1 2 0 0 8 := by decide +kernel
theorem i149_2 : zi 149 2 3 22 189 0 := by decide +kernel
theorem i149_3 : zi 149 3 4 18 10 0 := by decide +kernel
theorem i149_4 : zi 149 4 5 1 2 0 := by decide +kernel
theorem i149_5 : zi 149 5 6 0 0 8 := by decide +kernel
theorem i149_6 : zi 149 6 7 22 189 0 := by decide +kernel
theorem i149_7 : zi 149 7 8 18 10 0 := by decide +kernel
theorem i149_8 : zi 149 8 9 0 0 1 := by decide +kernel
theorem i149_9 : zi 149 9 10 17 11 0 := by decide +kernel
theorem i149_10 : zi 149 10 11 0 0 0 := by decide +kernel
theorem i149_11 : zi 149 11 12 22 185 0 := by decide +kernel
theorem i149_12 : zi 149 12 13 1 1 0 := by decide +kernel
theorem i149_13 : zi 149 13 14 1 2 0 := by decide +kernel
theorem i149_14 : zi 149 14 15 19 17 0 := by decide +kernel
theorem i149_17 : zi 149 17 18 0 0 0 := by decide +kernel
theorem i149_15 : zi 149 15 16 0 0 1 := by decide +kernel
theorem i149_16 : zi 149 16 17 17 18 0 := by decide +kernel
theorem i149_18 : zi 149 18 19 22 186 0 := by decide +kernel
theorem i149_19 : zi 149 19 20 2 0 0 := by decide +kernel
theorem i149_20 : zi 149 20 21 6 11 4 := by decide +kernel
theorem i149_21 : zi 149 21 22 1 1 0 := by decide +kernel
theorem i149_22 : zi 149 22 23 1 2 0 := by decide +kernel
theorem i149_23 : zi 149 23 24 21 126 10 := by decide +kernel
theorem na_126 : z_na 126 = 2 := by decide +kernel
theorem i149_24 : zi 149 24 25 2 0 0 := by decide +kernel
theorem i149_25 : zi 149 25 26 6 11 3 := by decide +kernel
theorem i149_26 : zi 149 26 27 1 1 0 := by decide +kernel
theorem i149_27 : zi 149 27 28 1 2 0 := by decide +kernel
theorem i149_28 : zi 149 28 29 21 75 6 := by decide +kernel
theorem na_75 : z_na 75 = 2 := by decide +kernel
theorem i149_29 : zi 149 29 30 2 0 0 := by decide +kernel
theorem i149_30 : zi 149 30 31 6 11 3 := by decide +kernel
theorem i149_31 : zi 149 31 32 1 1 0 := by decide +kernel
theorem i149_32 : zi 149 32 33 1 2 0 := by decide +kernel
theorem i149_33 : zi 149 33 34 21 74 6 := by decide +kernel
theorem na_74 : z_na 74 = 2 := by decide +kernel
theorem i149_34 : zi 149 34 35 25 0 0 := by decide +kernel
theorem th_149 : (z_th 149).isEmpty = true := by decide +kernel
theorem ml_149 : z_ml 149 = 3 := by decide +kernel
theorem en_149 : ∀ (v0 v1 v2 : zV), z_ent 149 [v0, v1, v2] = [some v0, some v1, some v2] := fun v0 v1 v2 => by unfold z_ent; rw [ml_149]; rfl
theorem i200_0 : zi 200 0 1 2 0 0 := by decide +kernel
theorem i200_1 : zi 200 1 2 6 11 4 := by decide +kernel
theorem i200_2 : zi 200 2 3 1 1 0 := by decide +kernel
theorem i200_3 : zi 200 3 4 21 129 10 := by decide +kernel
theorem na_129 : z_na 129 = 1 := by decide +kernel
theorem i200_4 : zi 200 4 5 3 2 0 := by decide +kernel
theorem i200_5 : zi 200 5 6 2 0 0 := by decide +kernel
theorem i200_6 : zi 200 6 7 6 11 5 := by decide +kernel
theorem i200_7 : zi 200 7 8 2 0 0 := by decide +kernel
theorem i200_8 : zi 200 8 9 6 11 4 := by decide +kernel
theorem i200_9 : zi 200 9 10 2 0 0 := by decide +kernel
theorem i200_10 : zi 200 10 11 6 11 11 := by decide +kernel
theorem i200_11 : zi 200 11 12 21 54 5 := by decide +kernel
theorem na_54 : z_na 54 = 2 := by decide +kernel
theorem i200_12 : zi 200 12 13 1 2 0 := by decide +kernel
theorem i200_13 : zi 200 13 14 25 0 0 := by decide +kernel
theorem ml_200 : z_ml 200 = 3 := by decide +kernel
theorem en_200 : ∀ (v0 v1 : zV), z_ent 200 [v0, v1] = [some v0, some v1, none] := fun v0 v1 => by unfold z_ent; rw [ml_200]; rfl
theorem i154_0 : zi 154 0 1 2 0 0 := by decide +kernel
theorem i154_1 : zi 154 1 2 6 11 4 := by decide +kernel
theorem i154_2 : zi 154 2 3 1 1 0 := by decide +kernel
theorem i154_3 : zi 154 3 4 21 115 10 := by decide +kernel
theorem i154_4 : zi 154 4 5 22 185 0 := by decide +kernel
theorem i154_5 : zi 154 5 6 2 0 0 := by decide +kernel
theorem i154_6 : zi 154 6 7 1 1 0 := by decide +kernel
theorem i154_7 : zi 154 7 8 21 200 11 := by decide +kernel
theorem na_200 : z_na 200 = 1 := by decide +kernel
theorem i154_8 : zi 154 8 9 25 0 0 := by decide +kernel
theorem th_154 : (z_th 154).isEmpty = true := by decide +kernel
theorem ml_154 : z_ml 154 = 2 := by decide +kernel
theorem en_154 : ∀ (v0 v1 : zV), z_ent 154 [v0, v1] = [some v0, some v1] := fun v0 v1 => by unfold z_ent; rw [ml_154]; rfl
theorem i198_0 : zi 198 0 1 2 0 0 := by decide +kernel
theorem i198_1 : zi 198 1 2 6 11 3 := by decide +kernel
theorem i198_2 : zi 198 2 3 2 0 0 := by decide +kernel
theorem i198_3 : zi 198 3 4 6 11 4 := by decide +kernel
theorem i198_4 : zi 198 4 5 1 1 0 := by decide +kernel
theorem i198_5 : zi 198 5 6 21 119 10 := by decide +kernel
theorem i198_6 : zi 198 6 7 2 0 0 := by decide +kernel
theorem i198_7 : zi 198 7 8 6 11 4 := by decide +kernel
theorem i198_8 : zi 198 8 9 1 1 0 := by decide +kernel
theorem i198_9 : zi 198 9 10 21 118 10 := by decide +kernel
theorem i198_10 : zi 198 10 11 1 2 0 := by decide +kernel
theorem i198_11 : zi 198 11 12 21 64 6 := by decide +kernel
theorem na_64 : z_na 64 = 3 := by decide +kernel
theorem i198_12 : zi 198 12 13 25 0 0 := by decide +kernel
theorem ml_198 : z_ml 198 = 3 := by decide +kernel
theorem en_198 : ∀ (v0 v1 v2 : zV), z_ent 198 [v0, v1, v2] = [some v0, some v1, some v2] := fun v0 v1 v2 => by unfold z_ent; rw [ml_198]; rfl
theorem i196_0 : zi 196 0 1 2 0 0 := by decide +kernel
theorem i196_1 : zi 196 1 2 6 11 0 := by decide +kernel
theorem i196_2 : zi 196 2 3 21 85 7 := by decide +kernel
theorem i196_3 : zi 196 3 4 18 6 1 := by decide +kernel
theorem i196_4 : zi 196 4 5 0 0 (-2) := by decide +kernel
theorem i196_5 : zi 196 5 6 25 0 0 := by decide +kernel
theorem i196_6 : zi 196 6 7 2 0 0 := by decide +kernel
theorem i196_7 : zi 196 7 8 6 11 10 := by decide +kernel
theorem i196_8 : zi 196 8 9 21 101 8 := by decide +kernel
theorem na_101 : z_na 101 = 0 := by decide +kernel
theorem i196_9 : zi 196 9 10 18 12 0 := by decide +kernel
theorem i196_12 : zi 196 12 13 2 0 0 := by decide +kernel
theorem i196_13 : zi 196 13 14 6 11 4 := by decide +kernel
theorem i196_14 : zi 196 14 15 1 1 0 := by decide +kernel
theorem i196_15 : zi 196 15 16 1 2 0 := by decide +kernel
theorem i196_16 : zi 196 16 17 21 127 10 := by decide +kernel
theorem na_127 : z_na 127 = 2 := by decide +kernel
theorem i196_17 : zi 196 17 18 18 20 1 := by decide +kernel
theorem i196_20 : zi 196 20 21 2 0 0 := by decide +kernel
theorem i196_21 : zi 196 21 22 6 11 4 := by decide +kernel
theorem i196_22 : zi 196 22 23 1 1 0 := by decide +kernel
theorem i196_23 : zi 196 23 24 21 128 10 := by decide +kernel
theorem na_128 : z_na 128 = 1 := by decide +kernel
theorem i196_24 : zi 196 24 25 2 0 0 := by decide +kernel
theorem i196_25 : zi 196 25 26 6 11 2 := by decide +kernel
theorem i196_26 : zi 196 26 27 1 3 0 := by decide +kernel
theorem i196_27 : zi 196 27 28 22 195 0 := by decide +kernel
theorem i196_28 : zi 196 28 29 21 12 1 := by decide +kernel
theorem na_12 : z_na 12 = 1 := by decide +kernel
theorem i196_29 : zi 196 29 30 18 32 1 := by decide +kernel
theorem i196_32 : zi 196 32 33 2 0 0 := by decide +kernel
theorem i196_33 : zi 196 33 34 1 1 0 := by decide +kernel
theorem i196_34 : zi 196 34 35 1 3 0 := by decide +kernel
theorem i196_35 : zi 196 35 36 21 198 11 := by decide +kernel
theorem na_198 : z_na 198 = 2 := by decide +kernel
theorem i196_36 : zi 196 36 37 1 4 0 := by decide +kernel
theorem i196_37 : zi 196 37 38 13 5 0 := by decide +kernel
theorem i196_38 : zi 196 38 39 18 41 1 := by decide +kernel
theorem i196_39 : zi 196 39 40 0 0 (-6) := by decide +kernel
theorem i196_40 : zi 196 40 41 17 42 0 := by decide +kernel
theorem i196_41 : zi 196 41 42 0 0 0 := by decide +kernel
theorem i196_42 : zi 196 42 43 25 0 0 := by decide +kernel
theorem i196_30 : zi 196 30 31 0 0 (-5) := by decide +kernel
theorem kc_m5 : Int32.ofInt (-5) = (-5) := by decide +kernel
theorem i196_31 : zi 196 31 32 25 0 0 := by decide +kernel
theorem i196_18 : zi 196 18 19 0 0 (-4) := by decide +kernel
theorem i196_19 : zi 196 19 20 25 0 0 := by decide +kernel
theorem i196_10 : zi 196 10 11 0 0 (-3) := by decide +kernel
theorem kc_m3 : Int32.ofInt (-3) = (-3) := by decide +kernel
theorem i196_11 : zi 196 11 12 25 0 0 := by decide +kernel
theorem ml_196 : z_ml 196 = 5 := by decide +kernel
theorem en_196 : ∀ (v0 v1 v2 v3 v4 : zV), z_ent 196 [v0, v1, v2, v3, v4] = [some v0, some v1, some v2, some v3, some v4] := fun v0 v1 v2 v3 v4 => by unfold z_ent; rw [ml_196]; rfl
theorem i202_0 : zi 202 0 1 2 0 0 := by decide +kernel
theorem i202_1 : zi 202 1 2 1 2 0 := by decide +kernel
theorem i202_2 : zi 202 2 3 1 3 0 := by decide +kernel
theorem i202_3 : zi 202 3 4 21 201 11 := by decide +kernel
theorem i202_4 : zi 202 4 5 3 4 0 := by decide +kernel
theorem i202_5 : zi 202 5 6 2 0 0 := by decide +kernel
theorem i202_6 : zi 202 6 7 1 1 0 := by decide +kernel
theorem i202_7 : zi 202 7 8 1 2 0 := by decide +kernel
theorem i202_8 : zi 202 8 9 21 198 11 := by decide +kernel
theorem i202_9 : zi 202 9 10 0 0 16 := by decide +kernel
theorem i202_10 : zi 202 10 11 13 3 0 := by decide +kernel
theorem nz_16 : ¬ (16 : Int32) = 0 := by decide
theorem i202_11 : zi 202 11 12 3 5 0 := by decide +kernel
theorem i202_12 : zi 202 12 13 1 4 0 := by decide +kernel
theorem i202_13 : zi 202 13 14 18 16 2 := by decide +kernel
theorem i202_16 : zi 202 16 17 1 4 0 := by decide +kernel
theorem i202_17 : zi 202 17 18 17 25 0 := by decide +kernel
theorem i202_14 : zi 202 14 15 1 5 0 := by decide +kernel
theorem i202_15 : zi 202 15 16 18 18 1 := by decide +kernel
theorem i202_18 : zi 202 18 19 2 0 0 := by decide +kernel
theorem i202_19 : zi 202 19 20 6 11 8 := by decide +kernel
theorem i202_20 : zi 202 20 21 1 1 0 := by decide +kernel
theorem i202_21 : zi 202 21 22 1 2 0 := by decide +kernel
theorem i202_22 : zi 202 22 23 1 3 0 := by decide +kernel
theorem i202_23 : zi 202 23 24 1 5 0 := by decide +kernel
theorem i202_24 : zi 202 24 25 21 32 3 := by decide +kernel
theorem na_32 : z_na 32 = 4 := by decide +kernel
theorem i202_25 : zi 202 25 26 25 0 0 := by decide +kernel
theorem ml_202 : z_ml 202 = 6 := by decide +kernel
theorem en_202 : ∀ (v0 v1 v2 v3 : zV), z_ent 202 [v0, v1, v2, v3] = [some v0, some v1, some v2, some v3, none, none] := fun v0 v1 v2 v3 => by unfold z_ent; rw [ml_202]; rfl
theorem i197_0 : zi 197 0 1 1 4 0 := by decide +kernel
theorem i197_1 : zi 197 1 2 0 0 (-2) := by decide +kernel
theorem i197_2 : zi 197 2 3 19 6 0 := by decide +kernel
theorem i197_6 : zi 197 6 7 1 4 0 := by decide +kernel
theorem i197_7 : zi 197 7 8 25 0 0 := by decide +kernel
theorem i197_3 : zi 197 3 4 1 4 0 := by decide +kernel
theorem i197_4 : zi 197 4 5 0 0 (-3) := by decide +kernel
theorem i197_5 : zi 197 5 6 19 8 1 := by decide +kernel
theorem i197_8 : zi 197 8 9 2 0 0 := by decide +kernel
theorem i197_9 : zi 197 9 10 6 11 4 := by decide +kernel
theorem i197_10 : zi 197 10 11 1 1 0 := by decide +kernel
theorem i197_11 : zi 197 11 12 21 115 10 := by decide +kernel
theorem i197_12 : zi 197 12 13 3 5 0 := by decide +kernel
theorem i197_13 : zi 197 13 14 2 0 0 := by decide +kernel
theorem i197_14 : zi 197 14 15 6 11 10 := by decide +kernel
theorem i197_15 : zi 197 15 16 1 5 0 := by decide +kernel
theorem i197_16 : zi 197 16 17 18 19 0 := by decide +kernel
theorem i197_17 : zi 197 17 18 1 1 0 := by decide +kernel
theorem i197_18 : zi 197 18 19 17 20 0 := by decide +kernel
theorem i197_19 : zi 197 19 20 0 0 0 := by decide +kernel
theorem i197_20 : zi 197 20 21 1 2 0 := by decide +kernel
theorem i197_21 : zi 197 21 22 1 3 0 := by decide +kernel
theorem i197_22 : zi 197 22 23 1 4 0 := by decide +kernel
theorem i197_23 : zi 197 23 24 21 102 8 := by decide +kernel
theorem na_102 : z_na 102 = 4 := by decide +kernel
theorem i197_24 : zi 197 24 25 1 5 0 := by decide +kernel
theorem i197_25 : zi 197 25 26 18 35 0 := by decide +kernel
theorem i197_26 : zi 197 26 27 2 0 0 := by decide +kernel
theorem i197_27 : zi 197 27 28 6 11 4 := by decide +kernel
theorem i197_28 : zi 197 28 29 1 1 0 := by decide +kernel
theorem i197_29 : zi 197 29 30 21 121 10 := by decide +kernel
theorem i197_30 : zi 197 30 31 18 35 1 := by decide +kernel
theorem i197_31 : zi 197 31 32 2 0 0 := by decide +kernel
theorem i197_32 : zi 197 32 33 1 1 0 := by decide +kernel
theorem i197_33 : zi 197 33 34 21 200 11 := by decide +kernel
theorem i197_34 : zi 197 34 35 16 0 0 := by decide +kernel
theorem i197_35 : zi 197 35 36 1 4 0 := by decide +kernel
theorem i197_36 : zi 197 36 37 25 0 0 := by decide +kernel
theorem ml_197 : z_ml 197 = 6 := by decide +kernel
theorem en_197 : ∀ (v0 v1 v2 v3 v4 : zV), z_ent 197 [v0, v1, v2, v3, v4] = [some v0, some v1, some v2, some v3, some v4, none] := fun v0 v1 v2 v3 v4 => by unfold z_ent; rw [ml_197]; rfl
theorem i158_0 : zi 158 0 1 1 2 0 := by decide +kernel
theorem i158_1 : zi 158 1 2 22 192 0 := by decide +kernel
theorem na_192 : z_na 192 = 1 := by decide +kernel
theorem i158_2 : zi 158 2 3 18 11 0 := by decide +kernel
theorem i158_3 : zi 158 3 4 1 3 0 := by decide +kernel
theorem i158_4 : zi 158 4 5 22 191 0 := by decide +kernel
theorem i158_5 : zi 158 5 6 18 11 0 := by decide +kernel
theorem i158_6 : zi 158 6 7 1 4 0 := by decide +kernel
theorem i158_7 : zi 158 7 8 22 193 0 := by decide +kernel
theorem i158_8 : zi 158 8 9 18 11 0 := by decide +kernel
theorem i158_9 : zi 158 9 10 0 0 1 := by decide +kernel
theorem i158_10 : zi 158 10 11 17 12 0 := by decide +kernel
theorem i158_11 : zi 158 11 12 0 0 0 := by decide +kernel
theorem i158_12 : zi 158 12 13 22 186 0 := by decide +kernel
theorem i158_13 : zi 158 13 14 2 0 0 := by decide +kernel
theorem i158_14 : zi 158 14 15 1 1 0 := by decide +kernel
theorem i158_15 : zi 158 15 16 1 2 0 := by decide +kernel
theorem i158_16 : zi 158 16 17 1 3 0 := by decide +kernel
theorem i158_17 : zi 158 17 18 0 0 1 := by decide +kernel
theorem i158_18 : zi 158 18 19 21 196 11 := by decide +kernel
theorem na_196 : z_na 196 = 4 := by decide +kernel
theorem i158_19 : zi 158 19 20 3 5 0 := by decide +kernel
theorem i158_20 : zi 158 20 21 1 5 0 := by decide +kernel
theorem i158_21 : zi 158 21 22 18 28 1 := by decide +kernel
theorem i158_22 : zi 158 22 23 2 0 0 := by decide +kernel
theorem i158_23 : zi 158 23 24 1 1 0 := by decide +kernel
theorem i158_24 : zi 158 24 25 1 3 0 := by decide +kernel
theorem i158_25 : zi 158 25 26 1 4 0 := by decide +kernel
theorem i158_26 : zi 158 26 27 21 202 11 := by decide +kernel
theorem na_202 : z_na 202 = 3 := by decide +kernel
theorem i158_27 : zi 158 27 28 17 29 0 := by decide +kernel
theorem i158_28 : zi 158 28 29 1 5 0 := by decide +kernel
theorem i158_29 : zi 158 29 30 3 6 0 := by decide +kernel
theorem i158_30 : zi 158 30 31 2 0 0 := by decide +kernel
theorem i158_31 : zi 158 31 32 1 1 0 := by decide +kernel
theorem i158_32 : zi 158 32 33 1 3 0 := by decide +kernel
theorem i158_33 : zi 158 33 34 0 0 1 := by decide +kernel
theorem i158_34 : zi 158 34 35 1 6 0 := by decide +kernel
theorem i158_35 : zi 158 35 36 21 197 11 := by decide +kernel
theorem na_197 : z_na 197 = 4 := by decide +kernel
theorem i158_36 : zi 158 36 37 25 0 0 := by decide +kernel
theorem th_158 : (z_th 158).isEmpty = true := by decide +kernel
theorem ml_158 : z_ml 158 = 7 := by decide +kernel
theorem en_158 : ∀ (v0 v1 v2 v3 v4 : zV), z_ent 158 [v0, v1, v2, v3, v4] = [some v0, some v1, some v2, some v3, some v4, none, none] := fun v0 v1 v2 v3 v4 => by unfold z_ent; rw [ml_158]; rfl
set_option maxRecDepth 100000 in
theorem s126_2 {L : Nat} (x1 x2 x3 : Int32) (S : zS) (g0 : (¬ ((S 5 0) ≤ x3)) → zx 40 x3) : zt L 126 2 [some (.inr (.inr 5)), some (.inl x1), some (.inl x2), some (.inl x3)] [] S (if ((S 5 0) ≤ x3) then (.inl (19, [some (.inr (.inr 5)), some (.inl x1), some (.inl x2), some (.inl x3)], [], S)) else (.inl (2, [some (.inr (.inr 5)), some (.inl x1), some (.inl x2), some (.inl (x3 + 1))], [], (if ((S 32 x3.toNatClampNeg) = x1) then (z_up S 32 x3.toNatClampNeg x2) else S)))) := zr_1_3 i126_2 (zr_2_0 i126_3 (zr_6 i126_4 fl_5_0 rfl (zr_19_3 i126_5 (fun h989 => zt_rfl) (fun h990 => zr_2_0 i126_6 (zr_6r i126_7 fl_5_3 (zr_1_3 i126_8 (zr_8 i126_9 ar_32 (g0 h990) rfl rfl (zr_1_1 i126_10 (zt_trans (zt_cast (zr_19_1 i126_11 (fun h991 => zr_2_0 i126_12 (zr_6r i126_13 fl_5_3 (zr_1_3 i126_14 (zr_1_2 i126_15 (zr_10 i126_16 ar_32 (g0 h990) rfl (zt_rfl)))))) (fun h992 => zt_rfl)) (zm_c zz_s zz_s zz_e)) (zr_5_3 i126_17 kc_1 (zr_17 i126_18 (zt_rfl))))))))))))
def k126_2 (x1 x2 : Int32) (j : Nat) (a : zS) : zS := (if ((a 32 j) = x1) then (z_up a 32 j x2) else a)
set_option maxRecDepth 100000 in
theorem l126_2 {L : Nat} (x1 x2 : Int32) (i0 n : Nat) (a : zS) (hn : i0 + n < 2147483648) (hc0 : ∀ j, j < n → ¬ (((zfold (k126_2 x1 x2 ) i0 j a) 5 0) ≤ (Int32.ofNat (i0 + j)))) (g0 : ∀ j, j < n → (¬ (((zfold (k126_2 x1 x2 ) i0 j a) 5 0) ≤ (Int32.ofNat (i0 + j)))) → zx 40 (Int32.ofNat (i0 + j))) : zt L 126 2 [some (.inr (.inr 5)), some (.inl x1), some (.inl x2), some (.inl (Int32.ofNat i0))] [] a (.inl (2, [some (.inr (.inr 5)), some (.inl x1), some (.inl x2), some (.inl (Int32.ofNat (i0 + n)))], [], (zfold (k126_2 x1 x2 ) i0 n a))) := by
  induction n with
  | zero => exact zt_rfl
  | succ n ih =>
    have e1 := zk_ix (i0 + n) (by omega)
    have e2 := zk_add (i0 + n)
    refine zt_trans (ih (by omega) (fun j hj => hc0 j (by omega)) (fun j hj => g0 j (by omega))) ?_
    refine zt_cast (s126_2 x1 x2 (Int32.ofNat (i0 + n)) (zfold (k126_2 x1 x2 ) i0 n a) (by have hg := g0 n (by omega); first | exact hg | (simp only [e1]; exact hg))) ?_
    rw [if_neg (show ¬ (((zfold (k126_2 x1 x2 ) i0 n a) 5 0) ≤ (Int32.ofNat (i0 + n))) from (by have hg := hc0 n (by omega); first | exact hg | (simp only [e1]; exact hg)))]
    simp only [zfold, k126_2, e1, e2, ← Nat.add_assoc]
def K126_2 (x1 x2 : Int32) (i0 : Nat) (S : zS) : zS := zfold (k126_2 x1 x2 ) i0 ((S 5 0).toNatClampNeg - i0) S
def K126_2_S (x1 x2 : Int32) (i0 : Nat) (S : zS) : zS := (K126_2 x1 x2 i0 S)
set_option maxRecDepth 100000 in
theorem L126_2 {L : Nat} (x1 x2 : Int32) (i0 : Nat) (S : zS) (hi : i0 ≤ 10000) (h0 : zn 40 (S 5 0)) : zt L 126 2 [some (.inr (.inr 5)), some (.inl x1), some (.inl x2), some (.inl (Int32.ofNat i0))] [] S (.inl (19, [some (.inr (.inr 5)), some (.inl x1), some (.inl x2), some (.inl (Int32.ofNat (i0 + ((S 5 0).toNatClampNeg - i0))))], [], (K126_2_S x1 x2 i0 S))) := by
  have hk5_0 : ∀ n, (zfold (k126_2 x1 x2 ) i0 n S) 5 0 = S 5 0 := fun n => zfold_keep (f := (k126_2 x1 x2 )) (fun (b : zS) => b 5 0) (fun j b => by unfold k126_2; exact (show (if ((b 32 j) = x1) then (z_up b 32 j x2) else b) 5 0 = b 5 0 from (zite_rd (zupci rfl) rfl))) n S
  have hend : (zfold (k126_2 x1 x2 ) i0 ((S 5 0).toNatClampNeg - i0) S) 5 0 ≤ Int32.ofNat (i0 + ((S 5 0).toNatClampNeg - i0)) := by rw [hk5_0]; exact zc_le_end h0 (by omega)
  refine zt_trans (l126_2 x1 x2   i0 ((S 5 0).toNatClampNeg - i0) S (by have := zn_cl h0; omega) (fun j hj => by rw [hk5_0]; exact zc_le h0 hj (by omega)) (fun j hj _ => by exact zx_of (by have := zn_cl h0; omega) (by have := zn_cl h0; omega))) ?_
  exact zt_cast (s126_2 x1 x2 (Int32.ofNat (i0 + ((S 5 0).toNatClampNeg - i0))) (zfold (k126_2 x1 x2 ) i0 ((S 5 0).toNatClampNeg - i0) S) (fun h9 => absurd hend h9)) (if_pos hend)
set_option maxRecDepth 100000 in
theorem f126 {L : Nat} (a b : Int32) (S : zS) (g0 : zn 40 (S 5 0)) : zf L 126 [.inr (.inr 5), .inl a, .inl b] S (.inl none, (K126_2_S a b 0 S), 0) := zf_of (en_126 _ _ _) (zr_0 i126_0 kc_0 (zr_3_3 i126_1 (zt_trans (L126_2 a b 0 S (by decide) (g0)) (zr_27 i126_19))))
set_option maxRecDepth 100000 in
theorem s129_18 {L : Nat} (x1 x2 x3 : Int32) (S : zS) (g0 : (¬ ((S 5 0) ≤ x3)) → zx 40 x3) (g1 : (¬ ((S 5 0) ≤ x3)) → ((S 40 x3.toNatClampNeg) = 0) → ((S 39 x3.toNatClampNeg) = 0) → ((¬ ((S 30 x3.toNatClampNeg) < 0)) ∧ (¬ ((S 5 0) ≤ (S 30 x3.toNatClampNeg)))) → zx 40 (S 30 x3.toNatClampNeg)) : zt L 129 18 [some (.inr (.inr 5)), some (.inl x1), some (.inl x2), some (.inl x3)] [] S (if ((S 5 0) ≤ x3) then (.inl (39, [some (.inr (.inr 5)), some (.inl x1), some (.inl x2), some (.inl x3)], [], S)) else (.inl (18, [some (.inr (.inr 5)), some (.inl x1), some (.inl (if ((S 40 x3.toNatClampNeg) = 0) then ((if ((F130 x3 S) = 0) then (x2 : Int32) else (x2 + 1)) : Int32) else x2)), some (.inl (x3 + 1))], [], (if ((S 40 x3.toNatClampNeg) = 0) then (if ((F130 x3 S) = 0) then S else (z_up S 40 x3.toNatClampNeg 1)) else S)))) := zr_1_3 i129_18 (zr_2_0 i129_19 (zr_6 i129_20 fl_5_0 rfl (zr_19_3 i129_21 (fun h1013 => zt_rfl) (fun h1014 => zr_2_0 i129_22 (zr_6r i129_23 fl_5_11 (zr_1_3 i129_24 (zr_9 i129_25 ar_40 (g0 h1014) rfl rfl (zt_trans (zt_cast (zr_18_1 i129_26 (fun h1015 => zr_2_0 i129_27 (zr_1_3 i129_28 (zr_cv (zs_21_1 i129_29 na_130 ob_5 rfl) (f130 x3 S (g0 h1014) (fun h1017 h1018 => (g1 h1014 h1015 h1017 h1018))) (zt_cast (zr_18_0 i129_30 (fun h1019 => zt_rfl) (fun h1020 => zr_2_0 i129_31 (zr_6r i129_32 fl_5_11 (zr_1_3 i129_33 (zr_0 i129_34 kc_1 (zr_11 i129_35 ar_40 (g0 h1014) (zo_1) rfl (zr_5_2 i129_36 kc_1 (zt_rfl)))))))) (zm_c (zl_c zz_s (zl_c zz_s (zl_c (zl_v zz_e) zz_s))) zz_s zz_e))))) (fun h1016 => zt_rfl)) (zm_c (zl_c zz_s (zl_c zz_s (zl_c (zl_v zz_e) zz_s))) zz_s zz_e)) (zr_5_3 i129_37 kc_1 (zr_17 i129_38 (zt_rfl)))))))))))
def k129_18 (x1 : Int32) (j : Nat) (a : Int32 × zS) : Int32 × zS := ((if ((a.2 40 j) = 0) then ((if ((F130 (Int32.ofNat j) a.2) = 0) then (a.1 : Int32) else (a.1 + 1)) : Int32) else a.1), (if ((a.2 40 j) = 0) then (if ((F130 (Int32.ofNat j) a.2) = 0) then a.2 else (z_up a.2 40 j 1)) else a.2))
set_option maxRecDepth 100000 in
theorem l129_18 {L : Nat} (x1 : Int32) (i0 n : Nat) (a : Int32 × zS) (hn : i0 + n < 2147483648) (hc0 : ∀ j, j < n → ¬ (((zfold (k129_18 x1 ) i0 j a).2 5 0) ≤ (Int32.ofNat (i0 + j)))) (g0 : ∀ j, j < n → (¬ (((zfold (k129_18 x1 ) i0 j a).2 5 0) ≤ (Int32.ofNat (i0 + j)))) → zx 40 (Int32.ofNat (i0 + j))) (g1 : ∀ j, j < n → (¬ (((zfold (k129_18 x1 ) i0 j a).2 5 0) ≤ (Int32.ofNat (i0 + j)))) → (((zfold (k129_18 x1 ) i0 j a).2 40 (i0 + j)) = 0) → (((zfold (k129_18 x1 ) i0 j a).2 39 (i0 + j)) = 0) → ((¬ (((zfold (k129_18 x1 ) i0 j a).2 30 (i0 + j)) < 0)) ∧ (¬ (((zfold (k129_18 x1 ) i0 j a).2 5 0) ≤ ((zfold (k129_18 x1 ) i0 j a).2 30 (i0 + j))))) → zx 40 ((zfold (k129_18 x1 ) i0 j a).2 30 (i0 + j))) : zt L 129 18 [some (.inr (.inr 5)), some (.inl x1), some (.inl a.1), some (.inl (Int32.ofNat i0))] [] a.2 (.inl (18, [some (.inr (.inr 5)), some (.inl x1), some (.inl (zfold (k129_18 x1 ) i0 n a).1), some (.inl (Int32.ofNat (i0 + n)))], [], (zfold (k129_18 x1 ) i0 n a).2)) := by
  induction n with
  | zero => exact zt_rfl
  | succ n ih =>
    have e1 := zk_ix (i0 + n) (by omega)
    have e2 := zk_add (i0 + n)
    refine zt_trans (ih (by omega) (fun j hj => hc0 j (by omega)) (fun j hj => g0 j (by omega)) (fun j hj => g1 j (by omega))) ?_
    refine zt_cast (s129_18 x1 (zfold (k129_18 x1 ) i0 n a).1 (Int32.ofNat (i0 + n)) (zfold (k129_18 x1 ) i0 n a).2 (by have hg := g0 n (by omega); first | exact hg | (simp only [e1]; exact hg)) (by have hg := g1 n (by omega); first | exact hg | (simp only [e1]; exact hg))) ?_
    rw [if_neg (show ¬ (((zfold (k129_18 x1 ) i0 n a).2 5 0) ≤ (Int32.ofNat (i0 + n))) from (by have hg := hc0 n (by omega); first | exact hg | (simp only [e1]; exact hg)))]
    simp only [zfold, k129_18, e1, e2, ← Nat.add_assoc]
def K129_18 (x1 x2 : Int32) (i0 : Nat) (S : zS) : Int32 × zS := zfold (k129_18 x1 ) i0 ((S 5 0).toNatClampNeg - i0) (x2, S)
def K129_18_c2 (x1 x2 : Int32) (i0 : Nat) (S : zS) : Int32 := (K129_18 x1 x2 i0 S).1
def K129_18_S (x1 x2 : Int32) (i0 : Nat) (S : zS) : zS := (K129_18 x1 x2 i0 S).2
set_option maxRecDepth 100000 in
theorem L129_18 {L : Nat} (x1 x2 : Int32) (i0 : Nat) (S : zS) (hi : i0 ≤ 10000) (h0 : zn 40 (S 5 0)) : zt L 129 18 [some (.inr (.inr 5)), some (.inl x1), some (.inl x2), some (.inl (Int32.ofNat i0))] [] S (.inl (39, [some (.inr (.inr 5)), some (.inl x1), some (.inl (K129_18_c2 x1 x2 i0 S)), some (.inl (Int32.ofNat (i0 + ((S 5 0).toNatClampNeg - i0))))], [], (K129_18_S x1 x2 i0 S))) := by
  have hk5_0 : ∀ n, (zfold (k129_18 x1 ) i0 n (x2, S)).2 5 0 = S 5 0 := fun n => zfold_keep (f := (k129_18 x1 )) (fun (b : Int32 × zS) => b.2 5 0) (fun j b => by unfold k129_18; exact (show (if ((b.2 40 j) = 0) then (if ((F130 (Int32.ofNat j) b.2) = 0) then b.2 else (z_up b.2 40 j 1)) else b.2) 5 0 = b.2 5 0 from (zite_rd (zite_rd rfl (zupci rfl)) rfl))) n (x2, S)
  have hend : (zfold (k129_18 x1 ) i0 ((S 5 0).toNatClampNeg - i0) (x2, S)).2 5 0 ≤ Int32.ofNat (i0 + ((S 5 0).toNatClampNeg - i0)) := by rw [hk5_0]; exact zc_le_end h0 (by omega)
  refine zt_trans (l129_18 x1   i0 ((S 5 0).toNatClampNeg - i0) (x2, S) (by have := zn_cl h0; omega) (fun j hj => by rw [hk5_0]; exact zc_le h0 hj (by omega)) (fun j hj _ => by exact zx_of (by have := zn_cl h0; omega) (by have := zn_cl h0; omega)) (fun j hj _ _ _ hX => by have hb9 := hX.2; rw [hk5_0 j] at hb9; exact zx_lt hX.1 hb9 h0)) ?_
  exact zt_cast (s129_18 x1 (zfold (k129_18 x1 ) i0 ((S 5 0).toNatClampNeg - i0) (x2, S)).1 (Int32.ofNat (i0 + ((S 5 0).toNatClampNeg - i0))) (zfold (k129_18 x1 ) i0 ((S 5 0).toNatClampNeg - i0) (x2, S)).2 (fun h9 => absurd hend h9) (fun h9 => absurd hend h9)) (if_pos hend)
set_option maxRecDepth 100000 in
theorem f129 {L : Nat} (a : Int32) (S : zS) (g0 : zx 40 a) (g1 : zn 40 (S 5 0)) (g2 : ((S 40 a.toNatClampNeg) = 0) → zn 10000 (a + 1)) : zf L 129 [.inr (.inr 5), .inl a] S (.inl (some (.inl (if ((S 40 a.toNatClampNeg) = 0) then ((K129_18_c2 a 1 (a + 1).toNatClampNeg (z_up S 40 a.toNatClampNeg 1)) : Int32) else 0))), (if ((S 40 a.toNatClampNeg) = 0) then (K129_18_S a 1 (a + 1).toNatClampNeg (z_up S 40 a.toNatClampNeg 1)) else S), 0) := zf_of (en_129 _ _) (zr_2_0 i129_0 (zr_6r i129_1 fl_5_11 (zr_1_1 i129_2 (zr_9 i129_3 ar_40 (g0) rfl rfl (zt_cast (zr_18_0 i129_4 (fun h1021 => zr_2_0 i129_7 (zr_6r i129_8 fl_5_11 (zr_1_1 i129_9 (zr_0 i129_10 kc_1 (zr_11 i129_11 ar_40 (g0) (zo_1) rfl (zr_0 i129_12 kc_1 (zr_3_2 i129_13 (zr_1_1 i129_14 (zr_0 i129_15 kc_1 (zr_13_0 i129_16 (zr_3_3 i129_17 (zt_trans (zk_cg (P := fun v9 => zt L 129 18 [some (.inr (.inr 5)), some (.inl a), some (.inl 1), some (.inl v9)] [] (z_up S 40 a.toNatClampNeg 1) (.inl (39, [some (.inr (.inr 5)), some (.inl a), some (.inl (K129_18_c2 a 1 (a + 1).toNatClampNeg (z_up S 40 a.toNatClampNeg 1))), some (.inl (Int32.ofNat ((a + 1).toNatClampNeg + (((z_up S 40 a.toNatClampNeg 1) 5 0).toNatClampNeg - (a + 1).toNatClampNeg))))], [], (K129_18_S a 1 (a + 1).toNatClampNeg (z_up S 40 a.toNatClampNeg 1))))) ((g2 h1021)).1 (L129_18 a 1 (a + 1).toNatClampNeg (z_up S 40 a.toNatClampNeg 1) (zn_cl (g2 h1021)) (znv (zupci rfl) (g1)))) (zr_1_2 i129_39 (zr_25 i129_40)))))))))))))) (fun h1022 => zr_0 i129_5 kc_0 (zr_25 i129_6))) (zm_r zz_e zz_e))))))
set_option maxRecDepth 100000 in
theorem f131 {L : Nat} (a b c : Int32) (S : zS) (g0 : (((¬ (a < 0)) ∧ (¬ (65535 < a))) ∧ (((¬ (b < 1)) ∧ (¬ (6 < b))) ∧ ((¬ (c < 1)) ∧ (¬ (b < c))))) → (¬ (¬ ((S 1 1) ≤ 0))) → zn 6 ((z_up (if ((S 1 0) = (-1)) then (z_up S 1 0 (zrem (zrem ((1103 * a) + 12345) 65536) 257)) else S) 1 1 b) 1 1)) (g1 : (((¬ (a < 0)) ∧ (¬ (65535 < a))) ∧ (((¬ (b < 1)) ∧ (¬ (6 < b))) ∧ ((¬ (c < 1)) ∧ (¬ (b < c))))) → (¬ (¬ ((S 1 1) ≤ 0))) → zn 6 ((z_up (z_up (if ((S 1 0) = (-1)) then (z_up S 1 0 (zrem (zrem ((1103 * a) + 12345) 65536) 257)) else S) 1 1 b) 1 2 c) 1 2)) : zf L 131 [.inr (.inr 0), .inl a, .inl b, .inl c] S (if (((¬ (a < 0)) ∧ (¬ (65535 < a))) ∧ (((¬ (b < 1)) ∧ (¬ (6 < b))) ∧ ((¬ (c < 1)) ∧ (¬ (b < c))))) then (if (¬ (¬ ((S 1 1) ≤ 0))) then (.inl none, (G87 a b c S), 0) else (.inr 2, S, 1)) else (.inr 1, S, 1)) := zf_of (en_131 _ _ _ _) (zr_1_1 i131_0 (zr_1_2 i131_1 (zr_1_3 i131_2 (zr_cv (zs_22_3 i131_3 na_194 rfl) (f194 a b c S ) (zt_cast (zr_dem (E := 1) (zs_22_1 i131_4 na_186 rfl) f186 th_131 (fun h1023 => zr_2_0 i131_5 (zr_6r i131_6 fl_0_0 (zr_cv (zs_21_0 i131_7 na_82 ob_1 rfl) (f82  S ) (zt_trans (zt_cast (zr_18b_1 i131_8 (fun h1024 => zr_0 i131_11 kc_0 (zt_rfl)) (fun h1025 => zr_0 i131_9 kc_1 (zr_17 i131_10 (zt_rfl)))) (zm_c zz_s (zl_c (zl_t zz_01) zz_s) zz_s)) (zt_cast (zr_dem (E := 2) (zs_22_1 i131_12 na_187 rfl) f187 th_131 (fun h1026 => zr_2_0 i131_13 (zr_6r i131_14 fl_0_0 (zr_1_1 i131_15 (zr_1_2 i131_16 (zr_1_3 i131_17 (zr_cn (zs_21_3 i131_18 na_87 ob_1 rfl) (f87 a b c S (g0 h1023 h1026) (g1 h1023 h1026)) (zr_27 i131_19)))))))) zm_o)))))) zm_o)))))
set_option maxRecDepth 100000 in
theorem f133 {L : Nat} (a b : Int32) (S : zS) (g0 : zo (S 1 6)) (g1 : ((¬ (a < 1)) ∧ (¬ ((S 1 1) < a))) → ((¬ (b < 0)) ∧ (¬ (256 < b))) → ((S 1 6) = 0) → zx 7 a) (g2 : zn 6 (S 1 1)) : zf L 133 [.inr (.inr 0), .inl a, .inl b] S (if ((¬ (a < 1)) ∧ (¬ ((S 1 1) < a))) then (if ((¬ (b < 0)) ∧ (¬ (256 < b))) then (if ((S 1 6) = 0) then (.inl (some (.inl (F88 a b S))), (G88 a b S), 0) else (.inr 2, S, 1)) else (.inr 1, S, 1)) else (.inr 0, S, 1)) := zf_of (en_133 _ _ _) (zr_2_0 i133_0 (zr_6r i133_1 fl_0_0 (zr_1_1 i133_2 (zr_cv (zs_21_1 i133_3 na_83 ob_1 rfl) (f83 a S ) (zt_cast (zr_dem (E := 0) (zs_22_1 i133_4 na_185 rfl) f185 th_133 (fun h1027 => zr_1_2 i133_5 (zr_0 i133_6 kc_0 (zr_0 i133_7 kc_256 (zr_cv (zs_22_3 i133_8 na_188 rfl) (f188 b 0 256 S ) (zt_cast (zr_dem (E := 1) (zs_22_1 i133_9 na_186 rfl) f186 th_133 (fun h1028 => zr_2_0 i133_10 (zr_6r i133_11 fl_0_0 (zr_cv (zs_21_0 i133_12 na_85 ob_1 rfl) (f85  S (g0)) (zt_trans (zt_cast (zr_18_1 i133_13 (fun h1029 => zr_0 i133_14 kc_1 (zr_17 i133_15 (zt_rfl))) (fun h1030 => zr_0 i133_16 kc_0 (zt_rfl))) (zm_c zz_s (zl_c (zl_t zz_10) zz_s) zz_s)) (zt_cast (zr_dem (E := 2) (zs_22_1 i133_17 na_187 rfl) f187 th_133 (fun h1031 => zr_2_0 i133_18 (zr_6r i133_19 fl_0_0 (zr_1_1 i133_20 (zr_1_2 i133_21 (zr_cv (zs_21_2 i133_22 na_88 ob_1 rfl) (f88 a b S (g1 h1027 h1028 h1031) (g2)) (zr_25 i133_23))))))) zm_o)))))) zm_o)))))) zm_o)))))
set_option maxRecDepth 100000 in
theorem f134 {L : Nat} (S : zS) (g0 : zo (S 1 6)) : zf L 134 [.inr (.inr 0)] S (.inl (some (.inl (S 1 6))), (z_up (K95_2_S 0 (z_up (z_up S 1 6 0) 1 7 0)) 1 5 0), 0) := zf_of (en_134 _) (zr_2_0 i134_0 (zr_6r i134_1 fl_0_0 (zr_cv (zs_21_0 i134_2 na_91 ob_1 rfl) (f91  S (g0)) (zr_26 i134_3 (g0)))))
set_option maxRecDepth 100000 in
theorem f141 {L : Nat} (a : Int32) (S : zS) (g0 : zo (S 1 6)) (g1 : zLa (S 51)) : zf L 141 [.inr (.inr 0), .inl a] S (if ((¬ (a < 1)) ∧ (¬ (50 < a))) then (if (¬ ((S 1 6) = 0)) then (.inl (some (.inl (K112_7_2_7_c5 a (S 0 11) (S 2 0) 0 (none : Option zV) (none : Option zV) 0 S))), (K112_7_2_7_S a (S 0 11) (S 2 0) 0 (none : Option zV) (none : Option zV) 0 S), 0) else (.inr 2, S, 1)) else (.inr 1, S, 1)) := zf_of (en_141 _ _) (zr_1_1 i141_0 (zr_0 i141_1 kc_1 (zr_0 i141_2 kc_50 (zr_cv (zs_22_3 i141_3 na_188 rfl) (f188 a 1 50 S ) (zt_cast (zr_dem (E := 1) (zs_22_1 i141_4 na_186 rfl) f186 th_141 (fun h1032 => zr_2_0 i141_5 (zr_6r i141_6 fl_0_0 (zr_cv (zs_21_0 i141_7 na_85 ob_1 rfl) (f85  S (g0)) (zt_cast (zr_demx (E := 2) (zs_22_1 i141_8 na_187 rfl) f187 th_141 (fun h1033 => zr_2_0 i141_9 (zr_6r i141_10 fl_0_6 (zr_1_1 i141_11 (zr_2_0 i141_12 (zr_6r i141_13 fl_0_1 (zr_2_0 i141_14 (zr_6 i141_15 fl_0_11 rfl (zr_cv (zs_21_3 i141_16 na_112 ob_7 rfl) (f112_7_2 a (S 0 11) S (g1)) (zr_25 i141_17)))))))))) zm_o))))) zm_o)))))
set_option maxRecDepth 100000 in
theorem w_K111_7_2_S_8_5 (x1 x2 : Int32) (i0 : Nat) (S : zS) : K111_7_2_S x1 x2 i0 S 8 5 = S 8 5 := zfold_keep (f := (k111_7_2 x1 x2 )) (fun (b : zS) => b 8 5) ((fun j b => by unfold k111_7_2; exact (show (z_up b 51 j 0) 8 5 = b 8 5 from (zupci rfl)))) _ _
set_option maxRecDepth 100000 in
theorem w_K111_7_2_S_8_6 (x1 x2 : Int32) (i0 : Nat) (S : zS) : K111_7_2_S x1 x2 i0 S 8 6 = S 8 6 := zfold_keep (f := (k111_7_2 x1 x2 )) (fun (b : zS) => b 8 6) ((fun j b => by unfold k111_7_2; exact (show (z_up b 51 j 0) 8 6 = b 8 6 from (zupci rfl)))) _ _
set_option maxRecDepth 100000 in
theorem w_G20_6_0 (a b : Int32) (S : zS) : G20 a b S 6 0 = S 6 0 := (show (z_up (z_up (z_up (z_up S 55 b.toNatClampNeg (S 55 a.toNatClampNeg)) 56 b.toNatClampNeg (S 56 a.toNatClampNeg)) 57 b.toNatClampNeg (S 57 a.toNatClampNeg)) 58 b.toNatClampNeg (S 58 a.toNatClampNeg)) 6 0 = S 6 0 from ((zupci rfl).trans ((zupci rfl).trans ((zupci rfl).trans (zupci rfl)))))
set_option maxRecDepth 100000 in
theorem w_K18_11_S_6_0 (x1 x2 x3 : Int32) (i0 : Nat) (S : zS) : K18_11_S x1 x2 x3 i0 S 6 0 = S 6 0 := zfold_keep (f := (k18_11 x1 x2 )) (fun (b : Int32 × zS) => b.2 6 0) ((fun j b => by unfold k18_11; exact (show (if ((b.2 55 j) < x1) then (G20 (Int32.ofNat j) b.1 b.2) else (if ((b.2 55 j) < x2) then b.2 else (G20 (Int32.ofNat j) b.1 b.2))) 6 0 = b.2 6 0 from (zite_rd (w_G20_6_0 _ _ _) (zite_rd rfl (w_G20_6_0 _ _ _)))))) _ _
set_option maxRecDepth 100000 in
theorem w_K111_9_2_S_6_0 (x1 x2 : Int32) (i0 : Nat) (S : zS) : K111_9_2_S x1 x2 i0 S 6 0 = S 6 0 := zfold_keep (f := (k111_9_2 x1 x2 )) (fun (b : zS) => b 6 0) ((fun j b => by unfold k111_9_2; exact (show (z_up b 59 j 0) 6 0 = b 6 0 from (zupci rfl)))) _ _
set_option maxRecDepth 100000 in
theorem w_G18_6_0 (a b : Int32) (S : zS) : G18 a b S 6 0 = S 6 0 := (show (z_up (K18_11_S a b ((K111_9_2_S a b a.toNatClampNeg S) 8 6) ((K111_9_2_S a b a.toNatClampNeg S) 8 6).toNatClampNeg (K111_9_2_S a b a.toNatClampNeg S)) 8 5 (K18_11_c3 a b ((K111_9_2_S a b a.toNatClampNeg S) 8 6) ((K111_9_2_S a b a.toNatClampNeg S) 8 6).toNatClampNeg (K111_9_2_S a b a.toNatClampNeg S))) 6 0 = S 6 0 from ((zupci rfl).trans ((w_K18_11_S_6_0 _ _ _ _ _).trans (w_K111_9_2_S_6_0 _ _ _ _))))
set_option maxRecDepth 100000 in
theorem w_K111_7_2_S_6_0 (x1 x2 : Int32) (i0 : Nat) (S : zS) : K111_7_2_S x1 x2 i0 S 6 0 = S 6 0 := zfold_keep (f := (k111_7_2 x1 x2 )) (fun (b : zS) => b 6 0) ((fun j b => by unfold k111_7_2; exact (show (z_up b 51 j 0) 6 0 = b 6 0 from (zupci rfl)))) _ _
set_option maxRecDepth 100000 in
theorem w_G20_43 (a b : Int32) (S : zS) : G20 a b S 43 = S 43 := (show (z_up (z_up (z_up (z_up S 55 b.toNatClampNeg (S 55 a.toNatClampNeg)) 56 b.toNatClampNeg (S 56 a.toNatClampNeg)) 57 b.toNatClampNeg (S 57 a.toNatClampNeg)) 58 b.toNatClampNeg (S 58 a.toNatClampNeg)) 43 = S 43 from ((zupc rfl).trans ((zupc rfl).trans ((zupc rfl).trans (zupc rfl)))))
set_option maxRecDepth 100000 in
theorem w_K18_11_S_43 (x1 x2 x3 : Int32) (i0 : Nat) (S : zS) : K18_11_S x1 x2 x3 i0 S 43 = S 43 := zfold_keep (f := (k18_11 x1 x2 )) (fun (b : Int32 × zS) => b.2 43) ((fun j b => by unfold k18_11; exact (show (if ((b.2 55 j) < x1) then (G20 (Int32.ofNat j) b.1 b.2) else (if ((b.2 55 j) < x2) then b.2 else (G20 (Int32.ofNat j) b.1 b.2))) 43 = b.2 43 from (zite_k (w_G20_43 _ _ _) (zite_k rfl (w_G20_43 _ _ _)))))) _ _
set_option maxRecDepth 100000 in
theorem w_K111_9_2_S_43 (x1 x2 : Int32) (i0 : Nat) (S : zS) : K111_9_2_S x1 x2 i0 S 43 = S 43 := zfold_keep (f := (k111_9_2 x1 x2 )) (fun (b : zS) => b 43) ((fun j b => by unfold k111_9_2; exact (show (z_up b 59 j 0) 43 = b 43 from (zupc rfl)))) _ _
set_option maxRecDepth 100000 in
theorem w_G18_43 (a b : Int32) (S : zS) : G18 a b S 43 = S 43 := (show (z_up (K18_11_S a b ((K111_9_2_S a b a.toNatClampNeg S) 8 6) ((K111_9_2_S a b a.toNatClampNeg S) 8 6).toNatClampNeg (K111_9_2_S a b a.toNatClampNeg S)) 8 5 (K18_11_c3 a b ((K111_9_2_S a b a.toNatClampNeg S) 8 6) ((K111_9_2_S a b a.toNatClampNeg S) 8 6).toNatClampNeg (K111_9_2_S a b a.toNatClampNeg S))) 43 = S 43 from ((zupc rfl).trans ((w_K18_11_S_43 _ _ _ _ _).trans (w_K111_9_2_S_43 _ _ _ _))))
set_option maxRecDepth 100000 in
theorem w_K111_7_2_S_43 (x1 x2 : Int32) (i0 : Nat) (S : zS) : K111_7_2_S x1 x2 i0 S 43 = S 43 := zfold_keep (f := (k111_7_2 x1 x2 )) (fun (b : zS) => b 43) ((fun j b => by unfold k111_7_2; exact (show (z_up b 51 j 0) 43 = b 43 from (zupc rfl)))) _ _
set_option maxRecDepth 100000 in
theorem w_G60_10_4 (a : Int32) (S : zS) : G60 a S 10 4 = S 10 4 := (show (if ((S 48 (S 43 a.toNatClampNeg).toNatClampNeg) = 1) then (z_up (z_up S 47 a.toNatClampNeg ((S 47 a.toNatClampNeg) + 1)) 46 a.toNatClampNeg (if (3 ≤ ((S 47 a.toNatClampNeg) + 1)) then (3 : Int32) else 1)) else (z_up (z_up (z_up S 47 a.toNatClampNeg ((S 47 a.toNatClampNeg) + 1)) 49 (S 43 a.toNatClampNeg).toNatClampNeg ((S 49 (S 43 a.toNatClampNeg).toNatClampNeg) - 1)) 46 a.toNatClampNeg 2)) 10 4 = S 10 4 from (zite_rd ((zupci rfl).trans (zupci rfl)) ((zupci rfl).trans ((zupci rfl).trans (zupci rfl)))))
set_option maxRecDepth 100000 in
theorem w_K53_4_S_10_4 (x1 x2 x3 x4 : Int32) (i0 : Nat) (S : zS) : K53_4_S x1 x2 x3 x4 i0 S 10 4 = S 10 4 := zfold_keep (f := (k53_4 x1 x2 x3 )) (fun (b : Int32 × zS) => b.2 10 4) ((fun j b => by unfold k53_4; exact (show (if ((b.2 46 j) = 0) then (if ((b.2 42 j) < x1) then b.2 else (if (x2 ≤ (b.2 42 j)) then b.2 else (G60 (Int32.ofNat j) (z_up b.2 44 j x3)))) else b.2) 10 4 = b.2 10 4 from (zite_rd (zite_rd rfl (zite_rd rfl ((w_G60_10_4 _ _).trans (zupci rfl)))) rfl)))) _ _
set_option maxRecDepth 100000 in
theorem w_G20_10_4 (a b : Int32) (S : zS) : G20 a b S 10 4 = S 10 4 := (show (z_up (z_up (z_up (z_up S 55 b.toNatClampNeg (S 55 a.toNatClampNeg)) 56 b.toNatClampNeg (S 56 a.toNatClampNeg)) 57 b.toNatClampNeg (S 57 a.toNatClampNeg)) 58 b.toNatClampNeg (S 58 a.toNatClampNeg)) 10 4 = S 10 4 from ((zupci rfl).trans ((zupci rfl).trans ((zupci rfl).trans (zupci rfl)))))
set_option maxRecDepth 100000 in
theorem w_K18_11_S_10_4 (x1 x2 x3 : Int32) (i0 : Nat) (S : zS) : K18_11_S x1 x2 x3 i0 S 10 4 = S 10 4 := zfold_keep (f := (k18_11 x1 x2 )) (fun (b : Int32 × zS) => b.2 10 4) ((fun j b => by unfold k18_11; exact (show (if ((b.2 55 j) < x1) then (G20 (Int32.ofNat j) b.1 b.2) else (if ((b.2 55 j) < x2) then b.2 else (G20 (Int32.ofNat j) b.1 b.2))) 10 4 = b.2 10 4 from (zite_rd (w_G20_10_4 _ _ _) (zite_rd rfl (w_G20_10_4 _ _ _)))))) _ _
set_option maxRecDepth 100000 in
theorem w_K111_9_2_S_10_4 (x1 x2 : Int32) (i0 : Nat) (S : zS) : K111_9_2_S x1 x2 i0 S 10 4 = S 10 4 := zfold_keep (f := (k111_9_2 x1 x2 )) (fun (b : zS) => b 10 4) ((fun j b => by unfold k111_9_2; exact (show (z_up b 59 j 0) 10 4 = b 10 4 from (zupci rfl)))) _ _
set_option maxRecDepth 100000 in
theorem w_G18_10_4 (a b : Int32) (S : zS) : G18 a b S 10 4 = S 10 4 := (show (z_up (K18_11_S a b ((K111_9_2_S a b a.toNatClampNeg S) 8 6) ((K111_9_2_S a b a.toNatClampNeg S) 8 6).toNatClampNeg (K111_9_2_S a b a.toNatClampNeg S)) 8 5 (K18_11_c3 a b ((K111_9_2_S a b a.toNatClampNeg S) 8 6) ((K111_9_2_S a b a.toNatClampNeg S) 8 6).toNatClampNeg (K111_9_2_S a b a.toNatClampNeg S))) 10 4 = S 10 4 from ((zupci rfl).trans ((w_K18_11_S_10_4 _ _ _ _ _).trans (w_K111_9_2_S_10_4 _ _ _ _))))
set_option maxRecDepth 100000 in
theorem w_K111_7_2_S_10_4 (x1 x2 : Int32) (i0 : Nat) (S : zS) : K111_7_2_S x1 x2 i0 S 10 4 = S 10 4 := zfold_keep (f := (k111_7_2 x1 x2 )) (fun (b : zS) => b 10 4) ((fun j b => by unfold k111_7_2; exact (show (z_up b 51 j 0) 10 4 = b 10 4 from (zupci rfl)))) _ _
def G209 (a : Int32) (S : zS) : zS := (K35_2_S (a * 36) ((a * 36) + 36) 0 (K53_4_S (a * 36) ((a * 36) + 36) ((G18 (a * 36) ((a * 36) + 36) (K111_7_2_S (a * 36) ((a * 36) + 36) (a * 36).toNatClampNeg S)) 0 11) 0 0 (G18 (a * 36) ((a * 36) + 36) (K111_7_2_S (a * 36) ((a * 36) + 36) (a * 36).toNatClampNeg S))))
set_option maxRecDepth 100000 in
theorem f209 {L : Nat} (a : Int32) (S : zS) (g0 : zn 216 ((a * 36) + 36)) (g1 : zn 10000 (a * 36)) (g2 : zn 512 (S 8 5)) (g3 : zn 2048 (S 8 6)) (g4 : zn 10000 (S 8 6)) (g5 : zn 40 (S 6 0)) (g6 : zA 40 3 (S 43)) (g7 : zn 20 (S 10 4)) : zf L 209 [.inr (.inr 0), .inl a] S (.inl none, (G209 a S), 0) := zf_of (en_209 _ _) (zr_1_1 i209_0 (zr_0 i209_1 kc_36 (zr_13_2 i209_2 (zr_3_2 i209_3 (zr_1_2 i209_4 (zr_0 i209_5 kc_36 (zr_13_0 i209_6 (zr_3_3 i209_7 (zr_2_0 i209_8 (zr_6r i209_9 fl_0_6 (zr_1_2 i209_10 (zr_1_3 i209_11 (zr_cn (zs_21_2 i209_12 na_111 ob_7 rfl) (f111 (a * 36) ((a * 36) + 36) S (g0) (g1)) (zr_2_0 i209_13 (zr_6r i209_14 fl_0_7 (zr_1_2 i209_15 (zr_1_3 i209_16 (zr_cn (zs_21_2 i209_17 na_18 ob_8 rfl) (f18 (a * 36) ((a * 36) + 36) (K111_7_2_S (a * 36) ((a * 36) + 36) (a * 36).toNatClampNeg S) (g0) (g1) (znv (w_K111_7_2_S_8_5 _ _ _ _) (g2)) (znv (w_K111_7_2_S_8_6 _ _ _ _) (g3)) (znv (w_K111_7_2_S_8_6 _ _ _ _) (g4))) (zr_2_0 i209_18 (zr_6r i209_19 fl_0_5 (zr_1_2 i209_20 (zr_1_3 i209_21 (zr_2_0 i209_22 (zr_6 i209_23 fl_0_11 rfl (zr_cv (zs_21_3 i209_24 na_53 ob_6 rfl) (f53 (a * 36) ((a * 36) + 36) ((G18 (a * 36) ((a * 36) + 36) (K111_7_2_S (a * 36) ((a * 36) + 36) (a * 36).toNatClampNeg S)) 0 11) (G18 (a * 36) ((a * 36) + 36) (K111_7_2_S (a * 36) ((a * 36) + 36) (a * 36).toNatClampNeg S)) (znv ((w_G18_6_0 _ _ _).trans (w_K111_7_2_S_6_0 _ _ _ _)) (g5)) (zpc1 ((w_G18_43 _ _ _).trans (w_K111_7_2_S_43 _ _ _ _)) (g6))) (zr_16 i209_25 (zr_2_0 i209_26 (zr_6r i209_27 fl_0_8 (zr_1_2 i209_28 (zr_1_3 i209_29 (zr_cn (zs_21_2 i209_30 na_35 ob_10 rfl) (f35 (a * 36) ((a * 36) + 36) (K53_4_S (a * 36) ((a * 36) + 36) ((G18 (a * 36) ((a * 36) + 36) (K111_7_2_S (a * 36) ((a * 36) + 36) (a * 36).toNatClampNeg S)) 0 11) 0 0 (G18 (a * 36) ((a * 36) + 36) (K111_7_2_S (a * 36) ((a * 36) + 36) (a * 36).toNatClampNeg S))) (znv ((w_K53_4_S_10_4 _ _ _ _ _ _).trans ((w_G18_10_4 _ _ _).trans (w_K111_7_2_S_10_4 _ _ _ _))) (g7))) (zr_27 i209_31))))))))))))))))))))))))))))))))
set_option maxRecDepth 100000 in
theorem f143 {L : Nat} (a b c : Int32) (S : zS) (g0 : (((¬ (a < 0)) ∧ (¬ (6 ≤ a))) ∧ (((¬ (b < (-1))) ∧ (¬ (2 < b))) ∧ ((¬ (c < 0)) ∧ (¬ ((if (b = 1) then (2 : Int32) else 0) < c))))) → zx 6 a) (g1 : (((¬ (a < 0)) ∧ (¬ (6 ≤ a))) ∧ (((¬ (b < (-1))) ∧ (¬ (2 < b))) ∧ ((¬ (c < 0)) ∧ (¬ ((if (b = 1) then (2 : Int32) else 0) < c))))) → ((zb (b = (-1))) = (zb (¬ ((S 16 a.toNatClampNeg) = (-1))))) → (b = (-1)) → zn 216 ((a * 36) + 36)) (g2 : (((¬ (a < 0)) ∧ (¬ (6 ≤ a))) ∧ (((¬ (b < (-1))) ∧ (¬ (2 < b))) ∧ ((¬ (c < 0)) ∧ (¬ ((if (b = 1) then (2 : Int32) else 0) < c))))) → ((zb (b = (-1))) = (zb (¬ ((S 16 a.toNatClampNeg) = (-1))))) → (b = (-1)) → zn 10000 (a * 36)) (g3 : zn 512 (S 8 5)) (g4 : zn 2048 (S 8 6)) (g5 : zn 10000 (S 8 6)) (g6 : zn 40 (S 6 0)) (g7 : zA 40 3 (S 43)) (g8 : zn 20 (S 10 4)) : zf L 143 [.inr (.inr 0), .inl a, .inl b, .inl c] S (if (((¬ (a < 0)) ∧ (¬ (6 ≤ a))) ∧ (((¬ (b < (-1))) ∧ (¬ (2 < b))) ∧ ((¬ (c < 0)) ∧ (¬ ((if (b = 1) then (2 : Int32) else 0) < c))))) then (if ((zb (b = (-1))) = (zb (¬ ((S 16 a.toNatClampNeg) = (-1))))) then (.inl none, (if (b = (-1)) then (G209 a (z_up (z_up S 16 a.toNatClampNeg b) 17 a.toNatClampNeg c)) else (z_up (z_up S 16 a.toNatClampNeg b) 17 a.toNatClampNeg c)), 0) else (.inr 2, S, 1)) else (.inr 1, S, 1)) := zf_of (en_143 _ _ _ _) (zr_1_2 i143_0 (zr_0 i143_1 kc_1 (zt_trans (zt_cast (zr_19_1 i143_2 (fun h1034 => zr_0 i143_3 kc_2 (zr_17 i143_4 (zt_rfl))) (fun h1035 => zr_0 i143_5 kc_0 (zt_rfl))) (zm_c zz_s (zl_c (zl_t zz_e) zz_s) zz_s)) (zr_3_4 i143_6 (zr_1_1 i143_7 (zr_cv (zs_22_1 i143_8 na_190 rfl) (f190 a S ) (zt_trans (zt_cast (zr_18b_0 i143_9 (fun h1036 => zr_1_2 i143_10 (zr_0 i143_11 kc_m1 (zr_0 i143_12 kc_2 (zr_cv (zs_22_3 i143_13 na_188 rfl) (f188 b (-1) 2 S ) (zt_cast (zr_18b_0 i143_14 (fun h1038 => zr_1_3 i143_15 (zr_0 i143_16 kc_0 (zr_1_4 i143_17 (zr_cv (zs_22_3 i143_18 na_188 rfl) (f188 c 0 (if (b = 1) then (2 : Int32) else 0) S ) (zt_cast (zr_18b_0 i143_19 (fun h1040 => zr_0 i143_20 kc_1 (zr_17 i143_21 (zt_rfl))) (fun h1041 => zr_0 i143_22 kc_0 (zt_rfl))) (zm_c zz_s (zl_c (zl_t zz_10) zz_s) zz_s)))))) (fun h1039 => zr_0 i143_22 kc_0 (zt_rfl))) (zm_c zz_s (zl_c (zl_t zz_b0) zz_s) zz_s)))))) (fun h1037 => zr_0 i143_22 kc_0 (zt_rfl))) (zm_c zz_s (zl_c (zl_t zz_b0) zz_s) zz_s)) (zt_cast (zr_dem (E := 1) (zs_22_1 i143_23 na_186 rfl) f186 th_143 (fun h1042 => zr_1_2 i143_24 (zr_0 i143_25 kc_m1 (zt_trans (zt_cast (zr_19_1 i143_26 (fun h1043 => zr_0 i143_27 kc_1 (zr_17 i143_28 (zt_rfl))) (fun h1044 => zr_0 i143_29 kc_0 (zt_rfl))) (zm_c zz_s (zl_c (zl_t zz_10) zz_s) zz_s)) (zr_2_0 i143_30 (zr_6r i143_31 fl_0_2 (zr_1_1 i143_32 (zr_cv (zs_21_1 i143_33 na_8 ob_3 rfl) (f8 a S (g0 h1042)) (zr_0 i143_34 kc_m1 (zt_trans (zt_cast (zr_19_0 i143_35 (fun h1045 => zr_0 i143_38 kc_0 (zt_rfl)) (fun h1046 => zr_0 i143_36 kc_1 (zr_17 i143_37 (zt_rfl)))) (zm_c zz_s (zl_c (zl_t zz_01) zz_s) zz_s)) (zt_trans (zt_cast (zr_19_1 i143_39 (fun h1047 => zr_0 i143_40 kc_1 (zr_17 i143_41 (zt_rfl))) (fun h1048 => zr_0 i143_42 kc_0 (zt_rfl))) (zm_c zz_s (zl_c (zl_t zz_10) zz_s) zz_s)) (zt_cast (zr_dem (E := 2) (zs_22_1 i143_43 na_187 rfl) f187 th_143 (fun h1049 => zr_2_0 i143_44 (zr_6r i143_45 fl_0_2 (zr_1_1 i143_46 (zr_1_2 i143_47 (zr_1_3 i143_48 (zr_cn (zs_21_3 i143_49 na_10 ob_3 rfl) (f10 a b c S (g0 h1042)) (zr_1_2 i143_50 (zr_0 i143_51 kc_m1 (zt_trans (zt_cast (zr_19_1 i143_52 (fun h1050 => zr_2_0 i143_53 (zr_1_1 i143_54 (zr_cn (zs_21_1 i143_55 na_209 ob_0 rfl) (f209 a (z_up (z_up S 16 a.toNatClampNeg b) 17 a.toNatClampNeg c) (g1 h1042 h1049 h1050) (g2 h1042 h1049 h1050) (znv ((zupci rfl).trans (zupci rfl)) (g3)) (znv ((zupci rfl).trans (zupci rfl)) (g4)) (znv ((zupci rfl).trans (zupci rfl)) (g5)) (znv ((zupci rfl).trans (zupci rfl)) (g6)) (zpc1 ((zupc rfl).trans (zupc rfl)) (g7)) (znv ((zupci rfl).trans (zupci rfl)) (g8))) (zt_rfl)))) (fun h1051 => zt_rfl)) (zm_c zz_s zz_s zz_e)) (zr_27 i143_56))))))))))) zm_o)))))))))))) zm_o))))))))
set_option maxRecDepth 100000 in
theorem f149 {L : Nat} (a b : Int32) (S : zS) (g0 : zn 40 (S 5 0)) : zf L 149 [.inr (.inr 0), .inl a, .inl b] S (if (((¬ (a < 0)) ∧ (¬ (8 ≤ a))) ∧ ((¬ (b < 0)) ∧ (¬ (8 ≤ b)))) then (if (¬ (a = b)) then (.inl (some (.inl (K74_4_c3 a b 0 0 (K75_2_S a b 0 (K126_2_S a b 0 S))))), (K74_4_S a b 0 0 (K75_2_S a b 0 (K126_2_S a b 0 S))), 0) else (.inr 1, S, 1)) else (.inr 0, S, 1)) := zf_of (en_149 _ _ _) (zr_1_1 i149_0 (zr_0 i149_1 kc_8 (zr_cv (zs_22_2 i149_2 na_189 rfl) (f189 a 8 S ) (zt_trans (zt_cast (zr_18b_0 i149_3 (fun h1052 => zr_1_2 i149_4 (zr_0 i149_5 kc_8 (zr_cv (zs_22_2 i149_6 na_189 rfl) (f189 b 8 S ) (zt_cast (zr_18b_0 i149_7 (fun h1054 => zr_0 i149_8 kc_1 (zr_17 i149_9 (zt_rfl))) (fun h1055 => zr_0 i149_10 kc_0 (zt_rfl))) (zm_c zz_s (zl_c (zl_t zz_10) zz_s) zz_s))))) (fun h1053 => zr_0 i149_10 kc_0 (zt_rfl))) (zm_c zz_s (zl_c (zl_t zz_b0) zz_s) zz_s)) (zt_cast (zr_dem (E := 0) (zs_22_1 i149_11 na_185 rfl) f185 th_149 (fun h1056 => zr_1_1 i149_12 (zr_1_2 i149_13 (zt_trans (zt_cast (zr_19_0 i149_14 (fun h1057 => zr_0 i149_17 kc_0 (zt_rfl)) (fun h1058 => zr_0 i149_15 kc_1 (zr_17 i149_16 (zt_rfl)))) (zm_c zz_s (zl_c (zl_t zz_01) zz_s) zz_s)) (zt_cast (zr_dem (E := 1) (zs_22_1 i149_18 na_186 rfl) f186 th_149 (fun h1059 => zr_2_0 i149_19 (zr_6r i149_20 fl_0_4 (zr_1_1 i149_21 (zr_1_2 i149_22 (zr_cn (zs_21_2 i149_23 na_126 ob_5 rfl) (f126 a b S (g0)) (zr_2_0 i149_24 (zr_6r i149_25 fl_0_3 (zr_1_1 i149_26 (zr_1_2 i149_27 (zr_cn (zs_21_2 i149_28 na_75 ob_4 rfl) (f75 a b (K126_2_S a b 0 S) ) (zr_2_0 i149_29 (zr_6r i149_30 fl_0_3 (zr_1_1 i149_31 (zr_1_2 i149_32 (zr_cv (zs_21_2 i149_33 na_74 ob_4 rfl) (f74 a b (K75_2_S a b 0 (K126_2_S a b 0 S)) ) (zr_25 i149_34))))))))))))))))) zm_o))))) zm_o)))))
set_option maxRecDepth 100000 in
theorem w_K129_18_S_6_0 (x1 x2 : Int32) (i0 : Nat) (S : zS) : K129_18_S x1 x2 i0 S 6 0 = S 6 0 := zfold_keep (f := (k129_18 x1 )) (fun (b : Int32 × zS) => b.2 6 0) ((fun j b => by unfold k129_18; exact (show (if ((b.2 40 j) = 0) then (if ((F130 (Int32.ofNat j) b.2) = 0) then b.2 else (z_up b.2 40 j 1)) else b.2) 6 0 = b.2 6 0 from (zite_rd (zite_rd rfl (zupci rfl)) rfl)))) _ _
set_option maxRecDepth 100000 in
theorem w_K129_18_S_41 (x1 x2 : Int32) (i0 : Nat) (S : zS) : K129_18_S x1 x2 i0 S 41 = S 41 := zfold_keep (f := (k129_18 x1 )) (fun (b : Int32 × zS) => b.2 41) ((fun j b => by unfold k129_18; exact (show (if ((b.2 40 j) = 0) then (if ((F130 (Int32.ofNat j) b.2) = 0) then b.2 else (z_up b.2 40 j 1)) else b.2) 41 = b.2 41 from (zite_k (zite_k rfl (zupc rfl)) rfl)))) _ _
set_option maxRecDepth 100000 in
theorem w_K129_18_S_43 (x1 x2 : Int32) (i0 : Nat) (S : zS) : K129_18_S x1 x2 i0 S 43 = S 43 := zfold_keep (f := (k129_18 x1 )) (fun (b : Int32 × zS) => b.2 43) ((fun j b => by unfold k129_18; exact (show (if ((b.2 40 j) = 0) then (if ((F130 (Int32.ofNat j) b.2) = 0) then b.2 else (z_up b.2 40 j 1)) else b.2) 43 = b.2 43 from (zite_k (zite_k rfl (zupc rfl)) rfl)))) _ _
def G200 (a : Int32) (S : zS) : zS := (K54_6_5_2_S ((if ((S 40 a.toNatClampNeg) = 0) then (K129_18_S a 1 (a + 1).toNatClampNeg (z_up S 40 a.toNatClampNeg 1)) else S) 0 11) 0 (if ((S 40 a.toNatClampNeg) = 0) then (K129_18_S a 1 (a + 1).toNatClampNeg (z_up S 40 a.toNatClampNeg 1)) else S))
set_option maxRecDepth 100000 in
theorem f200 {L : Nat} (a : Int32) (S : zS) (g0 : zx 40 a) (g1 : zn 40 (S 5 0)) (g2 : ((S 40 a.toNatClampNeg) = 0) → zn 10000 (a + 1)) (g3 : zn 40 (S 6 0)) (g4 : zA 40 40 (S 41)) (g5 : zA 40 3 (S 43)) : zf L 200 [.inr (.inr 0), .inl a] S (.inl (some (.inl (if ((S 40 a.toNatClampNeg) = 0) then ((K129_18_c2 a 1 (a + 1).toNatClampNeg (z_up S 40 a.toNatClampNeg 1)) : Int32) else 0))), (G200 a S), 0) := zf_of (en_200 _ _) (zr_2_0 i200_0 (zr_6r i200_1 fl_0_4 (zr_1_1 i200_2 (zr_cv (zs_21_1 i200_3 na_129 ob_5 rfl) (f129 a S (g0) (g1) (fun h1060 => (g2 h1060))) (zr_3_2 i200_4 (zr_2_0 i200_5 (zr_6r i200_6 fl_0_5 (zr_2_0 i200_7 (zr_6r i200_8 fl_0_4 (zr_2_0 i200_9 (zr_6 i200_10 fl_0_11 rfl (zr_cn (zs_21_2 i200_11 na_54 ob_6 rfl) (f54_6_5 ((if ((S 40 a.toNatClampNeg) = 0) then (K129_18_S a 1 (a + 1).toNatClampNeg (z_up S 40 a.toNatClampNeg 1)) else S) 0 11) (if ((S 40 a.toNatClampNeg) = 0) then (K129_18_S a 1 (a + 1).toNatClampNeg (z_up S 40 a.toNatClampNeg 1)) else S) (znv (zite_rd ((w_K129_18_S_6_0 _ _ _ _).trans (zupci rfl)) rfl) (g3)) (zpc1 (zite_k ((w_K129_18_S_41 _ _ _ _).trans (zupc rfl)) rfl) (g4)) (zpc1 (zite_k ((w_K129_18_S_43 _ _ _ _).trans (zupc rfl)) rfl) (g5))) (zr_1_2 i200_12 (zr_25 i200_13))))))))))))))
set_option maxRecDepth 100000 in
theorem f154 {L : Nat} (a : Int32) (S : zS) (g0 : ((¬ (a < 0)) ∧ (¬ ((S 5 0) ≤ a))) → zx 40 a) (g1 : zn 40 (S 5 0)) (g2 : ((¬ (a < 0)) ∧ (¬ ((S 5 0) ≤ a))) → ((S 40 a.toNatClampNeg) = 0) → zn 10000 (a + 1)) (g3 : zn 40 (S 6 0)) (g4 : zA 40 40 (S 41)) (g5 : zA 40 3 (S 43)) : zf L 154 [.inr (.inr 0), .inl a] S (if ((¬ (a < 0)) ∧ (¬ ((S 5 0) ≤ a))) then (.inl (some (.inl (if ((S 40 a.toNatClampNeg) = 0) then ((K129_18_c2 a 1 (a + 1).toNatClampNeg (z_up S 40 a.toNatClampNeg 1)) : Int32) else 0))), (G200 a S), 0) else (.inr 0, S, 1)) := zf_of (en_154 _ _) (zr_2_0 i154_0 (zr_6r i154_1 fl_0_4 (zr_1_1 i154_2 (zr_cv (zs_21_1 i154_3 na_115 ob_5 rfl) (f115 a S ) (zt_cast (zr_dem (E := 0) (zs_22_1 i154_4 na_185 rfl) f185 th_154 (fun h1061 => zr_2_0 i154_5 (zr_1_1 i154_6 (zr_cv (zs_21_1 i154_7 na_200 ob_0 rfl) (f200 a S (g0 h1061) (g1) (fun h1062 => (g2 h1061 h1062)) (g3) (g4) (g5)) (zr_25 i154_8))))) zm_o)))))
set_option maxRecDepth 100000 in
theorem f198 {L : Nat} (a b : Int32) (S : zS) (g0 : zx 40 a) (g1 : (¬ ((S 32 a.toNatClampNeg) < 0)) → ((S 32 a.toNatClampNeg) < 8) → zx 8 (S 32 a.toNatClampNeg)) : zf L 198 [.inr (.inr 0), .inl a, .inl b] S (.inl (some (.inl (F64 (S 33 a.toNatClampNeg) (S 32 a.toNatClampNeg) b S))), S, 0) := zf_of (en_198 _ _ _) (zr_2_0 i198_0 (zr_6r i198_1 fl_0_3 (zr_2_0 i198_2 (zr_6r i198_3 fl_0_4 (zr_1_1 i198_4 (zr_cv (zs_21_1 i198_5 na_119 ob_5 rfl) (f119 a S (g0)) (zr_2_0 i198_6 (zr_6r i198_7 fl_0_4 (zr_1_1 i198_8 (zr_cv (zs_21_1 i198_9 na_118 ob_5 rfl) (f118 a S (g0)) (zr_1_2 i198_10 (zr_cv (zs_21_3 i198_11 na_64 ob_4 rfl) (f64 (S 33 a.toNatClampNeg) (S 32 a.toNatClampNeg) b S (fun h1063 h1064 => (g1 h1063 h1064))) (zr_25 i198_12)))))))))))))
def F196 (a b c d : Int32) (S : zS) : Int32 := (if ((S 1 6) = 0) then ((-2) : Int32) else (if ((F101 S) = 0) then ((if (((¬ (a < 0)) ∧ (¬ ((S 5 0) ≤ a))) ∧ (((S 40 a.toNatClampNeg) = 0) ∧ (((zshr (S 38 a.toNatClampNeg) b) &&& 1) = 1))) then ((if (((if ((S 37 a.toNatClampNeg) ≤ 0) then S else (z_up S 37 a.toNatClampNeg ((S 37 a.toNatClampNeg) - 1))) 19 (c / 36).toNatClampNeg) < ((if ((S 37 a.toNatClampNeg) ≤ 0) then S else (z_up S 37 a.toNatClampNeg ((S 37 a.toNatClampNeg) - 1))) 18 (c / 36).toNatClampNeg)) then ((if (((F64 ((if (((if ((S 37 a.toNatClampNeg) ≤ 0) then S else (z_up S 37 a.toNatClampNeg ((S 37 a.toNatClampNeg) - 1))) 19 (c / 36).toNatClampNeg) < ((if ((S 37 a.toNatClampNeg) ≤ 0) then S else (z_up S 37 a.toNatClampNeg ((S 37 a.toNatClampNeg) - 1))) 18 (c / 36).toNatClampNeg)) then (z_up (if ((S 37 a.toNatClampNeg) ≤ 0) then S else (z_up S 37 a.toNatClampNeg ((S 37 a.toNatClampNeg) - 1))) 19 (c / 36).toNatClampNeg (((if ((S 37 a.toNatClampNeg) ≤ 0) then S else (z_up S 37 a.toNatClampNeg ((S 37 a.toNatClampNeg) - 1))) 19 (c / 36).toNatClampNeg) + 1)) else (if ((S 37 a.toNatClampNeg) ≤ 0) then S else (z_up S 37 a.toNatClampNeg ((S 37 a.toNatClampNeg) - 1)))) 33 a.toNatClampNeg) ((if (((if ((S 37 a.toNatClampNeg) ≤ 0) then S else (z_up S 37 a.toNatClampNeg ((S 37 a.toNatClampNeg) - 1))) 19 (c / 36).toNatClampNeg) < ((if ((S 37 a.toNatClampNeg) ≤ 0) then S else (z_up S 37 a.toNatClampNeg ((S 37 a.toNatClampNeg) - 1))) 18 (c / 36).toNatClampNeg)) then (z_up (if ((S 37 a.toNatClampNeg) ≤ 0) then S else (z_up S 37 a.toNatClampNeg ((S 37 a.toNatClampNeg) - 1))) 19 (c / 36).toNatClampNeg (((if ((S 37 a.toNatClampNeg) ≤ 0) then S else (z_up S 37 a.toNatClampNeg ((S 37 a.toNatClampNeg) - 1))) 19 (c / 36).toNatClampNeg) + 1)) else (if ((S 37 a.toNatClampNeg) ≤ 0) then S else (z_up S 37 a.toNatClampNeg ((S 37 a.toNatClampNeg) - 1)))) 32 a.toNatClampNeg) c (if (((if ((S 37 a.toNatClampNeg) ≤ 0) then S else (z_up S 37 a.toNatClampNeg ((S 37 a.toNatClampNeg) - 1))) 19 (c / 36).toNatClampNeg) < ((if ((S 37 a.toNatClampNeg) ≤ 0) then S else (z_up S 37 a.toNatClampNeg ((S 37 a.toNatClampNeg) - 1))) 18 (c / 36).toNatClampNeg)) then (z_up (if ((S 37 a.toNatClampNeg) ≤ 0) then S else (z_up S 37 a.toNatClampNeg ((S 37 a.toNatClampNeg) - 1))) 19 (c / 36).toNatClampNeg (((if ((S 37 a.toNatClampNeg) ≤ 0) then S else (z_up S 37 a.toNatClampNeg ((S 37 a.toNatClampNeg) - 1))) 19 (c / 36).toNatClampNeg) + 1)) else (if ((S 37 a.toNatClampNeg) ≤ 0) then S else (z_up S 37 a.toNatClampNeg ((S 37 a.toNatClampNeg) - 1))))) &&& d) = 0) then ((-6) : Int32) else 0) : Int32) else (-5)) : Int32) else (-4)) : Int32) else (-3)))
def G196 (a b c d : Int32) (S : zS) : zS := (if ((S 1 6) = 0) then S else (if ((F101 S) = 0) then (if (((¬ (a < 0)) ∧ (¬ ((S 5 0) ≤ a))) ∧ (((S 40 a.toNatClampNeg) = 0) ∧ (((zshr (S 38 a.toNatClampNeg) b) &&& 1) = 1))) then (if (((if ((S 37 a.toNatClampNeg) ≤ 0) then S else (z_up S 37 a.toNatClampNeg ((S 37 a.toNatClampNeg) - 1))) 19 (c / 36).toNatClampNeg) < ((if ((S 37 a.toNatClampNeg) ≤ 0) then S else (z_up S 37 a.toNatClampNeg ((S 37 a.toNatClampNeg) - 1))) 18 (c / 36).toNatClampNeg)) then (z_up (if ((S 37 a.toNatClampNeg) ≤ 0) then S else (z_up S 37 a.toNatClampNeg ((S 37 a.toNatClampNeg) - 1))) 19 (c / 36).toNatClampNeg (((if ((S 37 a.toNatClampNeg) ≤ 0) then S else (z_up S 37 a.toNatClampNeg ((S 37 a.toNatClampNeg) - 1))) 19 (c / 36).toNatClampNeg) + 1)) else (if ((S 37 a.toNatClampNeg) ≤ 0) then S else (z_up S 37 a.toNatClampNeg ((S 37 a.toNatClampNeg) - 1)))) else S) else S))
set_option maxRecDepth 100000 in
theorem f196 {L : Nat} (a b c d : Int32) (S : zS) (g0 : zo (S 1 6)) (g1 : zo (((0 ||| (S 77 0)) ||| (S 77 1)) ||| (S 77 2))) (g2 : (¬ ((S 1 6) = 0)) → ((F101 S) = 0) → ((¬ (a < 0)) ∧ (¬ ((S 5 0) ≤ a))) → zx 40 a) (g3 : (¬ ((S 1 6) = 0)) → ((F101 S) = 0) → (((¬ (a < 0)) ∧ (¬ ((S 5 0) ≤ a))) ∧ (((S 40 a.toNatClampNeg) = 0) ∧ (((zshr (S 38 a.toNatClampNeg) b) &&& 1) = 1))) → zx 40 a) (g4 : (¬ ((S 1 6) = 0)) → ((F101 S) = 0) → (((¬ (a < 0)) ∧ (¬ ((S 5 0) ≤ a))) ∧ (((S 40 a.toNatClampNeg) = 0) ∧ (((zshr (S 38 a.toNatClampNeg) b) &&& 1) = 1))) → zx 6 (c / 36)) (g5 : (¬ ((S 1 6) = 0)) → ((F101 S) = 0) → (((¬ (a < 0)) ∧ (¬ ((S 5 0) ≤ a))) ∧ (((S 40 a.toNatClampNeg) = 0) ∧ (((zshr (S 38 a.toNatClampNeg) b) &&& 1) = 1))) → (((if ((S 37 a.toNatClampNeg) ≤ 0) then S else (z_up S 37 a.toNatClampNeg ((S 37 a.toNatClampNeg) - 1))) 19 (c / 36).toNatClampNeg) < ((if ((S 37 a.toNatClampNeg) ≤ 0) then S else (z_up S 37 a.toNatClampNeg ((S 37 a.toNatClampNeg) - 1))) 18 (c / 36).toNatClampNeg)) → (¬ (((if (((if ((S 37 a.toNatClampNeg) ≤ 0) then S else (z_up S 37 a.toNatClampNeg ((S 37 a.toNatClampNeg) - 1))) 19 (c / 36).toNatClampNeg) < ((if ((S 37 a.toNatClampNeg) ≤ 0) then S else (z_up S 37 a.toNatClampNeg ((S 37 a.toNatClampNeg) - 1))) 18 (c / 36).toNatClampNeg)) then (z_up (if ((S 37 a.toNatClampNeg) ≤ 0) then S else (z_up S 37 a.toNatClampNeg ((S 37 a.toNatClampNeg) - 1))) 19 (c / 36).toNatClampNeg (((if ((S 37 a.toNatClampNeg) ≤ 0) then S else (z_up S 37 a.toNatClampNeg ((S 37 a.toNatClampNeg) - 1))) 19 (c / 36).toNatClampNeg) + 1)) else (if ((S 37 a.toNatClampNeg) ≤ 0) then S else (z_up S 37 a.toNatClampNeg ((S 37 a.toNatClampNeg) - 1)))) 32 a.toNatClampNeg) < 0)) → (((if (((if ((S 37 a.toNatClampNeg) ≤ 0) then S else (z_up S 37 a.toNatClampNeg ((S 37 a.toNatClampNeg) - 1))) 19 (c / 36).toNatClampNeg) < ((if ((S 37 a.toNatClampNeg) ≤ 0) then S else (z_up S 37 a.toNatClampNeg ((S 37 a.toNatClampNeg) - 1))) 18 (c / 36).toNatClampNeg)) then (z_up (if ((S 37 a.toNatClampNeg) ≤ 0) then S else (z_up S 37 a.toNatClampNeg ((S 37 a.toNatClampNeg) - 1))) 19 (c / 36).toNatClampNeg (((if ((S 37 a.toNatClampNeg) ≤ 0) then S else (z_up S 37 a.toNatClampNeg ((S 37 a.toNatClampNeg) - 1))) 19 (c / 36).toNatClampNeg) + 1)) else (if ((S 37 a.toNatClampNeg) ≤ 0) then S else (z_up S 37 a.toNatClampNeg ((S 37 a.toNatClampNeg) - 1)))) 32 a.toNatClampNeg) < 8) → zx 8 (S 32 a.toNatClampNeg)) : zf L 196 [.inr (.inr 0), .inl a, .inl b, .inl c, .inl d] S (.inl (some (.inl (F196 a b c d S))), (G196 a b c d S), 0) := zf_of (en_196 _ _ _ _ _) (zr_2_0 i196_0 (zr_6r i196_1 fl_0_0 (zr_cv (zs_21_0 i196_2 na_85 ob_1 rfl) (f85  S (g0)) (zt_cast (zr_18_1 i196_3 (fun h1065 => zr_0 i196_4 kc_m2 (zr_25 i196_5)) (fun h1066 => zr_2_0 i196_6 (zr_6r i196_7 fl_0_10 (zr_cv (zs_21_0 i196_8 na_101 ob_12 rfl) (f101  S (g1)) (zt_cast (zr_18_0 i196_9 (fun h1067 => zr_2_0 i196_12 (zr_6r i196_13 fl_0_4 (zr_1_1 i196_14 (zr_1_2 i196_15 (zr_cv (zs_21_2 i196_16 na_127 ob_5 rfl) (f127 a b S (fun h1069 => (g2 h1066 h1067 h1069))) (zt_cast (zr_18b_1 i196_17 (fun h1070 => zr_2_0 i196_20 (zr_6r i196_21 fl_0_4 (zr_1_1 i196_22 (zr_cn (zs_21_1 i196_23 na_128 ob_5 rfl) (f128 a S (g3 h1066 h1067 h1070)) (zr_2_0 i196_24 (zr_6r i196_25 fl_0_2 (zr_1_3 i196_26 (zr_cv (zs_22_1 i196_27 na_195 rfl) (f195 c (if ((S 37 a.toNatClampNeg) ≤ 0) then S else (z_up S 37 a.toNatClampNeg ((S 37 a.toNatClampNeg) - 1))) ) (zr_cv (zs_21_1 i196_28 na_12 ob_3 rfl) (f12 (c / 36) (if ((S 37 a.toNatClampNeg) ≤ 0) then S else (z_up S 37 a.toNatClampNeg ((S 37 a.toNatClampNeg) - 1))) (g4 h1066 h1067 h1070)) (zt_cast (zr_18b_1 i196_29 (fun h1072 => zr_2_0 i196_32 (zr_1_1 i196_33 (zr_1_3 i196_34 (zr_cv (zs_21_2 i196_35 na_198 ob_0 rfl) (f198 a c (if (((if ((S 37 a.toNatClampNeg) ≤ 0) then S else (z_up S 37 a.toNatClampNeg ((S 37 a.toNatClampNeg) - 1))) 19 (c / 36).toNatClampNeg) < ((if ((S 37 a.toNatClampNeg) ≤ 0) then S else (z_up S 37 a.toNatClampNeg ((S 37 a.toNatClampNeg) - 1))) 18 (c / 36).toNatClampNeg)) then (z_up (if ((S 37 a.toNatClampNeg) ≤ 0) then S else (z_up S 37 a.toNatClampNeg ((S 37 a.toNatClampNeg) - 1))) 19 (c / 36).toNatClampNeg (((if ((S 37 a.toNatClampNeg) ≤ 0) then S else (z_up S 37 a.toNatClampNeg ((S 37 a.toNatClampNeg) - 1))) 19 (c / 36).toNatClampNeg) + 1)) else (if ((S 37 a.toNatClampNeg) ≤ 0) then S else (z_up S 37 a.toNatClampNeg ((S 37 a.toNatClampNeg) - 1)))) (g3 h1066 h1067 h1070) (fun h1074 h1075 => (zxc (zite_k ((zupc rfl).trans (zite_k rfl (zupc rfl))) (zite_k rfl (zupc rfl))) (g5 h1066 h1067 h1070 h1072 h1074 h1075)))) (zr_1_4 i196_36 (zr_13_5 i196_37 (zt_trans (zt_cast (zr_18_1 i196_38 (fun h1076 => zr_0 i196_39 kc_m6 (zr_17 i196_40 (zt_rfl))) (fun h1077 => zr_0 i196_41 kc_0 (zt_rfl))) (zm_c zz_s (zl_c (zl_t zz_e) zz_s) zz_s)) (zr_25 i196_42)))))))) (fun h1073 => zr_0 i196_30 kc_m5 (zr_25 i196_31))) (zm_r zz_e zz_s))))))))))) (fun h1071 => zr_0 i196_18 kc_m4 (zr_25 i196_19))) (zm_r zz_e zz_e))))))) (fun h1068 => zr_0 i196_10 kc_m3 (zr_25 i196_11))) (zm_r zz_e zz_e)))))) (zm_r zz_e zz_e)))))
def F202 (a b c : Int32) (S : zS) : Int32 := (if ((if ((S 16 (b / 36).toNatClampNeg) = 0) then ((F110 b c (S 2 3) S) : Int32) else (-13)) < 0) then ((if ((S 16 (b / 36).toNatClampNeg) = 0) then ((F110 b c (S 2 3) S) : Int32) else (-13)) : Int32) else (if (((F64 (S 33 a.toNatClampNeg) (S 32 a.toNatClampNeg) b S) / 16) = 0) then ((if ((S 16 (b / 36).toNatClampNeg) = 0) then ((F110 b c (S 2 3) S) : Int32) else (-13)) : Int32) else (if ((S 10 4) < 20) then ((-10) : Int32) else (-11))))
def G202 (a b c : Int32) (S : zS) : zS := (if ((if ((S 16 (b / 36).toNatClampNeg) = 0) then ((F110 b c (S 2 3) S) : Int32) else (-13)) < 0) then S else (if (((F64 (S 33 a.toNatClampNeg) (S 32 a.toNatClampNeg) b S) / 16) = 0) then S else (G32 a b c ((F64 (S 33 a.toNatClampNeg) (S 32 a.toNatClampNeg) b S) / 16) S)))
set_option maxRecDepth 100000 in
theorem f202 {L : Nat} (a b c : Int32) (S : zS) (g0 : zx 6 (b / 36)) (g1 : ((S 16 (b / 36).toNatClampNeg) = 0) → zx 216 b) (g2 : ((S 16 (b / 36).toNatClampNeg) = 0) → (¬ ((F107 b c S) = (-1))) → zx 864 (F107 b c S)) (g3 : zx 40 a) (g4 : (¬ ((S 32 a.toNatClampNeg) < 0)) → ((S 32 a.toNatClampNeg) < 8) → zx 8 (S 32 a.toNatClampNeg)) (g5 : (¬ ((if ((S 16 (b / 36).toNatClampNeg) = 0) then ((F110 b c (S 2 3) S) : Int32) else (-13)) < 0)) → (¬ (((F64 (S 33 a.toNatClampNeg) (S 32 a.toNatClampNeg) b S) / 16) = 0)) → ((S 10 4) < 20) → zx 20 (S 10 4)) : zf L 202 [.inr (.inr 0), .inl a, .inl b, .inl c] S (.inl (some (.inl (F202 a b c S))), (G202 a b c S), 0) := zf_of (en_202 _ _ _ _) (zr_2_0 i202_0 (zr_1_2 i202_1 (zr_1_3 i202_2 (zr_cv (zs_21_2 i202_3 na_201 ob_0 rfl) (f201 b c S (g0) (fun h1078 => (g1 h1078)) (fun h1079 h1080 => (g2 h1079 h1080))) (zr_3_4 i202_4 (zr_2_0 i202_5 (zr_1_1 i202_6 (zr_1_2 i202_7 (zr_cv (zs_21_2 i202_8 na_198 ob_0 rfl) (f198 a b S (g3) (fun h1081 h1082 => (g4 h1081 h1082))) (zr_0 i202_9 kc_16 (zr_13_3 i202_10 nz_16 (zr_3_5 i202_11 (zr_1_4 i202_12 (zt_trans (zt_cast (zr_18_2 i202_13 (fun h1083 => zr_1_4 i202_16 (zr_17 i202_17 (zt_rfl))) (fun h1084 => zr_1_5 i202_14 (zt_cast (zr_18_1 i202_15 (fun h1085 => zr_1_4 i202_16 (zr_17 i202_17 (zt_rfl))) (fun h1086 => zr_2_0 i202_18 (zr_6r i202_19 fl_0_8 (zr_1_1 i202_20 (zr_1_2 i202_21 (zr_1_3 i202_22 (zr_1_5 i202_23 (zr_cv (zs_21_4 i202_24 na_32 ob_10 rfl) (f32 a b c ((F64 (S 33 a.toNatClampNeg) (S 32 a.toNatClampNeg) b S) / 16) S (fun h1087 => (g5 h1084 h1086 h1087))) (zt_rfl))))))))) (zm_c zz_s (zl_c (zl_t zz_e) zz_s) zz_e)))) (zm_c zz_s (zl_c (zl_t zz_e) zz_s) zz_e)) (zr_25 i202_25)))))))))))))))
set_option maxRecDepth 100000 in
theorem w_K102_21_S_5_0 (x1 x2 x3 x4 x5 x6 : Int32) (i0 : Nat) (S : zS) : K102_21_S x1 x2 x3 x4 x5 x6 i0 S 5 0 = S 5 0 := zfold_keep (f := (k102_21 x1 x2 x3 x4 x5 x6 )) (fun (b : zS) => b 5 0) ((fun j b => by unfold k102_21; exact (show (if ((b 77 j) = 0) then b else (if ((b 78 j) = 0) then (z_up b 80 j (zrem (((31 * (b 80 j)) + x6) + (x5 * (b 79 j))) 65521)) else b)) 5 0 = b 5 0 from (zite_rd rfl (zite_rd (zupci rfl) rfl))))) _ _
set_option maxRecDepth 100000 in
theorem w_G102_5_0 (a b c d : Int32) (S : zS) : G102 a b c d S 5 0 = S 5 0 := (show (K102_21_S a b c d (if (0 ≤ d) then (d : Int32) else (60000 + d)) (((7 * a) + b) + (1000 * (if (c.toInt = 2) then (1 : Int32) else (if (c.toInt = 4) then (2 : Int32) else (if (c.toInt = 8) then (3 : Int32) else 0))))) 0 S) 5 0 = S 5 0 from (w_K102_21_S_5_0 _ _ _ _ _ _ _ _))
set_option maxRecDepth 100000 in
theorem w_K102_21_S_6_0 (x1 x2 x3 x4 x5 x6 : Int32) (i0 : Nat) (S : zS) : K102_21_S x1 x2 x3 x4 x5 x6 i0 S 6 0 = S 6 0 := zfold_keep (f := (k102_21 x1 x2 x3 x4 x5 x6 )) (fun (b : zS) => b 6 0) ((fun j b => by unfold k102_21; exact (show (if ((b 77 j) = 0) then b else (if ((b 78 j) = 0) then (z_up b 80 j (zrem (((31 * (b 80 j)) + x6) + (x5 * (b 79 j))) 65521)) else b)) 6 0 = b 6 0 from (zite_rd rfl (zite_rd (zupci rfl) rfl))))) _ _
set_option maxRecDepth 100000 in
theorem w_G102_6_0 (a b c d : Int32) (S : zS) : G102 a b c d S 6 0 = S 6 0 := (show (K102_21_S a b c d (if (0 ≤ d) then (d : Int32) else (60000 + d)) (((7 * a) + b) + (1000 * (if (c.toInt = 2) then (1 : Int32) else (if (c.toInt = 4) then (2 : Int32) else (if (c.toInt = 8) then (3 : Int32) else 0))))) 0 S) 6 0 = S 6 0 from (w_K102_21_S_6_0 _ _ _ _ _ _ _ _))
set_option maxRecDepth 100000 in
theorem w_K102_21_S_41 (x1 x2 x3 x4 x5 x6 : Int32) (i0 : Nat) (S : zS) : K102_21_S x1 x2 x3 x4 x5 x6 i0 S 41 = S 41 := zfold_keep (f := (k102_21 x1 x2 x3 x4 x5 x6 )) (fun (b : zS) => b 41) ((fun j b => by unfold k102_21; exact (show (if ((b 77 j) = 0) then b else (if ((b 78 j) = 0) then (z_up b 80 j (zrem (((31 * (b 80 j)) + x6) + (x5 * (b 79 j))) 65521)) else b)) 41 = b 41 from (zite_k rfl (zite_k (zupc rfl) rfl))))) _ _
set_option maxRecDepth 100000 in
theorem w_G102_41 (a b c d : Int32) (S : zS) : G102 a b c d S 41 = S 41 := (show (K102_21_S a b c d (if (0 ≤ d) then (d : Int32) else (60000 + d)) (((7 * a) + b) + (1000 * (if (c.toInt = 2) then (1 : Int32) else (if (c.toInt = 4) then (2 : Int32) else (if (c.toInt = 8) then (3 : Int32) else 0))))) 0 S) 41 = S 41 from (w_K102_21_S_41 _ _ _ _ _ _ _ _))
set_option maxRecDepth 100000 in
theorem w_K102_21_S_43 (x1 x2 x3 x4 x5 x6 : Int32) (i0 : Nat) (S : zS) : K102_21_S x1 x2 x3 x4 x5 x6 i0 S 43 = S 43 := zfold_keep (f := (k102_21 x1 x2 x3 x4 x5 x6 )) (fun (b : zS) => b 43) ((fun j b => by unfold k102_21; exact (show (if ((b 77 j) = 0) then b else (if ((b 78 j) = 0) then (z_up b 80 j (zrem (((31 * (b 80 j)) + x6) + (x5 * (b 79 j))) 65521)) else b)) 43 = b 43 from (zite_k rfl (zite_k (zupc rfl) rfl))))) _ _
set_option maxRecDepth 100000 in
theorem w_G102_43 (a b c d : Int32) (S : zS) : G102 a b c d S 43 = S 43 := (show (K102_21_S a b c d (if (0 ≤ d) then (d : Int32) else (60000 + d)) (((7 * a) + b) + (1000 * (if (c.toInt = 2) then (1 : Int32) else (if (c.toInt = 4) then (2 : Int32) else (if (c.toInt = 8) then (3 : Int32) else 0))))) 0 S) 43 = S 43 from (w_K102_21_S_43 _ _ _ _ _ _ _ _))
def G197 (a b c d : Int32) (S : zS) : zS := (if (d = (-2)) then S else (if (d = (-3)) then S else (if ((¬ (a < 0)) ∧ (¬ ((S 5 0) ≤ a))) then (if (((G102 (if ((¬ (a < 0)) ∧ (¬ ((S 5 0) ≤ a))) then (a : Int32) else 0) b c d S) 37 a.toNatClampNeg) = 0) then (G200 a (G102 (if ((¬ (a < 0)) ∧ (¬ ((S 5 0) ≤ a))) then (a : Int32) else 0) b c d S)) else (G102 (if ((¬ (a < 0)) ∧ (¬ ((S 5 0) ≤ a))) then (a : Int32) else 0) b c d S)) else (G102 (if ((¬ (a < 0)) ∧ (¬ ((S 5 0) ≤ a))) then (a : Int32) else 0) b c d S))))
set_option maxRecDepth 100000 in
theorem f197 {L : Nat} (a b c d : Int32) (S : zS) (g0 : (¬ (d = (-2))) → (¬ (d = (-3))) → ((¬ (a < 0)) ∧ (¬ ((S 5 0) ≤ a))) → zx 40 a) (g1 : zn 40 (S 5 0)) (g2 : (¬ (d = (-2))) → (¬ (d = (-3))) → ((¬ (a < 0)) ∧ (¬ ((S 5 0) ≤ a))) → (((G102 (if ((¬ (a < 0)) ∧ (¬ ((S 5 0) ≤ a))) then (a : Int32) else 0) b c d S) 37 a.toNatClampNeg) = 0) → (((G102 (if ((¬ (a < 0)) ∧ (¬ ((S 5 0) ≤ a))) then (a : Int32) else 0) b c d S) 40 a.toNatClampNeg) = 0) → zn 10000 (a + 1)) (g3 : zn 40 (S 6 0)) (g4 : zA 40 40 (S 41)) (g5 : zA 40 3 (S 43)) : zf L 197 [.inr (.inr 0), .inl a, .inl b, .inl c, .inl d] S (.inl (some (.inl d)), (G197 a b c d S), 0) := zf_of (en_197 _ _ _ _ _) (zr_1_4 i197_0 (zr_0 i197_1 kc_m2 (zt_cast (zr_19_0 i197_2 (fun h1088 => zr_1_4 i197_6 (zr_25 i197_7)) (fun h1089 => zr_1_4 i197_3 (zr_0 i197_4 kc_m3 (zt_cast (zr_19_1 i197_5 (fun h1090 => zr_1_4 i197_6 (zr_25 i197_7)) (fun h1091 => zr_2_0 i197_8 (zr_6r i197_9 fl_0_4 (zr_1_1 i197_10 (zr_cv (zs_21_1 i197_11 na_115 ob_5 rfl) (f115 a S ) (zr_3_5 i197_12 (zr_2_0 i197_13 (zr_6r i197_14 fl_0_10 (zr_1_5 i197_15 (zt_trans (zt_cast (zr_18b_0 i197_16 (fun h1092 => zr_1_1 i197_17 (zr_17 i197_18 (zt_rfl))) (fun h1093 => zr_0 i197_19 kc_0 (zt_rfl))) (zm_c zz_s (zl_c (zl_t zz_e) zz_s) zz_s)) (zr_1_2 i197_20 (zr_1_3 i197_21 (zr_1_4 i197_22 (zr_cn (zs_21_4 i197_23 na_102 ob_12 rfl) (f102 (if ((¬ (a < 0)) ∧ (¬ ((S 5 0) ≤ a))) then (a : Int32) else 0) b c d S ) (zr_1_5 i197_24 (zt_trans (zt_cast (zr_18b_0 i197_25 (fun h1094 => zr_2_0 i197_26 (zr_6r i197_27 fl_0_4 (zr_1_1 i197_28 (zr_cv (zs_21_1 i197_29 na_121 ob_5 rfl) (f121 a (G102 (if ((¬ (a < 0)) ∧ (¬ ((S 5 0) ≤ a))) then (a : Int32) else 0) b c d S) (g0 h1089 h1091 h1094)) (zt_cast (zr_18_1 i197_30 (fun h1096 => zr_2_0 i197_31 (zr_1_1 i197_32 (zr_cv (zs_21_1 i197_33 na_200 ob_0 rfl) (f200 a (G102 (if ((¬ (a < 0)) ∧ (¬ ((S 5 0) ≤ a))) then (a : Int32) else 0) b c d S) (g0 h1089 h1091 h1094) (znv (w_G102_5_0 _ _ _ _ _) (g1)) (fun h1098 => (g2 h1089 h1091 h1094 h1096 h1098)) (znv (w_G102_6_0 _ _ _ _ _) (g3)) (zpc1 (w_G102_41 _ _ _ _ _) (g4)) (zpc1 (w_G102_43 _ _ _ _ _) (g5))) (zr_16 i197_34 (zt_rfl))))) (fun h1097 => zt_rfl)) (zm_c zz_s zz_s zz_e)))))) (fun h1095 => zt_rfl)) (zm_c zz_s zz_s zz_e)) (zr_1_4 i197_35 (zr_25 i197_36)))))))))))))))))) (zm_r zz_s zz_e))))) (zm_r zz_s zz_e))))
set_option maxRecDepth 100000 in
theorem w_G196_32 (a b c d : Int32) (S : zS) : G196 a b c d S 32 = S 32 := (show (if ((S 1 6) = 0) then S else (if ((F101 S) = 0) then (if (((¬ (a < 0)) ∧ (¬ ((S 5 0) ≤ a))) ∧ (((S 40 a.toNatClampNeg) = 0) ∧ (((zshr (S 38 a.toNatClampNeg) b) &&& 1) = 1))) then (if (((if ((S 37 a.toNatClampNeg) ≤ 0) then S else (z_up S 37 a.toNatClampNeg ((S 37 a.toNatClampNeg) - 1))) 19 (c / 36).toNatClampNeg) < ((if ((S 37 a.toNatClampNeg) ≤ 0) then S else (z_up S 37 a.toNatClampNeg ((S 37 a.toNatClampNeg) - 1))) 18 (c / 36).toNatClampNeg)) then (z_up (if ((S 37 a.toNatClampNeg) ≤ 0) then S else (z_up S 37 a.toNatClampNeg ((S 37 a.toNatClampNeg) - 1))) 19 (c / 36).toNatClampNeg (((if ((S 37 a.toNatClampNeg) ≤ 0) then S else (z_up S 37 a.toNatClampNeg ((S 37 a.toNatClampNeg) - 1))) 19 (c / 36).toNatClampNeg) + 1)) else (if ((S 37 a.toNatClampNeg) ≤ 0) then S else (z_up S 37 a.toNatClampNeg ((S 37 a.toNatClampNeg) - 1)))) else S) else S)) 32 = S 32 from (zite_k rfl (zite_k (zite_k (zite_k ((zupc rfl).trans (zite_k rfl (zupc rfl))) (zite_k rfl (zupc rfl))) rfl) rfl)))
set_option maxRecDepth 100000 in
theorem w_G196_10_4 (a b c d : Int32) (S : zS) : G196 a b c d S 10 4 = S 10 4 := (show (if ((S 1 6) = 0) then S else (if ((F101 S) = 0) then (if (((¬ (a < 0)) ∧ (¬ ((S 5 0) ≤ a))) ∧ (((S 40 a.toNatClampNeg) = 0) ∧ (((zshr (S 38 a.toNatClampNeg) b) &&& 1) = 1))) then (if (((if ((S 37 a.toNatClampNeg) ≤ 0) then S else (z_up S 37 a.toNatClampNeg ((S 37 a.toNatClampNeg) - 1))) 19 (c / 36).toNatClampNeg) < ((if ((S 37 a.toNatClampNeg) ≤ 0) then S else (z_up S 37 a.toNatClampNeg ((S 37 a.toNatClampNeg) - 1))) 18 (c / 36).toNatClampNeg)) then (z_up (if ((S 37 a.toNatClampNeg) ≤ 0) then S else (z_up S 37 a.toNatClampNeg ((S 37 a.toNatClampNeg) - 1))) 19 (c / 36).toNatClampNeg (((if ((S 37 a.toNatClampNeg) ≤ 0) then S else (z_up S 37 a.toNatClampNeg ((S 37 a.toNatClampNeg) - 1))) 19 (c / 36).toNatClampNeg) + 1)) else (if ((S 37 a.toNatClampNeg) ≤ 0) then S else (z_up S 37 a.toNatClampNeg ((S 37 a.toNatClampNeg) - 1)))) else S) else S)) 10 4 = S 10 4 from (zite_rd rfl (zite_rd (zite_rd (zite_rd ((zupci rfl).trans (zite_rd rfl (zupci rfl))) (zite_rd rfl (zupci rfl))) rfl) rfl)))
set_option maxRecDepth 100000 in
theorem w_G32_5_0 (a b c d : Int32) (S : zS) : G32 a b c d S 5 0 = S 5 0 := (show (if ((S 10 4) < 20) then (z_up (z_up (z_up (z_up (z_up S 66 (S 10 4).toNatClampNeg a) 67 (S 10 4).toNatClampNeg b) 68 (S 10 4).toNatClampNeg c) 69 (S 10 4).toNatClampNeg d) 10 4 ((S 10 4) + 1)) else S) 5 0 = S 5 0 from (zite_rd ((zupci rfl).trans ((zupci rfl).trans ((zupci rfl).trans ((zupci rfl).trans (zupci rfl))))) rfl))
set_option maxRecDepth 100000 in
theorem w_G202_5_0 (a b c : Int32) (S : zS) : G202 a b c S 5 0 = S 5 0 := (show (if ((if ((S 16 (b / 36).toNatClampNeg) = 0) then ((F110 b c (S 2 3) S) : Int32) else (-13)) < 0) then S else (if (((F64 (S 33 a.toNatClampNeg) (S 32 a.toNatClampNeg) b S) / 16) = 0) then S else (G32 a b c ((F64 (S 33 a.toNatClampNeg) (S 32 a.toNatClampNeg) b S) / 16) S))) 5 0 = S 5 0 from (zite_rd rfl (zite_rd rfl (w_G32_5_0 _ _ _ _ _))))
set_option maxRecDepth 100000 in
theorem w_G196_5_0 (a b c d : Int32) (S : zS) : G196 a b c d S 5 0 = S 5 0 := (show (if ((S 1 6) = 0) then S else (if ((F101 S) = 0) then (if (((¬ (a < 0)) ∧ (¬ ((S 5 0) ≤ a))) ∧ (((S 40 a.toNatClampNeg) = 0) ∧ (((zshr (S 38 a.toNatClampNeg) b) &&& 1) = 1))) then (if (((if ((S 37 a.toNatClampNeg) ≤ 0) then S else (z_up S 37 a.toNatClampNeg ((S 37 a.toNatClampNeg) - 1))) 19 (c / 36).toNatClampNeg) < ((if ((S 37 a.toNatClampNeg) ≤ 0) then S else (z_up S 37 a.toNatClampNeg ((S 37 a.toNatClampNeg) - 1))) 18 (c / 36).toNatClampNeg)) then (z_up (if ((S 37 a.toNatClampNeg) ≤ 0) then S else (z_up S 37 a.toNatClampNeg ((S 37 a.toNatClampNeg) - 1))) 19 (c / 36).toNatClampNeg (((if ((S 37 a.toNatClampNeg) ≤ 0) then S else (z_up S 37 a.toNatClampNeg ((S 37 a.toNatClampNeg) - 1))) 19 (c / 36).toNatClampNeg) + 1)) else (if ((S 37 a.toNatClampNeg) ≤ 0) then S else (z_up S 37 a.toNatClampNeg ((S 37 a.toNatClampNeg) - 1)))) else S) else S)) 5 0 = S 5 0 from (zite_rd rfl (zite_rd (zite_rd (zite_rd ((zupci rfl).trans (zite_rd rfl (zupci rfl))) (zite_rd rfl (zupci rfl))) rfl) rfl)))
set_option maxRecDepth 100000 in
theorem w_G32_6_0 (a b c d : Int32) (S : zS) : G32 a b c d S 6 0 = S 6 0 := (show (if ((S 10 4) < 20) then (z_up (z_up (z_up (z_up (z_up S 66 (S 10 4).toNatClampNeg a) 67 (S 10 4).toNatClampNeg b) 68 (S 10 4).toNatClampNeg c) 69 (S 10 4).toNatClampNeg d) 10 4 ((S 10 4) + 1)) else S) 6 0 = S 6 0 from (zite_rd ((zupci rfl).trans ((zupci rfl).trans ((zupci rfl).trans ((zupci rfl).trans (zupci rfl))))) rfl))
set_option maxRecDepth 100000 in
theorem w_G202_6_0 (a b c : Int32) (S : zS) : G202 a b c S 6 0 = S 6 0 := (show (if ((if ((S 16 (b / 36).toNatClampNeg) = 0) then ((F110 b c (S 2 3) S) : Int32) else (-13)) < 0) then S else (if (((F64 (S 33 a.toNatClampNeg) (S 32 a.toNatClampNeg) b S) / 16) = 0) then S else (G32 a b c ((F64 (S 33 a.toNatClampNeg) (S 32 a.toNatClampNeg) b S) / 16) S))) 6 0 = S 6 0 from (zite_rd rfl (zite_rd rfl (w_G32_6_0 _ _ _ _ _))))
set_option maxRecDepth 100000 in
theorem w_G196_6_0 (a b c d : Int32) (S : zS) : G196 a b c d S 6 0 = S 6 0 := (show (if ((S 1 6) = 0) then S else (if ((F101 S) = 0) then (if (((¬ (a < 0)) ∧ (¬ ((S 5 0) ≤ a))) ∧ (((S 40 a.toNatClampNeg) = 0) ∧ (((zshr (S 38 a.toNatClampNeg) b) &&& 1) = 1))) then (if (((if ((S 37 a.toNatClampNeg) ≤ 0) then S else (z_up S 37 a.toNatClampNeg ((S 37 a.toNatClampNeg) - 1))) 19 (c / 36).toNatClampNeg) < ((if ((S 37 a.toNatClampNeg) ≤ 0) then S else (z_up S 37 a.toNatClampNeg ((S 37 a.toNatClampNeg) - 1))) 18 (c / 36).toNatClampNeg)) then (z_up (if ((S 37 a.toNatClampNeg) ≤ 0) then S else (z_up S 37 a.toNatClampNeg ((S 37 a.toNatClampNeg) - 1))) 19 (c / 36).toNatClampNeg (((if ((S 37 a.toNatClampNeg) ≤ 0) then S else (z_up S 37 a.toNatClampNeg ((S 37 a.toNatClampNeg) - 1))) 19 (c / 36).toNatClampNeg) + 1)) else (if ((S 37 a.toNatClampNeg) ≤ 0) then S else (z_up S 37 a.toNatClampNeg ((S 37 a.toNatClampNeg) - 1)))) else S) else S)) 6 0 = S 6 0 from (zite_rd rfl (zite_rd (zite_rd (zite_rd ((zupci rfl).trans (zite_rd rfl (zupci rfl))) (zite_rd rfl (zupci rfl))) rfl) rfl)))
set_option maxRecDepth 100000 in
theorem w_G32_41 (a b c d : Int32) (S : zS) : G32 a b c d S 41 = S 41 := (show (if ((S 10 4) < 20) then (z_up (z_up (z_up (z_up (z_up S 66 (S 10 4).toNatClampNeg a) 67 (S 10 4).toNatClampNeg b) 68 (S 10 4).toNatClampNeg c) 69 (S 10 4).toNatClampNeg d) 10 4 ((S 10 4) + 1)) else S) 41 = S 41 from (zite_k ((zupc rfl).trans ((zupc rfl).trans ((zupc rfl).trans ((zupc rfl).trans (zupc rfl))))) rfl))
set_option maxRecDepth 100000 in
theorem w_G202_41 (a b c : Int32) (S : zS) : G202 a b c S 41 = S 41 := (show (if ((if ((S 16 (b / 36).toNatClampNeg) = 0) then ((F110 b c (S 2 3) S) : Int32) else (-13)) < 0) then S else (if (((F64 (S 33 a.toNatClampNeg) (S 32 a.toNatClampNeg) b S) / 16) = 0) then S else (G32 a b c ((F64 (S 33 a.toNatClampNeg) (S 32 a.toNatClampNeg) b S) / 16) S))) 41 = S 41 from (zite_k rfl (zite_k rfl (w_G32_41 _ _ _ _ _))))
set_option maxRecDepth 100000 in
theorem w_G196_41 (a b c d : Int32) (S : zS) : G196 a b c d S 41 = S 41 := (show (if ((S 1 6) = 0) then S else (if ((F101 S) = 0) then (if (((¬ (a < 0)) ∧ (¬ ((S 5 0) ≤ a))) ∧ (((S 40 a.toNatClampNeg) = 0) ∧ (((zshr (S 38 a.toNatClampNeg) b) &&& 1) = 1))) then (if (((if ((S 37 a.toNatClampNeg) ≤ 0) then S else (z_up S 37 a.toNatClampNeg ((S 37 a.toNatClampNeg) - 1))) 19 (c / 36).toNatClampNeg) < ((if ((S 37 a.toNatClampNeg) ≤ 0) then S else (z_up S 37 a.toNatClampNeg ((S 37 a.toNatClampNeg) - 1))) 18 (c / 36).toNatClampNeg)) then (z_up (if ((S 37 a.toNatClampNeg) ≤ 0) then S else (z_up S 37 a.toNatClampNeg ((S 37 a.toNatClampNeg) - 1))) 19 (c / 36).toNatClampNeg (((if ((S 37 a.toNatClampNeg) ≤ 0) then S else (z_up S 37 a.toNatClampNeg ((S 37 a.toNatClampNeg) - 1))) 19 (c / 36).toNatClampNeg) + 1)) else (if ((S 37 a.toNatClampNeg) ≤ 0) then S else (z_up S 37 a.toNatClampNeg ((S 37 a.toNatClampNeg) - 1)))) else S) else S)) 41 = S 41 from (zite_k rfl (zite_k (zite_k (zite_k ((zupc rfl).trans (zite_k rfl (zupc rfl))) (zite_k rfl (zupc rfl))) rfl) rfl)))
set_option maxRecDepth 100000 in
theorem w_G32_43 (a b c d : Int32) (S : zS) : G32 a b c d S 43 = S 43 := (show (if ((S 10 4) < 20) then (z_up (z_up (z_up (z_up (z_up S 66 (S 10 4).toNatClampNeg a) 67 (S 10 4).toNatClampNeg b) 68 (S 10 4).toNatClampNeg c) 69 (S 10 4).toNatClampNeg d) 10 4 ((S 10 4) + 1)) else S) 43 = S 43 from (zite_k ((zupc rfl).trans ((zupc rfl).trans ((zupc rfl).trans ((zupc rfl).trans (zupc rfl))))) rfl))
set_option maxRecDepth 100000 in
theorem w_G202_43 (a b c : Int32) (S : zS) : G202 a b c S 43 = S 43 := (show (if ((if ((S 16 (b / 36).toNatClampNeg) = 0) then ((F110 b c (S 2 3) S) : Int32) else (-13)) < 0) then S else (if (((F64 (S 33 a.toNatClampNeg) (S 32 a.toNatClampNeg) b S) / 16) = 0) then S else (G32 a b c ((F64 (S 33 a.toNatClampNeg) (S 32 a.toNatClampNeg) b S) / 16) S))) 43 = S 43 from (zite_k rfl (zite_k rfl (w_G32_43 _ _ _ _ _))))
set_option maxRecDepth 100000 in
theorem w_G196_43 (a b c d : Int32) (S : zS) : G196 a b c d S 43 = S 43 := (show (if ((S 1 6) = 0) then S else (if ((F101 S) = 0) then (if (((¬ (a < 0)) ∧ (¬ ((S 5 0) ≤ a))) ∧ (((S 40 a.toNatClampNeg) = 0) ∧ (((zshr (S 38 a.toNatClampNeg) b) &&& 1) = 1))) then (if (((if ((S 37 a.toNatClampNeg) ≤ 0) then S else (z_up S 37 a.toNatClampNeg ((S 37 a.toNatClampNeg) - 1))) 19 (c / 36).toNatClampNeg) < ((if ((S 37 a.toNatClampNeg) ≤ 0) then S else (z_up S 37 a.toNatClampNeg ((S 37 a.toNatClampNeg) - 1))) 18 (c / 36).toNatClampNeg)) then (z_up (if ((S 37 a.toNatClampNeg) ≤ 0) then S else (z_up S 37 a.toNatClampNeg ((S 37 a.toNatClampNeg) - 1))) 19 (c / 36).toNatClampNeg (((if ((S 37 a.toNatClampNeg) ≤ 0) then S else (z_up S 37 a.toNatClampNeg ((S 37 a.toNatClampNeg) - 1))) 19 (c / 36).toNatClampNeg) + 1)) else (if ((S 37 a.toNatClampNeg) ≤ 0) then S else (z_up S 37 a.toNatClampNeg ((S 37 a.toNatClampNeg) - 1)))) else S) else S)) 43 = S 43 from (zite_k rfl (zite_k (zite_k (zite_k ((zupc rfl).trans (zite_k rfl (zupc rfl))) (zite_k rfl (zupc rfl))) rfl) rfl)))
set_option maxRecDepth 100000 in
theorem f158 {L : Nat} (a b c d : Int32) (S : zS) (g0 : zo (S 1 6)) (g1 : zo (((0 ||| (S 77 0)) ||| (S 77 1)) ||| (S 77 2))) (g2 : (((¬ (b < 0)) ∧ (¬ (4 ≤ b))) ∧ (((¬ (c < 0)) ∧ (¬ (216 ≤ c))) ∧ ((¬ (d < 0)) ∧ (¬ (9999 < d))))) → (¬ ((S 1 6) = 0)) → ((F101 S) = 0) → ((¬ (a < 0)) ∧ (¬ ((S 5 0) ≤ a))) → zx 40 a) (g3 : (((¬ (b < 0)) ∧ (¬ (4 ≤ b))) ∧ (((¬ (c < 0)) ∧ (¬ (216 ≤ c))) ∧ ((¬ (d < 0)) ∧ (¬ (9999 < d))))) → (¬ ((S 1 6) = 0)) → ((F101 S) = 0) → (((¬ (a < 0)) ∧ (¬ ((S 5 0) ≤ a))) ∧ (((S 40 a.toNatClampNeg) = 0) ∧ (((zshr (S 38 a.toNatClampNeg) b) &&& 1) = 1))) → zx 40 a) (g4 : (((¬ (b < 0)) ∧ (¬ (4 ≤ b))) ∧ (((¬ (c < 0)) ∧ (¬ (216 ≤ c))) ∧ ((¬ (d < 0)) ∧ (¬ (9999 < d))))) → (¬ ((S 1 6) = 0)) → ((F101 S) = 0) → (((¬ (a < 0)) ∧ (¬ ((S 5 0) ≤ a))) ∧ (((S 40 a.toNatClampNeg) = 0) ∧ (((zshr (S 38 a.toNatClampNeg) b) &&& 1) = 1))) → zx 6 (c / 36)) (g5 : (((¬ (b < 0)) ∧ (¬ (4 ≤ b))) ∧ (((¬ (c < 0)) ∧ (¬ (216 ≤ c))) ∧ ((¬ (d < 0)) ∧ (¬ (9999 < d))))) → (¬ ((S 1 6) = 0)) → ((F101 S) = 0) → (((¬ (a < 0)) ∧ (¬ ((S 5 0) ≤ a))) ∧ (((S 40 a.toNatClampNeg) = 0) ∧ (((zshr (S 38 a.toNatClampNeg) b) &&& 1) = 1))) → (((if ((S 37 a.toNatClampNeg) ≤ 0) then S else (z_up S 37 a.toNatClampNeg ((S 37 a.toNatClampNeg) - 1))) 19 (c / 36).toNatClampNeg) < ((if ((S 37 a.toNatClampNeg) ≤ 0) then S else (z_up S 37 a.toNatClampNeg ((S 37 a.toNatClampNeg) - 1))) 18 (c / 36).toNatClampNeg)) → (¬ (((if (((if ((S 37 a.toNatClampNeg) ≤ 0) then S else (z_up S 37 a.toNatClampNeg ((S 37 a.toNatClampNeg) - 1))) 19 (c / 36).toNatClampNeg) < ((if ((S 37 a.toNatClampNeg) ≤ 0) then S else (z_up S 37 a.toNatClampNeg ((S 37 a.toNatClampNeg) - 1))) 18 (c / 36).toNatClampNeg)) then (z_up (if ((S 37 a.toNatClampNeg) ≤ 0) then S else (z_up S 37 a.toNatClampNeg ((S 37 a.toNatClampNeg) - 1))) 19 (c / 36).toNatClampNeg (((if ((S 37 a.toNatClampNeg) ≤ 0) then S else (z_up S 37 a.toNatClampNeg ((S 37 a.toNatClampNeg) - 1))) 19 (c / 36).toNatClampNeg) + 1)) else (if ((S 37 a.toNatClampNeg) ≤ 0) then S else (z_up S 37 a.toNatClampNeg ((S 37 a.toNatClampNeg) - 1)))) 32 a.toNatClampNeg) < 0)) → (((if (((if ((S 37 a.toNatClampNeg) ≤ 0) then S else (z_up S 37 a.toNatClampNeg ((S 37 a.toNatClampNeg) - 1))) 19 (c / 36).toNatClampNeg) < ((if ((S 37 a.toNatClampNeg) ≤ 0) then S else (z_up S 37 a.toNatClampNeg ((S 37 a.toNatClampNeg) - 1))) 18 (c / 36).toNatClampNeg)) then (z_up (if ((S 37 a.toNatClampNeg) ≤ 0) then S else (z_up S 37 a.toNatClampNeg ((S 37 a.toNatClampNeg) - 1))) 19 (c / 36).toNatClampNeg (((if ((S 37 a.toNatClampNeg) ≤ 0) then S else (z_up S 37 a.toNatClampNeg ((S 37 a.toNatClampNeg) - 1))) 19 (c / 36).toNatClampNeg) + 1)) else (if ((S 37 a.toNatClampNeg) ≤ 0) then S else (z_up S 37 a.toNatClampNeg ((S 37 a.toNatClampNeg) - 1)))) 32 a.toNatClampNeg) < 8) → zx 8 (S 32 a.toNatClampNeg)) (g6 : (((¬ (b < 0)) ∧ (¬ (4 ≤ b))) ∧ (((¬ (c < 0)) ∧ (¬ (216 ≤ c))) ∧ ((¬ (d < 0)) ∧ (¬ (9999 < d))))) → ((F196 a b c 1 S) = 0) → zx 6 (c / 36)) (g7 : (((¬ (b < 0)) ∧ (¬ (4 ≤ b))) ∧ (((¬ (c < 0)) ∧ (¬ (216 ≤ c))) ∧ ((¬ (d < 0)) ∧ (¬ (9999 < d))))) → ((F196 a b c 1 S) = 0) → (((G196 a b c 1 S) 16 (c / 36).toNatClampNeg) = 0) → zx 216 c) (g8 : (((¬ (b < 0)) ∧ (¬ (4 ≤ b))) ∧ (((¬ (c < 0)) ∧ (¬ (216 ≤ c))) ∧ ((¬ (d < 0)) ∧ (¬ (9999 < d))))) → ((F196 a b c 1 S) = 0) → (((G196 a b c 1 S) 16 (c / 36).toNatClampNeg) = 0) → (¬ ((F107 c d (G196 a b c 1 S)) = (-1))) → zx 864 (F107 c d (G196 a b c 1 S))) (g9 : (((¬ (b < 0)) ∧ (¬ (4 ≤ b))) ∧ (((¬ (c < 0)) ∧ (¬ (216 ≤ c))) ∧ ((¬ (d < 0)) ∧ (¬ (9999 < d))))) → ((F196 a b c 1 S) = 0) → zx 40 a) (g10 : (((¬ (b < 0)) ∧ (¬ (4 ≤ b))) ∧ (((¬ (c < 0)) ∧ (¬ (216 ≤ c))) ∧ ((¬ (d < 0)) ∧ (¬ (9999 < d))))) → ((F196 a b c 1 S) = 0) → (¬ (((G196 a b c 1 S) 32 a.toNatClampNeg) < 0)) → (((G196 a b c 1 S) 32 a.toNatClampNeg) < 8) → zx 8 (S 32 a.toNatClampNeg)) (g11 : (((¬ (b < 0)) ∧ (¬ (4 ≤ b))) ∧ (((¬ (c < 0)) ∧ (¬ (216 ≤ c))) ∧ ((¬ (d < 0)) ∧ (¬ (9999 < d))))) → ((F196 a b c 1 S) = 0) → (¬ ((if (((G196 a b c 1 S) 16 (c / 36).toNatClampNeg) = 0) then ((F110 c d ((G196 a b c 1 S) 2 3) (G196 a b c 1 S)) : Int32) else (-13)) < 0)) → (¬ (((F64 ((G196 a b c 1 S) 33 a.toNatClampNeg) ((G196 a b c 1 S) 32 a.toNatClampNeg) c (G196 a b c 1 S)) / 16) = 0)) → (((G196 a b c 1 S) 10 4) < 20) → zx 20 (S 10 4)) (g12 : (((¬ (b < 0)) ∧ (¬ (4 ≤ b))) ∧ (((¬ (c < 0)) ∧ (¬ (216 ≤ c))) ∧ ((¬ (d < 0)) ∧ (¬ (9999 < d))))) → (¬ ((if ((F196 a b c 1 S) = 0) then ((F202 a c d (G196 a b c 1 S)) : Int32) else (F196 a b c 1 S)) = (-2))) → (¬ ((if ((F196 a b c 1 S) = 0) then ((F202 a c d (G196 a b c 1 S)) : Int32) else (F196 a b c 1 S)) = (-3))) → ((¬ (a < 0)) ∧ (¬ (((if ((F196 a b c 1 S) = 0) then (G202 a c d (G196 a b c 1 S)) else (G196 a b c 1 S)) 5 0) ≤ a))) → zx 40 a) (g13 : zn 40 (S 5 0)) (g14 : (((¬ (b < 0)) ∧ (¬ (4 ≤ b))) ∧ (((¬ (c < 0)) ∧ (¬ (216 ≤ c))) ∧ ((¬ (d < 0)) ∧ (¬ (9999 < d))))) → (¬ ((if ((F196 a b c 1 S) = 0) then ((F202 a c d (G196 a b c 1 S)) : Int32) else (F196 a b c 1 S)) = (-2))) → (¬ ((if ((F196 a b c 1 S) = 0) then ((F202 a c d (G196 a b c 1 S)) : Int32) else (F196 a b c 1 S)) = (-3))) → ((¬ (a < 0)) ∧ (¬ (((if ((F196 a b c 1 S) = 0) then (G202 a c d (G196 a b c 1 S)) else (G196 a b c 1 S)) 5 0) ≤ a))) → (((G102 (if ((¬ (a < 0)) ∧ (¬ (((if ((F196 a b c 1 S) = 0) then (G202 a c d (G196 a b c 1 S)) else (G196 a b c 1 S)) 5 0) ≤ a))) then (a : Int32) else 0) c 1 (if ((F196 a b c 1 S) = 0) then ((F202 a c d (G196 a b c 1 S)) : Int32) else (F196 a b c 1 S)) (if ((F196 a b c 1 S) = 0) then (G202 a c d (G196 a b c 1 S)) else (G196 a b c 1 S))) 37 a.toNatClampNeg) = 0) → (((G102 (if ((¬ (a < 0)) ∧ (¬ (((if ((F196 a b c 1 S) = 0) then (G202 a c d (G196 a b c 1 S)) else (G196 a b c 1 S)) 5 0) ≤ a))) then (a : Int32) else 0) c 1 (if ((F196 a b c 1 S) = 0) then ((F202 a c d (G196 a b c 1 S)) : Int32) else (F196 a b c 1 S)) (if ((F196 a b c 1 S) = 0) then (G202 a c d (G196 a b c 1 S)) else (G196 a b c 1 S))) 40 a.toNatClampNeg) = 0) → zn 10000 (a + 1)) (g15 : zn 40 (S 6 0)) (g16 : zA 40 40 (S 41)) (g17 : zA 40 3 (S 43)) : zf L 158 [.inr (.inr 0), .inl a, .inl b, .inl c, .inl d] S (if (((¬ (b < 0)) ∧ (¬ (4 ≤ b))) ∧ (((¬ (c < 0)) ∧ (¬ (216 ≤ c))) ∧ ((¬ (d < 0)) ∧ (¬ (9999 < d))))) then (.inl (some (.inl (if ((F196 a b c 1 S) = 0) then ((F202 a c d (G196 a b c 1 S)) : Int32) else (F196 a b c 1 S)))), (G197 a c 1 (if ((F196 a b c 1 S) = 0) then ((F202 a c d (G196 a b c 1 S)) : Int32) else (F196 a b c 1 S)) (if ((F196 a b c 1 S) = 0) then (G202 a c d (G196 a b c 1 S)) else (G196 a b c 1 S))), 0) else (.inr 1, S, 1)) := zf_of (en_158 _ _ _ _ _) (zr_1_2 i158_0 (zr_cv (zs_22_1 i158_1 na_192 rfl) (f192 b S ) (zt_trans (zt_cast (zr_18b_0 i158_2 (fun h1099 => zr_1_3 i158_3 (zr_cv (zs_22_1 i158_4 na_191 rfl) (f191 c S ) (zt_cast (zr_18b_0 i158_5 (fun h1101 => zr_1_4 i158_6 (zr_cv (zs_22_1 i158_7 na_193 rfl) (f193 d S ) (zt_cast (zr_18b_0 i158_8 (fun h1103 => zr_0 i158_9 kc_1 (zr_17 i158_10 (zt_rfl))) (fun h1104 => zr_0 i158_11 kc_0 (zt_rfl))) (zm_c zz_s (zl_c (zl_t zz_10) zz_s) zz_s)))) (fun h1102 => zr_0 i158_11 kc_0 (zt_rfl))) (zm_c zz_s (zl_c (zl_t zz_b0) zz_s) zz_s)))) (fun h1100 => zr_0 i158_11 kc_0 (zt_rfl))) (zm_c zz_s (zl_c (zl_t zz_b0) zz_s) zz_s)) (zt_cast (zr_dem (E := 1) (zs_22_1 i158_12 na_186 rfl) f186 th_158 (fun h1105 => zr_2_0 i158_13 (zr_1_1 i158_14 (zr_1_2 i158_15 (zr_1_3 i158_16 (zr_0 i158_17 kc_1 (zr_cv (zs_21_4 i158_18 na_196 ob_0 rfl) (f196 a b c 1 S (g0) (g1) (fun h1106 h1107 h1108 => (g2 h1105 h1106 h1107 h1108)) (fun h1109 h1110 h1111 => (g3 h1105 h1109 h1110 h1111)) (fun h1112 h1113 h1114 => (g4 h1105 h1112 h1113 h1114)) (fun h1115 h1116 h1117 h1118 h1119 h1120 => (g5 h1105 h1115 h1116 h1117 h1118 h1119 h1120))) (zr_3_5 i158_19 (zr_1_5 i158_20 (zt_trans (zt_cast (zr_18_1 i158_21 (fun h1121 => zr_2_0 i158_22 (zr_1_1 i158_23 (zr_1_3 i158_24 (zr_1_4 i158_25 (zr_cv (zs_21_3 i158_26 na_202 ob_0 rfl) (f202 a c d (G196 a b c 1 S) (g6 h1105 h1121) (fun h1123 => (g7 h1105 h1121 h1123)) (fun h1124 h1125 => (g8 h1105 h1121 h1124 h1125)) (g9 h1105 h1121) (fun h1126 h1127 => (zxc (w_G196_32 _ _ _ _ _) (g10 h1105 h1121 h1126 h1127))) (fun h1128 h1129 h1130 => (zxv (w_G196_10_4 _ _ _ _ _) (g11 h1105 h1121 h1128 h1129 h1130)))) (zr_17 i158_27 (zt_rfl))))))) (fun h1122 => zr_1_5 i158_28 (zt_rfl))) (zm_c zz_s (zl_c (zl_t zz_e) zz_s) zz_e)) (zr_3_6 i158_29 (zr_2_0 i158_30 (zr_1_1 i158_31 (zr_1_3 i158_32 (zr_0 i158_33 kc_1 (zr_1_6 i158_34 (zr_cv (zs_21_4 i158_35 na_197 ob_0 rfl) (f197 a c 1 (if ((F196 a b c 1 S) = 0) then ((F202 a c d (G196 a b c 1 S)) : Int32) else (F196 a b c 1 S)) (if ((F196 a b c 1 S) = 0) then (G202 a c d (G196 a b c 1 S)) else (G196 a b c 1 S)) (fun h1131 h1132 h1133 => (g12 h1105 h1131 h1132 h1133)) (znv (zite_rd ((w_G202_5_0 _ _ _ _).trans (w_G196_5_0 _ _ _ _ _)) (w_G196_5_0 _ _ _ _ _)) (g13)) (fun h1134 h1135 h1136 h1137 h1138 => (g14 h1105 h1134 h1135 h1136 h1137 h1138)) (znv (zite_rd ((w_G202_6_0 _ _ _ _).trans (w_G196_6_0 _ _ _ _ _)) (w_G196_6_0 _ _ _ _ _)) (g15)) (zpc1 (zite_k ((w_G202_41 _ _ _ _).trans (w_G196_41 _ _ _ _ _)) (w_G196_41 _ _ _ _ _)) (g16)) (zpc1 (zite_k ((w_G202_43 _ _ _ _).trans (w_G196_43 _ _ _ _ _)) (w_G196_43 _ _ _ _ _)) (g17))) (zr_25 i158_36)))))))))))))))))) zm_o))))
